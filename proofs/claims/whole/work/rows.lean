section
-- ===== PART A: goes FIRST, ahead of the names: the tables' words, and 'selects' of the private methods out of them =====
/-- a private method of a class that the tables say can be made, by its rows of tables_1 -/
def lw_okq (q : MethodName × Nat) : Prop := (q.1.cls ≠ "java/lang/invoke/MethodHandle" ∧ q.1.cls ≠ "java/lang/invoke/VarHandle") ∧ Cond.instantiable q.1.cls q.2 ∈ tables_1 ∧ Cond.privateMethod q.1 ∈ tables_1 ∧ Cond.instanceMethod q.1 ∈ tables_1
theorem lw_p0 : lw_okq (⟨"DropFour", "isColumn", "(I)Z"⟩, 7) := ⟨⟨by decide +kernel, by decide +kernel⟩, List.mem_of_getElem? (i := 16) (by decide +kernel), List.mem_of_getElem? (i := 168) (by decide +kernel), List.mem_of_getElem? (i := 169) (by decide +kernel)⟩
theorem lw_p1 : lw_okq (⟨"java/lang/Throwable", "fillInStackTrace", "(I)Ljava/lang/Throwable;"⟩, 6) := ⟨⟨by decide +kernel, by decide +kernel⟩, List.mem_of_getElem? (i := 210) (by decide +kernel), List.mem_of_getElem? (i := 208) (by decide +kernel), List.mem_of_getElem? (i := 209) (by decide +kernel)⟩
theorem lw_p2 : lw_okq (⟨"DropFour", "isOver", "()Z"⟩, 7) := ⟨⟨by decide +kernel, by decide +kernel⟩, List.mem_of_getElem? (i := 16) (by decide +kernel), List.mem_of_getElem? (i := 240) (by decide +kernel), List.mem_of_getElem? (i := 241) (by decide +kernel)⟩
theorem lw_p3 : lw_okq (⟨"DropFour", "isFull", "(I)Z"⟩, 7) := ⟨⟨by decide +kernel, by decide +kernel⟩, List.mem_of_getElem? (i := 16) (by decide +kernel), List.mem_of_getElem? (i := 245) (by decide +kernel), List.mem_of_getElem? (i := 246) (by decide +kernel)⟩
theorem lw_p4 : lw_okq (⟨"DropFour", "taken", "()J"⟩, 7) := ⟨⟨by decide +kernel, by decide +kernel⟩, List.mem_of_getElem? (i := 16) (by decide +kernel), List.mem_of_getElem? (i := 331) (by decide +kernel), List.mem_of_getElem? (i := 332) (by decide +kernel)⟩
theorem lw_p5 : lw_okq (⟨"DropFour", "canBeValued", "()Z"⟩, 7) := ⟨⟨by decide +kernel, by decide +kernel⟩, List.mem_of_getElem? (i := 16) (by decide +kernel), List.mem_of_getElem? (i := 351) (by decide +kernel), List.mem_of_getElem? (i := 352) (by decide +kernel)⟩
theorem lw_p6 : lw_okq (⟨"DropFour", "mine", "()J"⟩, 7) := ⟨⟨by decide +kernel, by decide +kernel⟩, List.mem_of_getElem? (i := 16) (by decide +kernel), List.mem_of_getElem? (i := 356) (by decide +kernel), List.mem_of_getElem? (i := 357) (by decide +kernel)⟩
theorem lw_p7 : lw_okq (⟨"DropFour", "theirs", "()J"⟩, 7) := ⟨⟨by decide +kernel, by decide +kernel⟩, List.mem_of_getElem? (i := 16) (by decide +kernel), List.mem_of_getElem? (i := 360) (by decide +kernel), List.mem_of_getElem? (i := 361) (by decide +kernel)⟩
theorem lw_p8 : lw_okq (⟨"DropFour$Search", "score", "(JJIII)I"⟩, 3) := ⟨⟨by decide +kernel, by decide +kernel⟩, List.mem_of_getElem? (i := 71) (by decide +kernel), List.mem_of_getElem? (i := 364) (by decide +kernel), List.mem_of_getElem? (i := 365) (by decide +kernel)⟩
theorem lw_p9 : lw_okq (⟨"DropFour$Search", "remembered", "(JJJIII)I"⟩, 3) := ⟨⟨by decide +kernel, by decide +kernel⟩, List.mem_of_getElem? (i := 71) (by decide +kernel), List.mem_of_getElem? (i := 378) (by decide +kernel), List.mem_of_getElem? (i := 379) (by decide +kernel)⟩
theorem lw_p10 : lw_okq (⟨"DropFour$Search", "leastAtFirst", "(JI)I"⟩, 3) := ⟨⟨by decide +kernel, by decide +kernel⟩, List.mem_of_getElem? (i := 71) (by decide +kernel), List.mem_of_getElem? (i := 394) (by decide +kernel), List.mem_of_getElem? (i := 395) (by decide +kernel)⟩
theorem lw_p11 : lw_okq (⟨"DropFour$Search", "mostAtFirst", "(JI)I"⟩, 3) := ⟨⟨by decide +kernel, by decide +kernel⟩, List.mem_of_getElem? (i := 71) (by decide +kernel), List.mem_of_getElem? (i := 403) (by decide +kernel), List.mem_of_getElem? (i := 404) (by decide +kernel)⟩
theorem lw_p12 : lw_okq (⟨"DropFour$Search", "tried", "(JJJIII)I"⟩, 3) := ⟨⟨by decide +kernel, by decide +kernel⟩, List.mem_of_getElem? (i := 71) (by decide +kernel), List.mem_of_getElem? (i := 409) (by decide +kernel), List.mem_of_getElem? (i := 410) (by decide +kernel)⟩
theorem lw_p13 : lw_okq (⟨"DropFour", "inDrops", "(I)I"⟩, 7) := ⟨⟨by decide +kernel, by decide +kernel⟩, List.mem_of_getElem? (i := 16) (by decide +kernel), List.mem_of_getElem? (i := 418) (by decide +kernel), List.mem_of_getElem? (i := 419) (by decide +kernel)⟩
theorem lw_p14 : lw_okq (⟨"DropFour", "scoreAbove", "(II)I"⟩, 7) := ⟨⟨by decide +kernel, by decide +kernel⟩, List.mem_of_getElem? (i := 16) (by decide +kernel), List.mem_of_getElem? (i := 433) (by decide +kernel), List.mem_of_getElem? (i := 434) (by decide +kernel)⟩
theorem lw_p15 : lw_okq (⟨"DropFour", "canFollow", "()Z"⟩, 7) := ⟨⟨by decide +kernel, by decide +kernel⟩, List.mem_of_getElem? (i := 16) (by decide +kernel), List.mem_of_getElem? (i := 451) (by decide +kernel), List.mem_of_getElem? (i := 452) (by decide +kernel)⟩
def lw_privs_1 : List (MethodName × Nat) := [(⟨"DropFour", "isColumn", "(I)Z"⟩, 7), (⟨"java/lang/Throwable", "fillInStackTrace", "(I)Ljava/lang/Throwable;"⟩, 6), (⟨"DropFour", "isOver", "()Z"⟩, 7), (⟨"DropFour", "isFull", "(I)Z"⟩, 7), (⟨"DropFour", "taken", "()J"⟩, 7), (⟨"DropFour", "canBeValued", "()Z"⟩, 7), (⟨"DropFour", "mine", "()J"⟩, 7), (⟨"DropFour", "theirs", "()J"⟩, 7), (⟨"DropFour$Search", "score", "(JJIII)I"⟩, 3), (⟨"DropFour$Search", "remembered", "(JJJIII)I"⟩, 3), (⟨"DropFour$Search", "leastAtFirst", "(JI)I"⟩, 3), (⟨"DropFour$Search", "mostAtFirst", "(JI)I"⟩, 3), (⟨"DropFour$Search", "tried", "(JJJIII)I"⟩, 3), (⟨"DropFour", "inDrops", "(I)I"⟩, 7), (⟨"DropFour", "scoreAbove", "(II)I"⟩, 7), (⟨"DropFour", "canFollow", "()Z"⟩, 7)]
theorem lw_r1 : ∀ q ∈ lw_privs_1, lw_okq q := List.forall_mem_cons.mpr ⟨lw_p0, List.forall_mem_cons.mpr ⟨lw_p1, List.forall_mem_cons.mpr ⟨lw_p2, List.forall_mem_cons.mpr ⟨lw_p3, List.forall_mem_cons.mpr ⟨lw_p4, List.forall_mem_cons.mpr ⟨lw_p5, List.forall_mem_cons.mpr ⟨lw_p6, List.forall_mem_cons.mpr ⟨lw_p7, List.forall_mem_cons.mpr ⟨lw_p8, List.forall_mem_cons.mpr ⟨lw_p9, List.forall_mem_cons.mpr ⟨lw_p10, List.forall_mem_cons.mpr ⟨lw_p11, List.forall_mem_cons.mpr ⟨lw_p12, List.forall_mem_cons.mpr ⟨lw_p13, List.forall_mem_cons.mpr ⟨lw_p14, List.forall_mem_cons.mpr ⟨lw_p15, fun _ h => absurd h List.not_mem_nil⟩⟩⟩⟩⟩⟩⟩⟩⟩⟩⟩⟩⟩⟩⟩⟩
theorem lw_p16 : lw_okq (⟨"DropFour$Following", "comesFirst", "(JJJ)Z"⟩, 1) := ⟨⟨by decide +kernel, by decide +kernel⟩, List.mem_of_getElem? (i := 103) (by decide +kernel), List.mem_of_getElem? (i := 463) (by decide +kernel), List.mem_of_getElem? (i := 464) (by decide +kernel)⟩
theorem lw_p17 : lw_okq (⟨"DropFour$Following", "reached", "(JJ)J"⟩, 1) := ⟨⟨by decide +kernel, by decide +kernel⟩, List.mem_of_getElem? (i := 103) (by decide +kernel), List.mem_of_getElem? (i := 467) (by decide +kernel), List.mem_of_getElem? (i := 468) (by decide +kernel)⟩
theorem lw_p18 : lw_okq (⟨"DropFourModel", "winnerNow", "()I"⟩, 19) := ⟨⟨by decide +kernel, by decide +kernel⟩, List.mem_of_getElem? (i := 472) (by decide +kernel), List.mem_of_getElem? (i := 547) (by decide +kernel), List.mem_of_getElem? (i := 548) (by decide +kernel)⟩
theorem lw_p19 : lw_okq (⟨"DropFourModel", "wins", "([III)Z"⟩, 19) := ⟨⟨by decide +kernel, by decide +kernel⟩, List.mem_of_getElem? (i := 472) (by decide +kernel), List.mem_of_getElem? (i := 551) (by decide +kernel), List.mem_of_getElem? (i := 552) (by decide +kernel)⟩
theorem lw_p20 : lw_okq (⟨"DropFourModel", "along", "([IIIII)I"⟩, 19) := ⟨⟨by decide +kernel, by decide +kernel⟩, List.mem_of_getElem? (i := 472) (by decide +kernel), List.mem_of_getElem? (i := 555) (by decide +kernel), List.mem_of_getElem? (i := 556) (by decide +kernel)⟩
theorem lw_p21 : lw_okq (⟨"DropFourModel", "isSquare", "(II)Z"⟩, 19) := ⟨⟨by decide +kernel, by decide +kernel⟩, List.mem_of_getElem? (i := 472) (by decide +kernel), List.mem_of_getElem? (i := 559) (by decide +kernel), List.mem_of_getElem? (i := 560) (by decide +kernel)⟩
theorem lw_p22 : lw_okq (⟨"DropFourModel", "refused", "(ZZ)Z"⟩, 19) := ⟨⟨by decide +kernel, by decide +kernel⟩, List.mem_of_getElem? (i := 472) (by decide +kernel), List.mem_of_getElem? (i := 563) (by decide +kernel), List.mem_of_getElem? (i := 564) (by decide +kernel)⟩
theorem lw_p23 : lw_okq (⟨"DropFourModel", "isLine", "(III)Z"⟩, 19) := ⟨⟨by decide +kernel, by decide +kernel⟩, List.mem_of_getElem? (i := 472) (by decide +kernel), List.mem_of_getElem? (i := 591) (by decide +kernel), List.mem_of_getElem? (i := 592) (by decide +kernel)⟩
theorem lw_p24 : lw_okq (⟨"DropFourModel", "many", "(IIII)I"⟩, 19) := ⟨⟨by decide +kernel, by decide +kernel⟩, List.mem_of_getElem? (i := 472) (by decide +kernel), List.mem_of_getElem? (i := 601) (by decide +kernel), List.mem_of_getElem? (i := 602) (by decide +kernel)⟩
theorem lw_p25 : lw_okq (⟨"DropFourModel", "isThreat", "(III)Z"⟩, 19) := ⟨⟨by decide +kernel, by decide +kernel⟩, List.mem_of_getElem? (i := 472) (by decide +kernel), List.mem_of_getElem? (i := 609) (by decide +kernel), List.mem_of_getElem? (i := 610) (by decide +kernel)⟩
theorem lw_p26 : lw_okq (⟨"DropFourModel", "isFar", "()Z"⟩, 19) := ⟨⟨by decide +kernel, by decide +kernel⟩, List.mem_of_getElem? (i := 472) (by decide +kernel), List.mem_of_getElem? (i := 617) (by decide +kernel), List.mem_of_getElem? (i := 618) (by decide +kernel)⟩
theorem lw_p27 : lw_okq (⟨"DropFourModel", "lookAhead", "()V"⟩, 19) := ⟨⟨by decide +kernel, by decide +kernel⟩, List.mem_of_getElem? (i := 472) (by decide +kernel), List.mem_of_getElem? (i := 621) (by decide +kernel), List.mem_of_getElem? (i := 622) (by decide +kernel)⟩
theorem lw_p28 : lw_okq (⟨"DropFourModel", "show", "(I)V"⟩, 19) := ⟨⟨by decide +kernel, by decide +kernel⟩, List.mem_of_getElem? (i := 472) (by decide +kernel), List.mem_of_getElem? (i := 625) (by decide +kernel), List.mem_of_getElem? (i := 626) (by decide +kernel)⟩
theorem lw_p29 : lw_okq (⟨"DropFourModel", "dropWins", "(II)Z"⟩, 19) := ⟨⟨by decide +kernel, by decide +kernel⟩, List.mem_of_getElem? (i := 472) (by decide +kernel), List.mem_of_getElem? (i := 629) (by decide +kernel), List.mem_of_getElem? (i := 630) (by decide +kernel)⟩
theorem lw_p30 : lw_okq (⟨"DropFourModel", "add", "(III)V"⟩, 19) := ⟨⟨by decide +kernel, by decide +kernel⟩, List.mem_of_getElem? (i := 472) (by decide +kernel), List.mem_of_getElem? (i := 633) (by decide +kernel), List.mem_of_getElem? (i := 634) (by decide +kernel)⟩
theorem lw_p31 : lw_okq (⟨"DropFourModel", "slotOf", "(II)I"⟩, 19) := ⟨⟨by decide +kernel, by decide +kernel⟩, List.mem_of_getElem? (i := 472) (by decide +kernel), List.mem_of_getElem? (i := 637) (by decide +kernel), List.mem_of_getElem? (i := 638) (by decide +kernel)⟩
def lw_privs_2 : List (MethodName × Nat) := [(⟨"DropFour$Following", "comesFirst", "(JJJ)Z"⟩, 1), (⟨"DropFour$Following", "reached", "(JJ)J"⟩, 1), (⟨"DropFourModel", "winnerNow", "()I"⟩, 19), (⟨"DropFourModel", "wins", "([III)Z"⟩, 19), (⟨"DropFourModel", "along", "([IIIII)I"⟩, 19), (⟨"DropFourModel", "isSquare", "(II)Z"⟩, 19), (⟨"DropFourModel", "refused", "(ZZ)Z"⟩, 19), (⟨"DropFourModel", "isLine", "(III)Z"⟩, 19), (⟨"DropFourModel", "many", "(IIII)I"⟩, 19), (⟨"DropFourModel", "isThreat", "(III)Z"⟩, 19), (⟨"DropFourModel", "isFar", "()Z"⟩, 19), (⟨"DropFourModel", "lookAhead", "()V"⟩, 19), (⟨"DropFourModel", "show", "(I)V"⟩, 19), (⟨"DropFourModel", "dropWins", "(II)Z"⟩, 19), (⟨"DropFourModel", "add", "(III)V"⟩, 19), (⟨"DropFourModel", "slotOf", "(II)I"⟩, 19)]
theorem lw_r2 : ∀ q ∈ lw_privs_2, lw_okq q := List.forall_mem_cons.mpr ⟨lw_p16, List.forall_mem_cons.mpr ⟨lw_p17, List.forall_mem_cons.mpr ⟨lw_p18, List.forall_mem_cons.mpr ⟨lw_p19, List.forall_mem_cons.mpr ⟨lw_p20, List.forall_mem_cons.mpr ⟨lw_p21, List.forall_mem_cons.mpr ⟨lw_p22, List.forall_mem_cons.mpr ⟨lw_p23, List.forall_mem_cons.mpr ⟨lw_p24, List.forall_mem_cons.mpr ⟨lw_p25, List.forall_mem_cons.mpr ⟨lw_p26, List.forall_mem_cons.mpr ⟨lw_p27, List.forall_mem_cons.mpr ⟨lw_p28, List.forall_mem_cons.mpr ⟨lw_p29, List.forall_mem_cons.mpr ⟨lw_p30, List.forall_mem_cons.mpr ⟨lw_p31, fun _ h => absurd h List.not_mem_nil⟩⟩⟩⟩⟩⟩⟩⟩⟩⟩⟩⟩⟩⟩⟩⟩
theorem lw_p32 : lw_okq (⟨"DropFourModel", "valueBehind", "(IIIZ)I"⟩, 19) := ⟨⟨by decide +kernel, by decide +kernel⟩, List.mem_of_getElem? (i := 472) (by decide +kernel), List.mem_of_getElem? (i := 641) (by decide +kernel), List.mem_of_getElem? (i := 642) (by decide +kernel)⟩
theorem lw_p33 : lw_okq (⟨"DropFourModel", "behind", "(III)I"⟩, 19) := ⟨⟨by decide +kernel, by decide +kernel⟩, List.mem_of_getElem? (i := 472) (by decide +kernel), List.mem_of_getElem? (i := 645) (by decide +kernel), List.mem_of_getElem? (i := 646) (by decide +kernel)⟩
theorem lw_p34 : lw_okq (⟨"DropFourModel", "showPairs", "(I)V"⟩, 19) := ⟨⟨by decide +kernel, by decide +kernel⟩, List.mem_of_getElem? (i := 472) (by decide +kernel), List.mem_of_getElem? (i := 667) (by decide +kernel), List.mem_of_getElem? (i := 668) (by decide +kernel)⟩
def lw_privs_3 : List (MethodName × Nat) := [(⟨"DropFourModel", "valueBehind", "(IIIZ)I"⟩, 19), (⟨"DropFourModel", "behind", "(III)I"⟩, 19), (⟨"DropFourModel", "showPairs", "(I)V"⟩, 19)]
theorem lw_r3 : ∀ q ∈ lw_privs_3, lw_okq q := List.forall_mem_cons.mpr ⟨lw_p32, List.forall_mem_cons.mpr ⟨lw_p33, List.forall_mem_cons.mpr ⟨lw_p34, fun _ h => absurd h List.not_mem_nil⟩⟩⟩
def lw_privs : List (MethodName × Nat) := lw_privs_1 ++ (lw_privs_2 ++ (lw_privs_3))
def lw_tbl : List Cond := k2_sels lw_privs ++ tables_1
theorem lw_privs_ok : ∀ q ∈ lw_privs, lw_okq q := by
  show ∀ q ∈ lw_privs_1 ++ (lw_privs_2 ++ (lw_privs_3)), lw_okq q
  exact List.forall_mem_append.mpr ⟨lw_r1, List.forall_mem_append.mpr ⟨lw_r2, lw_r3⟩⟩
end
section
/-! ===== an exception that comes to a frame is caught by a row of its table, behind rows that pass it (vx_catch stands on this; own rows, for the library's are of a shelf that a round does not load) ===== -/
section TcGo
variable {e : Env} {a : Addr} {f : JFrame} {cell : Cell}
/-- one row that covers the place and names a class that links: the search notes the class, and stops or goes on -/
theorem tc_row {S : State} {Q : Handler → Pre} {E : CtlPost} {d : Bool} {acts : List Action} {y : ExceptionTableEntry} {t : List ExceptionTableEntry} {k : ClassId} {b : Bool}
    (hy : covers y f.pc = true) (h0 : y.catchType ≠ 0) (hl : S.vm.ClassLinks e.platform f.method.cls y.catchType k) (hcell : S.heap[a]? = some cell) (hobj : ∀ z, cell.vm ≠ .statics z)
    (h1 : ∃ z, S.vm.classes[cell.cls]? = some z) (h2 : ∃ z, S.vm.classes[k]? = some z) (hb : S.vm.assignable cell.cls k = b) :
    wp (findHandler.go f a (y :: t)) Q E e d acts S ↔ (if b then Q (.found y.handlerPc) d acts (S.setVm (S.vm.noted f.method.cls y.catchType (.cls k))) else wp (findHandler.go f a t) Q E e d acts (S.setVm (S.vm.noted f.method.cls y.catchType (.cls k)))) := by
  have hn : S.vm.Alike (S.vm.noted f.method.cls y.catchType (.cls k)) := (Vm.Alike.refl S.vm).noted _ _ _
  obtain ⟨z1, e1⟩ := h1
  obtain ⟨z2, e2⟩ := h2
  obtain ⟨z1', e1', -⟩ := hn.2.2 _ _ e1
  obtain ⟨z2', e2', -⟩ := hn.2.2 _ _ e2
  obtain ⟨ha, ht⟩ := (resolveClass_links e.toSetting hl).op (op := VmOp.resolveClass f.method.cls y.catchType) rfl
  have hb' : (S.vm.noted f.method.cls y.catchType (.cls k)).assignable cell.cls k = b := by rw [hn.assignable]; exact hb
  simp only [covers] at hy
  cases b <;> simp [findHandler.go, hy, h0, ha, ht, hcell, hobj, e1', e2', hb', VmOp.dirties, VmOp.acts]
theorem tc_search {s₀ : State} (hobj : ∀ z, cell.vm ≠ .statics z) (hk0 : ∃ z, s₀.vm.classes[cell.cls]? = some z) (x : ExceptionTableEntry) (suf : List ExceptionTableEntry) (hx : covers x f.pc = true) (h0 : x.catchType ≠ 0)
    {kx : ClassId} (hlx : s₀.vm.ClassLinks e.platform f.method.cls x.catchType kx) (hfit : s₀.vm.assignable cell.cls kx = true) (pre : List ExceptionTableEntry) :
    ∀ S : State, s₀.WarmedH S.vm → S.heap[a]? = some cell → (∀ y ∈ pre, covers y f.pc = false ∨ (y.catchType ≠ 0 ∧ ∃ k, s₀.vm.ClassLinks e.platform f.method.cls y.catchType k ∧ s₀.vm.assignable cell.cls k = false)) →
      ∃ v, s₀.WarmedH v ∧ ∀ (Q : Handler → Pre) (E : CtlPost) (d : Bool) (acts : List Action), wp (findHandler.go f a (pre ++ x :: suf)) Q E e d acts S ↔ Q (.found x.handlerPc) d acts (S.setVm v) := by
  have link : ∀ (S : State) (i : Nat) (k : ClassId), s₀.WarmedH S.vm → s₀.vm.ClassLinks e.platform f.method.cls i k → S.vm.ClassLinks e.platform f.method.cls i k ∧ (∃ z, S.vm.classes[cell.cls]? = some z) ∧ (∃ z, S.vm.classes[k]? = some z) ∧ s₀.WarmedH (S.vm.noted f.method.cls i (.cls k)) := by
    intro S i k hW hl
    obtain ⟨z0, e0⟩ := hk0
    obtain ⟨_, _, _, zt, hd, _, _, _, _, hzt, _, hop⟩ := hl.here
    obtain ⟨z0', e0', -⟩ := hW.alike.2.2 _ _ e0
    obtain ⟨zt', et', -⟩ := hW.alike.2.2 _ _ hzt
    exact ⟨hW.classLinks hl, ⟨z0', e0'⟩, ⟨zt', et'⟩, hW.noted hd hop (State.rightAt_cls hl)⟩
  induction pre with
  | nil =>
    intro S hW hc _
    obtain ⟨q1, q2, q3, q4⟩ := link S x.catchType kx hW hlx
    refine ⟨_, q4, fun Q E d acts => ?_⟩
    rw [List.nil_append, tc_row hx h0 q1 hc hobj q2 q3 (b := true) (by rw [hW.alike.assignable]; exact hfit)]
    exact Iff.of_eq (if_pos rfl)
  | cons y ys ih =>
    intro S hW hc hp
    have hp' := fun z hz => hp z (List.mem_cons_of_mem _ hz)
    cases hcv : covers y f.pc with
    | false =>
      obtain ⟨v, hv, hq⟩ := ih S hW hc hp'
      exact ⟨v, hv, fun Q E d acts => by rw [List.cons_append, W.findHandler_go_skip hcv]; exact hq Q E d acts⟩
    | true =>
      rcases hp y List.mem_cons_self with h | ⟨hy0, k, hl, hno⟩
      · rw [hcv] at h; cases h
      · obtain ⟨q1, q2, q3, q4⟩ := link S y.catchType k hW hl
        obtain ⟨v, hv, hq⟩ := ih (S.setVm (S.vm.noted f.method.cls y.catchType (.cls k))) q4 hc hp'
        refine ⟨v, hv, fun Q E d acts => ?_⟩
        rw [List.cons_append, tc_row hcv hy0 q1 hc hobj q2 q3 (b := false) (by rw [hW.alike.assignable]; exact hno)]
        exact (Iff.of_eq (if_neg (by decide))).trans (hq Q E d acts)
end TcGo
section TcStand
variable {p : Program} {l : Launch} {e : Env} {R : Room} {s : State} {m : MethodId} {args : Array Value} {below : List Frame} {meth : Method} {c : Code} {T : State} {locs : List Loc} {cells slots : Nat}
theorem tc_through (X : Stand p l e R s m args below meth c T locs cells slots) (q : Addr) {g : JFrame} (hg : g.method = m) {cell : Cell} (hcell : T.heap[q]? = some cell) (hobj : cell.vm.isStatics = false) (hk0 : ∃ k, s.vm.classes[cell.cls]? = some k)
    (pre : List ExceptionTableEntry) (x : ExceptionTableEntry) (suf : List ExceptionTableEntry) (hsplit : c.exceptionTable.toList = pre ++ x :: suf)
    (hpass : ∀ y ∈ pre, covers y g.pc = false ∨ (y.catchType ≠ 0 ∧ ∃ k, s.vm.ClassLinks e.platform m.cls y.catchType k ∧ s.vm.assignable cell.cls k = false)) (hx : covers x g.pc = true) (h0 : x.catchType ≠ 0)
    {kx : ClassId} (hlx : s.vm.ClassLinks e.platform m.cls x.catchType kx) (hfit : s.vm.assignable cell.cls kx = true) :
    ∃ vm', Stand p l e R s m args below meth c (T.setVm vm') locs cells slots ∧ Steps p.tables e below ((T.setTop g).pushFrame (.throwing q)) ((T.setVm vm').setTop { g with pc := x.handlerPc, stack := [.ref q] }) := by
  subst hg
  have hh : ((T.setTop g).pushFrame (.throwing q)).heap[q]? = some cell := hcell
  obtain ⟨v, hv, hq⟩ := tc_search (e := e) (a := q) (f := g) (VmData.ne_statics_of hobj) hk0 x suf hx h0 hlx hfit pre ((T.setTop g).pushFrame (.throwing q)) X.warmed hh hpass
  refine ⟨v, X.noted hv, ?_⟩
  have hfind : ∀ (Q : Handler → Pre) (E : CtlPost) (d : Bool) (acts : List Action), wp (findHandler g q) Q E e d acts ((T.setTop g).pushFrame (.throwing q)) ↔ Q (.found x.handlerPc) d acts (((T.setTop g).pushFrame (.throwing q)).setVm v) := fun Q E d acts => by
    rw [W.findHandler_eq (s := (T.setTop g).pushFrame (.throwing q)) (f := g) (meth := meth) (code := c) X.method' X.code, hsplit]; exact hq Q E d acts
  have hstep : ∀ r : List Frame, (stepThrowing e ((T.setTop g).pushFrame (.throwing q)) q (.java g :: r)).Is ((((T.setTop g).pushFrame (.throwing q)).setVm v).setFrames (.java { g with pc := x.handlerPc, stack := [.ref q] } :: r)) [] := by
    intro r
    simp only [stepThrowing, searchFrame, vmDo]
    generalize hr : Sem.go _ e false [] ((T.setTop g).pushFrame (.throwing q)) = res
    obtain ⟨as, rfl, ha⟩ := Sem.eq_ok_of hr (a := Handler.found x.handlerPc) (s' := ((T.setTop g).pushFrame (.throwing q)).setVm v) (acts' := []) (by simp [hfind _ _ _ _])
    exact ⟨rfl, ha⟩
  obtain ⟨hgo, hw⟩ := X.here.throwing q
  refine Steps.head hgo hw ?_
  rw [stepThread_throwing (frames_entered X.here.top _), (hstep _).1]
  obtain ⟨g₀, hfr⟩ := X.frames_eq
  have hfr' : (T.setVm v).frames = .java g₀ :: below := hfr
  rw [State.setTop_of_frames _ hfr', hfr, List.tail_cons, State.pushFrame, State.setTop_of_frames _ hfr]
  have e1 : ∀ (u : State) (F G : List Frame), ((u.setFrames F).setVm v).setFrames G = (u.setVm v).setFrames G := fun u F G => by
    rw [show (u.setFrames F).setVm v = (u.setVm v).setFrames F from rfl, State.setFrames_setFrames]
  rw [e1, e1]
  exact Steps.refl _
end TcStand
end
section
/-! ===== BEGIN words of one list among another's, by their places ===== -/
theorem goodIn_r {big : List Cond} (ws : List Cond) (ps : List Nat) (hp : ws = ps.filterMap (fun i => big[i]?)) (h : ws.all goodWord = true) : GoodIn big ws := by
  intro w hw
  have h1 := List.all_eq_true.mp h w hw
  rw [hp] at hw
  obtain ⟨i, -, hi⟩ := List.mem_filterMap.mp hw
  have hm : w ∈ big := by first | exact List.mem_of_getElem? hi | exact List.getElem?_mem hi
  exact ⟨hm, good_of_word h1⟩
theorem goodIn_app {big a b : List Cond} (ha : GoodIn big a) (hb : GoodIn big b) : GoodIn big (a ++ b) := fun w h => (List.mem_append.mp h).elim (ha w) (hb w)
theorem goodIn_ca {big a b : List Cond} {c : Cond} (ha : GoodIn big (c :: a)) (hb : GoodIn big b) : GoodIn big (c :: (a ++ b)) := fun w h => (List.mem_cons.mp h).elim (fun e => ha w (List.mem_cons.mpr (Or.inl e))) (fun h => (List.mem_append.mp h).elim (fun h => ha w (List.mem_cons.mpr (Or.inr h))) (hb w))
theorem goodIn_sub {big ws : List Cond} (hm : ∀ w ∈ ws, w ∈ big) (h : ws.all goodWord = true) : GoodIn big ws := fun w hw => ⟨hm w hw, good_of_word (List.all_eq_true.mp h w hw)⟩
/-! ===== END ===== -/

/-! ===== BEGIN exceptions that leave a method, and their catching by the caller (launches without stack traces) ===== -/
section VXA
/-! The laws vx_back, vx_callV, vx_callS, vx_callSW, vx_throw0, vx_throwS follow proofs of the library, with one case more: JvmDerived/Free/Laws.lean (Back.of_free), Shelf42/LK1.lean (callV, callS), Shelf/KitTraced.lean (throwNew0V, throwNewS). -/
/-- where a method has thrown q: the class by its name, the cell, what was written, the world -/
def vx_T (XC : String → State → State → Prop) (st : State) (q : Addr) (t : State) (mc ms : Nat) (free : Addr → Prop) : Prop :=
  ∃ (E : String) (ce : Cell) (L : List Loc), XC E st t ∧ t.heap[q]? = some ce ∧ ce.vm = .none ∧ st.vm.findClass E = some ce.cls ∧ st.WarmedH t.vm ∧ st.sameButNew ({ t with vm := st.vm } : State) L mc ms ∧ ∀ z ∈ L, free z.base
def vx_Q (Qc : Array Value → State → Outcome → State → Prop) (XC : String → State → State → Prop) (mc ms : Nat) (free : Addr → Prop) : Array Value → State → Outcome → State → Prop := fun a st o t =>
  (Qc a st o t ∧ ∃ L, FrameEnd st o t L mc ms ∧ ∀ q ∈ L, free q.base) ∨ ∃ q, o = .threw q ∧ vx_T XC st q t mc ms free
/-- a callee that returns or throws -/
def vx_Met (l : Launch) (y : MethodName) (ws : List Cond) (rm : Room) (Pc : Array Value → State → Prop) (Qc : Array Value → State → Outcome → State → Prop) (XC : String → State → State → Prop) (mc ms : Nat) (free : Addr → Prop) : Prop :=
  MetFree l y (headSpec ws rm) Pc (fun _ _ _ _ _ => True) (vx_Q Qc XC mc ms free)
def vx_Post (XC : String → State → State → Prop) (mc ms : Nat) (free : Addr → Prop) : Pt → Array Value → Addr → Pt → Prop := fun A a q B =>
  ∃ (g : JFrame) (mk : MethodId) (t : State) (L : List Loc) (E : String) (ce : Cell), B.U.heap = t.heap ∧ B.U.vm = t.vm ∧ XC E (A.U.calling g mk a) t ∧ t.heap[q]? = some ce ∧ ce.vm = .none ∧ A.U.vm.findClass E = some ce.cls ∧ B.locs = A.locs ++ L ∧ (∀ z ∈ L, free z.base) ∧ B.cells = A.cells + mc ∧ B.slots = A.slots + ms
def vx_Back (l : Launch) (R : Room) (p : Program) (e : Env) (below : List Frame) (s : State) (sargs : Array Value) (y : MethodName) (len W9 : Nat)
    (Pre : Pt → Array Value → Prop) (Post : Pt → Array Value → Option Value → Pt → Prop) (PostX : Pt → Array Value → Addr → Pt → Prop) : Prop :=
  ∀ (m : MethodId) (meth : Method) (c : Code) (A : Pt) (g : JFrame) (ig : Instr) (mk : MethodId) (a : Array Value),
    Stand p l e R s m sargs below meth c A.U A.locs A.cells A.slots → g.method = m → g.locals.size = c.maxLocals → decode c.code g.pc = .ok (ig, len) →
    2 * g.monitorRoom + (g.stack.map fun v => v.category).sum ≤ W9 → A.U.methodNamed? y = some mk → Pre A a →
    (∃ (v : Option Value) (B : Pt), Stand p l e R s m sargs below meth c B.U B.locs B.cells B.slots ∧ Post A a v B ∧
      Steps p.tables e below (doInvoke e (A.U.setTop g) [] mk a).1 (B.U.setTop { g with pc := g.pc + len, stack := v.toList ++ g.stack })) ∨
    (∃ (q : Addr) (B : Pt), Stand p l e R s m sargs below meth c B.U B.locs B.cells B.slots ∧ PostX A a q B ∧
      Steps p.tables e below (doInvoke e (A.U.setTop g) [] mk a).1 ((B.U.setTop g).pushFrame (.throwing q)))
section Payer
variable {l : Launch} {R : Room} {p : Program} {e : Env} {below : List Frame} {s : State} {sargs : Array Value} {y : MethodName} {len W9 : Nat}
theorem vx_back {ws : List Cond} {rm : Room} {Pc : Array Value → State → Prop} {Qc : Array Value → State → Outcome → State → Prop} {XC : String → State → State → Prop} {mc ms : Nat} {free : Addr → Prop} {bytes : ByteArray} {maxL : Nat} {ret : Option FieldType}
    (hM : vx_Met l y ws rm Pc Qc XC mc ms free) (hblind : FrameBlind Pc) (hrc : rm.cells = mc) (hrs : rm.slots = ms)
    (hframes : rm.frames + 1 ≤ R.frames) (hlocals : W9 + (maxL + 11) + rm.locals ≤ R.locals)
    (hws : ∀ w ∈ ws, ∀ a' U, s.WarmedH U.vm → w.before a' U = true) (hcode : Cond.code y bytes maxL ret ∈ ws) (hinit : ∀ a' U, s.WarmedH U.vm → (Cond.initialized y.cls).before a' U = true) :
    vx_Back l R p e below s sargs y len W9 (PreOf R mc ms Pc) (PostOf Qc mc ms free) (vx_Post XC mc ms free) := by
  intro m meth c A g ig mk a X hg hsize hdg hW hn hp
  have h1 : (headSpec ws rm).pre.before a A.U = true := atoms_intro fun w hw => hws w hw _ _ X.warmed
  have h2 : (Cond.code y bytes maxL ret).before a A.U = true := hws _ hcode _ _ X.warmed
  have h3 : (Cond.initialized y.cls).before a A.U = true := hinit _ _ X.warmed
  have h4 : A.cells + (headSpec ws rm).room.cells ≤ R.cells := by rw [show (headSpec ws rm).room.cells = mc from hrc]; exact hp.1
  have h5 : A.slots + (headSpec ws rm).room.slots ≤ R.slots := by rw [show (headSpec ws rm).room.slots = ms from hrs]; exact hp.2.1
  have hPc : Pc a (A.U.calling g mk a) := hblind _ _ _ _ hp.2.2
  obtain ⟨U, Ls, c0, s0⟩ := A
  dsimp only [Pt.U, Pt.locs, Pt.cells, Pt.slots] at h1 h2 h3 h4 h5 X hn hPc ⊢
  obtain ⟨methY, cY, hmY, hcY, -, hlY, -, -, -, -⟩ := Cond.code_spec hn h2
  obtain ⟨kY, hkY, -⟩ := className_of_methodNamed hn
  have hinitY : kY.init = .initialized := Cond.initialized_spec (findClass_of_methodNamed hn) hkY h3
  have h : At U g.method c below := by rw [hg]; exact X.here
  have hlocals9 : W9 + (maxL + 11) + (headSpec ws rm).room.locals ≤ R.locals := hlocals
  have happ : (headSpec ws rm).appliesLoose y e.platform (U.calling g mk a) = true :=
    Spec.appliesLoose_calling (g := g) h hdg hn hkY hinitY
      (X.room_calling (g := g) (R' := (headSpec ws rm).room) hsize hmY hcY hframes (by rw [hlY]; omega) h4 h5) h1
  obtain ⟨mid, hmid⟩ := h.above
  have hfr : (U.setTop g).frames = (.java g :: mid) ++ below := by rw [State.frames_setTop' g h.top, hmid]; rfl
  obtain ⟨o, s₂, hsteps, -, hend, hq⟩ := Steps.callFree hM p X.admits X.cas X.clock (acts := []) hfr happ hPc trivial
  have hq' : vx_Q Qc XC mc ms free a (U.calling g mk a) o s₂ := hq
  rw [State.frames_setTop' g h.top] at hend
  obtain ⟨g₀, hg0⟩ := Option.isSome_iff_exists.mp h.top
  obtain ⟨r, hr⟩ := State.topJava?_eq_some.mp hg0
  have hr' : (({ U with heap := s₂.heap, slotsUsed := s₂.slotsUsed } : State).setVm s₂.vm).frames = .java g₀ :: r := hr
  rcases hq' with ⟨hqc, L, hfe, hL⟩ | ⟨q, rfl, E, ce, L, hx, hce, hcv, hcl, hW₂, hsm, hL⟩
  · obtain ⟨⟨v, rfl⟩, hW₂, e2, q2, q3, q4, q5, q6⟩ := id hfe
    have e3 : s₂ = ({ (U.calling g mk a).setFrames s₂.frames with heap := s₂.heap, slotsUsed := s₂.slotsUsed } : State).setVm s₂.vm := by
      have : s₂ = ({ s₂ with vm := (U.calling g mk a).vm } : State).setVm s₂.vm := rfl
      rw [e2] at this
      exact this
    obtain ⟨c₂, i₂, len₂, hc₂, hd₂, hf₂⟩ := hend
    have hW' : U.WarmedH s₂.vm := hW₂
    have hcc : c₂ = c := by
      have h1 : s₂.code? g.method = U.code? g.method := by
        rw [State.code?_eq, State.code?_eq, hW'.alike.method?]
      exact Option.some.inj (hc₂.symm.trans (h1.trans h.code))
    subst hcc
    have hlen : len₂ = len := by rw [hdg] at hd₂; cases hd₂; rfl
    subst hlen
    have hs₂ : s₂ = (({ U with heap := s₂.heap, slotsUsed := s₂.slotsUsed } : State).setVm s₂.vm).setTop { g with pc := g.pc + len₂, stack := v.toList ++ g.stack } := by
      refine e3.trans ?_
      rw [hf₂, State.calling_eq h.top, State.setFrames_setFrames, State.setTop_of_frames _ hr', hr]
      rfl
    have hsame : U.sameButNew ({ U with heap := s₂.heap, slotsUsed := s₂.slotsUsed } : State) L mc ms := by
      refine ⟨?_, q2, q3, q4, q5, q6⟩
      obtain ⟨t, ht, -⟩ := State.frames_cons hr
      show ({ U with heap := s₂.heap, slotsUsed := s₂.slotsUsed } : State) = { U.setFrames U.frames with heap := s₂.heap, slotsUsed := s₂.slotsUsed }
      rw [State.setFrames_self ht]
    subst hg
    refine Or.inl ⟨v, ⟨(({ U with heap := s₂.heap, slotsUsed := s₂.slotsUsed } : State).setVm s₂.vm), Ls ++ L, c0 + mc, s0 + ms⟩,
      ⟨X.admits, X.cas, X.clock, X.frames, X.room, X.hears, X.method, X.code, (X.here.setHeapUsed s₂.heap s₂.slotsUsed).setVm hW'.alike, X.tail, State.WarmedH.trans X.warmed hW', X.limits, X.bytes, X.same.trans (hsame.setVm s.vm)⟩,
      ⟨g, mk, s₂, L, rfl, rfl, hqc, rfl, hL, rfl, rfl⟩, ?_⟩
    show Steps p.tables e below _ ((({ U with heap := s₂.heap, slotsUsed := s₂.slotsUsed } : State).setVm s₂.vm).setTop { g with pc := g.pc + len₂, stack := v.toList ++ g.stack })
    rw [← hs₂]
    exact hsteps
  · obtain ⟨e2, q2, q3, q4, q5, q6⟩ := id hsm
    have e3 : s₂ = ({ (U.calling g mk a).setFrames s₂.frames with heap := s₂.heap, slotsUsed := s₂.slotsUsed } : State).setVm s₂.vm := by
      have : s₂ = ({ s₂ with vm := (U.calling g mk a).vm } : State).setVm s₂.vm := rfl
      rw [e2] at this
      exact this
    have hf₂ : s₂.frames = .throwing q :: .java g :: U.frames.tail := hend
    have hW' : U.WarmedH s₂.vm := hW₂
    have hs₂ : s₂ = ((({ U with heap := s₂.heap, slotsUsed := s₂.slotsUsed } : State).setVm s₂.vm).setTop g).pushFrame (.throwing q) := by
      refine e3.trans ?_
      rw [hf₂, State.calling_eq h.top, State.setFrames_setFrames, State.pushFrame, State.frames_setTop _ hr', State.setTop_of_frames _ hr', State.setFrames_setFrames, hr]
      rfl
    have hsame : U.sameButNew ({ U with heap := s₂.heap, slotsUsed := s₂.slotsUsed } : State) L mc ms := by
      refine ⟨?_, q2, q3, q4, q5, q6⟩
      obtain ⟨t, ht, -⟩ := State.frames_cons hr
      show ({ U with heap := s₂.heap, slotsUsed := s₂.slotsUsed } : State) = { U.setFrames U.frames with heap := s₂.heap, slotsUsed := s₂.slotsUsed }
      rw [State.setFrames_self ht]
    subst hg
    refine Or.inr ⟨q, ⟨(({ U with heap := s₂.heap, slotsUsed := s₂.slotsUsed } : State).setVm s₂.vm), Ls ++ L, c0 + mc, s0 + ms⟩,
      ⟨X.admits, X.cas, X.clock, X.frames, X.room, X.hears, X.method, X.code, (X.here.setHeapUsed s₂.heap s₂.slotsUsed).setVm hW'.alike, X.tail, State.WarmedH.trans X.warmed hW', X.limits, X.bytes, X.same.trans (hsame.setVm s.vm)⟩,
      ⟨g, mk, s₂, L, E, ce, rfl, rfl, hx, hce, hcv, hcl, rfl, hL, rfl, rfl⟩, ?_⟩
    show Steps p.tables e below _ (((({ U with heap := s₂.heap, slotsUsed := s₂.slotsUsed } : State).setVm s₂.vm).setTop g).pushFrame (.throwing q))
    rw [← hs₂]
    exact hsteps
end Payer
section Calls
variable {p : Program} {l : Launch} {e : Env} {R : Room} {s : State} {m : MethodId} {args : Array Value} {below : List Frame} {meth : Method} {c : Code} {T : State} {locs : List Loc} {cells slots : Nat}
theorem vx_callV (X : Stand p l e R s m args below meth c T locs cells slots) (hexec : p.tables.exec = Jvm.exec) {own C : String} {index : Nat} {y : MethodName} {bytes : ByteArray} {maxL : Nat} {ret : Option FieldType}
    (hown : s.vm.findClass own = some m.cls) (hlink : (Cond.methodLink own index y).before args s = true) (hinst : (Cond.instanceMethod y).before args s = true) (hsel : (Cond.selects C y y).before args s = true)
    (hcode : (Cond.code y bytes maxL ret).before args s = true) (hy : y.cls ≠ "java/lang/invoke/MethodHandle" ∧ y.cls ≠ "java/lang/invoke/VarHandle")
    {W9 : Nat} {Pre : Pt → Array Value → Prop} {Post : Pt → Array Value → Option Value → Pt → Prop} {PostX : Pt → Array Value → Addr → Pt → Prop} (hK : vx_Back l R p e below s args y 3 W9 Pre Post PostX)
    {b : Addr} {cellB : Cell} (hcell : T.heap[b]? = some cellB) (hobj : cellB.vm.isStatics = false) (hcls : s.vm.findClass C = some cellB.cls)
    {g : JFrame} (hg : g.method = m) (hsize : g.locals.size = c.maxLocals) {argsL rest : List Value} (hlen : ∀ sig, parseMethodDescriptor y.desc = some sig → argsL.length = sig.parameters.length)
    (hstack : g.stack = argsL.reverse ++ .ref b :: rest) (hW : 2 * g.monitorRoom + (rest.map fun v => v.category).sum ≤ W9) (hdg : decode c.code g.pc = .ok (.invokevirtual index, 3))
    (hpre : ∀ vm₁, s.WarmedH vm₁ → Pre ⟨T.setVm vm₁, locs, cells, slots⟩ (Value.ref b :: argsL).toArray) :
    (∃ (v : Option Value) (vm₁ : Vm) (B : Pt), s.WarmedH vm₁ ∧ Stand p l e R s m args below meth c B.U B.locs B.cells B.slots ∧ Post ⟨T.setVm vm₁, locs, cells, slots⟩ (Value.ref b :: argsL).toArray v B ∧
      ∀ target, Steps p.tables e below (B.U.setTop { g with pc := g.pc + 3, stack := v.toList ++ rest }) target → Steps p.tables e below (T.setTop g) target) ∨
    (∃ (q : Addr) (vm₁ : Vm) (B : Pt), s.WarmedH vm₁ ∧ Stand p l e R s m args below meth c B.U B.locs B.cells B.slots ∧ PostX ⟨T.setVm vm₁, locs, cells, slots⟩ (Value.ref b :: argsL).toArray q B ∧
      Steps p.tables e below (T.setTop g) ((B.U.setTop { g with stack := rest }).pushFrame (.throwing q))) := by
  obtain ⟨mk, methM, hnamed, hmethM, hstM, habM⟩ := Cond.instanceMethod_spec hinst
  obtain ⟨methM', cM, hmethM', -, -, -, -, -, -, hsigM⟩ := Cond.code_spec hnamed hcode
  cases hmethM.symm.trans hmethM'
  obtain ⟨c2, r2, m2, q1, q2, q3, q4, kP, hkP, hkPi⟩ := Cond.selects_spec hsel
  cases hcls.symm.trans q1
  cases (State.methodFound?_of_named hnamed hy).symm.trans q2
  cases hnamed.symm.trans q3
  have hselP : selectMethod e.platform s.vm cellB.cls mk = .method mk := by rw [Launch.admits_selectMethod X.admits]; exact q4
  obtain ⟨vm₁, X₁, hstep₁⟩ := X.invokevirtual hexec hown hlink hnamed hmethM hstM hkP hkPi hy (a := b) (cell := cellB) hcell
    (fun z h => by rw [h] at hobj; cases hobj) hselP hmethM habM hkP hkPi (g := g) hg (argsL := argsL) (rest := rest) (hlen _ hsigM) hstack hdg
  rcases hK m meth c ⟨T.setVm vm₁, locs, cells, slots⟩ { g with stack := rest } (.invokevirtual index) mk (Value.ref b :: argsL).toArray X₁ hg hsize hdg hW (X₁.named hnamed) (hpre vm₁ X₁.warmed) with ⟨v, B, X', hpost, hsteps⟩ | ⟨q, B, X', hpost, hsteps⟩
  · exact Or.inl ⟨v, vm₁, B, X₁.warmed, X', hpost, fun target h => hstep₁ _ fun acts => by rw [doInvoke_state]; exact hsteps.trans h⟩
  · exact Or.inr ⟨q, vm₁, B, X₁.warmed, X', hpost, hstep₁ _ fun acts => by rw [doInvoke_state]; exact hsteps⟩
theorem vx_callS (X : Stand p l e R s m args below meth c T locs cells slots) (hexec : p.tables.exec = Jvm.exec) {own : String} {index : Nat} {y : MethodName} {bytes : ByteArray} {maxL : Nat} {ret : Option FieldType}
    (hown : s.vm.findClass own = some m.cls) (hlink : (Cond.methodLink own index y).before args s = true) (hstat : (Cond.static y).before args s = true) (hinit : (Cond.initialized y.cls).before args s = true)
    (hcode : (Cond.code y bytes maxL ret).before args s = true) (hy : y.cls ≠ "java/lang/invoke/MethodHandle" ∧ y.cls ≠ "java/lang/invoke/VarHandle")
    {W9 : Nat} {Pre : Pt → Array Value → Prop} {Post : Pt → Array Value → Option Value → Pt → Prop} {PostX : Pt → Array Value → Addr → Pt → Prop} (hK : vx_Back l R p e below s args y 3 W9 Pre Post PostX)
    {g : JFrame} (hg : g.method = m) (hsize : g.locals.size = c.maxLocals) {argsL rest : List Value} (hlen : ∀ sig, parseMethodDescriptor y.desc = some sig → argsL.length = sig.parameters.length)
    (hstack : g.stack = argsL.reverse ++ rest) (hW : 2 * g.monitorRoom + (rest.map fun v => v.category).sum ≤ W9) (hdg : decode c.code g.pc = .ok (.invokestatic index, 3))
    (hpre : ∀ vm₁, s.WarmedH vm₁ → Pre ⟨T.setVm vm₁, locs, cells, slots⟩ argsL.toArray) :
    (∃ (v : Option Value) (vm₁ : Vm) (B : Pt), s.WarmedH vm₁ ∧ Stand p l e R s m args below meth c B.U B.locs B.cells B.slots ∧ Post ⟨T.setVm vm₁, locs, cells, slots⟩ argsL.toArray v B ∧
      ∀ target, Steps p.tables e below (B.U.setTop { g with pc := g.pc + 3, stack := v.toList ++ rest }) target → Steps p.tables e below (T.setTop g) target) ∨
    (∃ (q : Addr) (vm₁ : Vm) (B : Pt), s.WarmedH vm₁ ∧ Stand p l e R s m args below meth c B.U B.locs B.cells B.slots ∧ PostX ⟨T.setVm vm₁, locs, cells, slots⟩ argsL.toArray q B ∧
      Steps p.tables e below (T.setTop g) ((B.U.setTop { g with stack := rest }).pushFrame (.throwing q))) := by
  obtain ⟨mk, hnamed⟩ := Cond.code_named hcode
  obtain ⟨methM, cM, hmethM, -, -, -, -, -, -, hsigM⟩ := Cond.code_spec hnamed hcode
  have hstatic : methM.isStatic = true := Cond.static_spec hnamed hmethM hstat
  obtain ⟨kP, hkP, -⟩ := className_of_methodNamed hnamed
  have hinitP : kP.init = .initialized := Cond.initialized_spec (findClass_of_methodNamed hnamed) hkP hinit
  obtain ⟨vm₁, X₁, hstep₁⟩ := X.invokestatic hexec hown hlink hnamed hmethM hstatic hkP hinitP hy (g := g) hg (argsL := argsL) (rest := rest) (hlen _ hsigM) hstack hdg
  rcases hK m meth c ⟨T.setVm vm₁, locs, cells, slots⟩ { g with stack := rest } (.invokestatic index) mk argsL.toArray X₁ hg hsize hdg hW (X₁.named hnamed) (hpre vm₁ X₁.warmed) with ⟨v, B, X', hpost, hsteps⟩ | ⟨q, B, X', hpost, hsteps⟩
  · exact Or.inl ⟨v, vm₁, B, X₁.warmed, X', hpost, fun target h => hstep₁ _ fun acts => by rw [doInvoke_state]; exact hsteps.trans h⟩
  · exact Or.inr ⟨q, vm₁, B, X₁.warmed, X', hpost, hstep₁ _ fun acts => by rw [doInvoke_state]; exact hsteps⟩
end Calls
theorem vx_cls {s : State} {T : State} {vm₁ : Vm} {E : String} {k : ClassId} (hW : s.WarmedH vm₁) (h : (T.setVm vm₁).vm.findClass E = some k) : s.vm.findClass E = some k := by
  have h1 : vm₁.findClass E = some k := h
  rw [hW.alike.findClass] at h1
  exact h1
/-- the method's frame g, with q thrown over it -/
def vx_W (p : Program) (l : Launch) (e : Env) (R : Room) (s : State) (m : MethodId) (args : Array Value) (below : List Frame) (meth : Method) (c : Code) (H : Heap) (locs : List Loc) (cells slots : Nat) (Q : State → Prop) (g : JFrame) (q : Addr) : Prop :=
  ∀ T : State, T.heap = H → Stand p l e R s m args below meth c T locs cells slots → ∃ t, Steps p.tables e below ((T.setTop g).pushFrame (.throwing q)) t ∧ Q t
def vx_Run (p : Program) (l : Launch) (e : Env) (R : Room) (s : State) (m : MethodId) (args : Array Value) (below : List Frame) (meth : Method) (c : Code) (H : Heap) (locs : List Loc) (cells slots mc ms : Nat) (g : JFrame) (rest : List Value) (Qa : State → Outcome → State → Prop) (XC : String → State → State → Prop) (free : Addr → Prop) : Prop :=
  ∀ T : State, T.heap = H → Stand p l e R s m args below meth c T locs cells slots →
    (∃ (v : Option Value) (st₀ t T' : State) (L : List Loc), st₀.heap = H ∧ Stand p l e R s m args below meth c T' (locs ++ L) (cells + mc) (slots + ms) ∧ (∀ q ∈ L, free q.base) ∧ T'.heap = t.heap ∧ T'.vm = t.vm ∧ Qa st₀ (.returned v) t ∧
      Goes p e below T g T' { g with pc := g.pc + 3, stack := v.toList ++ rest }) ∨
    (∃ (q : Addr) (st₀ t T' : State) (L : List Loc) (E : String) (ce : Cell), st₀.heap = H ∧ Stand p l e R s m args below meth c T' (locs ++ L) (cells + mc) (slots + ms) ∧ (∀ z ∈ L, free z.base) ∧ T'.heap = t.heap ∧ T'.vm = t.vm ∧ XC E st₀ t ∧ t.heap[q]? = some ce ∧ ce.vm = .none ∧ s.vm.findClass E = some ce.cls ∧
      Steps p.tables e below (T.setTop g) ((T'.setTop { g with stack := rest }).pushFrame (.throwing q)))
def vx_X {S : Type} (px : S → Prop) (B : String → S → State → Prop) (A : Nat → Prop) : String → State → State → Prop := fun E st t => ∃ u : S, px u ∧ B E u t ∧ va_F A st t
section Runs
variable {p : Program} {l : Launch} {e : Env} {R : Room} {s : State} {m : MethodId} {args : Array Value} {below : List Frame} {meth : Method} {c : Code} {H : Heap} {locs : List Loc} {cells slots : Nat}
variable {y : MethodName} {bytes cc : ByteArray} {maxL nL mc ms n index : Nat} {ret : Option FieldType} {ws : List Cond} {rm : Room} {Pc : Array Value → State → Prop} {Qc : Array Value → State → Outcome → State → Prop} {XC : String → State → State → Prop} {free : Addr → Prop} {Ts : List Cond} {own C : String} {b : Addr} {As rest : List Value} {g : JFrame}
theorem vx_callBack (cb : CallB R s args own index y bytes maxL ret ws rm mc ms n) (hM : vx_Met l y ws rm Pc Qc XC mc ms free) (hbl : FrameBlind Pc) : vx_Back l R p e below s args y 3 8 (PreOf R mc ms Pc) (PostOf Qc mc ms free) (vx_Post XC mc ms free) := by
  obtain ⟨hrc, hrs, hfr, hlo, hws, hcw, -, hini, -⟩ := cb
  exact vx_back (bytes := bytes) (maxL := maxL) (ret := ret) hM hbl hrc hrs hfr hlo hws hcw (fun a' U hW => word_at hW (Or.inl (by first | rfl | simp [Cond.onTables, Cond.keeps, Cond.steady])) hini)
theorem vx_runV (S : CallFix p m c cc nL s args Ts own) (hM : vx_Met l y ws rm Pc Qc XC mc ms free) (cw : CallW R s args own C index y bytes maxL ret ws rm mc ms n) (hp : PreV s H C b Pc As)
    (hg : g.method = m) (hn : As.length = n) (hsize : g.locals.size = nL) (hstack : g.stack = As.reverse ++ .ref b :: rest) (hW : 2 * g.monitorRoom + (rest.map fun v => v.category).sum ≤ 8) (hdg : decode cc g.pc = .ok (.invokevirtual index, 3)) (hf : cells + mc ≤ R.cells ∧ slots + ms ≤ R.slots) :
    vx_Run p l e R s m args below meth c H locs cells slots mc ms g rest (Qc (Value.ref b :: As).toArray) XC free := by
  have hK : vx_Back l R p e below s args y 3 8 (PreOf R mc ms Pc) (PostOf Qc mc ms free) (vx_Post XC mc ms free) := vx_callBack cw.1 hM hp.1
  obtain ⟨⟨-, -, -, -, -, -, hcode, -, hy, hlen, hl⟩, hin, hse⟩ := cw
  obtain ⟨hx, hb, hml, ho, -⟩ := S
  obtain ⟨-, ⟨cellB, hcB, hoB, hclB⟩, hPc⟩ := hp
  intro T hT X
  rcases vx_callV X hx (C := C) (bytes := bytes) (maxL := maxL) (ret := ret) ho hl hin hse hcode hy hK (by rw [hT]; exact hcB) hoB hclB hg (hsize.trans hml.symm) (argsL := As) (rest := rest) (fun sig h => hn.trans (hlen sig h)) hstack hW (by rw [hb]; exact hdg)
    (fun vm₁ hW₁ => ⟨hf.1, hf.2, hPc (T.setVm vm₁) hT hW₁⟩) with ⟨v, vm₁, ⟨U', l2, c2, s2⟩, hW₁, X', ⟨g', mk, t, L, e1, e2, hq, h1, hL, h2, h3⟩, st⟩ | ⟨q, vm₁, ⟨U', l2, c2, s2⟩, hW₁, X', ⟨g', mk, t, L, E, ce, e1, e2, hq, hce, hcv, hcl, h1, hL, h2, h3⟩, st⟩
  · dsimp only [Pt.U, Pt.locs, Pt.cells, Pt.slots] at X' e1 e2 h1 h2 h3 st
    subst h1; subst h2; subst h3
    exact Or.inl ⟨v, (T.setVm vm₁).calling g' mk (Value.ref b :: As).toArray, t, U', L, hT, X', hL, e1, e2, hq, st⟩
  · dsimp only [Pt.U, Pt.locs, Pt.cells, Pt.slots] at X' e1 e2 h1 h2 h3 st hcl
    subst h1; subst h2; subst h3
    exact Or.inr ⟨q, (T.setVm vm₁).calling g' mk (Value.ref b :: As).toArray, t, U', L, E, ce, hT, X', hL, e1, e2, hq, hce, hcv, vx_cls hW₁ hcl, st⟩
theorem vx_runS (S : CallFix p m c cc nL s args Ts own) (hM : vx_Met l y ws rm Pc Qc XC mc ms free) (cw : CallB R s args own index y bytes maxL ret ws rm mc ms n ∧ (Cond.static y).before args s = true) (hp : PreS s H Pc As)
    (hg : g.method = m) (hn : As.length = n) (hsize : g.locals.size = nL) (hstack : g.stack = As.reverse ++ rest) (hW : 2 * g.monitorRoom + (rest.map fun v => v.category).sum ≤ 8) (hdg : decode cc g.pc = .ok (.invokestatic index, 3)) (hf : cells + mc ≤ R.cells ∧ slots + ms ≤ R.slots) :
    vx_Run p l e R s m args below meth c H locs cells slots mc ms g rest (Qc As.toArray) XC free := by
  have hK : vx_Back l R p e below s args y 3 8 (PreOf R mc ms Pc) (PostOf Qc mc ms free) (vx_Post XC mc ms free) := vx_callBack cw.1 hM hp.1
  obtain ⟨⟨-, -, -, -, -, -, hcode, hini, hy, hlen, hl⟩, hstt⟩ := cw
  obtain ⟨hx, hb, hml, ho, -⟩ := S
  intro T hT X
  rcases vx_callS X hx (bytes := bytes) (maxL := maxL) (ret := ret) ho hl hstt hini hcode hy hK hg (hsize.trans hml.symm) (argsL := As) (rest := rest) (fun sig h => hn.trans (hlen sig h)) hstack hW (by rw [hb]; exact hdg)
    (fun vm₁ hW₁ => ⟨hf.1, hf.2, hp.2 (T.setVm vm₁) hT hW₁⟩) with ⟨v, vm₁, ⟨U', l2, c2, s2⟩, hW₁, X', ⟨g', mk, t, L, e1, e2, hq, h1, hL, h2, h3⟩, st⟩ | ⟨q, vm₁, ⟨U', l2, c2, s2⟩, hW₁, X', ⟨g', mk, t, L, E, ce, e1, e2, hq, hce, hcv, hcl, h1, hL, h2, h3⟩, st⟩
  · dsimp only [Pt.U, Pt.locs, Pt.cells, Pt.slots] at X' e1 e2 h1 h2 h3 st
    subst h1; subst h2; subst h3
    exact Or.inl ⟨v, (T.setVm vm₁).calling g' mk As.toArray, t, U', L, hT, X', hL, e1, e2, hq, st⟩
  · dsimp only [Pt.U, Pt.locs, Pt.cells, Pt.slots] at X' e1 e2 h1 h2 h3 st hcl
    subst h1; subst h2; subst h3
    exact Or.inr ⟨q, (T.setVm vm₁).calling g' mk As.toArray, t, U', L, E, ce, hT, X', hL, e1, e2, hq, hce, hcv, vx_cls hW₁ hcl, st⟩
end Runs
section Rows
variable {p : Program} {l : Launch} {e : Env} {R : Room} {s : State} {m : MethodId} {args : Array Value} {below : List Frame} {meth : Method} {c : Code} {H : Heap} {locs : List Loc} {cells slots : Nat} {Q : State → Prop}
variable {mc ms : Nat} {free : Addr → Prop} {A0 A1 : Nat → Prop} {H0 : Heap} {a : Array Value} {pc : Nat} {ls : Array Slot} {st0 rest : List Value}
theorem vx_keep {st₀ t T' : State} {L : List Loc} (h0 : st₀.heap = H) (e1 : T'.heap = t.heap) (hS : va_S A0 H0 H locs) (hA : ∀ q, q < H.size → A1 q → A0 q) (hf : ∀ q, free q → A0 q) (hL : ∀ q ∈ L, free q.base) (hF : va_F A1 st₀ t) :
    H.size ≤ T'.heap.size ∧ (∀ q : Nat, q < H.size → ¬ A1 q → T'.heap[q]? = H[q]?) ∧ va_S A0 H0 T'.heap (locs ++ L) := by
  obtain ⟨hz, hk⟩ := hF
  rw [h0] at hz hk
  exact ⟨by rw [e1]; exact hz, fun q h1 h2 => by rw [e1]; exact hk q h1 h2,
    ⟨Nat.le_trans hS.1 (by rw [e1]; exact hz), fun q h1 h2 => by rw [e1, hk q (Nat.lt_of_lt_of_le h1 hS.1) (fun z => h2 (hA q (Nat.lt_of_lt_of_le h1 hS.1) z))]; exact hS.2.1 q h1 h2, fun q hq => by
      rcases List.mem_append.mp hq with h | h
      · exact hS.2.2 q h
      · exact hf _ (hL q h)⟩⟩
theorem vx_calli {S SX : Type} {post : Int32 → S → Prop} {px : SX → Prop} {B : S → State → Prop} {BX : String → SX → State → Prop} {AX : Nat → Prop} (hr : vx_Run p l e R s m args below meth c H locs cells slots mc ms (F0 m pc ls st0) rest (va_Qi post B A1 a) (vx_X px BX AX) free) (hS : va_S A0 H0 H locs) (hA : ∀ q, q < H.size → A1 q → A0 q) (hf : ∀ q, free q → A0 q) (hAX : ∀ q, q < H.size → AX q → A0 q)
    (kx : ∀ (E : String) (ce : Cell) (q9 : Addr) (u : SX) (t : State) (H1 : Heap) (locs1 : List Loc), t.heap = H1 → s.vm.Alike t.vm → px u → BX E u t → H.size ≤ H1.size → (∀ q : Nat, q < H.size → ¬ AX q → H1[q]? = H[q]?) → va_S A0 H0 H1 locs1 → H1[q9]? = some ce → ce.vm = .none → s.vm.findClass E = some ce.cls → vx_W p l e R s m args below meth c H1 locs1 (cells + mc) (slots + ms) Q (F0 m pc ls rest) q9)
    (kk : ∀ (r : Int32) (u : S) (t : State) (H1 : Heap) (locs1 : List Loc), t.heap = H1 → s.vm.Alike t.vm → post r u → B u t → H.size ≤ H1.size → (∀ q : Nat, q < H.size → ¬ A1 q → H1[q]? = H[q]?) → va_S A0 H0 H1 locs1 → W p l e R s m args below meth c H1 locs1 (cells + mc) (slots + ms) Q (F0 m (pc + 3) ls (.int r :: rest))) : W p l e R s m args below meth c H locs cells slots Q (F0 m pc ls st0) := by
  intro T hT X
  rcases hr T hT X with ⟨v, st₀, t, T', L, h0, X', hL, e1, e2, ⟨⟨r, u, hv, hp, hb⟩, hF⟩, st⟩ | ⟨q, st₀, t, T', L, E, ce, h0, X', hL, e1, e2, ⟨u, hp, hb, hF⟩, hce, hcv, hcl, st⟩
  · cases hv
    obtain ⟨k1, k2, k3⟩ := vx_keep h0 e1 hS hA hf hL hF
    obtain ⟨t2, a1, b1⟩ := kk r u t T'.heap (locs ++ L) e1.symm (by rw [← e2]; exact X'.warmed.alike) hp hb k1 k2 k3 T' rfl X'
    exact ⟨t2, st t2 a1, b1⟩
  · obtain ⟨k1, k2, k3⟩ := vx_keep h0 e1 hS hAX hf hL hF
    obtain ⟨t2, a1, b1⟩ := kx E ce q u t T'.heap (locs ++ L) e1.symm (by rw [← e2]; exact X'.warmed.alike) hp hb k1 k2 k3 (by rw [e1]; exact hce) hcv hcl T' rfl X'
    exact ⟨t2, st.trans a1, b1⟩
theorem vx_calll {S SX : Type} {post : Int64 → S → Prop} {px : SX → Prop} {B : S → State → Prop} {BX : String → SX → State → Prop} {AX : Nat → Prop} (hr : vx_Run p l e R s m args below meth c H locs cells slots mc ms (F0 m pc ls st0) rest (va_Ql post B A1 a) (vx_X px BX AX) free) (hS : va_S A0 H0 H locs) (hA : ∀ q, q < H.size → A1 q → A0 q) (hf : ∀ q, free q → A0 q) (hAX : ∀ q, q < H.size → AX q → A0 q)
    (kx : ∀ (E : String) (ce : Cell) (q9 : Addr) (u : SX) (t : State) (H1 : Heap) (locs1 : List Loc), t.heap = H1 → s.vm.Alike t.vm → px u → BX E u t → H.size ≤ H1.size → (∀ q : Nat, q < H.size → ¬ AX q → H1[q]? = H[q]?) → va_S A0 H0 H1 locs1 → H1[q9]? = some ce → ce.vm = .none → s.vm.findClass E = some ce.cls → vx_W p l e R s m args below meth c H1 locs1 (cells + mc) (slots + ms) Q (F0 m pc ls rest) q9)
    (kk : ∀ (r : Int64) (u : S) (t : State) (H1 : Heap) (locs1 : List Loc), t.heap = H1 → s.vm.Alike t.vm → post r u → B u t → H.size ≤ H1.size → (∀ q : Nat, q < H.size → ¬ A1 q → H1[q]? = H[q]?) → va_S A0 H0 H1 locs1 → W p l e R s m args below meth c H1 locs1 (cells + mc) (slots + ms) Q (F0 m (pc + 3) ls (.long r :: rest))) : W p l e R s m args below meth c H locs cells slots Q (F0 m pc ls st0) := by
  intro T hT X
  rcases hr T hT X with ⟨v, st₀, t, T', L, h0, X', hL, e1, e2, ⟨⟨r, u, hv, hp, hb⟩, hF⟩, st⟩ | ⟨q, st₀, t, T', L, E, ce, h0, X', hL, e1, e2, ⟨u, hp, hb, hF⟩, hce, hcv, hcl, st⟩
  · cases hv
    obtain ⟨k1, k2, k3⟩ := vx_keep h0 e1 hS hA hf hL hF
    obtain ⟨t2, a1, b1⟩ := kk r u t T'.heap (locs ++ L) e1.symm (by rw [← e2]; exact X'.warmed.alike) hp hb k1 k2 k3 T' rfl X'
    exact ⟨t2, st t2 a1, b1⟩
  · obtain ⟨k1, k2, k3⟩ := vx_keep h0 e1 hS hAX hf hL hF
    obtain ⟨t2, a1, b1⟩ := kx E ce q u t T'.heap (locs ++ L) e1.symm (by rw [← e2]; exact X'.warmed.alike) hp hb k1 k2 k3 (by rw [e1]; exact hce) hcv hcl T' rfl X'
    exact ⟨t2, st.trans a1, b1⟩
theorem vx_callf {S SX : Type} {post : UInt32 → S → Prop} {px : SX → Prop} {B : S → State → Prop} {BX : String → SX → State → Prop} {AX : Nat → Prop} (hr : vx_Run p l e R s m args below meth c H locs cells slots mc ms (F0 m pc ls st0) rest (va_Qf post B A1 a) (vx_X px BX AX) free) (hS : va_S A0 H0 H locs) (hA : ∀ q, q < H.size → A1 q → A0 q) (hf : ∀ q, free q → A0 q) (hAX : ∀ q, q < H.size → AX q → A0 q)
    (kx : ∀ (E : String) (ce : Cell) (q9 : Addr) (u : SX) (t : State) (H1 : Heap) (locs1 : List Loc), t.heap = H1 → s.vm.Alike t.vm → px u → BX E u t → H.size ≤ H1.size → (∀ q : Nat, q < H.size → ¬ AX q → H1[q]? = H[q]?) → va_S A0 H0 H1 locs1 → H1[q9]? = some ce → ce.vm = .none → s.vm.findClass E = some ce.cls → vx_W p l e R s m args below meth c H1 locs1 (cells + mc) (slots + ms) Q (F0 m pc ls rest) q9)
    (kk : ∀ (r : UInt32) (u : S) (t : State) (H1 : Heap) (locs1 : List Loc), t.heap = H1 → s.vm.Alike t.vm → post r u → B u t → H.size ≤ H1.size → (∀ q : Nat, q < H.size → ¬ A1 q → H1[q]? = H[q]?) → va_S A0 H0 H1 locs1 → W p l e R s m args below meth c H1 locs1 (cells + mc) (slots + ms) Q (F0 m (pc + 3) ls (.float r :: rest))) : W p l e R s m args below meth c H locs cells slots Q (F0 m pc ls st0) := by
  intro T hT X
  rcases hr T hT X with ⟨v, st₀, t, T', L, h0, X', hL, e1, e2, ⟨⟨r, u, hv, hp, hb⟩, hF⟩, st⟩ | ⟨q, st₀, t, T', L, E, ce, h0, X', hL, e1, e2, ⟨u, hp, hb, hF⟩, hce, hcv, hcl, st⟩
  · cases hv
    obtain ⟨k1, k2, k3⟩ := vx_keep h0 e1 hS hA hf hL hF
    obtain ⟨t2, a1, b1⟩ := kk r u t T'.heap (locs ++ L) e1.symm (by rw [← e2]; exact X'.warmed.alike) hp hb k1 k2 k3 T' rfl X'
    exact ⟨t2, st t2 a1, b1⟩
  · obtain ⟨k1, k2, k3⟩ := vx_keep h0 e1 hS hAX hf hL hF
    obtain ⟨t2, a1, b1⟩ := kx E ce q u t T'.heap (locs ++ L) e1.symm (by rw [← e2]; exact X'.warmed.alike) hp hb k1 k2 k3 (by rw [e1]; exact hce) hcv hcl T' rfl X'
    exact ⟨t2, st.trans a1, b1⟩
theorem vx_calld {S SX : Type} {post : UInt64 → S → Prop} {px : SX → Prop} {B : S → State → Prop} {BX : String → SX → State → Prop} {AX : Nat → Prop} (hr : vx_Run p l e R s m args below meth c H locs cells slots mc ms (F0 m pc ls st0) rest (va_Qd post B A1 a) (vx_X px BX AX) free) (hS : va_S A0 H0 H locs) (hA : ∀ q, q < H.size → A1 q → A0 q) (hf : ∀ q, free q → A0 q) (hAX : ∀ q, q < H.size → AX q → A0 q)
    (kx : ∀ (E : String) (ce : Cell) (q9 : Addr) (u : SX) (t : State) (H1 : Heap) (locs1 : List Loc), t.heap = H1 → s.vm.Alike t.vm → px u → BX E u t → H.size ≤ H1.size → (∀ q : Nat, q < H.size → ¬ AX q → H1[q]? = H[q]?) → va_S A0 H0 H1 locs1 → H1[q9]? = some ce → ce.vm = .none → s.vm.findClass E = some ce.cls → vx_W p l e R s m args below meth c H1 locs1 (cells + mc) (slots + ms) Q (F0 m pc ls rest) q9)
    (kk : ∀ (r : UInt64) (u : S) (t : State) (H1 : Heap) (locs1 : List Loc), t.heap = H1 → s.vm.Alike t.vm → post r u → B u t → H.size ≤ H1.size → (∀ q : Nat, q < H.size → ¬ A1 q → H1[q]? = H[q]?) → va_S A0 H0 H1 locs1 → W p l e R s m args below meth c H1 locs1 (cells + mc) (slots + ms) Q (F0 m (pc + 3) ls (.double r :: rest))) : W p l e R s m args below meth c H locs cells slots Q (F0 m pc ls st0) := by
  intro T hT X
  rcases hr T hT X with ⟨v, st₀, t, T', L, h0, X', hL, e1, e2, ⟨⟨r, u, hv, hp, hb⟩, hF⟩, st⟩ | ⟨q, st₀, t, T', L, E, ce, h0, X', hL, e1, e2, ⟨u, hp, hb, hF⟩, hce, hcv, hcl, st⟩
  · cases hv
    obtain ⟨k1, k2, k3⟩ := vx_keep h0 e1 hS hA hf hL hF
    obtain ⟨t2, a1, b1⟩ := kk r u t T'.heap (locs ++ L) e1.symm (by rw [← e2]; exact X'.warmed.alike) hp hb k1 k2 k3 T' rfl X'
    exact ⟨t2, st t2 a1, b1⟩
  · obtain ⟨k1, k2, k3⟩ := vx_keep h0 e1 hS hAX hf hL hF
    obtain ⟨t2, a1, b1⟩ := kx E ce q u t T'.heap (locs ++ L) e1.symm (by rw [← e2]; exact X'.warmed.alike) hp hb k1 k2 k3 (by rw [e1]; exact hce) hcv hcl T' rfl X'
    exact ⟨t2, st.trans a1, b1⟩
theorem vx_callv {S SX : Type} {post : S → Prop} {px : SX → Prop} {B : S → State → Prop} {BX : String → SX → State → Prop} {AX : Nat → Prop} (hr : vx_Run p l e R s m args below meth c H locs cells slots mc ms (F0 m pc ls st0) rest (va_Qv post B A1 a) (vx_X px BX AX) free) (hS : va_S A0 H0 H locs) (hA : ∀ q, q < H.size → A1 q → A0 q) (hf : ∀ q, free q → A0 q) (hAX : ∀ q, q < H.size → AX q → A0 q)
    (kx : ∀ (E : String) (ce : Cell) (q9 : Addr) (u : SX) (t : State) (H1 : Heap) (locs1 : List Loc), t.heap = H1 → s.vm.Alike t.vm → px u → BX E u t → H.size ≤ H1.size → (∀ q : Nat, q < H.size → ¬ AX q → H1[q]? = H[q]?) → va_S A0 H0 H1 locs1 → H1[q9]? = some ce → ce.vm = .none → s.vm.findClass E = some ce.cls → vx_W p l e R s m args below meth c H1 locs1 (cells + mc) (slots + ms) Q (F0 m pc ls rest) q9)
    (kk : ∀ (u : S) (t : State) (H1 : Heap) (locs1 : List Loc), t.heap = H1 → s.vm.Alike t.vm → post u → B u t → H.size ≤ H1.size → (∀ q : Nat, q < H.size → ¬ A1 q → H1[q]? = H[q]?) → va_S A0 H0 H1 locs1 → W p l e R s m args below meth c H1 locs1 (cells + mc) (slots + ms) Q (F0 m (pc + 3) ls (rest))) : W p l e R s m args below meth c H locs cells slots Q (F0 m pc ls st0) := by
  intro T hT X
  rcases hr T hT X with ⟨v, st₀, t, T', L, h0, X', hL, e1, e2, ⟨⟨u, hv, hp, hb⟩, hF⟩, st⟩ | ⟨q, st₀, t, T', L, E, ce, h0, X', hL, e1, e2, ⟨u, hp, hb, hF⟩, hce, hcv, hcl, st⟩
  · cases hv
    obtain ⟨k1, k2, k3⟩ := vx_keep h0 e1 hS hA hf hL hF
    obtain ⟨t2, a1, b1⟩ := kk u t T'.heap (locs ++ L) e1.symm (by rw [← e2]; exact X'.warmed.alike) hp hb k1 k2 k3 T' rfl X'
    exact ⟨t2, st t2 a1, b1⟩
  · obtain ⟨k1, k2, k3⟩ := vx_keep h0 e1 hS hAX hf hL hF
    obtain ⟨t2, a1, b1⟩ := kx E ce q u t T'.heap (locs ++ L) e1.symm (by rw [← e2]; exact X'.warmed.alike) hp hb k1 k2 k3 (by rw [e1]; exact hce) hcv hcl T' rfl X'
    exact ⟨t2, st.trans a1, b1⟩
/-- caught by the row x of this method's table; the rows ahead don't take it -/
theorem vx_catch {own name : String} {E : String} {ce : Cell} {q : Addr} (hown : s.vm.findClass own = some m.cls) (pre : List ExceptionTableEntry) (x : ExceptionTableEntry) (suf : List ExceptionTableEntry) (hsplit : c.exceptionTable.toList = pre ++ x :: suf)
    (hpass : ∀ z ∈ pre, covers z pc = false ∨ (z.catchType ≠ 0 ∧ ∃ nm : String, (Cond.classLink own z.catchType nm).before args s = true ∧ va_Nc E nm s)) (hx : covers x pc = true) (h0 : x.catchType ≠ 0)
    (hlink : (Cond.classLink own x.catchType name).before args s = true) (hcast : (Cond.castable E name).before args s = true) (hcell : H[q]? = some ce) (hv : ce.vm = .none) (hcl : s.vm.findClass E = some ce.cls)
    (kk : W p l e R s m args below meth c H locs cells slots Q (F0 m x.handlerPc ls [.ref q])) : vx_W p l e R s m args below meth c H locs cells slots Q (F0 m pc ls rest) q := by
  intro T hT X
  have hpl : e.platform.magicAccessors = ({} : Platform).magicAccessors := by rw [X.admits.platform]
  obtain ⟨c3, c4, hc3, hc4, hasg⟩ := Cond.castable_spec hcast
  cases Option.some.inj (hc3.symm.trans hcl)
  obtain ⟨c5, hc5, hcl5⟩ := Cond.classLink_spec hown hlink e.platform hpl
  cases Option.some.inj (hc4.symm.trans hc5)
  obtain ⟨vm', X', st⟩ := tc_through X q (g := F0 m pc ls rest) rfl (by rw [hT]; exact hcell) (by rw [hv]; rfl) (by obtain ⟨k9, h9, -⟩ := Vm.findClass_spec hcl; exact ⟨k9, h9⟩) pre x suf hsplit
    (fun z hz => by
      rcases hpass z hz with h | ⟨hz0, nm, hl1, hn1⟩
      · exact Or.inl h
      · obtain ⟨c6, hc6, hcl6⟩ := Cond.classLink_spec hown hl1 e.platform hpl
        obtain ⟨a8, b8, h1, h2, h3⟩ := hn1
        cases Option.some.inj (h1.symm.trans hcl)
        cases Option.some.inj (h2.symm.trans hc6)
        exact Or.inr ⟨hz0, _, hcl6, h3⟩) hx h0 hcl5 hasg
  obtain ⟨t, a1, b1⟩ := kk (T.setVm vm') hT X'
  exact ⟨t, st.trans a1, b1⟩
end Rows
section Ends
variable {p : Program} {l : Launch} {e : Env} {R : Room} {s : State} {m : MethodId} {args : Array Value} {below : List Frame} {meth : Method} {c : Code} {H : Heap} {locs : List Loc} {cells slots : Nat} {Q : State → Prop}
variable {mc ms : Nat} {free : Addr → Prop} {A0 A1 : Nat → Prop} {H0 : Heap} {a : Array Value} {ls : Array Slot} {st0 rest : List Value}
variable {Qc : Array Value → State → Outcome → State → Prop} {XC : String → State → State → Prop}
/-- what a body that may throw owes at its end -/
def vx_MQ (below : List Frame) (Qc : Array Value → State → Outcome → State → Prop) (XC : String → State → State → Prop) (a : Array Value) (s : State) (mc ms : Nat) (free : Addr → Prop) : State → Prop := fun t =>
  ∃ o, t.status = .running ∧ Ended t below o ∧ vx_Q Qc XC mc ms free a s o t
theorem vx_ret {g : JFrame} {mc ms : Nat} (k : W p l e R s m args below meth c H locs cells slots (MQ below Qc args s mc ms free) g) : W p l e R s m args below meth c H locs cells slots (vx_MQ below Qc XC args s mc ms free) g := by
  intro T hT X
  obtain ⟨t, a1, o, b1, b2, b3, b4⟩ := k T hT X
  exact ⟨t, a1, o, b1, b2, Or.inl ⟨b3, b4⟩⟩
/-- not caught here: it goes on to the caller -/
theorem vx_widen {g : JFrame} {q : Addr} {k n : Nat} (h1 : cells ≤ k) (h2 : slots ≤ n) (kk : vx_W p l e R s m args below meth c H locs k n Q g q) : vx_W p l e R s m args below meth c H locs cells slots Q g q := fun T hT X => kk T hT (stand_widen X h1 h2)
theorem vx_out {pc : Nat} {E : String} {ce : Cell} {q : Addr} {mc ms : Nat} (hout : ∀ x ∈ c.exceptionTable.toList, covers x pc = false) (hlocks : meth.locks = false) (hcell : H[q]? = some ce) (hv : ce.vm = .none) (hcl : s.vm.findClass E = some ce.cls)
    (hx : ∀ t : State, t.heap = H → s.vm.Alike t.vm → XC E s t) (hf : ∀ z ∈ locs, free z.base) (hc : cells ≤ mc) (hs : slots ≤ ms) :
    vx_W p l e R s m args below meth c H locs cells slots (vx_MQ below Qc XC args s mc ms free) (F0 m pc ls rest) q := by
  intro T hT X
  obtain ⟨st1, hrun, hend, hW, hsm⟩ := X.leaveThrown q (g := F0 m pc ls rest) rfl rfl rfl hout hlocks
  have hcell9 : (T.setFrames (.throwing q :: below)).heap[q]? = some ce := by
    show T.heap[q]? = some ce
    rw [hT]; exact hcell
  exact ⟨_, st1, .threw q, hrun, hend, Or.inr ⟨q, rfl, E, ce, locs, hx _ hT hW.alike, hcell9, hv, hcl, hW, hsm.mono hc hs, hf⟩⟩
theorem vx_frame {U : State} {k n : Nat} (h : s.sameButNew ({ U with vm := s.vm } : State) locs k n) : s.heap.size ≤ U.heap.size ∧ ∀ q : Nat, q < s.heap.size → (∀ z ∈ locs, z.base ≠ q) → U.heap[q]? = s.heap[q]? := by
  obtain ⟨-, h2, -, -, -, h6⟩ := h
  refine ⟨h2, fun q hq hz => ?_⟩
  obtain ⟨c9, e1, e2, e3, e4⟩ := h6 q _ (Array.getElem?_eq_getElem hq)
  have hs : c9.slots = (s.heap[q]).slots := Array.ext_getElem? fun i => e4 i fun hm => hz _ hm rfl
  have h9 : c9 = s.heap[q] := by
    rw [hs] at e2
    exact e2
  have e5 : U.heap[q]? = some c9 := e1
  rw [e5, h9, Array.getElem?_eq_getElem hq]
/-- the words of a throw but the four that speak of the heap -/
def vx_no (w : Cond) : Bool := decide (w ≠ .isRef (.static Bundle.tN "UNASSIGNED_STACK" Bundle.steD)) && decide (w ≠ .isRef (.static Bundle.tN "SUPPRESSED_SENTINEL" Bundle.listD)) && decide (w ≠ .laysStatic Bundle.tN "UNASSIGNED_STACK" Bundle.steD) && decide (w ≠ .laysStatic Bundle.tN "SUPPRESSED_SENTINEL" Bundle.listD)
def vx_at0 (own : String) (ic : Nat) (X : String) (names : List String) : List Cond := (Bundle.ownAtoms0 own ic X names).filter vx_no
def vx_atS (own : String) (ic : Nat) (X : String) (names : List String) : List Cond := (Bundle.ownAtoms own ic X names).filter vx_no
/-- a word that the tables alone decide, or a good one -/
def vx_ot (w : Cond) : Bool := w.onTables || goodWord w
theorem vx_ot_at {args a' : Array Value} {s U : State} {w : Cond} (hW : s.WarmedH U.vm) (hvm : s.vm = U.vm) (hg : vx_ot w = true) (h : w.before args s = true) : w.before a' U = true := by
  simp only [vx_ot, Bool.or_eq_true] at hg
  rcases hg with hg | hg
  · exact va_tabs hg hvm h
  · exact word_at hW (good_of_word hg) h
/-- a list's words: the good ones out of the method's own list, the others by premises of their own -/
theorem vx_hat {args : Array Value} {s : State} {L B : List Cond} (h1 : ∀ w ∈ L.filter goodWord, w.before args s = true) (h2 : ∀ w ∈ L.filter (fun w => !goodWord w), w ∈ B) (h3 : ∀ w ∈ B, w.before args s = true) : ∀ w ∈ L, w.before args s = true := by
  intro w hw
  by_cases g : goodWord w = true
  · exact h1 w (List.mem_filter.mpr ⟨hw, g⟩)
  · refine h3 w (h2 w (List.mem_filter.mpr ⟨hw, ?_⟩))
    show (!goodWord w) = true
    cases hgw : goodWord w
    · rfl
    · exact absurd hgw g
theorem vx_c {args : Array Value} {s : State} {w : Cond} {B : List Cond} (h : w.before args s = true) (t : ∀ w ∈ B, w.before args s = true) : ∀ w' ∈ w :: B, w'.before args s = true := fun w' h' => (List.mem_cons.mp h').elim (fun e => by rw [e]; exact h) (t w')
theorem vx_n {args : Array Value} {s : State} : ∀ w ∈ ([] : List Cond), w.before args s = true := fun _ h => nomatch h
theorem vx_own {args : Array Value} {s : State} {L : List Cond} (h1 : ∀ w ∈ L.filter vx_no, w.before args s = true)
    (hU : (Cond.isRef (.static Bundle.tN "UNASSIGNED_STACK" Bundle.steD)).before args s = true) (hN : (Cond.isRef (.static Bundle.tN "SUPPRESSED_SENTINEL" Bundle.listD)).before args s = true)
    (lU : (Cond.laysStatic Bundle.tN "UNASSIGNED_STACK" Bundle.steD).before args s = true) (lN : (Cond.laysStatic Bundle.tN "SUPPRESSED_SENTINEL" Bundle.listD).before args s = true) : ∀ w ∈ L, w.before args s = true := by
  intro w hw
  by_cases e1 : w = .isRef (.static Bundle.tN "UNASSIGNED_STACK" Bundle.steD)
  · rw [e1]; exact hU
  · by_cases e2 : w = .isRef (.static Bundle.tN "SUPPRESSED_SENTINEL" Bundle.listD)
    · rw [e2]; exact hN
    · by_cases e3 : w = .laysStatic Bundle.tN "UNASSIGNED_STACK" Bundle.steD
      · rw [e3]; exact lU
      · by_cases e4 : w = .laysStatic Bundle.tN "SUPPRESSED_SENTINEL" Bundle.listD
        · rw [e4]; exact lN
        · exact h1 w (List.mem_filter.mpr ⟨hw, by unfold vx_no; rw [decide_eq_true e1, decide_eq_true e2, decide_eq_true e3, decide_eq_true e4]; rfl⟩)
/-- where a static field lies, its class's statics cell in H -/
def vx_L (C n d : String) (A : Nat → Prop) (U : State) (H : Heap) : Prop := ∃ (c : ClassId) (k : Class) (i : Nat) (f : Field) (a : Nat) (cell : Cell), U.vm.findClass C = some c ∧ U.fieldFound? C n d = some (c, k, i, f) ∧ f.isStatic = true ∧ k.statics = some a ∧ H[a]? = some cell ∧ cell.vm.isStatics = true ∧ cell.cls = c ∧ f.slot < cell.slots.size ∧ k.staticTypes[f.slot]? = some f.type ∧ ¬ A a
theorem vx_L.moved {C n d : String} {A : Nat → Prop} {u U : State} {H : Heap} (hvm : u.vm.Alike U.vm) (h : vx_L C n d A u H) : vx_L C n d A U H := by
  obtain ⟨c, k, i, f, a, cell, h1, h2, h3, h4, h5, h6, h7, h8, h9, h10⟩ := h
  obtain ⟨k', hi', he⟩ := State.fieldFound?_setVm hvm h2
  exact ⟨c, k', i, f, a, cell, by rw [hvm.findClass]; exact h1, hi', h3, by rw [he]; exact h4, h5, h6, h7, h8, by rw [he]; exact h9, h10⟩
theorem vx_L.kept {C n d : String} {A : Nat → Prop} {U : State} {H H1 : Heap} (h : vx_L C n d A U H) (hq : ∀ a : Nat, a < H.size → ¬ A a → H1[a]? = H[a]?) : vx_L C n d A U H1 := by
  obtain ⟨c, k, i, f, a, cell, h1, h2, h3, h4, h5, h6, h7, h8, h9, h10⟩ := h
  exact ⟨c, k, i, f, a, cell, h1, h2, h3, h4, by rw [hq a (Array.getElem?_eq_some_iff.mp h5).1 h10]; exact h5, h6, h7, h8, h9, h10⟩
theorem vx_L.narrow {C n d : String} {A B : Nat → Prop} {U : State} {H : Heap} (h : vx_L C n d A U H) (hAB : ∀ q, B q → A q) : vx_L C n d B U H := by
  obtain ⟨c, k, i, f, a, cell, h1, h2, h3, h4, h5, h6, h7, h8, h9, h10⟩ := h
  exact ⟨c, k, i, f, a, cell, h1, h2, h3, h4, h5, h6, h7, h8, h9, fun z => h10 (hAB _ z)⟩
theorem vx_L.word {C n d : String} {A : Nat → Prop} {s : State} {args : Array Value} (h : vx_L C n d A s s.heap) : (Cond.laysStatic C n d).before args s = true := by
  obtain ⟨c, k, i, f, a, cell, h1, h2, h3, h4, h5, h6, h7, h8, h9, -⟩ := h
  show (Cond.laysStatic C n d).holds args s none s [] = true
  exact Cond.laysStatic_of h1 h2 h3 h4 h5 h6 h7 h8 h9
/-- .. and what it holds: null or some reference -/
def vx_Zq (C n d : String) (A : Nat → Prop) (U : State) (H : Heap) : Prop := va_Zq C n d A U H ∧ vx_L C n d A U H
theorem vx_Zq.moved {C n d : String} {A : Nat → Prop} {u U : State} {H : Heap} (hvm : u.vm.Alike U.vm) (h : vx_Zq C n d A u H) : vx_Zq C n d A U H := ⟨va_Zq.moved hvm h.1, vx_L.moved hvm h.2⟩
theorem vx_Zq.kept {C n d : String} {A : Nat → Prop} {U : State} {H H1 : Heap} (h : vx_Zq C n d A U H) (hq : ∀ a : Nat, a < H.size → ¬ A a → H1[a]? = H[a]?) : vx_Zq C n d A U H1 := ⟨va_Zq.kept h.1 hq, vx_L.kept h.2 hq⟩
theorem vx_Zq.narrow {C n d : String} {A B : Nat → Prop} {U : State} {H : Heap} (h : vx_Zq C n d A U H) (hAB : ∀ q, B q → A q) : vx_Zq C n d B U H := ⟨va_Zq.narrow h.1 hAB, vx_L.narrow h.2 hAB⟩
theorem vx_Zqof {args : Array Value} {s : State} {C n d : String} {A : Nat → Prop} (hl : (Cond.laysStatic C n d).before args s = true) (hini : (Cond.initialized C).before args s = true) (h : (Cond.isRef (.static C n d)).before args s = true) (hA : ∀ a : Nat, a < s.heap.size → ¬ A a) : vx_Zq C n d A s s.heap := by
  refine ⟨va_Zqof hl hini h hA, ?_⟩
  obtain ⟨c, k, i, f, a, cell, h1, h2, h3, h4, h5, h6, h7, h8, h9⟩ := Cond.laysStatic_spec hl
  exact ⟨c, k, i, f, a, cell, h1, h2, h3, h4, h5, h6, h7, h8, h9, hA a (Array.getElem?_eq_some_iff.mp h5).1⟩
theorem vx_isRef {C n d : String} {v : Value} {A : Nat → Prop} {s : State} {args : Array Value} (h : va_Z C n d v A s s.heap) (hv : v.isRef = true) : (Cond.isRef (.static C n d)).before args s = true := by
  obtain ⟨cf, kf, fi, f, a, cell, h1, h2, h3, h4, h5, h6, h7, -⟩ := h
  have he : (Term.static C n d).eval args s none [] s = some v := by
    simp [Term.eval, State.fieldNamed?, h1, h2, h4, h5, h6, h7]
  simp only [Cond.before, Cond.holds, Cond.value, he]
  cases v <;> simp_all [Value.isRef]
theorem vx_isRefq {C n d : String} {A : Nat → Prop} {s : State} {args : Array Value} (h : va_Zq C n d A s s.heap) : (Cond.isRef (.static C n d)).before args s = true := by
  rcases h with h | ⟨t, h⟩
  · exact vx_isRef h rfl
  · exact vx_isRef h rfl
/-- the same frame, seen from here: as if the method were called anew in this heap -/
theorem vx_rebase {T : State} (X : Stand p l e R s m args below meth c T locs cells slots) {R' : Room} (hf : R'.frames ≤ R.frames) (hl : R'.locals ≤ R.locals) (hc : cells + R'.cells ≤ R.cells) (hs : slots + R'.slots ≤ R.slots) :
    Stand p l e R' ((T.setVm s.vm).setFrames (.invoking m args :: below)) m args below meth c T [] 0 0 := by
  have htop : (T.setVm s.vm).topJava?.isSome := X.here.top
  have hF : ((T.setVm s.vm).setFrames (.invoking m args :: below)).frames = .invoking m args :: below := State.frames_setFrames _ (State.cur_lt_of_top htop)
  obtain ⟨g₀, hg0⟩ := Option.isSome_iff_exists.mp htop
  obtain ⟨r, hr⟩ := State.topJava?_eq_some.mp hg0
  have hl9 : e.platform.stackLimits (T.setVm s.vm).me = e.platform.stackLimits s.me := X.limits
  have hb9 : (T.setVm s.vm).me.stackBytes = s.me.stackBytes := X.bytes
  refine ⟨X.admits, X.cas, X.clock, hF, ?_, X.hears, X.method, X.code, X.here, X.tail, X.warmed, ?_, ?_, ?_⟩
  · have h := X.room
    have hU : ((T.setVm s.vm).setFrames (.invoking m args :: below)).localsInUse = s.localsInUse := by
      rw [State.localsInUse_invoking hF (meth := meth) (c := c) X.method X.code, State.localsInUse_invoking X.frames X.method X.code]
    simp only [State.hasRoom, Bool.and_eq_true, decide_eq_true_eq] at h ⊢
    obtain ⟨⟨⟨⟨h1, h2, h3, h4, h5, h6⟩, h7⟩, h8⟩, h9⟩ := h
    rw [X.frames, List.length_cons] at h2 h3
    have q1 := X.heapSize
    have q2 := X.used
    simp only [hF, hU, List.length_cons, State.stackLimits_setFrames, State.stackBytes_setFrames, hl9, hb9]
    refine ⟨⟨⟨⟨by omega, by omega, by omega, by omega, by omega, h6⟩, ?_⟩, ?_⟩, X.book⟩
    · show T.heap.size + R'.cells ≤ e.platform.maxCells
      omega
    · show T.slotsUsed + R'.slots ≤ e.platform.maxSlots
      omega
  · rw [State.stackLimits_setFrames]; rfl
  · rw [State.stackBytes_setFrames]; rfl
  · refine ⟨?_, Nat.le_refl _, Nat.le_refl _, ?_, ?_, fun a c9 h9 => ⟨c9, h9, rfl, rfl, fun _ _ => rfl⟩⟩
    · obtain ⟨t, ht, -⟩ := State.frames_cons hr
      show T.setVm s.vm = { ((T.setVm s.vm).setFrames (.invoking m args :: below)).setFrames (T.setVm s.vm).frames with heap := T.heap, slotsUsed := T.slotsUsed }
      rw [State.setFrames_setFrames, State.setFrames_self ht]
      rfl
    · show T.slotsUsed = T.slotsUsed + ((T.heap.toList.drop T.heap.size).map (·.slots.size)).sum
      rw [List.drop_eq_nil_of_le (Nat.le_of_eq Array.length_toList)]
      rfl
    · show ((T.heap.toList.drop T.heap.size).map (·.slots.size)).sum ≤ 0
      rw [List.drop_eq_nil_of_le (Nat.le_of_eq Array.length_toList)]
      exact Nat.le_refl _
/-- 'throw new E()': new; dup; invokespecial; athrow -/
theorem vx_throw0 {cc : ByteArray} {pc : Nat} (hexec : p.tables.exec = Jvm.exec) (hb : c.code = cc) (hl : l.stackTraces = false) {own cls : String} {names : List String} {ik ic mc ms : Nat} {A : Nat → Prop}
    (hown : s.vm.findClass own = some m.cls) (hcls : Bundle.fit cls = true) (hnames : ∀ n ∈ names, Bundle.fit n = true)
    (hk : (Cond.classLink own ik cls).before args s = true) (hini : (Cond.initialized cls).before args s = true) (hat : ∀ w ∈ vx_at0 own ic cls names, w.before args s = true)
    (hgood : ∀ w ∈ Cond.classLink own ik cls :: Cond.initialized cls :: vx_at0 own ic cls names, vx_ot w = true)
    (hU : vx_Zq Bundle.tN "UNASSIGNED_STACK" Bundle.steD A s s.heap) (hN : vx_Zq Bundle.tN "SUPPRESSED_SENTINEL" Bundle.listD A s s.heap) (hS : va_S A s.heap H locs) (hsize : ls.size = c.maxLocals)
    (d0 : decode cc pc = .ok (.new ik, 3)) (d3 : decode cc (pc + 3) = .ok (.dup, 1)) (d4 : decode cc (pc + 4) = .ok (.invokespecial ic, 3)) (d7 : decode cc (pc + 7) = .ok (.athrow, 1))
    (hout : ∀ x ∈ c.exceptionTable.toList, covers x (pc + 7) = false)
    (hRframes : names.length + 3 < R.frames) (hRlocals : (rest.map fun v => v.category).sum + (13 * (names.length + 1) + 42) ≤ R.locals) (hRcells : cells + 1 ≤ R.cells) (hRslots : slots + 6 ≤ R.slots) (hlocks : meth.locks = false)
    (hx : ∀ t : State, s.vm.Alike t.vm → H.size ≤ t.heap.size → (∀ q : Nat, q < H.size → t.heap[q]? = H[q]?) → XC cls s t)
    (hf : ∀ z ∈ locs, free z.base) (hc : cells + 1 ≤ mc) (hs : slots + 6 ≤ ms) :
    W p l e R s m args below meth c H locs cells slots (vx_MQ below Qc XC args s mc ms free) (F0 m pc ls rest) := by
  intro T hT X
  have htr : e.platform.stackTraces = false := (show e.platform.stackTraces = l.stackTraces by rw [X.admits.platform]).trans hl
  have Y := vx_rebase X (R' := { frames := R.frames, locals := R.locals, cells := 1, slots := 6 }) (Nat.le_refl _) (Nat.le_refl _) hRcells hRslots
  obtain ⟨s', hA⟩ : ∃ z, z = (T.setVm s.vm).setFrames (.invoking m args :: below) := ⟨_, rfl⟩
  rw [← hA] at Y
  have hvm : s'.vm = s.vm := by rw [hA]; rfl
  have hhp : s'.heap = H := by rw [hA]; exact hT
  have hW0 : s.WarmedH s'.vm := by rw [hvm]; exact State.WarmedH.refl s
  have hat' : ∀ w ∈ vx_at0 own ic cls names, w.before args s' = true := fun w hw => vx_ot_at hW0 hvm.symm (hgood w (List.mem_cons_of_mem _ (List.mem_cons_of_mem _ hw))) (hat w hw)
  have hk' : (Cond.classLink own ik cls).before args s' = true := vx_ot_at hW0 hvm.symm (hgood _ List.mem_cons_self) hk
  have hini' : (Cond.initialized cls).before args s' = true := vx_ot_at hW0 hvm.symm (hgood _ (List.mem_cons_of_mem _ List.mem_cons_self)) hini
  have hU' : vx_Zq Bundle.tN "UNASSIGNED_STACK" Bundle.steD A s' s'.heap := by rw [hhp]; exact vx_Zq.moved hW0.alike (hU.kept hS.2.1)
  have hN' : vx_Zq Bundle.tN "SUPPRESSED_SENTINEL" Bundle.listD A s' s'.heap := by rw [hhp]; exact vx_Zq.moved hW0.alike (hN.kept hS.2.1)
  have h : ∀ w ∈ Bundle.ownAtoms0 own ic cls names, w.before args s' = true := vx_own hat' (vx_isRefq hU'.1) (vx_isRefq hN'.1) hU'.2.word hN'.2.word
  have hown' : s'.vm.findClass own = some m.cls := by rw [hvm]; exact hown
  have hins : (Cond.instantiable cls 6).before args s' = true := h _ (by simp [Bundle.ownAtoms0])
  obtain ⟨vm₁, cX, kX, hfX, hkX, -, -, X₁, st1⟩ := Y.newCold hexec (own := own) (C := cls) (index := ik) (n := 6) hown' hk' hins hini'
    (g := F0 m pc ls rest) rfl (by rw [hb]; exact d0) (Nat.le_refl _) (Nat.le_refl _)
  generalize hT1 : (T.setVm vm₁).pushCell { cls := cX, slots := kX.instanceTypes.map defaultValue, vm := .none } = T1 at X₁ st1
  have hcat : (Value.ref T.heap.size).category = 1 := rfl
  have hcellA : T1.heap[T.heap.size]? = some (freshCell cX kX) := by rw [← hT1]; exact State.heap_pushCell_size _ _
  have d3' : decode c.code (pc + 3) = .ok (.dup, 1) := by rw [hb]; exact d3
  obtain ⟨U, hsteps, hrun, hend, hW, hsame, ce, hce, hO⟩ := X₁.ctorThrow0 hexec htr (own := own) (cls := cls) (names := names) (ic := ic) hown' hcls hnames h (fun x hx => nomatch hx) hfX hkX hcellA (by rw [hhp, hT]; exact Nat.le_refl _)
    (g := { method := m, pc := pc + 4, locals := ls, stack := .ref T.heap.size :: .ref T.heap.size :: rest, locked := none }) rfl hsize rfl rfl (rest := rest) rfl
    (by rw [hb]; exact d4) (by rw [hb]; exact d7) hout hRframes (by simp only [List.map_cons, List.sum_cons, hcat]; omega) hlocks
  obtain ⟨f1, f2⟩ := vx_frame hsame
  rw [hhp] at f1 f2
  have hWs : s.WarmedH U.vm := State.WarmedH.trans hW0 hW
  have hcl : s.vm.findClass cls = some ce.cls := by
    have h9 := hO.cls
    rw [hvm] at h9
    exact h9
  have hall : s.sameButNew ({ U with vm := s.vm } : State) locs mc ms := by
    subst hA
    obtain ⟨e1, e2⟩ := hsame
    rw [State.setFrames_setFrames] at e1
    have h2 : (T.setVm s.vm).sameButNew ({ U with vm := s.vm } : State) [] (0 + 1) (0 + 6) := ⟨e1, e2⟩
    have h3 := X.same.trans h2
    rw [List.append_nil] at h3
    exact h3.mono hc hs
  refine ⟨U, ?_, .threw T.heap.size, hrun, hend, Or.inr ⟨T.heap.size, rfl, cls, ce, locs, hx U hWs.alike f1 (fun q hq => f2 q hq (fun z hz => nomatch hz)), hce, hO.vm, hcl, hWs, hall, hf⟩⟩
  refine st1 _ ?_
  show Steps p.tables e below (T1.setTop { method := m, pc := pc + 3, locals := ls, stack := .ref T.heap.size :: rest, locked := none }) _
  jvm_step X₁.here [X₁.here.top, hexec, d3', Value.category]
  exact hsteps
/-- 'throw new E("text")': new; dup; ldc; invokespecial; athrow -/
theorem vx_throwS {cc : ByteArray} {pc : Nat} (hexec : p.tables.exec = Jvm.exec) (hb : c.code = cc) (hl : l.stackTraces = false) {own cls text : String} {names : List String} {ik is ic mc ms sa : Nat} {A : Nat → Prop}
    (hown : s.vm.findClass own = some m.cls) (hcls : Bundle.fit cls = true) (hnames : ∀ n ∈ names, Bundle.fit n = true)
    (hk : (Cond.classLink own ik cls).before args s = true) (hini : (Cond.initialized cls).before args s = true) (hstr : vk_R own is text sa s) (hat : ∀ w ∈ vx_atS own ic cls names, w.before args s = true)
    (hgood : ∀ w ∈ Cond.classLink own ik cls :: Cond.initialized cls :: vx_atS own ic cls names, vx_ot w = true)
    (hU : vx_Zq Bundle.tN "UNASSIGNED_STACK" Bundle.steD A s s.heap) (hN : vx_Zq Bundle.tN "SUPPRESSED_SENTINEL" Bundle.listD A s s.heap) (hS : va_S A s.heap H locs) (hsize : ls.size = c.maxLocals)
    (d0 : decode cc pc = .ok (.new ik, 3)) (d3 : decode cc (pc + 3) = .ok (.dup, 1)) (d4 : decode cc (pc + 4) = .ok (.ldc is, 2)) (d6 : decode cc (pc + 6) = .ok (.invokespecial ic, 3)) (d9 : decode cc (pc + 9) = .ok (.athrow, 1))
    (hout : ∀ x ∈ c.exceptionTable.toList, covers x (pc + 9) = false)
    (hRframes : names.length + 3 < R.frames) (hRlocals : (rest.map fun v => v.category).sum + (13 * (names.length + 1) + 43) ≤ R.locals) (hRcells : cells + 1 ≤ R.cells) (hRslots : slots + 6 ≤ R.slots) (hlocks : meth.locks = false)
    (hx : ∀ t : State, s.vm.Alike t.vm → H.size ≤ t.heap.size → (∀ q : Nat, q < H.size → t.heap[q]? = H[q]?) → XC cls s t)
    (hf : ∀ z ∈ locs, free z.base) (hc : cells + 1 ≤ mc) (hs : slots + 6 ≤ ms) :
    W p l e R s m args below meth c H locs cells slots (vx_MQ below Qc XC args s mc ms free) (F0 m pc ls rest) := by
  intro T hT X
  have htr : e.platform.stackTraces = false := (show e.platform.stackTraces = l.stackTraces by rw [X.admits.platform]).trans hl
  have Y := vx_rebase X (R' := { frames := R.frames, locals := R.locals, cells := 1, slots := 6 }) (Nat.le_refl _) (Nat.le_refl _) hRcells hRslots
  obtain ⟨s', hA⟩ : ∃ z, z = (T.setVm s.vm).setFrames (.invoking m args :: below) := ⟨_, rfl⟩
  rw [← hA] at Y
  have hvm : s'.vm = s.vm := by rw [hA]; rfl
  have hhp : s'.heap = H := by rw [hA]; exact hT
  have hW0 : s.WarmedH s'.vm := by rw [hvm]; exact State.WarmedH.refl s
  have hat' : ∀ w ∈ vx_atS own ic cls names, w.before args s' = true := fun w hw => vx_ot_at hW0 hvm.symm (hgood w (List.mem_cons_of_mem _ (List.mem_cons_of_mem _ hw))) (hat w hw)
  have hk' : (Cond.classLink own ik cls).before args s' = true := vx_ot_at hW0 hvm.symm (hgood _ List.mem_cons_self) hk
  have hini' : (Cond.initialized cls).before args s' = true := vx_ot_at hW0 hvm.symm (hgood _ (List.mem_cons_of_mem _ List.mem_cons_self)) hini
  have hU' : vx_Zq Bundle.tN "UNASSIGNED_STACK" Bundle.steD A s' s'.heap := by rw [hhp]; exact vx_Zq.moved hW0.alike (hU.kept hS.2.1)
  have hN' : vx_Zq Bundle.tN "SUPPRESSED_SENTINEL" Bundle.listD A s' s'.heap := by rw [hhp]; exact vx_Zq.moved hW0.alike (hN.kept hS.2.1)
  have h : ∀ w ∈ Bundle.ownAtoms own ic cls names, w.before args s' = true := vx_own hat' (vx_isRefq hU'.1) (vx_isRefq hN'.1) hU'.2.word hN'.2.word
  have hown' : s'.vm.findClass own = some m.cls := by rw [hvm]; exact hown
  have hins : (Cond.instantiable cls 6).before args s' = true := h _ (by simp [Bundle.ownAtoms])
  obtain ⟨vm₁, cX, kX, hfX, hkX, -, -, X₁, st1⟩ := Y.newCold hexec (own := own) (C := cls) (index := ik) (n := 6) hown' hk' hins hini'
    (g := F0 m pc ls rest) rfl (by rw [hb]; exact d0) (Nat.le_refl _) (Nat.le_refl _)
  generalize hT1 : (T.setVm vm₁).pushCell { cls := cX, slots := kX.instanceTypes.map defaultValue, vm := .none } = T1 at X₁ st1
  have hcat : (Value.ref T.heap.size).category = 1 := rfl
  have hcellA : T1.heap[T.heap.size]? = some (freshCell cX kX) := by rw [← hT1]; exact State.heap_pushCell_size _ _
  have d3' : decode c.code (pc + 3) = .ok (.dup, 1) := by rw [hb]; exact d3
  have d4' : decode c.code (pc + 4) = .ok (.ldc is, 2) := by rw [hb]; exact d4
  have hstr' : vk_R own is text sa s' := vk_R.warm hW0 hstr
  obtain ⟨U, hsteps, hrun, hend, hW, hsame, ce, hce, hO⟩ := X₁.ctorThrowS hexec htr (own := own) (cls := cls) (names := names) (ic := ic) hown' hcls hnames h (fun x hx => nomatch hx) hfX hkX hcellA (by rw [hhp, hT]; exact Nat.le_refl _) (msg := .ref sa) rfl
    (g := { method := m, pc := pc + 6, locals := ls, stack := .ref sa :: .ref T.heap.size :: .ref T.heap.size :: rest, locked := none }) rfl hsize rfl rfl (rest := rest) rfl
    (by rw [hb]; exact d6) (by rw [hb]; exact d9) hout hRframes (by simp only [List.map_cons, List.sum_cons, hcat]; omega) hlocks
  obtain ⟨f1, f2⟩ := vx_frame hsame
  rw [hhp] at f1 f2
  have hWs : s.WarmedH U.vm := State.WarmedH.trans hW0 hW
  have hcl : s.vm.findClass cls = some ce.cls := by
    have h9 := hO.cls
    rw [hvm] at h9
    exact h9
  have hall : s.sameButNew ({ U with vm := s.vm } : State) locs mc ms := by
    subst hA
    obtain ⟨e1, e2⟩ := hsame
    rw [State.setFrames_setFrames] at e1
    have h2 : (T.setVm s.vm).sameButNew ({ U with vm := s.vm } : State) [] (0 + 1) (0 + 6) := ⟨e1, e2⟩
    have h3 := X.same.trans h2
    rw [List.append_nil] at h3
    exact h3.mono hc hs
  refine ⟨U, ?_, .threw T.heap.size, hrun, hend, Or.inr ⟨T.heap.size, rfl, cls, ce, locs, hx U hWs.alike f1 (fun q hq => f2 q hq (fun z hz => nomatch hz)), hce, hO.vm, hcl, hWs, hall, hf⟩⟩
  refine st1 _ ?_
  show Steps p.tables e below (T1.setTop { method := m, pc := pc + 3, locals := ls, stack := .ref T.heap.size :: rest, locked := none }) _
  jvm_step X₁.here [X₁.here.top, hexec, d3', Value.category]
  exact X₁.ldcString hexec (own := own) (text := text) (index := is) (a := sa) hown' hstr'.1 hstr'.2
    (g := { method := m, pc := pc + 4, locals := ls, stack := .ref T.heap.size :: .ref T.heap.size :: rest, locked := none }) rfl d4' _ hsteps
/-- 'throw new E("text")', the text by a wide index -/
theorem vx_throwSW {cc : ByteArray} {pc : Nat} (hexec : p.tables.exec = Jvm.exec) (hb : c.code = cc) (hl : l.stackTraces = false) {own cls text : String} {names : List String} {ik is ic mc ms sa : Nat} {A : Nat → Prop}
    (hown : s.vm.findClass own = some m.cls) (hcls : Bundle.fit cls = true) (hnames : ∀ n ∈ names, Bundle.fit n = true)
    (hk : (Cond.classLink own ik cls).before args s = true) (hini : (Cond.initialized cls).before args s = true) (hstr : vk_R own is text sa s) (hat : ∀ w ∈ vx_atS own ic cls names, w.before args s = true)
    (hgood : ∀ w ∈ Cond.classLink own ik cls :: Cond.initialized cls :: vx_atS own ic cls names, vx_ot w = true)
    (hU : vx_Zq Bundle.tN "UNASSIGNED_STACK" Bundle.steD A s s.heap) (hN : vx_Zq Bundle.tN "SUPPRESSED_SENTINEL" Bundle.listD A s s.heap) (hS : va_S A s.heap H locs) (hsize : ls.size = c.maxLocals)
    (d0 : decode cc pc = .ok (.new ik, 3)) (d3 : decode cc (pc + 3) = .ok (.dup, 1)) (d4 : decode cc (pc + 4) = .ok (.ldc_w is, 3)) (d7 : decode cc (pc + 7) = .ok (.invokespecial ic, 3)) (d10 : decode cc (pc + 10) = .ok (.athrow, 1))
    (hout : ∀ x ∈ c.exceptionTable.toList, covers x (pc + 10) = false)
    (hRframes : names.length + 3 < R.frames) (hRlocals : (rest.map fun v => v.category).sum + (13 * (names.length + 1) + 43) ≤ R.locals) (hRcells : cells + 1 ≤ R.cells) (hRslots : slots + 6 ≤ R.slots) (hlocks : meth.locks = false)
    (hx : ∀ t : State, s.vm.Alike t.vm → H.size ≤ t.heap.size → (∀ q : Nat, q < H.size → t.heap[q]? = H[q]?) → XC cls s t)
    (hf : ∀ z ∈ locs, free z.base) (hc : cells + 1 ≤ mc) (hs : slots + 6 ≤ ms) :
    W p l e R s m args below meth c H locs cells slots (vx_MQ below Qc XC args s mc ms free) (F0 m pc ls rest) := by
  intro T hT X
  have htr : e.platform.stackTraces = false := (show e.platform.stackTraces = l.stackTraces by rw [X.admits.platform]).trans hl
  have Y := vx_rebase X (R' := { frames := R.frames, locals := R.locals, cells := 1, slots := 6 }) (Nat.le_refl _) (Nat.le_refl _) hRcells hRslots
  obtain ⟨s', hA⟩ : ∃ z, z = (T.setVm s.vm).setFrames (.invoking m args :: below) := ⟨_, rfl⟩
  rw [← hA] at Y
  have hvm : s'.vm = s.vm := by rw [hA]; rfl
  have hhp : s'.heap = H := by rw [hA]; exact hT
  have hW0 : s.WarmedH s'.vm := by rw [hvm]; exact State.WarmedH.refl s
  have hat' : ∀ w ∈ vx_atS own ic cls names, w.before args s' = true := fun w hw => vx_ot_at hW0 hvm.symm (hgood w (List.mem_cons_of_mem _ (List.mem_cons_of_mem _ hw))) (hat w hw)
  have hk' : (Cond.classLink own ik cls).before args s' = true := vx_ot_at hW0 hvm.symm (hgood _ List.mem_cons_self) hk
  have hini' : (Cond.initialized cls).before args s' = true := vx_ot_at hW0 hvm.symm (hgood _ (List.mem_cons_of_mem _ List.mem_cons_self)) hini
  have hU' : vx_Zq Bundle.tN "UNASSIGNED_STACK" Bundle.steD A s' s'.heap := by rw [hhp]; exact vx_Zq.moved hW0.alike (hU.kept hS.2.1)
  have hN' : vx_Zq Bundle.tN "SUPPRESSED_SENTINEL" Bundle.listD A s' s'.heap := by rw [hhp]; exact vx_Zq.moved hW0.alike (hN.kept hS.2.1)
  have h : ∀ w ∈ Bundle.ownAtoms own ic cls names, w.before args s' = true := vx_own hat' (vx_isRefq hU'.1) (vx_isRefq hN'.1) hU'.2.word hN'.2.word
  have hown' : s'.vm.findClass own = some m.cls := by rw [hvm]; exact hown
  have hins : (Cond.instantiable cls 6).before args s' = true := h _ (by simp [Bundle.ownAtoms])
  obtain ⟨vm₁, cX, kX, hfX, hkX, -, -, X₁, st1⟩ := Y.newCold hexec (own := own) (C := cls) (index := ik) (n := 6) hown' hk' hins hini'
    (g := F0 m pc ls rest) rfl (by rw [hb]; exact d0) (Nat.le_refl _) (Nat.le_refl _)
  generalize hT1 : (T.setVm vm₁).pushCell { cls := cX, slots := kX.instanceTypes.map defaultValue, vm := .none } = T1 at X₁ st1
  have hcat : (Value.ref T.heap.size).category = 1 := rfl
  have hcellA : T1.heap[T.heap.size]? = some (freshCell cX kX) := by rw [← hT1]; exact State.heap_pushCell_size _ _
  have d3' : decode c.code (pc + 3) = .ok (.dup, 1) := by rw [hb]; exact d3
  have d4' : decode c.code (pc + 4) = .ok (.ldc_w is, 3) := by rw [hb]; exact d4
  have hstr' : vk_R own is text sa s' := vk_R.warm hW0 hstr
  obtain ⟨U, hsteps, hrun, hend, hW, hsame, ce, hce, hO⟩ := X₁.ctorThrowS hexec htr (own := own) (cls := cls) (names := names) (ic := ic) hown' hcls hnames h (fun x hx => nomatch hx) hfX hkX hcellA (by rw [hhp, hT]; exact Nat.le_refl _) (msg := .ref sa) rfl
    (g := { method := m, pc := pc + 7, locals := ls, stack := .ref sa :: .ref T.heap.size :: .ref T.heap.size :: rest, locked := none }) rfl hsize rfl rfl (rest := rest) rfl
    (by rw [hb]; exact d7) (by rw [hb]; exact d10) hout hRframes (by simp only [List.map_cons, List.sum_cons, hcat]; omega) hlocks
  obtain ⟨f1, f2⟩ := vx_frame hsame
  rw [hhp] at f1 f2
  have hWs : s.WarmedH U.vm := State.WarmedH.trans hW0 hW
  have hcl : s.vm.findClass cls = some ce.cls := by
    have h9 := hO.cls
    rw [hvm] at h9
    exact h9
  have hall : s.sameButNew ({ U with vm := s.vm } : State) locs mc ms := by
    subst hA
    obtain ⟨e1, e2⟩ := hsame
    rw [State.setFrames_setFrames] at e1
    have h2 : (T.setVm s.vm).sameButNew ({ U with vm := s.vm } : State) [] (0 + 1) (0 + 6) := ⟨e1, e2⟩
    have h3 := X.same.trans h2
    rw [List.append_nil] at h3
    exact h3.mono hc hs
  refine ⟨U, ?_, .threw T.heap.size, hrun, hend, Or.inr ⟨T.heap.size, rfl, cls, ce, locs, hx U hWs.alike f1 (fun q hq => f2 q hq (fun z hz => nomatch hz)), hce, hO.vm, hcl, hWs, hall, hf⟩⟩
  refine st1 _ ?_
  show Steps p.tables e below (T1.setTop { method := m, pc := pc + 3, locals := ls, stack := .ref T.heap.size :: rest, locked := none }) _
  jvm_step X₁.here [X₁.here.top, hexec, d3', Value.category]
  exact X₁.ldcStringW hexec (own := own) (text := text) (index := is) (a := sa) hown' hstr'.1 hstr'.2
    (g := { method := m, pc := pc + 4, locals := ls, stack := .ref T.heap.size :: .ref T.heap.size :: rest, locked := none }) rfl d4' _ hsteps
end Ends
section Bodies
variable {l : Launch}
theorem vx_ofW {y : MethodName} {ws ws' : List Cond} {rm : Room} {Pc : Array Value → State → Prop} {Qc : Array Value → State → Outcome → State → Prop} {XC : String → State → State → Prop} {mc ms : Nat} {free : Addr → Prop} {cc : ByteArray} {maxL : Nat} {ret : Option FieldType}
    (hy : plainName y.cls = true) (hw : ws = Cond.code y cc maxL ret :: ws')
    (body : ∀ p e s m args below meth c s₁, BodyLoose p l y (headSpec ws rm) cc maxL ret e s m args below meth c s₁ → c.maxLocals = maxL → (∀ x ∈ c.exceptionTable.toList, False) → Pc args s →
      W p l e (headSpec ws rm).room s m args below meth c s.heap [] 0 0 (vx_MQ below Qc XC args s mc ms free) (entryFrame m args maxL)) : vx_Met l y ws rm Pc Qc XC mc ms free := by
  refine MetFree.of_bodyS (code := cc) (maxLocals := maxL) (ret := ret) hy ?_ ?_
  · intro args s m h hn
    obtain ⟨meth, c, h1, h2, h3, h4, h5, h6, -, -⟩ := Cond.code_spec hn (atoms_spec (ws := ws) h _ (by rw [hw]; exact List.mem_cons_self))
    exact ⟨meth, c, h1, h2, h3, h4, h5, h6⟩
  · intro p e s m args below meth c s₁ B hml hP _
    have hh0 : s₁.heap = s.heap := by rw [B.state]; rfl
    have ht : ∀ x ∈ c.exceptionTable.toList, False := by
      obtain ⟨meth9, c9, h1, h2, -, -, -, -, h7, -⟩ := Cond.code_spec B.named (atoms_spec (ws := ws) B.pre _ (by rw [hw]; exact List.mem_cons_self))
      cases Option.some.inj (h1.symm.trans B.method)
      cases Option.some.inj (h2.symm.trans (Stand.of_body B).code)
      intro x hx
      rw [Array.isEmpty_iff.mp h7] at hx
      cases hx
    obtain ⟨t, a1, o, b1, b2, b3⟩ := body p e s m args below meth c s₁ B hml ht hP s₁ hh0 (Stand.of_body B)
    exact ⟨t, o, a1, b1, b2, b3⟩
/-- the table of a body with handlers -/
theorem vx_table {p : Program} {x y : MethodName} {S : Spec} {cc bytes : ByteArray} {maxL maxL' : Nat} {ret ret' : Option FieldType} {e : Env} {s s₁ : State} {m : MethodId} {args : Array Value} {below : List Frame} {meth : Method} {c : Code} {hh : List (Nat × Nat × Nat × Nat)}
    (B : BodyLoose p l y S cc maxL ret e s m args below meth c s₁) (h : (Cond.codeWith y bytes maxL' ret' hh).before args s = true) : c.exceptionTable.toList = tableOf hh := by
  obtain ⟨m9, meth9, c9, hn9, h1, h2, -, -, h6, -⟩ := Cond.codeWith_spec h
  cases Option.some.inj (hn9.symm.trans B.named)
  cases Option.some.inj (h1.symm.trans B.method)
  cases Option.some.inj (h2.symm.trans (Stand.of_body B).code)
  rw [← h6, table_eq]
end Bodies
end VXA
/-! ===== END ===== -/
/-! ===== BEGIN a static call of a method with an exception table ===== -/
section VXS
variable {p : Program} {l : Launch} {e : Env} {R : Room} {s : State} {m : MethodId} {args : Array Value} {below : List Frame} {meth : Method} {c : Code} {T : State} {H : Heap} {locs : List Loc} {cells slots : Nat}
abbrev vx_CSW (R : Room) (s : State) (args : Array Value) (own : String) (index : Nat) (y : MethodName) (bytes : ByteArray) (maxL : Nat) (ret : Option FieldType) (hh : List (Nat × Nat × Nat × Nat)) (ws : List Cond) (rm : Room) (mc ms n : Nat) : Prop :=
  (rm.cells = mc ∧ rm.slots = ms ∧ rm.frames + 1 ≤ R.frames ∧ 8 + (maxL + 11) + rm.locals ≤ R.locals ∧ (∀ w ∈ ws, ∀ (a' : Array Value) (U : State), s.WarmedH U.vm → w.before a' U = true) ∧ Cond.codeWith y bytes maxL ret hh ∈ ws) ∧
  (Cond.codeWith y bytes maxL ret hh).before args s = true ∧ (Cond.initialized y.cls).before args s = true ∧ (y.cls ≠ "java/lang/invoke/MethodHandle" ∧ y.cls ≠ "java/lang/invoke/VarHandle") ∧
  (∀ sig, parseMethodDescriptor y.desc = some sig → n = sig.parameters.length) ∧ (Cond.methodLink own index y).before args s = true ∧ (Cond.static y).before args s = true
theorem vx_cwSW {own : String} {index maxL mc ms : Nat} {y : MethodName} {bytes : ByteArray} {ret : Option FieldType} {hh : List (Nat × Nat × Nat × Nat)} {Ts ws ws' : List Cond} {rm : Room} (n : Nat) (ht : ∀ w ∈ Ts, w.before args s = true) (hT : GoodIn Ts (va_wsS own index y ws)) (hw : ws = Cond.codeWith y bytes maxL ret hh :: ws') (hrc : rm.cells = mc) (hrs : rm.slots = ms)
    (hd : y.cls ≠ "java/lang/invoke/MethodHandle" ∧ y.cls ≠ "java/lang/invoke/VarHandle" ∧ (parseMethodDescriptor y.desc).map (fun d => d.parameters.length) = some n) (hR : rm.frames + 1 ≤ R.frames ∧ 8 + (maxL + 11) + rm.locals ≤ R.locals) :
    vx_CSW R s args own index y bytes maxL ret hh ws rm mc ms n := by
  have ok : ∀ w ∈ va_wsS own index y ws, w.before args s = true := fun w h => ht w (hT w h).1
  have hG : GoodIn Ts ws := fun w h => hT w (by unfold va_wsS; exact List.mem_append_right _ h)
  have hc : Cond.codeWith y bytes maxL ret hh ∈ ws := by rw [hw]; exact List.mem_cons_self
  refine ⟨⟨hrc, hrs, hR.1, hR.2, pay_in ht hG, hc⟩, ht _ (hG _ hc).1, ok _ (by simp [va_wsS]), ⟨hd.1, hd.2.1⟩, fun sig h => ?_, ok _ (by simp [va_wsS]), ok _ (by simp [va_wsS])⟩
  have h2 := hd.2.2
  rw [h] at h2
  exact (Option.some.inj h2).symm
theorem vx_callSW (X : Stand p l e R s m args below meth c T locs cells slots) (hexec : p.tables.exec = Jvm.exec) {own : String} {index : Nat} {y : MethodName} {bytes : ByteArray} {maxL : Nat} {ret : Option FieldType} {hh : List (Nat × Nat × Nat × Nat)}
    (hown : s.vm.findClass own = some m.cls) (hlink : (Cond.methodLink own index y).before args s = true) (hstat : (Cond.static y).before args s = true) (hinit : (Cond.initialized y.cls).before args s = true)
    (hcode : (Cond.codeWith y bytes maxL ret hh).before args s = true) (hy : y.cls ≠ "java/lang/invoke/MethodHandle" ∧ y.cls ≠ "java/lang/invoke/VarHandle")
    {W9 : Nat} {Pre : Pt → Array Value → Prop} {Post : Pt → Array Value → Option Value → Pt → Prop} (hK : Back l R p e below s args y 3 W9 Pre Post)
    {g : JFrame} (hg : g.method = m) (hsize : g.locals.size = c.maxLocals) {argsL rest : List Value} (hlen : ∀ sig, parseMethodDescriptor y.desc = some sig → argsL.length = sig.parameters.length)
    (hstack : g.stack = argsL.reverse ++ rest) (hW : 2 * g.monitorRoom + (rest.map fun v => v.category).sum ≤ W9) (hdg : decode c.code g.pc = .ok (.invokestatic index, 3))
    (hpre : ∀ vm₁, s.WarmedH vm₁ → Pre ⟨T.setVm vm₁, locs, cells, slots⟩ argsL.toArray) :
    ∃ (v : Option Value) (vm₁ : Vm) (B : Pt), s.WarmedH vm₁ ∧ Stand p l e R s m args below meth c B.U B.locs B.cells B.slots ∧ Post ⟨T.setVm vm₁, locs, cells, slots⟩ argsL.toArray v B ∧
      ∀ target, Steps p.tables e below (B.U.setTop { g with pc := g.pc + 3, stack := v.toList ++ rest }) target → Steps p.tables e below (T.setTop g) target := by
  obtain ⟨mk, methM, cM, hnamed, hmethM, -, -, -, -, -, -, hsigM⟩ := Cond.codeWith_spec hcode
  have hstatic : methM.isStatic = true := Cond.static_spec hnamed hmethM hstat
  obtain ⟨kP, hkP, -⟩ := className_of_methodNamed hnamed
  have hinitP : kP.init = .initialized := Cond.initialized_spec (findClass_of_methodNamed hnamed) hkP hinit
  obtain ⟨vm₁, X₁, hstep₁⟩ := X.invokestatic hexec hown hlink hnamed hmethM hstatic hkP hinitP hy (g := g) hg (argsL := argsL) (rest := rest) (hlen _ hsigM) hstack hdg
  obtain ⟨v, B, X', hpost, hsteps⟩ := hK m meth c ⟨T.setVm vm₁, locs, cells, slots⟩ { g with stack := rest } (.invokestatic index) mk argsL.toArray X₁ hg hsize hdg hW (X₁.named hnamed) (hpre vm₁ X₁.warmed)
  exact ⟨v, vm₁, B, X₁.warmed, X', hpost, fun target h => hstep₁ _ fun acts => by rw [doInvoke_state]; exact hsteps.trans h⟩
theorem vx_runSW {y : MethodName} {bytes cc : ByteArray} {maxL nL mc ms n index : Nat} {ret : Option FieldType} {hh : List (Nat × Nat × Nat × Nat)} {ws : List Cond} {rm : Room} {Pc : Array Value → State → Prop} {Qc : Array Value → State → Outcome → State → Prop} {free : Addr → Prop} {Ts : List Cond} {own : String} {As rest : List Value} {g : JFrame}
    (S : CallFix p m c cc nL s args Ts own) (hM : Met l y ws rm Pc Qc mc ms free) (cw : vx_CSW R s args own index y bytes maxL ret hh ws rm mc ms n) (hp : PreS s H Pc As)
    (hg : g.method = m) (hn : As.length = n) (hsize : g.locals.size = nL) (hstack : g.stack = As.reverse ++ rest) (hW : 2 * g.monitorRoom + (rest.map fun v => v.category).sum ≤ 8) (hdg : decode cc g.pc = .ok (.invokestatic index, 3)) (hf : cells + mc ≤ R.cells ∧ slots + ms ≤ R.slots) :
    va_Run p l e R s m args below meth c H locs cells slots mc ms g rest (Qc As.toArray) (free) := by
  obtain ⟨⟨hrc, hrs, hfr, hlo, hws, hcw⟩, hcode, hini, hy, hlen, hl, hstt⟩ := cw
  have hK : Back l R p e below s args y 3 8 (PreOf R mc ms Pc) (PostOf Qc mc ms free) := va_backW (hh := hh) (bytes := bytes) (maxL := maxL) (ret := ret) hM hp.1 hrc hrs hfr hlo hws hcw (fun a' U hW => word_at hW (Or.inl (by first | rfl | simp [Cond.onTables, Cond.keeps, Cond.steady])) hini)
  obtain ⟨hx, hb, hml, ho, -⟩ := S
  intro T hT X
  obtain ⟨v, vm₁, ⟨U', l2, c2, s2⟩, hW₁, X', ⟨g', mk, t, L, e1, e2, hq, h1, hL, h2, h3⟩, st⟩ := vx_callSW X hx (hh := hh) (bytes := bytes) (maxL := maxL) (ret := ret) ho hl hstt hini hcode hy hK hg (hsize.trans hml.symm) (argsL := As) (rest := rest) (fun sig h => hn.trans (hlen sig h)) hstack hW (by rw [hb]; exact hdg)
    (fun vm₁ hW₁ => ⟨hf.1, hf.2, hp.2 (T.setVm vm₁) hT hW₁⟩)
  dsimp only [Pt.U, Pt.locs, Pt.cells, Pt.slots] at X' e1 e2 h1 h2 h3 st
  subst h1; subst h2; subst h3
  exact ⟨v, (T.setVm vm₁).calling g' mk As.toArray, t, U', L, hT, X', hL, e1, e2, hq, st⟩
theorem vx_lt {D : va_G} {cl : List vw_C} {ws : va_W} {H1 : Heap} (h : va_P D cl ws H1) {k : Nat} {q : Nat × va_E} (hk : ws[k]? = some q) : q.1 < H1.size := (h k q hk).lt
end VXS
/-! ===== END ===== -/
/-! ===== BEGIN methods with a table of their own: called by a name, returning or throwing ===== -/
section VXH
/-! vx_backW, vx_callVX, vx_callSX, vx_callVW, vx_runVW, vx_runVX, vx_runSX, vx_ofWH follow the same proofs as their sisters above (Free/Laws.lean, Shelf42/LK1.lean); vx_outP calls Shelf42/NT130.lean (outThrough). -/
section
variable {l : Launch} {R : Room} {p : Program} {e : Env} {below : List Frame} {s : State} {sargs : Array Value} {y : MethodName} {len W9 : Nat}
theorem vx_backW {ws : List Cond} {rm : Room} {Pc : Array Value → State → Prop} {Qc : Array Value → State → Outcome → State → Prop} {XC : String → State → State → Prop} {mc ms : Nat} {free : Addr → Prop} {bytes : ByteArray} {maxL : Nat} {ret : Option FieldType} {hh : List (Nat × Nat × Nat × Nat)}
    (hM : vx_Met l y ws rm Pc Qc XC mc ms free) (hblind : FrameBlind Pc) (hrc : rm.cells = mc) (hrs : rm.slots = ms)
    (hframes : rm.frames + 1 ≤ R.frames) (hlocals : W9 + (maxL + 11) + rm.locals ≤ R.locals)
    (hws : ∀ w ∈ ws, ∀ a' U, s.WarmedH U.vm → w.before a' U = true) (hcode : Cond.codeWith y bytes maxL ret hh ∈ ws) (hinit : ∀ a' U, s.WarmedH U.vm → (Cond.initialized y.cls).before a' U = true) :
    vx_Back l R p e below s sargs y len W9 (PreOf R mc ms Pc) (PostOf Qc mc ms free) (vx_Post XC mc ms free) := by
  intro m meth c A g ig mk a X hg hsize hdg hW hn hp
  have h1 : (headSpec ws rm).pre.before a A.U = true := atoms_intro fun w hw => hws w hw _ _ X.warmed
  have h2 : (Cond.codeWith y bytes maxL ret hh).before a A.U = true := hws _ hcode _ _ X.warmed
  have h3 : (Cond.initialized y.cls).before a A.U = true := hinit _ _ X.warmed
  have h4 : A.cells + (headSpec ws rm).room.cells ≤ R.cells := by rw [show (headSpec ws rm).room.cells = mc from hrc]; exact hp.1
  have h5 : A.slots + (headSpec ws rm).room.slots ≤ R.slots := by rw [show (headSpec ws rm).room.slots = ms from hrs]; exact hp.2.1
  have hPc : Pc a (A.U.calling g mk a) := hblind _ _ _ _ hp.2.2
  obtain ⟨U, Ls, c0, s0⟩ := A
  dsimp only [Pt.U, Pt.locs, Pt.cells, Pt.slots] at h1 h2 h3 h4 h5 X hn hPc ⊢
  obtain ⟨m9, methY, cY, hn9, hmY, hcY, -, hlY, -⟩ := Cond.codeWith_spec h2
  cases Option.some.inj (hn9.symm.trans hn)
  obtain ⟨kY, hkY, -⟩ := className_of_methodNamed hn
  have hinitY : kY.init = .initialized := Cond.initialized_spec (findClass_of_methodNamed hn) hkY h3
  have h : At U g.method c below := by rw [hg]; exact X.here
  have hlocals9 : W9 + (maxL + 11) + (headSpec ws rm).room.locals ≤ R.locals := hlocals
  have happ : (headSpec ws rm).appliesLoose y e.platform (U.calling g mk a) = true :=
    Spec.appliesLoose_calling (g := g) h hdg hn hkY hinitY
      (X.room_calling (g := g) (R' := (headSpec ws rm).room) hsize hmY hcY hframes (by rw [hlY]; omega) h4 h5) h1
  obtain ⟨mid, hmid⟩ := h.above
  have hfr : (U.setTop g).frames = (.java g :: mid) ++ below := by rw [State.frames_setTop' g h.top, hmid]; rfl
  obtain ⟨o, s₂, hsteps, -, hend, hq⟩ := Steps.callFree hM p X.admits X.cas X.clock (acts := []) hfr happ hPc trivial
  have hq' : vx_Q Qc XC mc ms free a (U.calling g mk a) o s₂ := hq
  rw [State.frames_setTop' g h.top] at hend
  obtain ⟨g₀, hg0⟩ := Option.isSome_iff_exists.mp h.top
  obtain ⟨r, hr⟩ := State.topJava?_eq_some.mp hg0
  have hr' : (({ U with heap := s₂.heap, slotsUsed := s₂.slotsUsed } : State).setVm s₂.vm).frames = .java g₀ :: r := hr
  rcases hq' with ⟨hqc, L, hfe, hL⟩ | ⟨q, rfl, E, ce, L, hx, hce, hcv, hcl, hW₂, hsm, hL⟩
  · obtain ⟨⟨v, rfl⟩, hW₂, e2, q2, q3, q4, q5, q6⟩ := id hfe
    have e3 : s₂ = ({ (U.calling g mk a).setFrames s₂.frames with heap := s₂.heap, slotsUsed := s₂.slotsUsed } : State).setVm s₂.vm := by
      have : s₂ = ({ s₂ with vm := (U.calling g mk a).vm } : State).setVm s₂.vm := rfl
      rw [e2] at this
      exact this
    obtain ⟨c₂, i₂, len₂, hc₂, hd₂, hf₂⟩ := hend
    have hW' : U.WarmedH s₂.vm := hW₂
    have hcc : c₂ = c := by
      have h1 : s₂.code? g.method = U.code? g.method := by
        rw [State.code?_eq, State.code?_eq, hW'.alike.method?]
      exact Option.some.inj (hc₂.symm.trans (h1.trans h.code))
    subst hcc
    have hlen : len₂ = len := by rw [hdg] at hd₂; cases hd₂; rfl
    subst hlen
    have hs₂ : s₂ = (({ U with heap := s₂.heap, slotsUsed := s₂.slotsUsed } : State).setVm s₂.vm).setTop { g with pc := g.pc + len₂, stack := v.toList ++ g.stack } := by
      refine e3.trans ?_
      rw [hf₂, State.calling_eq h.top, State.setFrames_setFrames, State.setTop_of_frames _ hr', hr]
      rfl
    have hsame : U.sameButNew ({ U with heap := s₂.heap, slotsUsed := s₂.slotsUsed } : State) L mc ms := by
      refine ⟨?_, q2, q3, q4, q5, q6⟩
      obtain ⟨t, ht, -⟩ := State.frames_cons hr
      show ({ U with heap := s₂.heap, slotsUsed := s₂.slotsUsed } : State) = { U.setFrames U.frames with heap := s₂.heap, slotsUsed := s₂.slotsUsed }
      rw [State.setFrames_self ht]
    subst hg
    refine Or.inl ⟨v, ⟨(({ U with heap := s₂.heap, slotsUsed := s₂.slotsUsed } : State).setVm s₂.vm), Ls ++ L, c0 + mc, s0 + ms⟩,
      ⟨X.admits, X.cas, X.clock, X.frames, X.room, X.hears, X.method, X.code, (X.here.setHeapUsed s₂.heap s₂.slotsUsed).setVm hW'.alike, X.tail, State.WarmedH.trans X.warmed hW', X.limits, X.bytes, X.same.trans (hsame.setVm s.vm)⟩,
      ⟨g, mk, s₂, L, rfl, rfl, hqc, rfl, hL, rfl, rfl⟩, ?_⟩
    show Steps p.tables e below _ ((({ U with heap := s₂.heap, slotsUsed := s₂.slotsUsed } : State).setVm s₂.vm).setTop { g with pc := g.pc + len₂, stack := v.toList ++ g.stack })
    rw [← hs₂]
    exact hsteps
  · obtain ⟨e2, q2, q3, q4, q5, q6⟩ := id hsm
    have e3 : s₂ = ({ (U.calling g mk a).setFrames s₂.frames with heap := s₂.heap, slotsUsed := s₂.slotsUsed } : State).setVm s₂.vm := by
      have : s₂ = ({ s₂ with vm := (U.calling g mk a).vm } : State).setVm s₂.vm := rfl
      rw [e2] at this
      exact this
    have hf₂ : s₂.frames = .throwing q :: .java g :: U.frames.tail := hend
    have hW' : U.WarmedH s₂.vm := hW₂
    have hs₂ : s₂ = ((({ U with heap := s₂.heap, slotsUsed := s₂.slotsUsed } : State).setVm s₂.vm).setTop g).pushFrame (.throwing q) := by
      refine e3.trans ?_
      rw [hf₂, State.calling_eq h.top, State.setFrames_setFrames, State.pushFrame, State.frames_setTop _ hr', State.setTop_of_frames _ hr', State.setFrames_setFrames, hr]
      rfl
    have hsame : U.sameButNew ({ U with heap := s₂.heap, slotsUsed := s₂.slotsUsed } : State) L mc ms := by
      refine ⟨?_, q2, q3, q4, q5, q6⟩
      obtain ⟨t, ht, -⟩ := State.frames_cons hr
      show ({ U with heap := s₂.heap, slotsUsed := s₂.slotsUsed } : State) = { U.setFrames U.frames with heap := s₂.heap, slotsUsed := s₂.slotsUsed }
      rw [State.setFrames_self ht]
    subst hg
    refine Or.inr ⟨q, ⟨(({ U with heap := s₂.heap, slotsUsed := s₂.slotsUsed } : State).setVm s₂.vm), Ls ++ L, c0 + mc, s0 + ms⟩,
      ⟨X.admits, X.cas, X.clock, X.frames, X.room, X.hears, X.method, X.code, (X.here.setHeapUsed s₂.heap s₂.slotsUsed).setVm hW'.alike, X.tail, State.WarmedH.trans X.warmed hW', X.limits, X.bytes, X.same.trans (hsame.setVm s.vm)⟩,
      ⟨g, mk, s₂, L, E, ce, rfl, rfl, hx, hce, hcv, hcl, rfl, hL, rfl, rfl⟩, ?_⟩
    show Steps p.tables e below _ (((({ U with heap := s₂.heap, slotsUsed := s₂.slotsUsed } : State).setVm s₂.vm).setTop g).pushFrame (.throwing q))
    rw [← hs₂]
    exact hsteps
end
variable {p : Program} {l : Launch} {e : Env} {R : Room} {s : State} {m : MethodId} {args : Array Value} {below : List Frame} {meth : Method} {c : Code} {T : State} {H : Heap} {locs : List Loc} {cells slots : Nat}
theorem vx_callVX (X : Stand p l e R s m args below meth c T locs cells slots) (hexec : p.tables.exec = Jvm.exec) {own C : String} {index : Nat} {y : MethodName} {bytes : ByteArray} {maxL : Nat} {ret : Option FieldType} {hh : List (Nat × Nat × Nat × Nat)}
    (hown : s.vm.findClass own = some m.cls) (hlink : (Cond.methodLink own index y).before args s = true) (hinst : (Cond.instanceMethod y).before args s = true) (hsel : (Cond.selects C y y).before args s = true)
    (hcode : (Cond.codeWith y bytes maxL ret hh).before args s = true) (hy : y.cls ≠ "java/lang/invoke/MethodHandle" ∧ y.cls ≠ "java/lang/invoke/VarHandle")
    {W9 : Nat} {Pre : Pt → Array Value → Prop} {Post : Pt → Array Value → Option Value → Pt → Prop} {PostX : Pt → Array Value → Addr → Pt → Prop} (hK : vx_Back l R p e below s args y 3 W9 Pre Post PostX)
    {b : Addr} {cellB : Cell} (hcell : T.heap[b]? = some cellB) (hobj : cellB.vm.isStatics = false) (hcls : s.vm.findClass C = some cellB.cls)
    {g : JFrame} (hg : g.method = m) (hsize : g.locals.size = c.maxLocals) {argsL rest : List Value} (hlen : ∀ sig, parseMethodDescriptor y.desc = some sig → argsL.length = sig.parameters.length)
    (hstack : g.stack = argsL.reverse ++ .ref b :: rest) (hW : 2 * g.monitorRoom + (rest.map fun v => v.category).sum ≤ W9) (hdg : decode c.code g.pc = .ok (.invokevirtual index, 3))
    (hpre : ∀ vm₁, s.WarmedH vm₁ → Pre ⟨T.setVm vm₁, locs, cells, slots⟩ (Value.ref b :: argsL).toArray) :
    (∃ (v : Option Value) (vm₁ : Vm) (B : Pt), s.WarmedH vm₁ ∧ Stand p l e R s m args below meth c B.U B.locs B.cells B.slots ∧ Post ⟨T.setVm vm₁, locs, cells, slots⟩ (Value.ref b :: argsL).toArray v B ∧
      ∀ target, Steps p.tables e below (B.U.setTop { g with pc := g.pc + 3, stack := v.toList ++ rest }) target → Steps p.tables e below (T.setTop g) target) ∨
    (∃ (q : Addr) (vm₁ : Vm) (B : Pt), s.WarmedH vm₁ ∧ Stand p l e R s m args below meth c B.U B.locs B.cells B.slots ∧ PostX ⟨T.setVm vm₁, locs, cells, slots⟩ (Value.ref b :: argsL).toArray q B ∧
      Steps p.tables e below (T.setTop g) ((B.U.setTop { g with stack := rest }).pushFrame (.throwing q))) := by
  obtain ⟨mk, methM, hnamed, hmethM, hstM, habM⟩ := Cond.instanceMethod_spec hinst
  obtain ⟨m8, methM', cM, hn8, hmethM', -, -, -, -, -, -, hsigM⟩ := Cond.codeWith_spec hcode
  cases Option.some.inj (hn8.symm.trans hnamed)
  cases hmethM.symm.trans hmethM'
  obtain ⟨c2, r2, m2, q1, q2, q3, q4, kP, hkP, hkPi⟩ := Cond.selects_spec hsel
  cases hcls.symm.trans q1
  cases (State.methodFound?_of_named hnamed hy).symm.trans q2
  cases hnamed.symm.trans q3
  have hselP : selectMethod e.platform s.vm cellB.cls mk = .method mk := by rw [Launch.admits_selectMethod X.admits]; exact q4
  obtain ⟨vm₁, X₁, hstep₁⟩ := X.invokevirtual hexec hown hlink hnamed hmethM hstM hkP hkPi hy (a := b) (cell := cellB) hcell
    (fun z h => by rw [h] at hobj; cases hobj) hselP hmethM habM hkP hkPi (g := g) hg (argsL := argsL) (rest := rest) (hlen _ hsigM) hstack hdg
  rcases hK m meth c ⟨T.setVm vm₁, locs, cells, slots⟩ { g with stack := rest } (.invokevirtual index) mk (Value.ref b :: argsL).toArray X₁ hg hsize hdg hW (X₁.named hnamed) (hpre vm₁ X₁.warmed) with ⟨v, B, X', hpost, hsteps⟩ | ⟨q, B, X', hpost, hsteps⟩
  · exact Or.inl ⟨v, vm₁, B, X₁.warmed, X', hpost, fun target h => hstep₁ _ fun acts => by rw [doInvoke_state]; exact hsteps.trans h⟩
  · exact Or.inr ⟨q, vm₁, B, X₁.warmed, X', hpost, hstep₁ _ fun acts => by rw [doInvoke_state]; exact hsteps⟩
theorem vx_callSX (X : Stand p l e R s m args below meth c T locs cells slots) (hexec : p.tables.exec = Jvm.exec) {own : String} {index : Nat} {y : MethodName} {bytes : ByteArray} {maxL : Nat} {ret : Option FieldType} {hh : List (Nat × Nat × Nat × Nat)}
    (hown : s.vm.findClass own = some m.cls) (hlink : (Cond.methodLink own index y).before args s = true) (hstat : (Cond.static y).before args s = true) (hinit : (Cond.initialized y.cls).before args s = true)
    (hcode : (Cond.codeWith y bytes maxL ret hh).before args s = true) (hy : y.cls ≠ "java/lang/invoke/MethodHandle" ∧ y.cls ≠ "java/lang/invoke/VarHandle")
    {W9 : Nat} {Pre : Pt → Array Value → Prop} {Post : Pt → Array Value → Option Value → Pt → Prop} {PostX : Pt → Array Value → Addr → Pt → Prop} (hK : vx_Back l R p e below s args y 3 W9 Pre Post PostX)
    {g : JFrame} (hg : g.method = m) (hsize : g.locals.size = c.maxLocals) {argsL rest : List Value} (hlen : ∀ sig, parseMethodDescriptor y.desc = some sig → argsL.length = sig.parameters.length)
    (hstack : g.stack = argsL.reverse ++ rest) (hW : 2 * g.monitorRoom + (rest.map fun v => v.category).sum ≤ W9) (hdg : decode c.code g.pc = .ok (.invokestatic index, 3))
    (hpre : ∀ vm₁, s.WarmedH vm₁ → Pre ⟨T.setVm vm₁, locs, cells, slots⟩ argsL.toArray) :
    (∃ (v : Option Value) (vm₁ : Vm) (B : Pt), s.WarmedH vm₁ ∧ Stand p l e R s m args below meth c B.U B.locs B.cells B.slots ∧ Post ⟨T.setVm vm₁, locs, cells, slots⟩ argsL.toArray v B ∧
      ∀ target, Steps p.tables e below (B.U.setTop { g with pc := g.pc + 3, stack := v.toList ++ rest }) target → Steps p.tables e below (T.setTop g) target) ∨
    (∃ (q : Addr) (vm₁ : Vm) (B : Pt), s.WarmedH vm₁ ∧ Stand p l e R s m args below meth c B.U B.locs B.cells B.slots ∧ PostX ⟨T.setVm vm₁, locs, cells, slots⟩ argsL.toArray q B ∧
      Steps p.tables e below (T.setTop g) ((B.U.setTop { g with stack := rest }).pushFrame (.throwing q))) := by
  obtain ⟨mk, methM, cM, hnamed, hmethM, -, -, -, -, -, -, hsigM⟩ := Cond.codeWith_spec hcode
  have hstatic : methM.isStatic = true := Cond.static_spec hnamed hmethM hstat
  obtain ⟨kP, hkP, -⟩ := className_of_methodNamed hnamed
  have hinitP : kP.init = .initialized := Cond.initialized_spec (findClass_of_methodNamed hnamed) hkP hinit
  obtain ⟨vm₁, X₁, hstep₁⟩ := X.invokestatic hexec hown hlink hnamed hmethM hstatic hkP hinitP hy (g := g) hg (argsL := argsL) (rest := rest) (hlen _ hsigM) hstack hdg
  rcases hK m meth c ⟨T.setVm vm₁, locs, cells, slots⟩ { g with stack := rest } (.invokestatic index) mk argsL.toArray X₁ hg hsize hdg hW (X₁.named hnamed) (hpre vm₁ X₁.warmed) with ⟨v, B, X', hpost, hsteps⟩ | ⟨q, B, X', hpost, hsteps⟩
  · exact Or.inl ⟨v, vm₁, B, X₁.warmed, X', hpost, fun target h => hstep₁ _ fun acts => by rw [doInvoke_state]; exact hsteps.trans h⟩
  · exact Or.inr ⟨q, vm₁, B, X₁.warmed, X', hpost, hstep₁ _ fun acts => by rw [doInvoke_state]; exact hsteps⟩
theorem vx_callVW (X : Stand p l e R s m args below meth c T locs cells slots) (hexec : p.tables.exec = Jvm.exec) {own C : String} {index : Nat} {y : MethodName} {bytes : ByteArray} {maxL : Nat} {ret : Option FieldType} {hh : List (Nat × Nat × Nat × Nat)}
    (hown : s.vm.findClass own = some m.cls) (hlink : (Cond.methodLink own index y).before args s = true) (hinst : (Cond.instanceMethod y).before args s = true) (hsel : (Cond.selects C y y).before args s = true)
    (hcode : (Cond.codeWith y bytes maxL ret hh).before args s = true) (hy : y.cls ≠ "java/lang/invoke/MethodHandle" ∧ y.cls ≠ "java/lang/invoke/VarHandle")
    {W9 : Nat} {Pre : Pt → Array Value → Prop} {Post : Pt → Array Value → Option Value → Pt → Prop} (hK : Back l R p e below s args y 3 W9 Pre Post)
    {b : Addr} {cellB : Cell} (hcell : T.heap[b]? = some cellB) (hobj : cellB.vm.isStatics = false) (hcls : s.vm.findClass C = some cellB.cls)
    {g : JFrame} (hg : g.method = m) (hsize : g.locals.size = c.maxLocals) {argsL rest : List Value} (hlen : ∀ sig, parseMethodDescriptor y.desc = some sig → argsL.length = sig.parameters.length)
    (hstack : g.stack = argsL.reverse ++ .ref b :: rest) (hW : 2 * g.monitorRoom + (rest.map fun v => v.category).sum ≤ W9) (hdg : decode c.code g.pc = .ok (.invokevirtual index, 3))
    (hpre : ∀ vm₁, s.WarmedH vm₁ → Pre ⟨T.setVm vm₁, locs, cells, slots⟩ (Value.ref b :: argsL).toArray) :
    ∃ (v : Option Value) (vm₁ : Vm) (B : Pt), s.WarmedH vm₁ ∧ Stand p l e R s m args below meth c B.U B.locs B.cells B.slots ∧ Post ⟨T.setVm vm₁, locs, cells, slots⟩ (Value.ref b :: argsL).toArray v B ∧
      ∀ target, Steps p.tables e below (B.U.setTop { g with pc := g.pc + 3, stack := v.toList ++ rest }) target → Steps p.tables e below (T.setTop g) target := by
  obtain ⟨mk, methM, hnamed, hmethM, hstM, habM⟩ := Cond.instanceMethod_spec hinst
  obtain ⟨m8, methM', cM, hn8, hmethM', -, -, -, -, -, -, hsigM⟩ := Cond.codeWith_spec hcode
  cases Option.some.inj (hn8.symm.trans hnamed)
  cases hmethM.symm.trans hmethM'
  obtain ⟨c2, r2, m2, q1, q2, q3, q4, kP, hkP, hkPi⟩ := Cond.selects_spec hsel
  cases hcls.symm.trans q1
  cases (State.methodFound?_of_named hnamed hy).symm.trans q2
  cases hnamed.symm.trans q3
  have hselP : selectMethod e.platform s.vm cellB.cls mk = .method mk := by rw [Launch.admits_selectMethod X.admits]; exact q4
  obtain ⟨vm₁, X₁, hstep₁⟩ := X.invokevirtual hexec hown hlink hnamed hmethM hstM hkP hkPi hy (a := b) (cell := cellB) hcell
    (fun z h => by rw [h] at hobj; cases hobj) hselP hmethM habM hkP hkPi (g := g) hg (argsL := argsL) (rest := rest) (hlen _ hsigM) hstack hdg
  obtain ⟨v, B, X', hpost, hsteps⟩ := hK m meth c ⟨T.setVm vm₁, locs, cells, slots⟩ { g with stack := rest } (.invokevirtual index) mk (Value.ref b :: argsL).toArray X₁ hg hsize hdg hW (X₁.named hnamed) (hpre vm₁ X₁.warmed)
  exact ⟨v, vm₁, B, X₁.warmed, X', hpost, fun target h => hstep₁ _ fun acts => by rw [doInvoke_state]; exact hsteps.trans h⟩
abbrev vx_CVW (R : Room) (s : State) (args : Array Value) (own C : String) (index : Nat) (y : MethodName) (bytes : ByteArray) (maxL : Nat) (ret : Option FieldType) (hh : List (Nat × Nat × Nat × Nat)) (ws : List Cond) (rm : Room) (mc ms n : Nat) : Prop :=
  (rm.cells = mc ∧ rm.slots = ms ∧ rm.frames + 1 ≤ R.frames ∧ 8 + (maxL + 11) + rm.locals ≤ R.locals ∧ (∀ w ∈ ws, ∀ (a' : Array Value) (U : State), s.WarmedH U.vm → w.before a' U = true) ∧ Cond.codeWith y bytes maxL ret hh ∈ ws) ∧
  (Cond.codeWith y bytes maxL ret hh).before args s = true ∧ (Cond.initialized y.cls).before args s = true ∧ (y.cls ≠ "java/lang/invoke/MethodHandle" ∧ y.cls ≠ "java/lang/invoke/VarHandle") ∧
  (∀ sig, parseMethodDescriptor y.desc = some sig → n = sig.parameters.length) ∧ (Cond.methodLink own index y).before args s = true ∧ (Cond.instanceMethod y).before args s = true ∧ (Cond.selects C y y).before args s = true
theorem vx_cwVW {own C : String} {index maxL mc ms : Nat} {y : MethodName} {bytes : ByteArray} {ret : Option FieldType} {hh : List (Nat × Nat × Nat × Nat)} {Ts ws ws' : List Cond} {rm : Room} (n : Nat) (ht : ∀ w ∈ Ts, w.before args s = true) (hT : GoodIn Ts (wsV own index C y ws)) (hw : ws = Cond.codeWith y bytes maxL ret hh :: ws') (hrc : rm.cells = mc) (hrs : rm.slots = ms)
    (hd : y.cls = C ∧ y.cls ≠ "java/lang/invoke/MethodHandle" ∧ y.cls ≠ "java/lang/invoke/VarHandle" ∧ (parseMethodDescriptor y.desc).map (fun d => d.parameters.length) = some n) (hR : rm.frames + 1 ≤ R.frames ∧ 8 + (maxL + 11) + rm.locals ≤ R.locals) :
    vx_CVW R s args own C index y bytes maxL ret hh ws rm mc ms n := by
  obtain ⟨hC, hd⟩ := hd
  subst hC
  have ok : ∀ w ∈ wsV own index y.cls y ws, w.before args s = true := fun w h => ht w (hT w h).1
  have hG : GoodIn Ts ws := fun w h => hT w (by unfold wsV; exact List.mem_append_right _ h)
  have hc : Cond.codeWith y bytes maxL ret hh ∈ ws := by rw [hw]; exact List.mem_cons_self
  refine ⟨⟨hrc, hrs, hR.1, hR.2, pay_in ht hG, hc⟩, ht _ (hG _ hc).1, ok _ (by simp [wsV]), ⟨hd.1, hd.2.1⟩, fun sig h => ?_, ok _ (by simp [wsV]), ok _ (by simp [wsV]), ok _ (by simp [wsV])⟩
  have h2 := hd.2.2
  rw [h] at h2
  exact (Option.some.inj h2).symm
theorem vx_runVW {y : MethodName} {bytes cc : ByteArray} {maxL nL mc ms n index : Nat} {ret : Option FieldType} {hh : List (Nat × Nat × Nat × Nat)} {ws : List Cond} {rm : Room} {Pc : Array Value → State → Prop} {Qc : Array Value → State → Outcome → State → Prop} {free : Addr → Prop} {Ts : List Cond} {own C : String} {b : Addr} {As rest : List Value} {g : JFrame}
    (S : CallFix p m c cc nL s args Ts own) (hM : Met l y ws rm Pc Qc mc ms free) (cw : vx_CVW R s args own C index y bytes maxL ret hh ws rm mc ms n) (hp : PreV s H C b Pc As)
    (hg : g.method = m) (hn : As.length = n) (hsize : g.locals.size = nL) (hstack : g.stack = As.reverse ++ .ref b :: rest) (hW : 2 * g.monitorRoom + (rest.map fun v => v.category).sum ≤ 8) (hdg : decode cc g.pc = .ok (.invokevirtual index, 3)) (hf : cells + mc ≤ R.cells ∧ slots + ms ≤ R.slots) :
    va_Run p l e R s m args below meth c H locs cells slots mc ms g rest (Qc (Value.ref b :: As).toArray) free := by
  obtain ⟨⟨hrc, hrs, hfr, hlo, hws, hcw⟩, hcode, hini, hy, hlen, hl, hin, hse⟩ := cw
  have hK : Back l R p e below s args y 3 8 (PreOf R mc ms Pc) (PostOf Qc mc ms free) := va_backW (hh := hh) (bytes := bytes) (maxL := maxL) (ret := ret) hM hp.1 hrc hrs hfr hlo hws hcw (fun a' U hW => word_at hW (Or.inl (by first | rfl | simp [Cond.onTables, Cond.keeps, Cond.steady])) hini)
  obtain ⟨hx, hb, hml, ho, -⟩ := S
  obtain ⟨-, ⟨cellB, hcB, hoB, hclB⟩, hPc⟩ := hp
  intro T hT X
  obtain ⟨v, vm₁, ⟨U', l2, c2, s2⟩, hW₁, X', ⟨g', mk, t, L, e1, e2, hq, h1, hL, h2, h3⟩, st⟩ := vx_callVW X hx (C := C) (hh := hh) (bytes := bytes) (maxL := maxL) (ret := ret) ho hl hin hse hcode hy hK (by rw [hT]; exact hcB) hoB hclB hg (hsize.trans hml.symm) (argsL := As) (rest := rest) (fun sig h => hn.trans (hlen sig h)) hstack hW (by rw [hb]; exact hdg)
    (fun vm₁ hW₁ => ⟨hf.1, hf.2, hPc (T.setVm vm₁) hT hW₁⟩)
  dsimp only [Pt.U, Pt.locs, Pt.cells, Pt.slots] at X' e1 e2 h1 h2 h3 st
  subst h1; subst h2; subst h3
  exact ⟨v, (T.setVm vm₁).calling g' mk (Value.ref b :: As).toArray, t, U', L, hT, X', hL, e1, e2, hq, st⟩
section
variable {y : MethodName} {bytes cc : ByteArray} {maxL nL mc ms n index : Nat} {ret : Option FieldType} {ws : List Cond} {rm : Room} {Pc : Array Value → State → Prop} {Qc : Array Value → State → Outcome → State → Prop} {XC : String → State → State → Prop} {free : Addr → Prop} {Ts : List Cond} {own C : String} {b : Addr} {As rest : List Value} {g : JFrame}
theorem vx_runVX {hh : List (Nat × Nat × Nat × Nat)} (S : CallFix p m c cc nL s args Ts own) (hM : vx_Met l y ws rm Pc Qc XC mc ms free) (cw : vx_CVW R s args own C index y bytes maxL ret hh ws rm mc ms n) (hp : PreV s H C b Pc As)
    (hg : g.method = m) (hn : As.length = n) (hsize : g.locals.size = nL) (hstack : g.stack = As.reverse ++ .ref b :: rest) (hW : 2 * g.monitorRoom + (rest.map fun v => v.category).sum ≤ 8) (hdg : decode cc g.pc = .ok (.invokevirtual index, 3)) (hf : cells + mc ≤ R.cells ∧ slots + ms ≤ R.slots) :
    vx_Run p l e R s m args below meth c H locs cells slots mc ms g rest (Qc (Value.ref b :: As).toArray) XC free := by
  obtain ⟨⟨hrc, hrs, hfr, hlo, hws, hcw⟩, hcode, hini, hy, hlen, hl, hin, hse⟩ := cw
  have hK : vx_Back l R p e below s args y 3 8 (PreOf R mc ms Pc) (PostOf Qc mc ms free) (vx_Post XC mc ms free) := vx_backW (hh := hh) (bytes := bytes) (maxL := maxL) (ret := ret) hM hp.1 hrc hrs hfr hlo hws hcw (fun a' U hW => word_at hW (Or.inl (by first | rfl | simp [Cond.onTables, Cond.keeps, Cond.steady])) hini)
  obtain ⟨hx, hb, hml, ho, -⟩ := S
  obtain ⟨-, ⟨cellB, hcB, hoB, hclB⟩, hPc⟩ := hp
  intro T hT X
  rcases vx_callVX X hx (C := C) (hh := hh) (bytes := bytes) (maxL := maxL) (ret := ret) ho hl hin hse hcode hy hK (by rw [hT]; exact hcB) hoB hclB hg (hsize.trans hml.symm) (argsL := As) (rest := rest) (fun sig h => hn.trans (hlen sig h)) hstack hW (by rw [hb]; exact hdg)
    (fun vm₁ hW₁ => ⟨hf.1, hf.2, hPc (T.setVm vm₁) hT hW₁⟩) with ⟨v, vm₁, ⟨U', l2, c2, s2⟩, hW₁, X', ⟨g', mk, t, L, e1, e2, hq, h1, hL, h2, h3⟩, st⟩ | ⟨q, vm₁, ⟨U', l2, c2, s2⟩, hW₁, X', ⟨g', mk, t, L, E, ce, e1, e2, hq, hce, hcv, hcl, h1, hL, h2, h3⟩, st⟩
  · dsimp only [Pt.U, Pt.locs, Pt.cells, Pt.slots] at X' e1 e2 h1 h2 h3 st
    subst h1; subst h2; subst h3
    exact Or.inl ⟨v, (T.setVm vm₁).calling g' mk (Value.ref b :: As).toArray, t, U', L, hT, X', hL, e1, e2, hq, st⟩
  · dsimp only [Pt.U, Pt.locs, Pt.cells, Pt.slots] at X' e1 e2 h1 h2 h3 st hcl
    subst h1; subst h2; subst h3
    exact Or.inr ⟨q, (T.setVm vm₁).calling g' mk (Value.ref b :: As).toArray, t, U', L, E, ce, hT, X', hL, e1, e2, hq, hce, hcv, vx_cls hW₁ hcl, st⟩
theorem vx_runSX {hh : List (Nat × Nat × Nat × Nat)} (S : CallFix p m c cc nL s args Ts own) (hM : vx_Met l y ws rm Pc Qc XC mc ms free) (cw : vx_CSW R s args own index y bytes maxL ret hh ws rm mc ms n) (hp : PreS s H Pc As)
    (hg : g.method = m) (hn : As.length = n) (hsize : g.locals.size = nL) (hstack : g.stack = As.reverse ++ rest) (hW : 2 * g.monitorRoom + (rest.map fun v => v.category).sum ≤ 8) (hdg : decode cc g.pc = .ok (.invokestatic index, 3)) (hf : cells + mc ≤ R.cells ∧ slots + ms ≤ R.slots) :
    vx_Run p l e R s m args below meth c H locs cells slots mc ms g rest (Qc As.toArray) XC free := by
  obtain ⟨⟨hrc, hrs, hfr, hlo, hws, hcw⟩, hcode, hini, hy, hlen, hl, hstt⟩ := cw
  have hK : vx_Back l R p e below s args y 3 8 (PreOf R mc ms Pc) (PostOf Qc mc ms free) (vx_Post XC mc ms free) := vx_backW (hh := hh) (bytes := bytes) (maxL := maxL) (ret := ret) hM hp.1 hrc hrs hfr hlo hws hcw (fun a' U hW => word_at hW (Or.inl (by first | rfl | simp [Cond.onTables, Cond.keeps, Cond.steady])) hini)
  obtain ⟨hx, hb, hml, ho, -⟩ := S
  intro T hT X
  rcases vx_callSX X hx (hh := hh) (bytes := bytes) (maxL := maxL) (ret := ret) ho hl hstt hini hcode hy hK hg (hsize.trans hml.symm) (argsL := As) (rest := rest) (fun sig h => hn.trans (hlen sig h)) hstack hW (by rw [hb]; exact hdg)
    (fun vm₁ hW₁ => ⟨hf.1, hf.2, hp.2 (T.setVm vm₁) hT hW₁⟩) with ⟨v, vm₁, ⟨U', l2, c2, s2⟩, hW₁, X', ⟨g', mk, t, L, e1, e2, hq, h1, hL, h2, h3⟩, st⟩ | ⟨q, vm₁, ⟨U', l2, c2, s2⟩, hW₁, X', ⟨g', mk, t, L, E, ce, e1, e2, hq, hce, hcv, hcl, h1, hL, h2, h3⟩, st⟩
  · dsimp only [Pt.U, Pt.locs, Pt.cells, Pt.slots] at X' e1 e2 h1 h2 h3 st
    subst h1; subst h2; subst h3
    exact Or.inl ⟨v, (T.setVm vm₁).calling g' mk As.toArray, t, U', L, hT, X', hL, e1, e2, hq, st⟩
  · dsimp only [Pt.U, Pt.locs, Pt.cells, Pt.slots] at X' e1 e2 h1 h2 h3 st hcl
    subst h1; subst h2; subst h3
    exact Or.inr ⟨q, (T.setVm vm₁).calling g' mk As.toArray, t, U', L, E, ce, hT, X', hL, e1, e2, hq, hce, hcv, vx_cls hW₁ hcl, st⟩
end
end VXH
theorem vx_ofWH {l : Launch} {y : MethodName} {ws ws' : List Cond} {rm : Room} {Pc : Array Value → State → Prop} {Qc : Array Value → State → Outcome → State → Prop} {XC : String → State → State → Prop} {mc ms : Nat} {free : Addr → Prop} {cc : ByteArray} {maxL : Nat} {ret : Option FieldType} {hh : List (Nat × Nat × Nat × Nat)}
    (hy : plainName y.cls = true) (hw : ws = Cond.codeWith y cc maxL ret hh :: ws')
    (body : ∀ p e s m args below meth c s₁, BodyLoose p l y (headSpec ws rm) cc maxL ret e s m args below meth c s₁ → c.maxLocals = maxL → Pc args s →
      W p l e (headSpec ws rm).room s m args below meth c s.heap [] 0 0 (vx_MQ below Qc XC args s mc ms free) (entryFrame m args maxL)) : vx_Met l y ws rm Pc Qc XC mc ms free := by
  refine MetFree.of_bodyS (code := cc) (maxLocals := maxL) (ret := ret) hy ?_ ?_
  · intro args s m h hn
    obtain ⟨m9, meth, c, hn9, h1, h2, h3, h4, -, h5, h6, -⟩ := Cond.codeWith_spec (atoms_spec (ws := ws) h _ (by rw [hw]; exact List.mem_cons_self))
    cases hn.symm.trans hn9
    exact ⟨meth, c, h1, h2, h3, h4, h5, h6⟩
  · intro p e s m args below meth c s₁ B hml hP _
    have hh0 : s₁.heap = s.heap := by rw [B.state]; rfl
    obtain ⟨t, a1, o, b1, b2, b3⟩ := body p e s m args below meth c s₁ B hml hP s₁ hh0 (Stand.of_body B)
    exact ⟨t, o, a1, b1, b2, b3⟩
/-! ===== END ===== -/
end
section
def RX0 : String := "DropFour$Following"
def TX0 : u_T := fun k => match k with
  | _ => ("DropFour$Following", "grid", "LDropFour$Grid;", true)
def tyX0 : Nat → FieldType := fun k => match k with
  | _ => .object "DropFour$Grid"
abbrev wsX00 : List Cond := u_ws RX0 TX0 1
theorem nmX0 : ∀ a, a < 1 → ∀ b, b < 1 → a ≠ b → (TX0 a).2.1 ≠ (TX0 b).2.1 := by decide +kernel
theorem tyX0_ok : ∀ k, k < 1 → parseFieldDescriptor (TX0 k).2.2.1 = some (tyX0 k) := by decide +kernel
abbrev cX0_init : ByteArray := prog_2_method_1_code
def yX0_init : MethodName := ⟨RX0, "<init>", "(LDropFour$Grid;)V"⟩
abbrev cX0_leaderWins : ByteArray := prog_2_method_2_code
def yX0_leaderWins : MethodName := ⟨RX0, "leaderWins", "(JJ)Z"⟩
abbrev cX0_comesFirst : ByteArray := prog_2_method_3_code
def yX0_comesFirst : MethodName := ⟨RX0, "comesFirst", "(JJJ)Z"⟩
abbrev cX0_reached : ByteArray := prog_2_method_4_code
def yX0_reached : MethodName := ⟨RX0, "reached", "(JJ)J"⟩
def RX1 : String := "DropFour$Grid"
def TX1 : u_T := fun k => match k with
  | 0 => ("DropFour$Grid", "columns", "I", true)
  | 1 => ("DropFour$Grid", "rows", "I", true)
  | 2 => ("DropFour$Grid", "squares", "J", true)
  | 3 => ("DropFour$Grid", "floor", "J", true)
  | 4 => ("DropFour$Grid", "steps", "[I", true)
  | _ => ("DropFour$Grid", "columnSquares", "[J", true)
def tyX1 : Nat → FieldType := fun k => match k with
  | 0 => .int
  | 1 => .int
  | 2 => .long
  | 3 => .long
  | 4 => .array .int
  | _ => .array .long
abbrev wsX10 : List Cond := u_ws RX1 TX1 6
theorem nmX1 : ∀ a, a < 6 → ∀ b, b < 6 → a ≠ b → (TX1 a).2.1 ≠ (TX1 b).2.1 := by decide +kernel
theorem tyX1_ok : ∀ k, k < 6 → parseFieldDescriptor (TX1 k).2.2.1 = some (tyX1 k) := by decide +kernel
abbrev cX1_init : ByteArray := prog_3_method_1_code
def yX1_init : MethodName := ⟨RX1, "<init>", "(II)V"⟩
abbrev cX1_square : ByteArray := prog_3_method_2_code
def yX1_square : MethodName := ⟨RX1, "square", "(II)J"⟩
abbrev cX1_nextSquares : ByteArray := prog_3_method_3_code
def yX1_nextSquares : MethodName := ⟨RX1, "nextSquares", "(J)J"⟩
abbrev cX1_lineStarts : ByteArray := prog_3_method_4_code
def yX1_lineStarts : MethodName := ⟨RX1, "lineStarts", "(JI)J"⟩
abbrev cX1_hasLine : ByteArray := prog_3_method_5_code
def yX1_hasLine : MethodName := ⟨RX1, "hasLine", "(J)Z"⟩
abbrev cX1_countLines : ByteArray := prog_3_method_6_code
def yX1_countLines : MethodName := ⟨RX1, "countLines", "(J)I"⟩
abbrev cX1_threatSquares : ByteArray := prog_3_method_7_code
def yX1_threatSquares : MethodName := ⟨RX1, "threatSquares", "(JJ)J"⟩
abbrev cX1_completing : ByteArray := prog_3_method_8_code
def yX1_completing : MethodName := ⟨RX1, "completing", "(JI)J"⟩
def RX2 : String := "DropFour$Memory"
def TX2 : u_T := fun k => match k with
  | 0 => ("DropFour$Memory", "keys", "[J", true)
  | 1 => ("DropFour$Memory", "least", "[I", true)
  | _ => ("DropFour$Memory", "most", "[I", true)
def tyX2 : Nat → FieldType := fun k => match k with
  | 0 => .array .long
  | 1 => .array .int
  | _ => .array .int
abbrev wsX20 : List Cond := u_ws RX2 TX2 3
theorem nmX2 : ∀ a, a < 3 → ∀ b, b < 3 → a ≠ b → (TX2 a).2.1 ≠ (TX2 b).2.1 := by decide +kernel
theorem tyX2_ok : ∀ k, k < 3 → parseFieldDescriptor (TX2 k).2.2.1 = some (tyX2 k) := by decide +kernel
abbrev cX2_init : ByteArray := prog_4_method_1_code
def yX2_init : MethodName := ⟨RX2, "<init>", "()V"⟩
abbrev cX2_holds : ByteArray := prog_4_method_2_code
def yX2_holds : MethodName := ⟨RX2, "holds", "(J)Z"⟩
abbrev cX2_leastOf : ByteArray := prog_4_method_3_code
def yX2_leastOf : MethodName := ⟨RX2, "leastOf", "(J)I"⟩
abbrev cX2_mostOf : ByteArray := prog_4_method_4_code
def yX2_mostOf : MethodName := ⟨RX2, "mostOf", "(J)I"⟩
abbrev cX2_keep : ByteArray := prog_4_method_5_code
def yX2_keep : MethodName := ⟨RX2, "keep", "(JII)V"⟩
abbrev cX2_slotOf : ByteArray := prog_4_method_6_code
def yX2_slotOf : MethodName := ⟨RX2, "slotOf", "(J)I"⟩
def RX3 : String := "DropFour$Search"
def TX3 : u_T := fun k => match k with
  | 0 => ("DropFour$Search", "grid", "LDropFour$Grid;", true)
  | 1 => ("DropFour$Search", "memory", "LDropFour$Memory;", true)
  | _ => ("DropFour$Search", "middleFirst", "[J", true)
def tyX3 : Nat → FieldType := fun k => match k with
  | 0 => .object "DropFour$Grid"
  | 1 => .object "DropFour$Memory"
  | _ => .array .long
abbrev wsX30 : List Cond := u_ws RX3 TX3 3
theorem nmX3 : ∀ a, a < 3 → ∀ b, b < 3 → a ≠ b → (TX3 a).2.1 ≠ (TX3 b).2.1 := by decide +kernel
theorem tyX3_ok : ∀ k, k < 3 → parseFieldDescriptor (TX3 k).2.2.1 = some (tyX3 k) := by decide +kernel
abbrev cX3_init : ByteArray := prog_5_method_1_code
def yX3_init : MethodName := ⟨RX3, "<init>", "(LDropFour$Grid;)V"⟩
abbrev cX3_score : ByteArray := prog_5_method_2_code
def yX3_score : MethodName := ⟨RX3, "score", "(JJIII)I"⟩
abbrev cX3_safeMoves : ByteArray := prog_5_method_3_code
def yX3_safeMoves : MethodName := ⟨RX3, "safeMoves", "(JJ)J"⟩
abbrev cX3_remembered : ByteArray := prog_5_method_4_code
def yX3_remembered : MethodName := ⟨RX3, "remembered", "(JJJIII)I"⟩
abbrev cX3_leastAtFirst : ByteArray := prog_5_method_5_code
def yX3_leastAtFirst : MethodName := ⟨RX3, "leastAtFirst", "(JI)I"⟩
abbrev cX3_mostAtFirst : ByteArray := prog_5_method_6_code
def yX3_mostAtFirst : MethodName := ⟨RX3, "mostAtFirst", "(JI)I"⟩
abbrev cX3_tried : ByteArray := prog_5_method_7_code
def yX3_tried : MethodName := ⟨RX3, "tried", "(JJJIII)I"⟩
def RX4 : String := "DropFour"
def TX4 : u_T := fun k => match k with
  | 0 => ("DropFour", "grid", "LDropFour$Grid;", true)
  | 1 => ("DropFour", "search", "LDropFour$Search;", true)
  | 2 => ("DropFour", "following", "LDropFour$Following;", true)
  | 3 => ("DropFour", "stones", "[J", true)
  | 4 => ("DropFour", "heights", "[I", true)
  | 5 => ("DropFour", "history", "[I", true)
  | _ => ("DropFour", "count", "I", false)
def tyX4 : Nat → FieldType := fun k => match k with
  | 0 => .object "DropFour$Grid"
  | 1 => .object "DropFour$Search"
  | 2 => .object "DropFour$Following"
  | 3 => .array .long
  | 4 => .array .int
  | 5 => .array .int
  | _ => .int
abbrev wsX40 : List Cond := u_ws RX4 TX4 7
theorem nmX4 : ∀ a, a < 7 → ∀ b, b < 7 → a ≠ b → (TX4 a).2.1 ≠ (TX4 b).2.1 := by decide +kernel
theorem tyX4_ok : ∀ k, k < 7 → parseFieldDescriptor (TX4 k).2.2.1 = some (tyX4 k) := by decide +kernel
abbrev cX4_init : ByteArray := prog_1_method_1_code
def yX4_init : MethodName := ⟨RX4, "<init>", "(II)V"⟩
abbrev cX4_drop : ByteArray := prog_1_method_2_code
def yX4_drop : MethodName := ⟨RX4, "drop", "(I)I"⟩
abbrev cX4_back : ByteArray := prog_1_method_3_code
def yX4_back : MethodName := ⟨RX4, "back", "()I"⟩
abbrev cX4_turn : ByteArray := prog_1_method_4_code
def yX4_turn : MethodName := ⟨RX4, "turn", "()I"⟩
abbrev cX4_winner : ByteArray := prog_1_method_5_code
def yX4_winner : MethodName := ⟨RX4, "winner", "()I"⟩
abbrev cX4_at : ByteArray := prog_1_method_6_code
def yX4_at : MethodName := ⟨RX4, "at", "(II)I"⟩
abbrev cX4_empty : ByteArray := prog_1_method_7_code
def yX4_empty : MethodName := ⟨RX4, "empty", "()I"⟩
abbrev cX4_open : ByteArray := prog_1_method_8_code
def yX4_open : MethodName := ⟨RX4, "open", "(I)I"⟩
abbrev cX4_threats : ByteArray := prog_1_method_9_code
def yX4_threats : MethodName := ⟨RX4, "threats", "(I)I"⟩
abbrev cX4_value : ByteArray := prog_1_method_10_code
def yX4_value : MethodName := ⟨RX4, "value", "()I"⟩
abbrev cX4_valueOf : ByteArray := prog_1_method_11_code
def yX4_valueOf : MethodName := ⟨RX4, "valueOf", "(I)I"⟩
abbrev cX4_best : ByteArray := prog_1_method_12_code
def yX4_best : MethodName := ⟨RX4, "best", "()I"⟩
abbrev cX4_beats : ByteArray := prog_1_method_13_code
def yX4_beats : MethodName := ⟨RX4, "beats", "()Z"⟩
abbrev cX4_between : ByteArray := prog_1_method_14_code
def yX4_between : MethodName := ⟨RX4, "between", "(II)I"⟩
abbrev cX4_isPlayer : ByteArray := prog_1_method_15_code
def yX4_isPlayer : MethodName := ⟨RX4, "isPlayer", "(I)Z"⟩
abbrev cX4_isColumn : ByteArray := prog_1_method_16_code
def yX4_isColumn : MethodName := ⟨RX4, "isColumn", "(I)Z"⟩
abbrev cX4_isFull : ByteArray := prog_1_method_17_code
def yX4_isFull : MethodName := ⟨RX4, "isFull", "(I)Z"⟩
abbrev cX4_isOver : ByteArray := prog_1_method_18_code
def yX4_isOver : MethodName := ⟨RX4, "isOver", "()Z"⟩
abbrev cX4_canBeValued : ByteArray := prog_1_method_19_code
def yX4_canBeValued : MethodName := ⟨RX4, "canBeValued", "()Z"⟩
abbrev cX4_canFollow : ByteArray := prog_1_method_20_code
def yX4_canFollow : MethodName := ⟨RX4, "canFollow", "()Z"⟩
abbrev cX4_mine : ByteArray := prog_1_method_21_code
def yX4_mine : MethodName := ⟨RX4, "mine", "()J"⟩
abbrev cX4_theirs : ByteArray := prog_1_method_22_code
def yX4_theirs : MethodName := ⟨RX4, "theirs", "()J"⟩
abbrev cX4_taken : ByteArray := prog_1_method_23_code
def yX4_taken : MethodName := ⟨RX4, "taken", "()J"⟩
abbrev cX4_scoreAbove : ByteArray := prog_1_method_24_code
def yX4_scoreAbove : MethodName := ⟨RX4, "scoreAbove", "(II)I"⟩
abbrev cX4_inDrops : ByteArray := prog_1_method_25_code
def yX4_inDrops : MethodName := ⟨RX4, "inDrops", "(I)I"⟩
def RX5 : String := "DropFourModel"
def TX5 : u_T := fun k => match k with
  | 0 => ("DropFourModel", "thrown", "I", false)
  | 1 => ("DropFourModel", "w", "I", true)
  | 2 => ("DropFourModel", "h", "I", true)
  | 3 => ("DropFourModel", "board", "[I", true)
  | 4 => ("DropFourModel", "heights", "[I", true)
  | 5 => ("DropFourModel", "drops", "[I", true)
  | 6 => ("DropFourModel", "n", "I", false)
  | 7 => ("DropFourModel", "known", "Z", false)
  | 8 => ("DropFourModel", "positions", "I", false)
  | 9 => ("DropFourModel", "which", "[I", true)
  | 10 => ("DropFourModel", "stones", "[I", true)
  | 11 => ("DropFourModel", "values", "[I", true)
  | 12 => ("DropFourModel", "layers", "[I", true)
  | 13 => ("DropFourModel", "slots", "[I", true)
  | 14 => ("DropFourModel", "weights", "[I", true)
  | 15 => ("DropFourModel", "offsets", "[I", true)
  | 16 => ("DropFourModel", "seen", "[I", true)
  | 17 => ("DropFourModel", "tops", "[I", true)
  | _ => ("DropFourModel", "reached", "[Z", true)
def tyX5 : Nat → FieldType := fun k => match k with
  | 0 => .int
  | 1 => .int
  | 2 => .int
  | 3 => .array .int
  | 4 => .array .int
  | 5 => .array .int
  | 6 => .int
  | 7 => .boolean
  | 8 => .int
  | 9 => .array .int
  | 10 => .array .int
  | 11 => .array .int
  | 12 => .array .int
  | 13 => .array .int
  | 14 => .array .int
  | 15 => .array .int
  | 16 => .array .int
  | 17 => .array .int
  | _ => .array .boolean
abbrev wsX50 : List Cond := u_ws RX5 TX5 19
theorem nmX5 : ∀ a, a < 19 → ∀ b, b < 19 → a ≠ b → (TX5 a).2.1 ≠ (TX5 b).2.1 := by decide +kernel
theorem tyX5_ok : ∀ k, k < 19 → parseFieldDescriptor (TX5 k).2.2.1 = some (tyX5 k) := by decide +kernel
abbrev cX5_init : ByteArray := prog_7_method_1_code
def yX5_init : MethodName := ⟨RX5, "<init>", "(II)V"⟩
abbrev cX5_thrown : ByteArray := prog_7_method_2_code
def yX5_thrown : MethodName := ⟨RX5, "thrown", "()I"⟩
abbrev cX5_refused : ByteArray := prog_7_method_3_code
def yX5_refused : MethodName := ⟨RX5, "refused", "(ZZ)Z"⟩
abbrev cX5_isSquare : ByteArray := prog_7_method_4_code
def yX5_isSquare : MethodName := ⟨RX5, "isSquare", "(II)Z"⟩
abbrev cX5_along : ByteArray := prog_7_method_5_code
def yX5_along : MethodName := ⟨RX5, "along", "([IIIII)I"⟩
abbrev cX5_wins : ByteArray := prog_7_method_6_code
def yX5_wins : MethodName := ⟨RX5, "wins", "([III)Z"⟩
abbrev cX5_winnerNow : ByteArray := prog_7_method_7_code
def yX5_winnerNow : MethodName := ⟨RX5, "winnerNow", "()I"⟩
abbrev cX5_drop : ByteArray := prog_7_method_8_code
def yX5_drop : MethodName := ⟨RX5, "drop", "(I)I"⟩
abbrev cX5_back : ByteArray := prog_7_method_9_code
def yX5_back : MethodName := ⟨RX5, "back", "()I"⟩
abbrev cX5_turn : ByteArray := prog_7_method_10_code
def yX5_turn : MethodName := ⟨RX5, "turn", "()I"⟩
abbrev cX5_winner : ByteArray := prog_7_method_11_code
def yX5_winner : MethodName := ⟨RX5, "winner", "()I"⟩
abbrev cX5_at : ByteArray := prog_7_method_12_code
def yX5_at : MethodName := ⟨RX5, "at", "(II)I"⟩
abbrev cX5_empty : ByteArray := prog_7_method_13_code
def yX5_empty : MethodName := ⟨RX5, "empty", "()I"⟩
abbrev cX5_columnOf : ByteArray := prog_7_method_14_code
def yX5_columnOf : MethodName := ⟨RX5, "columnOf", "(III)I"⟩
abbrev cX5_rowOf : ByteArray := prog_7_method_15_code
def yX5_rowOf : MethodName := ⟨RX5, "rowOf", "(III)I"⟩
abbrev cX5_isLine : ByteArray := prog_7_method_16_code
def yX5_isLine : MethodName := ⟨RX5, "isLine", "(III)Z"⟩
abbrev cX5_many : ByteArray := prog_7_method_17_code
def yX5_many : MethodName := ⟨RX5, "many", "(IIII)I"⟩
abbrev cX5_open : ByteArray := prog_7_method_18_code
def yX5_open : MethodName := ⟨RX5, "open", "(I)I"⟩
abbrev cX5_isThreat : ByteArray := prog_7_method_19_code
def yX5_isThreat : MethodName := ⟨RX5, "isThreat", "(III)Z"⟩
abbrev cX5_threats : ByteArray := prog_7_method_20_code
def yX5_threats : MethodName := ⟨RX5, "threats", "(I)I"⟩
abbrev cX5_show : ByteArray := prog_7_method_21_code
def yX5_show : MethodName := ⟨RX5, "show", "(I)V"⟩
abbrev cX5_slotOf : ByteArray := prog_7_method_22_code
def yX5_slotOf : MethodName := ⟨RX5, "slotOf", "(II)I"⟩
abbrev cX5_behind : ByteArray := prog_7_method_23_code
def yX5_behind : MethodName := ⟨RX5, "behind", "(III)I"⟩
abbrev cX5_add : ByteArray := prog_7_method_24_code
def yX5_add : MethodName := ⟨RX5, "add", "(III)V"⟩
abbrev cX5_dropWins : ByteArray := prog_7_method_25_code
def yX5_dropWins : MethodName := ⟨RX5, "dropWins", "(II)Z"⟩
abbrev cX5_turned : ByteArray := prog_7_method_26_code
def yX5_turned : MethodName := ⟨RX5, "turned", "(I)I"⟩
abbrev cX5_rank : ByteArray := prog_7_method_27_code
def yX5_rank : MethodName := ⟨RX5, "rank", "(I)I"⟩
abbrev cX5_valueBehind : ByteArray := prog_7_method_28_code
def yX5_valueBehind : MethodName := ⟨RX5, "valueBehind", "(IIIZ)I"⟩
abbrev cX5_lookAhead : ByteArray := prog_7_method_29_code
def yX5_lookAhead : MethodName := ⟨RX5, "lookAhead", "()V"⟩
abbrev cX5_isFar : ByteArray := prog_7_method_30_code
def yX5_isFar : MethodName := ⟨RX5, "isFar", "()Z"⟩
abbrev cX5_value : ByteArray := prog_7_method_31_code
def yX5_value : MethodName := ⟨RX5, "value", "()I"⟩
abbrev cX5_valueOf : ByteArray := prog_7_method_32_code
def yX5_valueOf : MethodName := ⟨RX5, "valueOf", "(I)I"⟩
abbrev cX5_best : ByteArray := prog_7_method_33_code
def yX5_best : MethodName := ⟨RX5, "best", "()I"⟩
abbrev cX5_showPairs : ByteArray := prog_7_method_34_code
def yX5_showPairs : MethodName := ⟨RX5, "showPairs", "(I)V"⟩
abbrev cX5_beats : ByteArray := prog_7_method_35_code
def yX5_beats : MethodName := ⟨RX5, "beats", "()Z"⟩
def RJ13 : String := "java/lang/Long"
def TJ13 : u_T := fun k => match k with
  | _ => ("", "", "", false)
def tyJ13 : Nat → FieldType := fun k => match k with
  | _ => .int
abbrev wsJ130 : List Cond := u_ws RJ13 TJ13 0
theorem nmJ13 : ∀ a, a < 0 → ∀ b, b < 0 → a ≠ b → (TJ13 a).2.1 ≠ (TJ13 b).2.1 := by decide +kernel
theorem tyJ13_ok : ∀ k, k < 0 → parseFieldDescriptor (TJ13 k).2.2.1 = some (tyJ13 k) := by decide +kernel
abbrev cJ13_bitCount_95d88 : ByteArray := prog_12_method_50_code
def yJ13_bitCount_95d88 : MethodName := ⟨RJ13, "bitCount", "(J)I"⟩
def RJ9 : String := "java/lang/Math"
def TJ9 : u_T := fun k => match k with
  | _ => ("", "", "", false)
def tyJ9 : Nat → FieldType := fun k => match k with
  | _ => .int
abbrev wsJ90 : List Cond := u_ws RJ9 TJ9 0
theorem nmJ9 : ∀ a, a < 0 → ∀ b, b < 0 → a ≠ b → (TJ9 a).2.1 ≠ (TJ9 b).2.1 := by decide +kernel
theorem tyJ9_ok : ∀ k, k < 0 → parseFieldDescriptor (TJ9 k).2.2.1 = some (tyJ9 k) := by decide +kernel
abbrev cJ9_abs_0f7a4 : ByteArray := prog_13_method_59_code
def yJ9_abs_0f7a4 : MethodName := ⟨RJ9, "abs", "(I)I"⟩
abbrev cJ9_max_7cf53 : ByteArray := prog_13_method_65_code
def yJ9_max_7cf53 : MethodName := ⟨RJ9, "max", "(II)I"⟩
abbrev cJ9_min_7cf53 : ByteArray := prog_13_method_69_code
def yJ9_min_7cf53 : MethodName := ⟨RJ9, "min", "(II)I"⟩
def RJ0 : String := "java/lang/String"
def TJ0 : u_T := fun k => match k with
  | _ => ("", "", "", false)
def tyJ0 : Nat → FieldType := fun k => match k with
  | _ => .int
abbrev wsJ00 : List Cond := u_ws RJ0 TJ0 0
theorem nmJ0 : ∀ a, a < 0 → ∀ b, b < 0 → a ≠ b → (TJ0 a).2.1 ≠ (TJ0 b).2.1 := by decide +kernel
theorem tyJ0_ok : ∀ k, k < 0 → parseFieldDescriptor (TJ0 k).2.2.1 = some (tyJ0 k) := by decide +kernel
def RL : String := "DropFourLaw"
abbrev cL_cell : ByteArray := method_2_code
def yL_cell : MethodName := ⟨RL, "cell", "([II)I"⟩
abbrev cL_drop : ByteArray := method_3_code
def yL_drop : MethodName := ⟨RL, "drop", "(LDropFour;I[J)I"⟩
abbrev cL_back : ByteArray := method_4_code
def yL_back : MethodName := ⟨RL, "back", "(LDropFour;[J)I"⟩
abbrev cL_at : ByteArray := method_5_code
def yL_at : MethodName := ⟨RL, "at", "(LDropFour;II[J)I"⟩
abbrev cL_open : ByteArray := method_6_code
def yL_open : MethodName := ⟨RL, "open", "(LDropFour;I[J)I"⟩
abbrev cL_threats : ByteArray := method_7_code
def yL_threats : MethodName := ⟨RL, "threats", "(LDropFour;I[J)I"⟩
abbrev cL_value : ByteArray := method_8_code
def yL_value : MethodName := ⟨RL, "value", "(LDropFour;[J)I"⟩
abbrev cL_valueOf : ByteArray := method_9_code
def yL_valueOf : MethodName := ⟨RL, "valueOf", "(LDropFour;I[J)I"⟩
abbrev cL_best : ByteArray := method_10_code
def yL_best : MethodName := ⟨RL, "best", "(LDropFour;[J)I"⟩
abbrev cL_beats : ByteArray := method_11_code
def yL_beats : MethodName := ⟨RL, "beats", "(LDropFour;[J)I"⟩
abbrev cL_law : ByteArray := code
def yL_law : MethodName := ⟨RL, "law", "([I)Z"⟩
def wsX0_init : List Cond := .code yX0_init cX0_init 2 none :: ([.methodLink RX0 1 objectInit, .instanceMethod objectInit, .code objectInit ⟨#[0xb1]⟩ 1 none, .fieldLink RX0 7 "DropFour$Following" "grid" "LDropFour$Grid;"] ++ wsX00)
def wsX1_nextSquares : List Cond := .code yX1_nextSquares cX1_nextSquares 3 (some .long) :: ([.fieldLink RX1 24 "DropFour$Grid" "floor" "J", .fieldLink RX1 28 "DropFour$Grid" "squares" "J"] ++ wsX10)
def wsX1_lineStarts : List Cond := .code yX1_lineStarts cX1_lineStarts 6 (some .long) :: ([])
def wsX0_reached : List Cond := .code yX0_reached cX0_reached 16 (some .long) :: ([.fieldLink RX0 7 "DropFour$Following" "grid" "LDropFour$Grid;"] ++ wsX00 ++ wsX10)
def wsX1_hasLine : List Cond := .code yX1_hasLine cX1_hasLine 7 (some .boolean) :: ([.fieldLink RX1 16 "DropFour$Grid" "steps" "[I", .methodLink RX1 31 yX1_lineStarts, .instanceMethod yX1_lineStarts, .selects RX1 yX1_lineStarts yX1_lineStarts, .initialized RX1, .code yX1_lineStarts cX1_lineStarts 6 (some .long)] ++ wsX10)
def wsX0_comesFirst : List Cond := .code yX0_comesFirst cX0_comesFirst 16 (some .boolean) :: ([.fieldLink RX0 7 "DropFour$Following" "grid" "LDropFour$Grid;", .methodLink RX0 41 yX0_reached, .instanceMethod yX0_reached, .selects RX0 yX0_reached yX0_reached, .initialized RX0, .code yX0_reached cX0_reached 16 (some .long), .methodLink RX0 45 yX1_hasLine, .instanceMethod yX1_hasLine, .selects RX1 yX1_hasLine yX1_hasLine, .initialized RX1, .code yX1_hasLine cX1_hasLine 7 (some .boolean), .fieldLink RX1 16 "DropFour$Grid" "steps" "[I", .methodLink RX1 31 yX1_lineStarts, .instanceMethod yX1_lineStarts, .selects RX1 yX1_lineStarts yX1_lineStarts, .code yX1_lineStarts cX1_lineStarts 6 (some .long)] ++ wsX00 ++ wsX10)
def wsX0_leaderWins_r1 : List Cond := [Cond.fieldLink RX0 7 "DropFour$Following" "grid" "LDropFour$Grid;", Cond.constantLong RX0 31 (-1), Cond.methodLink RX0 19 yX1_nextSquares, Cond.instanceMethod yX1_nextSquares, Cond.selects RX1 yX1_nextSquares yX1_nextSquares, Cond.initialized RX1, Cond.code yX1_nextSquares cX1_nextSquares 3 (some .long), Cond.fieldLink RX1 24 "DropFour$Grid" "floor" "J", Cond.fieldLink RX1 28 "DropFour$Grid" "squares" "J", Cond.methodLink RX0 27 yX1_lineStarts, Cond.instanceMethod yX1_lineStarts, Cond.selects RX1 yX1_lineStarts yX1_lineStarts, Cond.code yX1_lineStarts cX1_lineStarts 6 (some .long), Cond.methodLink RX0 33 yX0_comesFirst, Cond.instanceMethod yX0_comesFirst, Cond.selects RX0 yX0_comesFirst yX0_comesFirst, Cond.initialized RX0, Cond.code yX0_comesFirst cX0_comesFirst 16 (some .boolean), Cond.methodLink RX0 41 yX0_reached, Cond.instanceMethod yX0_reached, Cond.selects RX0 yX0_reached yX0_reached, Cond.code yX0_reached cX0_reached 16 (some .long), Cond.methodLink RX0 45 yX1_hasLine, Cond.instanceMethod yX1_hasLine]
def wsX0_leaderWins_r2 : List Cond := [Cond.selects RX1 yX1_hasLine yX1_hasLine, Cond.code yX1_hasLine cX1_hasLine 7 (some .boolean), Cond.fieldLink RX1 16 "DropFour$Grid" "steps" "[I", Cond.methodLink RX1 31 yX1_lineStarts]
def wsX0_leaderWins : List Cond := .code yX0_leaderWins cX0_leaderWins 22 (some .boolean) :: ((wsX0_leaderWins_r1 ++ wsX0_leaderWins_r2) ++ wsX00 ++ wsX10)
def wsX1_init : List Cond := .code yX1_init cX1_init 10 none :: ([.methodLink RX1 1 objectInit, .instanceMethod objectInit, .code objectInit ⟨#[0xb1]⟩ 1 none, .fieldLink RX1 7 "DropFour$Grid" "columns" "I", .fieldLink RX1 13 "DropFour$Grid" "rows" "I", .arrayClass .int, .fieldLink RX1 16 "DropFour$Grid" "steps" "[I", .arrayClass .long, .fieldLink RX1 20 "DropFour$Grid" "columnSquares" "[J", .fieldLink RX1 24 "DropFour$Grid" "floor" "J", .fieldLink RX1 28 "DropFour$Grid" "squares" "J"] ++ wsX10)
def wsX1_square : List Cond := .code yX1_square cX1_square 3 (some .long) :: ([.fieldLink RX1 13 "DropFour$Grid" "rows" "I"] ++ wsX10)
def wsJ13_bitCount_95d88 : List Cond := .code yJ13_bitCount_95d88 cJ13_bitCount_95d88 2 (some .int) :: ([.constantLong RJ13 314 (6148914691236517205), .constantLong RJ13 316 (3689348814741910323), .constantLong RJ13 318 (1085102592571150095)])
def wsX1_countLines : List Cond := .code yX1_countLines cX1_countLines 8 (some .int) :: ([.fieldLink RX1 16 "DropFour$Grid" "steps" "[I", .methodLink RX1 31 yX1_lineStarts, .instanceMethod yX1_lineStarts, .selects RX1 yX1_lineStarts yX1_lineStarts, .initialized RX1, .code yX1_lineStarts cX1_lineStarts 6 (some .long), .methodLink RX1 35 yJ13_bitCount_95d88, .static yJ13_bitCount_95d88, .initialized RJ13, .code yJ13_bitCount_95d88 cJ13_bitCount_95d88 2 (some .int), .constantLong RJ13 314 (6148914691236517205), .constantLong RJ13 316 (3689348814741910323), .constantLong RJ13 318 (1085102592571150095)] ++ wsX10)
def wsX1_completing : List Cond := .code yX1_completing cX1_completing 11 (some .long) :: ([])
def wsX1_threatSquares : List Cond := .code yX1_threatSquares cX1_threatSquares 11 (some .long) :: ([.fieldLink RX1 16 "DropFour$Grid" "steps" "[I", .fieldLink RX1 28 "DropFour$Grid" "squares" "J", .constantLong RX1 44 (-1), .methodLink RX1 41 yX1_completing, .static yX1_completing, .initialized RX1, .code yX1_completing cX1_completing 11 (some .long)] ++ wsX10)
def wsX2_init : List Cond := .code yX2_init cX2_init 1 none :: ([.methodLink RX2 1 objectInit, .instanceMethod objectInit, .code objectInit ⟨#[0xb1]⟩ 1 none, .arrayClass .long, .fieldLink RX2 9 "DropFour$Memory" "keys" "[J", .arrayClass .int, .fieldLink RX2 13 "DropFour$Memory" "least" "[I", .fieldLink RX2 17 "DropFour$Memory" "most" "[I"] ++ wsX20)
def wsX2_slotOf : List Cond := .code yX2_slotOf cX2_slotOf 2 (some .int) :: ([.constantLong RX2 24 (-7046029254386353131)])
def wsX2_holds : List Cond := .code yX2_holds cX2_holds 3 (some .boolean) :: ([.fieldLink RX2 9 "DropFour$Memory" "keys" "[J", .methodLink RX2 20 yX2_slotOf, .static yX2_slotOf, .initialized RX2, .code yX2_slotOf cX2_slotOf 2 (some .int), .constantLong RX2 24 (-7046029254386353131)] ++ wsX20)
def wsX2_leastOf : List Cond := .code yX2_leastOf cX2_leastOf 3 (some .int) :: ([.fieldLink RX2 13 "DropFour$Memory" "least" "[I", .methodLink RX2 20 yX2_slotOf, .static yX2_slotOf, .initialized RX2, .code yX2_slotOf cX2_slotOf 2 (some .int), .constantLong RX2 24 (-7046029254386353131)] ++ wsX20)
def wsX2_mostOf : List Cond := .code yX2_mostOf cX2_mostOf 3 (some .int) :: ([.fieldLink RX2 17 "DropFour$Memory" "most" "[I", .methodLink RX2 20 yX2_slotOf, .static yX2_slotOf, .initialized RX2, .code yX2_slotOf cX2_slotOf 2 (some .int), .constantLong RX2 24 (-7046029254386353131)] ++ wsX20)
def wsX2_keep : List Cond := .code yX2_keep cX2_keep 6 none :: ([.fieldLink RX2 9 "DropFour$Memory" "keys" "[J", .fieldLink RX2 13 "DropFour$Memory" "least" "[I", .fieldLink RX2 17 "DropFour$Memory" "most" "[I", .methodLink RX2 20 yX2_slotOf, .static yX2_slotOf, .initialized RX2, .code yX2_slotOf cX2_slotOf 2 (some .int), .constantLong RX2 24 (-7046029254386353131)] ++ wsX20)
def wsX3_init : List Cond := .code yX3_init cX3_init 4 none :: ([.methodLink RX3 1 objectInit, .instanceMethod objectInit, .code objectInit ⟨#[0xb1]⟩ 1 none, .classLink RX3 7 RX2, .instantiable RX2 3, .initialized RX2, .fieldLink RX3 10 "DropFour$Search" "memory" "LDropFour$Memory;", .fieldLink RX3 16 "DropFour$Search" "grid" "LDropFour$Grid;", .arrayClass .long, .fieldLink RX3 26 "DropFour$Search" "middleFirst" "[J", .instanceMethod yX2_init, .code yX2_init cX2_init 1 none, .methodLink RX2 1 objectInit, .fieldLink RX2 9 "DropFour$Memory" "keys" "[J", .arrayClass .int, .fieldLink RX2 13 "DropFour$Memory" "least" "[I", .fieldLink RX2 17 "DropFour$Memory" "most" "[I"] ++ wsX20 ++ wsX30 ++ wsX10)
def wsX3_leastAtFirst : List Cond := .code yX3_leastAtFirst cX3_leastAtFirst 4 (some .int) :: ([.fieldLink RX3 16 "DropFour$Search" "grid" "LDropFour$Grid;", .constantLong RX3 54 (-1), .methodLink RX3 96 yX1_hasLine, .instanceMethod yX1_hasLine, .selects RX1 yX1_hasLine yX1_hasLine, .initialized RX1, .code yX1_hasLine cX1_hasLine 7 (some .boolean), .fieldLink RX1 16 "DropFour$Grid" "steps" "[I", .methodLink RX1 31 yX1_lineStarts, .instanceMethod yX1_lineStarts, .selects RX1 yX1_lineStarts yX1_lineStarts, .code yX1_lineStarts cX1_lineStarts 6 (some .long)] ++ wsX30 ++ wsX10)
def wsX3_mostAtFirst : List Cond := .code yX3_mostAtFirst cX3_mostAtFirst 4 (some .int) :: ([.fieldLink RX3 16 "DropFour$Search" "grid" "LDropFour$Grid;", .constantLong RX3 54 (-1), .methodLink RX3 96 yX1_hasLine, .instanceMethod yX1_hasLine, .selects RX1 yX1_hasLine yX1_hasLine, .initialized RX1, .code yX1_hasLine cX1_hasLine 7 (some .boolean), .fieldLink RX1 16 "DropFour$Grid" "steps" "[I", .methodLink RX1 31 yX1_lineStarts, .instanceMethod yX1_lineStarts, .selects RX1 yX1_lineStarts yX1_lineStarts, .code yX1_lineStarts cX1_lineStarts 6 (some .long)] ++ wsX30 ++ wsX10)
def wsX3_safeMoves : List Cond := .code yX3_safeMoves cX3_safeMoves 8 (some .long) :: ([.constantLong RX3 54 (-1), .methodLink RX3 48 yJ13_bitCount_95d88, .static yJ13_bitCount_95d88, .initialized RJ13, .code yJ13_bitCount_95d88 cJ13_bitCount_95d88 2 (some .int), .constantLong RJ13 314 (6148914691236517205), .constantLong RJ13 316 (3689348814741910323), .constantLong RJ13 318 (1085102592571150095)])
def wsX3_remembered_r1 : List Cond := [Cond.fieldLink RX3 16 "DropFour$Search" "grid" "LDropFour$Grid;", Cond.fieldLink RX3 10 "DropFour$Search" "memory" "LDropFour$Memory;", Cond.methodLink RX3 77 Lib.Math.max.name, Cond.static Lib.Math.max.name, Cond.initialized "java/lang/Math", Cond.code Lib.Math.max.name Lib.Math.max.code 2 (some .int), Cond.methodLink RX3 83 Lib.Math.min.name, Cond.static Lib.Math.min.name, Cond.code Lib.Math.min.name Lib.Math.min.code 2 (some .int), Cond.methodLink RX3 60 yX2_holds, Cond.instanceMethod yX2_holds, Cond.selects RX2 yX2_holds yX2_holds, Cond.initialized RX2, Cond.code yX2_holds cX2_holds 3 (some .boolean), Cond.fieldLink RX2 9 "DropFour$Memory" "keys" "[J", Cond.methodLink RX2 20 yX2_slotOf, Cond.static yX2_slotOf, Cond.code yX2_slotOf cX2_slotOf 2 (some .int), Cond.constantLong RX2 24 (-7046029254386353131), Cond.methodLink RX3 64 yX2_leastOf, Cond.instanceMethod yX2_leastOf, Cond.selects RX2 yX2_leastOf yX2_leastOf, Cond.code yX2_leastOf cX2_leastOf 3 (some .int), Cond.fieldLink RX2 13 "DropFour$Memory" "least" "[I"]
def wsX3_remembered_r2 : List Cond := [Cond.methodLink RX3 67 yX3_leastAtFirst, Cond.instanceMethod yX3_leastAtFirst, Cond.selects RX3 yX3_leastAtFirst yX3_leastAtFirst, Cond.initialized RX3, Cond.code yX3_leastAtFirst cX3_leastAtFirst 4 (some .int), Cond.constantLong RX3 54 (-1), Cond.methodLink RX3 96 yX1_hasLine, Cond.instanceMethod yX1_hasLine, Cond.selects RX1 yX1_hasLine yX1_hasLine, Cond.initialized RX1, Cond.code yX1_hasLine cX1_hasLine 7 (some .boolean), Cond.fieldLink RX1 16 "DropFour$Grid" "steps" "[I", Cond.methodLink RX1 31 yX1_lineStarts, Cond.instanceMethod yX1_lineStarts, Cond.selects RX1 yX1_lineStarts yX1_lineStarts, Cond.code yX1_lineStarts cX1_lineStarts 6 (some .long), Cond.methodLink RX3 71 yX2_mostOf, Cond.instanceMethod yX2_mostOf, Cond.selects RX2 yX2_mostOf yX2_mostOf, Cond.code yX2_mostOf cX2_mostOf 3 (some .int), Cond.fieldLink RX2 17 "DropFour$Memory" "most" "[I", Cond.methodLink RX3 74 yX3_mostAtFirst, Cond.instanceMethod yX3_mostAtFirst, Cond.selects RX3 yX3_mostAtFirst yX3_mostAtFirst]
def wsX3_remembered_r3 : List Cond := [Cond.code yX3_mostAtFirst cX3_mostAtFirst 4 (some .int), Cond.methodLink RX3 86 yX3_tried, Cond.instanceMethod yX3_tried, Cond.selects RX3 yX3_tried yX3_tried, Cond.methodLink RX3 89 yX2_keep, Cond.instanceMethod yX2_keep, Cond.selects RX2 yX2_keep yX2_keep, Cond.code yX2_keep cX2_keep 6 none, Cond.code yX3_score cX3_score 14 (some .int), Cond.methodLink RX3 33 yX1_nextSquares, Cond.instanceMethod yX1_nextSquares, Cond.selects RX1 yX1_nextSquares yX1_nextSquares, Cond.code yX1_nextSquares cX1_nextSquares 3 (some .long), Cond.fieldLink RX1 24 "DropFour$Grid" "floor" "J", Cond.fieldLink RX1 28 "DropFour$Grid" "squares" "J", Cond.methodLink RX3 37 yX1_threatSquares, Cond.instanceMethod yX1_threatSquares, Cond.selects RX1 yX1_threatSquares yX1_threatSquares, Cond.code yX1_threatSquares cX1_threatSquares 11 (some .long), Cond.constantLong RX1 44 (-1), Cond.methodLink RX1 41 yX1_completing, Cond.static yX1_completing, Cond.code yX1_completing cX1_completing 11 (some .long), Cond.methodLink RX3 41 yX3_safeMoves]
def wsX3_remembered_r4 : List Cond := [Cond.static yX3_safeMoves, Cond.code yX3_safeMoves cX3_safeMoves 8 (some .long), Cond.methodLink RX3 48 yJ13_bitCount_95d88, Cond.static yJ13_bitCount_95d88, Cond.initialized RJ13, Cond.code yJ13_bitCount_95d88 cJ13_bitCount_95d88 2 (some .int), Cond.constantLong RJ13 314 (6148914691236517205), Cond.constantLong RJ13 316 (3689348814741910323), Cond.constantLong RJ13 318 (1085102592571150095), Cond.methodLink RX3 44 yX3_remembered, Cond.instanceMethod yX3_remembered, Cond.selects RX3 yX3_remembered yX3_remembered, Cond.code yX3_tried cX3_tried 15 (some .int), Cond.fieldLink RX3 26 "DropFour$Search" "middleFirst" "[J", Cond.methodLink RX3 99 yX3_score, Cond.instanceMethod yX3_score, Cond.selects RX3 yX3_score yX3_score]
def wsX3_remembered : List Cond := .code yX3_remembered cX3_remembered 18 (some .int) :: ((wsX3_remembered_r1 ++ (wsX3_remembered_r2 ++ (wsX3_remembered_r3 ++ wsX3_remembered_r4))) ++ wsX30 ++ wsX10 ++ wsX20)
def wsX3_score_r1 : List Cond := [Cond.fieldLink RX3 16 "DropFour$Search" "grid" "LDropFour$Grid;", Cond.methodLink RX3 33 yX1_nextSquares, Cond.instanceMethod yX1_nextSquares, Cond.selects RX1 yX1_nextSquares yX1_nextSquares, Cond.initialized RX1, Cond.code yX1_nextSquares cX1_nextSquares 3 (some .long), Cond.fieldLink RX1 24 "DropFour$Grid" "floor" "J", Cond.fieldLink RX1 28 "DropFour$Grid" "squares" "J", Cond.methodLink RX3 37 yX1_threatSquares, Cond.instanceMethod yX1_threatSquares, Cond.selects RX1 yX1_threatSquares yX1_threatSquares, Cond.code yX1_threatSquares cX1_threatSquares 11 (some .long), Cond.fieldLink RX1 16 "DropFour$Grid" "steps" "[I", Cond.constantLong RX1 44 (-1), Cond.methodLink RX1 41 yX1_completing, Cond.static yX1_completing, Cond.code yX1_completing cX1_completing 11 (some .long), Cond.methodLink RX3 41 yX3_safeMoves, Cond.static yX3_safeMoves, Cond.initialized RX3, Cond.code yX3_safeMoves cX3_safeMoves 8 (some .long), Cond.constantLong RX3 54 (-1), Cond.methodLink RX3 48 yJ13_bitCount_95d88, Cond.static yJ13_bitCount_95d88]
def wsX3_score_r2 : List Cond := [Cond.initialized RJ13, Cond.code yJ13_bitCount_95d88 cJ13_bitCount_95d88 2 (some .int), Cond.constantLong RJ13 314 (6148914691236517205), Cond.constantLong RJ13 316 (3689348814741910323), Cond.constantLong RJ13 318 (1085102592571150095), Cond.methodLink RX3 44 yX3_remembered, Cond.instanceMethod yX3_remembered, Cond.selects RX3 yX3_remembered yX3_remembered, Cond.code yX3_remembered cX3_remembered 18 (some .int), Cond.fieldLink RX3 10 "DropFour$Search" "memory" "LDropFour$Memory;", Cond.methodLink RX3 77 Lib.Math.max.name, Cond.static Lib.Math.max.name, Cond.initialized "java/lang/Math", Cond.code Lib.Math.max.name Lib.Math.max.code 2 (some .int), Cond.methodLink RX3 83 Lib.Math.min.name, Cond.static Lib.Math.min.name, Cond.code Lib.Math.min.name Lib.Math.min.code 2 (some .int), Cond.methodLink RX3 60 yX2_holds, Cond.instanceMethod yX2_holds, Cond.selects RX2 yX2_holds yX2_holds, Cond.initialized RX2, Cond.code yX2_holds cX2_holds 3 (some .boolean), Cond.fieldLink RX2 9 "DropFour$Memory" "keys" "[J", Cond.methodLink RX2 20 yX2_slotOf]
def wsX3_score_r3 : List Cond := [Cond.static yX2_slotOf, Cond.code yX2_slotOf cX2_slotOf 2 (some .int), Cond.constantLong RX2 24 (-7046029254386353131), Cond.methodLink RX3 64 yX2_leastOf, Cond.instanceMethod yX2_leastOf, Cond.selects RX2 yX2_leastOf yX2_leastOf, Cond.code yX2_leastOf cX2_leastOf 3 (some .int), Cond.fieldLink RX2 13 "DropFour$Memory" "least" "[I", Cond.methodLink RX3 67 yX3_leastAtFirst, Cond.instanceMethod yX3_leastAtFirst, Cond.selects RX3 yX3_leastAtFirst yX3_leastAtFirst, Cond.code yX3_leastAtFirst cX3_leastAtFirst 4 (some .int), Cond.methodLink RX3 96 yX1_hasLine, Cond.instanceMethod yX1_hasLine, Cond.selects RX1 yX1_hasLine yX1_hasLine, Cond.code yX1_hasLine cX1_hasLine 7 (some .boolean), Cond.methodLink RX1 31 yX1_lineStarts, Cond.instanceMethod yX1_lineStarts, Cond.selects RX1 yX1_lineStarts yX1_lineStarts, Cond.code yX1_lineStarts cX1_lineStarts 6 (some .long), Cond.methodLink RX3 71 yX2_mostOf, Cond.instanceMethod yX2_mostOf, Cond.selects RX2 yX2_mostOf yX2_mostOf, Cond.code yX2_mostOf cX2_mostOf 3 (some .int)]
def wsX3_score_r4 : List Cond := [Cond.fieldLink RX2 17 "DropFour$Memory" "most" "[I", Cond.methodLink RX3 74 yX3_mostAtFirst, Cond.instanceMethod yX3_mostAtFirst, Cond.selects RX3 yX3_mostAtFirst yX3_mostAtFirst, Cond.code yX3_mostAtFirst cX3_mostAtFirst 4 (some .int), Cond.methodLink RX3 86 yX3_tried, Cond.instanceMethod yX3_tried, Cond.selects RX3 yX3_tried yX3_tried, Cond.methodLink RX3 89 yX2_keep, Cond.instanceMethod yX2_keep, Cond.selects RX2 yX2_keep yX2_keep, Cond.code yX2_keep cX2_keep 6 none, Cond.code yX3_tried cX3_tried 15 (some .int), Cond.fieldLink RX3 26 "DropFour$Search" "middleFirst" "[J", Cond.methodLink RX3 99 yX3_score, Cond.instanceMethod yX3_score, Cond.selects RX3 yX3_score yX3_score]
def wsX3_score : List Cond := .code yX3_score cX3_score 14 (some .int) :: ((wsX3_score_r1 ++ (wsX3_score_r2 ++ (wsX3_score_r3 ++ wsX3_score_r4))) ++ wsX30 ++ wsX10 ++ wsX20)
def wsX3_tried_r1 : List Cond := [Cond.fieldLink RX3 16 "DropFour$Search" "grid" "LDropFour$Grid;", Cond.fieldLink RX3 26 "DropFour$Search" "middleFirst" "[J", Cond.methodLink RX3 77 Lib.Math.max.name, Cond.static Lib.Math.max.name, Cond.initialized "java/lang/Math", Cond.code Lib.Math.max.name Lib.Math.max.code 2 (some .int), Cond.methodLink RX3 83 Lib.Math.min.name, Cond.static Lib.Math.min.name, Cond.code Lib.Math.min.name Lib.Math.min.code 2 (some .int), Cond.methodLink RX3 99 yX3_score, Cond.instanceMethod yX3_score, Cond.selects RX3 yX3_score yX3_score, Cond.initialized RX3, Cond.code yX3_remembered cX3_remembered 18 (some .int), Cond.fieldLink RX3 10 "DropFour$Search" "memory" "LDropFour$Memory;", Cond.methodLink RX3 60 yX2_holds, Cond.instanceMethod yX2_holds, Cond.selects RX2 yX2_holds yX2_holds, Cond.initialized RX2, Cond.code yX2_holds cX2_holds 3 (some .boolean), Cond.fieldLink RX2 9 "DropFour$Memory" "keys" "[J", Cond.methodLink RX2 20 yX2_slotOf, Cond.static yX2_slotOf, Cond.code yX2_slotOf cX2_slotOf 2 (some .int)]
def wsX3_tried_r2 : List Cond := [Cond.constantLong RX2 24 (-7046029254386353131), Cond.methodLink RX3 64 yX2_leastOf, Cond.instanceMethod yX2_leastOf, Cond.selects RX2 yX2_leastOf yX2_leastOf, Cond.code yX2_leastOf cX2_leastOf 3 (some .int), Cond.fieldLink RX2 13 "DropFour$Memory" "least" "[I", Cond.methodLink RX3 67 yX3_leastAtFirst, Cond.instanceMethod yX3_leastAtFirst, Cond.selects RX3 yX3_leastAtFirst yX3_leastAtFirst, Cond.code yX3_leastAtFirst cX3_leastAtFirst 4 (some .int), Cond.constantLong RX3 54 (-1), Cond.methodLink RX3 96 yX1_hasLine, Cond.instanceMethod yX1_hasLine, Cond.selects RX1 yX1_hasLine yX1_hasLine, Cond.initialized RX1, Cond.code yX1_hasLine cX1_hasLine 7 (some .boolean), Cond.fieldLink RX1 16 "DropFour$Grid" "steps" "[I", Cond.methodLink RX1 31 yX1_lineStarts, Cond.instanceMethod yX1_lineStarts, Cond.selects RX1 yX1_lineStarts yX1_lineStarts, Cond.code yX1_lineStarts cX1_lineStarts 6 (some .long), Cond.methodLink RX3 71 yX2_mostOf, Cond.instanceMethod yX2_mostOf, Cond.selects RX2 yX2_mostOf yX2_mostOf]
def wsX3_tried_r3 : List Cond := [Cond.code yX2_mostOf cX2_mostOf 3 (some .int), Cond.fieldLink RX2 17 "DropFour$Memory" "most" "[I", Cond.methodLink RX3 74 yX3_mostAtFirst, Cond.instanceMethod yX3_mostAtFirst, Cond.selects RX3 yX3_mostAtFirst yX3_mostAtFirst, Cond.code yX3_mostAtFirst cX3_mostAtFirst 4 (some .int), Cond.methodLink RX3 86 yX3_tried, Cond.instanceMethod yX3_tried, Cond.selects RX3 yX3_tried yX3_tried, Cond.methodLink RX3 89 yX2_keep, Cond.instanceMethod yX2_keep, Cond.selects RX2 yX2_keep yX2_keep, Cond.code yX2_keep cX2_keep 6 none, Cond.code yX3_score cX3_score 14 (some .int), Cond.methodLink RX3 33 yX1_nextSquares, Cond.instanceMethod yX1_nextSquares, Cond.selects RX1 yX1_nextSquares yX1_nextSquares, Cond.code yX1_nextSquares cX1_nextSquares 3 (some .long), Cond.fieldLink RX1 24 "DropFour$Grid" "floor" "J", Cond.fieldLink RX1 28 "DropFour$Grid" "squares" "J", Cond.methodLink RX3 37 yX1_threatSquares, Cond.instanceMethod yX1_threatSquares, Cond.selects RX1 yX1_threatSquares yX1_threatSquares, Cond.code yX1_threatSquares cX1_threatSquares 11 (some .long)]
def wsX3_tried_r4 : List Cond := [Cond.constantLong RX1 44 (-1), Cond.methodLink RX1 41 yX1_completing, Cond.static yX1_completing, Cond.code yX1_completing cX1_completing 11 (some .long), Cond.methodLink RX3 41 yX3_safeMoves, Cond.static yX3_safeMoves, Cond.code yX3_safeMoves cX3_safeMoves 8 (some .long), Cond.methodLink RX3 48 yJ13_bitCount_95d88, Cond.static yJ13_bitCount_95d88, Cond.initialized RJ13, Cond.code yJ13_bitCount_95d88 cJ13_bitCount_95d88 2 (some .int), Cond.constantLong RJ13 314 (6148914691236517205), Cond.constantLong RJ13 316 (3689348814741910323), Cond.constantLong RJ13 318 (1085102592571150095), Cond.methodLink RX3 44 yX3_remembered, Cond.instanceMethod yX3_remembered, Cond.selects RX3 yX3_remembered yX3_remembered]
def wsX3_tried : List Cond := .code yX3_tried cX3_tried 15 (some .int) :: ((wsX3_tried_r1 ++ (wsX3_tried_r2 ++ (wsX3_tried_r3 ++ wsX3_tried_r4))) ++ wsX30 ++ wsX10 ++ wsX20)
def wsX4_between : List Cond := .code yX4_between cX4_between 2 (some .int) :: ([.methodLink RX4 165 Lib.Math.min.name, .static Lib.Math.min.name, .initialized "java/lang/Math", .code Lib.Math.min.name Lib.Math.min.code 2 (some .int), .methodLink RX4 170 Lib.Math.max.name, .static Lib.Math.max.name, .code Lib.Math.max.name Lib.Math.max.code 2 (some .int)])
def wsX4_init_r1 : List Cond := [Cond.methodLink RX4 1 objectInit, Cond.instanceMethod objectInit, Cond.code objectInit ⟨#[0xb1]⟩ 1 none, Cond.arrayClass .long, Cond.fieldLink RX4 7 "DropFour" "stones" "[J", Cond.fieldLink RX4 13 "DropFour" "count" "I", Cond.classLink RX4 21 RX1, Cond.instantiable RX1 6, Cond.initialized RX1, Cond.fieldLink RX4 26 "DropFour" "grid" "LDropFour$Grid;", Cond.classLink RX4 30 RX3, Cond.instantiable RX3 3, Cond.initialized RX3, Cond.fieldLink RX4 35 "DropFour" "search" "LDropFour$Search;", Cond.classLink RX4 39 RX0, Cond.instantiable RX0 1, Cond.initialized RX0, Cond.fieldLink RX4 42 "DropFour" "following" "LDropFour$Following;", Cond.arrayClass .int, Cond.fieldLink RX4 46 "DropFour" "heights" "[I", Cond.fieldLink RX4 50 "DropFour" "history" "[I", Cond.methodLink RX4 17 yX4_between, Cond.static yX4_between, Cond.initialized RX4]
def wsX4_init_r2 : List Cond := [Cond.code yX4_between cX4_between 2 (some .int), Cond.methodLink RX4 165 Lib.Math.min.name, Cond.static Lib.Math.min.name, Cond.initialized "java/lang/Math", Cond.code Lib.Math.min.name Lib.Math.min.code 2 (some .int), Cond.methodLink RX4 170 Lib.Math.max.name, Cond.static Lib.Math.max.name, Cond.code Lib.Math.max.name Lib.Math.max.code 2 (some .int), Cond.methodLink RX4 23 yX1_init, Cond.instanceMethod yX1_init, Cond.code yX1_init cX1_init 10 none, Cond.methodLink RX1 1 objectInit, Cond.fieldLink RX1 7 "DropFour$Grid" "columns" "I", Cond.fieldLink RX1 13 "DropFour$Grid" "rows" "I", Cond.fieldLink RX1 16 "DropFour$Grid" "steps" "[I", Cond.fieldLink RX1 20 "DropFour$Grid" "columnSquares" "[J", Cond.fieldLink RX1 24 "DropFour$Grid" "floor" "J", Cond.fieldLink RX1 28 "DropFour$Grid" "squares" "J", Cond.methodLink RX4 32 yX3_init, Cond.instanceMethod yX3_init, Cond.code yX3_init cX3_init 4 none, Cond.methodLink RX3 1 objectInit, Cond.classLink RX3 7 RX2, Cond.instantiable RX2 3]
def wsX4_init_r3 : List Cond := [Cond.initialized RX2, Cond.fieldLink RX3 10 "DropFour$Search" "memory" "LDropFour$Memory;", Cond.fieldLink RX3 16 "DropFour$Search" "grid" "LDropFour$Grid;", Cond.fieldLink RX3 26 "DropFour$Search" "middleFirst" "[J", Cond.instanceMethod yX2_init, Cond.code yX2_init cX2_init 1 none, Cond.methodLink RX2 1 objectInit, Cond.fieldLink RX2 9 "DropFour$Memory" "keys" "[J", Cond.fieldLink RX2 13 "DropFour$Memory" "least" "[I", Cond.fieldLink RX2 17 "DropFour$Memory" "most" "[I", Cond.methodLink RX4 41 yX0_init, Cond.instanceMethod yX0_init, Cond.code yX0_init cX0_init 2 none, Cond.methodLink RX0 1 objectInit, Cond.fieldLink RX0 7 "DropFour$Following" "grid" "LDropFour$Grid;"]
def wsX4_init : List Cond := .code yX4_init cX4_init 5 none :: ((wsX4_init_r1 ++ (wsX4_init_r2 ++ wsX4_init_r3)) ++ wsX40 ++ wsX10 ++ wsX30 ++ wsX00 ++ wsX20)
def wsX4_isColumn : List Cond := .code yX4_isColumn cX4_isColumn 2 (some .boolean) :: ([.fieldLink RX4 26 "DropFour" "grid" "LDropFour$Grid;"] ++ wsX40 ++ wsX10)
def wsX4_empty : List Cond := .code yX4_empty cX4_empty 1 (some .int) :: ([.fieldLink RX4 50 "DropFour" "history" "[I", .fieldLink RX4 13 "DropFour" "count" "I"] ++ wsX40)
def wsX4_winner : List Cond := .code yX4_winner cX4_winner 1 (some .int) :: ([.fieldLink RX4 26 "DropFour" "grid" "LDropFour$Grid;", .fieldLink RX4 7 "DropFour" "stones" "[J", .methodLink RX4 88 yX1_hasLine, .instanceMethod yX1_hasLine, .selects RX1 yX1_hasLine yX1_hasLine, .initialized RX1, .code yX1_hasLine cX1_hasLine 7 (some .boolean), .fieldLink RX1 16 "DropFour$Grid" "steps" "[I", .methodLink RX1 31 yX1_lineStarts, .instanceMethod yX1_lineStarts, .selects RX1 yX1_lineStarts yX1_lineStarts, .code yX1_lineStarts cX1_lineStarts 6 (some .long), .methodLink RX4 92 yX4_empty, .instanceMethod yX4_empty, .selects RX4 yX4_empty yX4_empty, .initialized RX4, .code yX4_empty cX4_empty 1 (some .int), .fieldLink RX4 50 "DropFour" "history" "[I", .fieldLink RX4 13 "DropFour" "count" "I"] ++ wsX40 ++ wsX10)
def wsX4_isOver : List Cond := .code yX4_isOver cX4_isOver 1 (some .boolean) :: ([.methodLink RX4 173 yX4_winner, .instanceMethod yX4_winner, .selects RX4 yX4_winner yX4_winner, .initialized RX4, .code yX4_winner cX4_winner 1 (some .int), .fieldLink RX4 26 "DropFour" "grid" "LDropFour$Grid;", .fieldLink RX4 7 "DropFour" "stones" "[J", .methodLink RX4 88 yX1_hasLine, .instanceMethod yX1_hasLine, .selects RX1 yX1_hasLine yX1_hasLine, .initialized RX1, .code yX1_hasLine cX1_hasLine 7 (some .boolean), .fieldLink RX1 16 "DropFour$Grid" "steps" "[I", .methodLink RX1 31 yX1_lineStarts, .instanceMethod yX1_lineStarts, .selects RX1 yX1_lineStarts yX1_lineStarts, .code yX1_lineStarts cX1_lineStarts 6 (some .long), .methodLink RX4 92 yX4_empty, .instanceMethod yX4_empty, .selects RX4 yX4_empty yX4_empty, .code yX4_empty cX4_empty 1 (some .int), .fieldLink RX4 50 "DropFour" "history" "[I", .fieldLink RX4 13 "DropFour" "count" "I"] ++ wsX40 ++ wsX10)
def wsX4_isFull : List Cond := .code yX4_isFull cX4_isFull 2 (some .boolean) :: ([.fieldLink RX4 46 "DropFour" "heights" "[I", .fieldLink RX4 26 "DropFour" "grid" "LDropFour$Grid;"] ++ wsX40 ++ wsX10)
def wsX4_turn : List Cond := .code yX4_turn cX4_turn 1 (some .int) :: ([.fieldLink RX4 13 "DropFour" "count" "I"] ++ wsX40)
def wsX4_drop_r1 : List Cond := [Cond.classLink RX4 57 "java/lang/IllegalArgumentException", Cond.initialized "java/lang/IllegalArgumentException", Cond.classLink RX4 71 "java/lang/IllegalStateException", Cond.initialized "java/lang/IllegalStateException", Cond.fieldLink RX4 46 "DropFour" "heights" "[I", Cond.fieldLink RX4 7 "DropFour" "stones" "[J", Cond.fieldLink RX4 26 "DropFour" "grid" "LDropFour$Grid;", Cond.fieldLink RX4 50 "DropFour" "history" "[I", Cond.fieldLink RX4 13 "DropFour" "count" "I", Cond.methodLink RX4 53 yX4_isColumn, Cond.instanceMethod yX4_isColumn, Cond.selects RX4 yX4_isColumn yX4_isColumn, Cond.initialized RX4, Cond.code yX4_isColumn cX4_isColumn 2 (some .boolean), Cond.methodLink RX4 64 yX4_isOver, Cond.instanceMethod yX4_isOver, Cond.selects RX4 yX4_isOver yX4_isOver, Cond.code yX4_isOver cX4_isOver 1 (some .boolean), Cond.methodLink RX4 173 yX4_winner, Cond.instanceMethod yX4_winner, Cond.selects RX4 yX4_winner yX4_winner, Cond.code yX4_winner cX4_winner 1 (some .int), Cond.methodLink RX4 88 yX1_hasLine, Cond.instanceMethod yX1_hasLine]
def wsX4_drop_r2 : List Cond := [Cond.selects RX1 yX1_hasLine yX1_hasLine, Cond.initialized RX1, Cond.code yX1_hasLine cX1_hasLine 7 (some .boolean), Cond.fieldLink RX1 16 "DropFour$Grid" "steps" "[I", Cond.methodLink RX1 31 yX1_lineStarts, Cond.instanceMethod yX1_lineStarts, Cond.selects RX1 yX1_lineStarts yX1_lineStarts, Cond.code yX1_lineStarts cX1_lineStarts 6 (some .long), Cond.methodLink RX4 92 yX4_empty, Cond.instanceMethod yX4_empty, Cond.selects RX4 yX4_empty yX4_empty, Cond.code yX4_empty cX4_empty 1 (some .int), Cond.methodLink RX4 68 yX4_isFull, Cond.instanceMethod yX4_isFull, Cond.selects RX4 yX4_isFull yX4_isFull, Cond.code yX4_isFull cX4_isFull 2 (some .boolean), Cond.methodLink RX4 76 yX4_turn, Cond.instanceMethod yX4_turn, Cond.selects RX4 yX4_turn yX4_turn, Cond.code yX4_turn cX4_turn 1 (some .int), Cond.methodLink RX4 80 yX1_square, Cond.instanceMethod yX1_square, Cond.selects RX1 yX1_square yX1_square, Cond.code yX1_square cX1_square 3 (some .long)]
def wsX4_drop_r3 : List Cond := [Cond.fieldLink RX1 13 "DropFour$Grid" "rows" "I"]
def wsX4_drop : List Cond := .code yX4_drop cX4_drop 3 (some .int) :: ((wsX4_drop_r1 ++ (wsX4_drop_r2 ++ wsX4_drop_r3)) ++ wsX40 ++ wsX10 ++ (vx_atS RX4 61 "java/lang/IllegalArgumentException" ["java/lang/RuntimeException", "java/lang/Exception"]).filter goodWord ++ (vx_atS RX4 75 "java/lang/IllegalStateException" ["java/lang/RuntimeException", "java/lang/Exception"]).filter goodWord)
def wsX4_back : List Cond := .code yX4_back cX4_back 2 (some .int) :: ([.classLink RX4 71 "java/lang/IllegalStateException", .initialized "java/lang/IllegalStateException", .fieldLink RX4 13 "DropFour" "count" "I", .fieldLink RX4 50 "DropFour" "history" "[I", .fieldLink RX4 46 "DropFour" "heights" "[I", .fieldLink RX4 7 "DropFour" "stones" "[J", .fieldLink RX4 26 "DropFour" "grid" "LDropFour$Grid;", .constantLong RX4 86 (-1), .methodLink RX4 76 yX4_turn, .instanceMethod yX4_turn, .selects RX4 yX4_turn yX4_turn, .initialized RX4, .code yX4_turn cX4_turn 1 (some .int), .methodLink RX4 80 yX1_square, .instanceMethod yX1_square, .selects RX1 yX1_square yX1_square, .initialized RX1, .code yX1_square cX1_square 3 (some .long), .fieldLink RX1 13 "DropFour$Grid" "rows" "I"] ++ wsX40 ++ wsX10 ++ (vx_atS RX4 75 "java/lang/IllegalStateException" ["java/lang/RuntimeException", "java/lang/Exception"]).filter goodWord)
def wsX4_at : List Cond := .code yX4_at cX4_at 5 (some .int) :: ([.classLink RX4 98 "java/lang/IndexOutOfBoundsException", .initialized "java/lang/IndexOutOfBoundsException", .fieldLink RX4 26 "DropFour" "grid" "LDropFour$Grid;", .fieldLink RX4 7 "DropFour" "stones" "[J", .methodLink RX4 53 yX4_isColumn, .instanceMethod yX4_isColumn, .selects RX4 yX4_isColumn yX4_isColumn, .initialized RX4, .code yX4_isColumn cX4_isColumn 2 (some .boolean), .methodLink RX4 80 yX1_square, .instanceMethod yX1_square, .selects RX1 yX1_square yX1_square, .initialized RX1, .code yX1_square cX1_square 3 (some .long), .fieldLink RX1 13 "DropFour$Grid" "rows" "I"] ++ wsX40 ++ wsX10 ++ (vx_atS RX4 102 "java/lang/IndexOutOfBoundsException" ["java/lang/RuntimeException", "java/lang/Exception"]).filter goodWord)
def wsX4_isPlayer : List Cond := .code yX4_isPlayer cX4_isPlayer 1 (some .boolean) :: ([])
def wsX4_open_r1 : List Cond := [Cond.classLink RX4 57 "java/lang/IllegalArgumentException", Cond.initialized "java/lang/IllegalArgumentException", Cond.fieldLink RX4 26 "DropFour" "grid" "LDropFour$Grid;", Cond.fieldLink RX4 7 "DropFour" "stones" "[J", Cond.constantLong RX4 86 (-1), Cond.methodLink RX4 103 yX4_isPlayer, Cond.static yX4_isPlayer, Cond.initialized RX4, Cond.code yX4_isPlayer cX4_isPlayer 1 (some .boolean), Cond.methodLink RX4 112 yX1_countLines, Cond.instanceMethod yX1_countLines, Cond.selects RX1 yX1_countLines yX1_countLines, Cond.initialized RX1, Cond.code yX1_countLines cX1_countLines 8 (some .int), Cond.fieldLink RX1 16 "DropFour$Grid" "steps" "[I", Cond.methodLink RX1 31 yX1_lineStarts, Cond.instanceMethod yX1_lineStarts, Cond.selects RX1 yX1_lineStarts yX1_lineStarts, Cond.code yX1_lineStarts cX1_lineStarts 6 (some .long), Cond.methodLink RX1 35 yJ13_bitCount_95d88, Cond.static yJ13_bitCount_95d88, Cond.initialized RJ13, Cond.code yJ13_bitCount_95d88 cJ13_bitCount_95d88 2 (some .int), Cond.constantLong RJ13 314 (6148914691236517205)]
def wsX4_open_r2 : List Cond := [Cond.constantLong RJ13 316 (3689348814741910323), Cond.constantLong RJ13 318 (1085102592571150095)]
def wsX4_open : List Cond := .code yX4_open cX4_open 2 (some .int) :: ((wsX4_open_r1 ++ wsX4_open_r2) ++ wsX40 ++ wsX10 ++ (vx_atS RX4 61 "java/lang/IllegalArgumentException" ["java/lang/RuntimeException", "java/lang/Exception"]).filter goodWord)
def wsX4_taken : List Cond := .code yX4_taken cX4_taken 1 (some .long) :: ([.fieldLink RX4 7 "DropFour" "stones" "[J"] ++ wsX40)
def wsX4_threats_r1 : List Cond := [Cond.classLink RX4 57 "java/lang/IllegalArgumentException", Cond.initialized "java/lang/IllegalArgumentException", Cond.fieldLink RX4 26 "DropFour" "grid" "LDropFour$Grid;", Cond.fieldLink RX4 7 "DropFour" "stones" "[J", Cond.methodLink RX4 103 yX4_isPlayer, Cond.static yX4_isPlayer, Cond.initialized RX4, Cond.code yX4_isPlayer cX4_isPlayer 1 (some .boolean), Cond.methodLink RX4 116 yX4_taken, Cond.instanceMethod yX4_taken, Cond.selects RX4 yX4_taken yX4_taken, Cond.code yX4_taken cX4_taken 1 (some .long), Cond.methodLink RX4 120 yX1_threatSquares, Cond.instanceMethod yX1_threatSquares, Cond.selects RX1 yX1_threatSquares yX1_threatSquares, Cond.initialized RX1, Cond.code yX1_threatSquares cX1_threatSquares 11 (some .long), Cond.fieldLink RX1 16 "DropFour$Grid" "steps" "[I", Cond.fieldLink RX1 28 "DropFour$Grid" "squares" "J", Cond.constantLong RX1 44 (-1), Cond.methodLink RX1 41 yX1_completing, Cond.static yX1_completing, Cond.code yX1_completing cX1_completing 11 (some .long), Cond.methodLink RX4 124 yJ13_bitCount_95d88]
def wsX4_threats_r2 : List Cond := [Cond.static yJ13_bitCount_95d88, Cond.initialized RJ13, Cond.code yJ13_bitCount_95d88 cJ13_bitCount_95d88 2 (some .int), Cond.constantLong RJ13 314 (6148914691236517205), Cond.constantLong RJ13 316 (3689348814741910323), Cond.constantLong RJ13 318 (1085102592571150095)]
def wsX4_threats : List Cond := .code yX4_threats cX4_threats 2 (some .int) :: ((wsX4_threats_r1 ++ wsX4_threats_r2) ++ wsX40 ++ wsX10 ++ (vx_atS RX4 61 "java/lang/IllegalArgumentException" ["java/lang/RuntimeException", "java/lang/Exception"]).filter goodWord)
def wsX4_canBeValued_r1 : List Cond := [Cond.methodLink RX4 92 yX4_empty, Cond.instanceMethod yX4_empty, Cond.selects RX4 yX4_empty yX4_empty, Cond.initialized RX4, Cond.code yX4_empty cX4_empty 1 (some .int), Cond.fieldLink RX4 50 "DropFour" "history" "[I", Cond.fieldLink RX4 13 "DropFour" "count" "I", Cond.methodLink RX4 64 yX4_isOver, Cond.instanceMethod yX4_isOver, Cond.selects RX4 yX4_isOver yX4_isOver, Cond.code yX4_isOver cX4_isOver 1 (some .boolean), Cond.methodLink RX4 173 yX4_winner, Cond.instanceMethod yX4_winner, Cond.selects RX4 yX4_winner yX4_winner, Cond.code yX4_winner cX4_winner 1 (some .int), Cond.fieldLink RX4 26 "DropFour" "grid" "LDropFour$Grid;", Cond.fieldLink RX4 7 "DropFour" "stones" "[J", Cond.methodLink RX4 88 yX1_hasLine, Cond.instanceMethod yX1_hasLine, Cond.selects RX1 yX1_hasLine yX1_hasLine, Cond.initialized RX1, Cond.code yX1_hasLine cX1_hasLine 7 (some .boolean), Cond.fieldLink RX1 16 "DropFour$Grid" "steps" "[I", Cond.methodLink RX1 31 yX1_lineStarts]
def wsX4_canBeValued_r2 : List Cond := [Cond.instanceMethod yX1_lineStarts, Cond.selects RX1 yX1_lineStarts yX1_lineStarts, Cond.code yX1_lineStarts cX1_lineStarts 6 (some .long)]
def wsX4_canBeValued : List Cond := .code yX4_canBeValued cX4_canBeValued 1 (some .boolean) :: ((wsX4_canBeValued_r1 ++ wsX4_canBeValued_r2) ++ wsX40 ++ wsX10)
def wsX4_mine : List Cond := .code yX4_mine cX4_mine 1 (some .long) :: ([.fieldLink RX4 7 "DropFour" "stones" "[J", .methodLink RX4 76 yX4_turn, .instanceMethod yX4_turn, .selects RX4 yX4_turn yX4_turn, .initialized RX4, .code yX4_turn cX4_turn 1 (some .int), .fieldLink RX4 13 "DropFour" "count" "I"] ++ wsX40)
def wsX4_theirs : List Cond := .code yX4_theirs cX4_theirs 1 (some .long) :: ([.fieldLink RX4 7 "DropFour" "stones" "[J", .methodLink RX4 76 yX4_turn, .instanceMethod yX4_turn, .selects RX4 yX4_turn yX4_turn, .initialized RX4, .code yX4_turn cX4_turn 1 (some .int), .fieldLink RX4 13 "DropFour" "count" "I"] ++ wsX40)
def wsX4_inDrops : List Cond := .code yX4_inDrops cX4_inDrops 3 (some .int) :: ([.methodLink RX4 176 Lib.Math.abs.name, .static Lib.Math.abs.name, .initialized "java/lang/Math", .code Lib.Math.abs.name Lib.Math.abs.code 1 (some .int), .methodLink RX4 92 yX4_empty, .instanceMethod yX4_empty, .selects RX4 yX4_empty yX4_empty, .initialized RX4, .code yX4_empty cX4_empty 1 (some .int), .fieldLink RX4 50 "DropFour" "history" "[I", .fieldLink RX4 13 "DropFour" "count" "I"] ++ wsX40)
def wsX4_value_r1 : List Cond := [Cond.classLink RX4 71 "java/lang/IllegalStateException", Cond.initialized "java/lang/IllegalStateException", Cond.fieldLink RX4 35 "DropFour" "search" "LDropFour$Search;", Cond.methodLink RX4 129 yX4_canBeValued, Cond.instanceMethod yX4_canBeValued, Cond.selects RX4 yX4_canBeValued yX4_canBeValued, Cond.initialized RX4, Cond.code yX4_canBeValued cX4_canBeValued 1 (some .boolean), Cond.methodLink RX4 92 yX4_empty, Cond.instanceMethod yX4_empty, Cond.selects RX4 yX4_empty yX4_empty, Cond.code yX4_empty cX4_empty 1 (some .int), Cond.fieldLink RX4 50 "DropFour" "history" "[I", Cond.fieldLink RX4 13 "DropFour" "count" "I", Cond.methodLink RX4 64 yX4_isOver, Cond.instanceMethod yX4_isOver, Cond.selects RX4 yX4_isOver yX4_isOver, Cond.code yX4_isOver cX4_isOver 1 (some .boolean), Cond.methodLink RX4 173 yX4_winner, Cond.instanceMethod yX4_winner, Cond.selects RX4 yX4_winner yX4_winner, Cond.code yX4_winner cX4_winner 1 (some .int), Cond.fieldLink RX4 26 "DropFour" "grid" "LDropFour$Grid;", Cond.fieldLink RX4 7 "DropFour" "stones" "[J"]
def wsX4_value_r2 : List Cond := [Cond.methodLink RX4 88 yX1_hasLine, Cond.instanceMethod yX1_hasLine, Cond.selects RX1 yX1_hasLine yX1_hasLine, Cond.initialized RX1, Cond.code yX1_hasLine cX1_hasLine 7 (some .boolean), Cond.fieldLink RX1 16 "DropFour$Grid" "steps" "[I", Cond.methodLink RX1 31 yX1_lineStarts, Cond.instanceMethod yX1_lineStarts, Cond.selects RX1 yX1_lineStarts yX1_lineStarts, Cond.code yX1_lineStarts cX1_lineStarts 6 (some .long), Cond.methodLink RX4 134 yX4_mine, Cond.instanceMethod yX4_mine, Cond.selects RX4 yX4_mine yX4_mine, Cond.code yX4_mine cX4_mine 1 (some .long), Cond.methodLink RX4 76 yX4_turn, Cond.instanceMethod yX4_turn, Cond.selects RX4 yX4_turn yX4_turn, Cond.code yX4_turn cX4_turn 1 (some .int), Cond.methodLink RX4 137 yX4_theirs, Cond.instanceMethod yX4_theirs, Cond.selects RX4 yX4_theirs yX4_theirs, Cond.code yX4_theirs cX4_theirs 1 (some .long), Cond.instanceMethod yX3_score, Cond.initialized RX3]
def wsX4_value_r3 : List Cond := [Cond.selects RX3 yX3_score yX3_score, Cond.code yX3_score cX3_score 14 (some .int), Cond.fieldLink RX3 16 "DropFour$Search" "grid" "LDropFour$Grid;", Cond.methodLink RX3 33 yX1_nextSquares, Cond.instanceMethod yX1_nextSquares, Cond.selects RX1 yX1_nextSquares yX1_nextSquares, Cond.code yX1_nextSquares cX1_nextSquares 3 (some .long), Cond.fieldLink RX1 24 "DropFour$Grid" "floor" "J", Cond.fieldLink RX1 28 "DropFour$Grid" "squares" "J", Cond.methodLink RX3 37 yX1_threatSquares, Cond.instanceMethod yX1_threatSquares, Cond.selects RX1 yX1_threatSquares yX1_threatSquares, Cond.code yX1_threatSquares cX1_threatSquares 11 (some .long), Cond.constantLong RX1 44 (-1), Cond.methodLink RX1 41 yX1_completing, Cond.static yX1_completing, Cond.code yX1_completing cX1_completing 11 (some .long), Cond.methodLink RX3 41 yX3_safeMoves, Cond.static yX3_safeMoves, Cond.code yX3_safeMoves cX3_safeMoves 8 (some .long), Cond.constantLong RX3 54 (-1), Cond.methodLink RX3 48 yJ13_bitCount_95d88, Cond.static yJ13_bitCount_95d88, Cond.initialized RJ13]
def wsX4_value_r4 : List Cond := [Cond.code yJ13_bitCount_95d88 cJ13_bitCount_95d88 2 (some .int), Cond.constantLong RJ13 314 (6148914691236517205), Cond.constantLong RJ13 316 (3689348814741910323), Cond.constantLong RJ13 318 (1085102592571150095), Cond.methodLink RX3 44 yX3_remembered, Cond.instanceMethod yX3_remembered, Cond.selects RX3 yX3_remembered yX3_remembered, Cond.code yX3_remembered cX3_remembered 18 (some .int), Cond.fieldLink RX3 10 "DropFour$Search" "memory" "LDropFour$Memory;", Cond.methodLink RX3 77 Lib.Math.max.name, Cond.static Lib.Math.max.name, Cond.initialized "java/lang/Math", Cond.code Lib.Math.max.name Lib.Math.max.code 2 (some .int), Cond.methodLink RX3 83 Lib.Math.min.name, Cond.static Lib.Math.min.name, Cond.code Lib.Math.min.name Lib.Math.min.code 2 (some .int), Cond.methodLink RX3 60 yX2_holds, Cond.instanceMethod yX2_holds, Cond.selects RX2 yX2_holds yX2_holds, Cond.initialized RX2, Cond.code yX2_holds cX2_holds 3 (some .boolean), Cond.fieldLink RX2 9 "DropFour$Memory" "keys" "[J", Cond.methodLink RX2 20 yX2_slotOf, Cond.static yX2_slotOf]
def wsX4_value_r5 : List Cond := [Cond.code yX2_slotOf cX2_slotOf 2 (some .int), Cond.constantLong RX2 24 (-7046029254386353131), Cond.methodLink RX3 64 yX2_leastOf, Cond.instanceMethod yX2_leastOf, Cond.selects RX2 yX2_leastOf yX2_leastOf, Cond.code yX2_leastOf cX2_leastOf 3 (some .int), Cond.fieldLink RX2 13 "DropFour$Memory" "least" "[I", Cond.methodLink RX3 67 yX3_leastAtFirst, Cond.instanceMethod yX3_leastAtFirst, Cond.selects RX3 yX3_leastAtFirst yX3_leastAtFirst, Cond.code yX3_leastAtFirst cX3_leastAtFirst 4 (some .int), Cond.methodLink RX3 96 yX1_hasLine, Cond.methodLink RX3 71 yX2_mostOf, Cond.instanceMethod yX2_mostOf, Cond.selects RX2 yX2_mostOf yX2_mostOf, Cond.code yX2_mostOf cX2_mostOf 3 (some .int), Cond.fieldLink RX2 17 "DropFour$Memory" "most" "[I", Cond.methodLink RX3 74 yX3_mostAtFirst, Cond.instanceMethod yX3_mostAtFirst, Cond.selects RX3 yX3_mostAtFirst yX3_mostAtFirst, Cond.code yX3_mostAtFirst cX3_mostAtFirst 4 (some .int), Cond.methodLink RX3 86 yX3_tried, Cond.instanceMethod yX3_tried, Cond.selects RX3 yX3_tried yX3_tried]
def wsX4_value_r6 : List Cond := [Cond.methodLink RX3 89 yX2_keep, Cond.instanceMethod yX2_keep, Cond.selects RX2 yX2_keep yX2_keep, Cond.code yX2_keep cX2_keep 6 none, Cond.code yX3_tried cX3_tried 15 (some .int), Cond.fieldLink RX3 26 "DropFour$Search" "middleFirst" "[J", Cond.methodLink RX3 99 yX3_score, Cond.methodLink RX4 144 yX4_inDrops, Cond.instanceMethod yX4_inDrops, Cond.selects RX4 yX4_inDrops yX4_inDrops, Cond.code yX4_inDrops cX4_inDrops 3 (some .int), Cond.methodLink RX4 176 Lib.Math.abs.name, Cond.static Lib.Math.abs.name, Cond.code Lib.Math.abs.name Lib.Math.abs.code 1 (some .int)]
def wsX4_value : List Cond := .code yX4_value cX4_value 1 (some .int) :: ((wsX4_value_r1 ++ (wsX4_value_r2 ++ (wsX4_value_r3 ++ (wsX4_value_r4 ++ (wsX4_value_r5 ++ wsX4_value_r6))))) ++ wsX40 ++ wsX10 ++ wsX30 ++ wsX20 ++ (vx_atS RX4 75 "java/lang/IllegalStateException" ["java/lang/RuntimeException", "java/lang/Exception"]).filter goodWord)
def wsX4_scoreAbove_r1 : List Cond := [Cond.fieldLink RX4 26 "DropFour" "grid" "LDropFour$Grid;", Cond.fieldLink RX4 46 "DropFour" "heights" "[I", Cond.fieldLink RX4 35 "DropFour" "search" "LDropFour$Search;", Cond.methodLink RX4 134 yX4_mine, Cond.instanceMethod yX4_mine, Cond.selects RX4 yX4_mine yX4_mine, Cond.initialized RX4, Cond.code yX4_mine cX4_mine 1 (some .long), Cond.fieldLink RX4 7 "DropFour" "stones" "[J", Cond.methodLink RX4 76 yX4_turn, Cond.instanceMethod yX4_turn, Cond.selects RX4 yX4_turn yX4_turn, Cond.code yX4_turn cX4_turn 1 (some .int), Cond.fieldLink RX4 13 "DropFour" "count" "I", Cond.methodLink RX4 80 yX1_square, Cond.instanceMethod yX1_square, Cond.selects RX1 yX1_square yX1_square, Cond.initialized RX1, Cond.code yX1_square cX1_square 3 (some .long), Cond.fieldLink RX1 13 "DropFour$Grid" "rows" "I", Cond.methodLink RX4 88 yX1_hasLine, Cond.instanceMethod yX1_hasLine, Cond.selects RX1 yX1_hasLine yX1_hasLine, Cond.code yX1_hasLine cX1_hasLine 7 (some .boolean)]
def wsX4_scoreAbove_r2 : List Cond := [Cond.fieldLink RX1 16 "DropFour$Grid" "steps" "[I", Cond.methodLink RX1 31 yX1_lineStarts, Cond.instanceMethod yX1_lineStarts, Cond.selects RX1 yX1_lineStarts yX1_lineStarts, Cond.code yX1_lineStarts cX1_lineStarts 6 (some .long), Cond.methodLink RX4 92 yX4_empty, Cond.instanceMethod yX4_empty, Cond.selects RX4 yX4_empty yX4_empty, Cond.code yX4_empty cX4_empty 1 (some .int), Cond.fieldLink RX4 50 "DropFour" "history" "[I", Cond.methodLink RX4 137 yX4_theirs, Cond.instanceMethod yX4_theirs, Cond.selects RX4 yX4_theirs yX4_theirs, Cond.code yX4_theirs cX4_theirs 1 (some .long), Cond.instanceMethod yX3_score, Cond.initialized RX3, Cond.selects RX3 yX3_score yX3_score, Cond.code yX3_score cX3_score 14 (some .int), Cond.fieldLink RX3 16 "DropFour$Search" "grid" "LDropFour$Grid;", Cond.methodLink RX3 33 yX1_nextSquares, Cond.instanceMethod yX1_nextSquares, Cond.selects RX1 yX1_nextSquares yX1_nextSquares, Cond.code yX1_nextSquares cX1_nextSquares 3 (some .long), Cond.fieldLink RX1 24 "DropFour$Grid" "floor" "J"]
def wsX4_scoreAbove_r3 : List Cond := [Cond.fieldLink RX1 28 "DropFour$Grid" "squares" "J", Cond.methodLink RX3 37 yX1_threatSquares, Cond.instanceMethod yX1_threatSquares, Cond.selects RX1 yX1_threatSquares yX1_threatSquares, Cond.code yX1_threatSquares cX1_threatSquares 11 (some .long), Cond.constantLong RX1 44 (-1), Cond.methodLink RX1 41 yX1_completing, Cond.static yX1_completing, Cond.code yX1_completing cX1_completing 11 (some .long), Cond.methodLink RX3 41 yX3_safeMoves, Cond.static yX3_safeMoves, Cond.code yX3_safeMoves cX3_safeMoves 8 (some .long), Cond.constantLong RX3 54 (-1), Cond.methodLink RX3 48 yJ13_bitCount_95d88, Cond.static yJ13_bitCount_95d88, Cond.initialized RJ13, Cond.code yJ13_bitCount_95d88 cJ13_bitCount_95d88 2 (some .int), Cond.constantLong RJ13 314 (6148914691236517205), Cond.constantLong RJ13 316 (3689348814741910323), Cond.constantLong RJ13 318 (1085102592571150095), Cond.methodLink RX3 44 yX3_remembered, Cond.instanceMethod yX3_remembered, Cond.selects RX3 yX3_remembered yX3_remembered, Cond.code yX3_remembered cX3_remembered 18 (some .int)]
def wsX4_scoreAbove_r4 : List Cond := [Cond.fieldLink RX3 10 "DropFour$Search" "memory" "LDropFour$Memory;", Cond.methodLink RX3 77 Lib.Math.max.name, Cond.static Lib.Math.max.name, Cond.initialized "java/lang/Math", Cond.code Lib.Math.max.name Lib.Math.max.code 2 (some .int), Cond.methodLink RX3 83 Lib.Math.min.name, Cond.static Lib.Math.min.name, Cond.code Lib.Math.min.name Lib.Math.min.code 2 (some .int), Cond.methodLink RX3 60 yX2_holds, Cond.instanceMethod yX2_holds, Cond.selects RX2 yX2_holds yX2_holds, Cond.initialized RX2, Cond.code yX2_holds cX2_holds 3 (some .boolean), Cond.fieldLink RX2 9 "DropFour$Memory" "keys" "[J", Cond.methodLink RX2 20 yX2_slotOf, Cond.static yX2_slotOf, Cond.code yX2_slotOf cX2_slotOf 2 (some .int), Cond.constantLong RX2 24 (-7046029254386353131), Cond.methodLink RX3 64 yX2_leastOf, Cond.instanceMethod yX2_leastOf, Cond.selects RX2 yX2_leastOf yX2_leastOf, Cond.code yX2_leastOf cX2_leastOf 3 (some .int), Cond.fieldLink RX2 13 "DropFour$Memory" "least" "[I", Cond.methodLink RX3 67 yX3_leastAtFirst]
def wsX4_scoreAbove_r5 : List Cond := [Cond.instanceMethod yX3_leastAtFirst, Cond.selects RX3 yX3_leastAtFirst yX3_leastAtFirst, Cond.code yX3_leastAtFirst cX3_leastAtFirst 4 (some .int), Cond.methodLink RX3 96 yX1_hasLine, Cond.methodLink RX3 71 yX2_mostOf, Cond.instanceMethod yX2_mostOf, Cond.selects RX2 yX2_mostOf yX2_mostOf, Cond.code yX2_mostOf cX2_mostOf 3 (some .int), Cond.fieldLink RX2 17 "DropFour$Memory" "most" "[I", Cond.methodLink RX3 74 yX3_mostAtFirst, Cond.instanceMethod yX3_mostAtFirst, Cond.selects RX3 yX3_mostAtFirst yX3_mostAtFirst, Cond.code yX3_mostAtFirst cX3_mostAtFirst 4 (some .int), Cond.methodLink RX3 86 yX3_tried, Cond.instanceMethod yX3_tried, Cond.selects RX3 yX3_tried yX3_tried, Cond.methodLink RX3 89 yX2_keep, Cond.instanceMethod yX2_keep, Cond.selects RX2 yX2_keep yX2_keep, Cond.code yX2_keep cX2_keep 6 none, Cond.code yX3_tried cX3_tried 15 (some .int), Cond.fieldLink RX3 26 "DropFour$Search" "middleFirst" "[J", Cond.methodLink RX3 99 yX3_score]
def wsX4_scoreAbove : List Cond := .code yX4_scoreAbove cX4_scoreAbove 5 (some .int) :: ((wsX4_scoreAbove_r1 ++ (wsX4_scoreAbove_r2 ++ (wsX4_scoreAbove_r3 ++ (wsX4_scoreAbove_r4 ++ wsX4_scoreAbove_r5)))) ++ wsX40 ++ wsX10 ++ wsX30 ++ wsX20)
def wsX4_valueOf_r1 : List Cond := [Cond.classLink RX4 57 "java/lang/IllegalArgumentException", Cond.initialized "java/lang/IllegalArgumentException", Cond.classLink RX4 71 "java/lang/IllegalStateException", Cond.initialized "java/lang/IllegalStateException", Cond.methodLink RX4 53 yX4_isColumn, Cond.instanceMethod yX4_isColumn, Cond.selects RX4 yX4_isColumn yX4_isColumn, Cond.initialized RX4, Cond.code yX4_isColumn cX4_isColumn 2 (some .boolean), Cond.fieldLink RX4 26 "DropFour" "grid" "LDropFour$Grid;", Cond.methodLink RX4 129 yX4_canBeValued, Cond.instanceMethod yX4_canBeValued, Cond.selects RX4 yX4_canBeValued yX4_canBeValued, Cond.code yX4_canBeValued cX4_canBeValued 1 (some .boolean), Cond.methodLink RX4 92 yX4_empty, Cond.instanceMethod yX4_empty, Cond.selects RX4 yX4_empty yX4_empty, Cond.code yX4_empty cX4_empty 1 (some .int), Cond.fieldLink RX4 50 "DropFour" "history" "[I", Cond.fieldLink RX4 13 "DropFour" "count" "I", Cond.methodLink RX4 64 yX4_isOver, Cond.instanceMethod yX4_isOver, Cond.selects RX4 yX4_isOver yX4_isOver, Cond.code yX4_isOver cX4_isOver 1 (some .boolean)]
def wsX4_valueOf_r2 : List Cond := [Cond.methodLink RX4 173 yX4_winner, Cond.instanceMethod yX4_winner, Cond.selects RX4 yX4_winner yX4_winner, Cond.code yX4_winner cX4_winner 1 (some .int), Cond.fieldLink RX4 7 "DropFour" "stones" "[J", Cond.methodLink RX4 88 yX1_hasLine, Cond.instanceMethod yX1_hasLine, Cond.selects RX1 yX1_hasLine yX1_hasLine, Cond.initialized RX1, Cond.code yX1_hasLine cX1_hasLine 7 (some .boolean), Cond.fieldLink RX1 16 "DropFour$Grid" "steps" "[I", Cond.methodLink RX1 31 yX1_lineStarts, Cond.instanceMethod yX1_lineStarts, Cond.selects RX1 yX1_lineStarts yX1_lineStarts, Cond.code yX1_lineStarts cX1_lineStarts 6 (some .long), Cond.methodLink RX4 68 yX4_isFull, Cond.instanceMethod yX4_isFull, Cond.selects RX4 yX4_isFull yX4_isFull, Cond.code yX4_isFull cX4_isFull 2 (some .boolean), Cond.fieldLink RX4 46 "DropFour" "heights" "[I", Cond.methodLink RX4 150 yX4_scoreAbove, Cond.instanceMethod yX4_scoreAbove, Cond.selects RX4 yX4_scoreAbove yX4_scoreAbove, Cond.code yX4_scoreAbove cX4_scoreAbove 5 (some .int)]
def wsX4_valueOf_r3 : List Cond := [Cond.fieldLink RX4 35 "DropFour" "search" "LDropFour$Search;", Cond.methodLink RX4 134 yX4_mine, Cond.instanceMethod yX4_mine, Cond.selects RX4 yX4_mine yX4_mine, Cond.code yX4_mine cX4_mine 1 (some .long), Cond.methodLink RX4 76 yX4_turn, Cond.instanceMethod yX4_turn, Cond.selects RX4 yX4_turn yX4_turn, Cond.code yX4_turn cX4_turn 1 (some .int), Cond.methodLink RX4 80 yX1_square, Cond.instanceMethod yX1_square, Cond.selects RX1 yX1_square yX1_square, Cond.code yX1_square cX1_square 3 (some .long), Cond.fieldLink RX1 13 "DropFour$Grid" "rows" "I", Cond.methodLink RX4 137 yX4_theirs, Cond.instanceMethod yX4_theirs, Cond.selects RX4 yX4_theirs yX4_theirs, Cond.code yX4_theirs cX4_theirs 1 (some .long), Cond.instanceMethod yX3_score, Cond.initialized RX3, Cond.selects RX3 yX3_score yX3_score, Cond.code yX3_score cX3_score 14 (some .int), Cond.fieldLink RX3 16 "DropFour$Search" "grid" "LDropFour$Grid;", Cond.methodLink RX3 33 yX1_nextSquares]
def wsX4_valueOf_r4 : List Cond := [Cond.instanceMethod yX1_nextSquares, Cond.selects RX1 yX1_nextSquares yX1_nextSquares, Cond.code yX1_nextSquares cX1_nextSquares 3 (some .long), Cond.fieldLink RX1 24 "DropFour$Grid" "floor" "J", Cond.fieldLink RX1 28 "DropFour$Grid" "squares" "J", Cond.methodLink RX3 37 yX1_threatSquares, Cond.instanceMethod yX1_threatSquares, Cond.selects RX1 yX1_threatSquares yX1_threatSquares, Cond.code yX1_threatSquares cX1_threatSquares 11 (some .long), Cond.constantLong RX1 44 (-1), Cond.methodLink RX1 41 yX1_completing, Cond.static yX1_completing, Cond.code yX1_completing cX1_completing 11 (some .long), Cond.methodLink RX3 41 yX3_safeMoves, Cond.static yX3_safeMoves, Cond.code yX3_safeMoves cX3_safeMoves 8 (some .long), Cond.constantLong RX3 54 (-1), Cond.methodLink RX3 48 yJ13_bitCount_95d88, Cond.static yJ13_bitCount_95d88, Cond.initialized RJ13, Cond.code yJ13_bitCount_95d88 cJ13_bitCount_95d88 2 (some .int), Cond.constantLong RJ13 314 (6148914691236517205), Cond.constantLong RJ13 316 (3689348814741910323), Cond.constantLong RJ13 318 (1085102592571150095)]
def wsX4_valueOf_r5 : List Cond := [Cond.methodLink RX3 44 yX3_remembered, Cond.instanceMethod yX3_remembered, Cond.selects RX3 yX3_remembered yX3_remembered, Cond.code yX3_remembered cX3_remembered 18 (some .int), Cond.fieldLink RX3 10 "DropFour$Search" "memory" "LDropFour$Memory;", Cond.methodLink RX3 77 Lib.Math.max.name, Cond.static Lib.Math.max.name, Cond.initialized "java/lang/Math", Cond.code Lib.Math.max.name Lib.Math.max.code 2 (some .int), Cond.methodLink RX3 83 Lib.Math.min.name, Cond.static Lib.Math.min.name, Cond.code Lib.Math.min.name Lib.Math.min.code 2 (some .int), Cond.methodLink RX3 60 yX2_holds, Cond.instanceMethod yX2_holds, Cond.selects RX2 yX2_holds yX2_holds, Cond.initialized RX2, Cond.code yX2_holds cX2_holds 3 (some .boolean), Cond.fieldLink RX2 9 "DropFour$Memory" "keys" "[J", Cond.methodLink RX2 20 yX2_slotOf, Cond.static yX2_slotOf, Cond.code yX2_slotOf cX2_slotOf 2 (some .int), Cond.constantLong RX2 24 (-7046029254386353131), Cond.methodLink RX3 64 yX2_leastOf, Cond.instanceMethod yX2_leastOf]
def wsX4_valueOf_r6 : List Cond := [Cond.selects RX2 yX2_leastOf yX2_leastOf, Cond.code yX2_leastOf cX2_leastOf 3 (some .int), Cond.fieldLink RX2 13 "DropFour$Memory" "least" "[I", Cond.methodLink RX3 67 yX3_leastAtFirst, Cond.instanceMethod yX3_leastAtFirst, Cond.selects RX3 yX3_leastAtFirst yX3_leastAtFirst, Cond.code yX3_leastAtFirst cX3_leastAtFirst 4 (some .int), Cond.methodLink RX3 96 yX1_hasLine, Cond.methodLink RX3 71 yX2_mostOf, Cond.instanceMethod yX2_mostOf, Cond.selects RX2 yX2_mostOf yX2_mostOf, Cond.code yX2_mostOf cX2_mostOf 3 (some .int), Cond.fieldLink RX2 17 "DropFour$Memory" "most" "[I", Cond.methodLink RX3 74 yX3_mostAtFirst, Cond.instanceMethod yX3_mostAtFirst, Cond.selects RX3 yX3_mostAtFirst yX3_mostAtFirst, Cond.code yX3_mostAtFirst cX3_mostAtFirst 4 (some .int), Cond.methodLink RX3 86 yX3_tried, Cond.instanceMethod yX3_tried, Cond.selects RX3 yX3_tried yX3_tried, Cond.methodLink RX3 89 yX2_keep, Cond.instanceMethod yX2_keep, Cond.selects RX2 yX2_keep yX2_keep, Cond.code yX2_keep cX2_keep 6 none]
def wsX4_valueOf_r7 : List Cond := [Cond.code yX3_tried cX3_tried 15 (some .int), Cond.fieldLink RX3 26 "DropFour$Search" "middleFirst" "[J", Cond.methodLink RX3 99 yX3_score, Cond.methodLink RX4 144 yX4_inDrops, Cond.instanceMethod yX4_inDrops, Cond.selects RX4 yX4_inDrops yX4_inDrops, Cond.code yX4_inDrops cX4_inDrops 3 (some .int), Cond.methodLink RX4 176 Lib.Math.abs.name, Cond.static Lib.Math.abs.name, Cond.code Lib.Math.abs.name Lib.Math.abs.code 1 (some .int)]
def wsX4_valueOf : List Cond := .code yX4_valueOf cX4_valueOf 2 (some .int) :: ((wsX4_valueOf_r1 ++ (wsX4_valueOf_r2 ++ (wsX4_valueOf_r3 ++ (wsX4_valueOf_r4 ++ (wsX4_valueOf_r5 ++ (wsX4_valueOf_r6 ++ wsX4_valueOf_r7)))))) ++ wsX40 ++ wsX10 ++ wsX30 ++ wsX20 ++ (vx_atS RX4 61 "java/lang/IllegalArgumentException" ["java/lang/RuntimeException", "java/lang/Exception"]).filter goodWord ++ (vx_atS RX4 75 "java/lang/IllegalStateException" ["java/lang/RuntimeException", "java/lang/Exception"]).filter goodWord)
def wsX4_best_r1 : List Cond := [Cond.classLink RX4 71 "java/lang/IllegalStateException", Cond.initialized "java/lang/IllegalStateException", Cond.fieldLink RX4 26 "DropFour" "grid" "LDropFour$Grid;", Cond.methodLink RX4 129 yX4_canBeValued, Cond.instanceMethod yX4_canBeValued, Cond.selects RX4 yX4_canBeValued yX4_canBeValued, Cond.initialized RX4, Cond.code yX4_canBeValued cX4_canBeValued 1 (some .boolean), Cond.methodLink RX4 92 yX4_empty, Cond.instanceMethod yX4_empty, Cond.selects RX4 yX4_empty yX4_empty, Cond.code yX4_empty cX4_empty 1 (some .int), Cond.fieldLink RX4 50 "DropFour" "history" "[I", Cond.fieldLink RX4 13 "DropFour" "count" "I", Cond.methodLink RX4 64 yX4_isOver, Cond.instanceMethod yX4_isOver, Cond.selects RX4 yX4_isOver yX4_isOver, Cond.code yX4_isOver cX4_isOver 1 (some .boolean), Cond.methodLink RX4 173 yX4_winner, Cond.instanceMethod yX4_winner, Cond.selects RX4 yX4_winner yX4_winner, Cond.code yX4_winner cX4_winner 1 (some .int), Cond.fieldLink RX4 7 "DropFour" "stones" "[J", Cond.methodLink RX4 88 yX1_hasLine]
def wsX4_best_r2 : List Cond := [Cond.instanceMethod yX1_hasLine, Cond.selects RX1 yX1_hasLine yX1_hasLine, Cond.initialized RX1, Cond.code yX1_hasLine cX1_hasLine 7 (some .boolean), Cond.fieldLink RX1 16 "DropFour$Grid" "steps" "[I", Cond.methodLink RX1 31 yX1_lineStarts, Cond.instanceMethod yX1_lineStarts, Cond.selects RX1 yX1_lineStarts yX1_lineStarts, Cond.code yX1_lineStarts cX1_lineStarts 6 (some .long), Cond.methodLink RX4 68 yX4_isFull, Cond.instanceMethod yX4_isFull, Cond.selects RX4 yX4_isFull yX4_isFull, Cond.code yX4_isFull cX4_isFull 2 (some .boolean), Cond.fieldLink RX4 46 "DropFour" "heights" "[I", Cond.methodLink RX4 150 yX4_scoreAbove, Cond.instanceMethod yX4_scoreAbove, Cond.selects RX4 yX4_scoreAbove yX4_scoreAbove, Cond.code yX4_scoreAbove cX4_scoreAbove 5 (some .int), Cond.fieldLink RX4 35 "DropFour" "search" "LDropFour$Search;", Cond.methodLink RX4 134 yX4_mine, Cond.instanceMethod yX4_mine, Cond.selects RX4 yX4_mine yX4_mine, Cond.code yX4_mine cX4_mine 1 (some .long), Cond.methodLink RX4 76 yX4_turn]
def wsX4_best_r3 : List Cond := [Cond.instanceMethod yX4_turn, Cond.selects RX4 yX4_turn yX4_turn, Cond.code yX4_turn cX4_turn 1 (some .int), Cond.methodLink RX4 80 yX1_square, Cond.instanceMethod yX1_square, Cond.selects RX1 yX1_square yX1_square, Cond.code yX1_square cX1_square 3 (some .long), Cond.fieldLink RX1 13 "DropFour$Grid" "rows" "I", Cond.methodLink RX4 137 yX4_theirs, Cond.instanceMethod yX4_theirs, Cond.selects RX4 yX4_theirs yX4_theirs, Cond.code yX4_theirs cX4_theirs 1 (some .long), Cond.instanceMethod yX3_score, Cond.initialized RX3, Cond.selects RX3 yX3_score yX3_score, Cond.code yX3_score cX3_score 14 (some .int), Cond.fieldLink RX3 16 "DropFour$Search" "grid" "LDropFour$Grid;", Cond.methodLink RX3 33 yX1_nextSquares, Cond.instanceMethod yX1_nextSquares, Cond.selects RX1 yX1_nextSquares yX1_nextSquares, Cond.code yX1_nextSquares cX1_nextSquares 3 (some .long), Cond.fieldLink RX1 24 "DropFour$Grid" "floor" "J", Cond.fieldLink RX1 28 "DropFour$Grid" "squares" "J", Cond.methodLink RX3 37 yX1_threatSquares]
def wsX4_best_r4 : List Cond := [Cond.instanceMethod yX1_threatSquares, Cond.selects RX1 yX1_threatSquares yX1_threatSquares, Cond.code yX1_threatSquares cX1_threatSquares 11 (some .long), Cond.constantLong RX1 44 (-1), Cond.methodLink RX1 41 yX1_completing, Cond.static yX1_completing, Cond.code yX1_completing cX1_completing 11 (some .long), Cond.methodLink RX3 41 yX3_safeMoves, Cond.static yX3_safeMoves, Cond.code yX3_safeMoves cX3_safeMoves 8 (some .long), Cond.constantLong RX3 54 (-1), Cond.methodLink RX3 48 yJ13_bitCount_95d88, Cond.static yJ13_bitCount_95d88, Cond.initialized RJ13, Cond.code yJ13_bitCount_95d88 cJ13_bitCount_95d88 2 (some .int), Cond.constantLong RJ13 314 (6148914691236517205), Cond.constantLong RJ13 316 (3689348814741910323), Cond.constantLong RJ13 318 (1085102592571150095), Cond.methodLink RX3 44 yX3_remembered, Cond.instanceMethod yX3_remembered, Cond.selects RX3 yX3_remembered yX3_remembered, Cond.code yX3_remembered cX3_remembered 18 (some .int), Cond.fieldLink RX3 10 "DropFour$Search" "memory" "LDropFour$Memory;", Cond.methodLink RX3 77 Lib.Math.max.name]
def wsX4_best_r5 : List Cond := [Cond.static Lib.Math.max.name, Cond.initialized "java/lang/Math", Cond.code Lib.Math.max.name Lib.Math.max.code 2 (some .int), Cond.methodLink RX3 83 Lib.Math.min.name, Cond.static Lib.Math.min.name, Cond.code Lib.Math.min.name Lib.Math.min.code 2 (some .int), Cond.methodLink RX3 60 yX2_holds, Cond.instanceMethod yX2_holds, Cond.selects RX2 yX2_holds yX2_holds, Cond.initialized RX2, Cond.code yX2_holds cX2_holds 3 (some .boolean), Cond.fieldLink RX2 9 "DropFour$Memory" "keys" "[J", Cond.methodLink RX2 20 yX2_slotOf, Cond.static yX2_slotOf, Cond.code yX2_slotOf cX2_slotOf 2 (some .int), Cond.constantLong RX2 24 (-7046029254386353131), Cond.methodLink RX3 64 yX2_leastOf, Cond.instanceMethod yX2_leastOf, Cond.selects RX2 yX2_leastOf yX2_leastOf, Cond.code yX2_leastOf cX2_leastOf 3 (some .int), Cond.fieldLink RX2 13 "DropFour$Memory" "least" "[I", Cond.methodLink RX3 67 yX3_leastAtFirst, Cond.instanceMethod yX3_leastAtFirst, Cond.selects RX3 yX3_leastAtFirst yX3_leastAtFirst]
def wsX4_best_r6 : List Cond := [Cond.code yX3_leastAtFirst cX3_leastAtFirst 4 (some .int), Cond.methodLink RX3 96 yX1_hasLine, Cond.methodLink RX3 71 yX2_mostOf, Cond.instanceMethod yX2_mostOf, Cond.selects RX2 yX2_mostOf yX2_mostOf, Cond.code yX2_mostOf cX2_mostOf 3 (some .int), Cond.fieldLink RX2 17 "DropFour$Memory" "most" "[I", Cond.methodLink RX3 74 yX3_mostAtFirst, Cond.instanceMethod yX3_mostAtFirst, Cond.selects RX3 yX3_mostAtFirst yX3_mostAtFirst, Cond.code yX3_mostAtFirst cX3_mostAtFirst 4 (some .int), Cond.methodLink RX3 86 yX3_tried, Cond.instanceMethod yX3_tried, Cond.selects RX3 yX3_tried yX3_tried, Cond.methodLink RX3 89 yX2_keep, Cond.instanceMethod yX2_keep, Cond.selects RX2 yX2_keep yX2_keep, Cond.code yX2_keep cX2_keep 6 none, Cond.code yX3_tried cX3_tried 15 (some .int), Cond.fieldLink RX3 26 "DropFour$Search" "middleFirst" "[J", Cond.methodLink RX3 99 yX3_score]
def wsX4_best : List Cond := .code yX4_best cX4_best 5 (some .int) :: ((wsX4_best_r1 ++ (wsX4_best_r2 ++ (wsX4_best_r3 ++ (wsX4_best_r4 ++ (wsX4_best_r5 ++ wsX4_best_r6))))) ++ wsX40 ++ wsX10 ++ wsX30 ++ wsX20 ++ (vx_atS RX4 75 "java/lang/IllegalStateException" ["java/lang/RuntimeException", "java/lang/Exception"]).filter goodWord)
def wsX4_canFollow : List Cond := .code yX4_canFollow cX4_canFollow 2 (some .boolean) :: ([.fieldLink RX4 26 "DropFour" "grid" "LDropFour$Grid;", .fieldLink RX4 46 "DropFour" "heights" "[I"] ++ wsX40 ++ wsX10)
def wsX4_beats_r1 : List Cond := [Cond.classLink RX4 71 "java/lang/IllegalStateException", Cond.initialized "java/lang/IllegalStateException", Cond.fieldLink RX4 42 "DropFour" "following" "LDropFour$Following;", Cond.methodLink RX4 64 yX4_isOver, Cond.instanceMethod yX4_isOver, Cond.selects RX4 yX4_isOver yX4_isOver, Cond.initialized RX4, Cond.code yX4_isOver cX4_isOver 1 (some .boolean), Cond.methodLink RX4 173 yX4_winner, Cond.instanceMethod yX4_winner, Cond.selects RX4 yX4_winner yX4_winner, Cond.code yX4_winner cX4_winner 1 (some .int), Cond.fieldLink RX4 26 "DropFour" "grid" "LDropFour$Grid;", Cond.fieldLink RX4 7 "DropFour" "stones" "[J", Cond.methodLink RX4 88 yX1_hasLine, Cond.instanceMethod yX1_hasLine, Cond.selects RX1 yX1_hasLine yX1_hasLine, Cond.initialized RX1, Cond.code yX1_hasLine cX1_hasLine 7 (some .boolean), Cond.fieldLink RX1 16 "DropFour$Grid" "steps" "[I", Cond.methodLink RX1 31 yX1_lineStarts, Cond.instanceMethod yX1_lineStarts, Cond.selects RX1 yX1_lineStarts yX1_lineStarts, Cond.code yX1_lineStarts cX1_lineStarts 6 (some .long)]
def wsX4_beats_r2 : List Cond := [Cond.methodLink RX4 92 yX4_empty, Cond.instanceMethod yX4_empty, Cond.selects RX4 yX4_empty yX4_empty, Cond.code yX4_empty cX4_empty 1 (some .int), Cond.fieldLink RX4 50 "DropFour" "history" "[I", Cond.fieldLink RX4 13 "DropFour" "count" "I", Cond.methodLink RX4 156 yX4_canFollow, Cond.instanceMethod yX4_canFollow, Cond.selects RX4 yX4_canFollow yX4_canFollow, Cond.code yX4_canFollow cX4_canFollow 2 (some .boolean), Cond.fieldLink RX4 46 "DropFour" "heights" "[I", Cond.methodLink RX4 134 yX4_mine, Cond.instanceMethod yX4_mine, Cond.selects RX4 yX4_mine yX4_mine, Cond.code yX4_mine cX4_mine 1 (some .long), Cond.methodLink RX4 76 yX4_turn, Cond.instanceMethod yX4_turn, Cond.selects RX4 yX4_turn yX4_turn, Cond.code yX4_turn cX4_turn 1 (some .int), Cond.methodLink RX4 137 yX4_theirs, Cond.instanceMethod yX4_theirs, Cond.selects RX4 yX4_theirs yX4_theirs, Cond.code yX4_theirs cX4_theirs 1 (some .long), Cond.methodLink RX4 161 yX0_leaderWins]
def wsX4_beats_r3 : List Cond := [Cond.instanceMethod yX0_leaderWins, Cond.selects RX0 yX0_leaderWins yX0_leaderWins, Cond.initialized RX0, Cond.code yX0_leaderWins cX0_leaderWins 22 (some .boolean), Cond.fieldLink RX0 7 "DropFour$Following" "grid" "LDropFour$Grid;", Cond.constantLong RX0 31 (-1), Cond.methodLink RX0 19 yX1_nextSquares, Cond.instanceMethod yX1_nextSquares, Cond.selects RX1 yX1_nextSquares yX1_nextSquares, Cond.code yX1_nextSquares cX1_nextSquares 3 (some .long), Cond.fieldLink RX1 24 "DropFour$Grid" "floor" "J", Cond.fieldLink RX1 28 "DropFour$Grid" "squares" "J", Cond.methodLink RX0 27 yX1_lineStarts, Cond.methodLink RX0 33 yX0_comesFirst, Cond.instanceMethod yX0_comesFirst, Cond.selects RX0 yX0_comesFirst yX0_comesFirst, Cond.code yX0_comesFirst cX0_comesFirst 16 (some .boolean), Cond.methodLink RX0 41 yX0_reached, Cond.instanceMethod yX0_reached, Cond.selects RX0 yX0_reached yX0_reached, Cond.code yX0_reached cX0_reached 16 (some .long), Cond.methodLink RX0 45 yX1_hasLine]
def wsX4_beats : List Cond := .code yX4_beats cX4_beats 1 (some .boolean) :: ((wsX4_beats_r1 ++ (wsX4_beats_r2 ++ wsX4_beats_r3)) ++ wsX40 ++ wsX10 ++ wsX00 ++ (vx_atS RX4 75 "java/lang/IllegalStateException" ["java/lang/RuntimeException", "java/lang/Exception"]).filter goodWord)
def wsX5_init : List Cond := .code yX5_init cX5_init 5 none :: ([.methodLink RX5 1 objectInit, .instanceMethod objectInit, .code objectInit ⟨#[0xb1]⟩ 1 none, .arrayClass .int, .fieldLink RX5 7 "DropFourModel" "board" "[I", .fieldLink RX5 13 "DropFourModel" "heights" "[I", .fieldLink RX5 16 "DropFourModel" "drops" "[I", .constant RX5 19 (70000), .fieldLink RX5 20 "DropFourModel" "which" "[I", .fieldLink RX5 23 "DropFourModel" "stones" "[I", .fieldLink RX5 26 "DropFourModel" "values" "[I", .fieldLink RX5 29 "DropFourModel" "layers" "[I", .constant RX5 32 (262144), .fieldLink RX5 33 "DropFourModel" "slots" "[I", .fieldLink RX5 36 "DropFourModel" "weights" "[I", .fieldLink RX5 39 "DropFourModel" "offsets" "[I", .fieldLink RX5 42 "DropFourModel" "seen" "[I", .fieldLink RX5 45 "DropFourModel" "tops" "[I", .arrayClass .boolean, .fieldLink RX5 48 "DropFourModel" "reached" "[Z", .fieldLink RX5 52 "DropFourModel" "w" "I", .fieldLink RX5 56 "DropFourModel" "h" "I"] ++ wsX50)
def wsX5_thrown : List Cond := .code yX5_thrown cX5_thrown 1 (some .int) :: ([.fieldLink RX5 59 "DropFourModel" "thrown" "I"] ++ wsX50)
def wsX5_refused : List Cond := .code yX5_refused cX5_refused 3 (some .boolean) :: ([.fieldLink RX5 59 "DropFourModel" "thrown" "I"] ++ wsX50)
def wsX5_isSquare : List Cond := .code yX5_isSquare cX5_isSquare 3 (some .boolean) :: ([.fieldLink RX5 52 "DropFourModel" "w" "I", .fieldLink RX5 56 "DropFourModel" "h" "I"] ++ wsX50)
def wsX5_along : List Cond := .code yX5_along cX5_along 10 (some .int) :: ([.methodLink RX5 62 yX5_isSquare, .instanceMethod yX5_isSquare, .selects RX5 yX5_isSquare yX5_isSquare, .initialized RX5, .code yX5_isSquare cX5_isSquare 3 (some .boolean), .fieldLink RX5 52 "DropFourModel" "w" "I", .fieldLink RX5 56 "DropFourModel" "h" "I"] ++ wsX50)
def wsX5_wins : List Cond := .code yX5_wins cX5_wins 4 (some .boolean) :: ([.methodLink RX5 66 yX5_along, .instanceMethod yX5_along, .selects RX5 yX5_along yX5_along, .initialized RX5, .code yX5_along cX5_along 10 (some .int), .methodLink RX5 62 yX5_isSquare, .instanceMethod yX5_isSquare, .selects RX5 yX5_isSquare yX5_isSquare, .code yX5_isSquare cX5_isSquare 3 (some .boolean), .fieldLink RX5 52 "DropFourModel" "w" "I", .fieldLink RX5 56 "DropFourModel" "h" "I"] ++ wsX50)
def wsX5_winnerNow : List Cond := .code yX5_winnerNow cX5_winnerNow 2 (some .int) :: ([.fieldLink RX5 70 "DropFourModel" "n" "I", .fieldLink RX5 16 "DropFourModel" "drops" "[I", .fieldLink RX5 7 "DropFourModel" "board" "[I", .fieldLink RX5 13 "DropFourModel" "heights" "[I", .fieldLink RX5 52 "DropFourModel" "w" "I", .fieldLink RX5 56 "DropFourModel" "h" "I", .methodLink RX5 73 yX5_wins, .instanceMethod yX5_wins, .selects RX5 yX5_wins yX5_wins, .initialized RX5, .code yX5_wins cX5_wins 4 (some .boolean), .methodLink RX5 66 yX5_along, .instanceMethod yX5_along, .selects RX5 yX5_along yX5_along, .code yX5_along cX5_along 10 (some .int), .methodLink RX5 62 yX5_isSquare, .instanceMethod yX5_isSquare, .selects RX5 yX5_isSquare yX5_isSquare, .code yX5_isSquare cX5_isSquare 3 (some .boolean)] ++ wsX50)
def wsX5_drop_r1 : List Cond := [Cond.fieldLink RX5 52 "DropFourModel" "w" "I", Cond.fieldLink RX5 13 "DropFourModel" "heights" "[I", Cond.fieldLink RX5 56 "DropFourModel" "h" "I", Cond.fieldLink RX5 7 "DropFourModel" "board" "[I", Cond.fieldLink RX5 70 "DropFourModel" "n" "I", Cond.fieldLink RX5 16 "DropFourModel" "drops" "[I", Cond.fieldLink RX5 85 "DropFourModel" "known" "Z", Cond.methodLink RX5 77 yX5_winnerNow, Cond.instanceMethod yX5_winnerNow, Cond.selects RX5 yX5_winnerNow yX5_winnerNow, Cond.initialized RX5, Cond.code yX5_winnerNow cX5_winnerNow 2 (some .int), Cond.methodLink RX5 73 yX5_wins, Cond.instanceMethod yX5_wins, Cond.selects RX5 yX5_wins yX5_wins, Cond.code yX5_wins cX5_wins 4 (some .boolean), Cond.methodLink RX5 66 yX5_along, Cond.instanceMethod yX5_along, Cond.selects RX5 yX5_along yX5_along, Cond.code yX5_along cX5_along 10 (some .int), Cond.methodLink RX5 62 yX5_isSquare, Cond.instanceMethod yX5_isSquare, Cond.selects RX5 yX5_isSquare yX5_isSquare, Cond.code yX5_isSquare cX5_isSquare 3 (some .boolean)]
def wsX5_drop_r2 : List Cond := [Cond.methodLink RX5 81 yX5_refused, Cond.instanceMethod yX5_refused, Cond.selects RX5 yX5_refused yX5_refused, Cond.code yX5_refused cX5_refused 3 (some .boolean), Cond.fieldLink RX5 59 "DropFourModel" "thrown" "I"]
def wsX5_drop : List Cond := .code yX5_drop cX5_drop 4 (some .int) :: ((wsX5_drop_r1 ++ wsX5_drop_r2) ++ wsX50)
def wsX5_back : List Cond := .code yX5_back cX5_back 2 (some .int) :: ([.fieldLink RX5 70 "DropFourModel" "n" "I", .fieldLink RX5 16 "DropFourModel" "drops" "[I", .fieldLink RX5 13 "DropFourModel" "heights" "[I", .fieldLink RX5 7 "DropFourModel" "board" "[I", .fieldLink RX5 85 "DropFourModel" "known" "Z", .methodLink RX5 81 yX5_refused, .instanceMethod yX5_refused, .selects RX5 yX5_refused yX5_refused, .initialized RX5, .code yX5_refused cX5_refused 3 (some .boolean), .fieldLink RX5 59 "DropFourModel" "thrown" "I"] ++ wsX50)
def wsX5_turn : List Cond := .code yX5_turn cX5_turn 1 (some .int) :: ([.fieldLink RX5 59 "DropFourModel" "thrown" "I", .fieldLink RX5 70 "DropFourModel" "n" "I"] ++ wsX50)
def wsX5_winner : List Cond := .code yX5_winner cX5_winner 1 (some .int) :: ([.fieldLink RX5 59 "DropFourModel" "thrown" "I", .methodLink RX5 77 yX5_winnerNow, .instanceMethod yX5_winnerNow, .selects RX5 yX5_winnerNow yX5_winnerNow, .initialized RX5, .code yX5_winnerNow cX5_winnerNow 2 (some .int), .fieldLink RX5 70 "DropFourModel" "n" "I", .fieldLink RX5 16 "DropFourModel" "drops" "[I", .fieldLink RX5 7 "DropFourModel" "board" "[I", .fieldLink RX5 13 "DropFourModel" "heights" "[I", .fieldLink RX5 52 "DropFourModel" "w" "I", .fieldLink RX5 56 "DropFourModel" "h" "I", .methodLink RX5 73 yX5_wins, .instanceMethod yX5_wins, .selects RX5 yX5_wins yX5_wins, .code yX5_wins cX5_wins 4 (some .boolean), .methodLink RX5 66 yX5_along, .instanceMethod yX5_along, .selects RX5 yX5_along yX5_along, .code yX5_along cX5_along 10 (some .int), .methodLink RX5 62 yX5_isSquare, .instanceMethod yX5_isSquare, .selects RX5 yX5_isSquare yX5_isSquare, .code yX5_isSquare cX5_isSquare 3 (some .boolean)] ++ wsX50)
def wsX5_at : List Cond := .code yX5_at cX5_at 3 (some .int) :: ([.fieldLink RX5 7 "DropFourModel" "board" "[I", .methodLink RX5 62 yX5_isSquare, .instanceMethod yX5_isSquare, .selects RX5 yX5_isSquare yX5_isSquare, .initialized RX5, .code yX5_isSquare cX5_isSquare 3 (some .boolean), .fieldLink RX5 52 "DropFourModel" "w" "I", .fieldLink RX5 56 "DropFourModel" "h" "I", .methodLink RX5 81 yX5_refused, .instanceMethod yX5_refused, .selects RX5 yX5_refused yX5_refused, .code yX5_refused cX5_refused 3 (some .boolean), .fieldLink RX5 59 "DropFourModel" "thrown" "I"] ++ wsX50)
def wsX5_empty : List Cond := .code yX5_empty cX5_empty 1 (some .int) :: ([.fieldLink RX5 59 "DropFourModel" "thrown" "I", .fieldLink RX5 52 "DropFourModel" "w" "I", .fieldLink RX5 56 "DropFourModel" "h" "I", .fieldLink RX5 70 "DropFourModel" "n" "I"] ++ wsX50)
def wsX5_columnOf : List Cond := .code yX5_columnOf cX5_columnOf 3 (some .int) :: ([])
def wsX5_rowOf : List Cond := .code yX5_rowOf cX5_rowOf 3 (some .int) :: ([])
def wsX5_isLine : List Cond := .code yX5_isLine cX5_isLine 4 (some .boolean) :: ([.methodLink RX5 89 yX5_columnOf, .static yX5_columnOf, .initialized RX5, .code yX5_columnOf cX5_columnOf 3 (some .int), .methodLink RX5 93 yX5_rowOf, .static yX5_rowOf, .code yX5_rowOf cX5_rowOf 3 (some .int), .methodLink RX5 62 yX5_isSquare, .instanceMethod yX5_isSquare, .selects RX5 yX5_isSquare yX5_isSquare, .code yX5_isSquare cX5_isSquare 3 (some .boolean), .fieldLink RX5 52 "DropFourModel" "w" "I", .fieldLink RX5 56 "DropFourModel" "h" "I"] ++ wsX50)
def wsX5_many : List Cond := .code yX5_many cX5_many 7 (some .int) :: ([.fieldLink RX5 7 "DropFourModel" "board" "[I", .methodLink RX5 89 yX5_columnOf, .static yX5_columnOf, .initialized RX5, .code yX5_columnOf cX5_columnOf 3 (some .int), .methodLink RX5 93 yX5_rowOf, .static yX5_rowOf, .code yX5_rowOf cX5_rowOf 3 (some .int)] ++ wsX50)
def wsX5_open_r1 : List Cond := [Cond.fieldLink RX5 52 "DropFourModel" "w" "I", Cond.fieldLink RX5 56 "DropFourModel" "h" "I", Cond.methodLink RX5 81 yX5_refused, Cond.instanceMethod yX5_refused, Cond.selects RX5 yX5_refused yX5_refused, Cond.initialized RX5, Cond.code yX5_refused cX5_refused 3 (some .boolean), Cond.fieldLink RX5 59 "DropFourModel" "thrown" "I", Cond.methodLink RX5 96 yX5_isLine, Cond.instanceMethod yX5_isLine, Cond.selects RX5 yX5_isLine yX5_isLine, Cond.code yX5_isLine cX5_isLine 4 (some .boolean), Cond.methodLink RX5 89 yX5_columnOf, Cond.static yX5_columnOf, Cond.code yX5_columnOf cX5_columnOf 3 (some .int), Cond.methodLink RX5 93 yX5_rowOf, Cond.static yX5_rowOf, Cond.code yX5_rowOf cX5_rowOf 3 (some .int), Cond.methodLink RX5 62 yX5_isSquare, Cond.instanceMethod yX5_isSquare, Cond.selects RX5 yX5_isSquare yX5_isSquare, Cond.code yX5_isSquare cX5_isSquare 3 (some .boolean), Cond.methodLink RX5 100 yX5_many, Cond.instanceMethod yX5_many]
def wsX5_open_r2 : List Cond := [Cond.selects RX5 yX5_many yX5_many, Cond.code yX5_many cX5_many 7 (some .int), Cond.fieldLink RX5 7 "DropFourModel" "board" "[I"]
def wsX5_open : List Cond := .code yX5_open cX5_open 6 (some .int) :: ((wsX5_open_r1 ++ wsX5_open_r2) ++ wsX50)
def wsX5_isThreat : List Cond := .code yX5_isThreat cX5_isThreat 8 (some .boolean) :: ([.methodLink RX5 89 yX5_columnOf, .static yX5_columnOf, .initialized RX5, .code yX5_columnOf cX5_columnOf 3 (some .int), .methodLink RX5 93 yX5_rowOf, .static yX5_rowOf, .code yX5_rowOf cX5_rowOf 3 (some .int), .methodLink RX5 62 yX5_isSquare, .instanceMethod yX5_isSquare, .selects RX5 yX5_isSquare yX5_isSquare, .code yX5_isSquare cX5_isSquare 3 (some .boolean), .fieldLink RX5 52 "DropFourModel" "w" "I", .fieldLink RX5 56 "DropFourModel" "h" "I", .methodLink RX5 96 yX5_isLine, .instanceMethod yX5_isLine, .selects RX5 yX5_isLine yX5_isLine, .code yX5_isLine cX5_isLine 4 (some .boolean), .methodLink RX5 100 yX5_many, .instanceMethod yX5_many, .selects RX5 yX5_many yX5_many, .code yX5_many cX5_many 7 (some .int), .fieldLink RX5 7 "DropFourModel" "board" "[I"] ++ wsX50)
def wsX5_threats_r1 : List Cond := [Cond.fieldLink RX5 52 "DropFourModel" "w" "I", Cond.fieldLink RX5 56 "DropFourModel" "h" "I", Cond.fieldLink RX5 7 "DropFourModel" "board" "[I", Cond.methodLink RX5 81 yX5_refused, Cond.instanceMethod yX5_refused, Cond.selects RX5 yX5_refused yX5_refused, Cond.initialized RX5, Cond.code yX5_refused cX5_refused 3 (some .boolean), Cond.fieldLink RX5 59 "DropFourModel" "thrown" "I", Cond.methodLink RX5 104 yX5_isThreat, Cond.instanceMethod yX5_isThreat, Cond.selects RX5 yX5_isThreat yX5_isThreat, Cond.code yX5_isThreat cX5_isThreat 8 (some .boolean), Cond.methodLink RX5 89 yX5_columnOf, Cond.static yX5_columnOf, Cond.code yX5_columnOf cX5_columnOf 3 (some .int), Cond.methodLink RX5 93 yX5_rowOf, Cond.static yX5_rowOf, Cond.code yX5_rowOf cX5_rowOf 3 (some .int), Cond.methodLink RX5 62 yX5_isSquare, Cond.instanceMethod yX5_isSquare, Cond.selects RX5 yX5_isSquare yX5_isSquare, Cond.code yX5_isSquare cX5_isSquare 3 (some .boolean), Cond.methodLink RX5 96 yX5_isLine]
def wsX5_threats_r2 : List Cond := [Cond.instanceMethod yX5_isLine, Cond.selects RX5 yX5_isLine yX5_isLine, Cond.code yX5_isLine cX5_isLine 4 (some .boolean), Cond.methodLink RX5 100 yX5_many, Cond.instanceMethod yX5_many, Cond.selects RX5 yX5_many yX5_many, Cond.code yX5_many cX5_many 7 (some .int)]
def wsX5_threats : List Cond := .code yX5_threats cX5_threats 5 (some .int) :: ((wsX5_threats_r1 ++ wsX5_threats_r2) ++ wsX50)
def wsX5_show : List Cond := .code yX5_show cX5_show 6 none :: ([.fieldLink RX5 20 "DropFourModel" "which" "[I", .fieldLink RX5 42 "DropFourModel" "seen" "[I", .fieldLink RX5 7 "DropFourModel" "board" "[I", .fieldLink RX5 52 "DropFourModel" "w" "I", .fieldLink RX5 56 "DropFourModel" "h" "I", .fieldLink RX5 13 "DropFourModel" "heights" "[I", .fieldLink RX5 23 "DropFourModel" "stones" "[I", .fieldLink RX5 39 "DropFourModel" "offsets" "[I", .fieldLink RX5 45 "DropFourModel" "tops" "[I"] ++ wsX50)
def wsX5_slotOf : List Cond := .code yX5_slotOf cX5_slotOf 4 (some .int) :: ([.constant RX5 32 (262144), .fieldLink RX5 33 "DropFourModel" "slots" "[I", .fieldLink RX5 20 "DropFourModel" "which" "[I", .fieldLink RX5 23 "DropFourModel" "stones" "[I"] ++ wsX50)
def wsX5_behind : List Cond := .code yX5_behind cX5_behind 6 (some .int) :: ([.fieldLink RX5 23 "DropFourModel" "stones" "[I", .fieldLink RX5 39 "DropFourModel" "offsets" "[I", .fieldLink RX5 45 "DropFourModel" "tops" "[I", .fieldLink RX5 13 "DropFourModel" "heights" "[I", .fieldLink RX5 20 "DropFourModel" "which" "[I", .fieldLink RX5 36 "DropFourModel" "weights" "[I", .fieldLink RX5 33 "DropFourModel" "slots" "[I", .methodLink RX5 107 yX5_slotOf, .instanceMethod yX5_slotOf, .selects RX5 yX5_slotOf yX5_slotOf, .initialized RX5, .code yX5_slotOf cX5_slotOf 4 (some .int), .constant RX5 32 (262144)] ++ wsX50)
def wsX5_add : List Cond := .code yX5_add cX5_add 7 none :: ([.fieldLink RX5 20 "DropFourModel" "which" "[I", .fieldLink RX5 36 "DropFourModel" "weights" "[I", .fieldLink RX5 23 "DropFourModel" "stones" "[I", .fieldLink RX5 39 "DropFourModel" "offsets" "[I", .fieldLink RX5 45 "DropFourModel" "tops" "[I", .fieldLink RX5 13 "DropFourModel" "heights" "[I", .fieldLink RX5 33 "DropFourModel" "slots" "[I", .fieldLink RX5 111 "DropFourModel" "positions" "I", .methodLink RX5 107 yX5_slotOf, .instanceMethod yX5_slotOf, .selects RX5 yX5_slotOf yX5_slotOf, .initialized RX5, .code yX5_slotOf cX5_slotOf 4 (some .int), .constant RX5 32 (262144)] ++ wsX50)
def wsX5_dropWins : List Cond := .code yX5_dropWins cX5_dropWins 4 (some .boolean) :: ([.fieldLink RX5 42 "DropFourModel" "seen" "[I", .fieldLink RX5 45 "DropFourModel" "tops" "[I", .methodLink RX5 73 yX5_wins, .instanceMethod yX5_wins, .selects RX5 yX5_wins yX5_wins, .initialized RX5, .code yX5_wins cX5_wins 4 (some .boolean), .methodLink RX5 66 yX5_along, .instanceMethod yX5_along, .selects RX5 yX5_along yX5_along, .code yX5_along cX5_along 10 (some .int), .methodLink RX5 62 yX5_isSquare, .instanceMethod yX5_isSquare, .selects RX5 yX5_isSquare yX5_isSquare, .code yX5_isSquare cX5_isSquare 3 (some .boolean), .fieldLink RX5 52 "DropFourModel" "w" "I", .fieldLink RX5 56 "DropFourModel" "h" "I"] ++ wsX50)
def wsX5_turned : List Cond := .code yX5_turned cX5_turned 1 (some .int) :: ([])
def wsX5_rank : List Cond := .code yX5_rank cX5_rank 1 (some .int) :: ([])
def wsX5_valueBehind_r1 : List Cond := [Cond.fieldLink RX5 26 "DropFourModel" "values" "[I", Cond.methodLink RX5 114 yX5_dropWins, Cond.instanceMethod yX5_dropWins, Cond.selects RX5 yX5_dropWins yX5_dropWins, Cond.initialized RX5, Cond.code yX5_dropWins cX5_dropWins 4 (some .boolean), Cond.fieldLink RX5 42 "DropFourModel" "seen" "[I", Cond.fieldLink RX5 45 "DropFourModel" "tops" "[I", Cond.methodLink RX5 73 yX5_wins, Cond.instanceMethod yX5_wins, Cond.selects RX5 yX5_wins yX5_wins, Cond.code yX5_wins cX5_wins 4 (some .boolean), Cond.methodLink RX5 66 yX5_along, Cond.instanceMethod yX5_along, Cond.selects RX5 yX5_along yX5_along, Cond.code yX5_along cX5_along 10 (some .int), Cond.methodLink RX5 62 yX5_isSquare, Cond.instanceMethod yX5_isSquare, Cond.selects RX5 yX5_isSquare yX5_isSquare, Cond.code yX5_isSquare cX5_isSquare 3 (some .boolean), Cond.fieldLink RX5 52 "DropFourModel" "w" "I", Cond.fieldLink RX5 56 "DropFourModel" "h" "I", Cond.methodLink RX5 117 yX5_behind, Cond.instanceMethod yX5_behind]
def wsX5_valueBehind_r2 : List Cond := [Cond.selects RX5 yX5_behind yX5_behind, Cond.code yX5_behind cX5_behind 6 (some .int), Cond.fieldLink RX5 23 "DropFourModel" "stones" "[I", Cond.fieldLink RX5 39 "DropFourModel" "offsets" "[I", Cond.fieldLink RX5 13 "DropFourModel" "heights" "[I", Cond.fieldLink RX5 20 "DropFourModel" "which" "[I", Cond.fieldLink RX5 36 "DropFourModel" "weights" "[I", Cond.fieldLink RX5 33 "DropFourModel" "slots" "[I", Cond.methodLink RX5 107 yX5_slotOf, Cond.instanceMethod yX5_slotOf, Cond.selects RX5 yX5_slotOf yX5_slotOf, Cond.code yX5_slotOf cX5_slotOf 4 (some .int), Cond.constant RX5 32 (262144), Cond.methodLink RX5 120 yX5_turned, Cond.static yX5_turned, Cond.code yX5_turned cX5_turned 1 (some .int)]
def wsX5_valueBehind : List Cond := .code yX5_valueBehind cX5_valueBehind 5 (some .int) :: ((wsX5_valueBehind_r1 ++ wsX5_valueBehind_r2) ++ wsX50)
def wsX5_lookAhead_r1 : List Cond := [Cond.fieldLink RX5 85 "DropFourModel" "known" "Z", Cond.fieldLink RX5 52 "DropFourModel" "w" "I", Cond.fieldLink RX5 56 "DropFourModel" "h" "I", Cond.fieldLink RX5 70 "DropFourModel" "n" "I", Cond.fieldLink RX5 36 "DropFourModel" "weights" "[I", Cond.fieldLink RX5 39 "DropFourModel" "offsets" "[I", Cond.fieldLink RX5 13 "DropFourModel" "heights" "[I", Cond.constant RX5 32 (262144), Cond.fieldLink RX5 33 "DropFourModel" "slots" "[I", Cond.fieldLink RX5 20 "DropFourModel" "which" "[I", Cond.fieldLink RX5 23 "DropFourModel" "stones" "[I", Cond.fieldLink RX5 111 "DropFourModel" "positions" "I", Cond.fieldLink RX5 29 "DropFourModel" "layers" "[I", Cond.fieldLink RX5 45 "DropFourModel" "tops" "[I", Cond.fieldLink RX5 26 "DropFourModel" "values" "[I", Cond.methodLink RX5 124 yX5_show, Cond.instanceMethod yX5_show, Cond.selects RX5 yX5_show yX5_show, Cond.initialized RX5, Cond.code yX5_show cX5_show 6 none, Cond.fieldLink RX5 42 "DropFourModel" "seen" "[I", Cond.fieldLink RX5 7 "DropFourModel" "board" "[I", Cond.methodLink RX5 114 yX5_dropWins, Cond.instanceMethod yX5_dropWins]
def wsX5_lookAhead_r2 : List Cond := [Cond.selects RX5 yX5_dropWins yX5_dropWins, Cond.code yX5_dropWins cX5_dropWins 4 (some .boolean), Cond.methodLink RX5 73 yX5_wins, Cond.instanceMethod yX5_wins, Cond.selects RX5 yX5_wins yX5_wins, Cond.code yX5_wins cX5_wins 4 (some .boolean), Cond.methodLink RX5 66 yX5_along, Cond.instanceMethod yX5_along, Cond.selects RX5 yX5_along yX5_along, Cond.code yX5_along cX5_along 10 (some .int), Cond.methodLink RX5 62 yX5_isSquare, Cond.instanceMethod yX5_isSquare, Cond.selects RX5 yX5_isSquare yX5_isSquare, Cond.code yX5_isSquare cX5_isSquare 3 (some .boolean), Cond.methodLink RX5 128 yX5_add, Cond.instanceMethod yX5_add, Cond.selects RX5 yX5_add yX5_add, Cond.code yX5_add cX5_add 7 none, Cond.methodLink RX5 107 yX5_slotOf, Cond.instanceMethod yX5_slotOf, Cond.selects RX5 yX5_slotOf yX5_slotOf, Cond.code yX5_slotOf cX5_slotOf 4 (some .int), Cond.methodLink RX5 132 yX5_valueBehind, Cond.instanceMethod yX5_valueBehind]
def wsX5_lookAhead_r3 : List Cond := [Cond.selects RX5 yX5_valueBehind yX5_valueBehind, Cond.code yX5_valueBehind cX5_valueBehind 5 (some .int), Cond.methodLink RX5 117 yX5_behind, Cond.instanceMethod yX5_behind, Cond.selects RX5 yX5_behind yX5_behind, Cond.code yX5_behind cX5_behind 6 (some .int), Cond.methodLink RX5 120 yX5_turned, Cond.static yX5_turned, Cond.code yX5_turned cX5_turned 1 (some .int), Cond.methodLink RX5 136 yX5_rank, Cond.static yX5_rank, Cond.code yX5_rank cX5_rank 1 (some .int)]
def wsX5_lookAhead : List Cond := .code yX5_lookAhead cX5_lookAhead 10 none :: ((wsX5_lookAhead_r1 ++ (wsX5_lookAhead_r2 ++ wsX5_lookAhead_r3)) ++ wsX50)
def wsX5_isFar : List Cond := .code yX5_isFar cX5_isFar 1 (some .boolean) :: ([.fieldLink RX5 52 "DropFourModel" "w" "I", .fieldLink RX5 56 "DropFourModel" "h" "I", .fieldLink RX5 70 "DropFourModel" "n" "I", .methodLink RX5 77 yX5_winnerNow, .instanceMethod yX5_winnerNow, .selects RX5 yX5_winnerNow yX5_winnerNow, .initialized RX5, .code yX5_winnerNow cX5_winnerNow 2 (some .int), .fieldLink RX5 16 "DropFourModel" "drops" "[I", .fieldLink RX5 7 "DropFourModel" "board" "[I", .fieldLink RX5 13 "DropFourModel" "heights" "[I", .methodLink RX5 73 yX5_wins, .instanceMethod yX5_wins, .selects RX5 yX5_wins yX5_wins, .code yX5_wins cX5_wins 4 (some .boolean), .methodLink RX5 66 yX5_along, .instanceMethod yX5_along, .selects RX5 yX5_along yX5_along, .code yX5_along cX5_along 10 (some .int), .methodLink RX5 62 yX5_isSquare, .instanceMethod yX5_isSquare, .selects RX5 yX5_isSquare yX5_isSquare, .code yX5_isSquare cX5_isSquare 3 (some .boolean)] ++ wsX50)
def wsX5_value_r1 : List Cond := [Cond.fieldLink RX5 26 "DropFourModel" "values" "[I", Cond.methodLink RX5 139 yX5_isFar, Cond.instanceMethod yX5_isFar, Cond.selects RX5 yX5_isFar yX5_isFar, Cond.initialized RX5, Cond.code yX5_isFar cX5_isFar 1 (some .boolean), Cond.fieldLink RX5 52 "DropFourModel" "w" "I", Cond.fieldLink RX5 56 "DropFourModel" "h" "I", Cond.fieldLink RX5 70 "DropFourModel" "n" "I", Cond.methodLink RX5 77 yX5_winnerNow, Cond.instanceMethod yX5_winnerNow, Cond.selects RX5 yX5_winnerNow yX5_winnerNow, Cond.code yX5_winnerNow cX5_winnerNow 2 (some .int), Cond.fieldLink RX5 16 "DropFourModel" "drops" "[I", Cond.fieldLink RX5 7 "DropFourModel" "board" "[I", Cond.fieldLink RX5 13 "DropFourModel" "heights" "[I", Cond.methodLink RX5 73 yX5_wins, Cond.instanceMethod yX5_wins, Cond.selects RX5 yX5_wins yX5_wins, Cond.code yX5_wins cX5_wins 4 (some .boolean), Cond.methodLink RX5 66 yX5_along, Cond.instanceMethod yX5_along, Cond.selects RX5 yX5_along yX5_along, Cond.code yX5_along cX5_along 10 (some .int)]
def wsX5_value_r2 : List Cond := [Cond.methodLink RX5 62 yX5_isSquare, Cond.instanceMethod yX5_isSquare, Cond.selects RX5 yX5_isSquare yX5_isSquare, Cond.code yX5_isSquare cX5_isSquare 3 (some .boolean), Cond.methodLink RX5 81 yX5_refused, Cond.instanceMethod yX5_refused, Cond.selects RX5 yX5_refused yX5_refused, Cond.code yX5_refused cX5_refused 3 (some .boolean), Cond.fieldLink RX5 59 "DropFourModel" "thrown" "I", Cond.methodLink RX5 143 yX5_lookAhead, Cond.instanceMethod yX5_lookAhead, Cond.selects RX5 yX5_lookAhead yX5_lookAhead, Cond.code yX5_lookAhead cX5_lookAhead 10 none, Cond.fieldLink RX5 85 "DropFourModel" "known" "Z", Cond.fieldLink RX5 36 "DropFourModel" "weights" "[I", Cond.fieldLink RX5 39 "DropFourModel" "offsets" "[I", Cond.constant RX5 32 (262144), Cond.fieldLink RX5 33 "DropFourModel" "slots" "[I", Cond.fieldLink RX5 20 "DropFourModel" "which" "[I", Cond.fieldLink RX5 23 "DropFourModel" "stones" "[I", Cond.fieldLink RX5 111 "DropFourModel" "positions" "I", Cond.fieldLink RX5 29 "DropFourModel" "layers" "[I", Cond.fieldLink RX5 45 "DropFourModel" "tops" "[I", Cond.methodLink RX5 124 yX5_show]
def wsX5_value_r3 : List Cond := [Cond.instanceMethod yX5_show, Cond.selects RX5 yX5_show yX5_show, Cond.code yX5_show cX5_show 6 none, Cond.fieldLink RX5 42 "DropFourModel" "seen" "[I", Cond.methodLink RX5 114 yX5_dropWins, Cond.instanceMethod yX5_dropWins, Cond.selects RX5 yX5_dropWins yX5_dropWins, Cond.code yX5_dropWins cX5_dropWins 4 (some .boolean), Cond.methodLink RX5 128 yX5_add, Cond.instanceMethod yX5_add, Cond.selects RX5 yX5_add yX5_add, Cond.code yX5_add cX5_add 7 none, Cond.methodLink RX5 107 yX5_slotOf, Cond.instanceMethod yX5_slotOf, Cond.selects RX5 yX5_slotOf yX5_slotOf, Cond.code yX5_slotOf cX5_slotOf 4 (some .int), Cond.methodLink RX5 132 yX5_valueBehind, Cond.instanceMethod yX5_valueBehind, Cond.selects RX5 yX5_valueBehind yX5_valueBehind, Cond.code yX5_valueBehind cX5_valueBehind 5 (some .int), Cond.methodLink RX5 117 yX5_behind, Cond.instanceMethod yX5_behind, Cond.selects RX5 yX5_behind yX5_behind, Cond.code yX5_behind cX5_behind 6 (some .int)]
def wsX5_value_r4 : List Cond := [Cond.methodLink RX5 120 yX5_turned, Cond.static yX5_turned, Cond.code yX5_turned cX5_turned 1 (some .int), Cond.methodLink RX5 136 yX5_rank, Cond.static yX5_rank, Cond.code yX5_rank cX5_rank 1 (some .int)]
def wsX5_value : List Cond := .code yX5_value cX5_value 1 (some .int) :: ((wsX5_value_r1 ++ (wsX5_value_r2 ++ (wsX5_value_r3 ++ wsX5_value_r4))) ++ wsX50)
def wsX5_valueOf_r1 : List Cond := [Cond.fieldLink RX5 52 "DropFourModel" "w" "I", Cond.fieldLink RX5 13 "DropFourModel" "heights" "[I", Cond.fieldLink RX5 56 "DropFourModel" "h" "I", Cond.fieldLink RX5 70 "DropFourModel" "n" "I", Cond.methodLink RX5 139 yX5_isFar, Cond.instanceMethod yX5_isFar, Cond.selects RX5 yX5_isFar yX5_isFar, Cond.initialized RX5, Cond.code yX5_isFar cX5_isFar 1 (some .boolean), Cond.methodLink RX5 77 yX5_winnerNow, Cond.instanceMethod yX5_winnerNow, Cond.selects RX5 yX5_winnerNow yX5_winnerNow, Cond.code yX5_winnerNow cX5_winnerNow 2 (some .int), Cond.fieldLink RX5 16 "DropFourModel" "drops" "[I", Cond.fieldLink RX5 7 "DropFourModel" "board" "[I", Cond.methodLink RX5 73 yX5_wins, Cond.instanceMethod yX5_wins, Cond.selects RX5 yX5_wins yX5_wins, Cond.code yX5_wins cX5_wins 4 (some .boolean), Cond.methodLink RX5 66 yX5_along, Cond.instanceMethod yX5_along, Cond.selects RX5 yX5_along yX5_along, Cond.code yX5_along cX5_along 10 (some .int), Cond.methodLink RX5 62 yX5_isSquare]
def wsX5_valueOf_r2 : List Cond := [Cond.instanceMethod yX5_isSquare, Cond.selects RX5 yX5_isSquare yX5_isSquare, Cond.code yX5_isSquare cX5_isSquare 3 (some .boolean), Cond.methodLink RX5 81 yX5_refused, Cond.instanceMethod yX5_refused, Cond.selects RX5 yX5_refused yX5_refused, Cond.code yX5_refused cX5_refused 3 (some .boolean), Cond.fieldLink RX5 59 "DropFourModel" "thrown" "I", Cond.methodLink RX5 143 yX5_lookAhead, Cond.instanceMethod yX5_lookAhead, Cond.selects RX5 yX5_lookAhead yX5_lookAhead, Cond.code yX5_lookAhead cX5_lookAhead 10 none, Cond.fieldLink RX5 85 "DropFourModel" "known" "Z", Cond.fieldLink RX5 36 "DropFourModel" "weights" "[I", Cond.fieldLink RX5 39 "DropFourModel" "offsets" "[I", Cond.constant RX5 32 (262144), Cond.fieldLink RX5 33 "DropFourModel" "slots" "[I", Cond.fieldLink RX5 20 "DropFourModel" "which" "[I", Cond.fieldLink RX5 23 "DropFourModel" "stones" "[I", Cond.fieldLink RX5 111 "DropFourModel" "positions" "I", Cond.fieldLink RX5 29 "DropFourModel" "layers" "[I", Cond.fieldLink RX5 45 "DropFourModel" "tops" "[I", Cond.fieldLink RX5 26 "DropFourModel" "values" "[I", Cond.methodLink RX5 124 yX5_show]
def wsX5_valueOf_r3 : List Cond := [Cond.instanceMethod yX5_show, Cond.selects RX5 yX5_show yX5_show, Cond.code yX5_show cX5_show 6 none, Cond.fieldLink RX5 42 "DropFourModel" "seen" "[I", Cond.methodLink RX5 114 yX5_dropWins, Cond.instanceMethod yX5_dropWins, Cond.selects RX5 yX5_dropWins yX5_dropWins, Cond.code yX5_dropWins cX5_dropWins 4 (some .boolean), Cond.methodLink RX5 128 yX5_add, Cond.instanceMethod yX5_add, Cond.selects RX5 yX5_add yX5_add, Cond.code yX5_add cX5_add 7 none, Cond.methodLink RX5 107 yX5_slotOf, Cond.instanceMethod yX5_slotOf, Cond.selects RX5 yX5_slotOf yX5_slotOf, Cond.code yX5_slotOf cX5_slotOf 4 (some .int), Cond.methodLink RX5 132 yX5_valueBehind, Cond.instanceMethod yX5_valueBehind, Cond.selects RX5 yX5_valueBehind yX5_valueBehind, Cond.code yX5_valueBehind cX5_valueBehind 5 (some .int), Cond.methodLink RX5 117 yX5_behind, Cond.instanceMethod yX5_behind, Cond.selects RX5 yX5_behind yX5_behind, Cond.code yX5_behind cX5_behind 6 (some .int)]
def wsX5_valueOf_r4 : List Cond := [Cond.methodLink RX5 120 yX5_turned, Cond.static yX5_turned, Cond.code yX5_turned cX5_turned 1 (some .int), Cond.methodLink RX5 136 yX5_rank, Cond.static yX5_rank, Cond.code yX5_rank cX5_rank 1 (some .int)]
def wsX5_valueOf : List Cond := .code yX5_valueOf cX5_valueOf 3 (some .int) :: ((wsX5_valueOf_r1 ++ (wsX5_valueOf_r2 ++ (wsX5_valueOf_r3 ++ wsX5_valueOf_r4))) ++ wsX50)
def wsX5_best_r1 : List Cond := [Cond.fieldLink RX5 52 "DropFourModel" "w" "I", Cond.fieldLink RX5 13 "DropFourModel" "heights" "[I", Cond.fieldLink RX5 56 "DropFourModel" "h" "I", Cond.fieldLink RX5 70 "DropFourModel" "n" "I", Cond.fieldLink RX5 26 "DropFourModel" "values" "[I", Cond.methodLink RX5 139 yX5_isFar, Cond.instanceMethod yX5_isFar, Cond.selects RX5 yX5_isFar yX5_isFar, Cond.initialized RX5, Cond.code yX5_isFar cX5_isFar 1 (some .boolean), Cond.methodLink RX5 77 yX5_winnerNow, Cond.instanceMethod yX5_winnerNow, Cond.selects RX5 yX5_winnerNow yX5_winnerNow, Cond.code yX5_winnerNow cX5_winnerNow 2 (some .int), Cond.fieldLink RX5 16 "DropFourModel" "drops" "[I", Cond.fieldLink RX5 7 "DropFourModel" "board" "[I", Cond.methodLink RX5 73 yX5_wins, Cond.instanceMethod yX5_wins, Cond.selects RX5 yX5_wins yX5_wins, Cond.code yX5_wins cX5_wins 4 (some .boolean), Cond.methodLink RX5 66 yX5_along, Cond.instanceMethod yX5_along, Cond.selects RX5 yX5_along yX5_along, Cond.code yX5_along cX5_along 10 (some .int)]
def wsX5_best_r2 : List Cond := [Cond.methodLink RX5 62 yX5_isSquare, Cond.instanceMethod yX5_isSquare, Cond.selects RX5 yX5_isSquare yX5_isSquare, Cond.code yX5_isSquare cX5_isSquare 3 (some .boolean), Cond.methodLink RX5 81 yX5_refused, Cond.instanceMethod yX5_refused, Cond.selects RX5 yX5_refused yX5_refused, Cond.code yX5_refused cX5_refused 3 (some .boolean), Cond.fieldLink RX5 59 "DropFourModel" "thrown" "I", Cond.methodLink RX5 143 yX5_lookAhead, Cond.instanceMethod yX5_lookAhead, Cond.selects RX5 yX5_lookAhead yX5_lookAhead, Cond.code yX5_lookAhead cX5_lookAhead 10 none, Cond.fieldLink RX5 85 "DropFourModel" "known" "Z", Cond.fieldLink RX5 36 "DropFourModel" "weights" "[I", Cond.fieldLink RX5 39 "DropFourModel" "offsets" "[I", Cond.constant RX5 32 (262144), Cond.fieldLink RX5 33 "DropFourModel" "slots" "[I", Cond.fieldLink RX5 20 "DropFourModel" "which" "[I", Cond.fieldLink RX5 23 "DropFourModel" "stones" "[I", Cond.fieldLink RX5 111 "DropFourModel" "positions" "I", Cond.fieldLink RX5 29 "DropFourModel" "layers" "[I", Cond.fieldLink RX5 45 "DropFourModel" "tops" "[I", Cond.methodLink RX5 124 yX5_show]
def wsX5_best_r3 : List Cond := [Cond.instanceMethod yX5_show, Cond.selects RX5 yX5_show yX5_show, Cond.code yX5_show cX5_show 6 none, Cond.fieldLink RX5 42 "DropFourModel" "seen" "[I", Cond.methodLink RX5 114 yX5_dropWins, Cond.instanceMethod yX5_dropWins, Cond.selects RX5 yX5_dropWins yX5_dropWins, Cond.code yX5_dropWins cX5_dropWins 4 (some .boolean), Cond.methodLink RX5 128 yX5_add, Cond.instanceMethod yX5_add, Cond.selects RX5 yX5_add yX5_add, Cond.code yX5_add cX5_add 7 none, Cond.methodLink RX5 107 yX5_slotOf, Cond.instanceMethod yX5_slotOf, Cond.selects RX5 yX5_slotOf yX5_slotOf, Cond.code yX5_slotOf cX5_slotOf 4 (some .int), Cond.methodLink RX5 132 yX5_valueBehind, Cond.instanceMethod yX5_valueBehind, Cond.selects RX5 yX5_valueBehind yX5_valueBehind, Cond.code yX5_valueBehind cX5_valueBehind 5 (some .int), Cond.methodLink RX5 117 yX5_behind, Cond.instanceMethod yX5_behind, Cond.selects RX5 yX5_behind yX5_behind, Cond.code yX5_behind cX5_behind 6 (some .int)]
def wsX5_best_r4 : List Cond := [Cond.methodLink RX5 120 yX5_turned, Cond.static yX5_turned, Cond.code yX5_turned cX5_turned 1 (some .int), Cond.methodLink RX5 136 yX5_rank, Cond.static yX5_rank, Cond.code yX5_rank cX5_rank 1 (some .int)]
def wsX5_best : List Cond := .code yX5_best cX5_best 4 (some .int) :: ((wsX5_best_r1 ++ (wsX5_best_r2 ++ (wsX5_best_r3 ++ wsX5_best_r4))) ++ wsX50)
def wsX5_showPairs : List Cond := .code yX5_showPairs cX5_showPairs 7 none :: ([.fieldLink RX5 42 "DropFourModel" "seen" "[I", .fieldLink RX5 7 "DropFourModel" "board" "[I", .fieldLink RX5 52 "DropFourModel" "w" "I", .fieldLink RX5 56 "DropFourModel" "h" "I", .fieldLink RX5 13 "DropFourModel" "heights" "[I", .fieldLink RX5 70 "DropFourModel" "n" "I", .fieldLink RX5 45 "DropFourModel" "tops" "[I"] ++ wsX50)
def wsX5_beats_r1 : List Cond := [Cond.fieldLink RX5 52 "DropFourModel" "w" "I", Cond.fieldLink RX5 56 "DropFourModel" "h" "I", Cond.fieldLink RX5 13 "DropFourModel" "heights" "[I", Cond.fieldLink RX5 70 "DropFourModel" "n" "I", Cond.fieldLink RX5 36 "DropFourModel" "weights" "[I", Cond.fieldLink RX5 85 "DropFourModel" "known" "Z", Cond.fieldLink RX5 48 "DropFourModel" "reached" "[Z", Cond.fieldLink RX5 45 "DropFourModel" "tops" "[I", Cond.fieldLink RX5 42 "DropFourModel" "seen" "[I", Cond.methodLink RX5 77 yX5_winnerNow, Cond.instanceMethod yX5_winnerNow, Cond.selects RX5 yX5_winnerNow yX5_winnerNow, Cond.initialized RX5, Cond.code yX5_winnerNow cX5_winnerNow 2 (some .int), Cond.fieldLink RX5 16 "DropFourModel" "drops" "[I", Cond.fieldLink RX5 7 "DropFourModel" "board" "[I", Cond.methodLink RX5 73 yX5_wins, Cond.instanceMethod yX5_wins, Cond.selects RX5 yX5_wins yX5_wins, Cond.code yX5_wins cX5_wins 4 (some .boolean), Cond.methodLink RX5 66 yX5_along, Cond.instanceMethod yX5_along, Cond.selects RX5 yX5_along yX5_along, Cond.code yX5_along cX5_along 10 (some .int)]
def wsX5_beats_r2 : List Cond := [Cond.methodLink RX5 62 yX5_isSquare, Cond.instanceMethod yX5_isSquare, Cond.selects RX5 yX5_isSquare yX5_isSquare, Cond.code yX5_isSquare cX5_isSquare 3 (some .boolean), Cond.methodLink RX5 81 yX5_refused, Cond.instanceMethod yX5_refused, Cond.selects RX5 yX5_refused yX5_refused, Cond.code yX5_refused cX5_refused 3 (some .boolean), Cond.fieldLink RX5 59 "DropFourModel" "thrown" "I", Cond.methodLink RX5 146 yX5_showPairs, Cond.instanceMethod yX5_showPairs, Cond.selects RX5 yX5_showPairs yX5_showPairs, Cond.code yX5_showPairs cX5_showPairs 7 none, Cond.methodLink RX5 114 yX5_dropWins, Cond.instanceMethod yX5_dropWins, Cond.selects RX5 yX5_dropWins yX5_dropWins, Cond.code yX5_dropWins cX5_dropWins 4 (some .boolean)]
def wsX5_beats : List Cond := .code yX5_beats cX5_beats 6 (some .boolean) :: ((wsX5_beats_r1 ++ wsX5_beats_r2) ++ wsX50)
def wsJ9_abs_0f7a4 : List Cond := .code yJ9_abs_0f7a4 cJ9_abs_0f7a4 1 (some .int) :: ([])
def wsJ9_max_7cf53 : List Cond := .code yJ9_max_7cf53 cJ9_max_7cf53 2 (some .int) :: ([])
def wsJ9_min_7cf53 : List Cond := .code yJ9_min_7cf53 cJ9_min_7cf53 2 (some .int) :: ([])
def wsL_cell : List Cond := .code yL_cell cL_cell 2 (some .int) :: ([])
def wsL_drop_r1 : List Cond := [Cond.classLink RL 13 "java/lang/IllegalArgumentException", Cond.classLink RL 15 "java/lang/IllegalStateException", Cond.methodLink RL 7 yX4_drop, Cond.instanceMethod yX4_drop, Cond.selects RX4 yX4_drop yX4_drop, Cond.initialized RX4, Cond.code yX4_drop cX4_drop 3 (some .int), Cond.classLink RX4 57 "java/lang/IllegalArgumentException", Cond.initialized "java/lang/IllegalArgumentException", Cond.classLink RX4 71 "java/lang/IllegalStateException", Cond.initialized "java/lang/IllegalStateException", Cond.fieldLink RX4 46 "DropFour" "heights" "[I", Cond.fieldLink RX4 7 "DropFour" "stones" "[J", Cond.fieldLink RX4 26 "DropFour" "grid" "LDropFour$Grid;", Cond.fieldLink RX4 50 "DropFour" "history" "[I", Cond.fieldLink RX4 13 "DropFour" "count" "I", Cond.methodLink RX4 53 yX4_isColumn, Cond.instanceMethod yX4_isColumn, Cond.selects RX4 yX4_isColumn yX4_isColumn, Cond.code yX4_isColumn cX4_isColumn 2 (some .boolean), Cond.methodLink RX4 64 yX4_isOver, Cond.instanceMethod yX4_isOver, Cond.selects RX4 yX4_isOver yX4_isOver, Cond.code yX4_isOver cX4_isOver 1 (some .boolean)]
def wsL_drop_r2 : List Cond := [Cond.methodLink RX4 173 yX4_winner, Cond.instanceMethod yX4_winner, Cond.selects RX4 yX4_winner yX4_winner, Cond.code yX4_winner cX4_winner 1 (some .int), Cond.methodLink RX4 88 yX1_hasLine, Cond.instanceMethod yX1_hasLine, Cond.selects RX1 yX1_hasLine yX1_hasLine, Cond.initialized RX1, Cond.code yX1_hasLine cX1_hasLine 7 (some .boolean), Cond.fieldLink RX1 16 "DropFour$Grid" "steps" "[I", Cond.methodLink RX1 31 yX1_lineStarts, Cond.instanceMethod yX1_lineStarts, Cond.selects RX1 yX1_lineStarts yX1_lineStarts, Cond.code yX1_lineStarts cX1_lineStarts 6 (some .long), Cond.methodLink RX4 92 yX4_empty, Cond.instanceMethod yX4_empty, Cond.selects RX4 yX4_empty yX4_empty, Cond.code yX4_empty cX4_empty 1 (some .int), Cond.methodLink RX4 68 yX4_isFull, Cond.instanceMethod yX4_isFull, Cond.selects RX4 yX4_isFull yX4_isFull, Cond.code yX4_isFull cX4_isFull 2 (some .boolean), Cond.methodLink RX4 76 yX4_turn, Cond.instanceMethod yX4_turn]
def wsL_drop_r3 : List Cond := [Cond.selects RX4 yX4_turn yX4_turn, Cond.code yX4_turn cX4_turn 1 (some .int), Cond.methodLink RX4 80 yX1_square, Cond.instanceMethod yX1_square, Cond.selects RX1 yX1_square yX1_square, Cond.code yX1_square cX1_square 3 (some .long), Cond.fieldLink RX1 13 "DropFour$Grid" "rows" "I"]
def wsL_drop : List Cond := .codeWith yL_drop cL_drop 4 (some .int) [(0, 9, 12, 13), (0, 9, 15, 15)] :: ((wsL_drop_r1 ++ (wsL_drop_r2 ++ wsL_drop_r3)) ++ wsX40 ++ wsX10 ++ (vx_atS RX4 61 "java/lang/IllegalArgumentException" ["java/lang/RuntimeException", "java/lang/Exception"]).filter goodWord ++ (vx_atS RX4 75 "java/lang/IllegalStateException" ["java/lang/RuntimeException", "java/lang/Exception"]).filter goodWord)
def wsL_back : List Cond := .codeWith yL_back cL_back 3 (some .int) [(0, 8, 11, 15)] :: ([.classLink RL 15 "java/lang/IllegalStateException", .methodLink RL 17 yX4_back, .instanceMethod yX4_back, .selects RX4 yX4_back yX4_back, .initialized RX4, .code yX4_back cX4_back 2 (some .int), .classLink RX4 71 "java/lang/IllegalStateException", .initialized "java/lang/IllegalStateException", .fieldLink RX4 13 "DropFour" "count" "I", .fieldLink RX4 50 "DropFour" "history" "[I", .fieldLink RX4 46 "DropFour" "heights" "[I", .fieldLink RX4 7 "DropFour" "stones" "[J", .fieldLink RX4 26 "DropFour" "grid" "LDropFour$Grid;", .constantLong RX4 86 (-1), .methodLink RX4 76 yX4_turn, .instanceMethod yX4_turn, .selects RX4 yX4_turn yX4_turn, .code yX4_turn cX4_turn 1 (some .int), .methodLink RX4 80 yX1_square, .instanceMethod yX1_square, .selects RX1 yX1_square yX1_square, .initialized RX1, .code yX1_square cX1_square 3 (some .long), .fieldLink RX1 13 "DropFour$Grid" "rows" "I"] ++ wsX40 ++ wsX10 ++ (vx_atS RX4 75 "java/lang/IllegalStateException" ["java/lang/RuntimeException", "java/lang/Exception"]).filter goodWord)
def wsL_at : List Cond := .codeWith yL_at cL_at 5 (some .int) [(0, 10, 13, 25)] :: ([.classLink RL 25 "java/lang/IndexOutOfBoundsException", .methodLink RL 21 yX4_at, .instanceMethod yX4_at, .selects RX4 yX4_at yX4_at, .initialized RX4, .code yX4_at cX4_at 5 (some .int), .classLink RX4 98 "java/lang/IndexOutOfBoundsException", .initialized "java/lang/IndexOutOfBoundsException", .fieldLink RX4 26 "DropFour" "grid" "LDropFour$Grid;", .fieldLink RX4 7 "DropFour" "stones" "[J", .methodLink RX4 53 yX4_isColumn, .instanceMethod yX4_isColumn, .selects RX4 yX4_isColumn yX4_isColumn, .code yX4_isColumn cX4_isColumn 2 (some .boolean), .methodLink RX4 80 yX1_square, .instanceMethod yX1_square, .selects RX1 yX1_square yX1_square, .initialized RX1, .code yX1_square cX1_square 3 (some .long), .fieldLink RX1 13 "DropFour$Grid" "rows" "I"] ++ wsX40 ++ wsX10 ++ (vx_atS RX4 102 "java/lang/IndexOutOfBoundsException" ["java/lang/RuntimeException", "java/lang/Exception"]).filter goodWord)
def wsL_open_r1 : List Cond := [Cond.classLink RL 13 "java/lang/IllegalArgumentException", Cond.methodLink RL 27 yX4_open, Cond.instanceMethod yX4_open, Cond.selects RX4 yX4_open yX4_open, Cond.initialized RX4, Cond.code yX4_open cX4_open 2 (some .int), Cond.classLink RX4 57 "java/lang/IllegalArgumentException", Cond.initialized "java/lang/IllegalArgumentException", Cond.fieldLink RX4 26 "DropFour" "grid" "LDropFour$Grid;", Cond.fieldLink RX4 7 "DropFour" "stones" "[J", Cond.constantLong RX4 86 (-1), Cond.methodLink RX4 103 yX4_isPlayer, Cond.static yX4_isPlayer, Cond.code yX4_isPlayer cX4_isPlayer 1 (some .boolean), Cond.methodLink RX4 112 yX1_countLines, Cond.instanceMethod yX1_countLines, Cond.selects RX1 yX1_countLines yX1_countLines, Cond.initialized RX1, Cond.code yX1_countLines cX1_countLines 8 (some .int), Cond.fieldLink RX1 16 "DropFour$Grid" "steps" "[I", Cond.methodLink RX1 31 yX1_lineStarts, Cond.instanceMethod yX1_lineStarts, Cond.selects RX1 yX1_lineStarts yX1_lineStarts, Cond.code yX1_lineStarts cX1_lineStarts 6 (some .long)]
def wsL_open_r2 : List Cond := [Cond.methodLink RX1 35 yJ13_bitCount_95d88, Cond.static yJ13_bitCount_95d88, Cond.initialized RJ13, Cond.code yJ13_bitCount_95d88 cJ13_bitCount_95d88 2 (some .int), Cond.constantLong RJ13 314 (6148914691236517205), Cond.constantLong RJ13 316 (3689348814741910323), Cond.constantLong RJ13 318 (1085102592571150095)]
def wsL_open : List Cond := .codeWith yL_open cL_open 4 (some .int) [(0, 9, 12, 13)] :: ((wsL_open_r1 ++ wsL_open_r2) ++ wsX40 ++ wsX10 ++ (vx_atS RX4 61 "java/lang/IllegalArgumentException" ["java/lang/RuntimeException", "java/lang/Exception"]).filter goodWord)
def wsL_threats_r1 : List Cond := [Cond.classLink RL 13 "java/lang/IllegalArgumentException", Cond.methodLink RL 30 yX4_threats, Cond.instanceMethod yX4_threats, Cond.selects RX4 yX4_threats yX4_threats, Cond.initialized RX4, Cond.code yX4_threats cX4_threats 2 (some .int), Cond.classLink RX4 57 "java/lang/IllegalArgumentException", Cond.initialized "java/lang/IllegalArgumentException", Cond.fieldLink RX4 26 "DropFour" "grid" "LDropFour$Grid;", Cond.fieldLink RX4 7 "DropFour" "stones" "[J", Cond.methodLink RX4 103 yX4_isPlayer, Cond.static yX4_isPlayer, Cond.code yX4_isPlayer cX4_isPlayer 1 (some .boolean), Cond.methodLink RX4 116 yX4_taken, Cond.instanceMethod yX4_taken, Cond.selects RX4 yX4_taken yX4_taken, Cond.code yX4_taken cX4_taken 1 (some .long), Cond.methodLink RX4 120 yX1_threatSquares, Cond.instanceMethod yX1_threatSquares, Cond.selects RX1 yX1_threatSquares yX1_threatSquares, Cond.initialized RX1, Cond.code yX1_threatSquares cX1_threatSquares 11 (some .long), Cond.fieldLink RX1 16 "DropFour$Grid" "steps" "[I", Cond.fieldLink RX1 28 "DropFour$Grid" "squares" "J"]
def wsL_threats_r2 : List Cond := [Cond.constantLong RX1 44 (-1), Cond.methodLink RX1 41 yX1_completing, Cond.static yX1_completing, Cond.code yX1_completing cX1_completing 11 (some .long), Cond.methodLink RX4 124 yJ13_bitCount_95d88, Cond.static yJ13_bitCount_95d88, Cond.initialized RJ13, Cond.code yJ13_bitCount_95d88 cJ13_bitCount_95d88 2 (some .int), Cond.constantLong RJ13 314 (6148914691236517205), Cond.constantLong RJ13 316 (3689348814741910323), Cond.constantLong RJ13 318 (1085102592571150095)]
def wsL_threats : List Cond := .codeWith yL_threats cL_threats 4 (some .int) [(0, 9, 12, 13)] :: ((wsL_threats_r1 ++ wsL_threats_r2) ++ wsX40 ++ wsX10 ++ (vx_atS RX4 61 "java/lang/IllegalArgumentException" ["java/lang/RuntimeException", "java/lang/Exception"]).filter goodWord)
def wsL_value_r1 : List Cond := [Cond.classLink RL 15 "java/lang/IllegalStateException", Cond.methodLink RL 33 yX4_value, Cond.instanceMethod yX4_value, Cond.selects RX4 yX4_value yX4_value, Cond.initialized RX4, Cond.code yX4_value cX4_value 1 (some .int), Cond.classLink RX4 71 "java/lang/IllegalStateException", Cond.initialized "java/lang/IllegalStateException", Cond.fieldLink RX4 35 "DropFour" "search" "LDropFour$Search;", Cond.methodLink RX4 129 yX4_canBeValued, Cond.instanceMethod yX4_canBeValued, Cond.selects RX4 yX4_canBeValued yX4_canBeValued, Cond.code yX4_canBeValued cX4_canBeValued 1 (some .boolean), Cond.methodLink RX4 92 yX4_empty, Cond.instanceMethod yX4_empty, Cond.selects RX4 yX4_empty yX4_empty, Cond.code yX4_empty cX4_empty 1 (some .int), Cond.fieldLink RX4 50 "DropFour" "history" "[I", Cond.fieldLink RX4 13 "DropFour" "count" "I", Cond.methodLink RX4 64 yX4_isOver, Cond.instanceMethod yX4_isOver, Cond.selects RX4 yX4_isOver yX4_isOver, Cond.code yX4_isOver cX4_isOver 1 (some .boolean), Cond.methodLink RX4 173 yX4_winner]
def wsL_value_r2 : List Cond := [Cond.instanceMethod yX4_winner, Cond.selects RX4 yX4_winner yX4_winner, Cond.code yX4_winner cX4_winner 1 (some .int), Cond.fieldLink RX4 26 "DropFour" "grid" "LDropFour$Grid;", Cond.fieldLink RX4 7 "DropFour" "stones" "[J", Cond.methodLink RX4 88 yX1_hasLine, Cond.instanceMethod yX1_hasLine, Cond.selects RX1 yX1_hasLine yX1_hasLine, Cond.initialized RX1, Cond.code yX1_hasLine cX1_hasLine 7 (some .boolean), Cond.fieldLink RX1 16 "DropFour$Grid" "steps" "[I", Cond.methodLink RX1 31 yX1_lineStarts, Cond.instanceMethod yX1_lineStarts, Cond.selects RX1 yX1_lineStarts yX1_lineStarts, Cond.code yX1_lineStarts cX1_lineStarts 6 (some .long), Cond.methodLink RX4 134 yX4_mine, Cond.instanceMethod yX4_mine, Cond.selects RX4 yX4_mine yX4_mine, Cond.code yX4_mine cX4_mine 1 (some .long), Cond.methodLink RX4 76 yX4_turn, Cond.instanceMethod yX4_turn, Cond.selects RX4 yX4_turn yX4_turn, Cond.code yX4_turn cX4_turn 1 (some .int), Cond.methodLink RX4 137 yX4_theirs]
def wsL_value_r3 : List Cond := [Cond.instanceMethod yX4_theirs, Cond.selects RX4 yX4_theirs yX4_theirs, Cond.code yX4_theirs cX4_theirs 1 (some .long), Cond.instanceMethod yX3_score, Cond.initialized RX3, Cond.selects RX3 yX3_score yX3_score, Cond.code yX3_score cX3_score 14 (some .int), Cond.fieldLink RX3 16 "DropFour$Search" "grid" "LDropFour$Grid;", Cond.methodLink RX3 33 yX1_nextSquares, Cond.instanceMethod yX1_nextSquares, Cond.selects RX1 yX1_nextSquares yX1_nextSquares, Cond.code yX1_nextSquares cX1_nextSquares 3 (some .long), Cond.fieldLink RX1 24 "DropFour$Grid" "floor" "J", Cond.fieldLink RX1 28 "DropFour$Grid" "squares" "J", Cond.methodLink RX3 37 yX1_threatSquares, Cond.instanceMethod yX1_threatSquares, Cond.selects RX1 yX1_threatSquares yX1_threatSquares, Cond.code yX1_threatSquares cX1_threatSquares 11 (some .long), Cond.constantLong RX1 44 (-1), Cond.methodLink RX1 41 yX1_completing, Cond.static yX1_completing, Cond.code yX1_completing cX1_completing 11 (some .long), Cond.methodLink RX3 41 yX3_safeMoves, Cond.static yX3_safeMoves]
def wsL_value_r4 : List Cond := [Cond.code yX3_safeMoves cX3_safeMoves 8 (some .long), Cond.constantLong RX3 54 (-1), Cond.methodLink RX3 48 yJ13_bitCount_95d88, Cond.static yJ13_bitCount_95d88, Cond.initialized RJ13, Cond.code yJ13_bitCount_95d88 cJ13_bitCount_95d88 2 (some .int), Cond.constantLong RJ13 314 (6148914691236517205), Cond.constantLong RJ13 316 (3689348814741910323), Cond.constantLong RJ13 318 (1085102592571150095), Cond.methodLink RX3 44 yX3_remembered, Cond.instanceMethod yX3_remembered, Cond.selects RX3 yX3_remembered yX3_remembered, Cond.code yX3_remembered cX3_remembered 18 (some .int), Cond.fieldLink RX3 10 "DropFour$Search" "memory" "LDropFour$Memory;", Cond.methodLink RX3 77 Lib.Math.max.name, Cond.static Lib.Math.max.name, Cond.initialized "java/lang/Math", Cond.code Lib.Math.max.name Lib.Math.max.code 2 (some .int), Cond.methodLink RX3 83 Lib.Math.min.name, Cond.static Lib.Math.min.name, Cond.code Lib.Math.min.name Lib.Math.min.code 2 (some .int), Cond.methodLink RX3 60 yX2_holds, Cond.instanceMethod yX2_holds, Cond.selects RX2 yX2_holds yX2_holds]
def wsL_value_r5 : List Cond := [Cond.initialized RX2, Cond.code yX2_holds cX2_holds 3 (some .boolean), Cond.fieldLink RX2 9 "DropFour$Memory" "keys" "[J", Cond.methodLink RX2 20 yX2_slotOf, Cond.static yX2_slotOf, Cond.code yX2_slotOf cX2_slotOf 2 (some .int), Cond.constantLong RX2 24 (-7046029254386353131), Cond.methodLink RX3 64 yX2_leastOf, Cond.instanceMethod yX2_leastOf, Cond.selects RX2 yX2_leastOf yX2_leastOf, Cond.code yX2_leastOf cX2_leastOf 3 (some .int), Cond.fieldLink RX2 13 "DropFour$Memory" "least" "[I", Cond.methodLink RX3 67 yX3_leastAtFirst, Cond.instanceMethod yX3_leastAtFirst, Cond.selects RX3 yX3_leastAtFirst yX3_leastAtFirst, Cond.code yX3_leastAtFirst cX3_leastAtFirst 4 (some .int), Cond.methodLink RX3 96 yX1_hasLine, Cond.methodLink RX3 71 yX2_mostOf, Cond.instanceMethod yX2_mostOf, Cond.selects RX2 yX2_mostOf yX2_mostOf, Cond.code yX2_mostOf cX2_mostOf 3 (some .int), Cond.fieldLink RX2 17 "DropFour$Memory" "most" "[I", Cond.methodLink RX3 74 yX3_mostAtFirst, Cond.instanceMethod yX3_mostAtFirst]
def wsL_value_r6 : List Cond := [Cond.selects RX3 yX3_mostAtFirst yX3_mostAtFirst, Cond.code yX3_mostAtFirst cX3_mostAtFirst 4 (some .int), Cond.methodLink RX3 86 yX3_tried, Cond.instanceMethod yX3_tried, Cond.selects RX3 yX3_tried yX3_tried, Cond.methodLink RX3 89 yX2_keep, Cond.instanceMethod yX2_keep, Cond.selects RX2 yX2_keep yX2_keep, Cond.code yX2_keep cX2_keep 6 none, Cond.code yX3_tried cX3_tried 15 (some .int), Cond.fieldLink RX3 26 "DropFour$Search" "middleFirst" "[J", Cond.methodLink RX3 99 yX3_score, Cond.methodLink RX4 144 yX4_inDrops, Cond.instanceMethod yX4_inDrops, Cond.selects RX4 yX4_inDrops yX4_inDrops, Cond.code yX4_inDrops cX4_inDrops 3 (some .int), Cond.methodLink RX4 176 Lib.Math.abs.name, Cond.static Lib.Math.abs.name, Cond.code Lib.Math.abs.name Lib.Math.abs.code 1 (some .int)]
def wsL_value : List Cond := .codeWith yL_value cL_value 3 (some .int) [(0, 8, 11, 15)] :: ((wsL_value_r1 ++ (wsL_value_r2 ++ (wsL_value_r3 ++ (wsL_value_r4 ++ (wsL_value_r5 ++ wsL_value_r6))))) ++ wsX40 ++ wsX10 ++ wsX30 ++ wsX20 ++ (vx_atS RX4 75 "java/lang/IllegalStateException" ["java/lang/RuntimeException", "java/lang/Exception"]).filter goodWord)
def wsL_valueOf_r1 : List Cond := [Cond.classLink RL 13 "java/lang/IllegalArgumentException", Cond.classLink RL 15 "java/lang/IllegalStateException", Cond.methodLink RL 36 yX4_valueOf, Cond.instanceMethod yX4_valueOf, Cond.selects RX4 yX4_valueOf yX4_valueOf, Cond.initialized RX4, Cond.code yX4_valueOf cX4_valueOf 2 (some .int), Cond.classLink RX4 57 "java/lang/IllegalArgumentException", Cond.initialized "java/lang/IllegalArgumentException", Cond.classLink RX4 71 "java/lang/IllegalStateException", Cond.initialized "java/lang/IllegalStateException", Cond.methodLink RX4 53 yX4_isColumn, Cond.instanceMethod yX4_isColumn, Cond.selects RX4 yX4_isColumn yX4_isColumn, Cond.code yX4_isColumn cX4_isColumn 2 (some .boolean), Cond.fieldLink RX4 26 "DropFour" "grid" "LDropFour$Grid;", Cond.methodLink RX4 129 yX4_canBeValued, Cond.instanceMethod yX4_canBeValued, Cond.selects RX4 yX4_canBeValued yX4_canBeValued, Cond.code yX4_canBeValued cX4_canBeValued 1 (some .boolean), Cond.methodLink RX4 92 yX4_empty, Cond.instanceMethod yX4_empty, Cond.selects RX4 yX4_empty yX4_empty, Cond.code yX4_empty cX4_empty 1 (some .int)]
def wsL_valueOf_r2 : List Cond := [Cond.fieldLink RX4 50 "DropFour" "history" "[I", Cond.fieldLink RX4 13 "DropFour" "count" "I", Cond.methodLink RX4 64 yX4_isOver, Cond.instanceMethod yX4_isOver, Cond.selects RX4 yX4_isOver yX4_isOver, Cond.code yX4_isOver cX4_isOver 1 (some .boolean), Cond.methodLink RX4 173 yX4_winner, Cond.instanceMethod yX4_winner, Cond.selects RX4 yX4_winner yX4_winner, Cond.code yX4_winner cX4_winner 1 (some .int), Cond.fieldLink RX4 7 "DropFour" "stones" "[J", Cond.methodLink RX4 88 yX1_hasLine, Cond.instanceMethod yX1_hasLine, Cond.selects RX1 yX1_hasLine yX1_hasLine, Cond.initialized RX1, Cond.code yX1_hasLine cX1_hasLine 7 (some .boolean), Cond.fieldLink RX1 16 "DropFour$Grid" "steps" "[I", Cond.methodLink RX1 31 yX1_lineStarts, Cond.instanceMethod yX1_lineStarts, Cond.selects RX1 yX1_lineStarts yX1_lineStarts, Cond.code yX1_lineStarts cX1_lineStarts 6 (some .long), Cond.methodLink RX4 68 yX4_isFull, Cond.instanceMethod yX4_isFull, Cond.selects RX4 yX4_isFull yX4_isFull]
def wsL_valueOf_r3 : List Cond := [Cond.code yX4_isFull cX4_isFull 2 (some .boolean), Cond.fieldLink RX4 46 "DropFour" "heights" "[I", Cond.methodLink RX4 150 yX4_scoreAbove, Cond.instanceMethod yX4_scoreAbove, Cond.selects RX4 yX4_scoreAbove yX4_scoreAbove, Cond.code yX4_scoreAbove cX4_scoreAbove 5 (some .int), Cond.fieldLink RX4 35 "DropFour" "search" "LDropFour$Search;", Cond.methodLink RX4 134 yX4_mine, Cond.instanceMethod yX4_mine, Cond.selects RX4 yX4_mine yX4_mine, Cond.code yX4_mine cX4_mine 1 (some .long), Cond.methodLink RX4 76 yX4_turn, Cond.instanceMethod yX4_turn, Cond.selects RX4 yX4_turn yX4_turn, Cond.code yX4_turn cX4_turn 1 (some .int), Cond.methodLink RX4 80 yX1_square, Cond.instanceMethod yX1_square, Cond.selects RX1 yX1_square yX1_square, Cond.code yX1_square cX1_square 3 (some .long), Cond.fieldLink RX1 13 "DropFour$Grid" "rows" "I", Cond.methodLink RX4 137 yX4_theirs, Cond.instanceMethod yX4_theirs, Cond.selects RX4 yX4_theirs yX4_theirs, Cond.code yX4_theirs cX4_theirs 1 (some .long)]
def wsL_valueOf_r4 : List Cond := [Cond.instanceMethod yX3_score, Cond.initialized RX3, Cond.selects RX3 yX3_score yX3_score, Cond.code yX3_score cX3_score 14 (some .int), Cond.fieldLink RX3 16 "DropFour$Search" "grid" "LDropFour$Grid;", Cond.methodLink RX3 33 yX1_nextSquares, Cond.instanceMethod yX1_nextSquares, Cond.selects RX1 yX1_nextSquares yX1_nextSquares, Cond.code yX1_nextSquares cX1_nextSquares 3 (some .long), Cond.fieldLink RX1 24 "DropFour$Grid" "floor" "J", Cond.fieldLink RX1 28 "DropFour$Grid" "squares" "J", Cond.methodLink RX3 37 yX1_threatSquares, Cond.instanceMethod yX1_threatSquares, Cond.selects RX1 yX1_threatSquares yX1_threatSquares, Cond.code yX1_threatSquares cX1_threatSquares 11 (some .long), Cond.constantLong RX1 44 (-1), Cond.methodLink RX1 41 yX1_completing, Cond.static yX1_completing, Cond.code yX1_completing cX1_completing 11 (some .long), Cond.methodLink RX3 41 yX3_safeMoves, Cond.static yX3_safeMoves, Cond.code yX3_safeMoves cX3_safeMoves 8 (some .long), Cond.constantLong RX3 54 (-1), Cond.methodLink RX3 48 yJ13_bitCount_95d88]
def wsL_valueOf_r5 : List Cond := [Cond.static yJ13_bitCount_95d88, Cond.initialized RJ13, Cond.code yJ13_bitCount_95d88 cJ13_bitCount_95d88 2 (some .int), Cond.constantLong RJ13 314 (6148914691236517205), Cond.constantLong RJ13 316 (3689348814741910323), Cond.constantLong RJ13 318 (1085102592571150095), Cond.methodLink RX3 44 yX3_remembered, Cond.instanceMethod yX3_remembered, Cond.selects RX3 yX3_remembered yX3_remembered, Cond.code yX3_remembered cX3_remembered 18 (some .int), Cond.fieldLink RX3 10 "DropFour$Search" "memory" "LDropFour$Memory;", Cond.methodLink RX3 77 Lib.Math.max.name, Cond.static Lib.Math.max.name, Cond.initialized "java/lang/Math", Cond.code Lib.Math.max.name Lib.Math.max.code 2 (some .int), Cond.methodLink RX3 83 Lib.Math.min.name, Cond.static Lib.Math.min.name, Cond.code Lib.Math.min.name Lib.Math.min.code 2 (some .int), Cond.methodLink RX3 60 yX2_holds, Cond.instanceMethod yX2_holds, Cond.selects RX2 yX2_holds yX2_holds, Cond.initialized RX2, Cond.code yX2_holds cX2_holds 3 (some .boolean), Cond.fieldLink RX2 9 "DropFour$Memory" "keys" "[J"]
def wsL_valueOf_r6 : List Cond := [Cond.methodLink RX2 20 yX2_slotOf, Cond.static yX2_slotOf, Cond.code yX2_slotOf cX2_slotOf 2 (some .int), Cond.constantLong RX2 24 (-7046029254386353131), Cond.methodLink RX3 64 yX2_leastOf, Cond.instanceMethod yX2_leastOf, Cond.selects RX2 yX2_leastOf yX2_leastOf, Cond.code yX2_leastOf cX2_leastOf 3 (some .int), Cond.fieldLink RX2 13 "DropFour$Memory" "least" "[I", Cond.methodLink RX3 67 yX3_leastAtFirst, Cond.instanceMethod yX3_leastAtFirst, Cond.selects RX3 yX3_leastAtFirst yX3_leastAtFirst, Cond.code yX3_leastAtFirst cX3_leastAtFirst 4 (some .int), Cond.methodLink RX3 96 yX1_hasLine, Cond.methodLink RX3 71 yX2_mostOf, Cond.instanceMethod yX2_mostOf, Cond.selects RX2 yX2_mostOf yX2_mostOf, Cond.code yX2_mostOf cX2_mostOf 3 (some .int), Cond.fieldLink RX2 17 "DropFour$Memory" "most" "[I", Cond.methodLink RX3 74 yX3_mostAtFirst, Cond.instanceMethod yX3_mostAtFirst, Cond.selects RX3 yX3_mostAtFirst yX3_mostAtFirst, Cond.code yX3_mostAtFirst cX3_mostAtFirst 4 (some .int), Cond.methodLink RX3 86 yX3_tried]
def wsL_valueOf_r7 : List Cond := [Cond.instanceMethod yX3_tried, Cond.selects RX3 yX3_tried yX3_tried, Cond.methodLink RX3 89 yX2_keep, Cond.instanceMethod yX2_keep, Cond.selects RX2 yX2_keep yX2_keep, Cond.code yX2_keep cX2_keep 6 none, Cond.code yX3_tried cX3_tried 15 (some .int), Cond.fieldLink RX3 26 "DropFour$Search" "middleFirst" "[J", Cond.methodLink RX3 99 yX3_score, Cond.methodLink RX4 144 yX4_inDrops, Cond.instanceMethod yX4_inDrops, Cond.selects RX4 yX4_inDrops yX4_inDrops, Cond.code yX4_inDrops cX4_inDrops 3 (some .int), Cond.methodLink RX4 176 Lib.Math.abs.name, Cond.static Lib.Math.abs.name, Cond.code Lib.Math.abs.name Lib.Math.abs.code 1 (some .int)]
def wsL_valueOf : List Cond := .codeWith yL_valueOf cL_valueOf 4 (some .int) [(0, 9, 12, 13), (0, 9, 15, 15)] :: ((wsL_valueOf_r1 ++ (wsL_valueOf_r2 ++ (wsL_valueOf_r3 ++ (wsL_valueOf_r4 ++ (wsL_valueOf_r5 ++ (wsL_valueOf_r6 ++ wsL_valueOf_r7)))))) ++ wsX40 ++ wsX10 ++ wsX30 ++ wsX20 ++ (vx_atS RX4 61 "java/lang/IllegalArgumentException" ["java/lang/RuntimeException", "java/lang/Exception"]).filter goodWord ++ (vx_atS RX4 75 "java/lang/IllegalStateException" ["java/lang/RuntimeException", "java/lang/Exception"]).filter goodWord)
def wsL_best_r1 : List Cond := [Cond.classLink RL 15 "java/lang/IllegalStateException", Cond.methodLink RL 39 yX4_best, Cond.instanceMethod yX4_best, Cond.selects RX4 yX4_best yX4_best, Cond.initialized RX4, Cond.code yX4_best cX4_best 5 (some .int), Cond.classLink RX4 71 "java/lang/IllegalStateException", Cond.initialized "java/lang/IllegalStateException", Cond.fieldLink RX4 26 "DropFour" "grid" "LDropFour$Grid;", Cond.methodLink RX4 129 yX4_canBeValued, Cond.instanceMethod yX4_canBeValued, Cond.selects RX4 yX4_canBeValued yX4_canBeValued, Cond.code yX4_canBeValued cX4_canBeValued 1 (some .boolean), Cond.methodLink RX4 92 yX4_empty, Cond.instanceMethod yX4_empty, Cond.selects RX4 yX4_empty yX4_empty, Cond.code yX4_empty cX4_empty 1 (some .int), Cond.fieldLink RX4 50 "DropFour" "history" "[I", Cond.fieldLink RX4 13 "DropFour" "count" "I", Cond.methodLink RX4 64 yX4_isOver, Cond.instanceMethod yX4_isOver, Cond.selects RX4 yX4_isOver yX4_isOver, Cond.code yX4_isOver cX4_isOver 1 (some .boolean), Cond.methodLink RX4 173 yX4_winner]
def wsL_best_r2 : List Cond := [Cond.instanceMethod yX4_winner, Cond.selects RX4 yX4_winner yX4_winner, Cond.code yX4_winner cX4_winner 1 (some .int), Cond.fieldLink RX4 7 "DropFour" "stones" "[J", Cond.methodLink RX4 88 yX1_hasLine, Cond.instanceMethod yX1_hasLine, Cond.selects RX1 yX1_hasLine yX1_hasLine, Cond.initialized RX1, Cond.code yX1_hasLine cX1_hasLine 7 (some .boolean), Cond.fieldLink RX1 16 "DropFour$Grid" "steps" "[I", Cond.methodLink RX1 31 yX1_lineStarts, Cond.instanceMethod yX1_lineStarts, Cond.selects RX1 yX1_lineStarts yX1_lineStarts, Cond.code yX1_lineStarts cX1_lineStarts 6 (some .long), Cond.methodLink RX4 68 yX4_isFull, Cond.instanceMethod yX4_isFull, Cond.selects RX4 yX4_isFull yX4_isFull, Cond.code yX4_isFull cX4_isFull 2 (some .boolean), Cond.fieldLink RX4 46 "DropFour" "heights" "[I", Cond.methodLink RX4 150 yX4_scoreAbove, Cond.instanceMethod yX4_scoreAbove, Cond.selects RX4 yX4_scoreAbove yX4_scoreAbove, Cond.code yX4_scoreAbove cX4_scoreAbove 5 (some .int), Cond.fieldLink RX4 35 "DropFour" "search" "LDropFour$Search;"]
def wsL_best_r3 : List Cond := [Cond.methodLink RX4 134 yX4_mine, Cond.instanceMethod yX4_mine, Cond.selects RX4 yX4_mine yX4_mine, Cond.code yX4_mine cX4_mine 1 (some .long), Cond.methodLink RX4 76 yX4_turn, Cond.instanceMethod yX4_turn, Cond.selects RX4 yX4_turn yX4_turn, Cond.code yX4_turn cX4_turn 1 (some .int), Cond.methodLink RX4 80 yX1_square, Cond.instanceMethod yX1_square, Cond.selects RX1 yX1_square yX1_square, Cond.code yX1_square cX1_square 3 (some .long), Cond.fieldLink RX1 13 "DropFour$Grid" "rows" "I", Cond.methodLink RX4 137 yX4_theirs, Cond.instanceMethod yX4_theirs, Cond.selects RX4 yX4_theirs yX4_theirs, Cond.code yX4_theirs cX4_theirs 1 (some .long), Cond.instanceMethod yX3_score, Cond.initialized RX3, Cond.selects RX3 yX3_score yX3_score, Cond.code yX3_score cX3_score 14 (some .int), Cond.fieldLink RX3 16 "DropFour$Search" "grid" "LDropFour$Grid;", Cond.methodLink RX3 33 yX1_nextSquares, Cond.instanceMethod yX1_nextSquares]
def wsL_best_r4 : List Cond := [Cond.selects RX1 yX1_nextSquares yX1_nextSquares, Cond.code yX1_nextSquares cX1_nextSquares 3 (some .long), Cond.fieldLink RX1 24 "DropFour$Grid" "floor" "J", Cond.fieldLink RX1 28 "DropFour$Grid" "squares" "J", Cond.methodLink RX3 37 yX1_threatSquares, Cond.instanceMethod yX1_threatSquares, Cond.selects RX1 yX1_threatSquares yX1_threatSquares, Cond.code yX1_threatSquares cX1_threatSquares 11 (some .long), Cond.constantLong RX1 44 (-1), Cond.methodLink RX1 41 yX1_completing, Cond.static yX1_completing, Cond.code yX1_completing cX1_completing 11 (some .long), Cond.methodLink RX3 41 yX3_safeMoves, Cond.static yX3_safeMoves, Cond.code yX3_safeMoves cX3_safeMoves 8 (some .long), Cond.constantLong RX3 54 (-1), Cond.methodLink RX3 48 yJ13_bitCount_95d88, Cond.static yJ13_bitCount_95d88, Cond.initialized RJ13, Cond.code yJ13_bitCount_95d88 cJ13_bitCount_95d88 2 (some .int), Cond.constantLong RJ13 314 (6148914691236517205), Cond.constantLong RJ13 316 (3689348814741910323), Cond.constantLong RJ13 318 (1085102592571150095), Cond.methodLink RX3 44 yX3_remembered]
def wsL_best_r5 : List Cond := [Cond.instanceMethod yX3_remembered, Cond.selects RX3 yX3_remembered yX3_remembered, Cond.code yX3_remembered cX3_remembered 18 (some .int), Cond.fieldLink RX3 10 "DropFour$Search" "memory" "LDropFour$Memory;", Cond.methodLink RX3 77 Lib.Math.max.name, Cond.static Lib.Math.max.name, Cond.initialized "java/lang/Math", Cond.code Lib.Math.max.name Lib.Math.max.code 2 (some .int), Cond.methodLink RX3 83 Lib.Math.min.name, Cond.static Lib.Math.min.name, Cond.code Lib.Math.min.name Lib.Math.min.code 2 (some .int), Cond.methodLink RX3 60 yX2_holds, Cond.instanceMethod yX2_holds, Cond.selects RX2 yX2_holds yX2_holds, Cond.initialized RX2, Cond.code yX2_holds cX2_holds 3 (some .boolean), Cond.fieldLink RX2 9 "DropFour$Memory" "keys" "[J", Cond.methodLink RX2 20 yX2_slotOf, Cond.static yX2_slotOf, Cond.code yX2_slotOf cX2_slotOf 2 (some .int), Cond.constantLong RX2 24 (-7046029254386353131), Cond.methodLink RX3 64 yX2_leastOf, Cond.instanceMethod yX2_leastOf, Cond.selects RX2 yX2_leastOf yX2_leastOf]
def wsL_best_r6 : List Cond := [Cond.code yX2_leastOf cX2_leastOf 3 (some .int), Cond.fieldLink RX2 13 "DropFour$Memory" "least" "[I", Cond.methodLink RX3 67 yX3_leastAtFirst, Cond.instanceMethod yX3_leastAtFirst, Cond.selects RX3 yX3_leastAtFirst yX3_leastAtFirst, Cond.code yX3_leastAtFirst cX3_leastAtFirst 4 (some .int), Cond.methodLink RX3 96 yX1_hasLine, Cond.methodLink RX3 71 yX2_mostOf, Cond.instanceMethod yX2_mostOf, Cond.selects RX2 yX2_mostOf yX2_mostOf, Cond.code yX2_mostOf cX2_mostOf 3 (some .int), Cond.fieldLink RX2 17 "DropFour$Memory" "most" "[I", Cond.methodLink RX3 74 yX3_mostAtFirst, Cond.instanceMethod yX3_mostAtFirst, Cond.selects RX3 yX3_mostAtFirst yX3_mostAtFirst, Cond.code yX3_mostAtFirst cX3_mostAtFirst 4 (some .int), Cond.methodLink RX3 86 yX3_tried, Cond.instanceMethod yX3_tried, Cond.selects RX3 yX3_tried yX3_tried, Cond.methodLink RX3 89 yX2_keep, Cond.instanceMethod yX2_keep, Cond.selects RX2 yX2_keep yX2_keep, Cond.code yX2_keep cX2_keep 6 none, Cond.code yX3_tried cX3_tried 15 (some .int)]
def wsL_best_r7 : List Cond := [Cond.fieldLink RX3 26 "DropFour$Search" "middleFirst" "[J", Cond.methodLink RX3 99 yX3_score]
def wsL_best : List Cond := .codeWith yL_best cL_best 3 (some .int) [(0, 8, 11, 15)] :: ((wsL_best_r1 ++ (wsL_best_r2 ++ (wsL_best_r3 ++ (wsL_best_r4 ++ (wsL_best_r5 ++ (wsL_best_r6 ++ wsL_best_r7)))))) ++ wsX40 ++ wsX10 ++ wsX30 ++ wsX20 ++ (vx_atS RX4 75 "java/lang/IllegalStateException" ["java/lang/RuntimeException", "java/lang/Exception"]).filter goodWord)
def wsL_beats_r1 : List Cond := [Cond.classLink RL 15 "java/lang/IllegalStateException", Cond.methodLink RL 42 yX4_beats, Cond.instanceMethod yX4_beats, Cond.selects RX4 yX4_beats yX4_beats, Cond.initialized RX4, Cond.code yX4_beats cX4_beats 1 (some .boolean), Cond.classLink RX4 71 "java/lang/IllegalStateException", Cond.initialized "java/lang/IllegalStateException", Cond.fieldLink RX4 42 "DropFour" "following" "LDropFour$Following;", Cond.methodLink RX4 64 yX4_isOver, Cond.instanceMethod yX4_isOver, Cond.selects RX4 yX4_isOver yX4_isOver, Cond.code yX4_isOver cX4_isOver 1 (some .boolean), Cond.methodLink RX4 173 yX4_winner, Cond.instanceMethod yX4_winner, Cond.selects RX4 yX4_winner yX4_winner, Cond.code yX4_winner cX4_winner 1 (some .int), Cond.fieldLink RX4 26 "DropFour" "grid" "LDropFour$Grid;", Cond.fieldLink RX4 7 "DropFour" "stones" "[J", Cond.methodLink RX4 88 yX1_hasLine, Cond.instanceMethod yX1_hasLine, Cond.selects RX1 yX1_hasLine yX1_hasLine, Cond.initialized RX1, Cond.code yX1_hasLine cX1_hasLine 7 (some .boolean)]
def wsL_beats_r2 : List Cond := [Cond.fieldLink RX1 16 "DropFour$Grid" "steps" "[I", Cond.methodLink RX1 31 yX1_lineStarts, Cond.instanceMethod yX1_lineStarts, Cond.selects RX1 yX1_lineStarts yX1_lineStarts, Cond.code yX1_lineStarts cX1_lineStarts 6 (some .long), Cond.methodLink RX4 92 yX4_empty, Cond.instanceMethod yX4_empty, Cond.selects RX4 yX4_empty yX4_empty, Cond.code yX4_empty cX4_empty 1 (some .int), Cond.fieldLink RX4 50 "DropFour" "history" "[I", Cond.fieldLink RX4 13 "DropFour" "count" "I", Cond.methodLink RX4 156 yX4_canFollow, Cond.instanceMethod yX4_canFollow, Cond.selects RX4 yX4_canFollow yX4_canFollow, Cond.code yX4_canFollow cX4_canFollow 2 (some .boolean), Cond.fieldLink RX4 46 "DropFour" "heights" "[I", Cond.methodLink RX4 134 yX4_mine, Cond.instanceMethod yX4_mine, Cond.selects RX4 yX4_mine yX4_mine, Cond.code yX4_mine cX4_mine 1 (some .long), Cond.methodLink RX4 76 yX4_turn, Cond.instanceMethod yX4_turn, Cond.selects RX4 yX4_turn yX4_turn, Cond.code yX4_turn cX4_turn 1 (some .int)]
def wsL_beats_r3 : List Cond := [Cond.methodLink RX4 137 yX4_theirs, Cond.instanceMethod yX4_theirs, Cond.selects RX4 yX4_theirs yX4_theirs, Cond.code yX4_theirs cX4_theirs 1 (some .long), Cond.methodLink RX4 161 yX0_leaderWins, Cond.instanceMethod yX0_leaderWins, Cond.selects RX0 yX0_leaderWins yX0_leaderWins, Cond.initialized RX0, Cond.code yX0_leaderWins cX0_leaderWins 22 (some .boolean), Cond.fieldLink RX0 7 "DropFour$Following" "grid" "LDropFour$Grid;", Cond.constantLong RX0 31 (-1), Cond.methodLink RX0 19 yX1_nextSquares, Cond.instanceMethod yX1_nextSquares, Cond.selects RX1 yX1_nextSquares yX1_nextSquares, Cond.code yX1_nextSquares cX1_nextSquares 3 (some .long), Cond.fieldLink RX1 24 "DropFour$Grid" "floor" "J", Cond.fieldLink RX1 28 "DropFour$Grid" "squares" "J", Cond.methodLink RX0 27 yX1_lineStarts, Cond.methodLink RX0 33 yX0_comesFirst, Cond.instanceMethod yX0_comesFirst, Cond.selects RX0 yX0_comesFirst yX0_comesFirst, Cond.code yX0_comesFirst cX0_comesFirst 16 (some .boolean), Cond.methodLink RX0 41 yX0_reached, Cond.instanceMethod yX0_reached]
def wsL_beats_r4 : List Cond := [Cond.selects RX0 yX0_reached yX0_reached, Cond.code yX0_reached cX0_reached 16 (some .long), Cond.methodLink RX0 45 yX1_hasLine]
def wsL_beats : List Cond := .codeWith yL_beats cL_beats 3 (some .int) [(0, 15, 18, 15)] :: ((wsL_beats_r1 ++ (wsL_beats_r2 ++ (wsL_beats_r3 ++ wsL_beats_r4))) ++ wsX40 ++ wsX10 ++ wsX00 ++ (vx_atS RX4 75 "java/lang/IllegalStateException" ["java/lang/RuntimeException", "java/lang/Exception"]).filter goodWord)
def wsL_law0_r1 : List Cond := [Cond.classLink RL 8 RX4, Cond.instantiable RX4 7, Cond.initialized RX4, Cond.classLink RL 55 RX5, Cond.instantiable RX5 19, Cond.initialized RX5, Cond.arrayClass .long, Cond.methodLink RL 46 yL_cell, Cond.static yL_cell, Cond.initialized RL, Cond.code yL_cell cL_cell 2 (some .int), Cond.methodLink RL 52 yX4_init, Cond.instanceMethod yX4_init, Cond.code yX4_init cX4_init 5 none, Cond.methodLink RX4 1 objectInit, Cond.instanceMethod objectInit, Cond.code objectInit ⟨#[0xb1]⟩ 1 none, Cond.fieldLink RX4 7 "DropFour" "stones" "[J", Cond.fieldLink RX4 13 "DropFour" "count" "I", Cond.classLink RX4 21 RX1, Cond.instantiable RX1 6, Cond.initialized RX1, Cond.fieldLink RX4 26 "DropFour" "grid" "LDropFour$Grid;", Cond.classLink RX4 30 RX3]
def wsL_law0_r2 : List Cond := [Cond.instantiable RX3 3, Cond.initialized RX3, Cond.fieldLink RX4 35 "DropFour" "search" "LDropFour$Search;", Cond.classLink RX4 39 RX0, Cond.instantiable RX0 1, Cond.initialized RX0, Cond.fieldLink RX4 42 "DropFour" "following" "LDropFour$Following;", Cond.arrayClass .int, Cond.fieldLink RX4 46 "DropFour" "heights" "[I", Cond.fieldLink RX4 50 "DropFour" "history" "[I", Cond.methodLink RX4 17 yX4_between, Cond.static yX4_between, Cond.code yX4_between cX4_between 2 (some .int), Cond.methodLink RX4 165 Lib.Math.min.name, Cond.static Lib.Math.min.name, Cond.initialized "java/lang/Math", Cond.code Lib.Math.min.name Lib.Math.min.code 2 (some .int), Cond.methodLink RX4 170 Lib.Math.max.name, Cond.static Lib.Math.max.name, Cond.code Lib.Math.max.name Lib.Math.max.code 2 (some .int), Cond.methodLink RX4 23 yX1_init, Cond.instanceMethod yX1_init, Cond.code yX1_init cX1_init 10 none, Cond.methodLink RX1 1 objectInit]
def wsL_law0_r3 : List Cond := [Cond.fieldLink RX1 7 "DropFour$Grid" "columns" "I", Cond.fieldLink RX1 13 "DropFour$Grid" "rows" "I", Cond.fieldLink RX1 16 "DropFour$Grid" "steps" "[I", Cond.fieldLink RX1 20 "DropFour$Grid" "columnSquares" "[J", Cond.fieldLink RX1 24 "DropFour$Grid" "floor" "J", Cond.fieldLink RX1 28 "DropFour$Grid" "squares" "J", Cond.methodLink RX4 32 yX3_init, Cond.instanceMethod yX3_init, Cond.code yX3_init cX3_init 4 none, Cond.methodLink RX3 1 objectInit, Cond.classLink RX3 7 RX2, Cond.instantiable RX2 3, Cond.initialized RX2, Cond.fieldLink RX3 10 "DropFour$Search" "memory" "LDropFour$Memory;", Cond.fieldLink RX3 16 "DropFour$Search" "grid" "LDropFour$Grid;", Cond.fieldLink RX3 26 "DropFour$Search" "middleFirst" "[J", Cond.instanceMethod yX2_init, Cond.code yX2_init cX2_init 1 none, Cond.methodLink RX2 1 objectInit, Cond.fieldLink RX2 9 "DropFour$Memory" "keys" "[J", Cond.fieldLink RX2 13 "DropFour$Memory" "least" "[I", Cond.fieldLink RX2 17 "DropFour$Memory" "most" "[I", Cond.methodLink RX4 41 yX0_init, Cond.instanceMethod yX0_init]
def wsL_law0_r4 : List Cond := [Cond.code yX0_init cX0_init 2 none, Cond.methodLink RX0 1 objectInit, Cond.fieldLink RX0 7 "DropFour$Following" "grid" "LDropFour$Grid;", Cond.methodLink RL 57 yX5_init, Cond.instanceMethod yX5_init, Cond.code yX5_init cX5_init 5 none, Cond.methodLink RX5 1 objectInit, Cond.fieldLink RX5 7 "DropFourModel" "board" "[I", Cond.fieldLink RX5 13 "DropFourModel" "heights" "[I", Cond.fieldLink RX5 16 "DropFourModel" "drops" "[I", Cond.constant RX5 19 (70000), Cond.fieldLink RX5 20 "DropFourModel" "which" "[I", Cond.fieldLink RX5 23 "DropFourModel" "stones" "[I", Cond.fieldLink RX5 26 "DropFourModel" "values" "[I", Cond.fieldLink RX5 29 "DropFourModel" "layers" "[I", Cond.constant RX5 32 (262144), Cond.fieldLink RX5 33 "DropFourModel" "slots" "[I", Cond.fieldLink RX5 36 "DropFourModel" "weights" "[I", Cond.fieldLink RX5 39 "DropFourModel" "offsets" "[I", Cond.fieldLink RX5 42 "DropFourModel" "seen" "[I", Cond.fieldLink RX5 45 "DropFourModel" "tops" "[I", Cond.arrayClass .boolean, Cond.fieldLink RX5 48 "DropFourModel" "reached" "[Z", Cond.fieldLink RX5 52 "DropFourModel" "w" "I"]
def wsL_law0_r5 : List Cond := [Cond.fieldLink RX5 56 "DropFourModel" "h" "I", Cond.methodLink RL 58 yL_drop, Cond.static yL_drop, Cond.codeWith yL_drop cL_drop 4 (some .int) [(0, 9, 12, 13), (0, 9, 15, 15)], Cond.classLink RL 13 "java/lang/IllegalArgumentException", Cond.classLink RL 15 "java/lang/IllegalStateException", Cond.methodLink RL 7 yX4_drop, Cond.instanceMethod yX4_drop, Cond.selects RX4 yX4_drop yX4_drop, Cond.code yX4_drop cX4_drop 3 (some .int), Cond.classLink RX4 57 "java/lang/IllegalArgumentException", Cond.initialized "java/lang/IllegalArgumentException", Cond.classLink RX4 71 "java/lang/IllegalStateException", Cond.initialized "java/lang/IllegalStateException", Cond.methodLink RX4 53 yX4_isColumn, Cond.instanceMethod yX4_isColumn, Cond.selects RX4 yX4_isColumn yX4_isColumn, Cond.code yX4_isColumn cX4_isColumn 2 (some .boolean), Cond.methodLink RX4 64 yX4_isOver, Cond.instanceMethod yX4_isOver, Cond.selects RX4 yX4_isOver yX4_isOver, Cond.code yX4_isOver cX4_isOver 1 (some .boolean), Cond.methodLink RX4 173 yX4_winner, Cond.instanceMethod yX4_winner]
def wsL_law0_r6 : List Cond := [Cond.selects RX4 yX4_winner yX4_winner, Cond.code yX4_winner cX4_winner 1 (some .int), Cond.methodLink RX4 88 yX1_hasLine, Cond.instanceMethod yX1_hasLine, Cond.selects RX1 yX1_hasLine yX1_hasLine, Cond.code yX1_hasLine cX1_hasLine 7 (some .boolean), Cond.methodLink RX1 31 yX1_lineStarts, Cond.instanceMethod yX1_lineStarts, Cond.selects RX1 yX1_lineStarts yX1_lineStarts, Cond.code yX1_lineStarts cX1_lineStarts 6 (some .long), Cond.methodLink RX4 92 yX4_empty, Cond.instanceMethod yX4_empty, Cond.selects RX4 yX4_empty yX4_empty, Cond.code yX4_empty cX4_empty 1 (some .int), Cond.methodLink RX4 68 yX4_isFull, Cond.instanceMethod yX4_isFull, Cond.selects RX4 yX4_isFull yX4_isFull, Cond.code yX4_isFull cX4_isFull 2 (some .boolean), Cond.methodLink RX4 76 yX4_turn, Cond.instanceMethod yX4_turn, Cond.selects RX4 yX4_turn yX4_turn, Cond.code yX4_turn cX4_turn 1 (some .int), Cond.methodLink RX4 80 yX1_square, Cond.instanceMethod yX1_square]
def wsL_law0_r7 : List Cond := [Cond.selects RX1 yX1_square yX1_square, Cond.code yX1_square cX1_square 3 (some .long), Cond.methodLink RL 61 yX5_drop, Cond.instanceMethod yX5_drop, Cond.selects RX5 yX5_drop yX5_drop, Cond.code yX5_drop cX5_drop 4 (some .int), Cond.fieldLink RX5 70 "DropFourModel" "n" "I", Cond.fieldLink RX5 85 "DropFourModel" "known" "Z", Cond.methodLink RX5 77 yX5_winnerNow, Cond.instanceMethod yX5_winnerNow, Cond.selects RX5 yX5_winnerNow yX5_winnerNow, Cond.code yX5_winnerNow cX5_winnerNow 2 (some .int), Cond.methodLink RX5 73 yX5_wins, Cond.instanceMethod yX5_wins, Cond.selects RX5 yX5_wins yX5_wins, Cond.code yX5_wins cX5_wins 4 (some .boolean), Cond.methodLink RX5 66 yX5_along, Cond.instanceMethod yX5_along, Cond.selects RX5 yX5_along yX5_along, Cond.code yX5_along cX5_along 10 (some .int), Cond.methodLink RX5 62 yX5_isSquare, Cond.instanceMethod yX5_isSquare, Cond.selects RX5 yX5_isSquare yX5_isSquare, Cond.code yX5_isSquare cX5_isSquare 3 (some .boolean)]
def wsL_law0_r8 : List Cond := [Cond.methodLink RX5 81 yX5_refused, Cond.instanceMethod yX5_refused, Cond.selects RX5 yX5_refused yX5_refused, Cond.code yX5_refused cX5_refused 3 (some .boolean), Cond.fieldLink RX5 59 "DropFourModel" "thrown" "I", Cond.methodLink RL 62 yX5_thrown, Cond.instanceMethod yX5_thrown, Cond.selects RX5 yX5_thrown yX5_thrown, Cond.code yX5_thrown cX5_thrown 1 (some .int), Cond.methodLink RL 65 yL_back, Cond.static yL_back, Cond.codeWith yL_back cL_back 3 (some .int) [(0, 8, 11, 15)], Cond.methodLink RL 17 yX4_back, Cond.instanceMethod yX4_back, Cond.selects RX4 yX4_back yX4_back, Cond.code yX4_back cX4_back 2 (some .int), Cond.constantLong RX4 86 (-1), Cond.methodLink RL 68 yX5_back, Cond.instanceMethod yX5_back, Cond.selects RX5 yX5_back yX5_back, Cond.code yX5_back cX5_back 2 (some .int), Cond.methodLink RL 69 yX4_turn, Cond.methodLink RL 72 yX5_turn, Cond.instanceMethod yX5_turn]
def wsL_law0_r9 : List Cond := [Cond.selects RX5 yX5_turn yX5_turn, Cond.code yX5_turn cX5_turn 1 (some .int), Cond.methodLink RL 73 yX4_winner, Cond.methodLink RL 76 yX5_winner, Cond.instanceMethod yX5_winner, Cond.selects RX5 yX5_winner yX5_winner, Cond.code yX5_winner cX5_winner 1 (some .int), Cond.methodLink RL 77 yL_at, Cond.static yL_at, Cond.codeWith yL_at cL_at 5 (some .int) [(0, 10, 13, 25)], Cond.classLink RL 25 "java/lang/IndexOutOfBoundsException", Cond.methodLink RL 21 yX4_at, Cond.instanceMethod yX4_at, Cond.selects RX4 yX4_at yX4_at, Cond.code yX4_at cX4_at 5 (some .int), Cond.classLink RX4 98 "java/lang/IndexOutOfBoundsException", Cond.initialized "java/lang/IndexOutOfBoundsException", Cond.methodLink RL 80 yX5_at, Cond.instanceMethod yX5_at, Cond.selects RX5 yX5_at yX5_at, Cond.code yX5_at cX5_at 3 (some .int), Cond.methodLink RL 81 yX4_empty, Cond.methodLink RL 84 yX5_empty, Cond.instanceMethod yX5_empty]
def wsL_law0_r10 : List Cond := [Cond.selects RX5 yX5_empty yX5_empty, Cond.code yX5_empty cX5_empty 1 (some .int), Cond.methodLink RL 85 yL_open, Cond.static yL_open, Cond.codeWith yL_open cL_open 4 (some .int) [(0, 9, 12, 13)], Cond.methodLink RL 27 yX4_open, Cond.instanceMethod yX4_open, Cond.selects RX4 yX4_open yX4_open, Cond.code yX4_open cX4_open 2 (some .int), Cond.methodLink RX4 103 yX4_isPlayer, Cond.static yX4_isPlayer, Cond.code yX4_isPlayer cX4_isPlayer 1 (some .boolean), Cond.methodLink RX4 112 yX1_countLines, Cond.instanceMethod yX1_countLines, Cond.selects RX1 yX1_countLines yX1_countLines, Cond.code yX1_countLines cX1_countLines 8 (some .int), Cond.methodLink RX1 35 yJ13_bitCount_95d88, Cond.static yJ13_bitCount_95d88, Cond.initialized RJ13, Cond.code yJ13_bitCount_95d88 cJ13_bitCount_95d88 2 (some .int), Cond.constantLong RJ13 314 (6148914691236517205), Cond.constantLong RJ13 316 (3689348814741910323), Cond.constantLong RJ13 318 (1085102592571150095), Cond.methodLink RL 87 yX5_open]
def wsL_law0_r11 : List Cond := [Cond.instanceMethod yX5_open, Cond.selects RX5 yX5_open yX5_open, Cond.code yX5_open cX5_open 6 (some .int), Cond.methodLink RX5 96 yX5_isLine, Cond.instanceMethod yX5_isLine, Cond.selects RX5 yX5_isLine yX5_isLine, Cond.code yX5_isLine cX5_isLine 4 (some .boolean), Cond.methodLink RX5 89 yX5_columnOf, Cond.static yX5_columnOf, Cond.code yX5_columnOf cX5_columnOf 3 (some .int), Cond.methodLink RX5 93 yX5_rowOf, Cond.static yX5_rowOf, Cond.code yX5_rowOf cX5_rowOf 3 (some .int), Cond.methodLink RX5 100 yX5_many, Cond.instanceMethod yX5_many, Cond.selects RX5 yX5_many yX5_many, Cond.code yX5_many cX5_many 7 (some .int), Cond.methodLink RL 88 yL_threats, Cond.static yL_threats, Cond.codeWith yL_threats cL_threats 4 (some .int) [(0, 9, 12, 13)], Cond.methodLink RL 30 yX4_threats, Cond.instanceMethod yX4_threats, Cond.selects RX4 yX4_threats yX4_threats, Cond.code yX4_threats cX4_threats 2 (some .int)]
def wsL_law0_r12 : List Cond := [Cond.methodLink RX4 116 yX4_taken, Cond.instanceMethod yX4_taken, Cond.selects RX4 yX4_taken yX4_taken, Cond.code yX4_taken cX4_taken 1 (some .long), Cond.methodLink RX4 120 yX1_threatSquares, Cond.instanceMethod yX1_threatSquares, Cond.selects RX1 yX1_threatSquares yX1_threatSquares, Cond.code yX1_threatSquares cX1_threatSquares 11 (some .long), Cond.constantLong RX1 44 (-1), Cond.methodLink RX1 41 yX1_completing, Cond.static yX1_completing, Cond.code yX1_completing cX1_completing 11 (some .long), Cond.methodLink RX4 124 yJ13_bitCount_95d88, Cond.methodLink RL 90 yX5_threats, Cond.instanceMethod yX5_threats, Cond.selects RX5 yX5_threats yX5_threats, Cond.code yX5_threats cX5_threats 5 (some .int), Cond.methodLink RX5 104 yX5_isThreat, Cond.instanceMethod yX5_isThreat, Cond.selects RX5 yX5_isThreat yX5_isThreat, Cond.code yX5_isThreat cX5_isThreat 8 (some .boolean), Cond.methodLink RL 91 yL_value, Cond.static yL_value, Cond.codeWith yL_value cL_value 3 (some .int) [(0, 8, 11, 15)]]
def wsL_law0_r13 : List Cond := [Cond.methodLink RL 33 yX4_value, Cond.instanceMethod yX4_value, Cond.selects RX4 yX4_value yX4_value, Cond.code yX4_value cX4_value 1 (some .int), Cond.methodLink RX4 129 yX4_canBeValued, Cond.instanceMethod yX4_canBeValued, Cond.selects RX4 yX4_canBeValued yX4_canBeValued, Cond.code yX4_canBeValued cX4_canBeValued 1 (some .boolean), Cond.methodLink RX4 134 yX4_mine, Cond.instanceMethod yX4_mine, Cond.selects RX4 yX4_mine yX4_mine, Cond.code yX4_mine cX4_mine 1 (some .long), Cond.methodLink RX4 137 yX4_theirs, Cond.instanceMethod yX4_theirs, Cond.selects RX4 yX4_theirs yX4_theirs, Cond.code yX4_theirs cX4_theirs 1 (some .long), Cond.instanceMethod yX3_score, Cond.selects RX3 yX3_score yX3_score, Cond.code yX3_score cX3_score 14 (some .int), Cond.methodLink RX3 33 yX1_nextSquares, Cond.instanceMethod yX1_nextSquares, Cond.selects RX1 yX1_nextSquares yX1_nextSquares, Cond.code yX1_nextSquares cX1_nextSquares 3 (some .long), Cond.methodLink RX3 37 yX1_threatSquares]
def wsL_law0_r14 : List Cond := [Cond.methodLink RX3 41 yX3_safeMoves, Cond.static yX3_safeMoves, Cond.code yX3_safeMoves cX3_safeMoves 8 (some .long), Cond.constantLong RX3 54 (-1), Cond.methodLink RX3 48 yJ13_bitCount_95d88, Cond.methodLink RX3 44 yX3_remembered, Cond.instanceMethod yX3_remembered, Cond.selects RX3 yX3_remembered yX3_remembered, Cond.code yX3_remembered cX3_remembered 18 (some .int), Cond.methodLink RX3 77 Lib.Math.max.name, Cond.methodLink RX3 83 Lib.Math.min.name, Cond.methodLink RX3 60 yX2_holds, Cond.instanceMethod yX2_holds, Cond.selects RX2 yX2_holds yX2_holds, Cond.code yX2_holds cX2_holds 3 (some .boolean), Cond.methodLink RX2 20 yX2_slotOf, Cond.static yX2_slotOf, Cond.code yX2_slotOf cX2_slotOf 2 (some .int), Cond.constantLong RX2 24 (-7046029254386353131), Cond.methodLink RX3 64 yX2_leastOf, Cond.instanceMethod yX2_leastOf, Cond.selects RX2 yX2_leastOf yX2_leastOf, Cond.code yX2_leastOf cX2_leastOf 3 (some .int), Cond.methodLink RX3 67 yX3_leastAtFirst]
def wsL_law0_r15 : List Cond := [Cond.instanceMethod yX3_leastAtFirst, Cond.selects RX3 yX3_leastAtFirst yX3_leastAtFirst, Cond.code yX3_leastAtFirst cX3_leastAtFirst 4 (some .int), Cond.methodLink RX3 96 yX1_hasLine, Cond.methodLink RX3 71 yX2_mostOf, Cond.instanceMethod yX2_mostOf, Cond.selects RX2 yX2_mostOf yX2_mostOf, Cond.code yX2_mostOf cX2_mostOf 3 (some .int), Cond.methodLink RX3 74 yX3_mostAtFirst, Cond.instanceMethod yX3_mostAtFirst, Cond.selects RX3 yX3_mostAtFirst yX3_mostAtFirst, Cond.code yX3_mostAtFirst cX3_mostAtFirst 4 (some .int), Cond.methodLink RX3 86 yX3_tried, Cond.instanceMethod yX3_tried, Cond.selects RX3 yX3_tried yX3_tried, Cond.methodLink RX3 89 yX2_keep, Cond.instanceMethod yX2_keep, Cond.selects RX2 yX2_keep yX2_keep, Cond.code yX2_keep cX2_keep 6 none, Cond.code yX3_tried cX3_tried 15 (some .int), Cond.methodLink RX3 99 yX3_score, Cond.methodLink RX4 144 yX4_inDrops, Cond.instanceMethod yX4_inDrops, Cond.selects RX4 yX4_inDrops yX4_inDrops]
def wsL_law0_r16 : List Cond := [Cond.code yX4_inDrops cX4_inDrops 3 (some .int), Cond.methodLink RX4 176 Lib.Math.abs.name, Cond.static Lib.Math.abs.name, Cond.code Lib.Math.abs.name Lib.Math.abs.code 1 (some .int), Cond.methodLink RL 93 yX5_value, Cond.instanceMethod yX5_value, Cond.selects RX5 yX5_value yX5_value, Cond.code yX5_value cX5_value 1 (some .int), Cond.methodLink RX5 139 yX5_isFar, Cond.instanceMethod yX5_isFar, Cond.selects RX5 yX5_isFar yX5_isFar, Cond.code yX5_isFar cX5_isFar 1 (some .boolean), Cond.methodLink RX5 143 yX5_lookAhead, Cond.instanceMethod yX5_lookAhead, Cond.selects RX5 yX5_lookAhead yX5_lookAhead, Cond.code yX5_lookAhead cX5_lookAhead 10 none, Cond.fieldLink RX5 111 "DropFourModel" "positions" "I", Cond.methodLink RX5 124 yX5_show, Cond.instanceMethod yX5_show, Cond.selects RX5 yX5_show yX5_show, Cond.code yX5_show cX5_show 6 none, Cond.methodLink RX5 114 yX5_dropWins, Cond.instanceMethod yX5_dropWins, Cond.selects RX5 yX5_dropWins yX5_dropWins]
def wsL_law0_r17 : List Cond := [Cond.code yX5_dropWins cX5_dropWins 4 (some .boolean), Cond.methodLink RX5 128 yX5_add, Cond.instanceMethod yX5_add, Cond.selects RX5 yX5_add yX5_add, Cond.code yX5_add cX5_add 7 none, Cond.methodLink RX5 107 yX5_slotOf, Cond.instanceMethod yX5_slotOf, Cond.selects RX5 yX5_slotOf yX5_slotOf, Cond.code yX5_slotOf cX5_slotOf 4 (some .int), Cond.methodLink RX5 132 yX5_valueBehind, Cond.instanceMethod yX5_valueBehind, Cond.selects RX5 yX5_valueBehind yX5_valueBehind, Cond.code yX5_valueBehind cX5_valueBehind 5 (some .int), Cond.methodLink RX5 117 yX5_behind, Cond.instanceMethod yX5_behind, Cond.selects RX5 yX5_behind yX5_behind, Cond.code yX5_behind cX5_behind 6 (some .int), Cond.methodLink RX5 120 yX5_turned, Cond.static yX5_turned, Cond.code yX5_turned cX5_turned 1 (some .int), Cond.methodLink RX5 136 yX5_rank, Cond.static yX5_rank, Cond.code yX5_rank cX5_rank 1 (some .int), Cond.methodLink RL 94 yL_valueOf]
def wsL_law0_r18 : List Cond := [Cond.static yL_valueOf, Cond.codeWith yL_valueOf cL_valueOf 4 (some .int) [(0, 9, 12, 13), (0, 9, 15, 15)], Cond.methodLink RL 36 yX4_valueOf, Cond.instanceMethod yX4_valueOf, Cond.selects RX4 yX4_valueOf yX4_valueOf, Cond.code yX4_valueOf cX4_valueOf 2 (some .int), Cond.methodLink RX4 150 yX4_scoreAbove, Cond.instanceMethod yX4_scoreAbove, Cond.selects RX4 yX4_scoreAbove yX4_scoreAbove, Cond.code yX4_scoreAbove cX4_scoreAbove 5 (some .int), Cond.methodLink RL 96 yX5_valueOf, Cond.instanceMethod yX5_valueOf, Cond.selects RX5 yX5_valueOf yX5_valueOf, Cond.code yX5_valueOf cX5_valueOf 3 (some .int), Cond.methodLink RL 97 yL_best, Cond.static yL_best, Cond.codeWith yL_best cL_best 3 (some .int) [(0, 8, 11, 15)], Cond.methodLink RL 39 yX4_best, Cond.instanceMethod yX4_best, Cond.selects RX4 yX4_best yX4_best, Cond.code yX4_best cX4_best 5 (some .int), Cond.methodLink RL 99 yX5_best, Cond.instanceMethod yX5_best, Cond.selects RX5 yX5_best yX5_best]
def wsL_law0_r19 : List Cond := [Cond.code yX5_best cX5_best 4 (some .int), Cond.methodLink RL 100 yL_beats, Cond.static yL_beats, Cond.codeWith yL_beats cL_beats 3 (some .int) [(0, 15, 18, 15)], Cond.methodLink RL 42 yX4_beats, Cond.instanceMethod yX4_beats, Cond.selects RX4 yX4_beats yX4_beats, Cond.code yX4_beats cX4_beats 1 (some .boolean), Cond.methodLink RX4 156 yX4_canFollow, Cond.instanceMethod yX4_canFollow, Cond.selects RX4 yX4_canFollow yX4_canFollow, Cond.code yX4_canFollow cX4_canFollow 2 (some .boolean), Cond.methodLink RX4 161 yX0_leaderWins, Cond.instanceMethod yX0_leaderWins, Cond.selects RX0 yX0_leaderWins yX0_leaderWins, Cond.code yX0_leaderWins cX0_leaderWins 22 (some .boolean), Cond.constantLong RX0 31 (-1), Cond.methodLink RX0 19 yX1_nextSquares, Cond.methodLink RX0 27 yX1_lineStarts, Cond.methodLink RX0 33 yX0_comesFirst, Cond.instanceMethod yX0_comesFirst, Cond.selects RX0 yX0_comesFirst yX0_comesFirst, Cond.code yX0_comesFirst cX0_comesFirst 16 (some .boolean), Cond.methodLink RX0 41 yX0_reached]
def wsL_law0_r20 : List Cond := [Cond.instanceMethod yX0_reached, Cond.selects RX0 yX0_reached yX0_reached, Cond.code yX0_reached cX0_reached 16 (some .long), Cond.methodLink RX0 45 yX1_hasLine, Cond.methodLink RL 102 yX5_beats, Cond.instanceMethod yX5_beats, Cond.selects RX5 yX5_beats yX5_beats, Cond.code yX5_beats cX5_beats 6 (some .boolean), Cond.methodLink RX5 146 yX5_showPairs, Cond.instanceMethod yX5_showPairs, Cond.selects RX5 yX5_showPairs yX5_showPairs, Cond.code yX5_showPairs cX5_showPairs 7 none]
def wsL_law0 : List Cond := (wsL_law0_r1 ++ (wsL_law0_r2 ++ (wsL_law0_r3 ++ (wsL_law0_r4 ++ (wsL_law0_r5 ++ (wsL_law0_r6 ++ (wsL_law0_r7 ++ (wsL_law0_r8 ++ (wsL_law0_r9 ++ (wsL_law0_r10 ++ (wsL_law0_r11 ++ (wsL_law0_r12 ++ (wsL_law0_r13 ++ (wsL_law0_r14 ++ (wsL_law0_r15 ++ (wsL_law0_r16 ++ (wsL_law0_r17 ++ (wsL_law0_r18 ++ (wsL_law0_r19 ++ wsL_law0_r20))))))))))))))))))) ++ wsX40 ++ wsX50 ++ wsX10 ++ wsX30 ++ wsX00 ++ wsX20 ++ ([] : List Cond)
def wsL_law : List Cond := wsL_law0 ++ (vx_atS RX4 61 "java/lang/IllegalArgumentException" ["java/lang/RuntimeException", "java/lang/Exception"]).filter goodWord ++ (vx_atS RX4 75 "java/lang/IllegalStateException" ["java/lang/RuntimeException", "java/lang/Exception"]).filter goodWord ++ (vx_atS RX4 102 "java/lang/IndexOutOfBoundsException" ["java/lang/RuntimeException", "java/lang/Exception"]).filter goodWord
end
section
set_option maxRecDepth 20000 in
theorem ggX0_leaderWins_X1_nextSquares : GoodIn wsX0_leaderWins wsX1_nextSquares := goodIn_r _ [7, 8, 9, 30, 31, 32, 33, 34, 35] (by decide +kernel) (by decide +kernel)
set_option maxRecDepth 20000 in
theorem gX0_leaderWins_X1_nextSquares : GoodIn wsX0_leaderWins (wsV RX0 19 RX1 yX1_nextSquares wsX1_nextSquares) := goodIn_app (goodIn_of _ (by decide +kernel)) ggX0_leaderWins_X1_nextSquares
set_option maxRecDepth 20000 in
theorem ggX0_leaderWins_X1_lineStarts : GoodIn wsX0_leaderWins wsX1_lineStarts := goodIn_r _ [13] (by decide +kernel) (by decide +kernel)
set_option maxRecDepth 20000 in
theorem gX0_leaderWins_X1_lineStarts : GoodIn wsX0_leaderWins (wsV RX0 27 RX1 yX1_lineStarts wsX1_lineStarts) := goodIn_app (goodIn_of _ (by decide +kernel)) ggX0_leaderWins_X1_lineStarts
set_option maxRecDepth 20000 in
theorem ggX0_leaderWins_X0_comesFirst : GoodIn wsX0_leaderWins wsX0_comesFirst := goodIn_r _ [18, 1, 19, 20, 21, 17, 22, 23, 24, 25, 6, 26, 27, 28, 11, 12, 13, 29, 30, 31, 32, 33, 34, 35] (by decide +kernel) (by decide +kernel)
set_option maxRecDepth 20000 in
theorem gX0_leaderWins_X0_comesFirst : GoodIn wsX0_leaderWins (wsV RX0 33 RX0 yX0_comesFirst wsX0_comesFirst) := goodIn_app (goodIn_of _ (by decide +kernel)) ggX0_leaderWins_X0_comesFirst
set_option maxRecDepth 20000 in
theorem ggX0_comesFirst_X0_reached : GoodIn wsX0_comesFirst wsX0_reached := goodIn_r _ [6, 1, 17, 18, 19, 20, 21, 22, 23] (by decide +kernel) (by decide +kernel)
set_option maxRecDepth 20000 in
theorem gX0_comesFirst_X0_reached : GoodIn wsX0_comesFirst (wsV RX0 41 RX0 yX0_reached wsX0_reached) := goodIn_app (goodIn_of _ (by decide +kernel)) ggX0_comesFirst_X0_reached
set_option maxRecDepth 20000 in
theorem ggX0_comesFirst_X1_hasLine : GoodIn wsX0_comesFirst wsX1_hasLine := goodIn_r _ [11, 12, 13, 14, 15, 10, 16, 18, 19, 20, 21, 22, 23] (by decide +kernel) (by decide +kernel)
set_option maxRecDepth 20000 in
theorem gX0_comesFirst_X1_hasLine : GoodIn wsX0_comesFirst (wsV RX0 45 RX1 yX1_hasLine wsX1_hasLine) := goodIn_app (goodIn_of _ (by decide +kernel)) ggX0_comesFirst_X1_hasLine
set_option maxRecDepth 20000 in
theorem ggX1_hasLine_X1_lineStarts : GoodIn wsX1_hasLine wsX1_lineStarts := goodIn_r _ [6] (by decide +kernel) (by decide +kernel)
set_option maxRecDepth 20000 in
theorem gX1_hasLine_X1_lineStarts : GoodIn wsX1_hasLine (wsV RX1 31 RX1 yX1_lineStarts wsX1_lineStarts) := goodIn_app (goodIn_of _ (by decide +kernel)) ggX1_hasLine_X1_lineStarts
set_option maxRecDepth 20000 in
theorem ggX1_countLines_X1_lineStarts : GoodIn wsX1_countLines wsX1_lineStarts := goodIn_r _ [6] (by decide +kernel) (by decide +kernel)
set_option maxRecDepth 20000 in
theorem gX1_countLines_X1_lineStarts : GoodIn wsX1_countLines (wsV RX1 31 RX1 yX1_lineStarts wsX1_lineStarts) := goodIn_app (goodIn_of _ (by decide +kernel)) ggX1_countLines_X1_lineStarts
set_option maxRecDepth 20000 in
theorem ggX1_countLines_J13_bitCount_95d88 : GoodIn wsX1_countLines wsJ13_bitCount_95d88 := goodIn_r _ [10, 11, 12, 13] (by decide +kernel) (by decide +kernel)
set_option maxRecDepth 20000 in
theorem gX1_countLines_J13_bitCount_95d88 : GoodIn wsX1_countLines (va_wsS RX1 35 yJ13_bitCount_95d88 wsJ13_bitCount_95d88) := goodIn_app (goodIn_of _ (by decide +kernel)) ggX1_countLines_J13_bitCount_95d88
set_option maxRecDepth 20000 in
theorem ggX1_threatSquares_X1_completing : GoodIn wsX1_threatSquares wsX1_completing := goodIn_r _ [7] (by decide +kernel) (by decide +kernel)
set_option maxRecDepth 20000 in
theorem gX1_threatSquares_X1_completing : GoodIn wsX1_threatSquares (va_wsS RX1 41 yX1_completing wsX1_completing) := goodIn_app (goodIn_of _ (by decide +kernel)) ggX1_threatSquares_X1_completing
set_option maxRecDepth 20000 in
theorem ggX2_holds_X2_slotOf : GoodIn wsX2_holds wsX2_slotOf := goodIn_r _ [5, 6] (by decide +kernel) (by decide +kernel)
set_option maxRecDepth 20000 in
theorem gX2_holds_X2_slotOf : GoodIn wsX2_holds (va_wsS RX2 20 yX2_slotOf wsX2_slotOf) := goodIn_app (goodIn_of _ (by decide +kernel)) ggX2_holds_X2_slotOf
set_option maxRecDepth 20000 in
theorem ggX2_leastOf_X2_slotOf : GoodIn wsX2_leastOf wsX2_slotOf := goodIn_r _ [5, 6] (by decide +kernel) (by decide +kernel)
set_option maxRecDepth 20000 in
theorem gX2_leastOf_X2_slotOf : GoodIn wsX2_leastOf (va_wsS RX2 20 yX2_slotOf wsX2_slotOf) := goodIn_app (goodIn_of _ (by decide +kernel)) ggX2_leastOf_X2_slotOf
set_option maxRecDepth 20000 in
theorem ggX2_mostOf_X2_slotOf : GoodIn wsX2_mostOf wsX2_slotOf := goodIn_r _ [5, 6] (by decide +kernel) (by decide +kernel)
set_option maxRecDepth 20000 in
theorem gX2_mostOf_X2_slotOf : GoodIn wsX2_mostOf (va_wsS RX2 20 yX2_slotOf wsX2_slotOf) := goodIn_app (goodIn_of _ (by decide +kernel)) ggX2_mostOf_X2_slotOf
set_option maxRecDepth 20000 in
theorem ggX2_keep_X2_slotOf : GoodIn wsX2_keep wsX2_slotOf := goodIn_r _ [7, 8] (by decide +kernel) (by decide +kernel)
set_option maxRecDepth 20000 in
theorem gX2_keep_X2_slotOf : GoodIn wsX2_keep (va_wsS RX2 20 yX2_slotOf wsX2_slotOf) := goodIn_app (goodIn_of _ (by decide +kernel)) ggX2_keep_X2_slotOf
set_option maxRecDepth 20000 in
theorem ggX3_init_X2_init : GoodIn wsX3_init wsX2_init := goodIn_r _ [12, 13, 2, 3, 9, 14, 15, 16, 17, 18, 19, 20] (by decide +kernel) (by decide +kernel)
set_option maxRecDepth 20000 in
theorem gX3_init_X2_init_n9 : GoodIn wsX3_init (wsX2_init) := ggX3_init_X2_init
set_option maxRecDepth 20000 in
theorem ggX3_score_X1_nextSquares : GoodIn wsX3_score wsX1_nextSquares := goodIn_r _ [6, 7, 8, 93, 94, 95, 96, 97, 98] (by decide +kernel) (by decide +kernel)
set_option maxRecDepth 20000 in
theorem gX3_score_X1_nextSquares : GoodIn wsX3_score (wsV RX3 33 RX1 yX1_nextSquares wsX1_nextSquares) := goodIn_app (goodIn_of _ (by decide +kernel)) ggX3_score_X1_nextSquares
set_option maxRecDepth 20000 in
theorem ggX3_score_X1_threatSquares : GoodIn wsX3_score wsX1_threatSquares := goodIn_r _ [12, 13, 8, 14, 15, 16, 5, 17, 93, 94, 95, 96, 97, 98] (by decide +kernel) (by decide +kernel)
set_option maxRecDepth 20000 in
theorem gX3_score_X1_threatSquares : GoodIn wsX3_score (wsV RX3 37 RX1 yX1_threatSquares wsX1_threatSquares) := goodIn_app (goodIn_of _ (by decide +kernel)) ggX3_score_X1_threatSquares
set_option maxRecDepth 20000 in
theorem ggX3_score_X3_safeMoves : GoodIn wsX3_score wsX3_safeMoves := goodIn_r _ [21, 22, 23, 24, 25, 26, 27, 28, 29] (by decide +kernel) (by decide +kernel)
set_option maxRecDepth 20000 in
theorem gX3_score_X3_safeMoves : GoodIn wsX3_score (va_wsS RX3 41 yX3_safeMoves wsX3_safeMoves) := goodIn_app (goodIn_of _ (by decide +kernel)) ggX3_score_X3_safeMoves
set_option maxRecDepth 20000 in
theorem ggX3_score_X3_remembered : GoodIn wsX3_score wsX3_remembered := goodIn_r _ [33, 1, 34, 35, 36, 37, 38, 39, 40, 41, 42, 43, 44, 45, 46, 47, 48, 49, 50, 51, 52, 53, 54, 55, 56, 57, 58, 59, 20, 60, 22, 61, 62, 63, 5, 64, 13, 65, 66, 67, 68, 69, 70, 71, 72, 73, 74, 75, 76, 77, 78, 79, 80, 81, 82, 83, 84, 0, 2, 3, 4, 6, 7, 8, 9, 10, 11, 12, 14, 15, 16, 17, 18, 19, 21, 23, 24, 25, 26, 27, 28, 29, 30, 31, 32, 85, 86, 87, 88, 89, 90, 91, 92, 93, 94, 95, 96, 97, 98, 99, 100, 101] (by decide +kernel) (by decide +kernel)
set_option maxRecDepth 20000 in
theorem gX3_score_X3_remembered : GoodIn wsX3_score (wsV RX3 44 RX3 yX3_remembered wsX3_remembered) := goodIn_app (goodIn_of _ (by decide +kernel)) ggX3_score_X3_remembered
set_option maxRecDepth 20000 in
theorem ggX3_safeMoves_J13_bitCount_95d88 : GoodIn wsX3_safeMoves wsJ13_bitCount_95d88 := goodIn_r _ [5, 6, 7, 8] (by decide +kernel) (by decide +kernel)
set_option maxRecDepth 20000 in
theorem gX3_safeMoves_J13_bitCount_95d88 : GoodIn wsX3_safeMoves (va_wsS RX3 48 yJ13_bitCount_95d88 wsJ13_bitCount_95d88) := goodIn_app (goodIn_of _ (by decide +kernel)) ggX3_safeMoves_J13_bitCount_95d88
set_option maxRecDepth 20000 in
theorem ggX3_remembered_X2_holds : GoodIn wsX3_remembered wsX2_holds := goodIn_r _ [14, 15, 16, 17, 13, 18, 19, 99, 100, 101] (by decide +kernel) (by decide +kernel)
set_option maxRecDepth 20000 in
theorem gX3_remembered_X2_holds : GoodIn wsX3_remembered (wsV RX3 60 RX2 yX2_holds wsX2_holds) := goodIn_app (goodIn_of _ (by decide +kernel)) ggX3_remembered_X2_holds
set_option maxRecDepth 20000 in
theorem ggX3_remembered_X2_leastOf : GoodIn wsX3_remembered wsX2_leastOf := goodIn_r _ [23, 24, 16, 17, 13, 18, 19, 99, 100, 101] (by decide +kernel) (by decide +kernel)
set_option maxRecDepth 20000 in
theorem gX3_remembered_X2_leastOf : GoodIn wsX3_remembered (wsV RX3 64 RX2 yX2_leastOf wsX2_leastOf) := goodIn_app (goodIn_of _ (by decide +kernel)) ggX3_remembered_X2_leastOf
set_option maxRecDepth 20000 in
theorem ggX3_remembered_X3_leastAtFirst : GoodIn wsX3_remembered wsX3_leastAtFirst := goodIn_r _ [29, 1, 30, 31, 32, 33, 34, 35, 36, 37, 38, 39, 40, 90, 91, 92, 93, 94, 95, 96, 97, 98] (by decide +kernel) (by decide +kernel)
set_option maxRecDepth 20000 in
theorem gX3_remembered_X3_leastAtFirst : GoodIn wsX3_remembered (wsV RX3 67 RX3 yX3_leastAtFirst wsX3_leastAtFirst) := goodIn_app (goodIn_of _ (by decide +kernel)) ggX3_remembered_X3_leastAtFirst
set_option maxRecDepth 20000 in
theorem ggX3_remembered_X2_mostOf : GoodIn wsX3_remembered wsX2_mostOf := goodIn_r _ [44, 45, 16, 17, 13, 18, 19, 99, 100, 101] (by decide +kernel) (by decide +kernel)
set_option maxRecDepth 20000 in
theorem gX3_remembered_X2_mostOf : GoodIn wsX3_remembered (wsV RX3 71 RX2 yX2_mostOf wsX2_mostOf) := goodIn_app (goodIn_of _ (by decide +kernel)) ggX3_remembered_X2_mostOf
set_option maxRecDepth 20000 in
theorem ggX3_remembered_X3_mostAtFirst : GoodIn wsX3_remembered wsX3_mostAtFirst := goodIn_r _ [49, 1, 30, 31, 32, 33, 34, 35, 36, 37, 38, 39, 40, 90, 91, 92, 93, 94, 95, 96, 97, 98] (by decide +kernel) (by decide +kernel)
set_option maxRecDepth 20000 in
theorem gX3_remembered_X3_mostAtFirst : GoodIn wsX3_remembered (wsV RX3 74 RX3 yX3_mostAtFirst wsX3_mostAtFirst) := goodIn_app (goodIn_of _ (by decide +kernel)) ggX3_remembered_X3_mostAtFirst
set_option maxRecDepth 20000 in
theorem ggX3_remembered_X3_tried : GoodIn wsX3_remembered wsX3_tried := goodIn_r _ [85, 1, 86, 3, 4, 5, 6, 7, 8, 9, 87, 88, 89, 28, 0, 2, 10, 11, 12, 13, 14, 15, 16, 17, 18, 19, 20, 21, 22, 23, 24, 25, 26, 27, 29, 30, 31, 32, 33, 34, 35, 36, 37, 38, 39, 40, 41, 42, 43, 44, 45, 46, 47, 48, 49, 50, 51, 52, 53, 54, 55, 56, 57, 58, 59, 60, 61, 62, 63, 64, 65, 66, 67, 68, 69, 70, 71, 72, 73, 74, 75, 76, 77, 78, 79, 80, 81, 82, 83, 84, 90, 91, 92, 93, 94, 95, 96, 97, 98, 99, 100, 101] (by decide +kernel) (by decide +kernel)
set_option maxRecDepth 20000 in
theorem gX3_remembered_X3_tried : GoodIn wsX3_remembered (wsV RX3 86 RX3 yX3_tried wsX3_tried) := goodIn_app (goodIn_of _ (by decide +kernel)) ggX3_remembered_X3_tried
set_option maxRecDepth 20000 in
theorem ggX3_remembered_X2_keep : GoodIn wsX3_remembered wsX2_keep := goodIn_r _ [56, 15, 24, 45, 16, 17, 13, 18, 19, 99, 100, 101] (by decide +kernel) (by decide +kernel)
set_option maxRecDepth 20000 in
theorem gX3_remembered_X2_keep : GoodIn wsX3_remembered (wsV RX3 89 RX2 yX2_keep wsX2_keep) := goodIn_app (goodIn_of _ (by decide +kernel)) ggX3_remembered_X2_keep
set_option maxRecDepth 20000 in
theorem ggX3_leastAtFirst_X1_hasLine : GoodIn wsX3_leastAtFirst wsX1_hasLine := goodIn_r _ [7, 8, 9, 10, 11, 6, 12, 16, 17, 18, 19, 20, 21] (by decide +kernel) (by decide +kernel)
set_option maxRecDepth 20000 in
theorem gX3_leastAtFirst_X1_hasLine : GoodIn wsX3_leastAtFirst (wsV RX3 96 RX1 yX1_hasLine wsX1_hasLine) := goodIn_app (goodIn_of _ (by decide +kernel)) ggX3_leastAtFirst_X1_hasLine
set_option maxRecDepth 20000 in
theorem ggX3_mostAtFirst_X1_hasLine : GoodIn wsX3_mostAtFirst wsX1_hasLine := goodIn_r _ [7, 8, 9, 10, 11, 6, 12, 16, 17, 18, 19, 20, 21] (by decide +kernel) (by decide +kernel)
set_option maxRecDepth 20000 in
theorem gX3_mostAtFirst_X1_hasLine : GoodIn wsX3_mostAtFirst (wsV RX3 96 RX1 yX1_hasLine wsX1_hasLine) := goodIn_app (goodIn_of _ (by decide +kernel)) ggX3_mostAtFirst_X1_hasLine
set_option maxRecDepth 20000 in
theorem ggX3_tried_X3_score : GoodIn wsX3_tried wsX3_score := goodIn_r _ [62, 1, 63, 64, 65, 39, 66, 67, 68, 69, 70, 71, 72, 41, 73, 74, 75, 76, 77, 78, 13, 79, 35, 80, 81, 82, 83, 84, 85, 86, 87, 88, 89, 14, 15, 3, 4, 5, 6, 7, 8, 9, 16, 17, 18, 19, 20, 21, 22, 23, 24, 25, 26, 27, 28, 29, 30, 31, 32, 33, 34, 36, 37, 38, 40, 42, 43, 44, 45, 46, 47, 48, 49, 50, 51, 52, 53, 54, 55, 56, 57, 58, 59, 60, 61, 0, 2, 10, 11, 12, 90, 91, 92, 93, 94, 95, 96, 97, 98, 99, 100, 101] (by decide +kernel) (by decide +kernel)
set_option maxRecDepth 20000 in
theorem gX3_tried_X3_score : GoodIn wsX3_tried (wsV RX3 99 RX3 yX3_score wsX3_score) := goodIn_app (goodIn_of _ (by decide +kernel)) ggX3_tried_X3_score
set_option maxRecDepth 20000 in
theorem ggX4_init_X4_between : GoodIn wsX4_init wsX4_between := goodIn_r _ [25, 26, 27, 28, 29, 30, 31, 32] (by decide +kernel) (by decide +kernel)
set_option maxRecDepth 20000 in
theorem gX4_init_X4_between : GoodIn wsX4_init (va_wsS RX4 17 yX4_between wsX4_between) := goodIn_app (goodIn_of _ (by decide +kernel)) ggX4_init_X4_between
set_option maxRecDepth 20000 in
theorem ggX4_init_X1_init : GoodIn wsX4_init wsX1_init := goodIn_r _ [35, 36, 2, 3, 37, 38, 19, 39, 4, 40, 41, 42, 71, 72, 73, 74, 75, 76] (by decide +kernel) (by decide +kernel)
set_option maxRecDepth 20000 in
theorem gX4_init_X1_init : GoodIn wsX4_init (wsX1_init) := ggX4_init_X1_init
set_option maxRecDepth 20000 in
theorem ggX4_init_X3_init : GoodIn wsX4_init wsX3_init := goodIn_r _ [45, 46, 2, 3, 47, 48, 49, 50, 51, 4, 52, 53, 54, 55, 56, 19, 57, 58, 81, 82, 83, 77, 78, 79, 71, 72, 73, 74, 75, 76] (by decide +kernel) (by decide +kernel)
set_option maxRecDepth 20000 in
theorem gX4_init_X3_init : GoodIn wsX4_init (wsX3_init) := ggX4_init_X3_init
set_option maxRecDepth 20000 in
theorem ggX4_init_X0_init : GoodIn wsX4_init wsX0_init := goodIn_r _ [61, 62, 2, 3, 63, 80] (by decide +kernel) (by decide +kernel)
set_option maxRecDepth 20000 in
theorem gX4_init_X0_init : GoodIn wsX4_init (wsX0_init) := ggX4_init_X0_init
set_option maxRecDepth 20000 in
theorem ggX4_drop_X4_isColumn : GoodIn wsX4_drop wsX4_isColumn := goodIn_r _ [14, 7, 50, 51, 52, 53, 54, 55, 56, 57, 58, 59, 60, 61, 62] (by decide +kernel) (by decide +kernel)
set_option maxRecDepth 20000 in
theorem gX4_drop_X4_isColumn : GoodIn wsX4_drop (wsV RX4 53 RX4 yX4_isColumn wsX4_isColumn) := goodIn_app (goodIn_of _ (by decide +kernel)) ggX4_drop_X4_isColumn
set_option maxRecDepth 20000 in
theorem ggX4_drop_X4_isOver : GoodIn wsX4_drop wsX4_isOver := goodIn_r _ [18, 19, 20, 21, 13, 22, 7, 6, 23, 24, 25, 26, 27, 28, 29, 30, 31, 32, 33, 34, 35, 36, 8, 9, 50, 51, 52, 53, 54, 55, 56, 57, 58, 59, 60, 61, 62] (by decide +kernel) (by decide +kernel)
set_option maxRecDepth 20000 in
theorem gX4_drop_X4_isOver : GoodIn wsX4_drop (wsV RX4 64 RX4 yX4_isOver wsX4_isOver) := goodIn_app (goodIn_of _ (by decide +kernel)) ggX4_drop_X4_isOver
set_option maxRecDepth 20000 in
theorem ggX4_drop_X4_isFull : GoodIn wsX4_drop wsX4_isFull := goodIn_r _ [40, 5, 7, 50, 51, 52, 53, 54, 55, 56, 57, 58, 59, 60, 61, 62] (by decide +kernel) (by decide +kernel)
set_option maxRecDepth 20000 in
theorem gX4_drop_X4_isFull : GoodIn wsX4_drop (wsV RX4 68 RX4 yX4_isFull wsX4_isFull) := goodIn_app (goodIn_of _ (by decide +kernel)) ggX4_drop_X4_isFull
set_option maxRecDepth 20000 in
theorem ggX4_drop_X4_turn : GoodIn wsX4_drop wsX4_turn := goodIn_r _ [44, 9, 50, 51, 52, 53, 54, 55, 56] (by decide +kernel) (by decide +kernel)
set_option maxRecDepth 20000 in
theorem gX4_drop_X4_turn : GoodIn wsX4_drop (wsV RX4 76 RX4 yX4_turn wsX4_turn) := goodIn_app (goodIn_of _ (by decide +kernel)) ggX4_drop_X4_turn
set_option maxRecDepth 20000 in
theorem ggX4_drop_X1_square : GoodIn wsX4_drop wsX1_square := goodIn_r _ [48, 49, 57, 58, 59, 60, 61, 62] (by decide +kernel) (by decide +kernel)
set_option maxRecDepth 20000 in
theorem gX4_drop_X1_square : GoodIn wsX4_drop (wsV RX4 80 RX1 yX1_square wsX1_square) := goodIn_app (goodIn_of _ (by decide +kernel)) ggX4_drop_X1_square
set_option maxRecDepth 20000 in
theorem ggX4_back_X4_turn : GoodIn wsX4_back wsX4_turn := goodIn_r _ [13, 3, 20, 21, 22, 23, 24, 25, 26] (by decide +kernel) (by decide +kernel)
set_option maxRecDepth 20000 in
theorem gX4_back_X4_turn : GoodIn wsX4_back (wsV RX4 76 RX4 yX4_turn wsX4_turn) := goodIn_app (goodIn_of _ (by decide +kernel)) ggX4_back_X4_turn
set_option maxRecDepth 20000 in
theorem ggX4_back_X1_square : GoodIn wsX4_back wsX1_square := goodIn_r _ [18, 19, 27, 28, 29, 30, 31, 32] (by decide +kernel) (by decide +kernel)
set_option maxRecDepth 20000 in
theorem gX4_back_X1_square : GoodIn wsX4_back (wsV RX4 80 RX1 yX1_square wsX1_square) := goodIn_app (goodIn_of _ (by decide +kernel)) ggX4_back_X1_square
set_option maxRecDepth 20000 in
theorem ggX4_winner_X1_hasLine : GoodIn wsX4_winner wsX1_hasLine := goodIn_r _ [7, 8, 9, 10, 11, 6, 12, 27, 28, 29, 30, 31, 32] (by decide +kernel) (by decide +kernel)
set_option maxRecDepth 20000 in
theorem gX4_winner_X1_hasLine : GoodIn wsX4_winner (wsV RX4 88 RX1 yX1_hasLine wsX1_hasLine) := goodIn_app (goodIn_of _ (by decide +kernel)) ggX4_winner_X1_hasLine
set_option maxRecDepth 20000 in
theorem ggX4_winner_X4_empty : GoodIn wsX4_winner wsX4_empty := goodIn_r _ [17, 18, 19, 20, 21, 22, 23, 24, 25, 26] (by decide +kernel) (by decide +kernel)
set_option maxRecDepth 20000 in
theorem gX4_winner_X4_empty : GoodIn wsX4_winner (wsV RX4 92 RX4 yX4_empty wsX4_empty) := goodIn_app (goodIn_of _ (by decide +kernel)) ggX4_winner_X4_empty
set_option maxRecDepth 20000 in
theorem ggX4_at_X4_isColumn : GoodIn wsX4_at wsX4_isColumn := goodIn_r _ [9, 3, 16, 17, 18, 19, 20, 21, 22, 23, 24, 25, 26, 27, 28] (by decide +kernel) (by decide +kernel)
set_option maxRecDepth 20000 in
theorem gX4_at_X4_isColumn : GoodIn wsX4_at (wsV RX4 53 RX4 yX4_isColumn wsX4_isColumn) := goodIn_app (goodIn_of _ (by decide +kernel)) ggX4_at_X4_isColumn
set_option maxRecDepth 20000 in
theorem ggX4_at_X1_square : GoodIn wsX4_at wsX1_square := goodIn_r _ [14, 15, 23, 24, 25, 26, 27, 28] (by decide +kernel) (by decide +kernel)
set_option maxRecDepth 20000 in
theorem gX4_at_X1_square : GoodIn wsX4_at (wsV RX4 80 RX1 yX1_square wsX1_square) := goodIn_app (goodIn_of _ (by decide +kernel)) ggX4_at_X1_square
set_option maxRecDepth 20000 in
theorem ggX4_open_X4_isPlayer : GoodIn wsX4_open wsX4_isPlayer := goodIn_r _ [9] (by decide +kernel) (by decide +kernel)
set_option maxRecDepth 20000 in
theorem gX4_open_X4_isPlayer : GoodIn wsX4_open (va_wsS RX4 103 yX4_isPlayer wsX4_isPlayer) := goodIn_app (goodIn_of _ (by decide +kernel)) ggX4_open_X4_isPlayer
set_option maxRecDepth 20000 in
theorem ggX4_open_X1_countLines : GoodIn wsX4_open wsX1_countLines := goodIn_r _ [14, 15, 16, 17, 18, 13, 19, 20, 21, 22, 23, 24, 25, 26, 34, 35, 36, 37, 38, 39] (by decide +kernel) (by decide +kernel)
set_option maxRecDepth 20000 in
theorem gX4_open_X1_countLines : GoodIn wsX4_open (wsV RX4 112 RX1 yX1_countLines wsX1_countLines) := goodIn_app (goodIn_of _ (by decide +kernel)) ggX4_open_X1_countLines
set_option maxRecDepth 20000 in
theorem ggX4_threats_X4_isPlayer : GoodIn wsX4_threats wsX4_isPlayer := goodIn_r _ [8] (by decide +kernel) (by decide +kernel)
set_option maxRecDepth 20000 in
theorem gX4_threats_X4_isPlayer : GoodIn wsX4_threats (va_wsS RX4 103 yX4_isPlayer wsX4_isPlayer) := goodIn_app (goodIn_of _ (by decide +kernel)) ggX4_threats_X4_isPlayer
set_option maxRecDepth 20000 in
theorem ggX4_threats_X4_taken : GoodIn wsX4_threats wsX4_taken := goodIn_r _ [12, 4, 31, 32, 33, 34, 35, 36, 37] (by decide +kernel) (by decide +kernel)
set_option maxRecDepth 20000 in
theorem gX4_threats_X4_taken : GoodIn wsX4_threats (wsV RX4 116 RX4 yX4_taken wsX4_taken) := goodIn_app (goodIn_of _ (by decide +kernel)) ggX4_threats_X4_taken
set_option maxRecDepth 20000 in
theorem ggX4_threats_X1_threatSquares : GoodIn wsX4_threats wsX1_threatSquares := goodIn_r _ [17, 18, 19, 20, 21, 22, 16, 23, 38, 39, 40, 41, 42, 43] (by decide +kernel) (by decide +kernel)
set_option maxRecDepth 20000 in
theorem gX4_threats_X1_threatSquares : GoodIn wsX4_threats (wsV RX4 120 RX1 yX1_threatSquares wsX1_threatSquares) := goodIn_app (goodIn_of _ (by decide +kernel)) ggX4_threats_X1_threatSquares
set_option maxRecDepth 20000 in
theorem ggX4_threats_J13_bitCount_95d88 : GoodIn wsX4_threats wsJ13_bitCount_95d88 := goodIn_r _ [27, 28, 29, 30] (by decide +kernel) (by decide +kernel)
set_option maxRecDepth 20000 in
theorem gX4_threats_J13_bitCount_95d88 : GoodIn wsX4_threats (va_wsS RX4 124 yJ13_bitCount_95d88 wsJ13_bitCount_95d88) := goodIn_app (goodIn_of _ (by decide +kernel)) ggX4_threats_J13_bitCount_95d88
end
section
set_option maxRecDepth 20000 in
theorem ggX4_value_X4_canBeValued : GoodIn wsX4_value wsX4_canBeValued := goodIn_r _ [8, 9, 10, 11, 7, 12, 13, 14, 15, 16, 17, 18, 19, 20, 21, 22, 23, 24, 25, 26, 27, 28, 29, 30, 31, 32, 33, 34, 135, 136, 137, 138, 139, 140, 141, 142, 143, 144, 145, 146, 147] (by decide +kernel) (by decide +kernel)
set_option maxRecDepth 20000 in
theorem gX4_value_X4_canBeValued : GoodIn wsX4_value (wsV RX4 129 RX4 yX4_canBeValued wsX4_canBeValued) := goodIn_app (goodIn_of _ (by decide +kernel)) ggX4_value_X4_canBeValued
set_option maxRecDepth 20000 in
theorem ggX4_value_X4_mine : GoodIn wsX4_value wsX4_mine := goodIn_r _ [38, 24, 39, 40, 41, 7, 42, 14, 135, 136, 137, 138, 139, 140, 141] (by decide +kernel) (by decide +kernel)
set_option maxRecDepth 20000 in
theorem gX4_value_X4_mine : GoodIn wsX4_value (wsV RX4 134 RX4 yX4_mine wsX4_mine) := goodIn_app (goodIn_of _ (by decide +kernel)) ggX4_value_X4_mine
set_option maxRecDepth 20000 in
theorem ggX4_value_X4_theirs : GoodIn wsX4_value wsX4_theirs := goodIn_r _ [46, 24, 39, 40, 41, 7, 42, 14, 135, 136, 137, 138, 139, 140, 141] (by decide +kernel) (by decide +kernel)
set_option maxRecDepth 20000 in
theorem gX4_value_X4_theirs : GoodIn wsX4_value (wsV RX4 137 RX4 yX4_theirs wsX4_theirs) := goodIn_app (goodIn_of _ (by decide +kernel)) ggX4_value_X4_theirs
set_option maxRecDepth 20000 in
theorem ggX4_value_X4_empty : GoodIn wsX4_value wsX4_empty := goodIn_r _ [12, 13, 14, 135, 136, 137, 138, 139, 140, 141] (by decide +kernel) (by decide +kernel)
set_option maxRecDepth 20000 in
theorem gX4_value_X4_empty : GoodIn wsX4_value (wsV RX4 92 RX4 yX4_empty wsX4_empty) := goodIn_app (goodIn_of _ (by decide +kernel)) ggX4_value_X4_empty
set_option maxRecDepth 20000 in
theorem ggX4_value_X3_score : GoodIn wsX4_value wsX3_score := goodIn_r _ [50, 51, 52, 53, 54, 28, 55, 56, 57, 58, 59, 60, 61, 30, 62, 63, 64, 65, 66, 67, 48, 68, 69, 70, 71, 72, 73, 74, 75, 76, 77, 78, 79, 80, 81, 82, 83, 84, 85, 86, 87, 88, 89, 90, 91, 92, 93, 94, 95, 96, 97, 98, 99, 100, 101, 102, 103, 104, 105, 106, 107, 108, 26, 27, 29, 31, 32, 33, 34, 109, 110, 111, 112, 113, 114, 115, 116, 117, 118, 119, 120, 121, 122, 123, 124, 125, 126, 127, 47, 49, 148, 149, 150, 142, 143, 144, 145, 146, 147, 151, 152, 153] (by decide +kernel) (by decide +kernel)
set_option maxRecDepth 20000 in
theorem gX4_value_X3_score_n140 : GoodIn wsX4_value (wsX3_score) := ggX4_value_X3_score
set_option maxRecDepth 20000 in
theorem ggX4_value_X4_inDrops : GoodIn wsX4_value wsX4_inDrops := goodIn_r _ [131, 132, 133, 84, 134, 9, 10, 11, 7, 12, 13, 14, 135, 136, 137, 138, 139, 140, 141] (by decide +kernel) (by decide +kernel)
set_option maxRecDepth 20000 in
theorem gX4_value_X4_inDrops : GoodIn wsX4_value (wsV RX4 144 RX4 yX4_inDrops wsX4_inDrops) := goodIn_app (goodIn_of _ (by decide +kernel)) ggX4_value_X4_inDrops
set_option maxRecDepth 20000 in
theorem ggX4_valueOf_X4_isColumn : GoodIn wsX4_valueOf wsX4_isColumn := goodIn_r _ [9, 10, 155, 156, 157, 158, 159, 160, 161, 162, 163, 164, 165, 166, 167] (by decide +kernel) (by decide +kernel)
set_option maxRecDepth 20000 in
theorem gX4_valueOf_X4_isColumn : GoodIn wsX4_valueOf (wsV RX4 53 RX4 yX4_isColumn wsX4_isColumn) := goodIn_app (goodIn_of _ (by decide +kernel)) ggX4_valueOf_X4_isColumn
set_option maxRecDepth 20000 in
theorem ggX4_valueOf_X4_canBeValued : GoodIn wsX4_valueOf wsX4_canBeValued := goodIn_r _ [14, 15, 16, 17, 8, 18, 19, 20, 21, 22, 23, 24, 25, 26, 27, 28, 10, 29, 30, 31, 32, 33, 34, 35, 36, 37, 38, 39, 155, 156, 157, 158, 159, 160, 161, 162, 163, 164, 165, 166, 167] (by decide +kernel) (by decide +kernel)
set_option maxRecDepth 20000 in
theorem gX4_valueOf_X4_canBeValued : GoodIn wsX4_valueOf (wsV RX4 129 RX4 yX4_canBeValued wsX4_canBeValued) := goodIn_app (goodIn_of _ (by decide +kernel)) ggX4_valueOf_X4_canBeValued
set_option maxRecDepth 20000 in
theorem ggX4_valueOf_X4_isFull : GoodIn wsX4_valueOf wsX4_isFull := goodIn_r _ [43, 44, 10, 155, 156, 157, 158, 159, 160, 161, 162, 163, 164, 165, 166, 167] (by decide +kernel) (by decide +kernel)
set_option maxRecDepth 20000 in
theorem gX4_valueOf_X4_isFull : GoodIn wsX4_valueOf (wsV RX4 68 RX4 yX4_isFull wsX4_isFull) := goodIn_app (goodIn_of _ (by decide +kernel)) ggX4_valueOf_X4_isFull
set_option maxRecDepth 20000 in
theorem ggX4_valueOf_X4_empty : GoodIn wsX4_valueOf wsX4_empty := goodIn_r _ [18, 19, 20, 155, 156, 157, 158, 159, 160, 161] (by decide +kernel) (by decide +kernel)
set_option maxRecDepth 20000 in
theorem gX4_valueOf_X4_empty : GoodIn wsX4_valueOf (wsV RX4 92 RX4 yX4_empty wsX4_empty) := goodIn_app (goodIn_of _ (by decide +kernel)) ggX4_valueOf_X4_empty
set_option maxRecDepth 20000 in
theorem ggX4_valueOf_X4_scoreAbove : GoodIn wsX4_valueOf wsX4_scoreAbove := goodIn_r _ [48, 10, 44, 49, 50, 51, 52, 8, 53, 29, 54, 55, 56, 57, 20, 58, 59, 60, 33, 61, 62, 30, 31, 32, 34, 35, 36, 37, 38, 39, 15, 16, 17, 18, 19, 63, 64, 65, 66, 67, 68, 69, 70, 71, 72, 73, 74, 75, 76, 77, 78, 79, 80, 81, 82, 83, 84, 85, 86, 87, 88, 89, 90, 91, 92, 93, 94, 95, 96, 97, 98, 99, 100, 101, 102, 103, 104, 105, 106, 107, 108, 109, 110, 111, 112, 113, 114, 115, 116, 117, 118, 119, 120, 121, 122, 123, 124, 125, 126, 127, 128, 129, 130, 131, 132, 133, 134, 135, 136, 137, 138, 139, 140, 141, 142, 143, 144, 145, 146, 147, 155, 156, 157, 158, 159, 160, 161, 162, 163, 164, 165, 166, 167, 168, 169, 170, 171, 172, 173] (by decide +kernel) (by decide +kernel)
set_option maxRecDepth 20000 in
theorem gX4_valueOf_X4_scoreAbove : GoodIn wsX4_valueOf (wsV RX4 150 RX4 yX4_scoreAbove wsX4_scoreAbove) := goodIn_app (goodIn_of _ (by decide +kernel)) ggX4_valueOf_X4_scoreAbove
set_option maxRecDepth 20000 in
theorem ggX4_valueOf_X4_inDrops : GoodIn wsX4_valueOf wsX4_inDrops := goodIn_r _ [151, 152, 153, 104, 154, 15, 16, 17, 8, 18, 19, 20, 155, 156, 157, 158, 159, 160, 161] (by decide +kernel) (by decide +kernel)
set_option maxRecDepth 20000 in
theorem gX4_valueOf_X4_inDrops : GoodIn wsX4_valueOf (wsV RX4 144 RX4 yX4_inDrops wsX4_inDrops) := goodIn_app (goodIn_of _ (by decide +kernel)) ggX4_valueOf_X4_inDrops
set_option maxRecDepth 20000 in
theorem ggX4_best_X4_canBeValued : GoodIn wsX4_best wsX4_canBeValued := goodIn_r _ [8, 9, 10, 11, 7, 12, 13, 14, 15, 16, 17, 18, 19, 20, 21, 22, 3, 23, 24, 25, 26, 27, 28, 29, 30, 31, 32, 33, 142, 143, 144, 145, 146, 147, 148, 149, 150, 151, 152, 153, 154] (by decide +kernel) (by decide +kernel)
set_option maxRecDepth 20000 in
theorem gX4_best_X4_canBeValued : GoodIn wsX4_best (wsV RX4 129 RX4 yX4_canBeValued wsX4_canBeValued) := goodIn_app (goodIn_of _ (by decide +kernel)) ggX4_best_X4_canBeValued
set_option maxRecDepth 20000 in
theorem ggX4_best_X4_empty : GoodIn wsX4_best wsX4_empty := goodIn_r _ [12, 13, 14, 142, 143, 144, 145, 146, 147, 148] (by decide +kernel) (by decide +kernel)
set_option maxRecDepth 20000 in
theorem gX4_best_X4_empty : GoodIn wsX4_best (wsV RX4 92 RX4 yX4_empty wsX4_empty) := goodIn_app (goodIn_of _ (by decide +kernel)) ggX4_best_X4_empty
set_option maxRecDepth 20000 in
theorem ggX4_best_X4_isFull : GoodIn wsX4_best wsX4_isFull := goodIn_r _ [37, 38, 3, 142, 143, 144, 145, 146, 147, 148, 149, 150, 151, 152, 153, 154] (by decide +kernel) (by decide +kernel)
set_option maxRecDepth 20000 in
theorem gX4_best_X4_isFull : GoodIn wsX4_best (wsV RX4 68 RX4 yX4_isFull wsX4_isFull) := goodIn_app (goodIn_of _ (by decide +kernel)) ggX4_best_X4_isFull
set_option maxRecDepth 20000 in
theorem ggX4_best_X4_scoreAbove : GoodIn wsX4_best wsX4_scoreAbove := goodIn_r _ [42, 3, 38, 43, 44, 45, 46, 7, 47, 23, 48, 49, 50, 51, 14, 52, 53, 54, 27, 55, 56, 24, 25, 26, 28, 29, 30, 31, 32, 33, 9, 10, 11, 12, 13, 57, 58, 59, 60, 61, 62, 63, 64, 65, 66, 67, 68, 69, 70, 71, 72, 73, 74, 75, 76, 77, 78, 79, 80, 81, 82, 83, 84, 85, 86, 87, 88, 89, 90, 91, 92, 93, 94, 95, 96, 97, 98, 99, 100, 101, 102, 103, 104, 105, 106, 107, 108, 109, 110, 111, 112, 113, 114, 115, 116, 117, 118, 119, 120, 121, 122, 123, 124, 125, 126, 127, 128, 129, 130, 131, 132, 133, 134, 135, 136, 137, 138, 139, 140, 141, 142, 143, 144, 145, 146, 147, 148, 149, 150, 151, 152, 153, 154, 155, 156, 157, 158, 159, 160] (by decide +kernel) (by decide +kernel)
set_option maxRecDepth 20000 in
theorem gX4_best_X4_scoreAbove : GoodIn wsX4_best (wsV RX4 150 RX4 yX4_scoreAbove wsX4_scoreAbove) := goodIn_app (goodIn_of _ (by decide +kernel)) ggX4_best_X4_scoreAbove
set_option maxRecDepth 20000 in
theorem ggX4_beats_X4_isOver : GoodIn wsX4_beats wsX4_isOver := goodIn_r _ [8, 9, 10, 11, 7, 12, 13, 14, 15, 16, 17, 18, 19, 20, 21, 22, 23, 24, 25, 26, 27, 28, 29, 30, 71, 72, 73, 74, 75, 76, 77, 78, 79, 80, 81, 82, 83] (by decide +kernel) (by decide +kernel)
set_option maxRecDepth 20000 in
theorem gX4_beats_X4_isOver : GoodIn wsX4_beats (wsV RX4 64 RX4 yX4_isOver wsX4_isOver) := goodIn_app (goodIn_of _ (by decide +kernel)) ggX4_beats_X4_isOver
set_option maxRecDepth 20000 in
theorem ggX4_beats_X4_empty : GoodIn wsX4_beats wsX4_empty := goodIn_r _ [28, 29, 30, 71, 72, 73, 74, 75, 76, 77] (by decide +kernel) (by decide +kernel)
set_option maxRecDepth 20000 in
theorem gX4_beats_X4_empty : GoodIn wsX4_beats (wsV RX4 92 RX4 yX4_empty wsX4_empty) := goodIn_app (goodIn_of _ (by decide +kernel)) ggX4_beats_X4_empty
set_option maxRecDepth 20000 in
theorem ggX4_beats_X4_canFollow : GoodIn wsX4_beats wsX4_canFollow := goodIn_r _ [34, 13, 35, 71, 72, 73, 74, 75, 76, 77, 78, 79, 80, 81, 82, 83] (by decide +kernel) (by decide +kernel)
set_option maxRecDepth 20000 in
theorem gX4_beats_X4_canFollow : GoodIn wsX4_beats (wsV RX4 156 RX4 yX4_canFollow wsX4_canFollow) := goodIn_app (goodIn_of _ (by decide +kernel)) ggX4_beats_X4_canFollow
set_option maxRecDepth 20000 in
theorem ggX4_beats_X4_mine : GoodIn wsX4_beats wsX4_mine := goodIn_r _ [39, 14, 40, 41, 42, 7, 43, 30, 71, 72, 73, 74, 75, 76, 77] (by decide +kernel) (by decide +kernel)
set_option maxRecDepth 20000 in
theorem gX4_beats_X4_mine : GoodIn wsX4_beats (wsV RX4 134 RX4 yX4_mine wsX4_mine) := goodIn_app (goodIn_of _ (by decide +kernel)) ggX4_beats_X4_mine
set_option maxRecDepth 20000 in
theorem ggX4_beats_X4_theirs : GoodIn wsX4_beats wsX4_theirs := goodIn_r _ [47, 14, 40, 41, 42, 7, 43, 30, 71, 72, 73, 74, 75, 76, 77] (by decide +kernel) (by decide +kernel)
set_option maxRecDepth 20000 in
theorem gX4_beats_X4_theirs : GoodIn wsX4_beats (wsV RX4 137 RX4 yX4_theirs wsX4_theirs) := goodIn_app (goodIn_of _ (by decide +kernel)) ggX4_beats_X4_theirs
set_option maxRecDepth 20000 in
theorem ggX4_beats_X0_leaderWins : GoodIn wsX4_beats wsX0_leaderWins := goodIn_r _ [52, 53, 54, 55, 56, 57, 18, 58, 59, 60, 61, 22, 23, 24, 62, 63, 64, 51, 65, 66, 67, 68, 69, 70, 16, 17, 19, 20, 21, 84, 78, 79, 80, 81, 82, 83] (by decide +kernel) (by decide +kernel)
set_option maxRecDepth 20000 in
theorem gX4_beats_X0_leaderWins : GoodIn wsX4_beats (wsV RX4 161 RX0 yX0_leaderWins wsX0_leaderWins) := goodIn_app (goodIn_of _ (by decide +kernel)) ggX4_beats_X0_leaderWins
set_option maxRecDepth 20000 in
theorem ggX4_isOver_X4_winner : GoodIn wsX4_isOver wsX4_winner := goodIn_r _ [5, 6, 7, 8, 9, 10, 11, 12, 13, 14, 15, 16, 17, 18, 19, 20, 4, 21, 22, 23, 24, 25, 26, 27, 28, 29, 30, 31, 32, 33, 34, 35, 36] (by decide +kernel) (by decide +kernel)
set_option maxRecDepth 20000 in
theorem gX4_isOver_X4_winner : GoodIn wsX4_isOver (wsV RX4 173 RX4 yX4_winner wsX4_winner) := goodIn_app (goodIn_of _ (by decide +kernel)) ggX4_isOver_X4_winner
set_option maxRecDepth 20000 in
theorem ggX4_canBeValued_X4_empty : GoodIn wsX4_canBeValued wsX4_empty := goodIn_r _ [5, 6, 7, 28, 29, 30, 31, 32, 33, 34] (by decide +kernel) (by decide +kernel)
set_option maxRecDepth 20000 in
theorem gX4_canBeValued_X4_empty : GoodIn wsX4_canBeValued (wsV RX4 92 RX4 yX4_empty wsX4_empty) := goodIn_app (goodIn_of _ (by decide +kernel)) ggX4_canBeValued_X4_empty
set_option maxRecDepth 20000 in
theorem ggX4_canBeValued_X4_isOver : GoodIn wsX4_canBeValued wsX4_isOver := goodIn_r _ [11, 12, 13, 14, 4, 15, 16, 17, 18, 19, 20, 21, 22, 23, 24, 25, 26, 27, 1, 2, 3, 5, 6, 7, 28, 29, 30, 31, 32, 33, 34, 35, 36, 37, 38, 39, 40] (by decide +kernel) (by decide +kernel)
set_option maxRecDepth 20000 in
theorem gX4_canBeValued_X4_isOver : GoodIn wsX4_canBeValued (wsV RX4 64 RX4 yX4_isOver wsX4_isOver) := goodIn_app (goodIn_of _ (by decide +kernel)) ggX4_canBeValued_X4_isOver
set_option maxRecDepth 20000 in
theorem ggX4_mine_X4_turn : GoodIn wsX4_mine wsX4_turn := goodIn_r _ [6, 7, 8, 9, 10, 11, 12, 13, 14] (by decide +kernel) (by decide +kernel)
set_option maxRecDepth 20000 in
theorem gX4_mine_X4_turn : GoodIn wsX4_mine (wsV RX4 76 RX4 yX4_turn wsX4_turn) := goodIn_app (goodIn_of _ (by decide +kernel)) ggX4_mine_X4_turn
set_option maxRecDepth 20000 in
theorem ggX4_theirs_X4_turn : GoodIn wsX4_theirs wsX4_turn := goodIn_r _ [6, 7, 8, 9, 10, 11, 12, 13, 14] (by decide +kernel) (by decide +kernel)
set_option maxRecDepth 20000 in
theorem gX4_theirs_X4_turn : GoodIn wsX4_theirs (wsV RX4 76 RX4 yX4_turn wsX4_turn) := goodIn_app (goodIn_of _ (by decide +kernel)) ggX4_theirs_X4_turn
set_option maxRecDepth 20000 in
theorem ggX4_scoreAbove_X4_mine : GoodIn wsX4_scoreAbove wsX4_mine := goodIn_r _ [8, 9, 10, 11, 12, 7, 13, 14, 120, 121, 122, 123, 124, 125, 126] (by decide +kernel) (by decide +kernel)
set_option maxRecDepth 20000 in
theorem gX4_scoreAbove_X4_mine : GoodIn wsX4_scoreAbove (wsV RX4 134 RX4 yX4_mine wsX4_mine) := goodIn_app (goodIn_of _ (by decide +kernel)) ggX4_scoreAbove_X4_mine
set_option maxRecDepth 20000 in
theorem ggX4_scoreAbove_X1_square : GoodIn wsX4_scoreAbove wsX1_square := goodIn_r _ [19, 20, 127, 128, 129, 130, 131, 132] (by decide +kernel) (by decide +kernel)
set_option maxRecDepth 20000 in
theorem gX4_scoreAbove_X1_square : GoodIn wsX4_scoreAbove (wsV RX4 80 RX1 yX1_square wsX1_square) := goodIn_app (goodIn_of _ (by decide +kernel)) ggX4_scoreAbove_X1_square
set_option maxRecDepth 20000 in
theorem ggX4_scoreAbove_X1_hasLine : GoodIn wsX4_scoreAbove wsX1_hasLine := goodIn_r _ [24, 25, 26, 27, 28, 18, 29, 127, 128, 129, 130, 131, 132] (by decide +kernel) (by decide +kernel)
set_option maxRecDepth 20000 in
theorem gX4_scoreAbove_X1_hasLine : GoodIn wsX4_scoreAbove (wsV RX4 88 RX1 yX1_hasLine wsX1_hasLine) := goodIn_app (goodIn_of _ (by decide +kernel)) ggX4_scoreAbove_X1_hasLine
set_option maxRecDepth 20000 in
theorem ggX4_scoreAbove_X4_empty : GoodIn wsX4_scoreAbove wsX4_empty := goodIn_r _ [33, 34, 14, 120, 121, 122, 123, 124, 125, 126] (by decide +kernel) (by decide +kernel)
set_option maxRecDepth 20000 in
theorem gX4_scoreAbove_X4_empty : GoodIn wsX4_scoreAbove (wsV RX4 92 RX4 yX4_empty wsX4_empty) := goodIn_app (goodIn_of _ (by decide +kernel)) ggX4_scoreAbove_X4_empty
set_option maxRecDepth 20000 in
theorem ggX4_scoreAbove_X4_theirs : GoodIn wsX4_scoreAbove wsX4_theirs := goodIn_r _ [38, 9, 10, 11, 12, 7, 13, 14, 120, 121, 122, 123, 124, 125, 126] (by decide +kernel) (by decide +kernel)
set_option maxRecDepth 20000 in
theorem gX4_scoreAbove_X4_theirs : GoodIn wsX4_scoreAbove (wsV RX4 137 RX4 yX4_theirs wsX4_theirs) := goodIn_app (goodIn_of _ (by decide +kernel)) ggX4_scoreAbove_X4_theirs
set_option maxRecDepth 20000 in
theorem ggX4_scoreAbove_X3_score : GoodIn wsX4_scoreAbove wsX3_score := goodIn_r _ [42, 43, 44, 45, 46, 18, 47, 48, 49, 50, 51, 52, 53, 25, 54, 55, 56, 57, 58, 59, 40, 60, 61, 62, 63, 64, 65, 66, 67, 68, 69, 70, 71, 72, 73, 74, 75, 76, 77, 78, 79, 80, 81, 82, 83, 84, 85, 86, 87, 88, 89, 90, 91, 92, 93, 94, 95, 96, 97, 98, 99, 100, 22, 23, 24, 26, 27, 28, 29, 101, 102, 103, 104, 105, 106, 107, 108, 109, 110, 111, 112, 113, 114, 115, 116, 117, 118, 119, 39, 41, 133, 134, 135, 127, 128, 129, 130, 131, 132, 136, 137, 138] (by decide +kernel) (by decide +kernel)
set_option maxRecDepth 20000 in
theorem gX4_scoreAbove_X3_score_n140 : GoodIn wsX4_scoreAbove (wsX3_score) := ggX4_scoreAbove_X3_score
set_option maxRecDepth 20000 in
theorem ggX4_inDrops_X4_empty : GoodIn wsX4_inDrops wsX4_empty := goodIn_r _ [9, 10, 11, 12, 13, 14, 15, 16, 17, 18] (by decide +kernel) (by decide +kernel)
set_option maxRecDepth 20000 in
theorem gX4_inDrops_X4_empty : GoodIn wsX4_inDrops (wsV RX4 92 RX4 yX4_empty wsX4_empty) := goodIn_app (goodIn_of _ (by decide +kernel)) ggX4_inDrops_X4_empty
set_option maxRecDepth 20000 in
theorem ggX5_along_X5_isSquare : GoodIn wsX5_along wsX5_isSquare := goodIn_r _ [5, 6, 7, 8, 9, 10, 11, 12, 13, 14, 15, 16, 17, 18, 19, 20, 21, 22, 23, 24, 25, 26] (by decide +kernel) (by decide +kernel)
set_option maxRecDepth 20000 in
theorem gX5_along_X5_isSquare : GoodIn wsX5_along (wsV RX5 62 RX5 yX5_isSquare wsX5_isSquare) := goodIn_app (goodIn_of _ (by decide +kernel)) ggX5_along_X5_isSquare
set_option maxRecDepth 20000 in
theorem ggX5_wins_X5_along : GoodIn wsX5_wins wsX5_along := goodIn_r _ [5, 6, 7, 8, 4, 9, 10, 11, 12, 13, 14, 15, 16, 17, 18, 19, 20, 21, 22, 23, 24, 25, 26, 27, 28, 29, 30] (by decide +kernel) (by decide +kernel)
set_option maxRecDepth 20000 in
theorem gX5_wins_X5_along : GoodIn wsX5_wins (wsV RX5 66 RX5 yX5_along wsX5_along) := goodIn_app (goodIn_of _ (by decide +kernel)) ggX5_wins_X5_along
set_option maxRecDepth 20000 in
theorem ggX5_winnerNow_X5_wins : GoodIn wsX5_winnerNow wsX5_wins := goodIn_r _ [11, 12, 13, 14, 10, 15, 16, 17, 18, 19, 5, 6, 20, 21, 22, 23, 24, 25, 26, 27, 28, 29, 30, 31, 32, 33, 34, 35, 36, 37, 38] (by decide +kernel) (by decide +kernel)
set_option maxRecDepth 20000 in
theorem gX5_winnerNow_X5_wins : GoodIn wsX5_winnerNow (wsV RX5 73 RX5 yX5_wins wsX5_wins) := goodIn_app (goodIn_of _ (by decide +kernel)) ggX5_winnerNow_X5_wins
set_option maxRecDepth 20000 in
theorem ggX5_drop_X5_winnerNow : GoodIn wsX5_drop wsX5_winnerNow := goodIn_r _ [12, 5, 6, 4, 2, 1, 3, 13, 14, 15, 11, 16, 17, 18, 19, 20, 21, 22, 23, 24, 30, 31, 32, 33, 34, 35, 36, 37, 38, 39, 40, 41, 42, 43, 44, 45, 46, 47, 48] (by decide +kernel) (by decide +kernel)
set_option maxRecDepth 20000 in
theorem gX5_drop_X5_winnerNow : GoodIn wsX5_drop (wsV RX5 77 RX5 yX5_winnerNow wsX5_winnerNow) := goodIn_app (goodIn_of _ (by decide +kernel)) ggX5_drop_X5_winnerNow
set_option maxRecDepth 20000 in
theorem ggX5_drop_X5_refused : GoodIn wsX5_drop wsX5_refused := goodIn_r _ [28, 29, 30, 31, 32, 33, 34, 35, 36, 37, 38, 39, 40, 41, 42, 43, 44, 45, 46, 47, 48] (by decide +kernel) (by decide +kernel)
set_option maxRecDepth 20000 in
theorem gX5_drop_X5_refused : GoodIn wsX5_drop (wsV RX5 81 RX5 yX5_refused wsX5_refused) := goodIn_app (goodIn_of _ (by decide +kernel)) ggX5_drop_X5_refused
set_option maxRecDepth 20000 in
theorem ggX5_back_X5_refused : GoodIn wsX5_back wsX5_refused := goodIn_r _ [10, 11, 12, 13, 14, 15, 16, 17, 18, 19, 20, 21, 22, 23, 24, 25, 26, 27, 28, 29, 30] (by decide +kernel) (by decide +kernel)
set_option maxRecDepth 20000 in
theorem gX5_back_X5_refused : GoodIn wsX5_back (wsV RX5 81 RX5 yX5_refused wsX5_refused) := goodIn_app (goodIn_of _ (by decide +kernel)) ggX5_back_X5_refused
set_option maxRecDepth 20000 in
theorem ggX5_winner_X5_winnerNow : GoodIn wsX5_winner wsX5_winnerNow := goodIn_r _ [6, 7, 8, 9, 10, 11, 12, 13, 14, 15, 5, 16, 17, 18, 19, 20, 21, 22, 23, 24, 25, 26, 27, 28, 29, 30, 31, 32, 33, 34, 35, 36, 37, 38, 39, 40, 41, 42, 43] (by decide +kernel) (by decide +kernel)
set_option maxRecDepth 20000 in
theorem gX5_winner_X5_winnerNow : GoodIn wsX5_winner (wsV RX5 77 RX5 yX5_winnerNow wsX5_winnerNow) := goodIn_app (goodIn_of _ (by decide +kernel)) ggX5_winner_X5_winnerNow
set_option maxRecDepth 20000 in
theorem ggX5_at_X5_isSquare : GoodIn wsX5_at wsX5_isSquare := goodIn_r _ [6, 7, 8, 14, 15, 16, 17, 18, 19, 20, 21, 22, 23, 24, 25, 26, 27, 28, 29, 30, 31, 32] (by decide +kernel) (by decide +kernel)
set_option maxRecDepth 20000 in
theorem gX5_at_X5_isSquare : GoodIn wsX5_at (wsV RX5 62 RX5 yX5_isSquare wsX5_isSquare) := goodIn_app (goodIn_of _ (by decide +kernel)) ggX5_at_X5_isSquare
set_option maxRecDepth 20000 in
theorem ggX5_at_X5_refused : GoodIn wsX5_at wsX5_refused := goodIn_r _ [12, 13, 14, 15, 16, 17, 18, 19, 20, 21, 22, 23, 24, 25, 26, 27, 28, 29, 30, 31, 32] (by decide +kernel) (by decide +kernel)
set_option maxRecDepth 20000 in
theorem gX5_at_X5_refused : GoodIn wsX5_at (wsV RX5 81 RX5 yX5_refused wsX5_refused) := goodIn_app (goodIn_of _ (by decide +kernel)) ggX5_at_X5_refused
set_option maxRecDepth 20000 in
theorem ggX5_isLine_X5_columnOf : GoodIn wsX5_isLine wsX5_columnOf := goodIn_r _ [4] (by decide +kernel) (by decide +kernel)
set_option maxRecDepth 20000 in
theorem gX5_isLine_X5_columnOf : GoodIn wsX5_isLine (va_wsS RX5 89 yX5_columnOf wsX5_columnOf) := goodIn_app (goodIn_of _ (by decide +kernel)) ggX5_isLine_X5_columnOf
set_option maxRecDepth 20000 in
theorem ggX5_isLine_X5_rowOf : GoodIn wsX5_isLine wsX5_rowOf := goodIn_r _ [7] (by decide +kernel) (by decide +kernel)
set_option maxRecDepth 20000 in
theorem gX5_isLine_X5_rowOf : GoodIn wsX5_isLine (va_wsS RX5 93 yX5_rowOf wsX5_rowOf) := goodIn_app (goodIn_of _ (by decide +kernel)) ggX5_isLine_X5_rowOf
set_option maxRecDepth 20000 in
theorem ggX5_isLine_X5_isSquare : GoodIn wsX5_isLine wsX5_isSquare := goodIn_r _ [11, 12, 13, 14, 15, 16, 17, 18, 19, 20, 21, 22, 23, 24, 25, 26, 27, 28, 29, 30, 31, 32] (by decide +kernel) (by decide +kernel)
set_option maxRecDepth 20000 in
theorem gX5_isLine_X5_isSquare : GoodIn wsX5_isLine (wsV RX5 62 RX5 yX5_isSquare wsX5_isSquare) := goodIn_app (goodIn_of _ (by decide +kernel)) ggX5_isLine_X5_isSquare
set_option maxRecDepth 20000 in
theorem ggX5_many_X5_columnOf : GoodIn wsX5_many wsX5_columnOf := goodIn_r _ [5] (by decide +kernel) (by decide +kernel)
set_option maxRecDepth 20000 in
theorem gX5_many_X5_columnOf : GoodIn wsX5_many (va_wsS RX5 89 yX5_columnOf wsX5_columnOf) := goodIn_app (goodIn_of _ (by decide +kernel)) ggX5_many_X5_columnOf
set_option maxRecDepth 20000 in
theorem ggX5_many_X5_rowOf : GoodIn wsX5_many wsX5_rowOf := goodIn_r _ [8] (by decide +kernel) (by decide +kernel)
set_option maxRecDepth 20000 in
theorem gX5_many_X5_rowOf : GoodIn wsX5_many (va_wsS RX5 93 yX5_rowOf wsX5_rowOf) := goodIn_app (goodIn_of _ (by decide +kernel)) ggX5_many_X5_rowOf
set_option maxRecDepth 20000 in
theorem ggX5_open_X5_refused : GoodIn wsX5_open wsX5_refused := goodIn_r _ [7, 8, 28, 29, 30, 31, 32, 33, 34, 35, 36, 37, 38, 39, 40, 41, 42, 43, 44, 45, 46] (by decide +kernel) (by decide +kernel)
set_option maxRecDepth 20000 in
theorem gX5_open_X5_refused : GoodIn wsX5_open (wsV RX5 81 RX5 yX5_refused wsX5_refused) := goodIn_app (goodIn_of _ (by decide +kernel)) ggX5_open_X5_refused
set_option maxRecDepth 20000 in
theorem ggX5_open_X5_isLine : GoodIn wsX5_open wsX5_isLine := goodIn_r _ [12, 13, 14, 6, 15, 16, 17, 18, 19, 20, 21, 22, 1, 2, 28, 29, 30, 31, 32, 33, 34, 35, 36, 37, 38, 39, 40, 41, 42, 43, 44, 45, 46] (by decide +kernel) (by decide +kernel)
set_option maxRecDepth 20000 in
theorem gX5_open_X5_isLine : GoodIn wsX5_open (wsV RX5 96 RX5 yX5_isLine wsX5_isLine) := goodIn_app (goodIn_of _ (by decide +kernel)) ggX5_open_X5_isLine
end
section
set_option maxRecDepth 20000 in
theorem ggX5_open_X5_many : GoodIn wsX5_open wsX5_many := goodIn_r _ [26, 27, 13, 14, 6, 15, 16, 17, 18, 28, 29, 30, 31, 32, 33, 34, 35, 36, 37, 38, 39, 40, 41, 42, 43, 44, 45, 46] (by decide +kernel) (by decide +kernel)
set_option maxRecDepth 20000 in
theorem gX5_open_X5_many : GoodIn wsX5_open (wsV RX5 100 RX5 yX5_many wsX5_many) := goodIn_app (goodIn_of _ (by decide +kernel)) ggX5_open_X5_many
set_option maxRecDepth 20000 in
theorem ggX5_isThreat_X5_columnOf : GoodIn wsX5_isThreat wsX5_columnOf := goodIn_r _ [4] (by decide +kernel) (by decide +kernel)
set_option maxRecDepth 20000 in
theorem gX5_isThreat_X5_columnOf : GoodIn wsX5_isThreat (va_wsS RX5 89 yX5_columnOf wsX5_columnOf) := goodIn_app (goodIn_of _ (by decide +kernel)) ggX5_isThreat_X5_columnOf
set_option maxRecDepth 20000 in
theorem ggX5_isThreat_X5_rowOf : GoodIn wsX5_isThreat wsX5_rowOf := goodIn_r _ [7] (by decide +kernel) (by decide +kernel)
set_option maxRecDepth 20000 in
theorem gX5_isThreat_X5_rowOf : GoodIn wsX5_isThreat (va_wsS RX5 93 yX5_rowOf wsX5_rowOf) := goodIn_app (goodIn_of _ (by decide +kernel)) ggX5_isThreat_X5_rowOf
set_option maxRecDepth 20000 in
theorem ggX5_isThreat_X5_isSquare : GoodIn wsX5_isThreat wsX5_isSquare := goodIn_r _ [11, 12, 13, 23, 24, 25, 26, 27, 28, 29, 30, 31, 32, 33, 34, 35, 36, 37, 38, 39, 40, 41] (by decide +kernel) (by decide +kernel)
set_option maxRecDepth 20000 in
theorem gX5_isThreat_X5_isSquare : GoodIn wsX5_isThreat (wsV RX5 62 RX5 yX5_isSquare wsX5_isSquare) := goodIn_app (goodIn_of _ (by decide +kernel)) ggX5_isThreat_X5_isSquare
set_option maxRecDepth 20000 in
theorem ggX5_isThreat_X5_isLine : GoodIn wsX5_isThreat wsX5_isLine := goodIn_r _ [17, 1, 2, 3, 4, 5, 6, 7, 8, 9, 10, 11, 12, 13, 23, 24, 25, 26, 27, 28, 29, 30, 31, 32, 33, 34, 35, 36, 37, 38, 39, 40, 41] (by decide +kernel) (by decide +kernel)
set_option maxRecDepth 20000 in
theorem gX5_isThreat_X5_isLine : GoodIn wsX5_isThreat (wsV RX5 96 RX5 yX5_isLine wsX5_isLine) := goodIn_app (goodIn_of _ (by decide +kernel)) ggX5_isThreat_X5_isLine
set_option maxRecDepth 20000 in
theorem ggX5_isThreat_X5_many : GoodIn wsX5_isThreat wsX5_many := goodIn_r _ [21, 22, 1, 2, 3, 4, 5, 6, 7, 23, 24, 25, 26, 27, 28, 29, 30, 31, 32, 33, 34, 35, 36, 37, 38, 39, 40, 41] (by decide +kernel) (by decide +kernel)
set_option maxRecDepth 20000 in
theorem gX5_isThreat_X5_many : GoodIn wsX5_isThreat (wsV RX5 100 RX5 yX5_many wsX5_many) := goodIn_app (goodIn_of _ (by decide +kernel)) ggX5_isThreat_X5_many
set_option maxRecDepth 20000 in
theorem ggX5_threats_X5_refused : GoodIn wsX5_threats wsX5_refused := goodIn_r _ [8, 9, 32, 33, 34, 35, 36, 37, 38, 39, 40, 41, 42, 43, 44, 45, 46, 47, 48, 49, 50] (by decide +kernel) (by decide +kernel)
set_option maxRecDepth 20000 in
theorem gX5_threats_X5_refused : GoodIn wsX5_threats (wsV RX5 81 RX5 yX5_refused wsX5_refused) := goodIn_app (goodIn_of _ (by decide +kernel)) ggX5_threats_X5_refused
set_option maxRecDepth 20000 in
theorem ggX5_threats_X5_isThreat : GoodIn wsX5_threats wsX5_isThreat := goodIn_r _ [13, 14, 15, 7, 16, 17, 18, 19, 20, 21, 22, 23, 1, 2, 24, 25, 26, 27, 28, 29, 30, 31, 3, 32, 33, 34, 35, 36, 37, 38, 39, 40, 41, 42, 43, 44, 45, 46, 47, 48, 49, 50] (by decide +kernel) (by decide +kernel)
set_option maxRecDepth 20000 in
theorem gX5_threats_X5_isThreat : GoodIn wsX5_threats (wsV RX5 104 RX5 yX5_isThreat wsX5_isThreat) := goodIn_app (goodIn_of _ (by decide +kernel)) ggX5_threats_X5_isThreat
set_option maxRecDepth 20000 in
theorem ggX5_behind_X5_slotOf : GoodIn wsX5_behind wsX5_slotOf := goodIn_r _ [12, 13, 7, 5, 1, 14, 15, 16, 17, 18, 19, 20, 21, 22, 23, 24, 25, 26, 27, 28, 29, 30, 31, 32] (by decide +kernel) (by decide +kernel)
set_option maxRecDepth 20000 in
theorem gX5_behind_X5_slotOf : GoodIn wsX5_behind (wsV RX5 107 RX5 yX5_slotOf wsX5_slotOf) := goodIn_app (goodIn_of _ (by decide +kernel)) ggX5_behind_X5_slotOf
set_option maxRecDepth 20000 in
theorem ggX5_add_X5_slotOf : GoodIn wsX5_add wsX5_slotOf := goodIn_r _ [13, 14, 7, 1, 3, 15, 16, 17, 18, 19, 20, 21, 22, 23, 24, 25, 26, 27, 28, 29, 30, 31, 32, 33] (by decide +kernel) (by decide +kernel)
set_option maxRecDepth 20000 in
theorem gX5_add_X5_slotOf : GoodIn wsX5_add (wsV RX5 107 RX5 yX5_slotOf wsX5_slotOf) := goodIn_app (goodIn_of _ (by decide +kernel)) ggX5_add_X5_slotOf
set_option maxRecDepth 20000 in
theorem ggX5_dropWins_X5_wins : GoodIn wsX5_dropWins wsX5_wins := goodIn_r _ [7, 8, 9, 10, 6, 11, 12, 13, 14, 15, 16, 17, 18, 19, 20, 21, 22, 23, 24, 25, 26, 27, 28, 29, 30, 31, 32, 33, 34, 35, 36] (by decide +kernel) (by decide +kernel)
set_option maxRecDepth 20000 in
theorem gX5_dropWins_X5_wins : GoodIn wsX5_dropWins (wsV RX5 73 RX5 yX5_wins wsX5_wins) := goodIn_app (goodIn_of _ (by decide +kernel)) ggX5_dropWins_X5_wins
set_option maxRecDepth 20000 in
theorem ggX5_valueBehind_X5_dropWins : GoodIn wsX5_valueBehind wsX5_dropWins := goodIn_r _ [6, 7, 8, 9, 10, 11, 5, 12, 13, 14, 15, 16, 17, 18, 19, 20, 21, 22, 41, 42, 43, 44, 45, 46, 47, 48, 49, 50, 51, 52, 53, 54, 55, 56, 57, 58, 59] (by decide +kernel) (by decide +kernel)
set_option maxRecDepth 20000 in
theorem gX5_valueBehind_X5_dropWins : GoodIn wsX5_valueBehind (wsV RX5 114 RX5 yX5_dropWins wsX5_dropWins) := goodIn_app (goodIn_of _ (by decide +kernel)) ggX5_valueBehind_X5_dropWins
set_option maxRecDepth 20000 in
theorem ggX5_valueBehind_X5_behind : GoodIn wsX5_valueBehind wsX5_behind := goodIn_r _ [26, 27, 28, 8, 29, 30, 31, 32, 33, 34, 35, 5, 36, 37, 41, 42, 43, 44, 45, 46, 47, 48, 49, 50, 51, 52, 53, 54, 55, 56, 57, 58, 59] (by decide +kernel) (by decide +kernel)
set_option maxRecDepth 20000 in
theorem gX5_valueBehind_X5_behind : GoodIn wsX5_valueBehind (wsV RX5 117 RX5 yX5_behind wsX5_behind) := goodIn_app (goodIn_of _ (by decide +kernel)) ggX5_valueBehind_X5_behind
set_option maxRecDepth 20000 in
theorem ggX5_valueBehind_X5_turned : GoodIn wsX5_valueBehind wsX5_turned := goodIn_r _ [40] (by decide +kernel) (by decide +kernel)
set_option maxRecDepth 20000 in
theorem gX5_valueBehind_X5_turned : GoodIn wsX5_valueBehind (va_wsS RX5 120 yX5_turned wsX5_turned) := goodIn_app (goodIn_of _ (by decide +kernel)) ggX5_valueBehind_X5_turned
set_option maxRecDepth 20000 in
theorem ggX5_lookAhead_X5_show : GoodIn wsX5_lookAhead wsX5_show := goodIn_r _ [20, 10, 21, 22, 2, 3, 7, 11, 6, 14, 61, 62, 63, 64, 65, 66, 67, 68, 69, 70, 71, 72, 73, 74, 75, 76, 77, 78, 79] (by decide +kernel) (by decide +kernel)
set_option maxRecDepth 20000 in
theorem gX5_lookAhead_X5_show : GoodIn wsX5_lookAhead (wsV RX5 124 RX5 yX5_show wsX5_show) := goodIn_app (goodIn_of _ (by decide +kernel)) ggX5_lookAhead_X5_show
set_option maxRecDepth 20000 in
theorem ggX5_lookAhead_X5_dropWins : GoodIn wsX5_lookAhead wsX5_dropWins := goodIn_r _ [26, 21, 14, 27, 28, 29, 19, 30, 31, 32, 33, 34, 35, 36, 37, 38, 2, 3, 61, 62, 63, 64, 65, 66, 67, 68, 69, 70, 71, 72, 73, 74, 75, 76, 77, 78, 79] (by decide +kernel) (by decide +kernel)
set_option maxRecDepth 20000 in
theorem gX5_lookAhead_X5_dropWins : GoodIn wsX5_lookAhead (wsV RX5 114 RX5 yX5_dropWins wsX5_dropWins) := goodIn_app (goodIn_of _ (by decide +kernel)) ggX5_lookAhead_X5_dropWins
set_option maxRecDepth 20000 in
theorem ggX5_lookAhead_X5_add : GoodIn wsX5_lookAhead wsX5_add := goodIn_r _ [42, 10, 5, 11, 6, 14, 7, 9, 12, 43, 44, 45, 19, 46, 8, 61, 62, 63, 64, 65, 66, 67, 68, 69, 70, 71, 72, 73, 74, 75, 76, 77, 78, 79] (by decide +kernel) (by decide +kernel)
set_option maxRecDepth 20000 in
theorem gX5_lookAhead_X5_add : GoodIn wsX5_lookAhead (wsV RX5 128 RX5 yX5_add wsX5_add) := goodIn_app (goodIn_of _ (by decide +kernel)) ggX5_lookAhead_X5_add
set_option maxRecDepth 20000 in
theorem ggX5_lookAhead_X5_valueBehind : GoodIn wsX5_lookAhead wsX5_valueBehind := goodIn_r _ [50, 15, 23, 24, 25, 19, 26, 21, 14, 27, 28, 29, 30, 31, 32, 33, 34, 35, 36, 37, 38, 2, 3, 51, 52, 53, 54, 11, 6, 7, 10, 5, 9, 43, 44, 45, 46, 8, 55, 56, 57, 61, 62, 63, 64, 65, 66, 67, 68, 69, 70, 71, 72, 73, 74, 75, 76, 77, 78, 79] (by decide +kernel) (by decide +kernel)
set_option maxRecDepth 20000 in
theorem gX5_lookAhead_X5_valueBehind : GoodIn wsX5_lookAhead (wsV RX5 132 RX5 yX5_valueBehind wsX5_valueBehind) := goodIn_app (goodIn_of _ (by decide +kernel)) ggX5_lookAhead_X5_valueBehind
set_option maxRecDepth 20000 in
theorem ggX5_lookAhead_X5_rank : GoodIn wsX5_lookAhead wsX5_rank := goodIn_r _ [60] (by decide +kernel) (by decide +kernel)
set_option maxRecDepth 20000 in
theorem gX5_lookAhead_X5_rank : GoodIn wsX5_lookAhead (va_wsS RX5 136 yX5_rank wsX5_rank) := goodIn_app (goodIn_of _ (by decide +kernel)) ggX5_lookAhead_X5_rank
set_option maxRecDepth 20000 in
theorem ggX5_isFar_X5_winnerNow : GoodIn wsX5_isFar wsX5_winnerNow := goodIn_r _ [8, 3, 9, 10, 11, 1, 2, 12, 13, 14, 7, 15, 16, 17, 18, 19, 20, 21, 22, 23, 24, 25, 26, 27, 28, 29, 30, 31, 32, 33, 34, 35, 36, 37, 38, 39, 40, 41, 42] (by decide +kernel) (by decide +kernel)
set_option maxRecDepth 20000 in
theorem gX5_isFar_X5_winnerNow : GoodIn wsX5_isFar (wsV RX5 77 RX5 yX5_winnerNow wsX5_winnerNow) := goodIn_app (goodIn_of _ (by decide +kernel)) ggX5_isFar_X5_winnerNow
set_option maxRecDepth 20000 in
theorem ggX5_value_X5_isFar : GoodIn wsX5_value wsX5_isFar := goodIn_r _ [6, 7, 8, 9, 10, 11, 12, 5, 13, 14, 15, 16, 17, 18, 19, 20, 21, 22, 23, 24, 25, 26, 27, 28, 79, 80, 81, 82, 83, 84, 85, 86, 87, 88, 89, 90, 91, 92, 93, 94, 95, 96, 97] (by decide +kernel) (by decide +kernel)
set_option maxRecDepth 20000 in
theorem gX5_value_X5_isFar : GoodIn wsX5_value (wsV RX5 139 RX5 yX5_isFar wsX5_isFar) := goodIn_app (goodIn_of _ (by decide +kernel)) ggX5_value_X5_isFar
set_option maxRecDepth 20000 in
theorem ggX5_value_X5_refused : GoodIn wsX5_value wsX5_refused := goodIn_r _ [32, 33, 79, 80, 81, 82, 83, 84, 85, 86, 87, 88, 89, 90, 91, 92, 93, 94, 95, 96, 97] (by decide +kernel) (by decide +kernel)
set_option maxRecDepth 20000 in
theorem gX5_value_X5_refused : GoodIn wsX5_value (wsV RX5 81 RX5 yX5_refused wsX5_refused) := goodIn_app (goodIn_of _ (by decide +kernel)) ggX5_value_X5_refused
set_option maxRecDepth 20000 in
theorem ggX5_value_X5_lookAhead : GoodIn wsX5_value wsX5_lookAhead := goodIn_r _ [37, 38, 7, 8, 9, 39, 40, 16, 41, 42, 43, 44, 45, 46, 47, 1, 48, 49, 50, 5, 51, 52, 15, 53, 54, 55, 56, 17, 18, 19, 20, 21, 22, 23, 24, 25, 26, 27, 28, 57, 58, 59, 60, 61, 62, 63, 64, 65, 66, 67, 68, 69, 70, 71, 72, 73, 74, 75, 76, 77, 78, 79, 80, 81, 82, 83, 84, 85, 86, 87, 88, 89, 90, 91, 92, 93, 94, 95, 96, 97] (by decide +kernel) (by decide +kernel)
set_option maxRecDepth 20000 in
theorem gX5_value_X5_lookAhead : GoodIn wsX5_value (wsV RX5 143 RX5 yX5_lookAhead wsX5_lookAhead) := goodIn_app (goodIn_of _ (by decide +kernel)) ggX5_value_X5_lookAhead
set_option maxRecDepth 20000 in
theorem ggX5_valueOf_X5_isFar : GoodIn wsX5_valueOf wsX5_isFar := goodIn_r _ [9, 1, 3, 4, 10, 11, 12, 8, 13, 14, 15, 2, 16, 17, 18, 19, 20, 21, 22, 23, 24, 25, 26, 27, 79, 80, 81, 82, 83, 84, 85, 86, 87, 88, 89, 90, 91, 92, 93, 94, 95, 96, 97] (by decide +kernel) (by decide +kernel)
set_option maxRecDepth 20000 in
theorem gX5_valueOf_X5_isFar : GoodIn wsX5_valueOf (wsV RX5 139 RX5 yX5_isFar wsX5_isFar) := goodIn_app (goodIn_of _ (by decide +kernel)) ggX5_valueOf_X5_isFar
set_option maxRecDepth 20000 in
theorem ggX5_valueOf_X5_refused : GoodIn wsX5_valueOf wsX5_refused := goodIn_r _ [31, 32, 79, 80, 81, 82, 83, 84, 85, 86, 87, 88, 89, 90, 91, 92, 93, 94, 95, 96, 97] (by decide +kernel) (by decide +kernel)
set_option maxRecDepth 20000 in
theorem gX5_valueOf_X5_refused : GoodIn wsX5_valueOf (wsV RX5 81 RX5 yX5_refused wsX5_refused) := goodIn_app (goodIn_of _ (by decide +kernel)) ggX5_valueOf_X5_refused
set_option maxRecDepth 20000 in
theorem ggX5_valueOf_X5_lookAhead : GoodIn wsX5_valueOf wsX5_lookAhead := goodIn_r _ [36, 37, 1, 3, 4, 38, 39, 2, 40, 41, 42, 43, 44, 45, 46, 47, 48, 49, 50, 8, 51, 52, 15, 53, 54, 55, 56, 16, 17, 18, 19, 20, 21, 22, 23, 24, 25, 26, 27, 57, 58, 59, 60, 61, 62, 63, 64, 65, 66, 67, 68, 69, 70, 71, 72, 73, 74, 75, 76, 77, 78, 79, 80, 81, 82, 83, 84, 85, 86, 87, 88, 89, 90, 91, 92, 93, 94, 95, 96, 97] (by decide +kernel) (by decide +kernel)
set_option maxRecDepth 20000 in
theorem gX5_valueOf_X5_lookAhead : GoodIn wsX5_valueOf (wsV RX5 143 RX5 yX5_lookAhead wsX5_lookAhead) := goodIn_app (goodIn_of _ (by decide +kernel)) ggX5_valueOf_X5_lookAhead
set_option maxRecDepth 20000 in
theorem ggX5_valueOf_X5_show : GoodIn wsX5_valueOf wsX5_show := goodIn_r _ [51, 42, 52, 15, 1, 3, 2, 43, 39, 46, 79, 80, 81, 82, 83, 84, 85, 86, 87, 88, 89, 90, 91, 92, 93, 94, 95, 96, 97] (by decide +kernel) (by decide +kernel)
set_option maxRecDepth 20000 in
theorem gX5_valueOf_X5_show : GoodIn wsX5_valueOf (wsV RX5 124 RX5 yX5_show wsX5_show) := goodIn_app (goodIn_of _ (by decide +kernel)) ggX5_valueOf_X5_show
set_option maxRecDepth 20000 in
theorem ggX5_valueOf_X5_valueBehind : GoodIn wsX5_valueOf wsX5_valueBehind := goodIn_r _ [68, 47, 53, 54, 55, 8, 56, 52, 46, 16, 17, 18, 19, 20, 21, 22, 23, 24, 25, 26, 27, 1, 3, 69, 70, 71, 72, 43, 39, 2, 42, 38, 41, 61, 62, 63, 64, 40, 73, 74, 75, 79, 80, 81, 82, 83, 84, 85, 86, 87, 88, 89, 90, 91, 92, 93, 94, 95, 96, 97] (by decide +kernel) (by decide +kernel)
set_option maxRecDepth 20000 in
theorem gX5_valueOf_X5_valueBehind : GoodIn wsX5_valueOf (wsV RX5 132 RX5 yX5_valueBehind wsX5_valueBehind) := goodIn_app (goodIn_of _ (by decide +kernel)) ggX5_valueOf_X5_valueBehind
set_option maxRecDepth 20000 in
theorem ggX5_best_X5_isFar : GoodIn wsX5_best wsX5_isFar := goodIn_r _ [10, 1, 3, 4, 11, 12, 13, 9, 14, 15, 16, 2, 17, 18, 19, 20, 21, 22, 23, 24, 25, 26, 27, 28, 79, 80, 81, 82, 83, 84, 85, 86, 87, 88, 89, 90, 91, 92, 93, 94, 95, 96, 97] (by decide +kernel) (by decide +kernel)
set_option maxRecDepth 20000 in
theorem gX5_best_X5_isFar : GoodIn wsX5_best (wsV RX5 139 RX5 yX5_isFar wsX5_isFar) := goodIn_app (goodIn_of _ (by decide +kernel)) ggX5_best_X5_isFar
set_option maxRecDepth 20000 in
theorem ggX5_best_X5_refused : GoodIn wsX5_best wsX5_refused := goodIn_r _ [32, 33, 79, 80, 81, 82, 83, 84, 85, 86, 87, 88, 89, 90, 91, 92, 93, 94, 95, 96, 97] (by decide +kernel) (by decide +kernel)
set_option maxRecDepth 20000 in
theorem gX5_best_X5_refused : GoodIn wsX5_best (wsV RX5 81 RX5 yX5_refused wsX5_refused) := goodIn_app (goodIn_of _ (by decide +kernel)) ggX5_best_X5_refused
set_option maxRecDepth 20000 in
theorem ggX5_best_X5_lookAhead : GoodIn wsX5_best wsX5_lookAhead := goodIn_r _ [37, 38, 1, 3, 4, 39, 40, 2, 41, 42, 43, 44, 45, 46, 47, 5, 48, 49, 50, 9, 51, 52, 16, 53, 54, 55, 56, 17, 18, 19, 20, 21, 22, 23, 24, 25, 26, 27, 28, 57, 58, 59, 60, 61, 62, 63, 64, 65, 66, 67, 68, 69, 70, 71, 72, 73, 74, 75, 76, 77, 78, 79, 80, 81, 82, 83, 84, 85, 86, 87, 88, 89, 90, 91, 92, 93, 94, 95, 96, 97] (by decide +kernel) (by decide +kernel)
set_option maxRecDepth 20000 in
theorem gX5_best_X5_lookAhead : GoodIn wsX5_best (wsV RX5 143 RX5 yX5_lookAhead wsX5_lookAhead) := goodIn_app (goodIn_of _ (by decide +kernel)) ggX5_best_X5_lookAhead
set_option maxRecDepth 20000 in
theorem ggX5_best_X5_show : GoodIn wsX5_best wsX5_show := goodIn_r _ [51, 43, 52, 16, 1, 3, 2, 44, 40, 47, 79, 80, 81, 82, 83, 84, 85, 86, 87, 88, 89, 90, 91, 92, 93, 94, 95, 96, 97] (by decide +kernel) (by decide +kernel)
set_option maxRecDepth 20000 in
theorem gX5_best_X5_show : GoodIn wsX5_best (wsV RX5 124 RX5 yX5_show wsX5_show) := goodIn_app (goodIn_of _ (by decide +kernel)) ggX5_best_X5_show
set_option maxRecDepth 20000 in
theorem ggX5_best_X5_valueBehind : GoodIn wsX5_best wsX5_valueBehind := goodIn_r _ [68, 5, 53, 54, 55, 9, 56, 52, 47, 17, 18, 19, 20, 21, 22, 23, 24, 25, 26, 27, 28, 1, 3, 69, 70, 71, 72, 44, 40, 2, 43, 39, 42, 61, 62, 63, 64, 41, 73, 74, 75, 79, 80, 81, 82, 83, 84, 85, 86, 87, 88, 89, 90, 91, 92, 93, 94, 95, 96, 97] (by decide +kernel) (by decide +kernel)
set_option maxRecDepth 20000 in
theorem gX5_best_X5_valueBehind : GoodIn wsX5_best (wsV RX5 132 RX5 yX5_valueBehind wsX5_valueBehind) := goodIn_app (goodIn_of _ (by decide +kernel)) ggX5_best_X5_valueBehind
set_option maxRecDepth 20000 in
theorem ggX5_beats_X5_winnerNow : GoodIn wsX5_beats wsX5_winnerNow := goodIn_r _ [14, 4, 15, 16, 3, 1, 2, 17, 18, 19, 13, 20, 21, 22, 23, 24, 25, 26, 27, 28, 42, 43, 44, 45, 46, 47, 48, 49, 50, 51, 52, 53, 54, 55, 56, 57, 58, 59, 60] (by decide +kernel) (by decide +kernel)
set_option maxRecDepth 20000 in
theorem gX5_beats_X5_winnerNow : GoodIn wsX5_beats (wsV RX5 77 RX5 yX5_winnerNow wsX5_winnerNow) := goodIn_app (goodIn_of _ (by decide +kernel)) ggX5_beats_X5_winnerNow
set_option maxRecDepth 20000 in
theorem ggX5_beats_X5_refused : GoodIn wsX5_beats wsX5_refused := goodIn_r _ [32, 33, 42, 43, 44, 45, 46, 47, 48, 49, 50, 51, 52, 53, 54, 55, 56, 57, 58, 59, 60] (by decide +kernel) (by decide +kernel)
set_option maxRecDepth 20000 in
theorem gX5_beats_X5_refused : GoodIn wsX5_beats (wsV RX5 81 RX5 yX5_refused wsX5_refused) := goodIn_app (goodIn_of _ (by decide +kernel)) ggX5_beats_X5_refused
set_option maxRecDepth 20000 in
theorem ggX5_beats_X5_showPairs : GoodIn wsX5_beats wsX5_showPairs := goodIn_r _ [37, 9, 16, 1, 2, 3, 4, 8, 42, 43, 44, 45, 46, 47, 48, 49, 50, 51, 52, 53, 54, 55, 56, 57, 58, 59, 60] (by decide +kernel) (by decide +kernel)
set_option maxRecDepth 20000 in
theorem gX5_beats_X5_showPairs : GoodIn wsX5_beats (wsV RX5 146 RX5 yX5_showPairs wsX5_showPairs) := goodIn_app (goodIn_of _ (by decide +kernel)) ggX5_beats_X5_showPairs
set_option maxRecDepth 20000 in
theorem ggX5_beats_X5_dropWins : GoodIn wsX5_beats wsX5_dropWins := goodIn_r _ [41, 9, 8, 17, 18, 19, 13, 20, 21, 22, 23, 24, 25, 26, 27, 28, 1, 2, 42, 43, 44, 45, 46, 47, 48, 49, 50, 51, 52, 53, 54, 55, 56, 57, 58, 59, 60] (by decide +kernel) (by decide +kernel)
set_option maxRecDepth 20000 in
theorem gX5_beats_X5_dropWins : GoodIn wsX5_beats (wsV RX5 114 RX5 yX5_dropWins wsX5_dropWins) := goodIn_app (goodIn_of _ (by decide +kernel)) ggX5_beats_X5_dropWins
end
section
theorem dJ13_bitCount_95d88_0 : decode cJ13_bitCount_95d88 0 = .ok (.lload_n 0, 1) := by decide +kernel
theorem dJ13_bitCount_95d88_1 : decode cJ13_bitCount_95d88 1 = .ok (.lload_n 0, 1) := by decide +kernel
theorem dJ13_bitCount_95d88_2 : decode cJ13_bitCount_95d88 2 = .ok (.iconst 1, 1) := by decide +kernel
theorem dJ13_bitCount_95d88_3 : decode cJ13_bitCount_95d88 3 = .ok (.lushr, 1) := by decide +kernel
theorem dJ13_bitCount_95d88_4 : decode cJ13_bitCount_95d88 4 = .ok (.ldc2_w 314, 3) := by decide +kernel
theorem dJ13_bitCount_95d88_7 : decode cJ13_bitCount_95d88 7 = .ok (.land, 1) := by decide +kernel
theorem dJ13_bitCount_95d88_8 : decode cJ13_bitCount_95d88 8 = .ok (.lsub, 1) := by decide +kernel
theorem dJ13_bitCount_95d88_9 : decode cJ13_bitCount_95d88 9 = .ok (.lstore_n 0, 1) := by decide +kernel
theorem dJ13_bitCount_95d88_10 : decode cJ13_bitCount_95d88 10 = .ok (.lload_n 0, 1) := by decide +kernel
theorem dJ13_bitCount_95d88_11 : decode cJ13_bitCount_95d88 11 = .ok (.ldc2_w 316, 3) := by decide +kernel
theorem dJ13_bitCount_95d88_14 : decode cJ13_bitCount_95d88 14 = .ok (.land, 1) := by decide +kernel
theorem dJ13_bitCount_95d88_15 : decode cJ13_bitCount_95d88 15 = .ok (.lload_n 0, 1) := by decide +kernel
theorem dJ13_bitCount_95d88_16 : decode cJ13_bitCount_95d88 16 = .ok (.iconst 2, 1) := by decide +kernel
theorem dJ13_bitCount_95d88_17 : decode cJ13_bitCount_95d88 17 = .ok (.lushr, 1) := by decide +kernel
theorem dJ13_bitCount_95d88_18 : decode cJ13_bitCount_95d88 18 = .ok (.ldc2_w 316, 3) := by decide +kernel
theorem dJ13_bitCount_95d88_21 : decode cJ13_bitCount_95d88 21 = .ok (.land, 1) := by decide +kernel
theorem dJ13_bitCount_95d88_22 : decode cJ13_bitCount_95d88 22 = .ok (.ladd, 1) := by decide +kernel
theorem dJ13_bitCount_95d88_23 : decode cJ13_bitCount_95d88 23 = .ok (.lstore_n 0, 1) := by decide +kernel
theorem dJ13_bitCount_95d88_24 : decode cJ13_bitCount_95d88 24 = .ok (.lload_n 0, 1) := by decide +kernel
theorem dJ13_bitCount_95d88_25 : decode cJ13_bitCount_95d88 25 = .ok (.lload_n 0, 1) := by decide +kernel
theorem dJ13_bitCount_95d88_26 : decode cJ13_bitCount_95d88 26 = .ok (.iconst 4, 1) := by decide +kernel
theorem dJ13_bitCount_95d88_27 : decode cJ13_bitCount_95d88 27 = .ok (.lushr, 1) := by decide +kernel
theorem dJ13_bitCount_95d88_28 : decode cJ13_bitCount_95d88 28 = .ok (.ladd, 1) := by decide +kernel
theorem dJ13_bitCount_95d88_29 : decode cJ13_bitCount_95d88 29 = .ok (.ldc2_w 318, 3) := by decide +kernel
theorem dJ13_bitCount_95d88_32 : decode cJ13_bitCount_95d88 32 = .ok (.land, 1) := by decide +kernel
theorem dJ13_bitCount_95d88_33 : decode cJ13_bitCount_95d88 33 = .ok (.lstore_n 0, 1) := by decide +kernel
theorem dJ13_bitCount_95d88_34 : decode cJ13_bitCount_95d88 34 = .ok (.lload_n 0, 1) := by decide +kernel
theorem dJ13_bitCount_95d88_35 : decode cJ13_bitCount_95d88 35 = .ok (.lload_n 0, 1) := by decide +kernel
theorem dJ13_bitCount_95d88_36 : decode cJ13_bitCount_95d88 36 = .ok (.bipush 8, 2) := by decide +kernel
theorem dJ13_bitCount_95d88_38 : decode cJ13_bitCount_95d88 38 = .ok (.lushr, 1) := by decide +kernel
theorem dJ13_bitCount_95d88_39 : decode cJ13_bitCount_95d88 39 = .ok (.ladd, 1) := by decide +kernel
theorem dJ13_bitCount_95d88_40 : decode cJ13_bitCount_95d88 40 = .ok (.lstore_n 0, 1) := by decide +kernel
theorem dJ13_bitCount_95d88_41 : decode cJ13_bitCount_95d88 41 = .ok (.lload_n 0, 1) := by decide +kernel
theorem dJ13_bitCount_95d88_42 : decode cJ13_bitCount_95d88 42 = .ok (.lload_n 0, 1) := by decide +kernel
theorem dJ13_bitCount_95d88_43 : decode cJ13_bitCount_95d88 43 = .ok (.bipush 16, 2) := by decide +kernel
theorem dJ13_bitCount_95d88_45 : decode cJ13_bitCount_95d88 45 = .ok (.lushr, 1) := by decide +kernel
theorem dJ13_bitCount_95d88_46 : decode cJ13_bitCount_95d88 46 = .ok (.ladd, 1) := by decide +kernel
theorem dJ13_bitCount_95d88_47 : decode cJ13_bitCount_95d88 47 = .ok (.lstore_n 0, 1) := by decide +kernel
theorem dJ13_bitCount_95d88_48 : decode cJ13_bitCount_95d88 48 = .ok (.lload_n 0, 1) := by decide +kernel
theorem dJ13_bitCount_95d88_49 : decode cJ13_bitCount_95d88 49 = .ok (.lload_n 0, 1) := by decide +kernel
theorem dJ13_bitCount_95d88_50 : decode cJ13_bitCount_95d88 50 = .ok (.bipush 32, 2) := by decide +kernel
theorem dJ13_bitCount_95d88_52 : decode cJ13_bitCount_95d88 52 = .ok (.lushr, 1) := by decide +kernel
theorem dJ13_bitCount_95d88_53 : decode cJ13_bitCount_95d88 53 = .ok (.ladd, 1) := by decide +kernel
theorem dJ13_bitCount_95d88_54 : decode cJ13_bitCount_95d88 54 = .ok (.lstore_n 0, 1) := by decide +kernel
theorem dJ13_bitCount_95d88_55 : decode cJ13_bitCount_95d88 55 = .ok (.lload_n 0, 1) := by decide +kernel
theorem dJ13_bitCount_95d88_56 : decode cJ13_bitCount_95d88 56 = .ok (.l2i, 1) := by decide +kernel
theorem dJ13_bitCount_95d88_57 : decode cJ13_bitCount_95d88 57 = .ok (.bipush 127, 2) := by decide +kernel
theorem dJ13_bitCount_95d88_59 : decode cJ13_bitCount_95d88 59 = .ok (.iand, 1) := by decide +kernel
theorem dJ13_bitCount_95d88_60 : decode cJ13_bitCount_95d88 60 = .ok (.ireturn, 1) := by decide +kernel
end
section
theorem dJ9_abs_0f7a4_0 : decode cJ9_abs_0f7a4 0 = .ok (.iload_n 0, 1) := by decide +kernel
theorem dJ9_abs_0f7a4_1 : decode cJ9_abs_0f7a4 1 = .ok (.ifCond .ge 8, 3) := by decide +kernel
theorem dJ9_abs_0f7a4_4 : decode cJ9_abs_0f7a4 4 = .ok (.iload_n 0, 1) := by decide +kernel
theorem dJ9_abs_0f7a4_5 : decode cJ9_abs_0f7a4 5 = .ok (.ineg, 1) := by decide +kernel
theorem dJ9_abs_0f7a4_6 : decode cJ9_abs_0f7a4 6 = .ok (.goto 4, 3) := by decide +kernel
theorem dJ9_abs_0f7a4_9 : decode cJ9_abs_0f7a4 9 = .ok (.iload_n 0, 1) := by decide +kernel
theorem dJ9_abs_0f7a4_10 : decode cJ9_abs_0f7a4 10 = .ok (.ireturn, 1) := by decide +kernel
theorem dJ9_max_7cf53_0 : decode cJ9_max_7cf53 0 = .ok (.iload_n 0, 1) := by decide +kernel
theorem dJ9_max_7cf53_1 : decode cJ9_max_7cf53 1 = .ok (.iload_n 1, 1) := by decide +kernel
theorem dJ9_max_7cf53_2 : decode cJ9_max_7cf53 2 = .ok (.if_icmp .lt 7, 3) := by decide +kernel
theorem dJ9_max_7cf53_5 : decode cJ9_max_7cf53 5 = .ok (.iload_n 0, 1) := by decide +kernel
theorem dJ9_max_7cf53_6 : decode cJ9_max_7cf53 6 = .ok (.goto 4, 3) := by decide +kernel
theorem dJ9_max_7cf53_9 : decode cJ9_max_7cf53 9 = .ok (.iload_n 1, 1) := by decide +kernel
theorem dJ9_max_7cf53_10 : decode cJ9_max_7cf53 10 = .ok (.ireturn, 1) := by decide +kernel
theorem dJ9_min_7cf53_0 : decode cJ9_min_7cf53 0 = .ok (.iload_n 0, 1) := by decide +kernel
theorem dJ9_min_7cf53_1 : decode cJ9_min_7cf53 1 = .ok (.iload_n 1, 1) := by decide +kernel
theorem dJ9_min_7cf53_2 : decode cJ9_min_7cf53 2 = .ok (.if_icmp .gt 7, 3) := by decide +kernel
theorem dJ9_min_7cf53_5 : decode cJ9_min_7cf53 5 = .ok (.iload_n 0, 1) := by decide +kernel
theorem dJ9_min_7cf53_6 : decode cJ9_min_7cf53 6 = .ok (.goto 4, 3) := by decide +kernel
theorem dJ9_min_7cf53_9 : decode cJ9_min_7cf53 9 = .ok (.iload_n 1, 1) := by decide +kernel
theorem dJ9_min_7cf53_10 : decode cJ9_min_7cf53 10 = .ok (.ireturn, 1) := by decide +kernel
end
section
theorem dX0_init_0 : decode cX0_init 0 = .ok (.aload_n 0, 1) := by decide +kernel
theorem dX0_init_1 : decode cX0_init 1 = .ok (.invokespecial 1, 3) := by decide +kernel
theorem dX0_init_4 : decode cX0_init 4 = .ok (.aload_n 0, 1) := by decide +kernel
theorem dX0_init_5 : decode cX0_init 5 = .ok (.aload_n 1, 1) := by decide +kernel
theorem dX0_init_6 : decode cX0_init 6 = .ok (.putfield 7, 3) := by decide +kernel
theorem dX0_init_9 : decode cX0_init 9 = .ok (.return_, 1) := by decide +kernel
theorem dX0_leaderWins_0 : decode cX0_leaderWins 0 = .ok (.lload_n 1, 1) := by decide +kernel
theorem dX0_leaderWins_1 : decode cX0_leaderWins 1 = .ok (.lstore 5, 2) := by decide +kernel
theorem dX0_leaderWins_3 : decode cX0_leaderWins 3 = .ok (.lload_n 3, 1) := by decide +kernel
theorem dX0_leaderWins_4 : decode cX0_leaderWins 4 = .ok (.lstore 7, 2) := by decide +kernel
theorem dX0_leaderWins_6 : decode cX0_leaderWins 6 = .ok (.iconst 0, 1) := by decide +kernel
theorem dX0_leaderWins_7 : decode cX0_leaderWins 7 = .ok (.istore 9, 2) := by decide +kernel
theorem dX0_leaderWins_9 : decode cX0_leaderWins 9 = .ok (.iconst 2, 1) := by decide +kernel
theorem dX0_leaderWins_10 : decode cX0_leaderWins 10 = .ok (.iload 9, 2) := by decide +kernel
theorem dX0_leaderWins_12 : decode cX0_leaderWins 12 = .ok (.imul, 1) := by decide +kernel
theorem dX0_leaderWins_13 : decode cX0_leaderWins 13 = .ok (.aload_n 0, 1) := by decide +kernel
theorem dX0_leaderWins_14 : decode cX0_leaderWins 14 = .ok (.getfield 7, 3) := by decide +kernel
theorem dX0_leaderWins_17 : decode cX0_leaderWins 17 = .ok (.getfield 13, 3) := by decide +kernel
theorem dX0_leaderWins_20 : decode cX0_leaderWins 20 = .ok (.if_icmp .ge 43, 3) := by decide +kernel
theorem dX0_leaderWins_23 : decode cX0_leaderWins 23 = .ok (.lload 5, 2) := by decide +kernel
theorem dX0_leaderWins_25 : decode cX0_leaderWins 25 = .ok (.aload_n 0, 1) := by decide +kernel
theorem dX0_leaderWins_26 : decode cX0_leaderWins 26 = .ok (.getfield 7, 3) := by decide +kernel
theorem dX0_leaderWins_29 : decode cX0_leaderWins 29 = .ok (.lload 5, 2) := by decide +kernel
theorem dX0_leaderWins_31 : decode cX0_leaderWins 31 = .ok (.lload 7, 2) := by decide +kernel
theorem dX0_leaderWins_33 : decode cX0_leaderWins 33 = .ok (.lor, 1) := by decide +kernel
theorem dX0_leaderWins_34 : decode cX0_leaderWins 34 = .ok (.invokevirtual 19, 3) := by decide +kernel
theorem dX0_leaderWins_37 : decode cX0_leaderWins 37 = .ok (.lor, 1) := by decide +kernel
theorem dX0_leaderWins_38 : decode cX0_leaderWins 38 = .ok (.lstore 5, 2) := by decide +kernel
theorem dX0_leaderWins_40 : decode cX0_leaderWins 40 = .ok (.lload 7, 2) := by decide +kernel
theorem dX0_leaderWins_42 : decode cX0_leaderWins 42 = .ok (.aload_n 0, 1) := by decide +kernel
theorem dX0_leaderWins_43 : decode cX0_leaderWins 43 = .ok (.getfield 7, 3) := by decide +kernel
theorem dX0_leaderWins_46 : decode cX0_leaderWins 46 = .ok (.lload 5, 2) := by decide +kernel
theorem dX0_leaderWins_48 : decode cX0_leaderWins 48 = .ok (.lload 7, 2) := by decide +kernel
theorem dX0_leaderWins_50 : decode cX0_leaderWins 50 = .ok (.lor, 1) := by decide +kernel
theorem dX0_leaderWins_51 : decode cX0_leaderWins 51 = .ok (.invokevirtual 19, 3) := by decide +kernel
theorem dX0_leaderWins_54 : decode cX0_leaderWins 54 = .ok (.lor, 1) := by decide +kernel
theorem dX0_leaderWins_55 : decode cX0_leaderWins 55 = .ok (.lstore 7, 2) := by decide +kernel
theorem dX0_leaderWins_57 : decode cX0_leaderWins 57 = .ok (.iinc 9 1, 3) := by decide +kernel
theorem dX0_leaderWins_60 : decode cX0_leaderWins 60 = .ok (.goto (-51), 3) := by decide +kernel
theorem dX0_leaderWins_63 : decode cX0_leaderWins 63 = .ok (.aload_n 0, 1) := by decide +kernel
theorem dX0_leaderWins_64 : decode cX0_leaderWins 64 = .ok (.getfield 7, 3) := by decide +kernel
theorem dX0_leaderWins_67 : decode cX0_leaderWins 67 = .ok (.getfield 23, 3) := by decide +kernel
theorem dX0_leaderWins_70 : decode cX0_leaderWins 70 = .ok (.astore 9, 2) := by decide +kernel
theorem dX0_leaderWins_72 : decode cX0_leaderWins 72 = .ok (.aload 9, 2) := by decide +kernel
theorem dX0_leaderWins_74 : decode cX0_leaderWins 74 = .ok (.arraylength, 1) := by decide +kernel
theorem dX0_leaderWins_75 : decode cX0_leaderWins 75 = .ok (.istore 10, 2) := by decide +kernel
theorem dX0_leaderWins_77 : decode cX0_leaderWins 77 = .ok (.iconst 0, 1) := by decide +kernel
theorem dX0_leaderWins_78 : decode cX0_leaderWins 78 = .ok (.istore 11, 2) := by decide +kernel
theorem dX0_leaderWins_80 : decode cX0_leaderWins 80 = .ok (.iload 11, 2) := by decide +kernel
theorem dX0_leaderWins_82 : decode cX0_leaderWins 82 = .ok (.iload 10, 2) := by decide +kernel
theorem dX0_leaderWins_84 : decode cX0_leaderWins 84 = .ok (.if_icmp .ge 103, 3) := by decide +kernel
theorem dX0_leaderWins_87 : decode cX0_leaderWins 87 = .ok (.aload 9, 2) := by decide +kernel
theorem dX0_leaderWins_89 : decode cX0_leaderWins 89 = .ok (.iload 11, 2) := by decide +kernel
theorem dX0_leaderWins_91 : decode cX0_leaderWins 91 = .ok (.iaload, 1) := by decide +kernel
theorem dX0_leaderWins_92 : decode cX0_leaderWins 92 = .ok (.istore 12, 2) := by decide +kernel
theorem dX0_leaderWins_94 : decode cX0_leaderWins 94 = .ok (.aload_n 0, 1) := by decide +kernel
theorem dX0_leaderWins_95 : decode cX0_leaderWins 95 = .ok (.getfield 7, 3) := by decide +kernel
theorem dX0_leaderWins_98 : decode cX0_leaderWins 98 = .ok (.lload 5, 2) := by decide +kernel
theorem dX0_leaderWins_100 : decode cX0_leaderWins 100 = .ok (.iload 12, 2) := by decide +kernel
theorem dX0_leaderWins_102 : decode cX0_leaderWins 102 = .ok (.invokevirtual 27, 3) := by decide +kernel
theorem dX0_leaderWins_105 : decode cX0_leaderWins 105 = .ok (.lstore 13, 2) := by decide +kernel
theorem dX0_leaderWins_107 : decode cX0_leaderWins 107 = .ok (.iconst 0, 1) := by decide +kernel
theorem dX0_leaderWins_108 : decode cX0_leaderWins 108 = .ok (.istore 15, 2) := by decide +kernel
theorem dX0_leaderWins_110 : decode cX0_leaderWins 110 = .ok (.iload 15, 2) := by decide +kernel
theorem dX0_leaderWins_112 : decode cX0_leaderWins 112 = .ok (.bipush 64, 2) := by decide +kernel
theorem dX0_leaderWins_114 : decode cX0_leaderWins 114 = .ok (.if_icmp .ge 67, 3) := by decide +kernel
theorem dX0_leaderWins_117 : decode cX0_leaderWins 117 = .ok (.lload 13, 2) := by decide +kernel
theorem dX0_leaderWins_119 : decode cX0_leaderWins 119 = .ok (.lconst 1, 1) := by decide +kernel
theorem dX0_leaderWins_120 : decode cX0_leaderWins 120 = .ok (.iload 15, 2) := by decide +kernel
theorem dX0_leaderWins_122 : decode cX0_leaderWins 122 = .ok (.lshl, 1) := by decide +kernel
theorem dX0_leaderWins_123 : decode cX0_leaderWins 123 = .ok (.land, 1) := by decide +kernel
theorem dX0_leaderWins_124 : decode cX0_leaderWins 124 = .ok (.lstore 16, 2) := by decide +kernel
theorem dX0_leaderWins_126 : decode cX0_leaderWins 126 = .ok (.lload 16, 2) := by decide +kernel
theorem dX0_leaderWins_128 : decode cX0_leaderWins 128 = .ok (.lload 16, 2) := by decide +kernel
theorem dX0_leaderWins_130 : decode cX0_leaderWins 130 = .ok (.iload 12, 2) := by decide +kernel
theorem dX0_leaderWins_132 : decode cX0_leaderWins 132 = .ok (.lshl, 1) := by decide +kernel
theorem dX0_leaderWins_133 : decode cX0_leaderWins 133 = .ok (.lor, 1) := by decide +kernel
theorem dX0_leaderWins_134 : decode cX0_leaderWins 134 = .ok (.lstore 18, 2) := by decide +kernel
theorem dX0_leaderWins_136 : decode cX0_leaderWins 136 = .ok (.lload 18, 2) := by decide +kernel
theorem dX0_leaderWins_138 : decode cX0_leaderWins 138 = .ok (.lload 18, 2) := by decide +kernel
theorem dX0_leaderWins_140 : decode cX0_leaderWins 140 = .ok (.iconst 2, 1) := by decide +kernel
theorem dX0_leaderWins_141 : decode cX0_leaderWins 141 = .ok (.iload 12, 2) := by decide +kernel
theorem dX0_leaderWins_143 : decode cX0_leaderWins 143 = .ok (.imul, 1) := by decide +kernel
theorem dX0_leaderWins_144 : decode cX0_leaderWins 144 = .ok (.lshl, 1) := by decide +kernel
theorem dX0_leaderWins_145 : decode cX0_leaderWins 145 = .ok (.lor, 1) := by decide +kernel
theorem dX0_leaderWins_146 : decode cX0_leaderWins 146 = .ok (.lload_n 1, 1) := by decide +kernel
theorem dX0_leaderWins_147 : decode cX0_leaderWins 147 = .ok (.ldc2_w 31, 3) := by decide +kernel
theorem dX0_leaderWins_150 : decode cX0_leaderWins 150 = .ok (.lxor, 1) := by decide +kernel
theorem dX0_leaderWins_151 : decode cX0_leaderWins 151 = .ok (.land, 1) := by decide +kernel
theorem dX0_leaderWins_152 : decode cX0_leaderWins 152 = .ok (.lstore 20, 2) := by decide +kernel
theorem dX0_leaderWins_154 : decode cX0_leaderWins 154 = .ok (.lload 20, 2) := by decide +kernel
theorem dX0_leaderWins_156 : decode cX0_leaderWins 156 = .ok (.lconst 0, 1) := by decide +kernel
theorem dX0_leaderWins_157 : decode cX0_leaderWins 157 = .ok (.lcmp, 1) := by decide +kernel
theorem dX0_leaderWins_158 : decode cX0_leaderWins 158 = .ok (.ifCond .eq 17, 3) := by decide +kernel
theorem dX0_leaderWins_161 : decode cX0_leaderWins 161 = .ok (.aload_n 0, 1) := by decide +kernel
theorem dX0_leaderWins_162 : decode cX0_leaderWins 162 = .ok (.lload 20, 2) := by decide +kernel
theorem dX0_leaderWins_164 : decode cX0_leaderWins 164 = .ok (.lload_n 3, 1) := by decide +kernel
theorem dX0_leaderWins_165 : decode cX0_leaderWins 165 = .ok (.lload 7, 2) := by decide +kernel
theorem dX0_leaderWins_167 : decode cX0_leaderWins 167 = .ok (.invokevirtual 33, 3) := by decide +kernel
theorem dX0_leaderWins_170 : decode cX0_leaderWins 170 = .ok (.ifCond .eq 5, 3) := by decide +kernel
theorem dX0_leaderWins_173 : decode cX0_leaderWins 173 = .ok (.iconst 1, 1) := by decide +kernel
theorem dX0_leaderWins_174 : decode cX0_leaderWins 174 = .ok (.ireturn, 1) := by decide +kernel
theorem dX0_leaderWins_175 : decode cX0_leaderWins 175 = .ok (.iinc 15 1, 3) := by decide +kernel
theorem dX0_leaderWins_178 : decode cX0_leaderWins 178 = .ok (.goto (-68), 3) := by decide +kernel
theorem dX0_leaderWins_181 : decode cX0_leaderWins 181 = .ok (.iinc 11 1, 3) := by decide +kernel
theorem dX0_leaderWins_184 : decode cX0_leaderWins 184 = .ok (.goto (-104), 3) := by decide +kernel
theorem dX0_leaderWins_187 : decode cX0_leaderWins 187 = .ok (.iconst 0, 1) := by decide +kernel
theorem dX0_leaderWins_188 : decode cX0_leaderWins 188 = .ok (.ireturn, 1) := by decide +kernel
theorem dX0_comesFirst_0 : decode cX0_comesFirst 0 = .ok (.aload_n 0, 1) := by decide +kernel
theorem dX0_comesFirst_1 : decode cX0_comesFirst 1 = .ok (.getfield 7, 3) := by decide +kernel
theorem dX0_comesFirst_4 : decode cX0_comesFirst 4 = .ok (.getfield 37, 3) := by decide +kernel
theorem dX0_comesFirst_7 : decode cX0_comesFirst 7 = .ok (.astore 7, 2) := by decide +kernel
theorem dX0_comesFirst_9 : decode cX0_comesFirst 9 = .ok (.aload 7, 2) := by decide +kernel
theorem dX0_comesFirst_11 : decode cX0_comesFirst 11 = .ok (.arraylength, 1) := by decide +kernel
theorem dX0_comesFirst_12 : decode cX0_comesFirst 12 = .ok (.istore 8, 2) := by decide +kernel
theorem dX0_comesFirst_14 : decode cX0_comesFirst 14 = .ok (.iconst 0, 1) := by decide +kernel
theorem dX0_comesFirst_15 : decode cX0_comesFirst 15 = .ok (.istore 9, 2) := by decide +kernel
theorem dX0_comesFirst_17 : decode cX0_comesFirst 17 = .ok (.iload 9, 2) := by decide +kernel
theorem dX0_comesFirst_19 : decode cX0_comesFirst 19 = .ok (.iload 8, 2) := by decide +kernel
theorem dX0_comesFirst_21 : decode cX0_comesFirst 21 = .ok (.if_icmp .ge 57, 3) := by decide +kernel
theorem dX0_comesFirst_24 : decode cX0_comesFirst 24 = .ok (.aload 7, 2) := by decide +kernel
theorem dX0_comesFirst_26 : decode cX0_comesFirst 26 = .ok (.iload 9, 2) := by decide +kernel
theorem dX0_comesFirst_28 : decode cX0_comesFirst 28 = .ok (.laload, 1) := by decide +kernel
theorem dX0_comesFirst_29 : decode cX0_comesFirst 29 = .ok (.lstore 10, 2) := by decide +kernel
theorem dX0_comesFirst_31 : decode cX0_comesFirst 31 = .ok (.lload_n 1, 1) := by decide +kernel
theorem dX0_comesFirst_32 : decode cX0_comesFirst 32 = .ok (.lload 10, 2) := by decide +kernel
theorem dX0_comesFirst_34 : decode cX0_comesFirst 34 = .ok (.land, 1) := by decide +kernel
theorem dX0_comesFirst_35 : decode cX0_comesFirst 35 = .ok (.lstore 12, 2) := by decide +kernel
theorem dX0_comesFirst_37 : decode cX0_comesFirst 37 = .ok (.lload 12, 2) := by decide +kernel
theorem dX0_comesFirst_39 : decode cX0_comesFirst 39 = .ok (.lconst 0, 1) := by decide +kernel
theorem dX0_comesFirst_40 : decode cX0_comesFirst 40 = .ok (.lcmp, 1) := by decide +kernel
theorem dX0_comesFirst_41 : decode cX0_comesFirst 41 = .ok (.ifCond .eq 31, 3) := by decide +kernel
theorem dX0_comesFirst_44 : decode cX0_comesFirst 44 = .ok (.lload 5, 2) := by decide +kernel
theorem dX0_comesFirst_46 : decode cX0_comesFirst 46 = .ok (.aload_n 0, 1) := by decide +kernel
theorem dX0_comesFirst_47 : decode cX0_comesFirst 47 = .ok (.lload_n 1, 1) := by decide +kernel
theorem dX0_comesFirst_48 : decode cX0_comesFirst 48 = .ok (.lload 12, 2) := by decide +kernel
theorem dX0_comesFirst_50 : decode cX0_comesFirst 50 = .ok (.invokevirtual 41, 3) := by decide +kernel
theorem dX0_comesFirst_53 : decode cX0_comesFirst 53 = .ok (.land, 1) := by decide +kernel
theorem dX0_comesFirst_54 : decode cX0_comesFirst 54 = .ok (.lstore 14, 2) := by decide +kernel
theorem dX0_comesFirst_56 : decode cX0_comesFirst 56 = .ok (.aload_n 0, 1) := by decide +kernel
theorem dX0_comesFirst_57 : decode cX0_comesFirst 57 = .ok (.getfield 7, 3) := by decide +kernel
theorem dX0_comesFirst_60 : decode cX0_comesFirst 60 = .ok (.lload_n 3, 1) := by decide +kernel
theorem dX0_comesFirst_61 : decode cX0_comesFirst 61 = .ok (.lload 14, 2) := by decide +kernel
theorem dX0_comesFirst_63 : decode cX0_comesFirst 63 = .ok (.lor, 1) := by decide +kernel
theorem dX0_comesFirst_64 : decode cX0_comesFirst 64 = .ok (.invokevirtual 45, 3) := by decide +kernel
theorem dX0_comesFirst_67 : decode cX0_comesFirst 67 = .ok (.ifCond .ne 5, 3) := by decide +kernel
theorem dX0_comesFirst_70 : decode cX0_comesFirst 70 = .ok (.iconst 1, 1) := by decide +kernel
theorem dX0_comesFirst_71 : decode cX0_comesFirst 71 = .ok (.ireturn, 1) := by decide +kernel
theorem dX0_comesFirst_72 : decode cX0_comesFirst 72 = .ok (.iinc 9 1, 3) := by decide +kernel
theorem dX0_comesFirst_75 : decode cX0_comesFirst 75 = .ok (.goto (-58), 3) := by decide +kernel
theorem dX0_comesFirst_78 : decode cX0_comesFirst 78 = .ok (.iconst 0, 1) := by decide +kernel
theorem dX0_comesFirst_79 : decode cX0_comesFirst 79 = .ok (.ireturn, 1) := by decide +kernel
theorem dX0_reached_0 : decode cX0_reached 0 = .ok (.lconst 0, 1) := by decide +kernel
theorem dX0_reached_1 : decode cX0_reached 1 = .ok (.lstore 5, 2) := by decide +kernel
theorem dX0_reached_3 : decode cX0_reached 3 = .ok (.aload_n 0, 1) := by decide +kernel
theorem dX0_reached_4 : decode cX0_reached 4 = .ok (.getfield 7, 3) := by decide +kernel
theorem dX0_reached_7 : decode cX0_reached 7 = .ok (.getfield 37, 3) := by decide +kernel
theorem dX0_reached_10 : decode cX0_reached 10 = .ok (.astore 7, 2) := by decide +kernel
theorem dX0_reached_12 : decode cX0_reached 12 = .ok (.aload 7, 2) := by decide +kernel
theorem dX0_reached_14 : decode cX0_reached 14 = .ok (.arraylength, 1) := by decide +kernel
theorem dX0_reached_15 : decode cX0_reached 15 = .ok (.istore 8, 2) := by decide +kernel
theorem dX0_reached_17 : decode cX0_reached 17 = .ok (.iconst 0, 1) := by decide +kernel
theorem dX0_reached_18 : decode cX0_reached 18 = .ok (.istore 9, 2) := by decide +kernel
theorem dX0_reached_20 : decode cX0_reached 20 = .ok (.iload 9, 2) := by decide +kernel
theorem dX0_reached_22 : decode cX0_reached 22 = .ok (.iload 8, 2) := by decide +kernel
theorem dX0_reached_24 : decode cX0_reached 24 = .ok (.if_icmp .ge 67, 3) := by decide +kernel
theorem dX0_reached_27 : decode cX0_reached 27 = .ok (.aload 7, 2) := by decide +kernel
theorem dX0_reached_29 : decode cX0_reached 29 = .ok (.iload 9, 2) := by decide +kernel
theorem dX0_reached_31 : decode cX0_reached 31 = .ok (.laload, 1) := by decide +kernel
theorem dX0_reached_32 : decode cX0_reached 32 = .ok (.lstore 10, 2) := by decide +kernel
theorem dX0_reached_34 : decode cX0_reached 34 = .ok (.lload_n 1, 1) := by decide +kernel
theorem dX0_reached_35 : decode cX0_reached 35 = .ok (.lload 10, 2) := by decide +kernel
theorem dX0_reached_37 : decode cX0_reached 37 = .ok (.land, 1) := by decide +kernel
theorem dX0_reached_38 : decode cX0_reached 38 = .ok (.lstore 12, 2) := by decide +kernel
theorem dX0_reached_40 : decode cX0_reached 40 = .ok (.lload 12, 2) := by decide +kernel
theorem dX0_reached_42 : decode cX0_reached 42 = .ok (.lconst 0, 1) := by decide +kernel
theorem dX0_reached_43 : decode cX0_reached 43 = .ok (.lcmp, 1) := by decide +kernel
theorem dX0_reached_44 : decode cX0_reached 44 = .ok (.ifCond .eq 41, 3) := by decide +kernel
theorem dX0_reached_47 : decode cX0_reached 47 = .ok (.lload 12, 2) := by decide +kernel
theorem dX0_reached_49 : decode cX0_reached 49 = .ok (.lload_n 3, 1) := by decide +kernel
theorem dX0_reached_50 : decode cX0_reached 50 = .ok (.lcmp, 1) := by decide +kernel
theorem dX0_reached_51 : decode cX0_reached 51 = .ok (.ifCond .ne 8, 3) := by decide +kernel
theorem dX0_reached_54 : decode cX0_reached 54 = .ok (.lload 12, 2) := by decide +kernel
theorem dX0_reached_56 : decode cX0_reached 56 = .ok (.goto 7, 3) := by decide +kernel
theorem dX0_reached_59 : decode cX0_reached 59 = .ok (.lload 12, 2) := by decide +kernel
theorem dX0_reached_61 : decode cX0_reached 61 = .ok (.iconst 1, 1) := by decide +kernel
theorem dX0_reached_62 : decode cX0_reached 62 = .ok (.lshl, 1) := by decide +kernel
theorem dX0_reached_63 : decode cX0_reached 63 = .ok (.lstore 14, 2) := by decide +kernel
theorem dX0_reached_65 : decode cX0_reached 65 = .ok (.lload 5, 2) := by decide +kernel
theorem dX0_reached_67 : decode cX0_reached 67 = .ok (.lload 14, 2) := by decide +kernel
theorem dX0_reached_69 : decode cX0_reached 69 = .ok (.iconst 1, 1) := by decide +kernel
theorem dX0_reached_70 : decode cX0_reached 70 = .ok (.lshl, 1) := by decide +kernel
theorem dX0_reached_71 : decode cX0_reached 71 = .ok (.lload 10, 2) := by decide +kernel
theorem dX0_reached_73 : decode cX0_reached 73 = .ok (.aload_n 0, 1) := by decide +kernel
theorem dX0_reached_74 : decode cX0_reached 74 = .ok (.getfield 7, 3) := by decide +kernel
theorem dX0_reached_77 : decode cX0_reached 77 = .ok (.getfield 49, 3) := by decide +kernel
theorem dX0_reached_80 : decode cX0_reached 80 = .ok (.land, 1) := by decide +kernel
theorem dX0_reached_81 : decode cX0_reached 81 = .ok (.lsub, 1) := by decide +kernel
theorem dX0_reached_82 : decode cX0_reached 82 = .ok (.lor, 1) := by decide +kernel
theorem dX0_reached_83 : decode cX0_reached 83 = .ok (.lstore 5, 2) := by decide +kernel
theorem dX0_reached_85 : decode cX0_reached 85 = .ok (.iinc 9 1, 3) := by decide +kernel
theorem dX0_reached_88 : decode cX0_reached 88 = .ok (.goto (-68), 3) := by decide +kernel
theorem dX0_reached_91 : decode cX0_reached 91 = .ok (.lload 5, 2) := by decide +kernel
theorem dX0_reached_93 : decode cX0_reached 93 = .ok (.lreturn, 1) := by decide +kernel
end
section
theorem dX1_init_0 : decode cX1_init 0 = .ok (.aload_n 0, 1) := by decide +kernel
theorem dX1_init_1 : decode cX1_init 1 = .ok (.invokespecial 1, 3) := by decide +kernel
theorem dX1_init_4 : decode cX1_init 4 = .ok (.aload_n 0, 1) := by decide +kernel
theorem dX1_init_5 : decode cX1_init 5 = .ok (.iload_n 1, 1) := by decide +kernel
theorem dX1_init_6 : decode cX1_init 6 = .ok (.putfield 7, 3) := by decide +kernel
theorem dX1_init_9 : decode cX1_init 9 = .ok (.aload_n 0, 1) := by decide +kernel
theorem dX1_init_10 : decode cX1_init 10 = .ok (.iload_n 2, 1) := by decide +kernel
theorem dX1_init_11 : decode cX1_init 11 = .ok (.putfield 13, 3) := by decide +kernel
theorem dX1_init_14 : decode cX1_init 14 = .ok (.aload_n 0, 1) := by decide +kernel
theorem dX1_init_15 : decode cX1_init 15 = .ok (.iconst 4, 1) := by decide +kernel
theorem dX1_init_16 : decode cX1_init 16 = .ok (.newarray .int, 2) := by decide +kernel
theorem dX1_init_18 : decode cX1_init 18 = .ok (.dup, 1) := by decide +kernel
theorem dX1_init_19 : decode cX1_init 19 = .ok (.iconst 0, 1) := by decide +kernel
theorem dX1_init_20 : decode cX1_init 20 = .ok (.iconst 1, 1) := by decide +kernel
theorem dX1_init_21 : decode cX1_init 21 = .ok (.iastore, 1) := by decide +kernel
theorem dX1_init_22 : decode cX1_init 22 = .ok (.dup, 1) := by decide +kernel
theorem dX1_init_23 : decode cX1_init 23 = .ok (.iconst 1, 1) := by decide +kernel
theorem dX1_init_24 : decode cX1_init 24 = .ok (.iload_n 2, 1) := by decide +kernel
theorem dX1_init_25 : decode cX1_init 25 = .ok (.iastore, 1) := by decide +kernel
theorem dX1_init_26 : decode cX1_init 26 = .ok (.dup, 1) := by decide +kernel
theorem dX1_init_27 : decode cX1_init 27 = .ok (.iconst 2, 1) := by decide +kernel
theorem dX1_init_28 : decode cX1_init 28 = .ok (.iload_n 2, 1) := by decide +kernel
theorem dX1_init_29 : decode cX1_init 29 = .ok (.iconst 1, 1) := by decide +kernel
theorem dX1_init_30 : decode cX1_init 30 = .ok (.iadd, 1) := by decide +kernel
theorem dX1_init_31 : decode cX1_init 31 = .ok (.iastore, 1) := by decide +kernel
theorem dX1_init_32 : decode cX1_init 32 = .ok (.dup, 1) := by decide +kernel
theorem dX1_init_33 : decode cX1_init 33 = .ok (.iconst 3, 1) := by decide +kernel
theorem dX1_init_34 : decode cX1_init 34 = .ok (.iload_n 2, 1) := by decide +kernel
theorem dX1_init_35 : decode cX1_init 35 = .ok (.iconst 2, 1) := by decide +kernel
theorem dX1_init_36 : decode cX1_init 36 = .ok (.iadd, 1) := by decide +kernel
theorem dX1_init_37 : decode cX1_init 37 = .ok (.iastore, 1) := by decide +kernel
theorem dX1_init_38 : decode cX1_init 38 = .ok (.putfield 16, 3) := by decide +kernel
theorem dX1_init_41 : decode cX1_init 41 = .ok (.aload_n 0, 1) := by decide +kernel
theorem dX1_init_42 : decode cX1_init 42 = .ok (.iload_n 1, 1) := by decide +kernel
theorem dX1_init_43 : decode cX1_init 43 = .ok (.newarray .long, 2) := by decide +kernel
theorem dX1_init_45 : decode cX1_init 45 = .ok (.putfield 20, 3) := by decide +kernel
theorem dX1_init_48 : decode cX1_init 48 = .ok (.lconst 0, 1) := by decide +kernel
theorem dX1_init_49 : decode cX1_init 49 = .ok (.lstore_n 3, 1) := by decide +kernel
theorem dX1_init_50 : decode cX1_init 50 = .ok (.lconst 0, 1) := by decide +kernel
theorem dX1_init_51 : decode cX1_init 51 = .ok (.lstore 5, 2) := by decide +kernel
theorem dX1_init_53 : decode cX1_init 53 = .ok (.iconst 0, 1) := by decide +kernel
theorem dX1_init_54 : decode cX1_init 54 = .ok (.istore 7, 2) := by decide +kernel
theorem dX1_init_56 : decode cX1_init 56 = .ok (.iload 7, 2) := by decide +kernel
theorem dX1_init_58 : decode cX1_init 58 = .ok (.iload_n 1, 1) := by decide +kernel
theorem dX1_init_59 : decode cX1_init 59 = .ok (.if_icmp .ge 50, 3) := by decide +kernel
theorem dX1_init_62 : decode cX1_init 62 = .ok (.lconst 1, 1) := by decide +kernel
theorem dX1_init_63 : decode cX1_init 63 = .ok (.iload 7, 2) := by decide +kernel
theorem dX1_init_65 : decode cX1_init 65 = .ok (.iload_n 2, 1) := by decide +kernel
theorem dX1_init_66 : decode cX1_init 66 = .ok (.iconst 1, 1) := by decide +kernel
theorem dX1_init_67 : decode cX1_init 67 = .ok (.iadd, 1) := by decide +kernel
theorem dX1_init_68 : decode cX1_init 68 = .ok (.imul, 1) := by decide +kernel
theorem dX1_init_69 : decode cX1_init 69 = .ok (.lshl, 1) := by decide +kernel
theorem dX1_init_70 : decode cX1_init 70 = .ok (.lstore 8, 2) := by decide +kernel
theorem dX1_init_72 : decode cX1_init 72 = .ok (.aload_n 0, 1) := by decide +kernel
theorem dX1_init_73 : decode cX1_init 73 = .ok (.getfield 20, 3) := by decide +kernel
theorem dX1_init_76 : decode cX1_init 76 = .ok (.iload 7, 2) := by decide +kernel
theorem dX1_init_78 : decode cX1_init 78 = .ok (.lload 8, 2) := by decide +kernel
theorem dX1_init_80 : decode cX1_init 80 = .ok (.iload_n 2, 1) := by decide +kernel
theorem dX1_init_81 : decode cX1_init 81 = .ok (.lshl, 1) := by decide +kernel
theorem dX1_init_82 : decode cX1_init 82 = .ok (.lload 8, 2) := by decide +kernel
theorem dX1_init_84 : decode cX1_init 84 = .ok (.lsub, 1) := by decide +kernel
theorem dX1_init_85 : decode cX1_init 85 = .ok (.lastore, 1) := by decide +kernel
theorem dX1_init_86 : decode cX1_init 86 = .ok (.lload_n 3, 1) := by decide +kernel
theorem dX1_init_87 : decode cX1_init 87 = .ok (.lload 8, 2) := by decide +kernel
theorem dX1_init_89 : decode cX1_init 89 = .ok (.lor, 1) := by decide +kernel
theorem dX1_init_90 : decode cX1_init 90 = .ok (.lstore_n 3, 1) := by decide +kernel
theorem dX1_init_91 : decode cX1_init 91 = .ok (.lload 5, 2) := by decide +kernel
theorem dX1_init_93 : decode cX1_init 93 = .ok (.aload_n 0, 1) := by decide +kernel
theorem dX1_init_94 : decode cX1_init 94 = .ok (.getfield 20, 3) := by decide +kernel
theorem dX1_init_97 : decode cX1_init 97 = .ok (.iload 7, 2) := by decide +kernel
theorem dX1_init_99 : decode cX1_init 99 = .ok (.laload, 1) := by decide +kernel
theorem dX1_init_100 : decode cX1_init 100 = .ok (.lor, 1) := by decide +kernel
theorem dX1_init_101 : decode cX1_init 101 = .ok (.lstore 5, 2) := by decide +kernel
theorem dX1_init_103 : decode cX1_init 103 = .ok (.iinc 7 1, 3) := by decide +kernel
theorem dX1_init_106 : decode cX1_init 106 = .ok (.goto (-50), 3) := by decide +kernel
theorem dX1_init_109 : decode cX1_init 109 = .ok (.aload_n 0, 1) := by decide +kernel
theorem dX1_init_110 : decode cX1_init 110 = .ok (.lload_n 3, 1) := by decide +kernel
theorem dX1_init_111 : decode cX1_init 111 = .ok (.putfield 24, 3) := by decide +kernel
theorem dX1_init_114 : decode cX1_init 114 = .ok (.aload_n 0, 1) := by decide +kernel
theorem dX1_init_115 : decode cX1_init 115 = .ok (.lload 5, 2) := by decide +kernel
theorem dX1_init_117 : decode cX1_init 117 = .ok (.putfield 28, 3) := by decide +kernel
theorem dX1_init_120 : decode cX1_init 120 = .ok (.return_, 1) := by decide +kernel
theorem dX1_square_0 : decode cX1_square 0 = .ok (.lconst 1, 1) := by decide +kernel
theorem dX1_square_1 : decode cX1_square 1 = .ok (.iload_n 1, 1) := by decide +kernel
theorem dX1_square_2 : decode cX1_square 2 = .ok (.aload_n 0, 1) := by decide +kernel
theorem dX1_square_3 : decode cX1_square 3 = .ok (.getfield 13, 3) := by decide +kernel
theorem dX1_square_6 : decode cX1_square 6 = .ok (.iconst 1, 1) := by decide +kernel
theorem dX1_square_7 : decode cX1_square 7 = .ok (.iadd, 1) := by decide +kernel
theorem dX1_square_8 : decode cX1_square 8 = .ok (.imul, 1) := by decide +kernel
theorem dX1_square_9 : decode cX1_square 9 = .ok (.iload_n 2, 1) := by decide +kernel
theorem dX1_square_10 : decode cX1_square 10 = .ok (.iadd, 1) := by decide +kernel
theorem dX1_square_11 : decode cX1_square 11 = .ok (.lshl, 1) := by decide +kernel
theorem dX1_square_12 : decode cX1_square 12 = .ok (.lreturn, 1) := by decide +kernel
theorem dX1_nextSquares_0 : decode cX1_nextSquares 0 = .ok (.lload_n 1, 1) := by decide +kernel
theorem dX1_nextSquares_1 : decode cX1_nextSquares 1 = .ok (.aload_n 0, 1) := by decide +kernel
theorem dX1_nextSquares_2 : decode cX1_nextSquares 2 = .ok (.getfield 24, 3) := by decide +kernel
theorem dX1_nextSquares_5 : decode cX1_nextSquares 5 = .ok (.ladd, 1) := by decide +kernel
theorem dX1_nextSquares_6 : decode cX1_nextSquares 6 = .ok (.aload_n 0, 1) := by decide +kernel
theorem dX1_nextSquares_7 : decode cX1_nextSquares 7 = .ok (.getfield 28, 3) := by decide +kernel
theorem dX1_nextSquares_10 : decode cX1_nextSquares 10 = .ok (.land, 1) := by decide +kernel
theorem dX1_nextSquares_11 : decode cX1_nextSquares 11 = .ok (.lreturn, 1) := by decide +kernel
theorem dX1_lineStarts_0 : decode cX1_lineStarts 0 = .ok (.lload_n 1, 1) := by decide +kernel
theorem dX1_lineStarts_1 : decode cX1_lineStarts 1 = .ok (.lload_n 1, 1) := by decide +kernel
theorem dX1_lineStarts_2 : decode cX1_lineStarts 2 = .ok (.iload_n 3, 1) := by decide +kernel
theorem dX1_lineStarts_3 : decode cX1_lineStarts 3 = .ok (.lushr, 1) := by decide +kernel
theorem dX1_lineStarts_4 : decode cX1_lineStarts 4 = .ok (.land, 1) := by decide +kernel
theorem dX1_lineStarts_5 : decode cX1_lineStarts 5 = .ok (.lstore 4, 2) := by decide +kernel
theorem dX1_lineStarts_7 : decode cX1_lineStarts 7 = .ok (.lload 4, 2) := by decide +kernel
theorem dX1_lineStarts_9 : decode cX1_lineStarts 9 = .ok (.lload 4, 2) := by decide +kernel
theorem dX1_lineStarts_11 : decode cX1_lineStarts 11 = .ok (.iconst 2, 1) := by decide +kernel
theorem dX1_lineStarts_12 : decode cX1_lineStarts 12 = .ok (.iload_n 3, 1) := by decide +kernel
theorem dX1_lineStarts_13 : decode cX1_lineStarts 13 = .ok (.imul, 1) := by decide +kernel
theorem dX1_lineStarts_14 : decode cX1_lineStarts 14 = .ok (.lushr, 1) := by decide +kernel
theorem dX1_lineStarts_15 : decode cX1_lineStarts 15 = .ok (.land, 1) := by decide +kernel
theorem dX1_lineStarts_16 : decode cX1_lineStarts 16 = .ok (.lreturn, 1) := by decide +kernel
theorem dX1_hasLine_0 : decode cX1_hasLine 0 = .ok (.aload_n 0, 1) := by decide +kernel
theorem dX1_hasLine_1 : decode cX1_hasLine 1 = .ok (.getfield 16, 3) := by decide +kernel
theorem dX1_hasLine_4 : decode cX1_hasLine 4 = .ok (.astore_n 3, 1) := by decide +kernel
theorem dX1_hasLine_5 : decode cX1_hasLine 5 = .ok (.aload_n 3, 1) := by decide +kernel
theorem dX1_hasLine_6 : decode cX1_hasLine 6 = .ok (.arraylength, 1) := by decide +kernel
theorem dX1_hasLine_7 : decode cX1_hasLine 7 = .ok (.istore 4, 2) := by decide +kernel
theorem dX1_hasLine_9 : decode cX1_hasLine 9 = .ok (.iconst 0, 1) := by decide +kernel
theorem dX1_hasLine_10 : decode cX1_hasLine 10 = .ok (.istore 5, 2) := by decide +kernel
theorem dX1_hasLine_12 : decode cX1_hasLine 12 = .ok (.iload 5, 2) := by decide +kernel
theorem dX1_hasLine_14 : decode cX1_hasLine 14 = .ok (.iload 4, 2) := by decide +kernel
theorem dX1_hasLine_16 : decode cX1_hasLine 16 = .ok (.if_icmp .ge 29, 3) := by decide +kernel
theorem dX1_hasLine_19 : decode cX1_hasLine 19 = .ok (.aload_n 3, 1) := by decide +kernel
theorem dX1_hasLine_20 : decode cX1_hasLine 20 = .ok (.iload 5, 2) := by decide +kernel
theorem dX1_hasLine_22 : decode cX1_hasLine 22 = .ok (.iaload, 1) := by decide +kernel
theorem dX1_hasLine_23 : decode cX1_hasLine 23 = .ok (.istore 6, 2) := by decide +kernel
theorem dX1_hasLine_25 : decode cX1_hasLine 25 = .ok (.aload_n 0, 1) := by decide +kernel
theorem dX1_hasLine_26 : decode cX1_hasLine 26 = .ok (.lload_n 1, 1) := by decide +kernel
theorem dX1_hasLine_27 : decode cX1_hasLine 27 = .ok (.iload 6, 2) := by decide +kernel
theorem dX1_hasLine_29 : decode cX1_hasLine 29 = .ok (.invokevirtual 31, 3) := by decide +kernel
theorem dX1_hasLine_32 : decode cX1_hasLine 32 = .ok (.lconst 0, 1) := by decide +kernel
theorem dX1_hasLine_33 : decode cX1_hasLine 33 = .ok (.lcmp, 1) := by decide +kernel
theorem dX1_hasLine_34 : decode cX1_hasLine 34 = .ok (.ifCond .eq 5, 3) := by decide +kernel
theorem dX1_hasLine_37 : decode cX1_hasLine 37 = .ok (.iconst 1, 1) := by decide +kernel
theorem dX1_hasLine_38 : decode cX1_hasLine 38 = .ok (.ireturn, 1) := by decide +kernel
theorem dX1_hasLine_39 : decode cX1_hasLine 39 = .ok (.iinc 5 1, 3) := by decide +kernel
theorem dX1_hasLine_42 : decode cX1_hasLine 42 = .ok (.goto (-30), 3) := by decide +kernel
theorem dX1_hasLine_45 : decode cX1_hasLine 45 = .ok (.iconst 0, 1) := by decide +kernel
theorem dX1_hasLine_46 : decode cX1_hasLine 46 = .ok (.ireturn, 1) := by decide +kernel
theorem dX1_countLines_0 : decode cX1_countLines 0 = .ok (.iconst 0, 1) := by decide +kernel
theorem dX1_countLines_1 : decode cX1_countLines 1 = .ok (.istore_n 3, 1) := by decide +kernel
theorem dX1_countLines_2 : decode cX1_countLines 2 = .ok (.aload_n 0, 1) := by decide +kernel
theorem dX1_countLines_3 : decode cX1_countLines 3 = .ok (.getfield 16, 3) := by decide +kernel
theorem dX1_countLines_6 : decode cX1_countLines 6 = .ok (.astore 4, 2) := by decide +kernel
theorem dX1_countLines_8 : decode cX1_countLines 8 = .ok (.aload 4, 2) := by decide +kernel
theorem dX1_countLines_10 : decode cX1_countLines 10 = .ok (.arraylength, 1) := by decide +kernel
theorem dX1_countLines_11 : decode cX1_countLines 11 = .ok (.istore 5, 2) := by decide +kernel
theorem dX1_countLines_13 : decode cX1_countLines 13 = .ok (.iconst 0, 1) := by decide +kernel
theorem dX1_countLines_14 : decode cX1_countLines 14 = .ok (.istore 6, 2) := by decide +kernel
theorem dX1_countLines_16 : decode cX1_countLines 16 = .ok (.iload 6, 2) := by decide +kernel
theorem dX1_countLines_18 : decode cX1_countLines 18 = .ok (.iload 5, 2) := by decide +kernel
theorem dX1_countLines_20 : decode cX1_countLines 20 = .ok (.if_icmp .ge 29, 3) := by decide +kernel
theorem dX1_countLines_23 : decode cX1_countLines 23 = .ok (.aload 4, 2) := by decide +kernel
theorem dX1_countLines_25 : decode cX1_countLines 25 = .ok (.iload 6, 2) := by decide +kernel
theorem dX1_countLines_27 : decode cX1_countLines 27 = .ok (.iaload, 1) := by decide +kernel
theorem dX1_countLines_28 : decode cX1_countLines 28 = .ok (.istore 7, 2) := by decide +kernel
theorem dX1_countLines_30 : decode cX1_countLines 30 = .ok (.iload_n 3, 1) := by decide +kernel
theorem dX1_countLines_31 : decode cX1_countLines 31 = .ok (.aload_n 0, 1) := by decide +kernel
theorem dX1_countLines_32 : decode cX1_countLines 32 = .ok (.lload_n 1, 1) := by decide +kernel
theorem dX1_countLines_33 : decode cX1_countLines 33 = .ok (.iload 7, 2) := by decide +kernel
theorem dX1_countLines_35 : decode cX1_countLines 35 = .ok (.invokevirtual 31, 3) := by decide +kernel
theorem dX1_countLines_38 : decode cX1_countLines 38 = .ok (.invokestatic 35, 3) := by decide +kernel
theorem dX1_countLines_41 : decode cX1_countLines 41 = .ok (.iadd, 1) := by decide +kernel
theorem dX1_countLines_42 : decode cX1_countLines 42 = .ok (.istore_n 3, 1) := by decide +kernel
theorem dX1_countLines_43 : decode cX1_countLines 43 = .ok (.iinc 6 1, 3) := by decide +kernel
theorem dX1_countLines_46 : decode cX1_countLines 46 = .ok (.goto (-30), 3) := by decide +kernel
theorem dX1_countLines_49 : decode cX1_countLines 49 = .ok (.iload_n 3, 1) := by decide +kernel
theorem dX1_countLines_50 : decode cX1_countLines 50 = .ok (.ireturn, 1) := by decide +kernel
theorem dX1_threatSquares_0 : decode cX1_threatSquares 0 = .ok (.lconst 0, 1) := by decide +kernel
theorem dX1_threatSquares_1 : decode cX1_threatSquares 1 = .ok (.lstore 5, 2) := by decide +kernel
theorem dX1_threatSquares_3 : decode cX1_threatSquares 3 = .ok (.aload_n 0, 1) := by decide +kernel
theorem dX1_threatSquares_4 : decode cX1_threatSquares 4 = .ok (.getfield 16, 3) := by decide +kernel
theorem dX1_threatSquares_7 : decode cX1_threatSquares 7 = .ok (.astore 7, 2) := by decide +kernel
theorem dX1_threatSquares_9 : decode cX1_threatSquares 9 = .ok (.aload 7, 2) := by decide +kernel
theorem dX1_threatSquares_11 : decode cX1_threatSquares 11 = .ok (.arraylength, 1) := by decide +kernel
theorem dX1_threatSquares_12 : decode cX1_threatSquares 12 = .ok (.istore 8, 2) := by decide +kernel
theorem dX1_threatSquares_14 : decode cX1_threatSquares 14 = .ok (.iconst 0, 1) := by decide +kernel
theorem dX1_threatSquares_15 : decode cX1_threatSquares 15 = .ok (.istore 9, 2) := by decide +kernel
theorem dX1_threatSquares_17 : decode cX1_threatSquares 17 = .ok (.iload 9, 2) := by decide +kernel
theorem dX1_threatSquares_19 : decode cX1_threatSquares 19 = .ok (.iload 8, 2) := by decide +kernel
theorem dX1_threatSquares_21 : decode cX1_threatSquares 21 = .ok (.if_icmp .ge 27, 3) := by decide +kernel
theorem dX1_threatSquares_24 : decode cX1_threatSquares 24 = .ok (.aload 7, 2) := by decide +kernel
theorem dX1_threatSquares_26 : decode cX1_threatSquares 26 = .ok (.iload 9, 2) := by decide +kernel
theorem dX1_threatSquares_28 : decode cX1_threatSquares 28 = .ok (.iaload, 1) := by decide +kernel
theorem dX1_threatSquares_29 : decode cX1_threatSquares 29 = .ok (.istore 10, 2) := by decide +kernel
theorem dX1_threatSquares_31 : decode cX1_threatSquares 31 = .ok (.lload 5, 2) := by decide +kernel
theorem dX1_threatSquares_33 : decode cX1_threatSquares 33 = .ok (.lload_n 1, 1) := by decide +kernel
theorem dX1_threatSquares_34 : decode cX1_threatSquares 34 = .ok (.iload 10, 2) := by decide +kernel
theorem dX1_threatSquares_36 : decode cX1_threatSquares 36 = .ok (.invokestatic 41, 3) := by decide +kernel
theorem dX1_threatSquares_39 : decode cX1_threatSquares 39 = .ok (.lor, 1) := by decide +kernel
theorem dX1_threatSquares_40 : decode cX1_threatSquares 40 = .ok (.lstore 5, 2) := by decide +kernel
theorem dX1_threatSquares_42 : decode cX1_threatSquares 42 = .ok (.iinc 9 1, 3) := by decide +kernel
theorem dX1_threatSquares_45 : decode cX1_threatSquares 45 = .ok (.goto (-28), 3) := by decide +kernel
theorem dX1_threatSquares_48 : decode cX1_threatSquares 48 = .ok (.lload 5, 2) := by decide +kernel
theorem dX1_threatSquares_50 : decode cX1_threatSquares 50 = .ok (.aload_n 0, 1) := by decide +kernel
theorem dX1_threatSquares_51 : decode cX1_threatSquares 51 = .ok (.getfield 28, 3) := by decide +kernel
theorem dX1_threatSquares_54 : decode cX1_threatSquares 54 = .ok (.land, 1) := by decide +kernel
theorem dX1_threatSquares_55 : decode cX1_threatSquares 55 = .ok (.lload_n 3, 1) := by decide +kernel
theorem dX1_threatSquares_56 : decode cX1_threatSquares 56 = .ok (.ldc2_w 44, 3) := by decide +kernel
theorem dX1_threatSquares_59 : decode cX1_threatSquares 59 = .ok (.lxor, 1) := by decide +kernel
theorem dX1_threatSquares_60 : decode cX1_threatSquares 60 = .ok (.land, 1) := by decide +kernel
theorem dX1_threatSquares_61 : decode cX1_threatSquares 61 = .ok (.lreturn, 1) := by decide +kernel
theorem dX1_completing_0 : decode cX1_completing 0 = .ok (.lload_n 0, 1) := by decide +kernel
theorem dX1_completing_1 : decode cX1_completing 1 = .ok (.iload_n 2, 1) := by decide +kernel
theorem dX1_completing_2 : decode cX1_completing 2 = .ok (.lshl, 1) := by decide +kernel
theorem dX1_completing_3 : decode cX1_completing 3 = .ok (.lstore_n 3, 1) := by decide +kernel
theorem dX1_completing_4 : decode cX1_completing 4 = .ok (.lload_n 3, 1) := by decide +kernel
theorem dX1_completing_5 : decode cX1_completing 5 = .ok (.lload_n 0, 1) := by decide +kernel
theorem dX1_completing_6 : decode cX1_completing 6 = .ok (.iconst 2, 1) := by decide +kernel
theorem dX1_completing_7 : decode cX1_completing 7 = .ok (.iload_n 2, 1) := by decide +kernel
theorem dX1_completing_8 : decode cX1_completing 8 = .ok (.imul, 1) := by decide +kernel
theorem dX1_completing_9 : decode cX1_completing 9 = .ok (.lshl, 1) := by decide +kernel
theorem dX1_completing_10 : decode cX1_completing 10 = .ok (.land, 1) := by decide +kernel
theorem dX1_completing_11 : decode cX1_completing 11 = .ok (.lstore 5, 2) := by decide +kernel
theorem dX1_completing_13 : decode cX1_completing 13 = .ok (.lload_n 0, 1) := by decide +kernel
theorem dX1_completing_14 : decode cX1_completing 14 = .ok (.iload_n 2, 1) := by decide +kernel
theorem dX1_completing_15 : decode cX1_completing 15 = .ok (.lushr, 1) := by decide +kernel
theorem dX1_completing_16 : decode cX1_completing 16 = .ok (.lstore 7, 2) := by decide +kernel
theorem dX1_completing_18 : decode cX1_completing 18 = .ok (.lload 7, 2) := by decide +kernel
theorem dX1_completing_20 : decode cX1_completing 20 = .ok (.lload_n 0, 1) := by decide +kernel
theorem dX1_completing_21 : decode cX1_completing 21 = .ok (.iconst 2, 1) := by decide +kernel
theorem dX1_completing_22 : decode cX1_completing 22 = .ok (.iload_n 2, 1) := by decide +kernel
theorem dX1_completing_23 : decode cX1_completing 23 = .ok (.imul, 1) := by decide +kernel
theorem dX1_completing_24 : decode cX1_completing 24 = .ok (.lushr, 1) := by decide +kernel
theorem dX1_completing_25 : decode cX1_completing 25 = .ok (.land, 1) := by decide +kernel
theorem dX1_completing_26 : decode cX1_completing 26 = .ok (.lstore 9, 2) := by decide +kernel
theorem dX1_completing_28 : decode cX1_completing 28 = .ok (.lload 5, 2) := by decide +kernel
theorem dX1_completing_30 : decode cX1_completing 30 = .ok (.lload_n 0, 1) := by decide +kernel
theorem dX1_completing_31 : decode cX1_completing 31 = .ok (.iconst 3, 1) := by decide +kernel
theorem dX1_completing_32 : decode cX1_completing 32 = .ok (.iload_n 2, 1) := by decide +kernel
theorem dX1_completing_33 : decode cX1_completing 33 = .ok (.imul, 1) := by decide +kernel
theorem dX1_completing_34 : decode cX1_completing 34 = .ok (.lshl, 1) := by decide +kernel
theorem dX1_completing_35 : decode cX1_completing 35 = .ok (.land, 1) := by decide +kernel
theorem dX1_completing_36 : decode cX1_completing 36 = .ok (.lload 5, 2) := by decide +kernel
theorem dX1_completing_38 : decode cX1_completing 38 = .ok (.lload 7, 2) := by decide +kernel
theorem dX1_completing_40 : decode cX1_completing 40 = .ok (.land, 1) := by decide +kernel
theorem dX1_completing_41 : decode cX1_completing 41 = .ok (.lor, 1) := by decide +kernel
theorem dX1_completing_42 : decode cX1_completing 42 = .ok (.lload_n 3, 1) := by decide +kernel
theorem dX1_completing_43 : decode cX1_completing 43 = .ok (.lload 9, 2) := by decide +kernel
theorem dX1_completing_45 : decode cX1_completing 45 = .ok (.land, 1) := by decide +kernel
theorem dX1_completing_46 : decode cX1_completing 46 = .ok (.lor, 1) := by decide +kernel
theorem dX1_completing_47 : decode cX1_completing 47 = .ok (.lload 9, 2) := by decide +kernel
theorem dX1_completing_49 : decode cX1_completing 49 = .ok (.lload_n 0, 1) := by decide +kernel
theorem dX1_completing_50 : decode cX1_completing 50 = .ok (.iconst 3, 1) := by decide +kernel
theorem dX1_completing_51 : decode cX1_completing 51 = .ok (.iload_n 2, 1) := by decide +kernel
theorem dX1_completing_52 : decode cX1_completing 52 = .ok (.imul, 1) := by decide +kernel
theorem dX1_completing_53 : decode cX1_completing 53 = .ok (.lushr, 1) := by decide +kernel
theorem dX1_completing_54 : decode cX1_completing 54 = .ok (.land, 1) := by decide +kernel
theorem dX1_completing_55 : decode cX1_completing 55 = .ok (.lor, 1) := by decide +kernel
theorem dX1_completing_56 : decode cX1_completing 56 = .ok (.lreturn, 1) := by decide +kernel
end
section
theorem dX2_init_0 : decode cX2_init 0 = .ok (.aload_n 0, 1) := by decide +kernel
theorem dX2_init_1 : decode cX2_init 1 = .ok (.invokespecial 1, 3) := by decide +kernel
theorem dX2_init_4 : decode cX2_init 4 = .ok (.aload_n 0, 1) := by decide +kernel
theorem dX2_init_5 : decode cX2_init 5 = .ok (.sipush 1024, 3) := by decide +kernel
theorem dX2_init_8 : decode cX2_init 8 = .ok (.newarray .long, 2) := by decide +kernel
theorem dX2_init_10 : decode cX2_init 10 = .ok (.putfield 9, 3) := by decide +kernel
theorem dX2_init_13 : decode cX2_init 13 = .ok (.aload_n 0, 1) := by decide +kernel
theorem dX2_init_14 : decode cX2_init 14 = .ok (.sipush 1024, 3) := by decide +kernel
theorem dX2_init_17 : decode cX2_init 17 = .ok (.newarray .int, 2) := by decide +kernel
theorem dX2_init_19 : decode cX2_init 19 = .ok (.putfield 13, 3) := by decide +kernel
theorem dX2_init_22 : decode cX2_init 22 = .ok (.aload_n 0, 1) := by decide +kernel
theorem dX2_init_23 : decode cX2_init 23 = .ok (.sipush 1024, 3) := by decide +kernel
theorem dX2_init_26 : decode cX2_init 26 = .ok (.newarray .int, 2) := by decide +kernel
theorem dX2_init_28 : decode cX2_init 28 = .ok (.putfield 17, 3) := by decide +kernel
theorem dX2_init_31 : decode cX2_init 31 = .ok (.return_, 1) := by decide +kernel
theorem dX2_holds_0 : decode cX2_holds 0 = .ok (.aload_n 0, 1) := by decide +kernel
theorem dX2_holds_1 : decode cX2_holds 1 = .ok (.getfield 9, 3) := by decide +kernel
theorem dX2_holds_4 : decode cX2_holds 4 = .ok (.lload_n 1, 1) := by decide +kernel
theorem dX2_holds_5 : decode cX2_holds 5 = .ok (.invokestatic 20, 3) := by decide +kernel
theorem dX2_holds_8 : decode cX2_holds 8 = .ok (.laload, 1) := by decide +kernel
theorem dX2_holds_9 : decode cX2_holds 9 = .ok (.lload_n 1, 1) := by decide +kernel
theorem dX2_holds_10 : decode cX2_holds 10 = .ok (.lcmp, 1) := by decide +kernel
theorem dX2_holds_11 : decode cX2_holds 11 = .ok (.ifCond .ne 7, 3) := by decide +kernel
theorem dX2_holds_14 : decode cX2_holds 14 = .ok (.iconst 1, 1) := by decide +kernel
theorem dX2_holds_15 : decode cX2_holds 15 = .ok (.goto 4, 3) := by decide +kernel
theorem dX2_holds_18 : decode cX2_holds 18 = .ok (.iconst 0, 1) := by decide +kernel
theorem dX2_holds_19 : decode cX2_holds 19 = .ok (.ireturn, 1) := by decide +kernel
theorem dX2_leastOf_0 : decode cX2_leastOf 0 = .ok (.aload_n 0, 1) := by decide +kernel
theorem dX2_leastOf_1 : decode cX2_leastOf 1 = .ok (.getfield 13, 3) := by decide +kernel
theorem dX2_leastOf_4 : decode cX2_leastOf 4 = .ok (.lload_n 1, 1) := by decide +kernel
theorem dX2_leastOf_5 : decode cX2_leastOf 5 = .ok (.invokestatic 20, 3) := by decide +kernel
theorem dX2_leastOf_8 : decode cX2_leastOf 8 = .ok (.iaload, 1) := by decide +kernel
theorem dX2_leastOf_9 : decode cX2_leastOf 9 = .ok (.ireturn, 1) := by decide +kernel
theorem dX2_mostOf_0 : decode cX2_mostOf 0 = .ok (.aload_n 0, 1) := by decide +kernel
theorem dX2_mostOf_1 : decode cX2_mostOf 1 = .ok (.getfield 17, 3) := by decide +kernel
theorem dX2_mostOf_4 : decode cX2_mostOf 4 = .ok (.lload_n 1, 1) := by decide +kernel
theorem dX2_mostOf_5 : decode cX2_mostOf 5 = .ok (.invokestatic 20, 3) := by decide +kernel
theorem dX2_mostOf_8 : decode cX2_mostOf 8 = .ok (.iaload, 1) := by decide +kernel
theorem dX2_mostOf_9 : decode cX2_mostOf 9 = .ok (.ireturn, 1) := by decide +kernel
theorem dX2_keep_0 : decode cX2_keep 0 = .ok (.lload_n 1, 1) := by decide +kernel
theorem dX2_keep_1 : decode cX2_keep 1 = .ok (.invokestatic 20, 3) := by decide +kernel
theorem dX2_keep_4 : decode cX2_keep 4 = .ok (.istore 5, 2) := by decide +kernel
theorem dX2_keep_6 : decode cX2_keep 6 = .ok (.aload_n 0, 1) := by decide +kernel
theorem dX2_keep_7 : decode cX2_keep 7 = .ok (.getfield 9, 3) := by decide +kernel
theorem dX2_keep_10 : decode cX2_keep 10 = .ok (.iload 5, 2) := by decide +kernel
theorem dX2_keep_12 : decode cX2_keep 12 = .ok (.lload_n 1, 1) := by decide +kernel
theorem dX2_keep_13 : decode cX2_keep 13 = .ok (.lastore, 1) := by decide +kernel
theorem dX2_keep_14 : decode cX2_keep 14 = .ok (.aload_n 0, 1) := by decide +kernel
theorem dX2_keep_15 : decode cX2_keep 15 = .ok (.getfield 13, 3) := by decide +kernel
theorem dX2_keep_18 : decode cX2_keep 18 = .ok (.iload 5, 2) := by decide +kernel
theorem dX2_keep_20 : decode cX2_keep 20 = .ok (.iload_n 3, 1) := by decide +kernel
theorem dX2_keep_21 : decode cX2_keep 21 = .ok (.iastore, 1) := by decide +kernel
theorem dX2_keep_22 : decode cX2_keep 22 = .ok (.aload_n 0, 1) := by decide +kernel
theorem dX2_keep_23 : decode cX2_keep 23 = .ok (.getfield 17, 3) := by decide +kernel
theorem dX2_keep_26 : decode cX2_keep 26 = .ok (.iload 5, 2) := by decide +kernel
theorem dX2_keep_28 : decode cX2_keep 28 = .ok (.iload 4, 2) := by decide +kernel
theorem dX2_keep_30 : decode cX2_keep 30 = .ok (.iastore, 1) := by decide +kernel
theorem dX2_keep_31 : decode cX2_keep 31 = .ok (.return_, 1) := by decide +kernel
theorem dX2_slotOf_0 : decode cX2_slotOf 0 = .ok (.lload_n 0, 1) := by decide +kernel
theorem dX2_slotOf_1 : decode cX2_slotOf 1 = .ok (.ldc2_w 24, 3) := by decide +kernel
theorem dX2_slotOf_4 : decode cX2_slotOf 4 = .ok (.lmul, 1) := by decide +kernel
theorem dX2_slotOf_5 : decode cX2_slotOf 5 = .ok (.bipush 54, 2) := by decide +kernel
theorem dX2_slotOf_7 : decode cX2_slotOf 7 = .ok (.lushr, 1) := by decide +kernel
theorem dX2_slotOf_8 : decode cX2_slotOf 8 = .ok (.l2i, 1) := by decide +kernel
theorem dX2_slotOf_9 : decode cX2_slotOf 9 = .ok (.ireturn, 1) := by decide +kernel
end
section
theorem dX3_init_0 : decode cX3_init 0 = .ok (.aload_n 0, 1) := by decide +kernel
theorem dX3_init_1 : decode cX3_init 1 = .ok (.invokespecial 1, 3) := by decide +kernel
theorem dX3_init_4 : decode cX3_init 4 = .ok (.aload_n 0, 1) := by decide +kernel
theorem dX3_init_5 : decode cX3_init 5 = .ok (.new 7, 3) := by decide +kernel
theorem dX3_init_8 : decode cX3_init 8 = .ok (.dup, 1) := by decide +kernel
theorem dX3_init_9 : decode cX3_init 9 = .ok (.invokespecial 9, 3) := by decide +kernel
theorem dX3_init_12 : decode cX3_init 12 = .ok (.putfield 10, 3) := by decide +kernel
theorem dX3_init_15 : decode cX3_init 15 = .ok (.aload_n 0, 1) := by decide +kernel
theorem dX3_init_16 : decode cX3_init 16 = .ok (.aload_n 1, 1) := by decide +kernel
theorem dX3_init_17 : decode cX3_init 17 = .ok (.putfield 16, 3) := by decide +kernel
theorem dX3_init_20 : decode cX3_init 20 = .ok (.aload_n 0, 1) := by decide +kernel
theorem dX3_init_21 : decode cX3_init 21 = .ok (.aload_n 1, 1) := by decide +kernel
theorem dX3_init_22 : decode cX3_init 22 = .ok (.getfield 20, 3) := by decide +kernel
theorem dX3_init_25 : decode cX3_init 25 = .ok (.newarray .long, 2) := by decide +kernel
theorem dX3_init_27 : decode cX3_init 27 = .ok (.putfield 26, 3) := by decide +kernel
theorem dX3_init_30 : decode cX3_init 30 = .ok (.iconst 0, 1) := by decide +kernel
theorem dX3_init_31 : decode cX3_init 31 = .ok (.istore_n 2, 1) := by decide +kernel
theorem dX3_init_32 : decode cX3_init 32 = .ok (.iload_n 2, 1) := by decide +kernel
theorem dX3_init_33 : decode cX3_init 33 = .ok (.aload_n 1, 1) := by decide +kernel
theorem dX3_init_34 : decode cX3_init 34 = .ok (.getfield 20, 3) := by decide +kernel
theorem dX3_init_37 : decode cX3_init 37 = .ok (.if_icmp .ge 47, 3) := by decide +kernel
theorem dX3_init_40 : decode cX3_init 40 = .ok (.iload_n 2, 1) := by decide +kernel
theorem dX3_init_41 : decode cX3_init 41 = .ok (.iconst 2, 1) := by decide +kernel
theorem dX3_init_42 : decode cX3_init 42 = .ok (.irem, 1) := by decide +kernel
theorem dX3_init_43 : decode cX3_init 43 = .ok (.ifCond .ne 9, 3) := by decide +kernel
theorem dX3_init_46 : decode cX3_init 46 = .ok (.iload_n 2, 1) := by decide +kernel
theorem dX3_init_47 : decode cX3_init 47 = .ok (.iconst 2, 1) := by decide +kernel
theorem dX3_init_48 : decode cX3_init 48 = .ok (.idiv, 1) := by decide +kernel
theorem dX3_init_49 : decode cX3_init 49 = .ok (.goto 9, 3) := by decide +kernel
theorem dX3_init_52 : decode cX3_init 52 = .ok (.iload_n 2, 1) := by decide +kernel
theorem dX3_init_53 : decode cX3_init 53 = .ok (.iconst 1, 1) := by decide +kernel
theorem dX3_init_54 : decode cX3_init 54 = .ok (.iadd, 1) := by decide +kernel
theorem dX3_init_55 : decode cX3_init 55 = .ok (.ineg, 1) := by decide +kernel
theorem dX3_init_56 : decode cX3_init 56 = .ok (.iconst 2, 1) := by decide +kernel
theorem dX3_init_57 : decode cX3_init 57 = .ok (.idiv, 1) := by decide +kernel
theorem dX3_init_58 : decode cX3_init 58 = .ok (.istore_n 3, 1) := by decide +kernel
theorem dX3_init_59 : decode cX3_init 59 = .ok (.aload_n 0, 1) := by decide +kernel
theorem dX3_init_60 : decode cX3_init 60 = .ok (.getfield 26, 3) := by decide +kernel
theorem dX3_init_63 : decode cX3_init 63 = .ok (.iload_n 2, 1) := by decide +kernel
theorem dX3_init_64 : decode cX3_init 64 = .ok (.aload_n 1, 1) := by decide +kernel
theorem dX3_init_65 : decode cX3_init 65 = .ok (.getfield 30, 3) := by decide +kernel
theorem dX3_init_68 : decode cX3_init 68 = .ok (.aload_n 1, 1) := by decide +kernel
theorem dX3_init_69 : decode cX3_init 69 = .ok (.getfield 20, 3) := by decide +kernel
theorem dX3_init_72 : decode cX3_init 72 = .ok (.iconst 2, 1) := by decide +kernel
theorem dX3_init_73 : decode cX3_init 73 = .ok (.idiv, 1) := by decide +kernel
theorem dX3_init_74 : decode cX3_init 74 = .ok (.iload_n 3, 1) := by decide +kernel
theorem dX3_init_75 : decode cX3_init 75 = .ok (.iadd, 1) := by decide +kernel
theorem dX3_init_76 : decode cX3_init 76 = .ok (.laload, 1) := by decide +kernel
theorem dX3_init_77 : decode cX3_init 77 = .ok (.lastore, 1) := by decide +kernel
theorem dX3_init_78 : decode cX3_init 78 = .ok (.iinc 2 1, 3) := by decide +kernel
theorem dX3_init_81 : decode cX3_init 81 = .ok (.goto (-49), 3) := by decide +kernel
theorem dX3_init_84 : decode cX3_init 84 = .ok (.return_, 1) := by decide +kernel
theorem dX3_score_0 : decode cX3_score 0 = .ok (.iload 5, 2) := by decide +kernel
theorem dX3_score_2 : decode cX3_score 2 = .ok (.ifCond .gt 5, 3) := by decide +kernel
theorem dX3_score_5 : decode cX3_score 5 = .ok (.iconst 0, 1) := by decide +kernel
theorem dX3_score_6 : decode cX3_score 6 = .ok (.ireturn, 1) := by decide +kernel
theorem dX3_score_7 : decode cX3_score 7 = .ok (.lload_n 1, 1) := by decide +kernel
theorem dX3_score_8 : decode cX3_score 8 = .ok (.lload_n 3, 1) := by decide +kernel
theorem dX3_score_9 : decode cX3_score 9 = .ok (.lor, 1) := by decide +kernel
theorem dX3_score_10 : decode cX3_score 10 = .ok (.lstore 8, 2) := by decide +kernel
theorem dX3_score_12 : decode cX3_score 12 = .ok (.aload_n 0, 1) := by decide +kernel
theorem dX3_score_13 : decode cX3_score 13 = .ok (.getfield 16, 3) := by decide +kernel
theorem dX3_score_16 : decode cX3_score 16 = .ok (.lload 8, 2) := by decide +kernel
theorem dX3_score_18 : decode cX3_score 18 = .ok (.invokevirtual 33, 3) := by decide +kernel
theorem dX3_score_21 : decode cX3_score 21 = .ok (.lstore 10, 2) := by decide +kernel
theorem dX3_score_23 : decode cX3_score 23 = .ok (.aload_n 0, 1) := by decide +kernel
theorem dX3_score_24 : decode cX3_score 24 = .ok (.getfield 16, 3) := by decide +kernel
theorem dX3_score_27 : decode cX3_score 27 = .ok (.lload_n 1, 1) := by decide +kernel
theorem dX3_score_28 : decode cX3_score 28 = .ok (.lload 8, 2) := by decide +kernel
theorem dX3_score_30 : decode cX3_score 30 = .ok (.invokevirtual 37, 3) := by decide +kernel
theorem dX3_score_33 : decode cX3_score 33 = .ok (.lload 10, 2) := by decide +kernel
theorem dX3_score_35 : decode cX3_score 35 = .ok (.land, 1) := by decide +kernel
theorem dX3_score_36 : decode cX3_score 36 = .ok (.lconst 0, 1) := by decide +kernel
theorem dX3_score_37 : decode cX3_score 37 = .ok (.lcmp, 1) := by decide +kernel
theorem dX3_score_38 : decode cX3_score 38 = .ok (.ifCond .eq 6, 3) := by decide +kernel
theorem dX3_score_41 : decode cX3_score 41 = .ok (.iload 5, 2) := by decide +kernel
theorem dX3_score_43 : decode cX3_score 43 = .ok (.ireturn, 1) := by decide +kernel
theorem dX3_score_44 : decode cX3_score 44 = .ok (.lload 10, 2) := by decide +kernel
theorem dX3_score_46 : decode cX3_score 46 = .ok (.aload_n 0, 1) := by decide +kernel
theorem dX3_score_47 : decode cX3_score 47 = .ok (.getfield 16, 3) := by decide +kernel
theorem dX3_score_50 : decode cX3_score 50 = .ok (.lload_n 3, 1) := by decide +kernel
theorem dX3_score_51 : decode cX3_score 51 = .ok (.lload 8, 2) := by decide +kernel
theorem dX3_score_53 : decode cX3_score 53 = .ok (.invokevirtual 37, 3) := by decide +kernel
theorem dX3_score_56 : decode cX3_score 56 = .ok (.invokestatic 41, 3) := by decide +kernel
theorem dX3_score_59 : decode cX3_score 59 = .ok (.lstore 12, 2) := by decide +kernel
theorem dX3_score_61 : decode cX3_score 61 = .ok (.lload 12, 2) := by decide +kernel
theorem dX3_score_63 : decode cX3_score 63 = .ok (.lconst 0, 1) := by decide +kernel
theorem dX3_score_64 : decode cX3_score 64 = .ok (.lcmp, 1) := by decide +kernel
theorem dX3_score_65 : decode cX3_score 65 = .ok (.ifCond .ne 8, 3) := by decide +kernel
theorem dX3_score_68 : decode cX3_score 68 = .ok (.iconst 1, 1) := by decide +kernel
theorem dX3_score_69 : decode cX3_score 69 = .ok (.iload 5, 2) := by decide +kernel
theorem dX3_score_71 : decode cX3_score 71 = .ok (.isub, 1) := by decide +kernel
theorem dX3_score_72 : decode cX3_score 72 = .ok (.ireturn, 1) := by decide +kernel
theorem dX3_score_73 : decode cX3_score 73 = .ok (.iload 5, 2) := by decide +kernel
theorem dX3_score_75 : decode cX3_score 75 = .ok (.iconst 2, 1) := by decide +kernel
theorem dX3_score_76 : decode cX3_score 76 = .ok (.if_icmp .gt 5, 3) := by decide +kernel
theorem dX3_score_79 : decode cX3_score 79 = .ok (.iconst 0, 1) := by decide +kernel
theorem dX3_score_80 : decode cX3_score 80 = .ok (.ireturn, 1) := by decide +kernel
theorem dX3_score_81 : decode cX3_score 81 = .ok (.aload_n 0, 1) := by decide +kernel
theorem dX3_score_82 : decode cX3_score 82 = .ok (.lload_n 1, 1) := by decide +kernel
theorem dX3_score_83 : decode cX3_score 83 = .ok (.lload_n 3, 1) := by decide +kernel
theorem dX3_score_84 : decode cX3_score 84 = .ok (.lload 12, 2) := by decide +kernel
theorem dX3_score_86 : decode cX3_score 86 = .ok (.iload 5, 2) := by decide +kernel
theorem dX3_score_88 : decode cX3_score 88 = .ok (.iload 6, 2) := by decide +kernel
theorem dX3_score_90 : decode cX3_score 90 = .ok (.iload 7, 2) := by decide +kernel
theorem dX3_score_92 : decode cX3_score 92 = .ok (.invokevirtual 44, 3) := by decide +kernel
theorem dX3_score_95 : decode cX3_score 95 = .ok (.ireturn, 1) := by decide +kernel
theorem dX3_safeMoves_0 : decode cX3_safeMoves 0 = .ok (.lload_n 0, 1) := by decide +kernel
theorem dX3_safeMoves_1 : decode cX3_safeMoves 1 = .ok (.lload_n 2, 1) := by decide +kernel
theorem dX3_safeMoves_2 : decode cX3_safeMoves 2 = .ok (.land, 1) := by decide +kernel
theorem dX3_safeMoves_3 : decode cX3_safeMoves 3 = .ok (.lstore 4, 2) := by decide +kernel
theorem dX3_safeMoves_5 : decode cX3_safeMoves 5 = .ok (.lload 4, 2) := by decide +kernel
theorem dX3_safeMoves_7 : decode cX3_safeMoves 7 = .ok (.invokestatic 48, 3) := by decide +kernel
theorem dX3_safeMoves_10 : decode cX3_safeMoves 10 = .ok (.iconst 1, 1) := by decide +kernel
theorem dX3_safeMoves_11 : decode cX3_safeMoves 11 = .ok (.if_icmp .le 5, 3) := by decide +kernel
theorem dX3_safeMoves_14 : decode cX3_safeMoves 14 = .ok (.lconst 0, 1) := by decide +kernel
theorem dX3_safeMoves_15 : decode cX3_safeMoves 15 = .ok (.lreturn, 1) := by decide +kernel
theorem dX3_safeMoves_16 : decode cX3_safeMoves 16 = .ok (.lload 4, 2) := by decide +kernel
theorem dX3_safeMoves_18 : decode cX3_safeMoves 18 = .ok (.lconst 0, 1) := by decide +kernel
theorem dX3_safeMoves_19 : decode cX3_safeMoves 19 = .ok (.lcmp, 1) := by decide +kernel
theorem dX3_safeMoves_20 : decode cX3_safeMoves 20 = .ok (.ifCond .ne 7, 3) := by decide +kernel
theorem dX3_safeMoves_23 : decode cX3_safeMoves 23 = .ok (.lload_n 0, 1) := by decide +kernel
theorem dX3_safeMoves_24 : decode cX3_safeMoves 24 = .ok (.goto 5, 3) := by decide +kernel
theorem dX3_safeMoves_27 : decode cX3_safeMoves 27 = .ok (.lload 4, 2) := by decide +kernel
theorem dX3_safeMoves_29 : decode cX3_safeMoves 29 = .ok (.lstore 6, 2) := by decide +kernel
theorem dX3_safeMoves_31 : decode cX3_safeMoves 31 = .ok (.lload 6, 2) := by decide +kernel
theorem dX3_safeMoves_33 : decode cX3_safeMoves 33 = .ok (.lload_n 2, 1) := by decide +kernel
theorem dX3_safeMoves_34 : decode cX3_safeMoves 34 = .ok (.iconst 1, 1) := by decide +kernel
theorem dX3_safeMoves_35 : decode cX3_safeMoves 35 = .ok (.lushr, 1) := by decide +kernel
theorem dX3_safeMoves_36 : decode cX3_safeMoves 36 = .ok (.ldc2_w 54, 3) := by decide +kernel
theorem dX3_safeMoves_39 : decode cX3_safeMoves 39 = .ok (.lxor, 1) := by decide +kernel
theorem dX3_safeMoves_40 : decode cX3_safeMoves 40 = .ok (.land, 1) := by decide +kernel
theorem dX3_safeMoves_41 : decode cX3_safeMoves 41 = .ok (.lreturn, 1) := by decide +kernel
theorem dX3_remembered_0 : decode cX3_remembered 0 = .ok (.lload_n 1, 1) := by decide +kernel
theorem dX3_remembered_1 : decode cX3_remembered 1 = .ok (.lload_n 3, 1) := by decide +kernel
theorem dX3_remembered_2 : decode cX3_remembered 2 = .ok (.lor, 1) := by decide +kernel
theorem dX3_remembered_3 : decode cX3_remembered 3 = .ok (.aload_n 0, 1) := by decide +kernel
theorem dX3_remembered_4 : decode cX3_remembered 4 = .ok (.getfield 16, 3) := by decide +kernel
theorem dX3_remembered_7 : decode cX3_remembered 7 = .ok (.getfield 56, 3) := by decide +kernel
theorem dX3_remembered_10 : decode cX3_remembered 10 = .ok (.ladd, 1) := by decide +kernel
theorem dX3_remembered_11 : decode cX3_remembered 11 = .ok (.lload_n 1, 1) := by decide +kernel
theorem dX3_remembered_12 : decode cX3_remembered 12 = .ok (.lor, 1) := by decide +kernel
theorem dX3_remembered_13 : decode cX3_remembered 13 = .ok (.lstore 10, 2) := by decide +kernel
theorem dX3_remembered_15 : decode cX3_remembered 15 = .ok (.aload_n 0, 1) := by decide +kernel
theorem dX3_remembered_16 : decode cX3_remembered 16 = .ok (.getfield 10, 3) := by decide +kernel
theorem dX3_remembered_19 : decode cX3_remembered 19 = .ok (.lload 10, 2) := by decide +kernel
theorem dX3_remembered_21 : decode cX3_remembered 21 = .ok (.invokevirtual 60, 3) := by decide +kernel
theorem dX3_remembered_24 : decode cX3_remembered 24 = .ok (.istore 12, 2) := by decide +kernel
theorem dX3_remembered_26 : decode cX3_remembered 26 = .ok (.iload 12, 2) := by decide +kernel
theorem dX3_remembered_28 : decode cX3_remembered 28 = .ok (.ifCond .eq 15, 3) := by decide +kernel
theorem dX3_remembered_31 : decode cX3_remembered 31 = .ok (.aload_n 0, 1) := by decide +kernel
theorem dX3_remembered_32 : decode cX3_remembered 32 = .ok (.getfield 10, 3) := by decide +kernel
theorem dX3_remembered_35 : decode cX3_remembered 35 = .ok (.lload 10, 2) := by decide +kernel
theorem dX3_remembered_37 : decode cX3_remembered 37 = .ok (.invokevirtual 64, 3) := by decide +kernel
theorem dX3_remembered_40 : decode cX3_remembered 40 = .ok (.goto 10, 3) := by decide +kernel
theorem dX3_remembered_43 : decode cX3_remembered 43 = .ok (.aload_n 0, 1) := by decide +kernel
theorem dX3_remembered_44 : decode cX3_remembered 44 = .ok (.lload_n 1, 1) := by decide +kernel
theorem dX3_remembered_45 : decode cX3_remembered 45 = .ok (.iload 7, 2) := by decide +kernel
theorem dX3_remembered_47 : decode cX3_remembered 47 = .ok (.invokevirtual 67, 3) := by decide +kernel
theorem dX3_remembered_50 : decode cX3_remembered 50 = .ok (.istore 13, 2) := by decide +kernel
theorem dX3_remembered_52 : decode cX3_remembered 52 = .ok (.iload 12, 2) := by decide +kernel
theorem dX3_remembered_54 : decode cX3_remembered 54 = .ok (.ifCond .eq 15, 3) := by decide +kernel
theorem dX3_remembered_57 : decode cX3_remembered 57 = .ok (.aload_n 0, 1) := by decide +kernel
theorem dX3_remembered_58 : decode cX3_remembered 58 = .ok (.getfield 10, 3) := by decide +kernel
theorem dX3_remembered_61 : decode cX3_remembered 61 = .ok (.lload 10, 2) := by decide +kernel
theorem dX3_remembered_63 : decode cX3_remembered 63 = .ok (.invokevirtual 71, 3) := by decide +kernel
theorem dX3_remembered_66 : decode cX3_remembered 66 = .ok (.goto 10, 3) := by decide +kernel
theorem dX3_remembered_69 : decode cX3_remembered 69 = .ok (.aload_n 0, 1) := by decide +kernel
theorem dX3_remembered_70 : decode cX3_remembered 70 = .ok (.lload_n 3, 1) := by decide +kernel
theorem dX3_remembered_71 : decode cX3_remembered 71 = .ok (.iload 7, 2) := by decide +kernel
theorem dX3_remembered_73 : decode cX3_remembered 73 = .ok (.invokevirtual 74, 3) := by decide +kernel
theorem dX3_remembered_76 : decode cX3_remembered 76 = .ok (.istore 14, 2) := by decide +kernel
theorem dX3_remembered_78 : decode cX3_remembered 78 = .ok (.iload 13, 2) := by decide +kernel
theorem dX3_remembered_80 : decode cX3_remembered 80 = .ok (.iload 9, 2) := by decide +kernel
theorem dX3_remembered_82 : decode cX3_remembered 82 = .ok (.if_icmp .ge 10, 3) := by decide +kernel
theorem dX3_remembered_85 : decode cX3_remembered 85 = .ok (.iload 13, 2) := by decide +kernel
theorem dX3_remembered_87 : decode cX3_remembered 87 = .ok (.iload 14, 2) := by decide +kernel
theorem dX3_remembered_89 : decode cX3_remembered 89 = .ok (.if_icmp .lt 6, 3) := by decide +kernel
theorem dX3_remembered_92 : decode cX3_remembered 92 = .ok (.iload 13, 2) := by decide +kernel
theorem dX3_remembered_94 : decode cX3_remembered 94 = .ok (.ireturn, 1) := by decide +kernel
theorem dX3_remembered_95 : decode cX3_remembered 95 = .ok (.iload 14, 2) := by decide +kernel
theorem dX3_remembered_97 : decode cX3_remembered 97 = .ok (.iload 8, 2) := by decide +kernel
theorem dX3_remembered_99 : decode cX3_remembered 99 = .ok (.if_icmp .gt 6, 3) := by decide +kernel
theorem dX3_remembered_102 : decode cX3_remembered 102 = .ok (.iload 14, 2) := by decide +kernel
theorem dX3_remembered_104 : decode cX3_remembered 104 = .ok (.ireturn, 1) := by decide +kernel
theorem dX3_remembered_105 : decode cX3_remembered 105 = .ok (.iload 8, 2) := by decide +kernel
theorem dX3_remembered_107 : decode cX3_remembered 107 = .ok (.iload 13, 2) := by decide +kernel
theorem dX3_remembered_109 : decode cX3_remembered 109 = .ok (.invokestatic 77, 3) := by decide +kernel
theorem dX3_remembered_112 : decode cX3_remembered 112 = .ok (.istore 15, 2) := by decide +kernel
theorem dX3_remembered_114 : decode cX3_remembered 114 = .ok (.iload 9, 2) := by decide +kernel
theorem dX3_remembered_116 : decode cX3_remembered 116 = .ok (.iload 14, 2) := by decide +kernel
theorem dX3_remembered_118 : decode cX3_remembered 118 = .ok (.invokestatic 83, 3) := by decide +kernel
theorem dX3_remembered_121 : decode cX3_remembered 121 = .ok (.istore 16, 2) := by decide +kernel
theorem dX3_remembered_123 : decode cX3_remembered 123 = .ok (.aload_n 0, 1) := by decide +kernel
theorem dX3_remembered_124 : decode cX3_remembered 124 = .ok (.lload_n 1, 1) := by decide +kernel
theorem dX3_remembered_125 : decode cX3_remembered 125 = .ok (.lload_n 3, 1) := by decide +kernel
theorem dX3_remembered_126 : decode cX3_remembered 126 = .ok (.lload 5, 2) := by decide +kernel
theorem dX3_remembered_128 : decode cX3_remembered 128 = .ok (.iload 7, 2) := by decide +kernel
theorem dX3_remembered_130 : decode cX3_remembered 130 = .ok (.iload 15, 2) := by decide +kernel
theorem dX3_remembered_132 : decode cX3_remembered 132 = .ok (.iload 16, 2) := by decide +kernel
theorem dX3_remembered_134 : decode cX3_remembered 134 = .ok (.invokevirtual 86, 3) := by decide +kernel
theorem dX3_remembered_137 : decode cX3_remembered 137 = .ok (.istore 17, 2) := by decide +kernel
theorem dX3_remembered_139 : decode cX3_remembered 139 = .ok (.aload_n 0, 1) := by decide +kernel
theorem dX3_remembered_140 : decode cX3_remembered 140 = .ok (.getfield 10, 3) := by decide +kernel
theorem dX3_remembered_143 : decode cX3_remembered 143 = .ok (.lload 10, 2) := by decide +kernel
theorem dX3_remembered_145 : decode cX3_remembered 145 = .ok (.iload 17, 2) := by decide +kernel
theorem dX3_remembered_147 : decode cX3_remembered 147 = .ok (.iload 15, 2) := by decide +kernel
theorem dX3_remembered_149 : decode cX3_remembered 149 = .ok (.if_icmp .le 8, 3) := by decide +kernel
theorem dX3_remembered_152 : decode cX3_remembered 152 = .ok (.iload 17, 2) := by decide +kernel
theorem dX3_remembered_154 : decode cX3_remembered 154 = .ok (.goto 5, 3) := by decide +kernel
theorem dX3_remembered_157 : decode cX3_remembered 157 = .ok (.iload 13, 2) := by decide +kernel
theorem dX3_remembered_159 : decode cX3_remembered 159 = .ok (.iload 17, 2) := by decide +kernel
theorem dX3_remembered_161 : decode cX3_remembered 161 = .ok (.iload 16, 2) := by decide +kernel
theorem dX3_remembered_163 : decode cX3_remembered 163 = .ok (.if_icmp .ge 8, 3) := by decide +kernel
theorem dX3_remembered_166 : decode cX3_remembered 166 = .ok (.iload 17, 2) := by decide +kernel
theorem dX3_remembered_168 : decode cX3_remembered 168 = .ok (.goto 5, 3) := by decide +kernel
theorem dX3_remembered_171 : decode cX3_remembered 171 = .ok (.iload 14, 2) := by decide +kernel
theorem dX3_remembered_173 : decode cX3_remembered 173 = .ok (.invokevirtual 89, 3) := by decide +kernel
theorem dX3_remembered_176 : decode cX3_remembered 176 = .ok (.iload 17, 2) := by decide +kernel
theorem dX3_remembered_178 : decode cX3_remembered 178 = .ok (.ireturn, 1) := by decide +kernel
theorem dX3_leastAtFirst_0 : decode cX3_leastAtFirst 0 = .ok (.aload_n 0, 1) := by decide +kernel
theorem dX3_leastAtFirst_1 : decode cX3_leastAtFirst 1 = .ok (.getfield 16, 3) := by decide +kernel
theorem dX3_leastAtFirst_4 : decode cX3_leastAtFirst 4 = .ok (.aload_n 0, 1) := by decide +kernel
theorem dX3_leastAtFirst_5 : decode cX3_leastAtFirst 5 = .ok (.getfield 16, 3) := by decide +kernel
theorem dX3_leastAtFirst_8 : decode cX3_leastAtFirst 8 = .ok (.getfield 93, 3) := by decide +kernel
theorem dX3_leastAtFirst_11 : decode cX3_leastAtFirst 11 = .ok (.lload_n 1, 1) := by decide +kernel
theorem dX3_leastAtFirst_12 : decode cX3_leastAtFirst 12 = .ok (.ldc2_w 54, 3) := by decide +kernel
theorem dX3_leastAtFirst_15 : decode cX3_leastAtFirst 15 = .ok (.lxor, 1) := by decide +kernel
theorem dX3_leastAtFirst_16 : decode cX3_leastAtFirst 16 = .ok (.land, 1) := by decide +kernel
theorem dX3_leastAtFirst_17 : decode cX3_leastAtFirst 17 = .ok (.invokevirtual 96, 3) := by decide +kernel
theorem dX3_leastAtFirst_20 : decode cX3_leastAtFirst 20 = .ok (.ifCond .eq 9, 3) := by decide +kernel
theorem dX3_leastAtFirst_23 : decode cX3_leastAtFirst 23 = .ok (.iconst 3, 1) := by decide +kernel
theorem dX3_leastAtFirst_24 : decode cX3_leastAtFirst 24 = .ok (.iload_n 3, 1) := by decide +kernel
theorem dX3_leastAtFirst_25 : decode cX3_leastAtFirst 25 = .ok (.isub, 1) := by decide +kernel
theorem dX3_leastAtFirst_26 : decode cX3_leastAtFirst 26 = .ok (.goto 4, 3) := by decide +kernel
theorem dX3_leastAtFirst_29 : decode cX3_leastAtFirst 29 = .ok (.iconst 0, 1) := by decide +kernel
theorem dX3_leastAtFirst_30 : decode cX3_leastAtFirst 30 = .ok (.ireturn, 1) := by decide +kernel
theorem dX3_mostAtFirst_0 : decode cX3_mostAtFirst 0 = .ok (.aload_n 0, 1) := by decide +kernel
theorem dX3_mostAtFirst_1 : decode cX3_mostAtFirst 1 = .ok (.getfield 16, 3) := by decide +kernel
theorem dX3_mostAtFirst_4 : decode cX3_mostAtFirst 4 = .ok (.aload_n 0, 1) := by decide +kernel
theorem dX3_mostAtFirst_5 : decode cX3_mostAtFirst 5 = .ok (.getfield 16, 3) := by decide +kernel
theorem dX3_mostAtFirst_8 : decode cX3_mostAtFirst 8 = .ok (.getfield 93, 3) := by decide +kernel
theorem dX3_mostAtFirst_11 : decode cX3_mostAtFirst 11 = .ok (.lload_n 1, 1) := by decide +kernel
theorem dX3_mostAtFirst_12 : decode cX3_mostAtFirst 12 = .ok (.ldc2_w 54, 3) := by decide +kernel
theorem dX3_mostAtFirst_15 : decode cX3_mostAtFirst 15 = .ok (.lxor, 1) := by decide +kernel
theorem dX3_mostAtFirst_16 : decode cX3_mostAtFirst 16 = .ok (.land, 1) := by decide +kernel
theorem dX3_mostAtFirst_17 : decode cX3_mostAtFirst 17 = .ok (.invokevirtual 96, 3) := by decide +kernel
theorem dX3_mostAtFirst_20 : decode cX3_mostAtFirst 20 = .ok (.ifCond .eq 9, 3) := by decide +kernel
theorem dX3_mostAtFirst_23 : decode cX3_mostAtFirst 23 = .ok (.iload_n 3, 1) := by decide +kernel
theorem dX3_mostAtFirst_24 : decode cX3_mostAtFirst 24 = .ok (.iconst 2, 1) := by decide +kernel
theorem dX3_mostAtFirst_25 : decode cX3_mostAtFirst 25 = .ok (.isub, 1) := by decide +kernel
theorem dX3_mostAtFirst_26 : decode cX3_mostAtFirst 26 = .ok (.goto 4, 3) := by decide +kernel
theorem dX3_mostAtFirst_29 : decode cX3_mostAtFirst 29 = .ok (.iconst 0, 1) := by decide +kernel
theorem dX3_mostAtFirst_30 : decode cX3_mostAtFirst 30 = .ok (.ireturn, 1) := by decide +kernel
theorem dX3_tried_0 : decode cX3_tried 0 = .ok (.iload 8, 2) := by decide +kernel
theorem dX3_tried_2 : decode cX3_tried 2 = .ok (.istore 10, 2) := by decide +kernel
theorem dX3_tried_4 : decode cX3_tried 4 = .ok (.iconst 0, 1) := by decide +kernel
theorem dX3_tried_5 : decode cX3_tried 5 = .ok (.istore 11, 2) := by decide +kernel
theorem dX3_tried_7 : decode cX3_tried 7 = .ok (.iload 11, 2) := by decide +kernel
theorem dX3_tried_9 : decode cX3_tried 9 = .ok (.aload_n 0, 1) := by decide +kernel
theorem dX3_tried_10 : decode cX3_tried 10 = .ok (.getfield 16, 3) := by decide +kernel
theorem dX3_tried_13 : decode cX3_tried 13 = .ok (.getfield 20, 3) := by decide +kernel
theorem dX3_tried_16 : decode cX3_tried 16 = .ok (.if_icmp .ge 66, 3) := by decide +kernel
theorem dX3_tried_19 : decode cX3_tried 19 = .ok (.iload 10, 2) := by decide +kernel
theorem dX3_tried_21 : decode cX3_tried 21 = .ok (.iload 9, 2) := by decide +kernel
theorem dX3_tried_23 : decode cX3_tried 23 = .ok (.if_icmp .ge 59, 3) := by decide +kernel
theorem dX3_tried_26 : decode cX3_tried 26 = .ok (.lload 5, 2) := by decide +kernel
theorem dX3_tried_28 : decode cX3_tried 28 = .ok (.aload_n 0, 1) := by decide +kernel
theorem dX3_tried_29 : decode cX3_tried 29 = .ok (.getfield 26, 3) := by decide +kernel
theorem dX3_tried_32 : decode cX3_tried 32 = .ok (.iload 11, 2) := by decide +kernel
theorem dX3_tried_34 : decode cX3_tried 34 = .ok (.laload, 1) := by decide +kernel
theorem dX3_tried_35 : decode cX3_tried 35 = .ok (.land, 1) := by decide +kernel
theorem dX3_tried_36 : decode cX3_tried 36 = .ok (.lstore 12, 2) := by decide +kernel
theorem dX3_tried_38 : decode cX3_tried 38 = .ok (.lload 12, 2) := by decide +kernel
theorem dX3_tried_40 : decode cX3_tried 40 = .ok (.lconst 0, 1) := by decide +kernel
theorem dX3_tried_41 : decode cX3_tried 41 = .ok (.lcmp, 1) := by decide +kernel
theorem dX3_tried_42 : decode cX3_tried 42 = .ok (.ifCond .eq 34, 3) := by decide +kernel
theorem dX3_tried_45 : decode cX3_tried 45 = .ok (.aload_n 0, 1) := by decide +kernel
theorem dX3_tried_46 : decode cX3_tried 46 = .ok (.lload_n 3, 1) := by decide +kernel
theorem dX3_tried_47 : decode cX3_tried 47 = .ok (.lload_n 1, 1) := by decide +kernel
theorem dX3_tried_48 : decode cX3_tried 48 = .ok (.lload 12, 2) := by decide +kernel
theorem dX3_tried_50 : decode cX3_tried 50 = .ok (.lor, 1) := by decide +kernel
theorem dX3_tried_51 : decode cX3_tried 51 = .ok (.iload 7, 2) := by decide +kernel
theorem dX3_tried_53 : decode cX3_tried 53 = .ok (.iconst 1, 1) := by decide +kernel
theorem dX3_tried_54 : decode cX3_tried 54 = .ok (.isub, 1) := by decide +kernel
theorem dX3_tried_55 : decode cX3_tried 55 = .ok (.iload 9, 2) := by decide +kernel
theorem dX3_tried_57 : decode cX3_tried 57 = .ok (.ineg, 1) := by decide +kernel
theorem dX3_tried_58 : decode cX3_tried 58 = .ok (.iload 10, 2) := by decide +kernel
theorem dX3_tried_60 : decode cX3_tried 60 = .ok (.ineg, 1) := by decide +kernel
theorem dX3_tried_61 : decode cX3_tried 61 = .ok (.invokevirtual 99, 3) := by decide +kernel
theorem dX3_tried_64 : decode cX3_tried 64 = .ok (.ineg, 1) := by decide +kernel
theorem dX3_tried_65 : decode cX3_tried 65 = .ok (.istore 14, 2) := by decide +kernel
theorem dX3_tried_67 : decode cX3_tried 67 = .ok (.iload 10, 2) := by decide +kernel
theorem dX3_tried_69 : decode cX3_tried 69 = .ok (.iload 14, 2) := by decide +kernel
theorem dX3_tried_71 : decode cX3_tried 71 = .ok (.invokestatic 77, 3) := by decide +kernel
theorem dX3_tried_74 : decode cX3_tried 74 = .ok (.istore 10, 2) := by decide +kernel
theorem dX3_tried_76 : decode cX3_tried 76 = .ok (.iinc 11 1, 3) := by decide +kernel
theorem dX3_tried_79 : decode cX3_tried 79 = .ok (.goto (-72), 3) := by decide +kernel
theorem dX3_tried_82 : decode cX3_tried 82 = .ok (.iload 10, 2) := by decide +kernel
theorem dX3_tried_84 : decode cX3_tried 84 = .ok (.iload 9, 2) := by decide +kernel
theorem dX3_tried_86 : decode cX3_tried 86 = .ok (.invokestatic 83, 3) := by decide +kernel
theorem dX3_tried_89 : decode cX3_tried 89 = .ok (.ireturn, 1) := by decide +kernel
end
section
theorem dX4_init_0 : decode cX4_init 0 = .ok (.aload_n 0, 1) := by decide +kernel
theorem dX4_init_1 : decode cX4_init 1 = .ok (.invokespecial 1, 3) := by decide +kernel
theorem dX4_init_4 : decode cX4_init 4 = .ok (.aload_n 0, 1) := by decide +kernel
theorem dX4_init_5 : decode cX4_init 5 = .ok (.iconst 2, 1) := by decide +kernel
theorem dX4_init_6 : decode cX4_init 6 = .ok (.newarray .long, 2) := by decide +kernel
theorem dX4_init_8 : decode cX4_init 8 = .ok (.putfield 7, 3) := by decide +kernel
theorem dX4_init_11 : decode cX4_init 11 = .ok (.aload_n 0, 1) := by decide +kernel
theorem dX4_init_12 : decode cX4_init 12 = .ok (.iconst 0, 1) := by decide +kernel
theorem dX4_init_13 : decode cX4_init 13 = .ok (.putfield 13, 3) := by decide +kernel
theorem dX4_init_16 : decode cX4_init 16 = .ok (.iload_n 1, 1) := by decide +kernel
theorem dX4_init_17 : decode cX4_init 17 = .ok (.bipush 9, 2) := by decide +kernel
theorem dX4_init_19 : decode cX4_init 19 = .ok (.invokestatic 17, 3) := by decide +kernel
theorem dX4_init_22 : decode cX4_init 22 = .ok (.istore_n 3, 1) := by decide +kernel
theorem dX4_init_23 : decode cX4_init 23 = .ok (.iload_n 2, 1) := by decide +kernel
theorem dX4_init_24 : decode cX4_init 24 = .ok (.iload_n 3, 1) := by decide +kernel
theorem dX4_init_25 : decode cX4_init 25 = .ok (.bipush 9, 2) := by decide +kernel
theorem dX4_init_27 : decode cX4_init 27 = .ok (.if_icmp .ne 8, 3) := by decide +kernel
theorem dX4_init_30 : decode cX4_init 30 = .ok (.bipush 6, 2) := by decide +kernel
theorem dX4_init_32 : decode cX4_init 32 = .ok (.goto 5, 3) := by decide +kernel
theorem dX4_init_35 : decode cX4_init 35 = .ok (.bipush 7, 2) := by decide +kernel
theorem dX4_init_37 : decode cX4_init 37 = .ok (.invokestatic 17, 3) := by decide +kernel
theorem dX4_init_40 : decode cX4_init 40 = .ok (.istore 4, 2) := by decide +kernel
theorem dX4_init_42 : decode cX4_init 42 = .ok (.aload_n 0, 1) := by decide +kernel
theorem dX4_init_43 : decode cX4_init 43 = .ok (.new 21, 3) := by decide +kernel
theorem dX4_init_46 : decode cX4_init 46 = .ok (.dup, 1) := by decide +kernel
theorem dX4_init_47 : decode cX4_init 47 = .ok (.iload_n 3, 1) := by decide +kernel
theorem dX4_init_48 : decode cX4_init 48 = .ok (.iload 4, 2) := by decide +kernel
theorem dX4_init_50 : decode cX4_init 50 = .ok (.invokespecial 23, 3) := by decide +kernel
theorem dX4_init_53 : decode cX4_init 53 = .ok (.putfield 26, 3) := by decide +kernel
theorem dX4_init_56 : decode cX4_init 56 = .ok (.aload_n 0, 1) := by decide +kernel
theorem dX4_init_57 : decode cX4_init 57 = .ok (.new 30, 3) := by decide +kernel
theorem dX4_init_60 : decode cX4_init 60 = .ok (.dup, 1) := by decide +kernel
theorem dX4_init_61 : decode cX4_init 61 = .ok (.aload_n 0, 1) := by decide +kernel
theorem dX4_init_62 : decode cX4_init 62 = .ok (.getfield 26, 3) := by decide +kernel
theorem dX4_init_65 : decode cX4_init 65 = .ok (.invokespecial 32, 3) := by decide +kernel
theorem dX4_init_68 : decode cX4_init 68 = .ok (.putfield 35, 3) := by decide +kernel
theorem dX4_init_71 : decode cX4_init 71 = .ok (.aload_n 0, 1) := by decide +kernel
theorem dX4_init_72 : decode cX4_init 72 = .ok (.new 39, 3) := by decide +kernel
theorem dX4_init_75 : decode cX4_init 75 = .ok (.dup, 1) := by decide +kernel
theorem dX4_init_76 : decode cX4_init 76 = .ok (.aload_n 0, 1) := by decide +kernel
theorem dX4_init_77 : decode cX4_init 77 = .ok (.getfield 26, 3) := by decide +kernel
theorem dX4_init_80 : decode cX4_init 80 = .ok (.invokespecial 41, 3) := by decide +kernel
theorem dX4_init_83 : decode cX4_init 83 = .ok (.putfield 42, 3) := by decide +kernel
theorem dX4_init_86 : decode cX4_init 86 = .ok (.aload_n 0, 1) := by decide +kernel
theorem dX4_init_87 : decode cX4_init 87 = .ok (.iload_n 3, 1) := by decide +kernel
theorem dX4_init_88 : decode cX4_init 88 = .ok (.newarray .int, 2) := by decide +kernel
theorem dX4_init_90 : decode cX4_init 90 = .ok (.putfield 46, 3) := by decide +kernel
theorem dX4_init_93 : decode cX4_init 93 = .ok (.aload_n 0, 1) := by decide +kernel
theorem dX4_init_94 : decode cX4_init 94 = .ok (.iload_n 3, 1) := by decide +kernel
theorem dX4_init_95 : decode cX4_init 95 = .ok (.iload 4, 2) := by decide +kernel
theorem dX4_init_97 : decode cX4_init 97 = .ok (.imul, 1) := by decide +kernel
theorem dX4_init_98 : decode cX4_init 98 = .ok (.newarray .int, 2) := by decide +kernel
theorem dX4_init_100 : decode cX4_init 100 = .ok (.putfield 50, 3) := by decide +kernel
theorem dX4_init_103 : decode cX4_init 103 = .ok (.return_, 1) := by decide +kernel
theorem dX4_drop_0 : decode cX4_drop 0 = .ok (.aload_n 0, 1) := by decide +kernel
theorem dX4_drop_1 : decode cX4_drop 1 = .ok (.iload_n 1, 1) := by decide +kernel
theorem dX4_drop_2 : decode cX4_drop 2 = .ok (.invokevirtual 53, 3) := by decide +kernel
theorem dX4_drop_5 : decode cX4_drop 5 = .ok (.ifCond .ne 13, 3) := by decide +kernel
theorem dX4_drop_8 : decode cX4_drop 8 = .ok (.new 57, 3) := by decide +kernel
theorem dX4_drop_11 : decode cX4_drop 11 = .ok (.dup, 1) := by decide +kernel
theorem dX4_drop_12 : decode cX4_drop 12 = .ok (.ldc 59, 2) := by decide +kernel
theorem dX4_drop_14 : decode cX4_drop 14 = .ok (.invokespecial 61, 3) := by decide +kernel
theorem dX4_drop_17 : decode cX4_drop 17 = .ok (.athrow, 1) := by decide +kernel
theorem dX4_drop_18 : decode cX4_drop 18 = .ok (.aload_n 0, 1) := by decide +kernel
theorem dX4_drop_19 : decode cX4_drop 19 = .ok (.invokevirtual 64, 3) := by decide +kernel
theorem dX4_drop_22 : decode cX4_drop 22 = .ok (.ifCond .ne 11, 3) := by decide +kernel
theorem dX4_drop_25 : decode cX4_drop 25 = .ok (.aload_n 0, 1) := by decide +kernel
theorem dX4_drop_26 : decode cX4_drop 26 = .ok (.iload_n 1, 1) := by decide +kernel
theorem dX4_drop_27 : decode cX4_drop 27 = .ok (.invokevirtual 68, 3) := by decide +kernel
theorem dX4_drop_30 : decode cX4_drop 30 = .ok (.ifCond .eq 13, 3) := by decide +kernel
theorem dX4_drop_33 : decode cX4_drop 33 = .ok (.new 71, 3) := by decide +kernel
theorem dX4_drop_36 : decode cX4_drop 36 = .ok (.dup, 1) := by decide +kernel
theorem dX4_drop_37 : decode cX4_drop 37 = .ok (.ldc 73, 2) := by decide +kernel
theorem dX4_drop_39 : decode cX4_drop 39 = .ok (.invokespecial 75, 3) := by decide +kernel
theorem dX4_drop_42 : decode cX4_drop 42 = .ok (.athrow, 1) := by decide +kernel
theorem dX4_drop_43 : decode cX4_drop 43 = .ok (.aload_n 0, 1) := by decide +kernel
theorem dX4_drop_44 : decode cX4_drop 44 = .ok (.getfield 46, 3) := by decide +kernel
theorem dX4_drop_47 : decode cX4_drop 47 = .ok (.iload_n 1, 1) := by decide +kernel
theorem dX4_drop_48 : decode cX4_drop 48 = .ok (.iaload, 1) := by decide +kernel
theorem dX4_drop_49 : decode cX4_drop 49 = .ok (.istore_n 2, 1) := by decide +kernel
theorem dX4_drop_50 : decode cX4_drop 50 = .ok (.aload_n 0, 1) := by decide +kernel
theorem dX4_drop_51 : decode cX4_drop 51 = .ok (.getfield 7, 3) := by decide +kernel
theorem dX4_drop_54 : decode cX4_drop 54 = .ok (.aload_n 0, 1) := by decide +kernel
theorem dX4_drop_55 : decode cX4_drop 55 = .ok (.invokevirtual 76, 3) := by decide +kernel
theorem dX4_drop_58 : decode cX4_drop 58 = .ok (.dup2, 1) := by decide +kernel
theorem dX4_drop_59 : decode cX4_drop 59 = .ok (.laload, 1) := by decide +kernel
theorem dX4_drop_60 : decode cX4_drop 60 = .ok (.aload_n 0, 1) := by decide +kernel
theorem dX4_drop_61 : decode cX4_drop 61 = .ok (.getfield 26, 3) := by decide +kernel
theorem dX4_drop_64 : decode cX4_drop 64 = .ok (.iload_n 1, 1) := by decide +kernel
theorem dX4_drop_65 : decode cX4_drop 65 = .ok (.iload_n 2, 1) := by decide +kernel
theorem dX4_drop_66 : decode cX4_drop 66 = .ok (.invokevirtual 80, 3) := by decide +kernel
theorem dX4_drop_69 : decode cX4_drop 69 = .ok (.lor, 1) := by decide +kernel
theorem dX4_drop_70 : decode cX4_drop 70 = .ok (.lastore, 1) := by decide +kernel
theorem dX4_drop_71 : decode cX4_drop 71 = .ok (.aload_n 0, 1) := by decide +kernel
theorem dX4_drop_72 : decode cX4_drop 72 = .ok (.getfield 46, 3) := by decide +kernel
theorem dX4_drop_75 : decode cX4_drop 75 = .ok (.iload_n 1, 1) := by decide +kernel
theorem dX4_drop_76 : decode cX4_drop 76 = .ok (.dup2, 1) := by decide +kernel
theorem dX4_drop_77 : decode cX4_drop 77 = .ok (.iaload, 1) := by decide +kernel
theorem dX4_drop_78 : decode cX4_drop 78 = .ok (.iconst 1, 1) := by decide +kernel
theorem dX4_drop_79 : decode cX4_drop 79 = .ok (.iadd, 1) := by decide +kernel
theorem dX4_drop_80 : decode cX4_drop 80 = .ok (.iastore, 1) := by decide +kernel
theorem dX4_drop_81 : decode cX4_drop 81 = .ok (.aload_n 0, 1) := by decide +kernel
theorem dX4_drop_82 : decode cX4_drop 82 = .ok (.getfield 50, 3) := by decide +kernel
theorem dX4_drop_85 : decode cX4_drop 85 = .ok (.aload_n 0, 1) := by decide +kernel
theorem dX4_drop_86 : decode cX4_drop 86 = .ok (.getfield 13, 3) := by decide +kernel
theorem dX4_drop_89 : decode cX4_drop 89 = .ok (.iload_n 1, 1) := by decide +kernel
theorem dX4_drop_90 : decode cX4_drop 90 = .ok (.iastore, 1) := by decide +kernel
theorem dX4_drop_91 : decode cX4_drop 91 = .ok (.aload_n 0, 1) := by decide +kernel
theorem dX4_drop_92 : decode cX4_drop 92 = .ok (.dup, 1) := by decide +kernel
theorem dX4_drop_93 : decode cX4_drop 93 = .ok (.getfield 13, 3) := by decide +kernel
theorem dX4_drop_96 : decode cX4_drop 96 = .ok (.iconst 1, 1) := by decide +kernel
theorem dX4_drop_97 : decode cX4_drop 97 = .ok (.iadd, 1) := by decide +kernel
theorem dX4_drop_98 : decode cX4_drop 98 = .ok (.putfield 13, 3) := by decide +kernel
theorem dX4_drop_101 : decode cX4_drop 101 = .ok (.iload_n 2, 1) := by decide +kernel
theorem dX4_drop_102 : decode cX4_drop 102 = .ok (.ireturn, 1) := by decide +kernel
theorem dX4_back_0 : decode cX4_back 0 = .ok (.aload_n 0, 1) := by decide +kernel
theorem dX4_back_1 : decode cX4_back 1 = .ok (.getfield 13, 3) := by decide +kernel
theorem dX4_back_4 : decode cX4_back 4 = .ok (.ifCond .ne 13, 3) := by decide +kernel
theorem dX4_back_7 : decode cX4_back 7 = .ok (.new 71, 3) := by decide +kernel
theorem dX4_back_10 : decode cX4_back 10 = .ok (.dup, 1) := by decide +kernel
theorem dX4_back_11 : decode cX4_back 11 = .ok (.ldc 84, 2) := by decide +kernel
theorem dX4_back_13 : decode cX4_back 13 = .ok (.invokespecial 75, 3) := by decide +kernel
theorem dX4_back_16 : decode cX4_back 16 = .ok (.athrow, 1) := by decide +kernel
theorem dX4_back_17 : decode cX4_back 17 = .ok (.aload_n 0, 1) := by decide +kernel
theorem dX4_back_18 : decode cX4_back 18 = .ok (.dup, 1) := by decide +kernel
theorem dX4_back_19 : decode cX4_back 19 = .ok (.getfield 13, 3) := by decide +kernel
theorem dX4_back_22 : decode cX4_back 22 = .ok (.iconst 1, 1) := by decide +kernel
theorem dX4_back_23 : decode cX4_back 23 = .ok (.isub, 1) := by decide +kernel
theorem dX4_back_24 : decode cX4_back 24 = .ok (.putfield 13, 3) := by decide +kernel
theorem dX4_back_27 : decode cX4_back 27 = .ok (.aload_n 0, 1) := by decide +kernel
theorem dX4_back_28 : decode cX4_back 28 = .ok (.getfield 50, 3) := by decide +kernel
theorem dX4_back_31 : decode cX4_back 31 = .ok (.aload_n 0, 1) := by decide +kernel
theorem dX4_back_32 : decode cX4_back 32 = .ok (.getfield 13, 3) := by decide +kernel
theorem dX4_back_35 : decode cX4_back 35 = .ok (.iaload, 1) := by decide +kernel
theorem dX4_back_36 : decode cX4_back 36 = .ok (.istore_n 1, 1) := by decide +kernel
theorem dX4_back_37 : decode cX4_back 37 = .ok (.aload_n 0, 1) := by decide +kernel
theorem dX4_back_38 : decode cX4_back 38 = .ok (.getfield 46, 3) := by decide +kernel
theorem dX4_back_41 : decode cX4_back 41 = .ok (.iload_n 1, 1) := by decide +kernel
theorem dX4_back_42 : decode cX4_back 42 = .ok (.dup2, 1) := by decide +kernel
theorem dX4_back_43 : decode cX4_back 43 = .ok (.iaload, 1) := by decide +kernel
theorem dX4_back_44 : decode cX4_back 44 = .ok (.iconst 1, 1) := by decide +kernel
theorem dX4_back_45 : decode cX4_back 45 = .ok (.isub, 1) := by decide +kernel
theorem dX4_back_46 : decode cX4_back 46 = .ok (.iastore, 1) := by decide +kernel
theorem dX4_back_47 : decode cX4_back 47 = .ok (.aload_n 0, 1) := by decide +kernel
theorem dX4_back_48 : decode cX4_back 48 = .ok (.getfield 7, 3) := by decide +kernel
theorem dX4_back_51 : decode cX4_back 51 = .ok (.aload_n 0, 1) := by decide +kernel
theorem dX4_back_52 : decode cX4_back 52 = .ok (.invokevirtual 76, 3) := by decide +kernel
theorem dX4_back_55 : decode cX4_back 55 = .ok (.dup2, 1) := by decide +kernel
theorem dX4_back_56 : decode cX4_back 56 = .ok (.laload, 1) := by decide +kernel
theorem dX4_back_57 : decode cX4_back 57 = .ok (.aload_n 0, 1) := by decide +kernel
theorem dX4_back_58 : decode cX4_back 58 = .ok (.getfield 26, 3) := by decide +kernel
theorem dX4_back_61 : decode cX4_back 61 = .ok (.iload_n 1, 1) := by decide +kernel
theorem dX4_back_62 : decode cX4_back 62 = .ok (.aload_n 0, 1) := by decide +kernel
theorem dX4_back_63 : decode cX4_back 63 = .ok (.getfield 46, 3) := by decide +kernel
theorem dX4_back_66 : decode cX4_back 66 = .ok (.iload_n 1, 1) := by decide +kernel
theorem dX4_back_67 : decode cX4_back 67 = .ok (.iaload, 1) := by decide +kernel
theorem dX4_back_68 : decode cX4_back 68 = .ok (.invokevirtual 80, 3) := by decide +kernel
theorem dX4_back_71 : decode cX4_back 71 = .ok (.ldc2_w 86, 3) := by decide +kernel
theorem dX4_back_74 : decode cX4_back 74 = .ok (.lxor, 1) := by decide +kernel
theorem dX4_back_75 : decode cX4_back 75 = .ok (.land, 1) := by decide +kernel
theorem dX4_back_76 : decode cX4_back 76 = .ok (.lastore, 1) := by decide +kernel
theorem dX4_back_77 : decode cX4_back 77 = .ok (.iload_n 1, 1) := by decide +kernel
theorem dX4_back_78 : decode cX4_back 78 = .ok (.ireturn, 1) := by decide +kernel
theorem dX4_turn_0 : decode cX4_turn 0 = .ok (.aload_n 0, 1) := by decide +kernel
theorem dX4_turn_1 : decode cX4_turn 1 = .ok (.getfield 13, 3) := by decide +kernel
theorem dX4_turn_4 : decode cX4_turn 4 = .ok (.iconst 2, 1) := by decide +kernel
theorem dX4_turn_5 : decode cX4_turn 5 = .ok (.irem, 1) := by decide +kernel
theorem dX4_turn_6 : decode cX4_turn 6 = .ok (.ireturn, 1) := by decide +kernel
theorem dX4_winner_0 : decode cX4_winner 0 = .ok (.aload_n 0, 1) := by decide +kernel
theorem dX4_winner_1 : decode cX4_winner 1 = .ok (.getfield 26, 3) := by decide +kernel
theorem dX4_winner_4 : decode cX4_winner 4 = .ok (.aload_n 0, 1) := by decide +kernel
theorem dX4_winner_5 : decode cX4_winner 5 = .ok (.getfield 7, 3) := by decide +kernel
theorem dX4_winner_8 : decode cX4_winner 8 = .ok (.iconst 0, 1) := by decide +kernel
theorem dX4_winner_9 : decode cX4_winner 9 = .ok (.laload, 1) := by decide +kernel
theorem dX4_winner_10 : decode cX4_winner 10 = .ok (.invokevirtual 88, 3) := by decide +kernel
theorem dX4_winner_13 : decode cX4_winner 13 = .ok (.ifCond .eq 5, 3) := by decide +kernel
theorem dX4_winner_16 : decode cX4_winner 16 = .ok (.iconst 0, 1) := by decide +kernel
theorem dX4_winner_17 : decode cX4_winner 17 = .ok (.ireturn, 1) := by decide +kernel
theorem dX4_winner_18 : decode cX4_winner 18 = .ok (.aload_n 0, 1) := by decide +kernel
theorem dX4_winner_19 : decode cX4_winner 19 = .ok (.getfield 26, 3) := by decide +kernel
theorem dX4_winner_22 : decode cX4_winner 22 = .ok (.aload_n 0, 1) := by decide +kernel
theorem dX4_winner_23 : decode cX4_winner 23 = .ok (.getfield 7, 3) := by decide +kernel
theorem dX4_winner_26 : decode cX4_winner 26 = .ok (.iconst 1, 1) := by decide +kernel
theorem dX4_winner_27 : decode cX4_winner 27 = .ok (.laload, 1) := by decide +kernel
theorem dX4_winner_28 : decode cX4_winner 28 = .ok (.invokevirtual 88, 3) := by decide +kernel
theorem dX4_winner_31 : decode cX4_winner 31 = .ok (.ifCond .eq 5, 3) := by decide +kernel
theorem dX4_winner_34 : decode cX4_winner 34 = .ok (.iconst 1, 1) := by decide +kernel
theorem dX4_winner_35 : decode cX4_winner 35 = .ok (.ireturn, 1) := by decide +kernel
theorem dX4_winner_36 : decode cX4_winner 36 = .ok (.aload_n 0, 1) := by decide +kernel
theorem dX4_winner_37 : decode cX4_winner 37 = .ok (.invokevirtual 92, 3) := by decide +kernel
theorem dX4_winner_40 : decode cX4_winner 40 = .ok (.ifCond .ne 7, 3) := by decide +kernel
theorem dX4_winner_43 : decode cX4_winner 43 = .ok (.iconst 2, 1) := by decide +kernel
theorem dX4_winner_44 : decode cX4_winner 44 = .ok (.goto 4, 3) := by decide +kernel
theorem dX4_winner_47 : decode cX4_winner 47 = .ok (.iconst (-1), 1) := by decide +kernel
theorem dX4_winner_48 : decode cX4_winner 48 = .ok (.ireturn, 1) := by decide +kernel
theorem dX4_at_0 : decode cX4_at 0 = .ok (.aload_n 0, 1) := by decide +kernel
theorem dX4_at_1 : decode cX4_at 1 = .ok (.iload_n 1, 1) := by decide +kernel
theorem dX4_at_2 : decode cX4_at 2 = .ok (.invokevirtual 53, 3) := by decide +kernel
theorem dX4_at_5 : decode cX4_at 5 = .ok (.ifCond .eq 18, 3) := by decide +kernel
theorem dX4_at_8 : decode cX4_at 8 = .ok (.iload_n 2, 1) := by decide +kernel
theorem dX4_at_9 : decode cX4_at 9 = .ok (.ifCond .lt 14, 3) := by decide +kernel
theorem dX4_at_12 : decode cX4_at 12 = .ok (.iload_n 2, 1) := by decide +kernel
theorem dX4_at_13 : decode cX4_at 13 = .ok (.aload_n 0, 1) := by decide +kernel
theorem dX4_at_14 : decode cX4_at 14 = .ok (.getfield 26, 3) := by decide +kernel
theorem dX4_at_17 : decode cX4_at 17 = .ok (.getfield 95, 3) := by decide +kernel
theorem dX4_at_20 : decode cX4_at 20 = .ok (.if_icmp .lt 13, 3) := by decide +kernel
theorem dX4_at_23 : decode cX4_at 23 = .ok (.new 98, 3) := by decide +kernel
theorem dX4_at_26 : decode cX4_at 26 = .ok (.dup, 1) := by decide +kernel
theorem dX4_at_27 : decode cX4_at 27 = .ok (.ldc 100, 2) := by decide +kernel
theorem dX4_at_29 : decode cX4_at 29 = .ok (.invokespecial 102, 3) := by decide +kernel
theorem dX4_at_32 : decode cX4_at 32 = .ok (.athrow, 1) := by decide +kernel
theorem dX4_at_33 : decode cX4_at 33 = .ok (.aload_n 0, 1) := by decide +kernel
theorem dX4_at_34 : decode cX4_at 34 = .ok (.getfield 26, 3) := by decide +kernel
theorem dX4_at_37 : decode cX4_at 37 = .ok (.iload_n 1, 1) := by decide +kernel
theorem dX4_at_38 : decode cX4_at 38 = .ok (.iload_n 2, 1) := by decide +kernel
theorem dX4_at_39 : decode cX4_at 39 = .ok (.invokevirtual 80, 3) := by decide +kernel
theorem dX4_at_42 : decode cX4_at 42 = .ok (.lstore_n 3, 1) := by decide +kernel
theorem dX4_at_43 : decode cX4_at 43 = .ok (.aload_n 0, 1) := by decide +kernel
theorem dX4_at_44 : decode cX4_at 44 = .ok (.getfield 7, 3) := by decide +kernel
theorem dX4_at_47 : decode cX4_at 47 = .ok (.iconst 0, 1) := by decide +kernel
theorem dX4_at_48 : decode cX4_at 48 = .ok (.laload, 1) := by decide +kernel
theorem dX4_at_49 : decode cX4_at 49 = .ok (.lload_n 3, 1) := by decide +kernel
theorem dX4_at_50 : decode cX4_at 50 = .ok (.land, 1) := by decide +kernel
theorem dX4_at_51 : decode cX4_at 51 = .ok (.lconst 0, 1) := by decide +kernel
theorem dX4_at_52 : decode cX4_at 52 = .ok (.lcmp, 1) := by decide +kernel
theorem dX4_at_53 : decode cX4_at 53 = .ok (.ifCond .eq 5, 3) := by decide +kernel
theorem dX4_at_56 : decode cX4_at 56 = .ok (.iconst 0, 1) := by decide +kernel
theorem dX4_at_57 : decode cX4_at 57 = .ok (.ireturn, 1) := by decide +kernel
theorem dX4_at_58 : decode cX4_at 58 = .ok (.aload_n 0, 1) := by decide +kernel
theorem dX4_at_59 : decode cX4_at 59 = .ok (.getfield 7, 3) := by decide +kernel
theorem dX4_at_62 : decode cX4_at 62 = .ok (.iconst 1, 1) := by decide +kernel
theorem dX4_at_63 : decode cX4_at 63 = .ok (.laload, 1) := by decide +kernel
theorem dX4_at_64 : decode cX4_at 64 = .ok (.lload_n 3, 1) := by decide +kernel
theorem dX4_at_65 : decode cX4_at 65 = .ok (.land, 1) := by decide +kernel
theorem dX4_at_66 : decode cX4_at 66 = .ok (.lconst 0, 1) := by decide +kernel
theorem dX4_at_67 : decode cX4_at 67 = .ok (.lcmp, 1) := by decide +kernel
theorem dX4_at_68 : decode cX4_at 68 = .ok (.ifCond .eq 7, 3) := by decide +kernel
theorem dX4_at_71 : decode cX4_at 71 = .ok (.iconst 1, 1) := by decide +kernel
theorem dX4_at_72 : decode cX4_at 72 = .ok (.goto 4, 3) := by decide +kernel
theorem dX4_at_75 : decode cX4_at 75 = .ok (.iconst (-1), 1) := by decide +kernel
theorem dX4_at_76 : decode cX4_at 76 = .ok (.ireturn, 1) := by decide +kernel
theorem dX4_empty_0 : decode cX4_empty 0 = .ok (.aload_n 0, 1) := by decide +kernel
theorem dX4_empty_1 : decode cX4_empty 1 = .ok (.getfield 50, 3) := by decide +kernel
theorem dX4_empty_4 : decode cX4_empty 4 = .ok (.arraylength, 1) := by decide +kernel
theorem dX4_empty_5 : decode cX4_empty 5 = .ok (.aload_n 0, 1) := by decide +kernel
theorem dX4_empty_6 : decode cX4_empty 6 = .ok (.getfield 13, 3) := by decide +kernel
theorem dX4_empty_9 : decode cX4_empty 9 = .ok (.isub, 1) := by decide +kernel
theorem dX4_empty_10 : decode cX4_empty 10 = .ok (.ireturn, 1) := by decide +kernel
theorem dX4_open_0 : decode cX4_open 0 = .ok (.iload_n 1, 1) := by decide +kernel
theorem dX4_open_1 : decode cX4_open 1 = .ok (.invokestatic 103, 3) := by decide +kernel
theorem dX4_open_4 : decode cX4_open 4 = .ok (.ifCond .ne 13, 3) := by decide +kernel
theorem dX4_open_7 : decode cX4_open 7 = .ok (.new 57, 3) := by decide +kernel
theorem dX4_open_10 : decode cX4_open 10 = .ok (.dup, 1) := by decide +kernel
theorem dX4_open_11 : decode cX4_open 11 = .ok (.ldc 106, 2) := by decide +kernel
theorem dX4_open_13 : decode cX4_open 13 = .ok (.invokespecial 61, 3) := by decide +kernel
theorem dX4_open_16 : decode cX4_open 16 = .ok (.athrow, 1) := by decide +kernel
theorem dX4_open_17 : decode cX4_open 17 = .ok (.aload_n 0, 1) := by decide +kernel
theorem dX4_open_18 : decode cX4_open 18 = .ok (.getfield 26, 3) := by decide +kernel
theorem dX4_open_21 : decode cX4_open 21 = .ok (.aload_n 0, 1) := by decide +kernel
theorem dX4_open_22 : decode cX4_open 22 = .ok (.getfield 26, 3) := by decide +kernel
theorem dX4_open_25 : decode cX4_open 25 = .ok (.getfield 108, 3) := by decide +kernel
theorem dX4_open_28 : decode cX4_open 28 = .ok (.aload_n 0, 1) := by decide +kernel
theorem dX4_open_29 : decode cX4_open 29 = .ok (.getfield 7, 3) := by decide +kernel
theorem dX4_open_32 : decode cX4_open 32 = .ok (.iconst 1, 1) := by decide +kernel
theorem dX4_open_33 : decode cX4_open 33 = .ok (.iload_n 1, 1) := by decide +kernel
theorem dX4_open_34 : decode cX4_open 34 = .ok (.isub, 1) := by decide +kernel
theorem dX4_open_35 : decode cX4_open 35 = .ok (.laload, 1) := by decide +kernel
theorem dX4_open_36 : decode cX4_open 36 = .ok (.ldc2_w 86, 3) := by decide +kernel
theorem dX4_open_39 : decode cX4_open 39 = .ok (.lxor, 1) := by decide +kernel
theorem dX4_open_40 : decode cX4_open 40 = .ok (.land, 1) := by decide +kernel
theorem dX4_open_41 : decode cX4_open 41 = .ok (.invokevirtual 112, 3) := by decide +kernel
theorem dX4_open_44 : decode cX4_open 44 = .ok (.ireturn, 1) := by decide +kernel
theorem dX4_threats_0 : decode cX4_threats 0 = .ok (.iload_n 1, 1) := by decide +kernel
theorem dX4_threats_1 : decode cX4_threats 1 = .ok (.invokestatic 103, 3) := by decide +kernel
theorem dX4_threats_4 : decode cX4_threats 4 = .ok (.ifCond .ne 13, 3) := by decide +kernel
theorem dX4_threats_7 : decode cX4_threats 7 = .ok (.new 57, 3) := by decide +kernel
theorem dX4_threats_10 : decode cX4_threats 10 = .ok (.dup, 1) := by decide +kernel
theorem dX4_threats_11 : decode cX4_threats 11 = .ok (.ldc 106, 2) := by decide +kernel
theorem dX4_threats_13 : decode cX4_threats 13 = .ok (.invokespecial 61, 3) := by decide +kernel
theorem dX4_threats_16 : decode cX4_threats 16 = .ok (.athrow, 1) := by decide +kernel
theorem dX4_threats_17 : decode cX4_threats 17 = .ok (.aload_n 0, 1) := by decide +kernel
theorem dX4_threats_18 : decode cX4_threats 18 = .ok (.getfield 26, 3) := by decide +kernel
theorem dX4_threats_21 : decode cX4_threats 21 = .ok (.aload_n 0, 1) := by decide +kernel
theorem dX4_threats_22 : decode cX4_threats 22 = .ok (.getfield 7, 3) := by decide +kernel
theorem dX4_threats_25 : decode cX4_threats 25 = .ok (.iload_n 1, 1) := by decide +kernel
theorem dX4_threats_26 : decode cX4_threats 26 = .ok (.laload, 1) := by decide +kernel
theorem dX4_threats_27 : decode cX4_threats 27 = .ok (.aload_n 0, 1) := by decide +kernel
theorem dX4_threats_28 : decode cX4_threats 28 = .ok (.invokevirtual 116, 3) := by decide +kernel
theorem dX4_threats_31 : decode cX4_threats 31 = .ok (.invokevirtual 120, 3) := by decide +kernel
theorem dX4_threats_34 : decode cX4_threats 34 = .ok (.invokestatic 124, 3) := by decide +kernel
theorem dX4_threats_37 : decode cX4_threats 37 = .ok (.ireturn, 1) := by decide +kernel
theorem dX4_value_0 : decode cX4_value 0 = .ok (.aload_n 0, 1) := by decide +kernel
theorem dX4_value_1 : decode cX4_value 1 = .ok (.invokevirtual 129, 3) := by decide +kernel
theorem dX4_value_4 : decode cX4_value 4 = .ok (.ifCond .ne 13, 3) := by decide +kernel
theorem dX4_value_7 : decode cX4_value 7 = .ok (.new 71, 3) := by decide +kernel
theorem dX4_value_10 : decode cX4_value 10 = .ok (.dup, 1) := by decide +kernel
theorem dX4_value_11 : decode cX4_value 11 = .ok (.ldc 132, 2) := by decide +kernel
theorem dX4_value_13 : decode cX4_value 13 = .ok (.invokespecial 75, 3) := by decide +kernel
theorem dX4_value_16 : decode cX4_value 16 = .ok (.athrow, 1) := by decide +kernel
theorem dX4_value_17 : decode cX4_value 17 = .ok (.aload_n 0, 1) := by decide +kernel
theorem dX4_value_18 : decode cX4_value 18 = .ok (.aload_n 0, 1) := by decide +kernel
theorem dX4_value_19 : decode cX4_value 19 = .ok (.getfield 35, 3) := by decide +kernel
theorem dX4_value_22 : decode cX4_value 22 = .ok (.aload_n 0, 1) := by decide +kernel
theorem dX4_value_23 : decode cX4_value 23 = .ok (.invokevirtual 134, 3) := by decide +kernel
theorem dX4_value_26 : decode cX4_value 26 = .ok (.aload_n 0, 1) := by decide +kernel
theorem dX4_value_27 : decode cX4_value 27 = .ok (.invokevirtual 137, 3) := by decide +kernel
theorem dX4_value_30 : decode cX4_value 30 = .ok (.aload_n 0, 1) := by decide +kernel
theorem dX4_value_31 : decode cX4_value 31 = .ok (.invokevirtual 92, 3) := by decide +kernel
theorem dX4_value_34 : decode cX4_value 34 = .ok (.aload_n 0, 1) := by decide +kernel
theorem dX4_value_35 : decode cX4_value 35 = .ok (.invokevirtual 92, 3) := by decide +kernel
theorem dX4_value_38 : decode cX4_value 38 = .ok (.ineg, 1) := by decide +kernel
theorem dX4_value_39 : decode cX4_value 39 = .ok (.aload_n 0, 1) := by decide +kernel
theorem dX4_value_40 : decode cX4_value 40 = .ok (.invokevirtual 92, 3) := by decide +kernel
theorem dX4_value_43 : decode cX4_value 43 = .ok (.invokevirtual 140, 3) := by decide +kernel
theorem dX4_value_46 : decode cX4_value 46 = .ok (.invokevirtual 144, 3) := by decide +kernel
theorem dX4_value_49 : decode cX4_value 49 = .ok (.ireturn, 1) := by decide +kernel
theorem dX4_valueOf_0 : decode cX4_valueOf 0 = .ok (.aload_n 0, 1) := by decide +kernel
theorem dX4_valueOf_1 : decode cX4_valueOf 1 = .ok (.iload_n 1, 1) := by decide +kernel
theorem dX4_valueOf_2 : decode cX4_valueOf 2 = .ok (.invokevirtual 53, 3) := by decide +kernel
theorem dX4_valueOf_5 : decode cX4_valueOf 5 = .ok (.ifCond .ne 13, 3) := by decide +kernel
theorem dX4_valueOf_8 : decode cX4_valueOf 8 = .ok (.new 57, 3) := by decide +kernel
theorem dX4_valueOf_11 : decode cX4_valueOf 11 = .ok (.dup, 1) := by decide +kernel
theorem dX4_valueOf_12 : decode cX4_valueOf 12 = .ok (.ldc 59, 2) := by decide +kernel
theorem dX4_valueOf_14 : decode cX4_valueOf 14 = .ok (.invokespecial 61, 3) := by decide +kernel
theorem dX4_valueOf_17 : decode cX4_valueOf 17 = .ok (.athrow, 1) := by decide +kernel
theorem dX4_valueOf_18 : decode cX4_valueOf 18 = .ok (.aload_n 0, 1) := by decide +kernel
theorem dX4_valueOf_19 : decode cX4_valueOf 19 = .ok (.invokevirtual 129, 3) := by decide +kernel
theorem dX4_valueOf_22 : decode cX4_valueOf 22 = .ok (.ifCond .eq 11, 3) := by decide +kernel
theorem dX4_valueOf_25 : decode cX4_valueOf 25 = .ok (.aload_n 0, 1) := by decide +kernel
theorem dX4_valueOf_26 : decode cX4_valueOf 26 = .ok (.iload_n 1, 1) := by decide +kernel
theorem dX4_valueOf_27 : decode cX4_valueOf 27 = .ok (.invokevirtual 68, 3) := by decide +kernel
theorem dX4_valueOf_30 : decode cX4_valueOf 30 = .ok (.ifCond .eq 13, 3) := by decide +kernel
theorem dX4_valueOf_33 : decode cX4_valueOf 33 = .ok (.new 71, 3) := by decide +kernel
theorem dX4_valueOf_36 : decode cX4_valueOf 36 = .ok (.dup, 1) := by decide +kernel
theorem dX4_valueOf_37 : decode cX4_valueOf 37 = .ok (.ldc 148, 2) := by decide +kernel
theorem dX4_valueOf_39 : decode cX4_valueOf 39 = .ok (.invokespecial 75, 3) := by decide +kernel
theorem dX4_valueOf_42 : decode cX4_valueOf 42 = .ok (.athrow, 1) := by decide +kernel
theorem dX4_valueOf_43 : decode cX4_valueOf 43 = .ok (.aload_n 0, 1) := by decide +kernel
theorem dX4_valueOf_44 : decode cX4_valueOf 44 = .ok (.aload_n 0, 1) := by decide +kernel
theorem dX4_valueOf_45 : decode cX4_valueOf 45 = .ok (.aload_n 0, 1) := by decide +kernel
theorem dX4_valueOf_46 : decode cX4_valueOf 46 = .ok (.invokevirtual 92, 3) := by decide +kernel
theorem dX4_valueOf_49 : decode cX4_valueOf 49 = .ok (.ineg, 1) := by decide +kernel
theorem dX4_valueOf_50 : decode cX4_valueOf 50 = .ok (.iload_n 1, 1) := by decide +kernel
theorem dX4_valueOf_51 : decode cX4_valueOf 51 = .ok (.invokevirtual 150, 3) := by decide +kernel
theorem dX4_valueOf_54 : decode cX4_valueOf 54 = .ok (.invokevirtual 144, 3) := by decide +kernel
theorem dX4_valueOf_57 : decode cX4_valueOf 57 = .ok (.ireturn, 1) := by decide +kernel
theorem dX4_best_0 : decode cX4_best 0 = .ok (.aload_n 0, 1) := by decide +kernel
theorem dX4_best_1 : decode cX4_best 1 = .ok (.invokevirtual 129, 3) := by decide +kernel
theorem dX4_best_4 : decode cX4_best 4 = .ok (.ifCond .ne 13, 3) := by decide +kernel
theorem dX4_best_7 : decode cX4_best 7 = .ok (.new 71, 3) := by decide +kernel
theorem dX4_best_10 : decode cX4_best 10 = .ok (.dup, 1) := by decide +kernel
theorem dX4_best_11 : decode cX4_best 11 = .ok (.ldc 132, 2) := by decide +kernel
theorem dX4_best_13 : decode cX4_best 13 = .ok (.invokespecial 75, 3) := by decide +kernel
theorem dX4_best_16 : decode cX4_best 16 = .ok (.athrow, 1) := by decide +kernel
theorem dX4_best_17 : decode cX4_best 17 = .ok (.iconst (-1), 1) := by decide +kernel
theorem dX4_best_18 : decode cX4_best 18 = .ok (.istore_n 1, 1) := by decide +kernel
theorem dX4_best_19 : decode cX4_best 19 = .ok (.aload_n 0, 1) := by decide +kernel
theorem dX4_best_20 : decode cX4_best 20 = .ok (.invokevirtual 92, 3) := by decide +kernel
theorem dX4_best_23 : decode cX4_best 23 = .ok (.ineg, 1) := by decide +kernel
theorem dX4_best_24 : decode cX4_best 24 = .ok (.iconst 1, 1) := by decide +kernel
theorem dX4_best_25 : decode cX4_best 25 = .ok (.isub, 1) := by decide +kernel
theorem dX4_best_26 : decode cX4_best 26 = .ok (.istore_n 2, 1) := by decide +kernel
theorem dX4_best_27 : decode cX4_best 27 = .ok (.iconst 0, 1) := by decide +kernel
theorem dX4_best_28 : decode cX4_best 28 = .ok (.istore_n 3, 1) := by decide +kernel
theorem dX4_best_29 : decode cX4_best 29 = .ok (.iload_n 3, 1) := by decide +kernel
theorem dX4_best_30 : decode cX4_best 30 = .ok (.aload_n 0, 1) := by decide +kernel
theorem dX4_best_31 : decode cX4_best 31 = .ok (.getfield 26, 3) := by decide +kernel
theorem dX4_best_34 : decode cX4_best 34 = .ok (.getfield 153, 3) := by decide +kernel
theorem dX4_best_37 : decode cX4_best 37 = .ok (.if_icmp .ge 36, 3) := by decide +kernel
theorem dX4_best_40 : decode cX4_best 40 = .ok (.aload_n 0, 1) := by decide +kernel
theorem dX4_best_41 : decode cX4_best 41 = .ok (.iload_n 3, 1) := by decide +kernel
theorem dX4_best_42 : decode cX4_best 42 = .ok (.invokevirtual 68, 3) := by decide +kernel
theorem dX4_best_45 : decode cX4_best 45 = .ok (.ifCond .ne 22, 3) := by decide +kernel
theorem dX4_best_48 : decode cX4_best 48 = .ok (.aload_n 0, 1) := by decide +kernel
theorem dX4_best_49 : decode cX4_best 49 = .ok (.iload_n 2, 1) := by decide +kernel
theorem dX4_best_50 : decode cX4_best 50 = .ok (.iload_n 3, 1) := by decide +kernel
theorem dX4_best_51 : decode cX4_best 51 = .ok (.invokevirtual 150, 3) := by decide +kernel
theorem dX4_best_54 : decode cX4_best 54 = .ok (.istore 4, 2) := by decide +kernel
theorem dX4_best_56 : decode cX4_best 56 = .ok (.iload 4, 2) := by decide +kernel
theorem dX4_best_58 : decode cX4_best 58 = .ok (.iload_n 2, 1) := by decide +kernel
theorem dX4_best_59 : decode cX4_best 59 = .ok (.if_icmp .le 8, 3) := by decide +kernel
theorem dX4_best_62 : decode cX4_best 62 = .ok (.iload_n 3, 1) := by decide +kernel
theorem dX4_best_63 : decode cX4_best 63 = .ok (.istore_n 1, 1) := by decide +kernel
theorem dX4_best_64 : decode cX4_best 64 = .ok (.iload 4, 2) := by decide +kernel
theorem dX4_best_66 : decode cX4_best 66 = .ok (.istore_n 2, 1) := by decide +kernel
theorem dX4_best_67 : decode cX4_best 67 = .ok (.iinc 3 1, 3) := by decide +kernel
theorem dX4_best_70 : decode cX4_best 70 = .ok (.goto (-41), 3) := by decide +kernel
theorem dX4_best_73 : decode cX4_best 73 = .ok (.iload_n 1, 1) := by decide +kernel
theorem dX4_best_74 : decode cX4_best 74 = .ok (.ireturn, 1) := by decide +kernel
theorem dX4_beats_0 : decode cX4_beats 0 = .ok (.aload_n 0, 1) := by decide +kernel
theorem dX4_beats_1 : decode cX4_beats 1 = .ok (.invokevirtual 64, 3) := by decide +kernel
theorem dX4_beats_4 : decode cX4_beats 4 = .ok (.ifCond .ne 19, 3) := by decide +kernel
theorem dX4_beats_7 : decode cX4_beats 7 = .ok (.aload_n 0, 1) := by decide +kernel
theorem dX4_beats_8 : decode cX4_beats 8 = .ok (.invokevirtual 92, 3) := by decide +kernel
theorem dX4_beats_11 : decode cX4_beats 11 = .ok (.bipush 30, 2) := by decide +kernel
theorem dX4_beats_13 : decode cX4_beats 13 = .ok (.if_icmp .gt 10, 3) := by decide +kernel
theorem dX4_beats_16 : decode cX4_beats 16 = .ok (.aload_n 0, 1) := by decide +kernel
theorem dX4_beats_17 : decode cX4_beats 17 = .ok (.invokevirtual 156, 3) := by decide +kernel
theorem dX4_beats_20 : decode cX4_beats 20 = .ok (.ifCond .ne 13, 3) := by decide +kernel
theorem dX4_beats_23 : decode cX4_beats 23 = .ok (.new 71, 3) := by decide +kernel
theorem dX4_beats_26 : decode cX4_beats 26 = .ok (.dup, 1) := by decide +kernel
theorem dX4_beats_27 : decode cX4_beats 27 = .ok (.ldc 159, 2) := by decide +kernel
theorem dX4_beats_29 : decode cX4_beats 29 = .ok (.invokespecial 75, 3) := by decide +kernel
theorem dX4_beats_32 : decode cX4_beats 32 = .ok (.athrow, 1) := by decide +kernel
theorem dX4_beats_33 : decode cX4_beats 33 = .ok (.aload_n 0, 1) := by decide +kernel
theorem dX4_beats_34 : decode cX4_beats 34 = .ok (.getfield 42, 3) := by decide +kernel
theorem dX4_beats_37 : decode cX4_beats 37 = .ok (.aload_n 0, 1) := by decide +kernel
theorem dX4_beats_38 : decode cX4_beats 38 = .ok (.invokevirtual 134, 3) := by decide +kernel
theorem dX4_beats_41 : decode cX4_beats 41 = .ok (.aload_n 0, 1) := by decide +kernel
theorem dX4_beats_42 : decode cX4_beats 42 = .ok (.invokevirtual 137, 3) := by decide +kernel
theorem dX4_beats_45 : decode cX4_beats 45 = .ok (.invokevirtual 161, 3) := by decide +kernel
theorem dX4_beats_48 : decode cX4_beats 48 = .ok (.ireturn, 1) := by decide +kernel
theorem dX4_between_0 : decode cX4_between 0 = .ok (.iconst 3, 1) := by decide +kernel
theorem dX4_between_1 : decode cX4_between 1 = .ok (.iload_n 1, 1) := by decide +kernel
theorem dX4_between_2 : decode cX4_between 2 = .ok (.iload_n 0, 1) := by decide +kernel
theorem dX4_between_3 : decode cX4_between 3 = .ok (.invokestatic 165, 3) := by decide +kernel
theorem dX4_between_6 : decode cX4_between 6 = .ok (.invokestatic 170, 3) := by decide +kernel
theorem dX4_between_9 : decode cX4_between 9 = .ok (.ireturn, 1) := by decide +kernel
theorem dX4_isPlayer_0 : decode cX4_isPlayer 0 = .ok (.iload_n 0, 1) := by decide +kernel
theorem dX4_isPlayer_1 : decode cX4_isPlayer 1 = .ok (.ifCond .eq 8, 3) := by decide +kernel
theorem dX4_isPlayer_4 : decode cX4_isPlayer 4 = .ok (.iload_n 0, 1) := by decide +kernel
theorem dX4_isPlayer_5 : decode cX4_isPlayer 5 = .ok (.iconst 1, 1) := by decide +kernel
theorem dX4_isPlayer_6 : decode cX4_isPlayer 6 = .ok (.if_icmp .ne 7, 3) := by decide +kernel
theorem dX4_isPlayer_9 : decode cX4_isPlayer 9 = .ok (.iconst 1, 1) := by decide +kernel
theorem dX4_isPlayer_10 : decode cX4_isPlayer 10 = .ok (.goto 4, 3) := by decide +kernel
theorem dX4_isPlayer_13 : decode cX4_isPlayer 13 = .ok (.iconst 0, 1) := by decide +kernel
theorem dX4_isPlayer_14 : decode cX4_isPlayer 14 = .ok (.ireturn, 1) := by decide +kernel
theorem dX4_isColumn_0 : decode cX4_isColumn 0 = .ok (.iload_n 1, 1) := by decide +kernel
theorem dX4_isColumn_1 : decode cX4_isColumn 1 = .ok (.ifCond .lt 18, 3) := by decide +kernel
theorem dX4_isColumn_4 : decode cX4_isColumn 4 = .ok (.iload_n 1, 1) := by decide +kernel
theorem dX4_isColumn_5 : decode cX4_isColumn 5 = .ok (.aload_n 0, 1) := by decide +kernel
theorem dX4_isColumn_6 : decode cX4_isColumn 6 = .ok (.getfield 26, 3) := by decide +kernel
theorem dX4_isColumn_9 : decode cX4_isColumn 9 = .ok (.getfield 153, 3) := by decide +kernel
theorem dX4_isColumn_12 : decode cX4_isColumn 12 = .ok (.if_icmp .ge 7, 3) := by decide +kernel
theorem dX4_isColumn_15 : decode cX4_isColumn 15 = .ok (.iconst 1, 1) := by decide +kernel
theorem dX4_isColumn_16 : decode cX4_isColumn 16 = .ok (.goto 4, 3) := by decide +kernel
theorem dX4_isColumn_19 : decode cX4_isColumn 19 = .ok (.iconst 0, 1) := by decide +kernel
theorem dX4_isColumn_20 : decode cX4_isColumn 20 = .ok (.ireturn, 1) := by decide +kernel
theorem dX4_isFull_0 : decode cX4_isFull 0 = .ok (.aload_n 0, 1) := by decide +kernel
theorem dX4_isFull_1 : decode cX4_isFull 1 = .ok (.getfield 46, 3) := by decide +kernel
theorem dX4_isFull_4 : decode cX4_isFull 4 = .ok (.iload_n 1, 1) := by decide +kernel
theorem dX4_isFull_5 : decode cX4_isFull 5 = .ok (.iaload, 1) := by decide +kernel
theorem dX4_isFull_6 : decode cX4_isFull 6 = .ok (.aload_n 0, 1) := by decide +kernel
theorem dX4_isFull_7 : decode cX4_isFull 7 = .ok (.getfield 26, 3) := by decide +kernel
theorem dX4_isFull_10 : decode cX4_isFull 10 = .ok (.getfield 95, 3) := by decide +kernel
theorem dX4_isFull_13 : decode cX4_isFull 13 = .ok (.if_icmp .lt 7, 3) := by decide +kernel
theorem dX4_isFull_16 : decode cX4_isFull 16 = .ok (.iconst 1, 1) := by decide +kernel
theorem dX4_isFull_17 : decode cX4_isFull 17 = .ok (.goto 4, 3) := by decide +kernel
theorem dX4_isFull_20 : decode cX4_isFull 20 = .ok (.iconst 0, 1) := by decide +kernel
theorem dX4_isFull_21 : decode cX4_isFull 21 = .ok (.ireturn, 1) := by decide +kernel
end
section
theorem dX4_isOver_0 : decode cX4_isOver 0 = .ok (.aload_n 0, 1) := by decide +kernel
theorem dX4_isOver_1 : decode cX4_isOver 1 = .ok (.invokevirtual 173, 3) := by decide +kernel
theorem dX4_isOver_4 : decode cX4_isOver 4 = .ok (.iconst (-1), 1) := by decide +kernel
theorem dX4_isOver_5 : decode cX4_isOver 5 = .ok (.if_icmp .eq 7, 3) := by decide +kernel
theorem dX4_isOver_8 : decode cX4_isOver 8 = .ok (.iconst 1, 1) := by decide +kernel
theorem dX4_isOver_9 : decode cX4_isOver 9 = .ok (.goto 4, 3) := by decide +kernel
theorem dX4_isOver_12 : decode cX4_isOver 12 = .ok (.iconst 0, 1) := by decide +kernel
theorem dX4_isOver_13 : decode cX4_isOver 13 = .ok (.ireturn, 1) := by decide +kernel
theorem dX4_canBeValued_0 : decode cX4_canBeValued 0 = .ok (.aload_n 0, 1) := by decide +kernel
theorem dX4_canBeValued_1 : decode cX4_canBeValued 1 = .ok (.invokevirtual 92, 3) := by decide +kernel
theorem dX4_canBeValued_4 : decode cX4_canBeValued 4 = .ok (.bipush 12, 2) := by decide +kernel
theorem dX4_canBeValued_6 : decode cX4_canBeValued 6 = .ok (.if_icmp .gt 14, 3) := by decide +kernel
theorem dX4_canBeValued_9 : decode cX4_canBeValued 9 = .ok (.aload_n 0, 1) := by decide +kernel
theorem dX4_canBeValued_10 : decode cX4_canBeValued 10 = .ok (.invokevirtual 64, 3) := by decide +kernel
theorem dX4_canBeValued_13 : decode cX4_canBeValued 13 = .ok (.ifCond .ne 7, 3) := by decide +kernel
theorem dX4_canBeValued_16 : decode cX4_canBeValued 16 = .ok (.iconst 1, 1) := by decide +kernel
theorem dX4_canBeValued_17 : decode cX4_canBeValued 17 = .ok (.goto 4, 3) := by decide +kernel
theorem dX4_canBeValued_20 : decode cX4_canBeValued 20 = .ok (.iconst 0, 1) := by decide +kernel
theorem dX4_canBeValued_21 : decode cX4_canBeValued 21 = .ok (.ireturn, 1) := by decide +kernel
theorem dX4_canFollow_0 : decode cX4_canFollow 0 = .ok (.iconst 0, 1) := by decide +kernel
theorem dX4_canFollow_1 : decode cX4_canFollow 1 = .ok (.istore_n 1, 1) := by decide +kernel
theorem dX4_canFollow_2 : decode cX4_canFollow 2 = .ok (.iload_n 1, 1) := by decide +kernel
theorem dX4_canFollow_3 : decode cX4_canFollow 3 = .ok (.aload_n 0, 1) := by decide +kernel
theorem dX4_canFollow_4 : decode cX4_canFollow 4 = .ok (.getfield 26, 3) := by decide +kernel
theorem dX4_canFollow_7 : decode cX4_canFollow 7 = .ok (.getfield 153, 3) := by decide +kernel
theorem dX4_canFollow_10 : decode cX4_canFollow 10 = .ok (.if_icmp .ge 30, 3) := by decide +kernel
theorem dX4_canFollow_13 : decode cX4_canFollow 13 = .ok (.aload_n 0, 1) := by decide +kernel
theorem dX4_canFollow_14 : decode cX4_canFollow 14 = .ok (.getfield 26, 3) := by decide +kernel
theorem dX4_canFollow_17 : decode cX4_canFollow 17 = .ok (.getfield 95, 3) := by decide +kernel
theorem dX4_canFollow_20 : decode cX4_canFollow 20 = .ok (.aload_n 0, 1) := by decide +kernel
theorem dX4_canFollow_21 : decode cX4_canFollow 21 = .ok (.getfield 46, 3) := by decide +kernel
theorem dX4_canFollow_24 : decode cX4_canFollow 24 = .ok (.iload_n 1, 1) := by decide +kernel
theorem dX4_canFollow_25 : decode cX4_canFollow 25 = .ok (.iaload, 1) := by decide +kernel
theorem dX4_canFollow_26 : decode cX4_canFollow 26 = .ok (.isub, 1) := by decide +kernel
theorem dX4_canFollow_27 : decode cX4_canFollow 27 = .ok (.iconst 2, 1) := by decide +kernel
theorem dX4_canFollow_28 : decode cX4_canFollow 28 = .ok (.irem, 1) := by decide +kernel
theorem dX4_canFollow_29 : decode cX4_canFollow 29 = .ok (.ifCond .eq 5, 3) := by decide +kernel
theorem dX4_canFollow_32 : decode cX4_canFollow 32 = .ok (.iconst 0, 1) := by decide +kernel
theorem dX4_canFollow_33 : decode cX4_canFollow 33 = .ok (.ireturn, 1) := by decide +kernel
theorem dX4_canFollow_34 : decode cX4_canFollow 34 = .ok (.iinc 1 1, 3) := by decide +kernel
theorem dX4_canFollow_37 : decode cX4_canFollow 37 = .ok (.goto (-35), 3) := by decide +kernel
theorem dX4_canFollow_40 : decode cX4_canFollow 40 = .ok (.iconst 1, 1) := by decide +kernel
theorem dX4_canFollow_41 : decode cX4_canFollow 41 = .ok (.ireturn, 1) := by decide +kernel
theorem dX4_mine_0 : decode cX4_mine 0 = .ok (.aload_n 0, 1) := by decide +kernel
theorem dX4_mine_1 : decode cX4_mine 1 = .ok (.getfield 7, 3) := by decide +kernel
theorem dX4_mine_4 : decode cX4_mine 4 = .ok (.aload_n 0, 1) := by decide +kernel
theorem dX4_mine_5 : decode cX4_mine 5 = .ok (.invokevirtual 76, 3) := by decide +kernel
theorem dX4_mine_8 : decode cX4_mine 8 = .ok (.laload, 1) := by decide +kernel
theorem dX4_mine_9 : decode cX4_mine 9 = .ok (.lreturn, 1) := by decide +kernel
theorem dX4_theirs_0 : decode cX4_theirs 0 = .ok (.aload_n 0, 1) := by decide +kernel
theorem dX4_theirs_1 : decode cX4_theirs 1 = .ok (.getfield 7, 3) := by decide +kernel
theorem dX4_theirs_4 : decode cX4_theirs 4 = .ok (.iconst 1, 1) := by decide +kernel
theorem dX4_theirs_5 : decode cX4_theirs 5 = .ok (.aload_n 0, 1) := by decide +kernel
theorem dX4_theirs_6 : decode cX4_theirs 6 = .ok (.invokevirtual 76, 3) := by decide +kernel
theorem dX4_theirs_9 : decode cX4_theirs 9 = .ok (.isub, 1) := by decide +kernel
theorem dX4_theirs_10 : decode cX4_theirs 10 = .ok (.laload, 1) := by decide +kernel
theorem dX4_theirs_11 : decode cX4_theirs 11 = .ok (.lreturn, 1) := by decide +kernel
theorem dX4_taken_0 : decode cX4_taken 0 = .ok (.aload_n 0, 1) := by decide +kernel
theorem dX4_taken_1 : decode cX4_taken 1 = .ok (.getfield 7, 3) := by decide +kernel
theorem dX4_taken_4 : decode cX4_taken 4 = .ok (.iconst 0, 1) := by decide +kernel
theorem dX4_taken_5 : decode cX4_taken 5 = .ok (.laload, 1) := by decide +kernel
theorem dX4_taken_6 : decode cX4_taken 6 = .ok (.aload_n 0, 1) := by decide +kernel
theorem dX4_taken_7 : decode cX4_taken 7 = .ok (.getfield 7, 3) := by decide +kernel
theorem dX4_taken_10 : decode cX4_taken 10 = .ok (.iconst 1, 1) := by decide +kernel
theorem dX4_taken_11 : decode cX4_taken 11 = .ok (.laload, 1) := by decide +kernel
theorem dX4_taken_12 : decode cX4_taken 12 = .ok (.lor, 1) := by decide +kernel
theorem dX4_taken_13 : decode cX4_taken 13 = .ok (.lreturn, 1) := by decide +kernel
theorem dX4_scoreAbove_0 : decode cX4_scoreAbove 0 = .ok (.aload_n 0, 1) := by decide +kernel
theorem dX4_scoreAbove_1 : decode cX4_scoreAbove 1 = .ok (.invokevirtual 134, 3) := by decide +kernel
theorem dX4_scoreAbove_4 : decode cX4_scoreAbove 4 = .ok (.aload_n 0, 1) := by decide +kernel
theorem dX4_scoreAbove_5 : decode cX4_scoreAbove 5 = .ok (.getfield 26, 3) := by decide +kernel
theorem dX4_scoreAbove_8 : decode cX4_scoreAbove 8 = .ok (.iload_n 2, 1) := by decide +kernel
theorem dX4_scoreAbove_9 : decode cX4_scoreAbove 9 = .ok (.aload_n 0, 1) := by decide +kernel
theorem dX4_scoreAbove_10 : decode cX4_scoreAbove 10 = .ok (.getfield 46, 3) := by decide +kernel
theorem dX4_scoreAbove_13 : decode cX4_scoreAbove 13 = .ok (.iload_n 2, 1) := by decide +kernel
theorem dX4_scoreAbove_14 : decode cX4_scoreAbove 14 = .ok (.iaload, 1) := by decide +kernel
theorem dX4_scoreAbove_15 : decode cX4_scoreAbove 15 = .ok (.invokevirtual 80, 3) := by decide +kernel
theorem dX4_scoreAbove_18 : decode cX4_scoreAbove 18 = .ok (.lor, 1) := by decide +kernel
theorem dX4_scoreAbove_19 : decode cX4_scoreAbove 19 = .ok (.lstore_n 3, 1) := by decide +kernel
theorem dX4_scoreAbove_20 : decode cX4_scoreAbove 20 = .ok (.aload_n 0, 1) := by decide +kernel
theorem dX4_scoreAbove_21 : decode cX4_scoreAbove 21 = .ok (.getfield 26, 3) := by decide +kernel
theorem dX4_scoreAbove_24 : decode cX4_scoreAbove 24 = .ok (.lload_n 3, 1) := by decide +kernel
theorem dX4_scoreAbove_25 : decode cX4_scoreAbove 25 = .ok (.invokevirtual 88, 3) := by decide +kernel
theorem dX4_scoreAbove_28 : decode cX4_scoreAbove 28 = .ok (.ifCond .eq 8, 3) := by decide +kernel
theorem dX4_scoreAbove_31 : decode cX4_scoreAbove 31 = .ok (.aload_n 0, 1) := by decide +kernel
theorem dX4_scoreAbove_32 : decode cX4_scoreAbove 32 = .ok (.invokevirtual 92, 3) := by decide +kernel
theorem dX4_scoreAbove_35 : decode cX4_scoreAbove 35 = .ok (.ireturn, 1) := by decide +kernel
theorem dX4_scoreAbove_36 : decode cX4_scoreAbove 36 = .ok (.aload_n 0, 1) := by decide +kernel
theorem dX4_scoreAbove_37 : decode cX4_scoreAbove 37 = .ok (.getfield 35, 3) := by decide +kernel
theorem dX4_scoreAbove_40 : decode cX4_scoreAbove 40 = .ok (.aload_n 0, 1) := by decide +kernel
theorem dX4_scoreAbove_41 : decode cX4_scoreAbove 41 = .ok (.invokevirtual 137, 3) := by decide +kernel
theorem dX4_scoreAbove_44 : decode cX4_scoreAbove 44 = .ok (.lload_n 3, 1) := by decide +kernel
theorem dX4_scoreAbove_45 : decode cX4_scoreAbove 45 = .ok (.aload_n 0, 1) := by decide +kernel
theorem dX4_scoreAbove_46 : decode cX4_scoreAbove 46 = .ok (.invokevirtual 92, 3) := by decide +kernel
theorem dX4_scoreAbove_49 : decode cX4_scoreAbove 49 = .ok (.iconst 1, 1) := by decide +kernel
theorem dX4_scoreAbove_50 : decode cX4_scoreAbove 50 = .ok (.isub, 1) := by decide +kernel
theorem dX4_scoreAbove_51 : decode cX4_scoreAbove 51 = .ok (.aload_n 0, 1) := by decide +kernel
theorem dX4_scoreAbove_52 : decode cX4_scoreAbove 52 = .ok (.invokevirtual 92, 3) := by decide +kernel
theorem dX4_scoreAbove_55 : decode cX4_scoreAbove 55 = .ok (.ineg, 1) := by decide +kernel
theorem dX4_scoreAbove_56 : decode cX4_scoreAbove 56 = .ok (.iload_n 1, 1) := by decide +kernel
theorem dX4_scoreAbove_57 : decode cX4_scoreAbove 57 = .ok (.ineg, 1) := by decide +kernel
theorem dX4_scoreAbove_58 : decode cX4_scoreAbove 58 = .ok (.invokevirtual 140, 3) := by decide +kernel
theorem dX4_scoreAbove_61 : decode cX4_scoreAbove 61 = .ok (.ineg, 1) := by decide +kernel
theorem dX4_scoreAbove_62 : decode cX4_scoreAbove 62 = .ok (.ireturn, 1) := by decide +kernel
theorem dX4_inDrops_0 : decode cX4_inDrops 0 = .ok (.iload_n 1, 1) := by decide +kernel
theorem dX4_inDrops_1 : decode cX4_inDrops 1 = .ok (.ifCond .ne 5, 3) := by decide +kernel
theorem dX4_inDrops_4 : decode cX4_inDrops 4 = .ok (.iconst 0, 1) := by decide +kernel
theorem dX4_inDrops_5 : decode cX4_inDrops 5 = .ok (.ireturn, 1) := by decide +kernel
theorem dX4_inDrops_6 : decode cX4_inDrops 6 = .ok (.aload_n 0, 1) := by decide +kernel
theorem dX4_inDrops_7 : decode cX4_inDrops 7 = .ok (.invokevirtual 92, 3) := by decide +kernel
theorem dX4_inDrops_10 : decode cX4_inDrops 10 = .ok (.iconst 1, 1) := by decide +kernel
theorem dX4_inDrops_11 : decode cX4_inDrops 11 = .ok (.iadd, 1) := by decide +kernel
theorem dX4_inDrops_12 : decode cX4_inDrops 12 = .ok (.iload_n 1, 1) := by decide +kernel
theorem dX4_inDrops_13 : decode cX4_inDrops 13 = .ok (.invokestatic 176, 3) := by decide +kernel
theorem dX4_inDrops_16 : decode cX4_inDrops 16 = .ok (.isub, 1) := by decide +kernel
theorem dX4_inDrops_17 : decode cX4_inDrops 17 = .ok (.istore_n 2, 1) := by decide +kernel
theorem dX4_inDrops_18 : decode cX4_inDrops 18 = .ok (.iload_n 1, 1) := by decide +kernel
theorem dX4_inDrops_19 : decode cX4_inDrops 19 = .ok (.ifCond .le 7, 3) := by decide +kernel
theorem dX4_inDrops_22 : decode cX4_inDrops 22 = .ok (.iload_n 2, 1) := by decide +kernel
theorem dX4_inDrops_23 : decode cX4_inDrops 23 = .ok (.goto 5, 3) := by decide +kernel
theorem dX4_inDrops_26 : decode cX4_inDrops 26 = .ok (.iload_n 2, 1) := by decide +kernel
theorem dX4_inDrops_27 : decode cX4_inDrops 27 = .ok (.ineg, 1) := by decide +kernel
theorem dX4_inDrops_28 : decode cX4_inDrops 28 = .ok (.ireturn, 1) := by decide +kernel
end
section
theorem dX5_init_0 : decode cX5_init 0 = .ok (.aload_n 0, 1) := by decide +kernel
theorem dX5_init_1 : decode cX5_init 1 = .ok (.invokespecial 1, 3) := by decide +kernel
theorem dX5_init_4 : decode cX5_init 4 = .ok (.aload_n 0, 1) := by decide +kernel
theorem dX5_init_5 : decode cX5_init 5 = .ok (.bipush 63, 2) := by decide +kernel
theorem dX5_init_7 : decode cX5_init 7 = .ok (.newarray .int, 2) := by decide +kernel
theorem dX5_init_9 : decode cX5_init 9 = .ok (.putfield 7, 3) := by decide +kernel
theorem dX5_init_12 : decode cX5_init 12 = .ok (.aload_n 0, 1) := by decide +kernel
theorem dX5_init_13 : decode cX5_init 13 = .ok (.bipush 9, 2) := by decide +kernel
theorem dX5_init_15 : decode cX5_init 15 = .ok (.newarray .int, 2) := by decide +kernel
theorem dX5_init_17 : decode cX5_init 17 = .ok (.putfield 13, 3) := by decide +kernel
theorem dX5_init_20 : decode cX5_init 20 = .ok (.aload_n 0, 1) := by decide +kernel
theorem dX5_init_21 : decode cX5_init 21 = .ok (.bipush 63, 2) := by decide +kernel
theorem dX5_init_23 : decode cX5_init 23 = .ok (.newarray .int, 2) := by decide +kernel
theorem dX5_init_25 : decode cX5_init 25 = .ok (.putfield 16, 3) := by decide +kernel
theorem dX5_init_28 : decode cX5_init 28 = .ok (.aload_n 0, 1) := by decide +kernel
theorem dX5_init_29 : decode cX5_init 29 = .ok (.ldc 19, 2) := by decide +kernel
theorem dX5_init_31 : decode cX5_init 31 = .ok (.newarray .int, 2) := by decide +kernel
theorem dX5_init_33 : decode cX5_init 33 = .ok (.putfield 20, 3) := by decide +kernel
theorem dX5_init_36 : decode cX5_init 36 = .ok (.aload_n 0, 1) := by decide +kernel
theorem dX5_init_37 : decode cX5_init 37 = .ok (.ldc 19, 2) := by decide +kernel
theorem dX5_init_39 : decode cX5_init 39 = .ok (.newarray .int, 2) := by decide +kernel
theorem dX5_init_41 : decode cX5_init 41 = .ok (.putfield 23, 3) := by decide +kernel
theorem dX5_init_44 : decode cX5_init 44 = .ok (.aload_n 0, 1) := by decide +kernel
theorem dX5_init_45 : decode cX5_init 45 = .ok (.ldc 19, 2) := by decide +kernel
theorem dX5_init_47 : decode cX5_init 47 = .ok (.newarray .int, 2) := by decide +kernel
theorem dX5_init_49 : decode cX5_init 49 = .ok (.putfield 26, 3) := by decide +kernel
theorem dX5_init_52 : decode cX5_init 52 = .ok (.aload_n 0, 1) := by decide +kernel
theorem dX5_init_53 : decode cX5_init 53 = .ok (.bipush 15, 2) := by decide +kernel
theorem dX5_init_55 : decode cX5_init 55 = .ok (.newarray .int, 2) := by decide +kernel
theorem dX5_init_57 : decode cX5_init 57 = .ok (.putfield 29, 3) := by decide +kernel
theorem dX5_init_60 : decode cX5_init 60 = .ok (.aload_n 0, 1) := by decide +kernel
theorem dX5_init_61 : decode cX5_init 61 = .ok (.ldc 32, 2) := by decide +kernel
theorem dX5_init_63 : decode cX5_init 63 = .ok (.newarray .int, 2) := by decide +kernel
theorem dX5_init_65 : decode cX5_init 65 = .ok (.putfield 33, 3) := by decide +kernel
theorem dX5_init_68 : decode cX5_init 68 = .ok (.aload_n 0, 1) := by decide +kernel
theorem dX5_init_69 : decode cX5_init 69 = .ok (.bipush 10, 2) := by decide +kernel
theorem dX5_init_71 : decode cX5_init 71 = .ok (.newarray .int, 2) := by decide +kernel
theorem dX5_init_73 : decode cX5_init 73 = .ok (.putfield 36, 3) := by decide +kernel
theorem dX5_init_76 : decode cX5_init 76 = .ok (.aload_n 0, 1) := by decide +kernel
theorem dX5_init_77 : decode cX5_init 77 = .ok (.bipush 10, 2) := by decide +kernel
theorem dX5_init_79 : decode cX5_init 79 = .ok (.newarray .int, 2) := by decide +kernel
theorem dX5_init_81 : decode cX5_init 81 = .ok (.putfield 39, 3) := by decide +kernel
theorem dX5_init_84 : decode cX5_init 84 = .ok (.aload_n 0, 1) := by decide +kernel
theorem dX5_init_85 : decode cX5_init 85 = .ok (.bipush 63, 2) := by decide +kernel
theorem dX5_init_87 : decode cX5_init 87 = .ok (.newarray .int, 2) := by decide +kernel
theorem dX5_init_89 : decode cX5_init 89 = .ok (.putfield 42, 3) := by decide +kernel
theorem dX5_init_92 : decode cX5_init 92 = .ok (.aload_n 0, 1) := by decide +kernel
theorem dX5_init_93 : decode cX5_init 93 = .ok (.bipush 9, 2) := by decide +kernel
theorem dX5_init_95 : decode cX5_init 95 = .ok (.newarray .int, 2) := by decide +kernel
theorem dX5_init_97 : decode cX5_init 97 = .ok (.putfield 45, 3) := by decide +kernel
theorem dX5_init_100 : decode cX5_init 100 = .ok (.aload_n 0, 1) := by decide +kernel
theorem dX5_init_101 : decode cX5_init 101 = .ok (.sipush 6000, 3) := by decide +kernel
theorem dX5_init_104 : decode cX5_init 104 = .ok (.newarray .boolean, 2) := by decide +kernel
theorem dX5_init_106 : decode cX5_init 106 = .ok (.putfield 48, 3) := by decide +kernel
theorem dX5_init_109 : decode cX5_init 109 = .ok (.aload_n 0, 1) := by decide +kernel
theorem dX5_init_110 : decode cX5_init 110 = .ok (.iload_n 1, 1) := by decide +kernel
theorem dX5_init_111 : decode cX5_init 111 = .ok (.iconst 3, 1) := by decide +kernel
theorem dX5_init_112 : decode cX5_init 112 = .ok (.if_icmp .ge 7, 3) := by decide +kernel
theorem dX5_init_115 : decode cX5_init 115 = .ok (.iconst 3, 1) := by decide +kernel
theorem dX5_init_116 : decode cX5_init 116 = .ok (.goto 15, 3) := by decide +kernel
theorem dX5_init_119 : decode cX5_init 119 = .ok (.iload_n 1, 1) := by decide +kernel
theorem dX5_init_120 : decode cX5_init 120 = .ok (.bipush 9, 2) := by decide +kernel
theorem dX5_init_122 : decode cX5_init 122 = .ok (.if_icmp .le 8, 3) := by decide +kernel
theorem dX5_init_125 : decode cX5_init 125 = .ok (.bipush 9, 2) := by decide +kernel
theorem dX5_init_127 : decode cX5_init 127 = .ok (.goto 4, 3) := by decide +kernel
theorem dX5_init_130 : decode cX5_init 130 = .ok (.iload_n 1, 1) := by decide +kernel
theorem dX5_init_131 : decode cX5_init 131 = .ok (.putfield 52, 3) := by decide +kernel
theorem dX5_init_134 : decode cX5_init 134 = .ok (.aload_n 0, 1) := by decide +kernel
theorem dX5_init_135 : decode cX5_init 135 = .ok (.getfield 52, 3) := by decide +kernel
theorem dX5_init_138 : decode cX5_init 138 = .ok (.bipush 9, 2) := by decide +kernel
theorem dX5_init_140 : decode cX5_init 140 = .ok (.if_icmp .ne 8, 3) := by decide +kernel
theorem dX5_init_143 : decode cX5_init 143 = .ok (.bipush 6, 2) := by decide +kernel
theorem dX5_init_145 : decode cX5_init 145 = .ok (.goto 5, 3) := by decide +kernel
theorem dX5_init_148 : decode cX5_init 148 = .ok (.bipush 7, 2) := by decide +kernel
theorem dX5_init_150 : decode cX5_init 150 = .ok (.istore_n 3, 1) := by decide +kernel
theorem dX5_init_151 : decode cX5_init 151 = .ok (.aload_n 0, 1) := by decide +kernel
theorem dX5_init_152 : decode cX5_init 152 = .ok (.iload_n 2, 1) := by decide +kernel
theorem dX5_init_153 : decode cX5_init 153 = .ok (.iconst 3, 1) := by decide +kernel
theorem dX5_init_154 : decode cX5_init 154 = .ok (.if_icmp .ge 7, 3) := by decide +kernel
theorem dX5_init_157 : decode cX5_init 157 = .ok (.iconst 3, 1) := by decide +kernel
theorem dX5_init_158 : decode cX5_init 158 = .ok (.goto 13, 3) := by decide +kernel
theorem dX5_init_161 : decode cX5_init 161 = .ok (.iload_n 2, 1) := by decide +kernel
theorem dX5_init_162 : decode cX5_init 162 = .ok (.iload_n 3, 1) := by decide +kernel
theorem dX5_init_163 : decode cX5_init 163 = .ok (.if_icmp .le 7, 3) := by decide +kernel
theorem dX5_init_166 : decode cX5_init 166 = .ok (.iload_n 3, 1) := by decide +kernel
theorem dX5_init_167 : decode cX5_init 167 = .ok (.goto 4, 3) := by decide +kernel
theorem dX5_init_170 : decode cX5_init 170 = .ok (.iload_n 2, 1) := by decide +kernel
theorem dX5_init_171 : decode cX5_init 171 = .ok (.putfield 56, 3) := by decide +kernel
theorem dX5_init_174 : decode cX5_init 174 = .ok (.iconst 0, 1) := by decide +kernel
theorem dX5_init_175 : decode cX5_init 175 = .ok (.istore 4, 2) := by decide +kernel
theorem dX5_init_177 : decode cX5_init 177 = .ok (.iload 4, 2) := by decide +kernel
theorem dX5_init_179 : decode cX5_init 179 = .ok (.bipush 63, 2) := by decide +kernel
theorem dX5_init_181 : decode cX5_init 181 = .ok (.if_icmp .ge 17, 3) := by decide +kernel
theorem dX5_init_184 : decode cX5_init 184 = .ok (.aload_n 0, 1) := by decide +kernel
theorem dX5_init_185 : decode cX5_init 185 = .ok (.getfield 7, 3) := by decide +kernel
theorem dX5_init_188 : decode cX5_init 188 = .ok (.iload 4, 2) := by decide +kernel
theorem dX5_init_190 : decode cX5_init 190 = .ok (.iconst (-1), 1) := by decide +kernel
theorem dX5_init_191 : decode cX5_init 191 = .ok (.iastore, 1) := by decide +kernel
theorem dX5_init_192 : decode cX5_init 192 = .ok (.iinc 4 1, 3) := by decide +kernel
theorem dX5_init_195 : decode cX5_init 195 = .ok (.goto (-18), 3) := by decide +kernel
theorem dX5_init_198 : decode cX5_init 198 = .ok (.return_, 1) := by decide +kernel
theorem dX5_thrown_0 : decode cX5_thrown 0 = .ok (.aload_n 0, 1) := by decide +kernel
theorem dX5_thrown_1 : decode cX5_thrown 1 = .ok (.getfield 59, 3) := by decide +kernel
theorem dX5_thrown_4 : decode cX5_thrown 4 = .ok (.ireturn, 1) := by decide +kernel
theorem dX5_refused_0 : decode cX5_refused 0 = .ok (.aload_n 0, 1) := by decide +kernel
theorem dX5_refused_1 : decode cX5_refused 1 = .ok (.iload_n 1, 1) := by decide +kernel
theorem dX5_refused_2 : decode cX5_refused 2 = .ok (.ifCond .eq 7, 3) := by decide +kernel
theorem dX5_refused_5 : decode cX5_refused 5 = .ok (.iconst 1, 1) := by decide +kernel
theorem dX5_refused_6 : decode cX5_refused 6 = .ok (.goto 12, 3) := by decide +kernel
theorem dX5_refused_9 : decode cX5_refused 9 = .ok (.iload_n 2, 1) := by decide +kernel
theorem dX5_refused_10 : decode cX5_refused 10 = .ok (.ifCond .eq 7, 3) := by decide +kernel
theorem dX5_refused_13 : decode cX5_refused 13 = .ok (.iconst 2, 1) := by decide +kernel
theorem dX5_refused_14 : decode cX5_refused 14 = .ok (.goto 4, 3) := by decide +kernel
theorem dX5_refused_17 : decode cX5_refused 17 = .ok (.iconst 0, 1) := by decide +kernel
theorem dX5_refused_18 : decode cX5_refused 18 = .ok (.putfield 59, 3) := by decide +kernel
theorem dX5_refused_21 : decode cX5_refused 21 = .ok (.aload_n 0, 1) := by decide +kernel
theorem dX5_refused_22 : decode cX5_refused 22 = .ok (.getfield 59, 3) := by decide +kernel
theorem dX5_refused_25 : decode cX5_refused 25 = .ok (.ifCond .le 7, 3) := by decide +kernel
theorem dX5_refused_28 : decode cX5_refused 28 = .ok (.iconst 1, 1) := by decide +kernel
theorem dX5_refused_29 : decode cX5_refused 29 = .ok (.goto 4, 3) := by decide +kernel
theorem dX5_refused_32 : decode cX5_refused 32 = .ok (.iconst 0, 1) := by decide +kernel
theorem dX5_refused_33 : decode cX5_refused 33 = .ok (.ireturn, 1) := by decide +kernel
theorem dX5_isSquare_0 : decode cX5_isSquare 0 = .ok (.iload_n 1, 1) := by decide +kernel
theorem dX5_isSquare_1 : decode cX5_isSquare 1 = .ok (.ifCond .lt 27, 3) := by decide +kernel
theorem dX5_isSquare_4 : decode cX5_isSquare 4 = .ok (.iload_n 1, 1) := by decide +kernel
theorem dX5_isSquare_5 : decode cX5_isSquare 5 = .ok (.aload_n 0, 1) := by decide +kernel
theorem dX5_isSquare_6 : decode cX5_isSquare 6 = .ok (.getfield 52, 3) := by decide +kernel
theorem dX5_isSquare_9 : decode cX5_isSquare 9 = .ok (.if_icmp .ge 19, 3) := by decide +kernel
theorem dX5_isSquare_12 : decode cX5_isSquare 12 = .ok (.iload_n 2, 1) := by decide +kernel
theorem dX5_isSquare_13 : decode cX5_isSquare 13 = .ok (.ifCond .lt 15, 3) := by decide +kernel
theorem dX5_isSquare_16 : decode cX5_isSquare 16 = .ok (.iload_n 2, 1) := by decide +kernel
theorem dX5_isSquare_17 : decode cX5_isSquare 17 = .ok (.aload_n 0, 1) := by decide +kernel
theorem dX5_isSquare_18 : decode cX5_isSquare 18 = .ok (.getfield 56, 3) := by decide +kernel
theorem dX5_isSquare_21 : decode cX5_isSquare 21 = .ok (.if_icmp .ge 7, 3) := by decide +kernel
theorem dX5_isSquare_24 : decode cX5_isSquare 24 = .ok (.iconst 1, 1) := by decide +kernel
theorem dX5_isSquare_25 : decode cX5_isSquare 25 = .ok (.goto 4, 3) := by decide +kernel
theorem dX5_isSquare_28 : decode cX5_isSquare 28 = .ok (.iconst 0, 1) := by decide +kernel
theorem dX5_isSquare_29 : decode cX5_isSquare 29 = .ok (.ireturn, 1) := by decide +kernel
theorem dX5_along_0 : decode cX5_along 0 = .ok (.aload_n 1, 1) := by decide +kernel
theorem dX5_along_1 : decode cX5_along 1 = .ok (.bipush 7, 2) := by decide +kernel
theorem dX5_along_3 : decode cX5_along 3 = .ok (.iload_n 2, 1) := by decide +kernel
theorem dX5_along_4 : decode cX5_along 4 = .ok (.imul, 1) := by decide +kernel
theorem dX5_along_5 : decode cX5_along 5 = .ok (.iload_n 3, 1) := by decide +kernel
theorem dX5_along_6 : decode cX5_along 6 = .ok (.iadd, 1) := by decide +kernel
theorem dX5_along_7 : decode cX5_along 7 = .ok (.iaload, 1) := by decide +kernel
theorem dX5_along_8 : decode cX5_along 8 = .ok (.istore 6, 2) := by decide +kernel
theorem dX5_along_10 : decode cX5_along 10 = .ok (.iconst 0, 1) := by decide +kernel
theorem dX5_along_11 : decode cX5_along 11 = .ok (.istore 7, 2) := by decide +kernel
theorem dX5_along_13 : decode cX5_along 13 = .ok (.iload_n 2, 1) := by decide +kernel
theorem dX5_along_14 : decode cX5_along 14 = .ok (.iload 4, 2) := by decide +kernel
theorem dX5_along_16 : decode cX5_along 16 = .ok (.iadd, 1) := by decide +kernel
theorem dX5_along_17 : decode cX5_along 17 = .ok (.istore 8, 2) := by decide +kernel
theorem dX5_along_19 : decode cX5_along 19 = .ok (.iload_n 3, 1) := by decide +kernel
theorem dX5_along_20 : decode cX5_along 20 = .ok (.iload 5, 2) := by decide +kernel
theorem dX5_along_22 : decode cX5_along 22 = .ok (.iadd, 1) := by decide +kernel
theorem dX5_along_23 : decode cX5_along 23 = .ok (.istore 9, 2) := by decide +kernel
theorem dX5_along_25 : decode cX5_along 25 = .ok (.aload_n 0, 1) := by decide +kernel
theorem dX5_along_26 : decode cX5_along 26 = .ok (.iload 8, 2) := by decide +kernel
theorem dX5_along_28 : decode cX5_along 28 = .ok (.iload 9, 2) := by decide +kernel
theorem dX5_along_30 : decode cX5_along 30 = .ok (.invokevirtual 62, 3) := by decide +kernel
theorem dX5_along_33 : decode cX5_along 33 = .ok (.ifCond .eq 38, 3) := by decide +kernel
theorem dX5_along_36 : decode cX5_along 36 = .ok (.aload_n 1, 1) := by decide +kernel
theorem dX5_along_37 : decode cX5_along 37 = .ok (.bipush 7, 2) := by decide +kernel
theorem dX5_along_39 : decode cX5_along 39 = .ok (.iload 8, 2) := by decide +kernel
theorem dX5_along_41 : decode cX5_along 41 = .ok (.imul, 1) := by decide +kernel
theorem dX5_along_42 : decode cX5_along 42 = .ok (.iload 9, 2) := by decide +kernel
theorem dX5_along_44 : decode cX5_along 44 = .ok (.iadd, 1) := by decide +kernel
theorem dX5_along_45 : decode cX5_along 45 = .ok (.iaload, 1) := by decide +kernel
theorem dX5_along_46 : decode cX5_along 46 = .ok (.iload 6, 2) := by decide +kernel
theorem dX5_along_48 : decode cX5_along 48 = .ok (.if_icmp .ne 23, 3) := by decide +kernel
theorem dX5_along_51 : decode cX5_along 51 = .ok (.iinc 7 1, 3) := by decide +kernel
theorem dX5_along_54 : decode cX5_along 54 = .ok (.iload 8, 2) := by decide +kernel
theorem dX5_along_56 : decode cX5_along 56 = .ok (.iload 4, 2) := by decide +kernel
theorem dX5_along_58 : decode cX5_along 58 = .ok (.iadd, 1) := by decide +kernel
theorem dX5_along_59 : decode cX5_along 59 = .ok (.istore 8, 2) := by decide +kernel
theorem dX5_along_61 : decode cX5_along 61 = .ok (.iload 9, 2) := by decide +kernel
theorem dX5_along_63 : decode cX5_along 63 = .ok (.iload 5, 2) := by decide +kernel
theorem dX5_along_65 : decode cX5_along 65 = .ok (.iadd, 1) := by decide +kernel
theorem dX5_along_66 : decode cX5_along 66 = .ok (.istore 9, 2) := by decide +kernel
theorem dX5_along_68 : decode cX5_along 68 = .ok (.goto (-43), 3) := by decide +kernel
theorem dX5_along_71 : decode cX5_along 71 = .ok (.iload 7, 2) := by decide +kernel
theorem dX5_along_73 : decode cX5_along 73 = .ok (.ireturn, 1) := by decide +kernel
theorem dX5_wins_0 : decode cX5_wins 0 = .ok (.aload_n 0, 1) := by decide +kernel
theorem dX5_wins_1 : decode cX5_wins 1 = .ok (.aload_n 1, 1) := by decide +kernel
theorem dX5_wins_2 : decode cX5_wins 2 = .ok (.iload_n 2, 1) := by decide +kernel
theorem dX5_wins_3 : decode cX5_wins 3 = .ok (.iload_n 3, 1) := by decide +kernel
theorem dX5_wins_4 : decode cX5_wins 4 = .ok (.iconst 0, 1) := by decide +kernel
theorem dX5_wins_5 : decode cX5_wins 5 = .ok (.iconst (-1), 1) := by decide +kernel
theorem dX5_wins_6 : decode cX5_wins 6 = .ok (.invokevirtual 66, 3) := by decide +kernel
theorem dX5_wins_9 : decode cX5_wins 9 = .ok (.iconst 2, 1) := by decide +kernel
theorem dX5_wins_10 : decode cX5_wins 10 = .ok (.if_icmp .gt 72, 3) := by decide +kernel
theorem dX5_wins_13 : decode cX5_wins 13 = .ok (.aload_n 0, 1) := by decide +kernel
theorem dX5_wins_14 : decode cX5_wins 14 = .ok (.aload_n 1, 1) := by decide +kernel
theorem dX5_wins_15 : decode cX5_wins 15 = .ok (.iload_n 2, 1) := by decide +kernel
theorem dX5_wins_16 : decode cX5_wins 16 = .ok (.iload_n 3, 1) := by decide +kernel
theorem dX5_wins_17 : decode cX5_wins 17 = .ok (.iconst 1, 1) := by decide +kernel
theorem dX5_wins_18 : decode cX5_wins 18 = .ok (.iconst 0, 1) := by decide +kernel
theorem dX5_wins_19 : decode cX5_wins 19 = .ok (.invokevirtual 66, 3) := by decide +kernel
theorem dX5_wins_22 : decode cX5_wins 22 = .ok (.aload_n 0, 1) := by decide +kernel
theorem dX5_wins_23 : decode cX5_wins 23 = .ok (.aload_n 1, 1) := by decide +kernel
theorem dX5_wins_24 : decode cX5_wins 24 = .ok (.iload_n 2, 1) := by decide +kernel
theorem dX5_wins_25 : decode cX5_wins 25 = .ok (.iload_n 3, 1) := by decide +kernel
theorem dX5_wins_26 : decode cX5_wins 26 = .ok (.iconst (-1), 1) := by decide +kernel
theorem dX5_wins_27 : decode cX5_wins 27 = .ok (.iconst 0, 1) := by decide +kernel
theorem dX5_wins_28 : decode cX5_wins 28 = .ok (.invokevirtual 66, 3) := by decide +kernel
theorem dX5_wins_31 : decode cX5_wins 31 = .ok (.iadd, 1) := by decide +kernel
theorem dX5_wins_32 : decode cX5_wins 32 = .ok (.iconst 2, 1) := by decide +kernel
theorem dX5_wins_33 : decode cX5_wins 33 = .ok (.if_icmp .gt 49, 3) := by decide +kernel
theorem dX5_wins_36 : decode cX5_wins 36 = .ok (.aload_n 0, 1) := by decide +kernel
theorem dX5_wins_37 : decode cX5_wins 37 = .ok (.aload_n 1, 1) := by decide +kernel
theorem dX5_wins_38 : decode cX5_wins 38 = .ok (.iload_n 2, 1) := by decide +kernel
theorem dX5_wins_39 : decode cX5_wins 39 = .ok (.iload_n 3, 1) := by decide +kernel
theorem dX5_wins_40 : decode cX5_wins 40 = .ok (.iconst 1, 1) := by decide +kernel
theorem dX5_wins_41 : decode cX5_wins 41 = .ok (.iconst 1, 1) := by decide +kernel
theorem dX5_wins_42 : decode cX5_wins 42 = .ok (.invokevirtual 66, 3) := by decide +kernel
theorem dX5_wins_45 : decode cX5_wins 45 = .ok (.aload_n 0, 1) := by decide +kernel
theorem dX5_wins_46 : decode cX5_wins 46 = .ok (.aload_n 1, 1) := by decide +kernel
theorem dX5_wins_47 : decode cX5_wins 47 = .ok (.iload_n 2, 1) := by decide +kernel
theorem dX5_wins_48 : decode cX5_wins 48 = .ok (.iload_n 3, 1) := by decide +kernel
theorem dX5_wins_49 : decode cX5_wins 49 = .ok (.iconst (-1), 1) := by decide +kernel
theorem dX5_wins_50 : decode cX5_wins 50 = .ok (.iconst (-1), 1) := by decide +kernel
theorem dX5_wins_51 : decode cX5_wins 51 = .ok (.invokevirtual 66, 3) := by decide +kernel
theorem dX5_wins_54 : decode cX5_wins 54 = .ok (.iadd, 1) := by decide +kernel
theorem dX5_wins_55 : decode cX5_wins 55 = .ok (.iconst 2, 1) := by decide +kernel
theorem dX5_wins_56 : decode cX5_wins 56 = .ok (.if_icmp .gt 26, 3) := by decide +kernel
theorem dX5_wins_59 : decode cX5_wins 59 = .ok (.aload_n 0, 1) := by decide +kernel
theorem dX5_wins_60 : decode cX5_wins 60 = .ok (.aload_n 1, 1) := by decide +kernel
theorem dX5_wins_61 : decode cX5_wins 61 = .ok (.iload_n 2, 1) := by decide +kernel
theorem dX5_wins_62 : decode cX5_wins 62 = .ok (.iload_n 3, 1) := by decide +kernel
theorem dX5_wins_63 : decode cX5_wins 63 = .ok (.iconst 1, 1) := by decide +kernel
theorem dX5_wins_64 : decode cX5_wins 64 = .ok (.iconst (-1), 1) := by decide +kernel
theorem dX5_wins_65 : decode cX5_wins 65 = .ok (.invokevirtual 66, 3) := by decide +kernel
theorem dX5_wins_68 : decode cX5_wins 68 = .ok (.aload_n 0, 1) := by decide +kernel
theorem dX5_wins_69 : decode cX5_wins 69 = .ok (.aload_n 1, 1) := by decide +kernel
theorem dX5_wins_70 : decode cX5_wins 70 = .ok (.iload_n 2, 1) := by decide +kernel
theorem dX5_wins_71 : decode cX5_wins 71 = .ok (.iload_n 3, 1) := by decide +kernel
theorem dX5_wins_72 : decode cX5_wins 72 = .ok (.iconst (-1), 1) := by decide +kernel
theorem dX5_wins_73 : decode cX5_wins 73 = .ok (.iconst 1, 1) := by decide +kernel
theorem dX5_wins_74 : decode cX5_wins 74 = .ok (.invokevirtual 66, 3) := by decide +kernel
theorem dX5_wins_77 : decode cX5_wins 77 = .ok (.iadd, 1) := by decide +kernel
theorem dX5_wins_78 : decode cX5_wins 78 = .ok (.iconst 2, 1) := by decide +kernel
theorem dX5_wins_79 : decode cX5_wins 79 = .ok (.if_icmp .le 7, 3) := by decide +kernel
theorem dX5_wins_82 : decode cX5_wins 82 = .ok (.iconst 1, 1) := by decide +kernel
theorem dX5_wins_83 : decode cX5_wins 83 = .ok (.goto 4, 3) := by decide +kernel
theorem dX5_wins_86 : decode cX5_wins 86 = .ok (.iconst 0, 1) := by decide +kernel
theorem dX5_wins_87 : decode cX5_wins 87 = .ok (.ireturn, 1) := by decide +kernel
theorem dX5_winnerNow_0 : decode cX5_winnerNow 0 = .ok (.aload_n 0, 1) := by decide +kernel
theorem dX5_winnerNow_1 : decode cX5_winnerNow 1 = .ok (.getfield 70, 3) := by decide +kernel
theorem dX5_winnerNow_4 : decode cX5_winnerNow 4 = .ok (.ifCond .le 54, 3) := by decide +kernel
theorem dX5_winnerNow_7 : decode cX5_winnerNow 7 = .ok (.aload_n 0, 1) := by decide +kernel
theorem dX5_winnerNow_8 : decode cX5_winnerNow 8 = .ok (.getfield 16, 3) := by decide +kernel
theorem dX5_winnerNow_11 : decode cX5_winnerNow 11 = .ok (.aload_n 0, 1) := by decide +kernel
theorem dX5_winnerNow_12 : decode cX5_winnerNow 12 = .ok (.getfield 70, 3) := by decide +kernel
theorem dX5_winnerNow_15 : decode cX5_winnerNow 15 = .ok (.iconst 1, 1) := by decide +kernel
theorem dX5_winnerNow_16 : decode cX5_winnerNow 16 = .ok (.isub, 1) := by decide +kernel
theorem dX5_winnerNow_17 : decode cX5_winnerNow 17 = .ok (.iaload, 1) := by decide +kernel
theorem dX5_winnerNow_18 : decode cX5_winnerNow 18 = .ok (.istore_n 1, 1) := by decide +kernel
theorem dX5_winnerNow_19 : decode cX5_winnerNow 19 = .ok (.aload_n 0, 1) := by decide +kernel
theorem dX5_winnerNow_20 : decode cX5_winnerNow 20 = .ok (.aload_n 0, 1) := by decide +kernel
theorem dX5_winnerNow_21 : decode cX5_winnerNow 21 = .ok (.getfield 7, 3) := by decide +kernel
theorem dX5_winnerNow_24 : decode cX5_winnerNow 24 = .ok (.iload_n 1, 1) := by decide +kernel
theorem dX5_winnerNow_25 : decode cX5_winnerNow 25 = .ok (.aload_n 0, 1) := by decide +kernel
theorem dX5_winnerNow_26 : decode cX5_winnerNow 26 = .ok (.getfield 13, 3) := by decide +kernel
theorem dX5_winnerNow_29 : decode cX5_winnerNow 29 = .ok (.iload_n 1, 1) := by decide +kernel
theorem dX5_winnerNow_30 : decode cX5_winnerNow 30 = .ok (.iaload, 1) := by decide +kernel
theorem dX5_winnerNow_31 : decode cX5_winnerNow 31 = .ok (.iconst 1, 1) := by decide +kernel
theorem dX5_winnerNow_32 : decode cX5_winnerNow 32 = .ok (.isub, 1) := by decide +kernel
theorem dX5_winnerNow_33 : decode cX5_winnerNow 33 = .ok (.invokevirtual 73, 3) := by decide +kernel
theorem dX5_winnerNow_36 : decode cX5_winnerNow 36 = .ok (.ifCond .eq 22, 3) := by decide +kernel
theorem dX5_winnerNow_39 : decode cX5_winnerNow 39 = .ok (.aload_n 0, 1) := by decide +kernel
theorem dX5_winnerNow_40 : decode cX5_winnerNow 40 = .ok (.getfield 7, 3) := by decide +kernel
theorem dX5_winnerNow_43 : decode cX5_winnerNow 43 = .ok (.bipush 7, 2) := by decide +kernel
theorem dX5_winnerNow_45 : decode cX5_winnerNow 45 = .ok (.iload_n 1, 1) := by decide +kernel
theorem dX5_winnerNow_46 : decode cX5_winnerNow 46 = .ok (.imul, 1) := by decide +kernel
theorem dX5_winnerNow_47 : decode cX5_winnerNow 47 = .ok (.aload_n 0, 1) := by decide +kernel
theorem dX5_winnerNow_48 : decode cX5_winnerNow 48 = .ok (.getfield 13, 3) := by decide +kernel
theorem dX5_winnerNow_51 : decode cX5_winnerNow 51 = .ok (.iload_n 1, 1) := by decide +kernel
theorem dX5_winnerNow_52 : decode cX5_winnerNow 52 = .ok (.iaload, 1) := by decide +kernel
theorem dX5_winnerNow_53 : decode cX5_winnerNow 53 = .ok (.iadd, 1) := by decide +kernel
theorem dX5_winnerNow_54 : decode cX5_winnerNow 54 = .ok (.iconst 1, 1) := by decide +kernel
theorem dX5_winnerNow_55 : decode cX5_winnerNow 55 = .ok (.isub, 1) := by decide +kernel
theorem dX5_winnerNow_56 : decode cX5_winnerNow 56 = .ok (.iaload, 1) := by decide +kernel
theorem dX5_winnerNow_57 : decode cX5_winnerNow 57 = .ok (.ireturn, 1) := by decide +kernel
theorem dX5_winnerNow_58 : decode cX5_winnerNow 58 = .ok (.aload_n 0, 1) := by decide +kernel
theorem dX5_winnerNow_59 : decode cX5_winnerNow 59 = .ok (.getfield 70, 3) := by decide +kernel
theorem dX5_winnerNow_62 : decode cX5_winnerNow 62 = .ok (.aload_n 0, 1) := by decide +kernel
theorem dX5_winnerNow_63 : decode cX5_winnerNow 63 = .ok (.getfield 52, 3) := by decide +kernel
theorem dX5_winnerNow_66 : decode cX5_winnerNow 66 = .ok (.aload_n 0, 1) := by decide +kernel
theorem dX5_winnerNow_67 : decode cX5_winnerNow 67 = .ok (.getfield 56, 3) := by decide +kernel
theorem dX5_winnerNow_70 : decode cX5_winnerNow 70 = .ok (.imul, 1) := by decide +kernel
theorem dX5_winnerNow_71 : decode cX5_winnerNow 71 = .ok (.if_icmp .ne 7, 3) := by decide +kernel
theorem dX5_winnerNow_74 : decode cX5_winnerNow 74 = .ok (.iconst 2, 1) := by decide +kernel
theorem dX5_winnerNow_75 : decode cX5_winnerNow 75 = .ok (.goto 4, 3) := by decide +kernel
theorem dX5_winnerNow_78 : decode cX5_winnerNow 78 = .ok (.iconst (-1), 1) := by decide +kernel
theorem dX5_winnerNow_79 : decode cX5_winnerNow 79 = .ok (.ireturn, 1) := by decide +kernel
theorem dX5_drop_0 : decode cX5_drop 0 = .ok (.iload_n 1, 1) := by decide +kernel
theorem dX5_drop_1 : decode cX5_drop 1 = .ok (.ifCond .lt 11, 3) := by decide +kernel
theorem dX5_drop_4 : decode cX5_drop 4 = .ok (.iload_n 1, 1) := by decide +kernel
theorem dX5_drop_5 : decode cX5_drop 5 = .ok (.aload_n 0, 1) := by decide +kernel
theorem dX5_drop_6 : decode cX5_drop 6 = .ok (.getfield 52, 3) := by decide +kernel
theorem dX5_drop_9 : decode cX5_drop 9 = .ok (.if_icmp .lt 7, 3) := by decide +kernel
theorem dX5_drop_12 : decode cX5_drop 12 = .ok (.iconst 1, 1) := by decide +kernel
theorem dX5_drop_13 : decode cX5_drop 13 = .ok (.goto 4, 3) := by decide +kernel
theorem dX5_drop_16 : decode cX5_drop 16 = .ok (.iconst 0, 1) := by decide +kernel
theorem dX5_drop_17 : decode cX5_drop 17 = .ok (.istore_n 2, 1) := by decide +kernel
theorem dX5_drop_18 : decode cX5_drop 18 = .ok (.aload_n 0, 1) := by decide +kernel
theorem dX5_drop_19 : decode cX5_drop 19 = .ok (.iload_n 2, 1) := by decide +kernel
theorem dX5_drop_20 : decode cX5_drop 20 = .ok (.iload_n 2, 1) := by decide +kernel
theorem dX5_drop_21 : decode cX5_drop 21 = .ok (.ifCond .ne 27, 3) := by decide +kernel
theorem dX5_drop_24 : decode cX5_drop 24 = .ok (.aload_n 0, 1) := by decide +kernel
theorem dX5_drop_25 : decode cX5_drop 25 = .ok (.invokevirtual 77, 3) := by decide +kernel
theorem dX5_drop_28 : decode cX5_drop 28 = .ok (.ifCond .ge 16, 3) := by decide +kernel
theorem dX5_drop_31 : decode cX5_drop 31 = .ok (.aload_n 0, 1) := by decide +kernel
theorem dX5_drop_32 : decode cX5_drop 32 = .ok (.getfield 13, 3) := by decide +kernel
theorem dX5_drop_35 : decode cX5_drop 35 = .ok (.iload_n 1, 1) := by decide +kernel
theorem dX5_drop_36 : decode cX5_drop 36 = .ok (.iaload, 1) := by decide +kernel
theorem dX5_drop_37 : decode cX5_drop 37 = .ok (.aload_n 0, 1) := by decide +kernel
theorem dX5_drop_38 : decode cX5_drop 38 = .ok (.getfield 56, 3) := by decide +kernel
theorem dX5_drop_41 : decode cX5_drop 41 = .ok (.if_icmp .ne 7, 3) := by decide +kernel
theorem dX5_drop_44 : decode cX5_drop 44 = .ok (.iconst 1, 1) := by decide +kernel
theorem dX5_drop_45 : decode cX5_drop 45 = .ok (.goto 4, 3) := by decide +kernel
theorem dX5_drop_48 : decode cX5_drop 48 = .ok (.iconst 0, 1) := by decide +kernel
theorem dX5_drop_49 : decode cX5_drop 49 = .ok (.invokevirtual 81, 3) := by decide +kernel
theorem dX5_drop_52 : decode cX5_drop 52 = .ok (.ifCond .eq 5, 3) := by decide +kernel
theorem dX5_drop_55 : decode cX5_drop 55 = .ok (.iconst 0, 1) := by decide +kernel
theorem dX5_drop_56 : decode cX5_drop 56 = .ok (.ireturn, 1) := by decide +kernel
theorem dX5_drop_57 : decode cX5_drop 57 = .ok (.aload_n 0, 1) := by decide +kernel
theorem dX5_drop_58 : decode cX5_drop 58 = .ok (.getfield 13, 3) := by decide +kernel
theorem dX5_drop_61 : decode cX5_drop 61 = .ok (.iload_n 1, 1) := by decide +kernel
theorem dX5_drop_62 : decode cX5_drop 62 = .ok (.iaload, 1) := by decide +kernel
theorem dX5_drop_63 : decode cX5_drop 63 = .ok (.istore_n 3, 1) := by decide +kernel
theorem dX5_drop_64 : decode cX5_drop 64 = .ok (.aload_n 0, 1) := by decide +kernel
theorem dX5_drop_65 : decode cX5_drop 65 = .ok (.getfield 7, 3) := by decide +kernel
theorem dX5_drop_68 : decode cX5_drop 68 = .ok (.bipush 7, 2) := by decide +kernel
theorem dX5_drop_70 : decode cX5_drop 70 = .ok (.iload_n 1, 1) := by decide +kernel
theorem dX5_drop_71 : decode cX5_drop 71 = .ok (.imul, 1) := by decide +kernel
theorem dX5_drop_72 : decode cX5_drop 72 = .ok (.iload_n 3, 1) := by decide +kernel
theorem dX5_drop_73 : decode cX5_drop 73 = .ok (.iadd, 1) := by decide +kernel
theorem dX5_drop_74 : decode cX5_drop 74 = .ok (.aload_n 0, 1) := by decide +kernel
theorem dX5_drop_75 : decode cX5_drop 75 = .ok (.getfield 70, 3) := by decide +kernel
theorem dX5_drop_78 : decode cX5_drop 78 = .ok (.iconst 2, 1) := by decide +kernel
theorem dX5_drop_79 : decode cX5_drop 79 = .ok (.irem, 1) := by decide +kernel
theorem dX5_drop_80 : decode cX5_drop 80 = .ok (.iastore, 1) := by decide +kernel
theorem dX5_drop_81 : decode cX5_drop 81 = .ok (.aload_n 0, 1) := by decide +kernel
theorem dX5_drop_82 : decode cX5_drop 82 = .ok (.getfield 13, 3) := by decide +kernel
theorem dX5_drop_85 : decode cX5_drop 85 = .ok (.iload_n 1, 1) := by decide +kernel
theorem dX5_drop_86 : decode cX5_drop 86 = .ok (.iload_n 3, 1) := by decide +kernel
theorem dX5_drop_87 : decode cX5_drop 87 = .ok (.iconst 1, 1) := by decide +kernel
theorem dX5_drop_88 : decode cX5_drop 88 = .ok (.iadd, 1) := by decide +kernel
theorem dX5_drop_89 : decode cX5_drop 89 = .ok (.iastore, 1) := by decide +kernel
theorem dX5_drop_90 : decode cX5_drop 90 = .ok (.aload_n 0, 1) := by decide +kernel
theorem dX5_drop_91 : decode cX5_drop 91 = .ok (.getfield 16, 3) := by decide +kernel
theorem dX5_drop_94 : decode cX5_drop 94 = .ok (.aload_n 0, 1) := by decide +kernel
theorem dX5_drop_95 : decode cX5_drop 95 = .ok (.getfield 70, 3) := by decide +kernel
theorem dX5_drop_98 : decode cX5_drop 98 = .ok (.iload_n 1, 1) := by decide +kernel
theorem dX5_drop_99 : decode cX5_drop 99 = .ok (.iastore, 1) := by decide +kernel
theorem dX5_drop_100 : decode cX5_drop 100 = .ok (.aload_n 0, 1) := by decide +kernel
theorem dX5_drop_101 : decode cX5_drop 101 = .ok (.dup, 1) := by decide +kernel
theorem dX5_drop_102 : decode cX5_drop 102 = .ok (.getfield 70, 3) := by decide +kernel
theorem dX5_drop_105 : decode cX5_drop 105 = .ok (.iconst 1, 1) := by decide +kernel
theorem dX5_drop_106 : decode cX5_drop 106 = .ok (.iadd, 1) := by decide +kernel
theorem dX5_drop_107 : decode cX5_drop 107 = .ok (.putfield 70, 3) := by decide +kernel
theorem dX5_drop_110 : decode cX5_drop 110 = .ok (.aload_n 0, 1) := by decide +kernel
theorem dX5_drop_111 : decode cX5_drop 111 = .ok (.iconst 0, 1) := by decide +kernel
theorem dX5_drop_112 : decode cX5_drop 112 = .ok (.putfield 85, 3) := by decide +kernel
theorem dX5_drop_115 : decode cX5_drop 115 = .ok (.iload_n 3, 1) := by decide +kernel
theorem dX5_drop_116 : decode cX5_drop 116 = .ok (.ireturn, 1) := by decide +kernel
theorem dX5_back_0 : decode cX5_back 0 = .ok (.aload_n 0, 1) := by decide +kernel
theorem dX5_back_1 : decode cX5_back 1 = .ok (.aload_n 0, 1) := by decide +kernel
theorem dX5_back_2 : decode cX5_back 2 = .ok (.getfield 70, 3) := by decide +kernel
theorem dX5_back_5 : decode cX5_back 5 = .ok (.ifCond .ne 7, 3) := by decide +kernel
theorem dX5_back_8 : decode cX5_back 8 = .ok (.iconst 1, 1) := by decide +kernel
theorem dX5_back_9 : decode cX5_back 9 = .ok (.goto 4, 3) := by decide +kernel
theorem dX5_back_12 : decode cX5_back 12 = .ok (.iconst 0, 1) := by decide +kernel
theorem dX5_back_13 : decode cX5_back 13 = .ok (.iconst 0, 1) := by decide +kernel
theorem dX5_back_14 : decode cX5_back 14 = .ok (.invokevirtual 81, 3) := by decide +kernel
theorem dX5_back_17 : decode cX5_back 17 = .ok (.ifCond .eq 5, 3) := by decide +kernel
theorem dX5_back_20 : decode cX5_back 20 = .ok (.iconst 0, 1) := by decide +kernel
theorem dX5_back_21 : decode cX5_back 21 = .ok (.ireturn, 1) := by decide +kernel
theorem dX5_back_22 : decode cX5_back 22 = .ok (.aload_n 0, 1) := by decide +kernel
theorem dX5_back_23 : decode cX5_back 23 = .ok (.dup, 1) := by decide +kernel
theorem dX5_back_24 : decode cX5_back 24 = .ok (.getfield 70, 3) := by decide +kernel
theorem dX5_back_27 : decode cX5_back 27 = .ok (.iconst 1, 1) := by decide +kernel
theorem dX5_back_28 : decode cX5_back 28 = .ok (.isub, 1) := by decide +kernel
theorem dX5_back_29 : decode cX5_back 29 = .ok (.putfield 70, 3) := by decide +kernel
theorem dX5_back_32 : decode cX5_back 32 = .ok (.aload_n 0, 1) := by decide +kernel
theorem dX5_back_33 : decode cX5_back 33 = .ok (.getfield 16, 3) := by decide +kernel
theorem dX5_back_36 : decode cX5_back 36 = .ok (.aload_n 0, 1) := by decide +kernel
theorem dX5_back_37 : decode cX5_back 37 = .ok (.getfield 70, 3) := by decide +kernel
theorem dX5_back_40 : decode cX5_back 40 = .ok (.iaload, 1) := by decide +kernel
theorem dX5_back_41 : decode cX5_back 41 = .ok (.istore_n 1, 1) := by decide +kernel
theorem dX5_back_42 : decode cX5_back 42 = .ok (.aload_n 0, 1) := by decide +kernel
theorem dX5_back_43 : decode cX5_back 43 = .ok (.getfield 13, 3) := by decide +kernel
theorem dX5_back_46 : decode cX5_back 46 = .ok (.iload_n 1, 1) := by decide +kernel
theorem dX5_back_47 : decode cX5_back 47 = .ok (.dup2, 1) := by decide +kernel
theorem dX5_back_48 : decode cX5_back 48 = .ok (.iaload, 1) := by decide +kernel
theorem dX5_back_49 : decode cX5_back 49 = .ok (.iconst 1, 1) := by decide +kernel
theorem dX5_back_50 : decode cX5_back 50 = .ok (.isub, 1) := by decide +kernel
theorem dX5_back_51 : decode cX5_back 51 = .ok (.iastore, 1) := by decide +kernel
theorem dX5_back_52 : decode cX5_back 52 = .ok (.aload_n 0, 1) := by decide +kernel
theorem dX5_back_53 : decode cX5_back 53 = .ok (.getfield 7, 3) := by decide +kernel
theorem dX5_back_56 : decode cX5_back 56 = .ok (.bipush 7, 2) := by decide +kernel
theorem dX5_back_58 : decode cX5_back 58 = .ok (.iload_n 1, 1) := by decide +kernel
theorem dX5_back_59 : decode cX5_back 59 = .ok (.imul, 1) := by decide +kernel
theorem dX5_back_60 : decode cX5_back 60 = .ok (.aload_n 0, 1) := by decide +kernel
theorem dX5_back_61 : decode cX5_back 61 = .ok (.getfield 13, 3) := by decide +kernel
theorem dX5_back_64 : decode cX5_back 64 = .ok (.iload_n 1, 1) := by decide +kernel
theorem dX5_back_65 : decode cX5_back 65 = .ok (.iaload, 1) := by decide +kernel
theorem dX5_back_66 : decode cX5_back 66 = .ok (.iadd, 1) := by decide +kernel
theorem dX5_back_67 : decode cX5_back 67 = .ok (.iconst (-1), 1) := by decide +kernel
theorem dX5_back_68 : decode cX5_back 68 = .ok (.iastore, 1) := by decide +kernel
theorem dX5_back_69 : decode cX5_back 69 = .ok (.aload_n 0, 1) := by decide +kernel
theorem dX5_back_70 : decode cX5_back 70 = .ok (.iconst 0, 1) := by decide +kernel
theorem dX5_back_71 : decode cX5_back 71 = .ok (.putfield 85, 3) := by decide +kernel
theorem dX5_back_74 : decode cX5_back 74 = .ok (.iload_n 1, 1) := by decide +kernel
theorem dX5_back_75 : decode cX5_back 75 = .ok (.ireturn, 1) := by decide +kernel
theorem dX5_turn_0 : decode cX5_turn 0 = .ok (.aload_n 0, 1) := by decide +kernel
theorem dX5_turn_1 : decode cX5_turn 1 = .ok (.iconst 0, 1) := by decide +kernel
theorem dX5_turn_2 : decode cX5_turn 2 = .ok (.putfield 59, 3) := by decide +kernel
theorem dX5_turn_5 : decode cX5_turn 5 = .ok (.aload_n 0, 1) := by decide +kernel
theorem dX5_turn_6 : decode cX5_turn 6 = .ok (.getfield 70, 3) := by decide +kernel
theorem dX5_turn_9 : decode cX5_turn 9 = .ok (.iconst 2, 1) := by decide +kernel
theorem dX5_turn_10 : decode cX5_turn 10 = .ok (.irem, 1) := by decide +kernel
theorem dX5_turn_11 : decode cX5_turn 11 = .ok (.ireturn, 1) := by decide +kernel
theorem dX5_winner_0 : decode cX5_winner 0 = .ok (.aload_n 0, 1) := by decide +kernel
theorem dX5_winner_1 : decode cX5_winner 1 = .ok (.iconst 0, 1) := by decide +kernel
theorem dX5_winner_2 : decode cX5_winner 2 = .ok (.putfield 59, 3) := by decide +kernel
theorem dX5_winner_5 : decode cX5_winner 5 = .ok (.aload_n 0, 1) := by decide +kernel
theorem dX5_winner_6 : decode cX5_winner 6 = .ok (.invokevirtual 77, 3) := by decide +kernel
theorem dX5_winner_9 : decode cX5_winner 9 = .ok (.ireturn, 1) := by decide +kernel
theorem dX5_at_0 : decode cX5_at 0 = .ok (.aload_n 0, 1) := by decide +kernel
theorem dX5_at_1 : decode cX5_at 1 = .ok (.aload_n 0, 1) := by decide +kernel
theorem dX5_at_2 : decode cX5_at 2 = .ok (.iload_n 1, 1) := by decide +kernel
theorem dX5_at_3 : decode cX5_at 3 = .ok (.iload_n 2, 1) := by decide +kernel
theorem dX5_at_4 : decode cX5_at 4 = .ok (.invokevirtual 62, 3) := by decide +kernel
theorem dX5_at_7 : decode cX5_at 7 = .ok (.ifCond .ne 7, 3) := by decide +kernel
theorem dX5_at_10 : decode cX5_at 10 = .ok (.iconst 1, 1) := by decide +kernel
theorem dX5_at_11 : decode cX5_at 11 = .ok (.goto 4, 3) := by decide +kernel
theorem dX5_at_14 : decode cX5_at 14 = .ok (.iconst 0, 1) := by decide +kernel
theorem dX5_at_15 : decode cX5_at 15 = .ok (.iconst 0, 1) := by decide +kernel
theorem dX5_at_16 : decode cX5_at 16 = .ok (.invokevirtual 81, 3) := by decide +kernel
theorem dX5_at_19 : decode cX5_at 19 = .ok (.ifCond .eq 7, 3) := by decide +kernel
theorem dX5_at_22 : decode cX5_at 22 = .ok (.iconst 0, 1) := by decide +kernel
theorem dX5_at_23 : decode cX5_at 23 = .ok (.goto 14, 3) := by decide +kernel
theorem dX5_at_26 : decode cX5_at 26 = .ok (.aload_n 0, 1) := by decide +kernel
theorem dX5_at_27 : decode cX5_at 27 = .ok (.getfield 7, 3) := by decide +kernel
theorem dX5_at_30 : decode cX5_at 30 = .ok (.bipush 7, 2) := by decide +kernel
theorem dX5_at_32 : decode cX5_at 32 = .ok (.iload_n 1, 1) := by decide +kernel
theorem dX5_at_33 : decode cX5_at 33 = .ok (.imul, 1) := by decide +kernel
theorem dX5_at_34 : decode cX5_at 34 = .ok (.iload_n 2, 1) := by decide +kernel
end
section
theorem dX5_at_35 : decode cX5_at 35 = .ok (.iadd, 1) := by decide +kernel
theorem dX5_at_36 : decode cX5_at 36 = .ok (.iaload, 1) := by decide +kernel
theorem dX5_at_37 : decode cX5_at 37 = .ok (.ireturn, 1) := by decide +kernel
theorem dX5_empty_0 : decode cX5_empty 0 = .ok (.aload_n 0, 1) := by decide +kernel
theorem dX5_empty_1 : decode cX5_empty 1 = .ok (.iconst 0, 1) := by decide +kernel
theorem dX5_empty_2 : decode cX5_empty 2 = .ok (.putfield 59, 3) := by decide +kernel
theorem dX5_empty_5 : decode cX5_empty 5 = .ok (.aload_n 0, 1) := by decide +kernel
theorem dX5_empty_6 : decode cX5_empty 6 = .ok (.getfield 52, 3) := by decide +kernel
theorem dX5_empty_9 : decode cX5_empty 9 = .ok (.aload_n 0, 1) := by decide +kernel
theorem dX5_empty_10 : decode cX5_empty 10 = .ok (.getfield 56, 3) := by decide +kernel
theorem dX5_empty_13 : decode cX5_empty 13 = .ok (.imul, 1) := by decide +kernel
theorem dX5_empty_14 : decode cX5_empty 14 = .ok (.aload_n 0, 1) := by decide +kernel
theorem dX5_empty_15 : decode cX5_empty 15 = .ok (.getfield 70, 3) := by decide +kernel
theorem dX5_empty_18 : decode cX5_empty 18 = .ok (.isub, 1) := by decide +kernel
theorem dX5_empty_19 : decode cX5_empty 19 = .ok (.ireturn, 1) := by decide +kernel
theorem dX5_columnOf_0 : decode cX5_columnOf 0 = .ok (.iload_n 1, 1) := by decide +kernel
theorem dX5_columnOf_1 : decode cX5_columnOf 1 = .ok (.ifCond .ne 7, 3) := by decide +kernel
theorem dX5_columnOf_4 : decode cX5_columnOf 4 = .ok (.iload_n 0, 1) := by decide +kernel
theorem dX5_columnOf_5 : decode cX5_columnOf 5 = .ok (.goto 6, 3) := by decide +kernel
theorem dX5_columnOf_8 : decode cX5_columnOf 8 = .ok (.iload_n 0, 1) := by decide +kernel
theorem dX5_columnOf_9 : decode cX5_columnOf 9 = .ok (.iload_n 2, 1) := by decide +kernel
theorem dX5_columnOf_10 : decode cX5_columnOf 10 = .ok (.iadd, 1) := by decide +kernel
theorem dX5_columnOf_11 : decode cX5_columnOf 11 = .ok (.ireturn, 1) := by decide +kernel
theorem dX5_rowOf_0 : decode cX5_rowOf 0 = .ok (.iload_n 1, 1) := by decide +kernel
theorem dX5_rowOf_1 : decode cX5_rowOf 1 = .ok (.iconst 1, 1) := by decide +kernel
theorem dX5_rowOf_2 : decode cX5_rowOf 2 = .ok (.if_icmp .ne 7, 3) := by decide +kernel
theorem dX5_rowOf_5 : decode cX5_rowOf 5 = .ok (.iload_n 0, 1) := by decide +kernel
theorem dX5_rowOf_6 : decode cX5_rowOf 6 = .ok (.goto 17, 3) := by decide +kernel
theorem dX5_rowOf_9 : decode cX5_rowOf 9 = .ok (.iload_n 1, 1) := by decide +kernel
theorem dX5_rowOf_10 : decode cX5_rowOf 10 = .ok (.iconst 3, 1) := by decide +kernel
theorem dX5_rowOf_11 : decode cX5_rowOf 11 = .ok (.if_icmp .ne 9, 3) := by decide +kernel
theorem dX5_rowOf_14 : decode cX5_rowOf 14 = .ok (.iload_n 0, 1) := by decide +kernel
theorem dX5_rowOf_15 : decode cX5_rowOf 15 = .ok (.iload_n 2, 1) := by decide +kernel
theorem dX5_rowOf_16 : decode cX5_rowOf 16 = .ok (.isub, 1) := by decide +kernel
theorem dX5_rowOf_17 : decode cX5_rowOf 17 = .ok (.goto 6, 3) := by decide +kernel
theorem dX5_rowOf_20 : decode cX5_rowOf 20 = .ok (.iload_n 0, 1) := by decide +kernel
theorem dX5_rowOf_21 : decode cX5_rowOf 21 = .ok (.iload_n 2, 1) := by decide +kernel
theorem dX5_rowOf_22 : decode cX5_rowOf 22 = .ok (.iadd, 1) := by decide +kernel
theorem dX5_rowOf_23 : decode cX5_rowOf 23 = .ok (.ireturn, 1) := by decide +kernel
theorem dX5_isLine_0 : decode cX5_isLine 0 = .ok (.aload_n 0, 1) := by decide +kernel
theorem dX5_isLine_1 : decode cX5_isLine 1 = .ok (.iload_n 1, 1) := by decide +kernel
theorem dX5_isLine_2 : decode cX5_isLine 2 = .ok (.iload_n 3, 1) := by decide +kernel
theorem dX5_isLine_3 : decode cX5_isLine 3 = .ok (.iconst 3, 1) := by decide +kernel
theorem dX5_isLine_4 : decode cX5_isLine 4 = .ok (.invokestatic 89, 3) := by decide +kernel
theorem dX5_isLine_7 : decode cX5_isLine 7 = .ok (.iload_n 2, 1) := by decide +kernel
theorem dX5_isLine_8 : decode cX5_isLine 8 = .ok (.iload_n 3, 1) := by decide +kernel
theorem dX5_isLine_9 : decode cX5_isLine 9 = .ok (.iconst 3, 1) := by decide +kernel
theorem dX5_isLine_10 : decode cX5_isLine 10 = .ok (.invokestatic 93, 3) := by decide +kernel
theorem dX5_isLine_13 : decode cX5_isLine 13 = .ok (.invokevirtual 62, 3) := by decide +kernel
theorem dX5_isLine_16 : decode cX5_isLine 16 = .ok (.ireturn, 1) := by decide +kernel
theorem dX5_many_0 : decode cX5_many 0 = .ok (.iconst 0, 1) := by decide +kernel
theorem dX5_many_1 : decode cX5_many 1 = .ok (.istore 5, 2) := by decide +kernel
theorem dX5_many_3 : decode cX5_many 3 = .ok (.iconst 0, 1) := by decide +kernel
theorem dX5_many_4 : decode cX5_many 4 = .ok (.istore 6, 2) := by decide +kernel
theorem dX5_many_6 : decode cX5_many 6 = .ok (.iload 6, 2) := by decide +kernel
theorem dX5_many_8 : decode cX5_many 8 = .ok (.iconst 4, 1) := by decide +kernel
theorem dX5_many_9 : decode cX5_many 9 = .ok (.if_icmp .ge 48, 3) := by decide +kernel
theorem dX5_many_12 : decode cX5_many 12 = .ok (.aload_n 0, 1) := by decide +kernel
theorem dX5_many_13 : decode cX5_many 13 = .ok (.getfield 7, 3) := by decide +kernel
theorem dX5_many_16 : decode cX5_many 16 = .ok (.bipush 7, 2) := by decide +kernel
theorem dX5_many_18 : decode cX5_many 18 = .ok (.iload_n 1, 1) := by decide +kernel
theorem dX5_many_19 : decode cX5_many 19 = .ok (.iload_n 3, 1) := by decide +kernel
theorem dX5_many_20 : decode cX5_many 20 = .ok (.iload 6, 2) := by decide +kernel
theorem dX5_many_22 : decode cX5_many 22 = .ok (.invokestatic 89, 3) := by decide +kernel
theorem dX5_many_25 : decode cX5_many 25 = .ok (.imul, 1) := by decide +kernel
theorem dX5_many_26 : decode cX5_many 26 = .ok (.iload_n 2, 1) := by decide +kernel
theorem dX5_many_27 : decode cX5_many 27 = .ok (.iload_n 3, 1) := by decide +kernel
theorem dX5_many_28 : decode cX5_many 28 = .ok (.iload 6, 2) := by decide +kernel
theorem dX5_many_30 : decode cX5_many 30 = .ok (.invokestatic 93, 3) := by decide +kernel
theorem dX5_many_33 : decode cX5_many 33 = .ok (.iadd, 1) := by decide +kernel
theorem dX5_many_34 : decode cX5_many 34 = .ok (.iaload, 1) := by decide +kernel
theorem dX5_many_35 : decode cX5_many 35 = .ok (.iload 4, 2) := by decide +kernel
theorem dX5_many_37 : decode cX5_many 37 = .ok (.if_icmp .ne 10, 3) := by decide +kernel
theorem dX5_many_40 : decode cX5_many 40 = .ok (.iload 5, 2) := by decide +kernel
theorem dX5_many_42 : decode cX5_many 42 = .ok (.iconst 1, 1) := by decide +kernel
theorem dX5_many_43 : decode cX5_many 43 = .ok (.iadd, 1) := by decide +kernel
theorem dX5_many_44 : decode cX5_many 44 = .ok (.goto 5, 3) := by decide +kernel
theorem dX5_many_47 : decode cX5_many 47 = .ok (.iload 5, 2) := by decide +kernel
theorem dX5_many_49 : decode cX5_many 49 = .ok (.istore 5, 2) := by decide +kernel
theorem dX5_many_51 : decode cX5_many 51 = .ok (.iinc 6 1, 3) := by decide +kernel
theorem dX5_many_54 : decode cX5_many 54 = .ok (.goto (-48), 3) := by decide +kernel
theorem dX5_many_57 : decode cX5_many 57 = .ok (.iload 5, 2) := by decide +kernel
theorem dX5_many_59 : decode cX5_many 59 = .ok (.ireturn, 1) := by decide +kernel
theorem dX5_open_0 : decode cX5_open 0 = .ok (.aload_n 0, 1) := by decide +kernel
theorem dX5_open_1 : decode cX5_open 1 = .ok (.iload_n 1, 1) := by decide +kernel
theorem dX5_open_2 : decode cX5_open 2 = .ok (.ifCond .lt 8, 3) := by decide +kernel
theorem dX5_open_5 : decode cX5_open 5 = .ok (.iload_n 1, 1) := by decide +kernel
theorem dX5_open_6 : decode cX5_open 6 = .ok (.iconst 1, 1) := by decide +kernel
theorem dX5_open_7 : decode cX5_open 7 = .ok (.if_icmp .le 7, 3) := by decide +kernel
theorem dX5_open_10 : decode cX5_open 10 = .ok (.iconst 1, 1) := by decide +kernel
theorem dX5_open_11 : decode cX5_open 11 = .ok (.goto 4, 3) := by decide +kernel
theorem dX5_open_14 : decode cX5_open 14 = .ok (.iconst 0, 1) := by decide +kernel
theorem dX5_open_15 : decode cX5_open 15 = .ok (.iconst 0, 1) := by decide +kernel
theorem dX5_open_16 : decode cX5_open 16 = .ok (.invokevirtual 81, 3) := by decide +kernel
theorem dX5_open_19 : decode cX5_open 19 = .ok (.ifCond .eq 5, 3) := by decide +kernel
theorem dX5_open_22 : decode cX5_open 22 = .ok (.iconst 0, 1) := by decide +kernel
theorem dX5_open_23 : decode cX5_open 23 = .ok (.ireturn, 1) := by decide +kernel
theorem dX5_open_24 : decode cX5_open 24 = .ok (.iconst 0, 1) := by decide +kernel
theorem dX5_open_25 : decode cX5_open 25 = .ok (.istore_n 2, 1) := by decide +kernel
theorem dX5_open_26 : decode cX5_open 26 = .ok (.iconst 0, 1) := by decide +kernel
theorem dX5_open_27 : decode cX5_open 27 = .ok (.istore_n 3, 1) := by decide +kernel
theorem dX5_open_28 : decode cX5_open 28 = .ok (.iload_n 3, 1) := by decide +kernel
theorem dX5_open_29 : decode cX5_open 29 = .ok (.aload_n 0, 1) := by decide +kernel
theorem dX5_open_30 : decode cX5_open 30 = .ok (.getfield 52, 3) := by decide +kernel
theorem dX5_open_33 : decode cX5_open 33 = .ok (.if_icmp .ge 77, 3) := by decide +kernel
theorem dX5_open_36 : decode cX5_open 36 = .ok (.iconst 0, 1) := by decide +kernel
theorem dX5_open_37 : decode cX5_open 37 = .ok (.istore 4, 2) := by decide +kernel
theorem dX5_open_39 : decode cX5_open 39 = .ok (.iload 4, 2) := by decide +kernel
theorem dX5_open_41 : decode cX5_open 41 = .ok (.aload_n 0, 1) := by decide +kernel
theorem dX5_open_42 : decode cX5_open 42 = .ok (.getfield 56, 3) := by decide +kernel
theorem dX5_open_45 : decode cX5_open 45 = .ok (.if_icmp .ge 59, 3) := by decide +kernel
theorem dX5_open_48 : decode cX5_open 48 = .ok (.iconst 0, 1) := by decide +kernel
theorem dX5_open_49 : decode cX5_open 49 = .ok (.istore 5, 2) := by decide +kernel
theorem dX5_open_51 : decode cX5_open 51 = .ok (.iload 5, 2) := by decide +kernel
theorem dX5_open_53 : decode cX5_open 53 = .ok (.iconst 4, 1) := by decide +kernel
theorem dX5_open_54 : decode cX5_open 54 = .ok (.if_icmp .ge 44, 3) := by decide +kernel
theorem dX5_open_57 : decode cX5_open 57 = .ok (.aload_n 0, 1) := by decide +kernel
theorem dX5_open_58 : decode cX5_open 58 = .ok (.iload_n 3, 1) := by decide +kernel
theorem dX5_open_59 : decode cX5_open 59 = .ok (.iload 4, 2) := by decide +kernel
theorem dX5_open_61 : decode cX5_open 61 = .ok (.iload 5, 2) := by decide +kernel
theorem dX5_open_63 : decode cX5_open 63 = .ok (.invokevirtual 96, 3) := by decide +kernel
theorem dX5_open_66 : decode cX5_open 66 = .ok (.ifCond .eq 24, 3) := by decide +kernel
theorem dX5_open_69 : decode cX5_open 69 = .ok (.aload_n 0, 1) := by decide +kernel
theorem dX5_open_70 : decode cX5_open 70 = .ok (.iload_n 3, 1) := by decide +kernel
theorem dX5_open_71 : decode cX5_open 71 = .ok (.iload 4, 2) := by decide +kernel
theorem dX5_open_73 : decode cX5_open 73 = .ok (.iload 5, 2) := by decide +kernel
theorem dX5_open_75 : decode cX5_open 75 = .ok (.iconst 1, 1) := by decide +kernel
theorem dX5_open_76 : decode cX5_open 76 = .ok (.iload_n 1, 1) := by decide +kernel
theorem dX5_open_77 : decode cX5_open 77 = .ok (.isub, 1) := by decide +kernel
theorem dX5_open_78 : decode cX5_open 78 = .ok (.invokevirtual 100, 3) := by decide +kernel
theorem dX5_open_81 : decode cX5_open 81 = .ok (.ifCond .ne 9, 3) := by decide +kernel
theorem dX5_open_84 : decode cX5_open 84 = .ok (.iload_n 2, 1) := by decide +kernel
theorem dX5_open_85 : decode cX5_open 85 = .ok (.iconst 1, 1) := by decide +kernel
theorem dX5_open_86 : decode cX5_open 86 = .ok (.iadd, 1) := by decide +kernel
theorem dX5_open_87 : decode cX5_open 87 = .ok (.goto 4, 3) := by decide +kernel
theorem dX5_open_90 : decode cX5_open 90 = .ok (.iload_n 2, 1) := by decide +kernel
theorem dX5_open_91 : decode cX5_open 91 = .ok (.istore_n 2, 1) := by decide +kernel
theorem dX5_open_92 : decode cX5_open 92 = .ok (.iinc 5 1, 3) := by decide +kernel
theorem dX5_open_95 : decode cX5_open 95 = .ok (.goto (-44), 3) := by decide +kernel
theorem dX5_open_98 : decode cX5_open 98 = .ok (.iinc 4 1, 3) := by decide +kernel
theorem dX5_open_101 : decode cX5_open 101 = .ok (.goto (-62), 3) := by decide +kernel
theorem dX5_open_104 : decode cX5_open 104 = .ok (.iinc 3 1, 3) := by decide +kernel
theorem dX5_open_107 : decode cX5_open 107 = .ok (.goto (-79), 3) := by decide +kernel
theorem dX5_open_110 : decode cX5_open 110 = .ok (.iload_n 2, 1) := by decide +kernel
theorem dX5_open_111 : decode cX5_open 111 = .ok (.ireturn, 1) := by decide +kernel
theorem dX5_isThreat_0 : decode cX5_isThreat 0 = .ok (.iconst 0, 1) := by decide +kernel
theorem dX5_isThreat_1 : decode cX5_isThreat 1 = .ok (.istore 4, 2) := by decide +kernel
theorem dX5_isThreat_3 : decode cX5_isThreat 3 = .ok (.iload 4, 2) := by decide +kernel
theorem dX5_isThreat_5 : decode cX5_isThreat 5 = .ok (.iconst 4, 1) := by decide +kernel
theorem dX5_isThreat_6 : decode cX5_isThreat 6 = .ok (.if_icmp .ge 87, 3) := by decide +kernel
theorem dX5_isThreat_9 : decode cX5_isThreat 9 = .ok (.iconst 0, 1) := by decide +kernel
theorem dX5_isThreat_10 : decode cX5_isThreat 10 = .ok (.istore 5, 2) := by decide +kernel
theorem dX5_isThreat_12 : decode cX5_isThreat 12 = .ok (.iload 5, 2) := by decide +kernel
theorem dX5_isThreat_14 : decode cX5_isThreat 14 = .ok (.iconst 4, 1) := by decide +kernel
theorem dX5_isThreat_15 : decode cX5_isThreat 15 = .ok (.if_icmp .ge 72, 3) := by decide +kernel
theorem dX5_isThreat_18 : decode cX5_isThreat 18 = .ok (.iload_n 1, 1) := by decide +kernel
theorem dX5_isThreat_19 : decode cX5_isThreat 19 = .ok (.iload 4, 2) := by decide +kernel
theorem dX5_isThreat_21 : decode cX5_isThreat 21 = .ok (.iload 5, 2) := by decide +kernel
theorem dX5_isThreat_23 : decode cX5_isThreat 23 = .ok (.ineg, 1) := by decide +kernel
theorem dX5_isThreat_24 : decode cX5_isThreat 24 = .ok (.invokestatic 89, 3) := by decide +kernel
theorem dX5_isThreat_27 : decode cX5_isThreat 27 = .ok (.istore 6, 2) := by decide +kernel
theorem dX5_isThreat_29 : decode cX5_isThreat 29 = .ok (.iload_n 2, 1) := by decide +kernel
theorem dX5_isThreat_30 : decode cX5_isThreat 30 = .ok (.iload 4, 2) := by decide +kernel
theorem dX5_isThreat_32 : decode cX5_isThreat 32 = .ok (.iload 5, 2) := by decide +kernel
theorem dX5_isThreat_34 : decode cX5_isThreat 34 = .ok (.ineg, 1) := by decide +kernel
theorem dX5_isThreat_35 : decode cX5_isThreat 35 = .ok (.invokestatic 93, 3) := by decide +kernel
theorem dX5_isThreat_38 : decode cX5_isThreat 38 = .ok (.istore 7, 2) := by decide +kernel
theorem dX5_isThreat_40 : decode cX5_isThreat 40 = .ok (.aload_n 0, 1) := by decide +kernel
theorem dX5_isThreat_41 : decode cX5_isThreat 41 = .ok (.iload 6, 2) := by decide +kernel
theorem dX5_isThreat_43 : decode cX5_isThreat 43 = .ok (.iload 7, 2) := by decide +kernel
theorem dX5_isThreat_45 : decode cX5_isThreat 45 = .ok (.invokevirtual 62, 3) := by decide +kernel
theorem dX5_isThreat_48 : decode cX5_isThreat 48 = .ok (.ifCond .eq 33, 3) := by decide +kernel
theorem dX5_isThreat_51 : decode cX5_isThreat 51 = .ok (.aload_n 0, 1) := by decide +kernel
theorem dX5_isThreat_52 : decode cX5_isThreat 52 = .ok (.iload 6, 2) := by decide +kernel
theorem dX5_isThreat_54 : decode cX5_isThreat 54 = .ok (.iload 7, 2) := by decide +kernel
theorem dX5_isThreat_56 : decode cX5_isThreat 56 = .ok (.iload 4, 2) := by decide +kernel
theorem dX5_isThreat_58 : decode cX5_isThreat 58 = .ok (.invokevirtual 96, 3) := by decide +kernel
theorem dX5_isThreat_61 : decode cX5_isThreat 61 = .ok (.ifCond .eq 20, 3) := by decide +kernel
theorem dX5_isThreat_64 : decode cX5_isThreat 64 = .ok (.aload_n 0, 1) := by decide +kernel
theorem dX5_isThreat_65 : decode cX5_isThreat 65 = .ok (.iload 6, 2) := by decide +kernel
theorem dX5_isThreat_67 : decode cX5_isThreat 67 = .ok (.iload 7, 2) := by decide +kernel
theorem dX5_isThreat_69 : decode cX5_isThreat 69 = .ok (.iload 4, 2) := by decide +kernel
theorem dX5_isThreat_71 : decode cX5_isThreat 71 = .ok (.iload_n 3, 1) := by decide +kernel
theorem dX5_isThreat_72 : decode cX5_isThreat 72 = .ok (.invokevirtual 100, 3) := by decide +kernel
theorem dX5_isThreat_75 : decode cX5_isThreat 75 = .ok (.iconst 3, 1) := by decide +kernel
theorem dX5_isThreat_76 : decode cX5_isThreat 76 = .ok (.if_icmp .ne 5, 3) := by decide +kernel
theorem dX5_isThreat_79 : decode cX5_isThreat 79 = .ok (.iconst 1, 1) := by decide +kernel
theorem dX5_isThreat_80 : decode cX5_isThreat 80 = .ok (.ireturn, 1) := by decide +kernel
theorem dX5_isThreat_81 : decode cX5_isThreat 81 = .ok (.iinc 5 1, 3) := by decide +kernel
theorem dX5_isThreat_84 : decode cX5_isThreat 84 = .ok (.goto (-72), 3) := by decide +kernel
theorem dX5_isThreat_87 : decode cX5_isThreat 87 = .ok (.iinc 4 1, 3) := by decide +kernel
theorem dX5_isThreat_90 : decode cX5_isThreat 90 = .ok (.goto (-87), 3) := by decide +kernel
theorem dX5_isThreat_93 : decode cX5_isThreat 93 = .ok (.iconst 0, 1) := by decide +kernel
theorem dX5_isThreat_94 : decode cX5_isThreat 94 = .ok (.ireturn, 1) := by decide +kernel
theorem dX5_threats_0 : decode cX5_threats 0 = .ok (.aload_n 0, 1) := by decide +kernel
theorem dX5_threats_1 : decode cX5_threats 1 = .ok (.iload_n 1, 1) := by decide +kernel
theorem dX5_threats_2 : decode cX5_threats 2 = .ok (.ifCond .lt 8, 3) := by decide +kernel
theorem dX5_threats_5 : decode cX5_threats 5 = .ok (.iload_n 1, 1) := by decide +kernel
theorem dX5_threats_6 : decode cX5_threats 6 = .ok (.iconst 1, 1) := by decide +kernel
theorem dX5_threats_7 : decode cX5_threats 7 = .ok (.if_icmp .le 7, 3) := by decide +kernel
theorem dX5_threats_10 : decode cX5_threats 10 = .ok (.iconst 1, 1) := by decide +kernel
theorem dX5_threats_11 : decode cX5_threats 11 = .ok (.goto 4, 3) := by decide +kernel
theorem dX5_threats_14 : decode cX5_threats 14 = .ok (.iconst 0, 1) := by decide +kernel
theorem dX5_threats_15 : decode cX5_threats 15 = .ok (.iconst 0, 1) := by decide +kernel
theorem dX5_threats_16 : decode cX5_threats 16 = .ok (.invokevirtual 81, 3) := by decide +kernel
theorem dX5_threats_19 : decode cX5_threats 19 = .ok (.ifCond .eq 5, 3) := by decide +kernel
theorem dX5_threats_22 : decode cX5_threats 22 = .ok (.iconst 0, 1) := by decide +kernel
theorem dX5_threats_23 : decode cX5_threats 23 = .ok (.ireturn, 1) := by decide +kernel
theorem dX5_threats_24 : decode cX5_threats 24 = .ok (.iconst 0, 1) := by decide +kernel
theorem dX5_threats_25 : decode cX5_threats 25 = .ok (.istore_n 2, 1) := by decide +kernel
theorem dX5_threats_26 : decode cX5_threats 26 = .ok (.iconst 0, 1) := by decide +kernel
theorem dX5_threats_27 : decode cX5_threats 27 = .ok (.istore_n 3, 1) := by decide +kernel
theorem dX5_threats_28 : decode cX5_threats 28 = .ok (.iload_n 3, 1) := by decide +kernel
theorem dX5_threats_29 : decode cX5_threats 29 = .ok (.aload_n 0, 1) := by decide +kernel
theorem dX5_threats_30 : decode cX5_threats 30 = .ok (.getfield 52, 3) := by decide +kernel
theorem dX5_threats_33 : decode cX5_threats 33 = .ok (.if_icmp .ge 62, 3) := by decide +kernel
theorem dX5_threats_36 : decode cX5_threats 36 = .ok (.iconst 0, 1) := by decide +kernel
theorem dX5_threats_37 : decode cX5_threats 37 = .ok (.istore 4, 2) := by decide +kernel
theorem dX5_threats_39 : decode cX5_threats 39 = .ok (.iload 4, 2) := by decide +kernel
theorem dX5_threats_41 : decode cX5_threats 41 = .ok (.aload_n 0, 1) := by decide +kernel
theorem dX5_threats_42 : decode cX5_threats 42 = .ok (.getfield 56, 3) := by decide +kernel
theorem dX5_threats_45 : decode cX5_threats 45 = .ok (.if_icmp .ge 44, 3) := by decide +kernel
theorem dX5_threats_48 : decode cX5_threats 48 = .ok (.aload_n 0, 1) := by decide +kernel
theorem dX5_threats_49 : decode cX5_threats 49 = .ok (.getfield 7, 3) := by decide +kernel
theorem dX5_threats_52 : decode cX5_threats 52 = .ok (.bipush 7, 2) := by decide +kernel
theorem dX5_threats_54 : decode cX5_threats 54 = .ok (.iload_n 3, 1) := by decide +kernel
theorem dX5_threats_55 : decode cX5_threats 55 = .ok (.imul, 1) := by decide +kernel
theorem dX5_threats_56 : decode cX5_threats 56 = .ok (.iload 4, 2) := by decide +kernel
theorem dX5_threats_58 : decode cX5_threats 58 = .ok (.iadd, 1) := by decide +kernel
theorem dX5_threats_59 : decode cX5_threats 59 = .ok (.iaload, 1) := by decide +kernel
theorem dX5_threats_60 : decode cX5_threats 60 = .ok (.iconst (-1), 1) := by decide +kernel
theorem dX5_threats_61 : decode cX5_threats 61 = .ok (.if_icmp .ne 20, 3) := by decide +kernel
theorem dX5_threats_64 : decode cX5_threats 64 = .ok (.aload_n 0, 1) := by decide +kernel
theorem dX5_threats_65 : decode cX5_threats 65 = .ok (.iload_n 3, 1) := by decide +kernel
theorem dX5_threats_66 : decode cX5_threats 66 = .ok (.iload 4, 2) := by decide +kernel
theorem dX5_threats_68 : decode cX5_threats 68 = .ok (.iload_n 1, 1) := by decide +kernel
theorem dX5_threats_69 : decode cX5_threats 69 = .ok (.invokevirtual 104, 3) := by decide +kernel
theorem dX5_threats_72 : decode cX5_threats 72 = .ok (.ifCond .eq 9, 3) := by decide +kernel
theorem dX5_threats_75 : decode cX5_threats 75 = .ok (.iload_n 2, 1) := by decide +kernel
theorem dX5_threats_76 : decode cX5_threats 76 = .ok (.iconst 1, 1) := by decide +kernel
theorem dX5_threats_77 : decode cX5_threats 77 = .ok (.iadd, 1) := by decide +kernel
theorem dX5_threats_78 : decode cX5_threats 78 = .ok (.goto 4, 3) := by decide +kernel
theorem dX5_threats_81 : decode cX5_threats 81 = .ok (.iload_n 2, 1) := by decide +kernel
theorem dX5_threats_82 : decode cX5_threats 82 = .ok (.istore_n 2, 1) := by decide +kernel
theorem dX5_threats_83 : decode cX5_threats 83 = .ok (.iinc 4 1, 3) := by decide +kernel
theorem dX5_threats_86 : decode cX5_threats 86 = .ok (.goto (-47), 3) := by decide +kernel
theorem dX5_threats_89 : decode cX5_threats 89 = .ok (.iinc 3 1, 3) := by decide +kernel
theorem dX5_threats_92 : decode cX5_threats 92 = .ok (.goto (-64), 3) := by decide +kernel
theorem dX5_threats_95 : decode cX5_threats 95 = .ok (.iload_n 2, 1) := by decide +kernel
theorem dX5_threats_96 : decode cX5_threats 96 = .ok (.ireturn, 1) := by decide +kernel
theorem dX5_show_0 : decode cX5_show 0 = .ok (.aload_n 0, 1) := by decide +kernel
theorem dX5_show_1 : decode cX5_show 1 = .ok (.getfield 20, 3) := by decide +kernel
theorem dX5_show_4 : decode cX5_show 4 = .ok (.iload_n 1, 1) := by decide +kernel
theorem dX5_show_5 : decode cX5_show 5 = .ok (.iaload, 1) := by decide +kernel
theorem dX5_show_6 : decode cX5_show 6 = .ok (.istore_n 2, 1) := by decide +kernel
theorem dX5_show_7 : decode cX5_show 7 = .ok (.iconst 0, 1) := by decide +kernel
theorem dX5_show_8 : decode cX5_show 8 = .ok (.istore_n 3, 1) := by decide +kernel
theorem dX5_show_9 : decode cX5_show 9 = .ok (.iload_n 3, 1) := by decide +kernel
theorem dX5_show_10 : decode cX5_show 10 = .ok (.bipush 63, 2) := by decide +kernel
theorem dX5_show_12 : decode cX5_show 12 = .ok (.if_icmp .ge 21, 3) := by decide +kernel
theorem dX5_show_15 : decode cX5_show 15 = .ok (.aload_n 0, 1) := by decide +kernel
theorem dX5_show_16 : decode cX5_show 16 = .ok (.getfield 42, 3) := by decide +kernel
theorem dX5_show_19 : decode cX5_show 19 = .ok (.iload_n 3, 1) := by decide +kernel
theorem dX5_show_20 : decode cX5_show 20 = .ok (.aload_n 0, 1) := by decide +kernel
theorem dX5_show_21 : decode cX5_show 21 = .ok (.getfield 7, 3) := by decide +kernel
theorem dX5_show_24 : decode cX5_show 24 = .ok (.iload_n 3, 1) := by decide +kernel
theorem dX5_show_25 : decode cX5_show 25 = .ok (.iaload, 1) := by decide +kernel
theorem dX5_show_26 : decode cX5_show 26 = .ok (.iastore, 1) := by decide +kernel
theorem dX5_show_27 : decode cX5_show 27 = .ok (.iinc 3 1, 3) := by decide +kernel
theorem dX5_show_30 : decode cX5_show 30 = .ok (.goto (-21), 3) := by decide +kernel
theorem dX5_show_33 : decode cX5_show 33 = .ok (.iconst 0, 1) := by decide +kernel
theorem dX5_show_34 : decode cX5_show 34 = .ok (.istore_n 3, 1) := by decide +kernel
theorem dX5_show_35 : decode cX5_show 35 = .ok (.iload_n 3, 1) := by decide +kernel
theorem dX5_show_36 : decode cX5_show 36 = .ok (.aload_n 0, 1) := by decide +kernel
theorem dX5_show_37 : decode cX5_show 37 = .ok (.getfield 52, 3) := by decide +kernel
theorem dX5_show_40 : decode cX5_show 40 = .ok (.if_icmp .ge 110, 3) := by decide +kernel
theorem dX5_show_43 : decode cX5_show 43 = .ok (.iload_n 2, 1) := by decide +kernel
theorem dX5_show_44 : decode cX5_show 44 = .ok (.aload_n 0, 1) := by decide +kernel
theorem dX5_show_45 : decode cX5_show 45 = .ok (.getfield 56, 3) := by decide +kernel
theorem dX5_show_48 : decode cX5_show 48 = .ok (.aload_n 0, 1) := by decide +kernel
theorem dX5_show_49 : decode cX5_show 49 = .ok (.getfield 13, 3) := by decide +kernel
theorem dX5_show_52 : decode cX5_show 52 = .ok (.iload_n 3, 1) := by decide +kernel
theorem dX5_show_53 : decode cX5_show 53 = .ok (.iaload, 1) := by decide +kernel
theorem dX5_show_54 : decode cX5_show 54 = .ok (.isub, 1) := by decide +kernel
theorem dX5_show_55 : decode cX5_show 55 = .ok (.iconst 1, 1) := by decide +kernel
theorem dX5_show_56 : decode cX5_show 56 = .ok (.iadd, 1) := by decide +kernel
theorem dX5_show_57 : decode cX5_show 57 = .ok (.irem, 1) := by decide +kernel
theorem dX5_show_58 : decode cX5_show 58 = .ok (.istore 4, 2) := by decide +kernel
theorem dX5_show_60 : decode cX5_show 60 = .ok (.iload_n 2, 1) := by decide +kernel
theorem dX5_show_61 : decode cX5_show 61 = .ok (.aload_n 0, 1) := by decide +kernel
theorem dX5_show_62 : decode cX5_show 62 = .ok (.getfield 56, 3) := by decide +kernel
theorem dX5_show_65 : decode cX5_show 65 = .ok (.aload_n 0, 1) := by decide +kernel
theorem dX5_show_66 : decode cX5_show 66 = .ok (.getfield 13, 3) := by decide +kernel
theorem dX5_show_69 : decode cX5_show 69 = .ok (.iload_n 3, 1) := by decide +kernel
theorem dX5_show_70 : decode cX5_show 70 = .ok (.iaload, 1) := by decide +kernel
theorem dX5_show_71 : decode cX5_show 71 = .ok (.isub, 1) := by decide +kernel
theorem dX5_show_72 : decode cX5_show 72 = .ok (.iconst 1, 1) := by decide +kernel
theorem dX5_show_73 : decode cX5_show 73 = .ok (.iadd, 1) := by decide +kernel
theorem dX5_show_74 : decode cX5_show 74 = .ok (.idiv, 1) := by decide +kernel
theorem dX5_show_75 : decode cX5_show 75 = .ok (.istore_n 2, 1) := by decide +kernel
theorem dX5_show_76 : decode cX5_show 76 = .ok (.iconst 0, 1) := by decide +kernel
theorem dX5_show_77 : decode cX5_show 77 = .ok (.istore 5, 2) := by decide +kernel
theorem dX5_show_79 : decode cX5_show 79 = .ok (.iload 5, 2) := by decide +kernel
theorem dX5_show_81 : decode cX5_show 81 = .ok (.iload 4, 2) := by decide +kernel
theorem dX5_show_83 : decode cX5_show 83 = .ok (.if_icmp .ge 46, 3) := by decide +kernel
theorem dX5_show_86 : decode cX5_show 86 = .ok (.aload_n 0, 1) := by decide +kernel
theorem dX5_show_87 : decode cX5_show 87 = .ok (.getfield 42, 3) := by decide +kernel
theorem dX5_show_90 : decode cX5_show 90 = .ok (.bipush 7, 2) := by decide +kernel
theorem dX5_show_92 : decode cX5_show 92 = .ok (.iload_n 3, 1) := by decide +kernel
theorem dX5_show_93 : decode cX5_show 93 = .ok (.imul, 1) := by decide +kernel
theorem dX5_show_94 : decode cX5_show 94 = .ok (.aload_n 0, 1) := by decide +kernel
theorem dX5_show_95 : decode cX5_show 95 = .ok (.getfield 13, 3) := by decide +kernel
theorem dX5_show_98 : decode cX5_show 98 = .ok (.iload_n 3, 1) := by decide +kernel
theorem dX5_show_99 : decode cX5_show 99 = .ok (.iaload, 1) := by decide +kernel
theorem dX5_show_100 : decode cX5_show 100 = .ok (.iadd, 1) := by decide +kernel
theorem dX5_show_101 : decode cX5_show 101 = .ok (.iload 5, 2) := by decide +kernel
theorem dX5_show_103 : decode cX5_show 103 = .ok (.iadd, 1) := by decide +kernel
theorem dX5_show_104 : decode cX5_show 104 = .ok (.aload_n 0, 1) := by decide +kernel
theorem dX5_show_105 : decode cX5_show 105 = .ok (.getfield 23, 3) := by decide +kernel
theorem dX5_show_108 : decode cX5_show 108 = .ok (.iload_n 1, 1) := by decide +kernel
theorem dX5_show_109 : decode cX5_show 109 = .ok (.iaload, 1) := by decide +kernel
theorem dX5_show_110 : decode cX5_show 110 = .ok (.aload_n 0, 1) := by decide +kernel
theorem dX5_show_111 : decode cX5_show 111 = .ok (.getfield 39, 3) := by decide +kernel
theorem dX5_show_114 : decode cX5_show 114 = .ok (.iload_n 3, 1) := by decide +kernel
theorem dX5_show_115 : decode cX5_show 115 = .ok (.iaload, 1) := by decide +kernel
theorem dX5_show_116 : decode cX5_show 116 = .ok (.iload 5, 2) := by decide +kernel
theorem dX5_show_118 : decode cX5_show 118 = .ok (.iadd, 1) := by decide +kernel
theorem dX5_show_119 : decode cX5_show 119 = .ok (.ishr, 1) := by decide +kernel
theorem dX5_show_120 : decode cX5_show 120 = .ok (.iconst 1, 1) := by decide +kernel
theorem dX5_show_121 : decode cX5_show 121 = .ok (.iand, 1) := by decide +kernel
theorem dX5_show_122 : decode cX5_show 122 = .ok (.iastore, 1) := by decide +kernel
theorem dX5_show_123 : decode cX5_show 123 = .ok (.iinc 5 1, 3) := by decide +kernel
theorem dX5_show_126 : decode cX5_show 126 = .ok (.goto (-47), 3) := by decide +kernel
theorem dX5_show_129 : decode cX5_show 129 = .ok (.aload_n 0, 1) := by decide +kernel
theorem dX5_show_130 : decode cX5_show 130 = .ok (.getfield 45, 3) := by decide +kernel
theorem dX5_show_133 : decode cX5_show 133 = .ok (.iload_n 3, 1) := by decide +kernel
theorem dX5_show_134 : decode cX5_show 134 = .ok (.aload_n 0, 1) := by decide +kernel
theorem dX5_show_135 : decode cX5_show 135 = .ok (.getfield 13, 3) := by decide +kernel
theorem dX5_show_138 : decode cX5_show 138 = .ok (.iload_n 3, 1) := by decide +kernel
theorem dX5_show_139 : decode cX5_show 139 = .ok (.iaload, 1) := by decide +kernel
theorem dX5_show_140 : decode cX5_show 140 = .ok (.iload 4, 2) := by decide +kernel
theorem dX5_show_142 : decode cX5_show 142 = .ok (.iadd, 1) := by decide +kernel
theorem dX5_show_143 : decode cX5_show 143 = .ok (.iastore, 1) := by decide +kernel
theorem dX5_show_144 : decode cX5_show 144 = .ok (.iinc 3 1, 3) := by decide +kernel
theorem dX5_show_147 : decode cX5_show 147 = .ok (.goto (-112), 3) := by decide +kernel
theorem dX5_show_150 : decode cX5_show 150 = .ok (.return_, 1) := by decide +kernel
theorem dX5_slotOf_0 : decode cX5_slotOf 0 = .ok (.iload_n 1, 1) := by decide +kernel
theorem dX5_slotOf_1 : decode cX5_slotOf 1 = .ok (.sipush 4099, 3) := by decide +kernel
theorem dX5_slotOf_4 : decode cX5_slotOf 4 = .ok (.imul, 1) := by decide +kernel
theorem dX5_slotOf_5 : decode cX5_slotOf 5 = .ok (.iload_n 2, 1) := by decide +kernel
theorem dX5_slotOf_6 : decode cX5_slotOf 6 = .ok (.bipush 31, 2) := by decide +kernel
theorem dX5_slotOf_8 : decode cX5_slotOf 8 = .ok (.imul, 1) := by decide +kernel
theorem dX5_slotOf_9 : decode cX5_slotOf 9 = .ok (.iadd, 1) := by decide +kernel
theorem dX5_slotOf_10 : decode cX5_slotOf 10 = .ok (.ldc 32, 2) := by decide +kernel
theorem dX5_slotOf_12 : decode cX5_slotOf 12 = .ok (.irem, 1) := by decide +kernel
theorem dX5_slotOf_13 : decode cX5_slotOf 13 = .ok (.istore_n 3, 1) := by decide +kernel
theorem dX5_slotOf_14 : decode cX5_slotOf 14 = .ok (.aload_n 0, 1) := by decide +kernel
theorem dX5_slotOf_15 : decode cX5_slotOf 15 = .ok (.getfield 33, 3) := by decide +kernel
theorem dX5_slotOf_18 : decode cX5_slotOf 18 = .ok (.iload_n 3, 1) := by decide +kernel
theorem dX5_slotOf_19 : decode cX5_slotOf 19 = .ok (.iaload, 1) := by decide +kernel
theorem dX5_slotOf_20 : decode cX5_slotOf 20 = .ok (.ifCond .le 47, 3) := by decide +kernel
theorem dX5_slotOf_23 : decode cX5_slotOf 23 = .ok (.aload_n 0, 1) := by decide +kernel
theorem dX5_slotOf_24 : decode cX5_slotOf 24 = .ok (.getfield 20, 3) := by decide +kernel
theorem dX5_slotOf_27 : decode cX5_slotOf 27 = .ok (.aload_n 0, 1) := by decide +kernel
theorem dX5_slotOf_28 : decode cX5_slotOf 28 = .ok (.getfield 33, 3) := by decide +kernel
theorem dX5_slotOf_31 : decode cX5_slotOf 31 = .ok (.iload_n 3, 1) := by decide +kernel
theorem dX5_slotOf_32 : decode cX5_slotOf 32 = .ok (.iaload, 1) := by decide +kernel
theorem dX5_slotOf_33 : decode cX5_slotOf 33 = .ok (.iconst 1, 1) := by decide +kernel
theorem dX5_slotOf_34 : decode cX5_slotOf 34 = .ok (.isub, 1) := by decide +kernel
theorem dX5_slotOf_35 : decode cX5_slotOf 35 = .ok (.iaload, 1) := by decide +kernel
theorem dX5_slotOf_36 : decode cX5_slotOf 36 = .ok (.iload_n 1, 1) := by decide +kernel
theorem dX5_slotOf_37 : decode cX5_slotOf 37 = .ok (.if_icmp .ne 20, 3) := by decide +kernel
theorem dX5_slotOf_40 : decode cX5_slotOf 40 = .ok (.aload_n 0, 1) := by decide +kernel
theorem dX5_slotOf_41 : decode cX5_slotOf 41 = .ok (.getfield 23, 3) := by decide +kernel
theorem dX5_slotOf_44 : decode cX5_slotOf 44 = .ok (.aload_n 0, 1) := by decide +kernel
theorem dX5_slotOf_45 : decode cX5_slotOf 45 = .ok (.getfield 33, 3) := by decide +kernel
theorem dX5_slotOf_48 : decode cX5_slotOf 48 = .ok (.iload_n 3, 1) := by decide +kernel
theorem dX5_slotOf_49 : decode cX5_slotOf 49 = .ok (.iaload, 1) := by decide +kernel
theorem dX5_slotOf_50 : decode cX5_slotOf 50 = .ok (.iconst 1, 1) := by decide +kernel
theorem dX5_slotOf_51 : decode cX5_slotOf 51 = .ok (.isub, 1) := by decide +kernel
theorem dX5_slotOf_52 : decode cX5_slotOf 52 = .ok (.iaload, 1) := by decide +kernel
theorem dX5_slotOf_53 : decode cX5_slotOf 53 = .ok (.iload_n 2, 1) := by decide +kernel
theorem dX5_slotOf_54 : decode cX5_slotOf 54 = .ok (.if_icmp .eq 13, 3) := by decide +kernel
theorem dX5_slotOf_57 : decode cX5_slotOf 57 = .ok (.iload_n 3, 1) := by decide +kernel
theorem dX5_slotOf_58 : decode cX5_slotOf 58 = .ok (.iconst 1, 1) := by decide +kernel
theorem dX5_slotOf_59 : decode cX5_slotOf 59 = .ok (.iadd, 1) := by decide +kernel
theorem dX5_slotOf_60 : decode cX5_slotOf 60 = .ok (.ldc 32, 2) := by decide +kernel
theorem dX5_slotOf_62 : decode cX5_slotOf 62 = .ok (.irem, 1) := by decide +kernel
theorem dX5_slotOf_63 : decode cX5_slotOf 63 = .ok (.istore_n 3, 1) := by decide +kernel
theorem dX5_slotOf_64 : decode cX5_slotOf 64 = .ok (.goto (-50), 3) := by decide +kernel
theorem dX5_slotOf_67 : decode cX5_slotOf 67 = .ok (.iload_n 3, 1) := by decide +kernel
theorem dX5_slotOf_68 : decode cX5_slotOf 68 = .ok (.ireturn, 1) := by decide +kernel
theorem dX5_behind_0 : decode cX5_behind 0 = .ok (.aload_n 0, 1) := by decide +kernel
theorem dX5_behind_1 : decode cX5_behind 1 = .ok (.getfield 23, 3) := by decide +kernel
theorem dX5_behind_4 : decode cX5_behind 4 = .ok (.iload_n 1, 1) := by decide +kernel
theorem dX5_behind_5 : decode cX5_behind 5 = .ok (.iaload, 1) := by decide +kernel
theorem dX5_behind_6 : decode cX5_behind 6 = .ok (.iload_n 3, 1) := by decide +kernel
theorem dX5_behind_7 : decode cX5_behind 7 = .ok (.aload_n 0, 1) := by decide +kernel
theorem dX5_behind_8 : decode cX5_behind 8 = .ok (.getfield 39, 3) := by decide +kernel
theorem dX5_behind_11 : decode cX5_behind 11 = .ok (.iload_n 2, 1) := by decide +kernel
theorem dX5_behind_12 : decode cX5_behind 12 = .ok (.iaload, 1) := by decide +kernel
theorem dX5_behind_13 : decode cX5_behind 13 = .ok (.aload_n 0, 1) := by decide +kernel
theorem dX5_behind_14 : decode cX5_behind 14 = .ok (.getfield 45, 3) := by decide +kernel
theorem dX5_behind_17 : decode cX5_behind 17 = .ok (.iload_n 2, 1) := by decide +kernel
theorem dX5_behind_18 : decode cX5_behind 18 = .ok (.iaload, 1) := by decide +kernel
theorem dX5_behind_19 : decode cX5_behind 19 = .ok (.iadd, 1) := by decide +kernel
theorem dX5_behind_20 : decode cX5_behind 20 = .ok (.aload_n 0, 1) := by decide +kernel
theorem dX5_behind_21 : decode cX5_behind 21 = .ok (.getfield 13, 3) := by decide +kernel
theorem dX5_behind_24 : decode cX5_behind 24 = .ok (.iload_n 2, 1) := by decide +kernel
theorem dX5_behind_25 : decode cX5_behind 25 = .ok (.iaload, 1) := by decide +kernel
theorem dX5_behind_26 : decode cX5_behind 26 = .ok (.isub, 1) := by decide +kernel
theorem dX5_behind_27 : decode cX5_behind 27 = .ok (.ishl, 1) := by decide +kernel
theorem dX5_behind_28 : decode cX5_behind 28 = .ok (.ior, 1) := by decide +kernel
theorem dX5_behind_29 : decode cX5_behind 29 = .ok (.istore 4, 2) := by decide +kernel
theorem dX5_behind_31 : decode cX5_behind 31 = .ok (.aload_n 0, 1) := by decide +kernel
theorem dX5_behind_32 : decode cX5_behind 32 = .ok (.aload_n 0, 1) := by decide +kernel
theorem dX5_behind_33 : decode cX5_behind 33 = .ok (.getfield 20, 3) := by decide +kernel
theorem dX5_behind_36 : decode cX5_behind 36 = .ok (.iload_n 1, 1) := by decide +kernel
theorem dX5_behind_37 : decode cX5_behind 37 = .ok (.iaload, 1) := by decide +kernel
theorem dX5_behind_38 : decode cX5_behind 38 = .ok (.aload_n 0, 1) := by decide +kernel
theorem dX5_behind_39 : decode cX5_behind 39 = .ok (.getfield 36, 3) := by decide +kernel
theorem dX5_behind_42 : decode cX5_behind 42 = .ok (.iload_n 2, 1) := by decide +kernel
theorem dX5_behind_43 : decode cX5_behind 43 = .ok (.iaload, 1) := by decide +kernel
theorem dX5_behind_44 : decode cX5_behind 44 = .ok (.iadd, 1) := by decide +kernel
theorem dX5_behind_45 : decode cX5_behind 45 = .ok (.iload 4, 2) := by decide +kernel
theorem dX5_behind_47 : decode cX5_behind 47 = .ok (.invokevirtual 107, 3) := by decide +kernel
theorem dX5_behind_50 : decode cX5_behind 50 = .ok (.istore 5, 2) := by decide +kernel
theorem dX5_behind_52 : decode cX5_behind 52 = .ok (.aload_n 0, 1) := by decide +kernel
theorem dX5_behind_53 : decode cX5_behind 53 = .ok (.getfield 33, 3) := by decide +kernel
theorem dX5_behind_56 : decode cX5_behind 56 = .ok (.iload 5, 2) := by decide +kernel
theorem dX5_behind_58 : decode cX5_behind 58 = .ok (.iaload, 1) := by decide +kernel
theorem dX5_behind_59 : decode cX5_behind 59 = .ok (.iconst 1, 1) := by decide +kernel
theorem dX5_behind_60 : decode cX5_behind 60 = .ok (.isub, 1) := by decide +kernel
theorem dX5_behind_61 : decode cX5_behind 61 = .ok (.ireturn, 1) := by decide +kernel
theorem dX5_add_0 : decode cX5_add 0 = .ok (.aload_n 0, 1) := by decide +kernel
theorem dX5_add_1 : decode cX5_add 1 = .ok (.getfield 20, 3) := by decide +kernel
theorem dX5_add_4 : decode cX5_add 4 = .ok (.iload_n 1, 1) := by decide +kernel
theorem dX5_add_5 : decode cX5_add 5 = .ok (.iaload, 1) := by decide +kernel
theorem dX5_add_6 : decode cX5_add 6 = .ok (.aload_n 0, 1) := by decide +kernel
theorem dX5_add_7 : decode cX5_add 7 = .ok (.getfield 36, 3) := by decide +kernel
theorem dX5_add_10 : decode cX5_add 10 = .ok (.iload_n 2, 1) := by decide +kernel
theorem dX5_add_11 : decode cX5_add 11 = .ok (.iaload, 1) := by decide +kernel
theorem dX5_add_12 : decode cX5_add 12 = .ok (.iadd, 1) := by decide +kernel
theorem dX5_add_13 : decode cX5_add 13 = .ok (.istore 4, 2) := by decide +kernel
theorem dX5_add_15 : decode cX5_add 15 = .ok (.aload_n 0, 1) := by decide +kernel
theorem dX5_add_16 : decode cX5_add 16 = .ok (.getfield 23, 3) := by decide +kernel
theorem dX5_add_19 : decode cX5_add 19 = .ok (.iload_n 1, 1) := by decide +kernel
theorem dX5_add_20 : decode cX5_add 20 = .ok (.iaload, 1) := by decide +kernel
theorem dX5_add_21 : decode cX5_add 21 = .ok (.iload_n 3, 1) := by decide +kernel
theorem dX5_add_22 : decode cX5_add 22 = .ok (.aload_n 0, 1) := by decide +kernel
end
section
theorem dX5_add_23 : decode cX5_add 23 = .ok (.getfield 39, 3) := by decide +kernel
theorem dX5_add_26 : decode cX5_add 26 = .ok (.iload_n 2, 1) := by decide +kernel
theorem dX5_add_27 : decode cX5_add 27 = .ok (.iaload, 1) := by decide +kernel
theorem dX5_add_28 : decode cX5_add 28 = .ok (.aload_n 0, 1) := by decide +kernel
theorem dX5_add_29 : decode cX5_add 29 = .ok (.getfield 45, 3) := by decide +kernel
theorem dX5_add_32 : decode cX5_add 32 = .ok (.iload_n 2, 1) := by decide +kernel
theorem dX5_add_33 : decode cX5_add 33 = .ok (.iaload, 1) := by decide +kernel
theorem dX5_add_34 : decode cX5_add 34 = .ok (.iadd, 1) := by decide +kernel
theorem dX5_add_35 : decode cX5_add 35 = .ok (.aload_n 0, 1) := by decide +kernel
theorem dX5_add_36 : decode cX5_add 36 = .ok (.getfield 13, 3) := by decide +kernel
theorem dX5_add_39 : decode cX5_add 39 = .ok (.iload_n 2, 1) := by decide +kernel
theorem dX5_add_40 : decode cX5_add 40 = .ok (.iaload, 1) := by decide +kernel
theorem dX5_add_41 : decode cX5_add 41 = .ok (.isub, 1) := by decide +kernel
theorem dX5_add_42 : decode cX5_add 42 = .ok (.ishl, 1) := by decide +kernel
theorem dX5_add_43 : decode cX5_add 43 = .ok (.ior, 1) := by decide +kernel
theorem dX5_add_44 : decode cX5_add 44 = .ok (.istore 5, 2) := by decide +kernel
theorem dX5_add_46 : decode cX5_add 46 = .ok (.aload_n 0, 1) := by decide +kernel
theorem dX5_add_47 : decode cX5_add 47 = .ok (.iload 4, 2) := by decide +kernel
theorem dX5_add_49 : decode cX5_add 49 = .ok (.iload 5, 2) := by decide +kernel
theorem dX5_add_51 : decode cX5_add 51 = .ok (.invokevirtual 107, 3) := by decide +kernel
theorem dX5_add_54 : decode cX5_add 54 = .ok (.istore 6, 2) := by decide +kernel
theorem dX5_add_56 : decode cX5_add 56 = .ok (.aload_n 0, 1) := by decide +kernel
theorem dX5_add_57 : decode cX5_add 57 = .ok (.getfield 33, 3) := by decide +kernel
theorem dX5_add_60 : decode cX5_add 60 = .ok (.iload 6, 2) := by decide +kernel
theorem dX5_add_62 : decode cX5_add 62 = .ok (.iaload, 1) := by decide +kernel
theorem dX5_add_63 : decode cX5_add 63 = .ok (.ifCond .ne 46, 3) := by decide +kernel
theorem dX5_add_66 : decode cX5_add 66 = .ok (.aload_n 0, 1) := by decide +kernel
theorem dX5_add_67 : decode cX5_add 67 = .ok (.getfield 20, 3) := by decide +kernel
theorem dX5_add_70 : decode cX5_add 70 = .ok (.aload_n 0, 1) := by decide +kernel
theorem dX5_add_71 : decode cX5_add 71 = .ok (.getfield 111, 3) := by decide +kernel
theorem dX5_add_74 : decode cX5_add 74 = .ok (.iload 4, 2) := by decide +kernel
theorem dX5_add_76 : decode cX5_add 76 = .ok (.iastore, 1) := by decide +kernel
theorem dX5_add_77 : decode cX5_add 77 = .ok (.aload_n 0, 1) := by decide +kernel
theorem dX5_add_78 : decode cX5_add 78 = .ok (.getfield 23, 3) := by decide +kernel
theorem dX5_add_81 : decode cX5_add 81 = .ok (.aload_n 0, 1) := by decide +kernel
theorem dX5_add_82 : decode cX5_add 82 = .ok (.getfield 111, 3) := by decide +kernel
theorem dX5_add_85 : decode cX5_add 85 = .ok (.iload 5, 2) := by decide +kernel
theorem dX5_add_87 : decode cX5_add 87 = .ok (.iastore, 1) := by decide +kernel
theorem dX5_add_88 : decode cX5_add 88 = .ok (.aload_n 0, 1) := by decide +kernel
theorem dX5_add_89 : decode cX5_add 89 = .ok (.dup, 1) := by decide +kernel
theorem dX5_add_90 : decode cX5_add 90 = .ok (.getfield 111, 3) := by decide +kernel
theorem dX5_add_93 : decode cX5_add 93 = .ok (.iconst 1, 1) := by decide +kernel
theorem dX5_add_94 : decode cX5_add 94 = .ok (.iadd, 1) := by decide +kernel
theorem dX5_add_95 : decode cX5_add 95 = .ok (.putfield 111, 3) := by decide +kernel
theorem dX5_add_98 : decode cX5_add 98 = .ok (.aload_n 0, 1) := by decide +kernel
theorem dX5_add_99 : decode cX5_add 99 = .ok (.getfield 33, 3) := by decide +kernel
theorem dX5_add_102 : decode cX5_add 102 = .ok (.iload 6, 2) := by decide +kernel
theorem dX5_add_104 : decode cX5_add 104 = .ok (.aload_n 0, 1) := by decide +kernel
theorem dX5_add_105 : decode cX5_add 105 = .ok (.getfield 111, 3) := by decide +kernel
theorem dX5_add_108 : decode cX5_add 108 = .ok (.iastore, 1) := by decide +kernel
theorem dX5_add_109 : decode cX5_add 109 = .ok (.return_, 1) := by decide +kernel
theorem dX5_dropWins_0 : decode cX5_dropWins 0 = .ok (.aload_n 0, 1) := by decide +kernel
theorem dX5_dropWins_1 : decode cX5_dropWins 1 = .ok (.getfield 42, 3) := by decide +kernel
theorem dX5_dropWins_4 : decode cX5_dropWins 4 = .ok (.bipush 7, 2) := by decide +kernel
theorem dX5_dropWins_6 : decode cX5_dropWins 6 = .ok (.iload_n 1, 1) := by decide +kernel
theorem dX5_dropWins_7 : decode cX5_dropWins 7 = .ok (.imul, 1) := by decide +kernel
theorem dX5_dropWins_8 : decode cX5_dropWins 8 = .ok (.aload_n 0, 1) := by decide +kernel
theorem dX5_dropWins_9 : decode cX5_dropWins 9 = .ok (.getfield 45, 3) := by decide +kernel
theorem dX5_dropWins_12 : decode cX5_dropWins 12 = .ok (.iload_n 1, 1) := by decide +kernel
theorem dX5_dropWins_13 : decode cX5_dropWins 13 = .ok (.iaload, 1) := by decide +kernel
theorem dX5_dropWins_14 : decode cX5_dropWins 14 = .ok (.iadd, 1) := by decide +kernel
theorem dX5_dropWins_15 : decode cX5_dropWins 15 = .ok (.iload_n 2, 1) := by decide +kernel
theorem dX5_dropWins_16 : decode cX5_dropWins 16 = .ok (.iastore, 1) := by decide +kernel
theorem dX5_dropWins_17 : decode cX5_dropWins 17 = .ok (.aload_n 0, 1) := by decide +kernel
theorem dX5_dropWins_18 : decode cX5_dropWins 18 = .ok (.aload_n 0, 1) := by decide +kernel
theorem dX5_dropWins_19 : decode cX5_dropWins 19 = .ok (.getfield 42, 3) := by decide +kernel
theorem dX5_dropWins_22 : decode cX5_dropWins 22 = .ok (.iload_n 1, 1) := by decide +kernel
theorem dX5_dropWins_23 : decode cX5_dropWins 23 = .ok (.aload_n 0, 1) := by decide +kernel
theorem dX5_dropWins_24 : decode cX5_dropWins 24 = .ok (.getfield 45, 3) := by decide +kernel
theorem dX5_dropWins_27 : decode cX5_dropWins 27 = .ok (.iload_n 1, 1) := by decide +kernel
theorem dX5_dropWins_28 : decode cX5_dropWins 28 = .ok (.iaload, 1) := by decide +kernel
theorem dX5_dropWins_29 : decode cX5_dropWins 29 = .ok (.invokevirtual 73, 3) := by decide +kernel
theorem dX5_dropWins_32 : decode cX5_dropWins 32 = .ok (.istore_n 3, 1) := by decide +kernel
theorem dX5_dropWins_33 : decode cX5_dropWins 33 = .ok (.aload_n 0, 1) := by decide +kernel
theorem dX5_dropWins_34 : decode cX5_dropWins 34 = .ok (.getfield 42, 3) := by decide +kernel
theorem dX5_dropWins_37 : decode cX5_dropWins 37 = .ok (.bipush 7, 2) := by decide +kernel
theorem dX5_dropWins_39 : decode cX5_dropWins 39 = .ok (.iload_n 1, 1) := by decide +kernel
theorem dX5_dropWins_40 : decode cX5_dropWins 40 = .ok (.imul, 1) := by decide +kernel
theorem dX5_dropWins_41 : decode cX5_dropWins 41 = .ok (.aload_n 0, 1) := by decide +kernel
theorem dX5_dropWins_42 : decode cX5_dropWins 42 = .ok (.getfield 45, 3) := by decide +kernel
theorem dX5_dropWins_45 : decode cX5_dropWins 45 = .ok (.iload_n 1, 1) := by decide +kernel
theorem dX5_dropWins_46 : decode cX5_dropWins 46 = .ok (.iaload, 1) := by decide +kernel
theorem dX5_dropWins_47 : decode cX5_dropWins 47 = .ok (.iadd, 1) := by decide +kernel
theorem dX5_dropWins_48 : decode cX5_dropWins 48 = .ok (.iconst (-1), 1) := by decide +kernel
theorem dX5_dropWins_49 : decode cX5_dropWins 49 = .ok (.iastore, 1) := by decide +kernel
theorem dX5_dropWins_50 : decode cX5_dropWins 50 = .ok (.iload_n 3, 1) := by decide +kernel
theorem dX5_dropWins_51 : decode cX5_dropWins 51 = .ok (.ireturn, 1) := by decide +kernel
theorem dX5_turned_0 : decode cX5_turned 0 = .ok (.iload_n 0, 1) := by decide +kernel
theorem dX5_turned_1 : decode cX5_turned 1 = .ok (.ifCond .le 9, 3) := by decide +kernel
theorem dX5_turned_4 : decode cX5_turned 4 = .ok (.iconst (-1), 1) := by decide +kernel
theorem dX5_turned_5 : decode cX5_turned 5 = .ok (.iload_n 0, 1) := by decide +kernel
theorem dX5_turned_6 : decode cX5_turned 6 = .ok (.isub, 1) := by decide +kernel
theorem dX5_turned_7 : decode cX5_turned 7 = .ok (.goto 14, 3) := by decide +kernel
theorem dX5_turned_10 : decode cX5_turned 10 = .ok (.iload_n 0, 1) := by decide +kernel
theorem dX5_turned_11 : decode cX5_turned 11 = .ok (.ifCond .ge 9, 3) := by decide +kernel
theorem dX5_turned_14 : decode cX5_turned 14 = .ok (.iconst 1, 1) := by decide +kernel
theorem dX5_turned_15 : decode cX5_turned 15 = .ok (.iload_n 0, 1) := by decide +kernel
theorem dX5_turned_16 : decode cX5_turned 16 = .ok (.isub, 1) := by decide +kernel
theorem dX5_turned_17 : decode cX5_turned 17 = .ok (.goto 4, 3) := by decide +kernel
theorem dX5_turned_20 : decode cX5_turned 20 = .ok (.iconst 0, 1) := by decide +kernel
theorem dX5_turned_21 : decode cX5_turned 21 = .ok (.ireturn, 1) := by decide +kernel
theorem dX5_rank_0 : decode cX5_rank 0 = .ok (.iload_n 0, 1) := by decide +kernel
theorem dX5_rank_1 : decode cX5_rank 1 = .ok (.ifCond .le 11, 3) := by decide +kernel
theorem dX5_rank_4 : decode cX5_rank 4 = .ok (.sipush 1000, 3) := by decide +kernel
theorem dX5_rank_7 : decode cX5_rank 7 = .ok (.iload_n 0, 1) := by decide +kernel
theorem dX5_rank_8 : decode cX5_rank 8 = .ok (.isub, 1) := by decide +kernel
theorem dX5_rank_9 : decode cX5_rank 9 = .ok (.goto 16, 3) := by decide +kernel
theorem dX5_rank_12 : decode cX5_rank 12 = .ok (.iload_n 0, 1) := by decide +kernel
theorem dX5_rank_13 : decode cX5_rank 13 = .ok (.ifCond .ge 11, 3) := by decide +kernel
theorem dX5_rank_16 : decode cX5_rank 16 = .ok (.sipush (-1000), 3) := by decide +kernel
theorem dX5_rank_19 : decode cX5_rank 19 = .ok (.iload_n 0, 1) := by decide +kernel
theorem dX5_rank_20 : decode cX5_rank 20 = .ok (.isub, 1) := by decide +kernel
theorem dX5_rank_21 : decode cX5_rank 21 = .ok (.goto 4, 3) := by decide +kernel
theorem dX5_rank_24 : decode cX5_rank 24 = .ok (.iconst 0, 1) := by decide +kernel
theorem dX5_rank_25 : decode cX5_rank 25 = .ok (.ireturn, 1) := by decide +kernel
theorem dX5_valueBehind_0 : decode cX5_valueBehind 0 = .ok (.aload_n 0, 1) := by decide +kernel
theorem dX5_valueBehind_1 : decode cX5_valueBehind 1 = .ok (.iload_n 2, 1) := by decide +kernel
theorem dX5_valueBehind_2 : decode cX5_valueBehind 2 = .ok (.iload_n 3, 1) := by decide +kernel
theorem dX5_valueBehind_3 : decode cX5_valueBehind 3 = .ok (.invokevirtual 114, 3) := by decide +kernel
theorem dX5_valueBehind_6 : decode cX5_valueBehind 6 = .ok (.ifCond .eq 5, 3) := by decide +kernel
theorem dX5_valueBehind_9 : decode cX5_valueBehind 9 = .ok (.iconst 1, 1) := by decide +kernel
theorem dX5_valueBehind_10 : decode cX5_valueBehind 10 = .ok (.ireturn, 1) := by decide +kernel
theorem dX5_valueBehind_11 : decode cX5_valueBehind 11 = .ok (.iload 4, 2) := by decide +kernel
theorem dX5_valueBehind_13 : decode cX5_valueBehind 13 = .ok (.ifCond .eq 7, 3) := by decide +kernel
theorem dX5_valueBehind_16 : decode cX5_valueBehind 16 = .ok (.iconst 0, 1) := by decide +kernel
theorem dX5_valueBehind_17 : decode cX5_valueBehind 17 = .ok (.goto 18, 3) := by decide +kernel
theorem dX5_valueBehind_20 : decode cX5_valueBehind 20 = .ok (.aload_n 0, 1) := by decide +kernel
theorem dX5_valueBehind_21 : decode cX5_valueBehind 21 = .ok (.getfield 26, 3) := by decide +kernel
theorem dX5_valueBehind_24 : decode cX5_valueBehind 24 = .ok (.aload_n 0, 1) := by decide +kernel
theorem dX5_valueBehind_25 : decode cX5_valueBehind 25 = .ok (.iload_n 1, 1) := by decide +kernel
theorem dX5_valueBehind_26 : decode cX5_valueBehind 26 = .ok (.iload_n 2, 1) := by decide +kernel
theorem dX5_valueBehind_27 : decode cX5_valueBehind 27 = .ok (.iload_n 3, 1) := by decide +kernel
theorem dX5_valueBehind_28 : decode cX5_valueBehind 28 = .ok (.invokevirtual 117, 3) := by decide +kernel
theorem dX5_valueBehind_31 : decode cX5_valueBehind 31 = .ok (.iaload, 1) := by decide +kernel
theorem dX5_valueBehind_32 : decode cX5_valueBehind 32 = .ok (.invokestatic 120, 3) := by decide +kernel
theorem dX5_valueBehind_35 : decode cX5_valueBehind 35 = .ok (.ireturn, 1) := by decide +kernel
theorem dX5_lookAhead_0 : decode cX5_lookAhead 0 = .ok (.aload_n 0, 1) := by decide +kernel
theorem dX5_lookAhead_1 : decode cX5_lookAhead 1 = .ok (.getfield 85, 3) := by decide +kernel
theorem dX5_lookAhead_4 : decode cX5_lookAhead 4 = .ok (.ifCond .eq 4, 3) := by decide +kernel
theorem dX5_lookAhead_7 : decode cX5_lookAhead 7 = .ok (.return_, 1) := by decide +kernel
theorem dX5_lookAhead_8 : decode cX5_lookAhead 8 = .ok (.aload_n 0, 1) := by decide +kernel
theorem dX5_lookAhead_9 : decode cX5_lookAhead 9 = .ok (.iconst 1, 1) := by decide +kernel
theorem dX5_lookAhead_10 : decode cX5_lookAhead 10 = .ok (.putfield 85, 3) := by decide +kernel
theorem dX5_lookAhead_13 : decode cX5_lookAhead 13 = .ok (.aload_n 0, 1) := by decide +kernel
theorem dX5_lookAhead_14 : decode cX5_lookAhead 14 = .ok (.getfield 52, 3) := by decide +kernel
theorem dX5_lookAhead_17 : decode cX5_lookAhead 17 = .ok (.aload_n 0, 1) := by decide +kernel
theorem dX5_lookAhead_18 : decode cX5_lookAhead 18 = .ok (.getfield 56, 3) := by decide +kernel
theorem dX5_lookAhead_21 : decode cX5_lookAhead 21 = .ok (.imul, 1) := by decide +kernel
theorem dX5_lookAhead_22 : decode cX5_lookAhead 22 = .ok (.aload_n 0, 1) := by decide +kernel
theorem dX5_lookAhead_23 : decode cX5_lookAhead 23 = .ok (.getfield 70, 3) := by decide +kernel
theorem dX5_lookAhead_26 : decode cX5_lookAhead 26 = .ok (.isub, 1) := by decide +kernel
theorem dX5_lookAhead_27 : decode cX5_lookAhead 27 = .ok (.istore_n 1, 1) := by decide +kernel
theorem dX5_lookAhead_28 : decode cX5_lookAhead 28 = .ok (.iconst 1, 1) := by decide +kernel
theorem dX5_lookAhead_29 : decode cX5_lookAhead 29 = .ok (.istore_n 2, 1) := by decide +kernel
theorem dX5_lookAhead_30 : decode cX5_lookAhead 30 = .ok (.iconst 0, 1) := by decide +kernel
theorem dX5_lookAhead_31 : decode cX5_lookAhead 31 = .ok (.istore_n 3, 1) := by decide +kernel
theorem dX5_lookAhead_32 : decode cX5_lookAhead 32 = .ok (.iconst 0, 1) := by decide +kernel
theorem dX5_lookAhead_33 : decode cX5_lookAhead 33 = .ok (.istore 4, 2) := by decide +kernel
theorem dX5_lookAhead_35 : decode cX5_lookAhead 35 = .ok (.iload 4, 2) := by decide +kernel
theorem dX5_lookAhead_37 : decode cX5_lookAhead 37 = .ok (.aload_n 0, 1) := by decide +kernel
theorem dX5_lookAhead_38 : decode cX5_lookAhead 38 = .ok (.getfield 52, 3) := by decide +kernel
theorem dX5_lookAhead_41 : decode cX5_lookAhead 41 = .ok (.if_icmp .ge 57, 3) := by decide +kernel
theorem dX5_lookAhead_44 : decode cX5_lookAhead 44 = .ok (.aload_n 0, 1) := by decide +kernel
theorem dX5_lookAhead_45 : decode cX5_lookAhead 45 = .ok (.getfield 36, 3) := by decide +kernel
theorem dX5_lookAhead_48 : decode cX5_lookAhead 48 = .ok (.iload 4, 2) := by decide +kernel
theorem dX5_lookAhead_50 : decode cX5_lookAhead 50 = .ok (.iload_n 2, 1) := by decide +kernel
theorem dX5_lookAhead_51 : decode cX5_lookAhead 51 = .ok (.iastore, 1) := by decide +kernel
theorem dX5_lookAhead_52 : decode cX5_lookAhead 52 = .ok (.aload_n 0, 1) := by decide +kernel
theorem dX5_lookAhead_53 : decode cX5_lookAhead 53 = .ok (.getfield 39, 3) := by decide +kernel
theorem dX5_lookAhead_56 : decode cX5_lookAhead 56 = .ok (.iload 4, 2) := by decide +kernel
theorem dX5_lookAhead_58 : decode cX5_lookAhead 58 = .ok (.iload_n 3, 1) := by decide +kernel
theorem dX5_lookAhead_59 : decode cX5_lookAhead 59 = .ok (.iastore, 1) := by decide +kernel
theorem dX5_lookAhead_60 : decode cX5_lookAhead 60 = .ok (.iload_n 2, 1) := by decide +kernel
theorem dX5_lookAhead_61 : decode cX5_lookAhead 61 = .ok (.aload_n 0, 1) := by decide +kernel
theorem dX5_lookAhead_62 : decode cX5_lookAhead 62 = .ok (.getfield 56, 3) := by decide +kernel
theorem dX5_lookAhead_65 : decode cX5_lookAhead 65 = .ok (.aload_n 0, 1) := by decide +kernel
theorem dX5_lookAhead_66 : decode cX5_lookAhead 66 = .ok (.getfield 13, 3) := by decide +kernel
theorem dX5_lookAhead_69 : decode cX5_lookAhead 69 = .ok (.iload 4, 2) := by decide +kernel
theorem dX5_lookAhead_71 : decode cX5_lookAhead 71 = .ok (.iaload, 1) := by decide +kernel
theorem dX5_lookAhead_72 : decode cX5_lookAhead 72 = .ok (.isub, 1) := by decide +kernel
theorem dX5_lookAhead_73 : decode cX5_lookAhead 73 = .ok (.iconst 1, 1) := by decide +kernel
theorem dX5_lookAhead_74 : decode cX5_lookAhead 74 = .ok (.iadd, 1) := by decide +kernel
theorem dX5_lookAhead_75 : decode cX5_lookAhead 75 = .ok (.imul, 1) := by decide +kernel
theorem dX5_lookAhead_76 : decode cX5_lookAhead 76 = .ok (.istore_n 2, 1) := by decide +kernel
theorem dX5_lookAhead_77 : decode cX5_lookAhead 77 = .ok (.iload_n 3, 1) := by decide +kernel
theorem dX5_lookAhead_78 : decode cX5_lookAhead 78 = .ok (.aload_n 0, 1) := by decide +kernel
theorem dX5_lookAhead_79 : decode cX5_lookAhead 79 = .ok (.getfield 56, 3) := by decide +kernel
theorem dX5_lookAhead_82 : decode cX5_lookAhead 82 = .ok (.iadd, 1) := by decide +kernel
theorem dX5_lookAhead_83 : decode cX5_lookAhead 83 = .ok (.aload_n 0, 1) := by decide +kernel
theorem dX5_lookAhead_84 : decode cX5_lookAhead 84 = .ok (.getfield 13, 3) := by decide +kernel
theorem dX5_lookAhead_87 : decode cX5_lookAhead 87 = .ok (.iload 4, 2) := by decide +kernel
theorem dX5_lookAhead_89 : decode cX5_lookAhead 89 = .ok (.iaload, 1) := by decide +kernel
theorem dX5_lookAhead_90 : decode cX5_lookAhead 90 = .ok (.isub, 1) := by decide +kernel
theorem dX5_lookAhead_91 : decode cX5_lookAhead 91 = .ok (.istore_n 3, 1) := by decide +kernel
theorem dX5_lookAhead_92 : decode cX5_lookAhead 92 = .ok (.iinc 4 1, 3) := by decide +kernel
theorem dX5_lookAhead_95 : decode cX5_lookAhead 95 = .ok (.goto (-60), 3) := by decide +kernel
theorem dX5_lookAhead_98 : decode cX5_lookAhead 98 = .ok (.iconst 0, 1) := by decide +kernel
theorem dX5_lookAhead_99 : decode cX5_lookAhead 99 = .ok (.istore 4, 2) := by decide +kernel
theorem dX5_lookAhead_101 : decode cX5_lookAhead 101 = .ok (.iload 4, 2) := by decide +kernel
theorem dX5_lookAhead_103 : decode cX5_lookAhead 103 = .ok (.ldc 32, 2) := by decide +kernel
theorem dX5_lookAhead_105 : decode cX5_lookAhead 105 = .ok (.if_icmp .ge 17, 3) := by decide +kernel
theorem dX5_lookAhead_108 : decode cX5_lookAhead 108 = .ok (.aload_n 0, 1) := by decide +kernel
theorem dX5_lookAhead_109 : decode cX5_lookAhead 109 = .ok (.getfield 33, 3) := by decide +kernel
theorem dX5_lookAhead_112 : decode cX5_lookAhead 112 = .ok (.iload 4, 2) := by decide +kernel
theorem dX5_lookAhead_114 : decode cX5_lookAhead 114 = .ok (.iconst 0, 1) := by decide +kernel
theorem dX5_lookAhead_115 : decode cX5_lookAhead 115 = .ok (.iastore, 1) := by decide +kernel
theorem dX5_lookAhead_116 : decode cX5_lookAhead 116 = .ok (.iinc 4 1, 3) := by decide +kernel
theorem dX5_lookAhead_119 : decode cX5_lookAhead 119 = .ok (.goto (-18), 3) := by decide +kernel
theorem dX5_lookAhead_122 : decode cX5_lookAhead 122 = .ok (.aload_n 0, 1) := by decide +kernel
theorem dX5_lookAhead_123 : decode cX5_lookAhead 123 = .ok (.getfield 20, 3) := by decide +kernel
theorem dX5_lookAhead_126 : decode cX5_lookAhead 126 = .ok (.iconst 0, 1) := by decide +kernel
theorem dX5_lookAhead_127 : decode cX5_lookAhead 127 = .ok (.iconst 0, 1) := by decide +kernel
theorem dX5_lookAhead_128 : decode cX5_lookAhead 128 = .ok (.iastore, 1) := by decide +kernel
theorem dX5_lookAhead_129 : decode cX5_lookAhead 129 = .ok (.aload_n 0, 1) := by decide +kernel
theorem dX5_lookAhead_130 : decode cX5_lookAhead 130 = .ok (.getfield 23, 3) := by decide +kernel
theorem dX5_lookAhead_133 : decode cX5_lookAhead 133 = .ok (.iconst 0, 1) := by decide +kernel
theorem dX5_lookAhead_134 : decode cX5_lookAhead 134 = .ok (.iconst 0, 1) := by decide +kernel
theorem dX5_lookAhead_135 : decode cX5_lookAhead 135 = .ok (.iastore, 1) := by decide +kernel
theorem dX5_lookAhead_136 : decode cX5_lookAhead 136 = .ok (.aload_n 0, 1) := by decide +kernel
theorem dX5_lookAhead_137 : decode cX5_lookAhead 137 = .ok (.iconst 1, 1) := by decide +kernel
theorem dX5_lookAhead_138 : decode cX5_lookAhead 138 = .ok (.putfield 111, 3) := by decide +kernel
theorem dX5_lookAhead_141 : decode cX5_lookAhead 141 = .ok (.aload_n 0, 1) := by decide +kernel
theorem dX5_lookAhead_142 : decode cX5_lookAhead 142 = .ok (.getfield 29, 3) := by decide +kernel
theorem dX5_lookAhead_145 : decode cX5_lookAhead 145 = .ok (.iconst 0, 1) := by decide +kernel
theorem dX5_lookAhead_146 : decode cX5_lookAhead 146 = .ok (.iconst 0, 1) := by decide +kernel
theorem dX5_lookAhead_147 : decode cX5_lookAhead 147 = .ok (.iastore, 1) := by decide +kernel
theorem dX5_lookAhead_148 : decode cX5_lookAhead 148 = .ok (.iconst 0, 1) := by decide +kernel
theorem dX5_lookAhead_149 : decode cX5_lookAhead 149 = .ok (.istore 4, 2) := by decide +kernel
theorem dX5_lookAhead_151 : decode cX5_lookAhead 151 = .ok (.iload 4, 2) := by decide +kernel
theorem dX5_lookAhead_153 : decode cX5_lookAhead 153 = .ok (.iload_n 1, 1) := by decide +kernel
theorem dX5_lookAhead_154 : decode cX5_lookAhead 154 = .ok (.if_icmp .ge 129, 3) := by decide +kernel
theorem dX5_lookAhead_157 : decode cX5_lookAhead 157 = .ok (.aload_n 0, 1) := by decide +kernel
theorem dX5_lookAhead_158 : decode cX5_lookAhead 158 = .ok (.getfield 29, 3) := by decide +kernel
theorem dX5_lookAhead_161 : decode cX5_lookAhead 161 = .ok (.iload 4, 2) := by decide +kernel
theorem dX5_lookAhead_163 : decode cX5_lookAhead 163 = .ok (.iconst 1, 1) := by decide +kernel
theorem dX5_lookAhead_164 : decode cX5_lookAhead 164 = .ok (.iadd, 1) := by decide +kernel
theorem dX5_lookAhead_165 : decode cX5_lookAhead 165 = .ok (.aload_n 0, 1) := by decide +kernel
theorem dX5_lookAhead_166 : decode cX5_lookAhead 166 = .ok (.getfield 111, 3) := by decide +kernel
theorem dX5_lookAhead_169 : decode cX5_lookAhead 169 = .ok (.iastore, 1) := by decide +kernel
theorem dX5_lookAhead_170 : decode cX5_lookAhead 170 = .ok (.aload_n 0, 1) := by decide +kernel
theorem dX5_lookAhead_171 : decode cX5_lookAhead 171 = .ok (.getfield 70, 3) := by decide +kernel
theorem dX5_lookAhead_174 : decode cX5_lookAhead 174 = .ok (.iload 4, 2) := by decide +kernel
theorem dX5_lookAhead_176 : decode cX5_lookAhead 176 = .ok (.iadd, 1) := by decide +kernel
theorem dX5_lookAhead_177 : decode cX5_lookAhead 177 = .ok (.iconst 2, 1) := by decide +kernel
theorem dX5_lookAhead_178 : decode cX5_lookAhead 178 = .ok (.irem, 1) := by decide +kernel
theorem dX5_lookAhead_179 : decode cX5_lookAhead 179 = .ok (.istore 5, 2) := by decide +kernel
theorem dX5_lookAhead_181 : decode cX5_lookAhead 181 = .ok (.aload_n 0, 1) := by decide +kernel
theorem dX5_lookAhead_182 : decode cX5_lookAhead 182 = .ok (.getfield 29, 3) := by decide +kernel
theorem dX5_lookAhead_185 : decode cX5_lookAhead 185 = .ok (.iload 4, 2) := by decide +kernel
theorem dX5_lookAhead_187 : decode cX5_lookAhead 187 = .ok (.iaload, 1) := by decide +kernel
theorem dX5_lookAhead_188 : decode cX5_lookAhead 188 = .ok (.istore 6, 2) := by decide +kernel
theorem dX5_lookAhead_190 : decode cX5_lookAhead 190 = .ok (.iload 6, 2) := by decide +kernel
theorem dX5_lookAhead_192 : decode cX5_lookAhead 192 = .ok (.aload_n 0, 1) := by decide +kernel
theorem dX5_lookAhead_193 : decode cX5_lookAhead 193 = .ok (.getfield 29, 3) := by decide +kernel
theorem dX5_lookAhead_196 : decode cX5_lookAhead 196 = .ok (.iload 4, 2) := by decide +kernel
theorem dX5_lookAhead_198 : decode cX5_lookAhead 198 = .ok (.iconst 1, 1) := by decide +kernel
theorem dX5_lookAhead_199 : decode cX5_lookAhead 199 = .ok (.iadd, 1) := by decide +kernel
theorem dX5_lookAhead_200 : decode cX5_lookAhead 200 = .ok (.iaload, 1) := by decide +kernel
theorem dX5_lookAhead_201 : decode cX5_lookAhead 201 = .ok (.if_icmp .ge 76, 3) := by decide +kernel
theorem dX5_lookAhead_204 : decode cX5_lookAhead 204 = .ok (.aload_n 0, 1) := by decide +kernel
theorem dX5_lookAhead_205 : decode cX5_lookAhead 205 = .ok (.iload 6, 2) := by decide +kernel
theorem dX5_lookAhead_207 : decode cX5_lookAhead 207 = .ok (.invokevirtual 124, 3) := by decide +kernel
theorem dX5_lookAhead_210 : decode cX5_lookAhead 210 = .ok (.iconst 0, 1) := by decide +kernel
theorem dX5_lookAhead_211 : decode cX5_lookAhead 211 = .ok (.istore 7, 2) := by decide +kernel
theorem dX5_lookAhead_213 : decode cX5_lookAhead 213 = .ok (.iload 7, 2) := by decide +kernel
theorem dX5_lookAhead_215 : decode cX5_lookAhead 215 = .ok (.aload_n 0, 1) := by decide +kernel
theorem dX5_lookAhead_216 : decode cX5_lookAhead 216 = .ok (.getfield 52, 3) := by decide +kernel
theorem dX5_lookAhead_219 : decode cX5_lookAhead 219 = .ok (.if_icmp .ge 52, 3) := by decide +kernel
theorem dX5_lookAhead_222 : decode cX5_lookAhead 222 = .ok (.aload_n 0, 1) := by decide +kernel
theorem dX5_lookAhead_223 : decode cX5_lookAhead 223 = .ok (.getfield 45, 3) := by decide +kernel
theorem dX5_lookAhead_226 : decode cX5_lookAhead 226 = .ok (.iload 7, 2) := by decide +kernel
theorem dX5_lookAhead_228 : decode cX5_lookAhead 228 = .ok (.iaload, 1) := by decide +kernel
theorem dX5_lookAhead_229 : decode cX5_lookAhead 229 = .ok (.aload_n 0, 1) := by decide +kernel
theorem dX5_lookAhead_230 : decode cX5_lookAhead 230 = .ok (.getfield 56, 3) := by decide +kernel
theorem dX5_lookAhead_233 : decode cX5_lookAhead 233 = .ok (.if_icmp .ge 32, 3) := by decide +kernel
theorem dX5_lookAhead_236 : decode cX5_lookAhead 236 = .ok (.aload_n 0, 1) := by decide +kernel
theorem dX5_lookAhead_237 : decode cX5_lookAhead 237 = .ok (.iload 7, 2) := by decide +kernel
theorem dX5_lookAhead_239 : decode cX5_lookAhead 239 = .ok (.iload 5, 2) := by decide +kernel
theorem dX5_lookAhead_241 : decode cX5_lookAhead 241 = .ok (.invokevirtual 114, 3) := by decide +kernel
theorem dX5_lookAhead_244 : decode cX5_lookAhead 244 = .ok (.ifCond .ne 21, 3) := by decide +kernel
theorem dX5_lookAhead_247 : decode cX5_lookAhead 247 = .ok (.iload 4, 2) := by decide +kernel
theorem dX5_lookAhead_249 : decode cX5_lookAhead 249 = .ok (.iconst 1, 1) := by decide +kernel
theorem dX5_lookAhead_250 : decode cX5_lookAhead 250 = .ok (.iadd, 1) := by decide +kernel
theorem dX5_lookAhead_251 : decode cX5_lookAhead 251 = .ok (.iload_n 1, 1) := by decide +kernel
theorem dX5_lookAhead_252 : decode cX5_lookAhead 252 = .ok (.if_icmp .ge 13, 3) := by decide +kernel
theorem dX5_lookAhead_255 : decode cX5_lookAhead 255 = .ok (.aload_n 0, 1) := by decide +kernel
theorem dX5_lookAhead_256 : decode cX5_lookAhead 256 = .ok (.iload 6, 2) := by decide +kernel
theorem dX5_lookAhead_258 : decode cX5_lookAhead 258 = .ok (.iload 7, 2) := by decide +kernel
theorem dX5_lookAhead_260 : decode cX5_lookAhead 260 = .ok (.iload 5, 2) := by decide +kernel
theorem dX5_lookAhead_262 : decode cX5_lookAhead 262 = .ok (.invokevirtual 128, 3) := by decide +kernel
theorem dX5_lookAhead_265 : decode cX5_lookAhead 265 = .ok (.iinc 7 1, 3) := by decide +kernel
theorem dX5_lookAhead_268 : decode cX5_lookAhead 268 = .ok (.goto (-55), 3) := by decide +kernel
theorem dX5_lookAhead_271 : decode cX5_lookAhead 271 = .ok (.iinc 6 1, 3) := by decide +kernel
theorem dX5_lookAhead_274 : decode cX5_lookAhead 274 = .ok (.goto (-84), 3) := by decide +kernel
theorem dX5_lookAhead_277 : decode cX5_lookAhead 277 = .ok (.iinc 4 1, 3) := by decide +kernel
theorem dX5_lookAhead_280 : decode cX5_lookAhead 280 = .ok (.goto (-129), 3) := by decide +kernel
theorem dX5_lookAhead_283 : decode cX5_lookAhead 283 = .ok (.iload_n 1, 1) := by decide +kernel
theorem dX5_lookAhead_284 : decode cX5_lookAhead 284 = .ok (.iconst 1, 1) := by decide +kernel
theorem dX5_lookAhead_285 : decode cX5_lookAhead 285 = .ok (.isub, 1) := by decide +kernel
theorem dX5_lookAhead_286 : decode cX5_lookAhead 286 = .ok (.istore 4, 2) := by decide +kernel
theorem dX5_lookAhead_288 : decode cX5_lookAhead 288 = .ok (.iload 4, 2) := by decide +kernel
theorem dX5_lookAhead_290 : decode cX5_lookAhead 290 = .ok (.ifCond .lt 156, 3) := by decide +kernel
theorem dX5_lookAhead_293 : decode cX5_lookAhead 293 = .ok (.aload_n 0, 1) := by decide +kernel
theorem dX5_lookAhead_294 : decode cX5_lookAhead 294 = .ok (.getfield 70, 3) := by decide +kernel
theorem dX5_lookAhead_297 : decode cX5_lookAhead 297 = .ok (.iload 4, 2) := by decide +kernel
theorem dX5_lookAhead_299 : decode cX5_lookAhead 299 = .ok (.iadd, 1) := by decide +kernel
theorem dX5_lookAhead_300 : decode cX5_lookAhead 300 = .ok (.iconst 2, 1) := by decide +kernel
theorem dX5_lookAhead_301 : decode cX5_lookAhead 301 = .ok (.irem, 1) := by decide +kernel
theorem dX5_lookAhead_302 : decode cX5_lookAhead 302 = .ok (.istore 5, 2) := by decide +kernel
theorem dX5_lookAhead_304 : decode cX5_lookAhead 304 = .ok (.aload_n 0, 1) := by decide +kernel
theorem dX5_lookAhead_305 : decode cX5_lookAhead 305 = .ok (.getfield 29, 3) := by decide +kernel
theorem dX5_lookAhead_308 : decode cX5_lookAhead 308 = .ok (.iload 4, 2) := by decide +kernel
theorem dX5_lookAhead_310 : decode cX5_lookAhead 310 = .ok (.iaload, 1) := by decide +kernel
theorem dX5_lookAhead_311 : decode cX5_lookAhead 311 = .ok (.istore 6, 2) := by decide +kernel
theorem dX5_lookAhead_313 : decode cX5_lookAhead 313 = .ok (.iload 6, 2) := by decide +kernel
theorem dX5_lookAhead_315 : decode cX5_lookAhead 315 = .ok (.aload_n 0, 1) := by decide +kernel
theorem dX5_lookAhead_316 : decode cX5_lookAhead 316 = .ok (.getfield 29, 3) := by decide +kernel
theorem dX5_lookAhead_319 : decode cX5_lookAhead 319 = .ok (.iload 4, 2) := by decide +kernel
theorem dX5_lookAhead_321 : decode cX5_lookAhead 321 = .ok (.iconst 1, 1) := by decide +kernel
theorem dX5_lookAhead_322 : decode cX5_lookAhead 322 = .ok (.iadd, 1) := by decide +kernel
theorem dX5_lookAhead_323 : decode cX5_lookAhead 323 = .ok (.iaload, 1) := by decide +kernel
theorem dX5_lookAhead_324 : decode cX5_lookAhead 324 = .ok (.if_icmp .ge 116, 3) := by decide +kernel
theorem dX5_lookAhead_327 : decode cX5_lookAhead 327 = .ok (.aload_n 0, 1) := by decide +kernel
theorem dX5_lookAhead_328 : decode cX5_lookAhead 328 = .ok (.iload 6, 2) := by decide +kernel
theorem dX5_lookAhead_330 : decode cX5_lookAhead 330 = .ok (.invokevirtual 124, 3) := by decide +kernel
theorem dX5_lookAhead_333 : decode cX5_lookAhead 333 = .ok (.sipush (-999), 3) := by decide +kernel
theorem dX5_lookAhead_336 : decode cX5_lookAhead 336 = .ok (.istore 7, 2) := by decide +kernel
theorem dX5_lookAhead_338 : decode cX5_lookAhead 338 = .ok (.iconst 0, 1) := by decide +kernel
theorem dX5_lookAhead_339 : decode cX5_lookAhead 339 = .ok (.istore 8, 2) := by decide +kernel
theorem dX5_lookAhead_341 : decode cX5_lookAhead 341 = .ok (.iload 8, 2) := by decide +kernel
theorem dX5_lookAhead_343 : decode cX5_lookAhead 343 = .ok (.aload_n 0, 1) := by decide +kernel
theorem dX5_lookAhead_344 : decode cX5_lookAhead 344 = .ok (.getfield 52, 3) := by decide +kernel
theorem dX5_lookAhead_347 : decode cX5_lookAhead 347 = .ok (.if_icmp .ge 78, 3) := by decide +kernel
theorem dX5_lookAhead_350 : decode cX5_lookAhead 350 = .ok (.aload_n 0, 1) := by decide +kernel
theorem dX5_lookAhead_351 : decode cX5_lookAhead 351 = .ok (.getfield 45, 3) := by decide +kernel
theorem dX5_lookAhead_354 : decode cX5_lookAhead 354 = .ok (.iload 8, 2) := by decide +kernel
theorem dX5_lookAhead_356 : decode cX5_lookAhead 356 = .ok (.iaload, 1) := by decide +kernel
theorem dX5_lookAhead_357 : decode cX5_lookAhead 357 = .ok (.aload_n 0, 1) := by decide +kernel
theorem dX5_lookAhead_358 : decode cX5_lookAhead 358 = .ok (.getfield 56, 3) := by decide +kernel
theorem dX5_lookAhead_361 : decode cX5_lookAhead 361 = .ok (.if_icmp .ge 58, 3) := by decide +kernel
theorem dX5_lookAhead_364 : decode cX5_lookAhead 364 = .ok (.aload_n 0, 1) := by decide +kernel
theorem dX5_lookAhead_365 : decode cX5_lookAhead 365 = .ok (.iload 6, 2) := by decide +kernel
theorem dX5_lookAhead_367 : decode cX5_lookAhead 367 = .ok (.iload 8, 2) := by decide +kernel
theorem dX5_lookAhead_369 : decode cX5_lookAhead 369 = .ok (.iload 5, 2) := by decide +kernel
theorem dX5_lookAhead_371 : decode cX5_lookAhead 371 = .ok (.iload 4, 2) := by decide +kernel
theorem dX5_lookAhead_373 : decode cX5_lookAhead 373 = .ok (.iload_n 1, 1) := by decide +kernel
theorem dX5_lookAhead_374 : decode cX5_lookAhead 374 = .ok (.iconst 1, 1) := by decide +kernel
theorem dX5_lookAhead_375 : decode cX5_lookAhead 375 = .ok (.isub, 1) := by decide +kernel
theorem dX5_lookAhead_376 : decode cX5_lookAhead 376 = .ok (.if_icmp .ne 7, 3) := by decide +kernel
theorem dX5_lookAhead_379 : decode cX5_lookAhead 379 = .ok (.iconst 1, 1) := by decide +kernel
theorem dX5_lookAhead_380 : decode cX5_lookAhead 380 = .ok (.goto 4, 3) := by decide +kernel
theorem dX5_lookAhead_383 : decode cX5_lookAhead 383 = .ok (.iconst 0, 1) := by decide +kernel
theorem dX5_lookAhead_384 : decode cX5_lookAhead 384 = .ok (.invokevirtual 132, 3) := by decide +kernel
theorem dX5_lookAhead_387 : decode cX5_lookAhead 387 = .ok (.istore 9, 2) := by decide +kernel
theorem dX5_lookAhead_389 : decode cX5_lookAhead 389 = .ok (.iload 7, 2) := by decide +kernel
theorem dX5_lookAhead_391 : decode cX5_lookAhead 391 = .ok (.sipush (-999), 3) := by decide +kernel
theorem dX5_lookAhead_394 : decode cX5_lookAhead 394 = .ok (.if_icmp .eq 16, 3) := by decide +kernel
theorem dX5_lookAhead_397 : decode cX5_lookAhead 397 = .ok (.iload 9, 2) := by decide +kernel
theorem dX5_lookAhead_399 : decode cX5_lookAhead 399 = .ok (.invokestatic 136, 3) := by decide +kernel
theorem dX5_lookAhead_402 : decode cX5_lookAhead 402 = .ok (.iload 7, 2) := by decide +kernel
theorem dX5_lookAhead_404 : decode cX5_lookAhead 404 = .ok (.invokestatic 136, 3) := by decide +kernel
theorem dX5_lookAhead_407 : decode cX5_lookAhead 407 = .ok (.if_icmp .le 8, 3) := by decide +kernel
theorem dX5_lookAhead_410 : decode cX5_lookAhead 410 = .ok (.iload 9, 2) := by decide +kernel
theorem dX5_lookAhead_412 : decode cX5_lookAhead 412 = .ok (.goto 5, 3) := by decide +kernel
theorem dX5_lookAhead_415 : decode cX5_lookAhead 415 = .ok (.iload 7, 2) := by decide +kernel
theorem dX5_lookAhead_417 : decode cX5_lookAhead 417 = .ok (.istore 7, 2) := by decide +kernel
theorem dX5_lookAhead_419 : decode cX5_lookAhead 419 = .ok (.iinc 8 1, 3) := by decide +kernel
theorem dX5_lookAhead_422 : decode cX5_lookAhead 422 = .ok (.goto (-81), 3) := by decide +kernel
theorem dX5_lookAhead_425 : decode cX5_lookAhead 425 = .ok (.aload_n 0, 1) := by decide +kernel
theorem dX5_lookAhead_426 : decode cX5_lookAhead 426 = .ok (.getfield 26, 3) := by decide +kernel
theorem dX5_lookAhead_429 : decode cX5_lookAhead 429 = .ok (.iload 6, 2) := by decide +kernel
theorem dX5_lookAhead_431 : decode cX5_lookAhead 431 = .ok (.iload 7, 2) := by decide +kernel
theorem dX5_lookAhead_433 : decode cX5_lookAhead 433 = .ok (.iastore, 1) := by decide +kernel
theorem dX5_lookAhead_434 : decode cX5_lookAhead 434 = .ok (.iinc 6 1, 3) := by decide +kernel
theorem dX5_lookAhead_437 : decode cX5_lookAhead 437 = .ok (.goto (-124), 3) := by decide +kernel
theorem dX5_lookAhead_440 : decode cX5_lookAhead 440 = .ok (.iinc 4 (-1), 3) := by decide +kernel
theorem dX5_lookAhead_443 : decode cX5_lookAhead 443 = .ok (.goto (-155), 3) := by decide +kernel
theorem dX5_lookAhead_446 : decode cX5_lookAhead 446 = .ok (.return_, 1) := by decide +kernel
theorem dX5_isFar_0 : decode cX5_isFar 0 = .ok (.aload_n 0, 1) := by decide +kernel
theorem dX5_isFar_1 : decode cX5_isFar 1 = .ok (.invokevirtual 77, 3) := by decide +kernel
theorem dX5_isFar_4 : decode cX5_isFar 4 = .ok (.ifCond .ge 22, 3) := by decide +kernel
theorem dX5_isFar_7 : decode cX5_isFar 7 = .ok (.aload_n 0, 1) := by decide +kernel
theorem dX5_isFar_8 : decode cX5_isFar 8 = .ok (.getfield 52, 3) := by decide +kernel
theorem dX5_isFar_11 : decode cX5_isFar 11 = .ok (.aload_n 0, 1) := by decide +kernel
theorem dX5_isFar_12 : decode cX5_isFar 12 = .ok (.getfield 56, 3) := by decide +kernel
theorem dX5_isFar_15 : decode cX5_isFar 15 = .ok (.imul, 1) := by decide +kernel
theorem dX5_isFar_16 : decode cX5_isFar 16 = .ok (.aload_n 0, 1) := by decide +kernel
theorem dX5_isFar_17 : decode cX5_isFar 17 = .ok (.getfield 70, 3) := by decide +kernel
theorem dX5_isFar_20 : decode cX5_isFar 20 = .ok (.isub, 1) := by decide +kernel
theorem dX5_isFar_21 : decode cX5_isFar 21 = .ok (.bipush 12, 2) := by decide +kernel
theorem dX5_isFar_23 : decode cX5_isFar 23 = .ok (.if_icmp .le 7, 3) := by decide +kernel
theorem dX5_isFar_26 : decode cX5_isFar 26 = .ok (.iconst 1, 1) := by decide +kernel
theorem dX5_isFar_27 : decode cX5_isFar 27 = .ok (.goto 4, 3) := by decide +kernel
theorem dX5_isFar_30 : decode cX5_isFar 30 = .ok (.iconst 0, 1) := by decide +kernel
theorem dX5_isFar_31 : decode cX5_isFar 31 = .ok (.ireturn, 1) := by decide +kernel
theorem dX5_value_0 : decode cX5_value 0 = .ok (.aload_n 0, 1) := by decide +kernel
theorem dX5_value_1 : decode cX5_value 1 = .ok (.aload_n 0, 1) := by decide +kernel
theorem dX5_value_2 : decode cX5_value 2 = .ok (.invokevirtual 139, 3) := by decide +kernel
theorem dX5_value_5 : decode cX5_value 5 = .ok (.iconst 0, 1) := by decide +kernel
theorem dX5_value_6 : decode cX5_value 6 = .ok (.invokevirtual 81, 3) := by decide +kernel
theorem dX5_value_9 : decode cX5_value 9 = .ok (.ifCond .eq 5, 3) := by decide +kernel
theorem dX5_value_12 : decode cX5_value 12 = .ok (.iconst 0, 1) := by decide +kernel
theorem dX5_value_13 : decode cX5_value 13 = .ok (.ireturn, 1) := by decide +kernel
theorem dX5_value_14 : decode cX5_value 14 = .ok (.aload_n 0, 1) := by decide +kernel
theorem dX5_value_15 : decode cX5_value 15 = .ok (.invokevirtual 143, 3) := by decide +kernel
theorem dX5_value_18 : decode cX5_value 18 = .ok (.aload_n 0, 1) := by decide +kernel
theorem dX5_value_19 : decode cX5_value 19 = .ok (.getfield 26, 3) := by decide +kernel
theorem dX5_value_22 : decode cX5_value 22 = .ok (.iconst 0, 1) := by decide +kernel
theorem dX5_value_23 : decode cX5_value 23 = .ok (.iaload, 1) := by decide +kernel
theorem dX5_value_24 : decode cX5_value 24 = .ok (.ireturn, 1) := by decide +kernel
theorem dX5_valueOf_0 : decode cX5_valueOf 0 = .ok (.iload_n 1, 1) := by decide +kernel
theorem dX5_valueOf_1 : decode cX5_valueOf 1 = .ok (.ifCond .lt 11, 3) := by decide +kernel
theorem dX5_valueOf_4 : decode cX5_valueOf 4 = .ok (.iload_n 1, 1) := by decide +kernel
theorem dX5_valueOf_5 : decode cX5_valueOf 5 = .ok (.aload_n 0, 1) := by decide +kernel
theorem dX5_valueOf_6 : decode cX5_valueOf 6 = .ok (.getfield 52, 3) := by decide +kernel
theorem dX5_valueOf_9 : decode cX5_valueOf 9 = .ok (.if_icmp .lt 7, 3) := by decide +kernel
theorem dX5_valueOf_12 : decode cX5_valueOf 12 = .ok (.iconst 1, 1) := by decide +kernel
theorem dX5_valueOf_13 : decode cX5_valueOf 13 = .ok (.goto 4, 3) := by decide +kernel
theorem dX5_valueOf_16 : decode cX5_valueOf 16 = .ok (.iconst 0, 1) := by decide +kernel
theorem dX5_valueOf_17 : decode cX5_valueOf 17 = .ok (.istore_n 2, 1) := by decide +kernel
theorem dX5_valueOf_18 : decode cX5_valueOf 18 = .ok (.aload_n 0, 1) := by decide +kernel
theorem dX5_valueOf_19 : decode cX5_valueOf 19 = .ok (.iload_n 2, 1) := by decide +kernel
theorem dX5_valueOf_20 : decode cX5_valueOf 20 = .ok (.iload_n 2, 1) := by decide +kernel
theorem dX5_valueOf_21 : decode cX5_valueOf 21 = .ok (.ifCond .ne 27, 3) := by decide +kernel
theorem dX5_valueOf_24 : decode cX5_valueOf 24 = .ok (.aload_n 0, 1) := by decide +kernel
theorem dX5_valueOf_25 : decode cX5_valueOf 25 = .ok (.invokevirtual 139, 3) := by decide +kernel
theorem dX5_valueOf_28 : decode cX5_valueOf 28 = .ok (.ifCond .ne 16, 3) := by decide +kernel
theorem dX5_valueOf_31 : decode cX5_valueOf 31 = .ok (.aload_n 0, 1) := by decide +kernel
theorem dX5_valueOf_32 : decode cX5_valueOf 32 = .ok (.getfield 13, 3) := by decide +kernel
theorem dX5_valueOf_35 : decode cX5_valueOf 35 = .ok (.iload_n 1, 1) := by decide +kernel
theorem dX5_valueOf_36 : decode cX5_valueOf 36 = .ok (.iaload, 1) := by decide +kernel
theorem dX5_valueOf_37 : decode cX5_valueOf 37 = .ok (.aload_n 0, 1) := by decide +kernel
theorem dX5_valueOf_38 : decode cX5_valueOf 38 = .ok (.getfield 56, 3) := by decide +kernel
theorem dX5_valueOf_41 : decode cX5_valueOf 41 = .ok (.if_icmp .ne 7, 3) := by decide +kernel
theorem dX5_valueOf_44 : decode cX5_valueOf 44 = .ok (.iconst 1, 1) := by decide +kernel
theorem dX5_valueOf_45 : decode cX5_valueOf 45 = .ok (.goto 4, 3) := by decide +kernel
theorem dX5_valueOf_48 : decode cX5_valueOf 48 = .ok (.iconst 0, 1) := by decide +kernel
theorem dX5_valueOf_49 : decode cX5_valueOf 49 = .ok (.invokevirtual 81, 3) := by decide +kernel
theorem dX5_valueOf_52 : decode cX5_valueOf 52 = .ok (.ifCond .eq 5, 3) := by decide +kernel
theorem dX5_valueOf_55 : decode cX5_valueOf 55 = .ok (.iconst 0, 1) := by decide +kernel
theorem dX5_valueOf_56 : decode cX5_valueOf 56 = .ok (.ireturn, 1) := by decide +kernel
theorem dX5_valueOf_57 : decode cX5_valueOf 57 = .ok (.aload_n 0, 1) := by decide +kernel
theorem dX5_valueOf_58 : decode cX5_valueOf 58 = .ok (.invokevirtual 143, 3) := by decide +kernel
theorem dX5_valueOf_61 : decode cX5_valueOf 61 = .ok (.aload_n 0, 1) := by decide +kernel
theorem dX5_valueOf_62 : decode cX5_valueOf 62 = .ok (.iconst 0, 1) := by decide +kernel
theorem dX5_valueOf_63 : decode cX5_valueOf 63 = .ok (.invokevirtual 124, 3) := by decide +kernel
theorem dX5_valueOf_66 : decode cX5_valueOf 66 = .ok (.aload_n 0, 1) := by decide +kernel
theorem dX5_valueOf_67 : decode cX5_valueOf 67 = .ok (.iconst 0, 1) := by decide +kernel
theorem dX5_valueOf_68 : decode cX5_valueOf 68 = .ok (.iload_n 1, 1) := by decide +kernel
theorem dX5_valueOf_69 : decode cX5_valueOf 69 = .ok (.aload_n 0, 1) := by decide +kernel
end
section
theorem dX5_valueOf_70 : decode cX5_valueOf 70 = .ok (.getfield 70, 3) := by decide +kernel
theorem dX5_valueOf_73 : decode cX5_valueOf 73 = .ok (.iconst 2, 1) := by decide +kernel
theorem dX5_valueOf_74 : decode cX5_valueOf 74 = .ok (.irem, 1) := by decide +kernel
theorem dX5_valueOf_75 : decode cX5_valueOf 75 = .ok (.aload_n 0, 1) := by decide +kernel
theorem dX5_valueOf_76 : decode cX5_valueOf 76 = .ok (.getfield 70, 3) := by decide +kernel
theorem dX5_valueOf_79 : decode cX5_valueOf 79 = .ok (.iconst 1, 1) := by decide +kernel
theorem dX5_valueOf_80 : decode cX5_valueOf 80 = .ok (.iadd, 1) := by decide +kernel
theorem dX5_valueOf_81 : decode cX5_valueOf 81 = .ok (.aload_n 0, 1) := by decide +kernel
theorem dX5_valueOf_82 : decode cX5_valueOf 82 = .ok (.getfield 52, 3) := by decide +kernel
theorem dX5_valueOf_85 : decode cX5_valueOf 85 = .ok (.aload_n 0, 1) := by decide +kernel
theorem dX5_valueOf_86 : decode cX5_valueOf 86 = .ok (.getfield 56, 3) := by decide +kernel
theorem dX5_valueOf_89 : decode cX5_valueOf 89 = .ok (.imul, 1) := by decide +kernel
theorem dX5_valueOf_90 : decode cX5_valueOf 90 = .ok (.if_icmp .ne 7, 3) := by decide +kernel
theorem dX5_valueOf_93 : decode cX5_valueOf 93 = .ok (.iconst 1, 1) := by decide +kernel
theorem dX5_valueOf_94 : decode cX5_valueOf 94 = .ok (.goto 4, 3) := by decide +kernel
theorem dX5_valueOf_97 : decode cX5_valueOf 97 = .ok (.iconst 0, 1) := by decide +kernel
theorem dX5_valueOf_98 : decode cX5_valueOf 98 = .ok (.invokevirtual 132, 3) := by decide +kernel
theorem dX5_valueOf_101 : decode cX5_valueOf 101 = .ok (.ireturn, 1) := by decide +kernel
theorem dX5_best_0 : decode cX5_best 0 = .ok (.aload_n 0, 1) := by decide +kernel
theorem dX5_best_1 : decode cX5_best 1 = .ok (.aload_n 0, 1) := by decide +kernel
theorem dX5_best_2 : decode cX5_best 2 = .ok (.invokevirtual 139, 3) := by decide +kernel
theorem dX5_best_5 : decode cX5_best 5 = .ok (.iconst 0, 1) := by decide +kernel
theorem dX5_best_6 : decode cX5_best 6 = .ok (.invokevirtual 81, 3) := by decide +kernel
theorem dX5_best_9 : decode cX5_best 9 = .ok (.ifCond .eq 5, 3) := by decide +kernel
theorem dX5_best_12 : decode cX5_best 12 = .ok (.iconst 0, 1) := by decide +kernel
theorem dX5_best_13 : decode cX5_best 13 = .ok (.ireturn, 1) := by decide +kernel
theorem dX5_best_14 : decode cX5_best 14 = .ok (.aload_n 0, 1) := by decide +kernel
theorem dX5_best_15 : decode cX5_best 15 = .ok (.invokevirtual 143, 3) := by decide +kernel
theorem dX5_best_18 : decode cX5_best 18 = .ok (.aload_n 0, 1) := by decide +kernel
theorem dX5_best_19 : decode cX5_best 19 = .ok (.iconst 0, 1) := by decide +kernel
theorem dX5_best_20 : decode cX5_best 20 = .ok (.invokevirtual 124, 3) := by decide +kernel
theorem dX5_best_23 : decode cX5_best 23 = .ok (.iconst (-1), 1) := by decide +kernel
theorem dX5_best_24 : decode cX5_best 24 = .ok (.istore_n 1, 1) := by decide +kernel
theorem dX5_best_25 : decode cX5_best 25 = .ok (.iconst 0, 1) := by decide +kernel
theorem dX5_best_26 : decode cX5_best 26 = .ok (.istore_n 2, 1) := by decide +kernel
theorem dX5_best_27 : decode cX5_best 27 = .ok (.iload_n 2, 1) := by decide +kernel
theorem dX5_best_28 : decode cX5_best 28 = .ok (.aload_n 0, 1) := by decide +kernel
theorem dX5_best_29 : decode cX5_best 29 = .ok (.getfield 52, 3) := by decide +kernel
theorem dX5_best_32 : decode cX5_best 32 = .ok (.if_icmp .ge 86, 3) := by decide +kernel
theorem dX5_best_35 : decode cX5_best 35 = .ok (.aload_n 0, 1) := by decide +kernel
theorem dX5_best_36 : decode cX5_best 36 = .ok (.getfield 13, 3) := by decide +kernel
theorem dX5_best_39 : decode cX5_best 39 = .ok (.iload_n 2, 1) := by decide +kernel
theorem dX5_best_40 : decode cX5_best 40 = .ok (.iaload, 1) := by decide +kernel
theorem dX5_best_41 : decode cX5_best 41 = .ok (.aload_n 0, 1) := by decide +kernel
theorem dX5_best_42 : decode cX5_best 42 = .ok (.getfield 56, 3) := by decide +kernel
theorem dX5_best_45 : decode cX5_best 45 = .ok (.if_icmp .ge 51, 3) := by decide +kernel
theorem dX5_best_48 : decode cX5_best 48 = .ok (.aload_n 0, 1) := by decide +kernel
theorem dX5_best_49 : decode cX5_best 49 = .ok (.iconst 0, 1) := by decide +kernel
theorem dX5_best_50 : decode cX5_best 50 = .ok (.iload_n 2, 1) := by decide +kernel
theorem dX5_best_51 : decode cX5_best 51 = .ok (.aload_n 0, 1) := by decide +kernel
theorem dX5_best_52 : decode cX5_best 52 = .ok (.getfield 70, 3) := by decide +kernel
theorem dX5_best_55 : decode cX5_best 55 = .ok (.iconst 2, 1) := by decide +kernel
theorem dX5_best_56 : decode cX5_best 56 = .ok (.irem, 1) := by decide +kernel
theorem dX5_best_57 : decode cX5_best 57 = .ok (.aload_n 0, 1) := by decide +kernel
theorem dX5_best_58 : decode cX5_best 58 = .ok (.getfield 70, 3) := by decide +kernel
theorem dX5_best_61 : decode cX5_best 61 = .ok (.iconst 1, 1) := by decide +kernel
theorem dX5_best_62 : decode cX5_best 62 = .ok (.iadd, 1) := by decide +kernel
theorem dX5_best_63 : decode cX5_best 63 = .ok (.aload_n 0, 1) := by decide +kernel
theorem dX5_best_64 : decode cX5_best 64 = .ok (.getfield 52, 3) := by decide +kernel
theorem dX5_best_67 : decode cX5_best 67 = .ok (.aload_n 0, 1) := by decide +kernel
theorem dX5_best_68 : decode cX5_best 68 = .ok (.getfield 56, 3) := by decide +kernel
theorem dX5_best_71 : decode cX5_best 71 = .ok (.imul, 1) := by decide +kernel
theorem dX5_best_72 : decode cX5_best 72 = .ok (.if_icmp .ne 7, 3) := by decide +kernel
theorem dX5_best_75 : decode cX5_best 75 = .ok (.iconst 1, 1) := by decide +kernel
theorem dX5_best_76 : decode cX5_best 76 = .ok (.goto 4, 3) := by decide +kernel
theorem dX5_best_79 : decode cX5_best 79 = .ok (.iconst 0, 1) := by decide +kernel
theorem dX5_best_80 : decode cX5_best 80 = .ok (.invokevirtual 132, 3) := by decide +kernel
theorem dX5_best_83 : decode cX5_best 83 = .ok (.aload_n 0, 1) := by decide +kernel
theorem dX5_best_84 : decode cX5_best 84 = .ok (.getfield 26, 3) := by decide +kernel
theorem dX5_best_87 : decode cX5_best 87 = .ok (.iconst 0, 1) := by decide +kernel
theorem dX5_best_88 : decode cX5_best 88 = .ok (.iaload, 1) := by decide +kernel
theorem dX5_best_89 : decode cX5_best 89 = .ok (.if_icmp .ne 7, 3) := by decide +kernel
theorem dX5_best_92 : decode cX5_best 92 = .ok (.iconst 1, 1) := by decide +kernel
theorem dX5_best_93 : decode cX5_best 93 = .ok (.goto 4, 3) := by decide +kernel
theorem dX5_best_96 : decode cX5_best 96 = .ok (.iconst 0, 1) := by decide +kernel
theorem dX5_best_97 : decode cX5_best 97 = .ok (.istore_n 3, 1) := by decide +kernel
theorem dX5_best_98 : decode cX5_best 98 = .ok (.iload_n 3, 1) := by decide +kernel
theorem dX5_best_99 : decode cX5_best 99 = .ok (.ifCond .eq 11, 3) := by decide +kernel
theorem dX5_best_102 : decode cX5_best 102 = .ok (.iload_n 1, 1) := by decide +kernel
theorem dX5_best_103 : decode cX5_best 103 = .ok (.ifCond .ge 7, 3) := by decide +kernel
theorem dX5_best_106 : decode cX5_best 106 = .ok (.iload_n 2, 1) := by decide +kernel
theorem dX5_best_107 : decode cX5_best 107 = .ok (.goto 4, 3) := by decide +kernel
theorem dX5_best_110 : decode cX5_best 110 = .ok (.iload_n 1, 1) := by decide +kernel
theorem dX5_best_111 : decode cX5_best 111 = .ok (.istore_n 1, 1) := by decide +kernel
theorem dX5_best_112 : decode cX5_best 112 = .ok (.iinc 2 1, 3) := by decide +kernel
theorem dX5_best_115 : decode cX5_best 115 = .ok (.goto (-88), 3) := by decide +kernel
theorem dX5_best_118 : decode cX5_best 118 = .ok (.iload_n 1, 1) := by decide +kernel
theorem dX5_best_119 : decode cX5_best 119 = .ok (.ireturn, 1) := by decide +kernel
theorem dX5_showPairs_0 : decode cX5_showPairs 0 = .ok (.iload_n 1, 1) := by decide +kernel
theorem dX5_showPairs_1 : decode cX5_showPairs 1 = .ok (.istore_n 2, 1) := by decide +kernel
theorem dX5_showPairs_2 : decode cX5_showPairs 2 = .ok (.iconst 0, 1) := by decide +kernel
theorem dX5_showPairs_3 : decode cX5_showPairs 3 = .ok (.istore_n 3, 1) := by decide +kernel
theorem dX5_showPairs_4 : decode cX5_showPairs 4 = .ok (.iload_n 3, 1) := by decide +kernel
theorem dX5_showPairs_5 : decode cX5_showPairs 5 = .ok (.bipush 63, 2) := by decide +kernel
theorem dX5_showPairs_7 : decode cX5_showPairs 7 = .ok (.if_icmp .ge 21, 3) := by decide +kernel
theorem dX5_showPairs_10 : decode cX5_showPairs 10 = .ok (.aload_n 0, 1) := by decide +kernel
theorem dX5_showPairs_11 : decode cX5_showPairs 11 = .ok (.getfield 42, 3) := by decide +kernel
theorem dX5_showPairs_14 : decode cX5_showPairs 14 = .ok (.iload_n 3, 1) := by decide +kernel
theorem dX5_showPairs_15 : decode cX5_showPairs 15 = .ok (.aload_n 0, 1) := by decide +kernel
theorem dX5_showPairs_16 : decode cX5_showPairs 16 = .ok (.getfield 7, 3) := by decide +kernel
theorem dX5_showPairs_19 : decode cX5_showPairs 19 = .ok (.iload_n 3, 1) := by decide +kernel
theorem dX5_showPairs_20 : decode cX5_showPairs 20 = .ok (.iaload, 1) := by decide +kernel
theorem dX5_showPairs_21 : decode cX5_showPairs 21 = .ok (.iastore, 1) := by decide +kernel
theorem dX5_showPairs_22 : decode cX5_showPairs 22 = .ok (.iinc 3 1, 3) := by decide +kernel
theorem dX5_showPairs_25 : decode cX5_showPairs 25 = .ok (.goto (-21), 3) := by decide +kernel
theorem dX5_showPairs_28 : decode cX5_showPairs 28 = .ok (.iconst 0, 1) := by decide +kernel
theorem dX5_showPairs_29 : decode cX5_showPairs 29 = .ok (.istore_n 3, 1) := by decide +kernel
theorem dX5_showPairs_30 : decode cX5_showPairs 30 = .ok (.iload_n 3, 1) := by decide +kernel
theorem dX5_showPairs_31 : decode cX5_showPairs 31 = .ok (.aload_n 0, 1) := by decide +kernel
theorem dX5_showPairs_32 : decode cX5_showPairs 32 = .ok (.getfield 52, 3) := by decide +kernel
theorem dX5_showPairs_35 : decode cX5_showPairs 35 = .ok (.if_icmp .ge 100, 3) := by decide +kernel
theorem dX5_showPairs_38 : decode cX5_showPairs 38 = .ok (.aload_n 0, 1) := by decide +kernel
theorem dX5_showPairs_39 : decode cX5_showPairs 39 = .ok (.getfield 56, 3) := by decide +kernel
theorem dX5_showPairs_42 : decode cX5_showPairs 42 = .ok (.aload_n 0, 1) := by decide +kernel
theorem dX5_showPairs_43 : decode cX5_showPairs 43 = .ok (.getfield 13, 3) := by decide +kernel
theorem dX5_showPairs_46 : decode cX5_showPairs 46 = .ok (.iload_n 3, 1) := by decide +kernel
theorem dX5_showPairs_47 : decode cX5_showPairs 47 = .ok (.iaload, 1) := by decide +kernel
theorem dX5_showPairs_48 : decode cX5_showPairs 48 = .ok (.isub, 1) := by decide +kernel
theorem dX5_showPairs_49 : decode cX5_showPairs 49 = .ok (.iconst 2, 1) := by decide +kernel
theorem dX5_showPairs_50 : decode cX5_showPairs 50 = .ok (.idiv, 1) := by decide +kernel
theorem dX5_showPairs_51 : decode cX5_showPairs 51 = .ok (.iconst 1, 1) := by decide +kernel
theorem dX5_showPairs_52 : decode cX5_showPairs 52 = .ok (.iadd, 1) := by decide +kernel
theorem dX5_showPairs_53 : decode cX5_showPairs 53 = .ok (.istore 4, 2) := by decide +kernel
theorem dX5_showPairs_55 : decode cX5_showPairs 55 = .ok (.iload_n 2, 1) := by decide +kernel
theorem dX5_showPairs_56 : decode cX5_showPairs 56 = .ok (.iload 4, 2) := by decide +kernel
theorem dX5_showPairs_58 : decode cX5_showPairs 58 = .ok (.irem, 1) := by decide +kernel
theorem dX5_showPairs_59 : decode cX5_showPairs 59 = .ok (.istore 5, 2) := by decide +kernel
theorem dX5_showPairs_61 : decode cX5_showPairs 61 = .ok (.iload_n 2, 1) := by decide +kernel
theorem dX5_showPairs_62 : decode cX5_showPairs 62 = .ok (.iload 4, 2) := by decide +kernel
theorem dX5_showPairs_64 : decode cX5_showPairs 64 = .ok (.idiv, 1) := by decide +kernel
theorem dX5_showPairs_65 : decode cX5_showPairs 65 = .ok (.istore_n 2, 1) := by decide +kernel
theorem dX5_showPairs_66 : decode cX5_showPairs 66 = .ok (.iconst 0, 1) := by decide +kernel
theorem dX5_showPairs_67 : decode cX5_showPairs 67 = .ok (.istore 6, 2) := by decide +kernel
theorem dX5_showPairs_69 : decode cX5_showPairs 69 = .ok (.iload 6, 2) := by decide +kernel
theorem dX5_showPairs_71 : decode cX5_showPairs 71 = .ok (.iconst 2, 1) := by decide +kernel
theorem dX5_showPairs_72 : decode cX5_showPairs 72 = .ok (.iload 5, 2) := by decide +kernel
theorem dX5_showPairs_74 : decode cX5_showPairs 74 = .ok (.imul, 1) := by decide +kernel
theorem dX5_showPairs_75 : decode cX5_showPairs 75 = .ok (.if_icmp .ge 37, 3) := by decide +kernel
theorem dX5_showPairs_78 : decode cX5_showPairs 78 = .ok (.aload_n 0, 1) := by decide +kernel
theorem dX5_showPairs_79 : decode cX5_showPairs 79 = .ok (.getfield 42, 3) := by decide +kernel
theorem dX5_showPairs_82 : decode cX5_showPairs 82 = .ok (.bipush 7, 2) := by decide +kernel
theorem dX5_showPairs_84 : decode cX5_showPairs 84 = .ok (.iload_n 3, 1) := by decide +kernel
theorem dX5_showPairs_85 : decode cX5_showPairs 85 = .ok (.imul, 1) := by decide +kernel
theorem dX5_showPairs_86 : decode cX5_showPairs 86 = .ok (.aload_n 0, 1) := by decide +kernel
theorem dX5_showPairs_87 : decode cX5_showPairs 87 = .ok (.getfield 13, 3) := by decide +kernel
theorem dX5_showPairs_90 : decode cX5_showPairs 90 = .ok (.iload_n 3, 1) := by decide +kernel
theorem dX5_showPairs_91 : decode cX5_showPairs 91 = .ok (.iaload, 1) := by decide +kernel
theorem dX5_showPairs_92 : decode cX5_showPairs 92 = .ok (.iadd, 1) := by decide +kernel
theorem dX5_showPairs_93 : decode cX5_showPairs 93 = .ok (.iload 6, 2) := by decide +kernel
theorem dX5_showPairs_95 : decode cX5_showPairs 95 = .ok (.iadd, 1) := by decide +kernel
theorem dX5_showPairs_96 : decode cX5_showPairs 96 = .ok (.aload_n 0, 1) := by decide +kernel
theorem dX5_showPairs_97 : decode cX5_showPairs 97 = .ok (.getfield 70, 3) := by decide +kernel
theorem dX5_showPairs_100 : decode cX5_showPairs 100 = .ok (.iload 6, 2) := by decide +kernel
theorem dX5_showPairs_102 : decode cX5_showPairs 102 = .ok (.iadd, 1) := by decide +kernel
theorem dX5_showPairs_103 : decode cX5_showPairs 103 = .ok (.iconst 2, 1) := by decide +kernel
theorem dX5_showPairs_104 : decode cX5_showPairs 104 = .ok (.irem, 1) := by decide +kernel
theorem dX5_showPairs_105 : decode cX5_showPairs 105 = .ok (.iastore, 1) := by decide +kernel
theorem dX5_showPairs_106 : decode cX5_showPairs 106 = .ok (.iinc 6 1, 3) := by decide +kernel
theorem dX5_showPairs_109 : decode cX5_showPairs 109 = .ok (.goto (-40), 3) := by decide +kernel
theorem dX5_showPairs_112 : decode cX5_showPairs 112 = .ok (.aload_n 0, 1) := by decide +kernel
theorem dX5_showPairs_113 : decode cX5_showPairs 113 = .ok (.getfield 45, 3) := by decide +kernel
theorem dX5_showPairs_116 : decode cX5_showPairs 116 = .ok (.iload_n 3, 1) := by decide +kernel
theorem dX5_showPairs_117 : decode cX5_showPairs 117 = .ok (.aload_n 0, 1) := by decide +kernel
theorem dX5_showPairs_118 : decode cX5_showPairs 118 = .ok (.getfield 13, 3) := by decide +kernel
theorem dX5_showPairs_121 : decode cX5_showPairs 121 = .ok (.iload_n 3, 1) := by decide +kernel
theorem dX5_showPairs_122 : decode cX5_showPairs 122 = .ok (.iaload, 1) := by decide +kernel
theorem dX5_showPairs_123 : decode cX5_showPairs 123 = .ok (.iconst 2, 1) := by decide +kernel
theorem dX5_showPairs_124 : decode cX5_showPairs 124 = .ok (.iload 5, 2) := by decide +kernel
theorem dX5_showPairs_126 : decode cX5_showPairs 126 = .ok (.imul, 1) := by decide +kernel
theorem dX5_showPairs_127 : decode cX5_showPairs 127 = .ok (.iadd, 1) := by decide +kernel
theorem dX5_showPairs_128 : decode cX5_showPairs 128 = .ok (.iastore, 1) := by decide +kernel
theorem dX5_showPairs_129 : decode cX5_showPairs 129 = .ok (.iinc 3 1, 3) := by decide +kernel
theorem dX5_showPairs_132 : decode cX5_showPairs 132 = .ok (.goto (-102), 3) := by decide +kernel
theorem dX5_showPairs_135 : decode cX5_showPairs 135 = .ok (.return_, 1) := by decide +kernel
theorem dX5_beats_0 : decode cX5_beats 0 = .ok (.iconst 0, 1) := by decide +kernel
theorem dX5_beats_1 : decode cX5_beats 1 = .ok (.istore_n 1, 1) := by decide +kernel
theorem dX5_beats_2 : decode cX5_beats 2 = .ok (.iconst 0, 1) := by decide +kernel
theorem dX5_beats_3 : decode cX5_beats 3 = .ok (.istore_n 2, 1) := by decide +kernel
theorem dX5_beats_4 : decode cX5_beats 4 = .ok (.iload_n 2, 1) := by decide +kernel
theorem dX5_beats_5 : decode cX5_beats 5 = .ok (.aload_n 0, 1) := by decide +kernel
theorem dX5_beats_6 : decode cX5_beats 6 = .ok (.getfield 52, 3) := by decide +kernel
theorem dX5_beats_9 : decode cX5_beats 9 = .ok (.if_icmp .ge 36, 3) := by decide +kernel
theorem dX5_beats_12 : decode cX5_beats 12 = .ok (.iload_n 1, 1) := by decide +kernel
theorem dX5_beats_13 : decode cX5_beats 13 = .ok (.ifCond .ne 20, 3) := by decide +kernel
theorem dX5_beats_16 : decode cX5_beats 16 = .ok (.aload_n 0, 1) := by decide +kernel
theorem dX5_beats_17 : decode cX5_beats 17 = .ok (.getfield 56, 3) := by decide +kernel
theorem dX5_beats_20 : decode cX5_beats 20 = .ok (.aload_n 0, 1) := by decide +kernel
theorem dX5_beats_21 : decode cX5_beats 21 = .ok (.getfield 13, 3) := by decide +kernel
theorem dX5_beats_24 : decode cX5_beats 24 = .ok (.iload_n 2, 1) := by decide +kernel
theorem dX5_beats_25 : decode cX5_beats 25 = .ok (.iaload, 1) := by decide +kernel
theorem dX5_beats_26 : decode cX5_beats 26 = .ok (.isub, 1) := by decide +kernel
theorem dX5_beats_27 : decode cX5_beats 27 = .ok (.iconst 2, 1) := by decide +kernel
theorem dX5_beats_28 : decode cX5_beats 28 = .ok (.irem, 1) := by decide +kernel
theorem dX5_beats_29 : decode cX5_beats 29 = .ok (.iconst 1, 1) := by decide +kernel
theorem dX5_beats_30 : decode cX5_beats 30 = .ok (.if_icmp .ne 7, 3) := by decide +kernel
theorem dX5_beats_33 : decode cX5_beats 33 = .ok (.iconst 1, 1) := by decide +kernel
theorem dX5_beats_34 : decode cX5_beats 34 = .ok (.goto 4, 3) := by decide +kernel
theorem dX5_beats_37 : decode cX5_beats 37 = .ok (.iconst 0, 1) := by decide +kernel
theorem dX5_beats_38 : decode cX5_beats 38 = .ok (.istore_n 1, 1) := by decide +kernel
theorem dX5_beats_39 : decode cX5_beats 39 = .ok (.iinc 2 1, 3) := by decide +kernel
theorem dX5_beats_42 : decode cX5_beats 42 = .ok (.goto (-38), 3) := by decide +kernel
theorem dX5_beats_45 : decode cX5_beats 45 = .ok (.aload_n 0, 1) := by decide +kernel
theorem dX5_beats_46 : decode cX5_beats 46 = .ok (.aload_n 0, 1) := by decide +kernel
theorem dX5_beats_47 : decode cX5_beats 47 = .ok (.invokevirtual 77, 3) := by decide +kernel
theorem dX5_beats_50 : decode cX5_beats 50 = .ok (.ifCond .ge 26, 3) := by decide +kernel
theorem dX5_beats_53 : decode cX5_beats 53 = .ok (.aload_n 0, 1) := by decide +kernel
theorem dX5_beats_54 : decode cX5_beats 54 = .ok (.getfield 52, 3) := by decide +kernel
theorem dX5_beats_57 : decode cX5_beats 57 = .ok (.aload_n 0, 1) := by decide +kernel
theorem dX5_beats_58 : decode cX5_beats 58 = .ok (.getfield 56, 3) := by decide +kernel
theorem dX5_beats_61 : decode cX5_beats 61 = .ok (.imul, 1) := by decide +kernel
theorem dX5_beats_62 : decode cX5_beats 62 = .ok (.aload_n 0, 1) := by decide +kernel
theorem dX5_beats_63 : decode cX5_beats 63 = .ok (.getfield 70, 3) := by decide +kernel
theorem dX5_beats_66 : decode cX5_beats 66 = .ok (.isub, 1) := by decide +kernel
theorem dX5_beats_67 : decode cX5_beats 67 = .ok (.bipush 30, 2) := by decide +kernel
theorem dX5_beats_69 : decode cX5_beats 69 = .ok (.if_icmp .gt 7, 3) := by decide +kernel
theorem dX5_beats_72 : decode cX5_beats 72 = .ok (.iload_n 1, 1) := by decide +kernel
theorem dX5_beats_73 : decode cX5_beats 73 = .ok (.ifCond .eq 7, 3) := by decide +kernel
theorem dX5_beats_76 : decode cX5_beats 76 = .ok (.iconst 1, 1) := by decide +kernel
theorem dX5_beats_77 : decode cX5_beats 77 = .ok (.goto 4, 3) := by decide +kernel
theorem dX5_beats_80 : decode cX5_beats 80 = .ok (.iconst 0, 1) := by decide +kernel
theorem dX5_beats_81 : decode cX5_beats 81 = .ok (.iconst 0, 1) := by decide +kernel
theorem dX5_beats_82 : decode cX5_beats 82 = .ok (.invokevirtual 81, 3) := by decide +kernel
theorem dX5_beats_85 : decode cX5_beats 85 = .ok (.ifCond .eq 5, 3) := by decide +kernel
theorem dX5_beats_88 : decode cX5_beats 88 = .ok (.iconst 0, 1) := by decide +kernel
theorem dX5_beats_89 : decode cX5_beats 89 = .ok (.ireturn, 1) := by decide +kernel
theorem dX5_beats_90 : decode cX5_beats 90 = .ok (.iconst 1, 1) := by decide +kernel
theorem dX5_beats_91 : decode cX5_beats 91 = .ok (.istore_n 2, 1) := by decide +kernel
theorem dX5_beats_92 : decode cX5_beats 92 = .ok (.iconst 0, 1) := by decide +kernel
theorem dX5_beats_93 : decode cX5_beats 93 = .ok (.istore_n 3, 1) := by decide +kernel
theorem dX5_beats_94 : decode cX5_beats 94 = .ok (.iload_n 3, 1) := by decide +kernel
theorem dX5_beats_95 : decode cX5_beats 95 = .ok (.aload_n 0, 1) := by decide +kernel
theorem dX5_beats_96 : decode cX5_beats 96 = .ok (.getfield 52, 3) := by decide +kernel
theorem dX5_beats_99 : decode cX5_beats 99 = .ok (.if_icmp .ge 34, 3) := by decide +kernel
theorem dX5_beats_102 : decode cX5_beats 102 = .ok (.aload_n 0, 1) := by decide +kernel
theorem dX5_beats_103 : decode cX5_beats 103 = .ok (.getfield 36, 3) := by decide +kernel
theorem dX5_beats_106 : decode cX5_beats 106 = .ok (.iload_n 3, 1) := by decide +kernel
theorem dX5_beats_107 : decode cX5_beats 107 = .ok (.iload_n 2, 1) := by decide +kernel
theorem dX5_beats_108 : decode cX5_beats 108 = .ok (.iastore, 1) := by decide +kernel
theorem dX5_beats_109 : decode cX5_beats 109 = .ok (.iload_n 2, 1) := by decide +kernel
theorem dX5_beats_110 : decode cX5_beats 110 = .ok (.aload_n 0, 1) := by decide +kernel
theorem dX5_beats_111 : decode cX5_beats 111 = .ok (.getfield 56, 3) := by decide +kernel
theorem dX5_beats_114 : decode cX5_beats 114 = .ok (.aload_n 0, 1) := by decide +kernel
theorem dX5_beats_115 : decode cX5_beats 115 = .ok (.getfield 13, 3) := by decide +kernel
theorem dX5_beats_118 : decode cX5_beats 118 = .ok (.iload_n 3, 1) := by decide +kernel
theorem dX5_beats_119 : decode cX5_beats 119 = .ok (.iaload, 1) := by decide +kernel
theorem dX5_beats_120 : decode cX5_beats 120 = .ok (.isub, 1) := by decide +kernel
theorem dX5_beats_121 : decode cX5_beats 121 = .ok (.iconst 2, 1) := by decide +kernel
theorem dX5_beats_122 : decode cX5_beats 122 = .ok (.idiv, 1) := by decide +kernel
theorem dX5_beats_123 : decode cX5_beats 123 = .ok (.iconst 1, 1) := by decide +kernel
theorem dX5_beats_124 : decode cX5_beats 124 = .ok (.iadd, 1) := by decide +kernel
theorem dX5_beats_125 : decode cX5_beats 125 = .ok (.imul, 1) := by decide +kernel
theorem dX5_beats_126 : decode cX5_beats 126 = .ok (.istore_n 2, 1) := by decide +kernel
theorem dX5_beats_127 : decode cX5_beats 127 = .ok (.iinc 3 1, 3) := by decide +kernel
theorem dX5_beats_130 : decode cX5_beats 130 = .ok (.goto (-36), 3) := by decide +kernel
theorem dX5_beats_133 : decode cX5_beats 133 = .ok (.aload_n 0, 1) := by decide +kernel
theorem dX5_beats_134 : decode cX5_beats 134 = .ok (.iconst 0, 1) := by decide +kernel
theorem dX5_beats_135 : decode cX5_beats 135 = .ok (.putfield 85, 3) := by decide +kernel
theorem dX5_beats_138 : decode cX5_beats 138 = .ok (.iconst 0, 1) := by decide +kernel
theorem dX5_beats_139 : decode cX5_beats 139 = .ok (.istore_n 3, 1) := by decide +kernel
theorem dX5_beats_140 : decode cX5_beats 140 = .ok (.iload_n 3, 1) := by decide +kernel
theorem dX5_beats_141 : decode cX5_beats 141 = .ok (.iload_n 2, 1) := by decide +kernel
theorem dX5_beats_142 : decode cX5_beats 142 = .ok (.if_icmp .ge 24, 3) := by decide +kernel
theorem dX5_beats_145 : decode cX5_beats 145 = .ok (.aload_n 0, 1) := by decide +kernel
theorem dX5_beats_146 : decode cX5_beats 146 = .ok (.getfield 48, 3) := by decide +kernel
theorem dX5_beats_149 : decode cX5_beats 149 = .ok (.iload_n 3, 1) := by decide +kernel
theorem dX5_beats_150 : decode cX5_beats 150 = .ok (.iload_n 3, 1) := by decide +kernel
theorem dX5_beats_151 : decode cX5_beats 151 = .ok (.ifCond .ne 7, 3) := by decide +kernel
theorem dX5_beats_154 : decode cX5_beats 154 = .ok (.iconst 1, 1) := by decide +kernel
theorem dX5_beats_155 : decode cX5_beats 155 = .ok (.goto 4, 3) := by decide +kernel
theorem dX5_beats_158 : decode cX5_beats 158 = .ok (.iconst 0, 1) := by decide +kernel
theorem dX5_beats_159 : decode cX5_beats 159 = .ok (.bastore, 1) := by decide +kernel
theorem dX5_beats_160 : decode cX5_beats 160 = .ok (.iinc 3 1, 3) := by decide +kernel
theorem dX5_beats_163 : decode cX5_beats 163 = .ok (.goto (-23), 3) := by decide +kernel
theorem dX5_beats_166 : decode cX5_beats 166 = .ok (.iconst 0, 1) := by decide +kernel
theorem dX5_beats_167 : decode cX5_beats 167 = .ok (.istore_n 3, 1) := by decide +kernel
theorem dX5_beats_168 : decode cX5_beats 168 = .ok (.iload_n 3, 1) := by decide +kernel
theorem dX5_beats_169 : decode cX5_beats 169 = .ok (.iload_n 2, 1) := by decide +kernel
theorem dX5_beats_170 : decode cX5_beats 170 = .ok (.if_icmp .ge 194, 3) := by decide +kernel
theorem dX5_beats_173 : decode cX5_beats 173 = .ok (.aload_n 0, 1) := by decide +kernel
theorem dX5_beats_174 : decode cX5_beats 174 = .ok (.getfield 48, 3) := by decide +kernel
theorem dX5_beats_177 : decode cX5_beats 177 = .ok (.iload_n 3, 1) := by decide +kernel
theorem dX5_beats_178 : decode cX5_beats 178 = .ok (.baload, 1) := by decide +kernel
theorem dX5_beats_179 : decode cX5_beats 179 = .ok (.ifCond .eq 179, 3) := by decide +kernel
theorem dX5_beats_182 : decode cX5_beats 182 = .ok (.aload_n 0, 1) := by decide +kernel
theorem dX5_beats_183 : decode cX5_beats 183 = .ok (.iload_n 3, 1) := by decide +kernel
theorem dX5_beats_184 : decode cX5_beats 184 = .ok (.invokevirtual 146, 3) := by decide +kernel
theorem dX5_beats_187 : decode cX5_beats 187 = .ok (.iconst 0, 1) := by decide +kernel
theorem dX5_beats_188 : decode cX5_beats 188 = .ok (.istore 4, 2) := by decide +kernel
theorem dX5_beats_190 : decode cX5_beats 190 = .ok (.iload 4, 2) := by decide +kernel
theorem dX5_beats_192 : decode cX5_beats 192 = .ok (.aload_n 0, 1) := by decide +kernel
theorem dX5_beats_193 : decode cX5_beats 193 = .ok (.getfield 52, 3) := by decide +kernel
theorem dX5_beats_196 : decode cX5_beats 196 = .ok (.if_icmp .ge 162, 3) := by decide +kernel
theorem dX5_beats_199 : decode cX5_beats 199 = .ok (.aload_n 0, 1) := by decide +kernel
theorem dX5_beats_200 : decode cX5_beats 200 = .ok (.getfield 45, 3) := by decide +kernel
theorem dX5_beats_203 : decode cX5_beats 203 = .ok (.iload 4, 2) := by decide +kernel
theorem dX5_beats_205 : decode cX5_beats 205 = .ok (.iaload, 1) := by decide +kernel
theorem dX5_beats_206 : decode cX5_beats 206 = .ok (.aload_n 0, 1) := by decide +kernel
theorem dX5_beats_207 : decode cX5_beats 207 = .ok (.getfield 56, 3) := by decide +kernel
theorem dX5_beats_210 : decode cX5_beats 210 = .ok (.if_icmp .ge 142, 3) := by decide +kernel
theorem dX5_beats_213 : decode cX5_beats 213 = .ok (.aload_n 0, 1) := by decide +kernel
theorem dX5_beats_214 : decode cX5_beats 214 = .ok (.iload 4, 2) := by decide +kernel
theorem dX5_beats_216 : decode cX5_beats 216 = .ok (.aload_n 0, 1) := by decide +kernel
theorem dX5_beats_217 : decode cX5_beats 217 = .ok (.getfield 70, 3) := by decide +kernel
theorem dX5_beats_220 : decode cX5_beats 220 = .ok (.iconst 2, 1) := by decide +kernel
theorem dX5_beats_221 : decode cX5_beats 221 = .ok (.irem, 1) := by decide +kernel
theorem dX5_beats_222 : decode cX5_beats 222 = .ok (.invokevirtual 114, 3) := by decide +kernel
theorem dX5_beats_225 : decode cX5_beats 225 = .ok (.ifCond .eq 5, 3) := by decide +kernel
theorem dX5_beats_228 : decode cX5_beats 228 = .ok (.iconst 1, 1) := by decide +kernel
theorem dX5_beats_229 : decode cX5_beats 229 = .ok (.ireturn, 1) := by decide +kernel
theorem dX5_beats_230 : decode cX5_beats 230 = .ok (.aload_n 0, 1) := by decide +kernel
theorem dX5_beats_231 : decode cX5_beats 231 = .ok (.getfield 42, 3) := by decide +kernel
theorem dX5_beats_234 : decode cX5_beats 234 = .ok (.bipush 7, 2) := by decide +kernel
theorem dX5_beats_236 : decode cX5_beats 236 = .ok (.iload 4, 2) := by decide +kernel
theorem dX5_beats_238 : decode cX5_beats 238 = .ok (.imul, 1) := by decide +kernel
theorem dX5_beats_239 : decode cX5_beats 239 = .ok (.aload_n 0, 1) := by decide +kernel
theorem dX5_beats_240 : decode cX5_beats 240 = .ok (.getfield 45, 3) := by decide +kernel
theorem dX5_beats_243 : decode cX5_beats 243 = .ok (.iload 4, 2) := by decide +kernel
theorem dX5_beats_245 : decode cX5_beats 245 = .ok (.iaload, 1) := by decide +kernel
theorem dX5_beats_246 : decode cX5_beats 246 = .ok (.iadd, 1) := by decide +kernel
theorem dX5_beats_247 : decode cX5_beats 247 = .ok (.aload_n 0, 1) := by decide +kernel
theorem dX5_beats_248 : decode cX5_beats 248 = .ok (.getfield 70, 3) := by decide +kernel
theorem dX5_beats_251 : decode cX5_beats 251 = .ok (.iconst 2, 1) := by decide +kernel
theorem dX5_beats_252 : decode cX5_beats 252 = .ok (.irem, 1) := by decide +kernel
theorem dX5_beats_253 : decode cX5_beats 253 = .ok (.iastore, 1) := by decide +kernel
theorem dX5_beats_254 : decode cX5_beats 254 = .ok (.aload_n 0, 1) := by decide +kernel
theorem dX5_beats_255 : decode cX5_beats 255 = .ok (.getfield 45, 3) := by decide +kernel
theorem dX5_beats_258 : decode cX5_beats 258 = .ok (.iload 4, 2) := by decide +kernel
theorem dX5_beats_260 : decode cX5_beats 260 = .ok (.dup2, 1) := by decide +kernel
theorem dX5_beats_261 : decode cX5_beats 261 = .ok (.iaload, 1) := by decide +kernel
theorem dX5_beats_262 : decode cX5_beats 262 = .ok (.iconst 1, 1) := by decide +kernel
theorem dX5_beats_263 : decode cX5_beats 263 = .ok (.iadd, 1) := by decide +kernel
theorem dX5_beats_264 : decode cX5_beats 264 = .ok (.iastore, 1) := by decide +kernel
theorem dX5_beats_265 : decode cX5_beats 265 = .ok (.aload_n 0, 1) := by decide +kernel
theorem dX5_beats_266 : decode cX5_beats 266 = .ok (.iload 4, 2) := by decide +kernel
theorem dX5_beats_268 : decode cX5_beats 268 = .ok (.iconst 1, 1) := by decide +kernel
theorem dX5_beats_269 : decode cX5_beats 269 = .ok (.aload_n 0, 1) := by decide +kernel
theorem dX5_beats_270 : decode cX5_beats 270 = .ok (.getfield 70, 3) := by decide +kernel
theorem dX5_beats_273 : decode cX5_beats 273 = .ok (.iconst 2, 1) := by decide +kernel
theorem dX5_beats_274 : decode cX5_beats 274 = .ok (.irem, 1) := by decide +kernel
theorem dX5_beats_275 : decode cX5_beats 275 = .ok (.isub, 1) := by decide +kernel
theorem dX5_beats_276 : decode cX5_beats 276 = .ok (.invokevirtual 114, 3) := by decide +kernel
theorem dX5_beats_279 : decode cX5_beats 279 = .ok (.istore 5, 2) := by decide +kernel
theorem dX5_beats_281 : decode cX5_beats 281 = .ok (.aload_n 0, 1) := by decide +kernel
theorem dX5_beats_282 : decode cX5_beats 282 = .ok (.getfield 45, 3) := by decide +kernel
theorem dX5_beats_285 : decode cX5_beats 285 = .ok (.iload 4, 2) := by decide +kernel
theorem dX5_beats_287 : decode cX5_beats 287 = .ok (.dup2, 1) := by decide +kernel
theorem dX5_beats_288 : decode cX5_beats 288 = .ok (.iaload, 1) := by decide +kernel
theorem dX5_beats_289 : decode cX5_beats 289 = .ok (.iconst 1, 1) := by decide +kernel
theorem dX5_beats_290 : decode cX5_beats 290 = .ok (.isub, 1) := by decide +kernel
theorem dX5_beats_291 : decode cX5_beats 291 = .ok (.iastore, 1) := by decide +kernel
theorem dX5_beats_292 : decode cX5_beats 292 = .ok (.aload_n 0, 1) := by decide +kernel
theorem dX5_beats_293 : decode cX5_beats 293 = .ok (.getfield 42, 3) := by decide +kernel
theorem dX5_beats_296 : decode cX5_beats 296 = .ok (.bipush 7, 2) := by decide +kernel
theorem dX5_beats_298 : decode cX5_beats 298 = .ok (.iload 4, 2) := by decide +kernel
theorem dX5_beats_300 : decode cX5_beats 300 = .ok (.imul, 1) := by decide +kernel
theorem dX5_beats_301 : decode cX5_beats 301 = .ok (.aload_n 0, 1) := by decide +kernel
theorem dX5_beats_302 : decode cX5_beats 302 = .ok (.getfield 45, 3) := by decide +kernel
theorem dX5_beats_305 : decode cX5_beats 305 = .ok (.iload 4, 2) := by decide +kernel
theorem dX5_beats_307 : decode cX5_beats 307 = .ok (.iaload, 1) := by decide +kernel
theorem dX5_beats_308 : decode cX5_beats 308 = .ok (.iadd, 1) := by decide +kernel
theorem dX5_beats_309 : decode cX5_beats 309 = .ok (.iconst (-1), 1) := by decide +kernel
theorem dX5_beats_310 : decode cX5_beats 310 = .ok (.iastore, 1) := by decide +kernel
theorem dX5_beats_311 : decode cX5_beats 311 = .ok (.aload_n 0, 1) := by decide +kernel
theorem dX5_beats_312 : decode cX5_beats 312 = .ok (.getfield 48, 3) := by decide +kernel
theorem dX5_beats_315 : decode cX5_beats 315 = .ok (.iload_n 3, 1) := by decide +kernel
theorem dX5_beats_316 : decode cX5_beats 316 = .ok (.aload_n 0, 1) := by decide +kernel
theorem dX5_beats_317 : decode cX5_beats 317 = .ok (.getfield 36, 3) := by decide +kernel
theorem dX5_beats_320 : decode cX5_beats 320 = .ok (.iload 4, 2) := by decide +kernel
theorem dX5_beats_322 : decode cX5_beats 322 = .ok (.iaload, 1) := by decide +kernel
theorem dX5_beats_323 : decode cX5_beats 323 = .ok (.iadd, 1) := by decide +kernel
theorem dX5_beats_324 : decode cX5_beats 324 = .ok (.aload_n 0, 1) := by decide +kernel
theorem dX5_beats_325 : decode cX5_beats 325 = .ok (.getfield 48, 3) := by decide +kernel
theorem dX5_beats_328 : decode cX5_beats 328 = .ok (.iload_n 3, 1) := by decide +kernel
theorem dX5_beats_329 : decode cX5_beats 329 = .ok (.aload_n 0, 1) := by decide +kernel
theorem dX5_beats_330 : decode cX5_beats 330 = .ok (.getfield 36, 3) := by decide +kernel
theorem dX5_beats_333 : decode cX5_beats 333 = .ok (.iload 4, 2) := by decide +kernel
theorem dX5_beats_335 : decode cX5_beats 335 = .ok (.iaload, 1) := by decide +kernel
theorem dX5_beats_336 : decode cX5_beats 336 = .ok (.iadd, 1) := by decide +kernel
theorem dX5_beats_337 : decode cX5_beats 337 = .ok (.baload, 1) := by decide +kernel
theorem dX5_beats_338 : decode cX5_beats 338 = .ok (.ifCond .ne 8, 3) := by decide +kernel
theorem dX5_beats_341 : decode cX5_beats 341 = .ok (.iload 5, 2) := by decide +kernel
theorem dX5_beats_343 : decode cX5_beats 343 = .ok (.ifCond .ne 7, 3) := by decide +kernel
theorem dX5_beats_346 : decode cX5_beats 346 = .ok (.iconst 1, 1) := by decide +kernel
theorem dX5_beats_347 : decode cX5_beats 347 = .ok (.goto 4, 3) := by decide +kernel
theorem dX5_beats_350 : decode cX5_beats 350 = .ok (.iconst 0, 1) := by decide +kernel
theorem dX5_beats_351 : decode cX5_beats 351 = .ok (.bastore, 1) := by decide +kernel
theorem dX5_beats_352 : decode cX5_beats 352 = .ok (.iinc 4 1, 3) := by decide +kernel
theorem dX5_beats_355 : decode cX5_beats 355 = .ok (.goto (-165), 3) := by decide +kernel
theorem dX5_beats_358 : decode cX5_beats 358 = .ok (.iinc 3 1, 3) := by decide +kernel
theorem dX5_beats_361 : decode cX5_beats 361 = .ok (.goto (-193), 3) := by decide +kernel
theorem dX5_beats_364 : decode cX5_beats 364 = .ok (.iconst 0, 1) := by decide +kernel
theorem dX5_beats_365 : decode cX5_beats 365 = .ok (.ireturn, 1) := by decide +kernel
end
section
-- ===== rows of our own: nest links, read-only contracts, rows over naturals =====
/-- the classes of the worlds (as printed) -/
abbrev vwCl : List vw_C := [(RX0, TX0, 1), (RX1, TX1, 6), (RX2, TX2, 3), (RX3, TX3, 3), (RX4, TX4, 7), (RX5, TX5, 19)]
/-- the links to members of nest mates that the class's methods use -/
def nwL : List Cond := [.fieldLinkNest RX0 13 RX1 "rows" "I" RX4, .fieldLinkNest RX0 23 RX1 "steps" "[I" RX4, .fieldLinkNest RX0 37 RX1 "columnSquares" "[J" RX4, .fieldLinkNest RX0 49 RX1 "floor" "J" RX4,
  .fieldLinkNest RX3 20 RX1 "columns" "I" RX4, .fieldLinkNest RX3 30 RX1 "columnSquares" "[J" RX4, .fieldLinkNest RX3 56 RX1 "floor" "J" RX4, .fieldLinkNest RX3 93 RX1 "squares" "J" RX4,
  .fieldLinkNest RX4 95 RX1 "rows" "I" RX4, .fieldLinkNest RX4 153 RX1 "columns" "I" RX4, .fieldLinkNest RX4 108 RX1 "squares" "J" RX4, .methodLinkNest RX4 140 yX3_score RX4, .methodLinkNest RX3 9 yX2_init RX4]
def NWa (U : State) : Prop := ∀ w ∈ nwL, va_Nw w U
theorem NWa.warm {s U : State} (hW : s.WarmedH U.vm) (h : NWa s) : NWa U := by
  intro w hw
  have h1 := h w hw
  simp only [nwL, List.mem_cons, List.not_mem_nil, or_false] at hw
  rcases hw with rfl | rfl | rfl | rfl | rfl | rfl | rfl | rfl | rfl | rfl | rfl | rfl | rfl
  all_goals first | exact va_Nw.warmF hW h1 | exact va_Nw.warmM hW h1
theorem NWa.same {s U : State} (e : s.vm = U.vm) (h : NWa s) : NWa U := by
  intro w hw
  have h1 := h w hw
  simp only [nwL, List.mem_cons, List.not_mem_nil, or_false] at hw
  rcases hw with rfl | rfl | rfl | rfl | rfl | rfl | rfl | rfl | rfl | rfl | rfl | rfl | rfl
  all_goals exact va_Nw.same rfl e h1
theorem NWa.at {U : State} (h : NWa U) (k : Nat) {w : Cond} (e : nwL[k]? = some w) : va_Nw w U := h w (List.mem_of_getElem? e)
theorem NWa.use {U : State} (h : NWa U) (k : Nat) {w : Cond} (e : nwL[k]? = some w) (hw : w.onTables = true) {A : Array Value} : w.before A U = true := va_Nw.use hw (h.at k e)
/-- the start of a read-only contract: the arguments, the cells, the tables -/
def RPc (D : va_G) (av : List Value) (wo : va_W) (tys : List (ClassId × FieldType)) : Array Value → State → Prop := fun v U => v = av.toArray ∧ va_P D vwCl wo U.heap ∧ va_K D vwCl tys U ∧ NWa U
theorem RPc.blind {D : va_G} {av : List Value} {wo : va_W} {tys : List (ClassId × FieldType)} : FrameBlind (RPc D av wo tys) := by
  intro a U g mk q
  obtain ⟨q0, qP, qK, qN⟩ := q
  exact ⟨q0, qP, va_K.moved (u := U) (U := U.calling g mk a) (Vm.Alike.refl U.vm) qK, NWa.same (s := U) (U := U.calling g mk a) rfl qN⟩
theorem RPc.at {D : va_G} {av : List Value} {wo : va_W} {tys : List (ClassId × FieldType)} {s : State} {H : Heap} (hP : va_P D vwCl wo H) (hK : va_K D vwCl tys s) (hN : NWa s) : ∀ U : State, U.heap = H → s.WarmedH U.vm → RPc D av wo tys av.toArray U :=
  fun U hU hW => ⟨rfl, by rw [hU]; exact hP, va_K.moved hW.alike hK, hN.warm hW⟩
theorem ro_head {l : Launch} {y : MethodName} {ws ws' : List Cond} {rm : Room} {D : va_G} {av : List Value} {wo : va_W} {tys : List (ClassId × FieldType)} {Qc : Array Value → State → Outcome → State → Prop} {cc : ByteArray} {maxL : Nat} {ret : Option FieldType} (hy : plainName y.cls = true) (hw : ws = Cond.code y cc maxL ret :: ws') (hn : (lg_sl av).length ≤ maxL)
    (body : ∀ (p : Program) (e : Env) (s : State) (m : MethodId) (below : List Frame) (meth : Method) (c : Code) (ls : Array Slot), p.tables.exec = Jvm.exec → c.code = cc → meth.sig.returnType = ret → meth.locks = false → (∀ w ∈ ws, w.before av.toArray s = true) → s.vm.findClass y.cls = some m.cls → c.maxLocals = maxL → va_P D vwCl wo s.heap → va_K D vwCl tys s → NWa s → lv_has ls maxL (lv_args 0 av) →
      W p l e rm s m av.toArray below meth c s.heap [] 0 0 (MQ below Qc av.toArray s 0 0 (fun _ => False)) (F0 m 0 ls [])) : Met l y ws rm (RPc D av wo tys) Qc 0 0 (fun _ => False) := by
  refine Met.ofW (cc := cc) (maxL := maxL) (ret := ret) hy hw ?_
  intro p e s m args below meth c s₁ B hml hv
  obtain ⟨rfl, hP, hK, hN⟩ := hv
  rw [lg_entry_eq]
  exact body p e s m below meth c _ B.exec B.bytes B.returns B.notSynchronized (atoms_spec (ws := ws) B.pre) (findClass_of_methodNamed B.named) hml hP hK hN (lv_entry av hn)
section RowsRO
variable {p : Program} {l : Launch} {e : Env} {R : Room} {s : State} {m : MethodId} {args : Array Value} {below : List Frame} {meth : Method} {c : Code} {H : Heap} {locs : List Loc} {cells slots : Nat} {Q : State → Prop}
variable {pc : Nat} {ls : Array Slot} {rest st0 : List Value} {cc : ByteArray} {free : Addr → Prop}
theorem ro_nil : ∀ q ∈ ([] : List Loc), free q.base := fun q h => by cases h
theorem ro_iret {v r : Int32} (hx : p.tables.exec = Jvm.exec) (hb : c.code = cc) (hr : meth.sig.returnType = some .int) (hlocks : meth.locks = false) (h : v = r) (hdg : decode cc pc = .ok (.ireturn, 1)) : W p l e R s m args below meth c s.heap [] 0 0 (MQ below (k2_QcV (.int r)) args s 0 0 free) (F0 m pc ls [.int v]) := by
  subst h
  exact W.iret hx hb hr (fun t ht _ => ⟨rfl, ht⟩) ro_nil hdg hlocks
theorem ro_zret {v r : Int32} (hx : p.tables.exec = Jvm.exec) (hb : c.code = cc) (hr : meth.sig.returnType = some .boolean) (hlocks : meth.locks = false) (hn : narrow .boolean (.int v) = .int v) (h : v = r) (hdg : decode cc pc = .ok (.ireturn, 1)) : W p l e R s m args below meth c s.heap [] 0 0 (MQ below (k2_QcV (.int r)) args s 0 0 free) (F0 m pc ls [.int v]) := by
  subst h
  exact W.zret hx hb hr hn (fun t ht _ => ⟨rfl, ht⟩) ro_nil hdg hlocks
theorem ro_lret {v r : Int64} (hx : p.tables.exec = Jvm.exec) (hb : c.code = cc) (hr : meth.sig.returnType = some .long) (hlocks : meth.locks = false) (h : v = r) (hdg : decode cc pc = .ok (.lreturn, 1)) : W p l e R s m args below meth c s.heap [] 0 0 (MQ below (k2_QcV (.long r)) args s 0 0 free) (F0 m pc ls [.long v]) := by
  subst h
  exact W.lret hx hb hr (fun t ht _ => ⟨rfl, ht⟩) ro_nil hdg hlocks
/-- a read-only call goes on with its answer, the heap as it was -/
theorem ro_call {r : Value} {a : Array Value} (hr : CallRun p l e R s m args below meth c H locs cells slots 0 0 (F0 m pc ls st0) rest (k2_QcV r a) (fun _ => False)) (kk : W p l e R s m args below meth c H locs cells slots Q (F0 m (pc + 3) ls (r :: rest))) : W p l e R s m args below meth c H locs cells slots Q (F0 m pc ls st0) := W.callV hr kk
theorem ro_run {r : Value} {a : Array Value} (h : va_Run p l e R s m args below meth c H locs cells slots 0 0 (F0 m pc ls st0) rest (k2_QcV r a) (fun _ => False)) : CallRun p l e R s m args below meth c H locs cells slots 0 0 (F0 m pc ls st0) rest (k2_QcV r a) (fun _ => False) := by
  intro T hT X
  obtain ⟨v, st₀, t, T', L, h0, X', hL, e1, -, hq, g⟩ := h T hT X
  exact ⟨v, st₀, t, T', L, h0, X', hL, e1, hq, g⟩
theorem rt_i {x v : Int32} (h : x = v) (k : W p l e R s m args below meth c H locs cells slots Q (F0 m pc ls (.int v :: rest))) : W p l e R s m args below meth c H locs cells slots Q (F0 m pc ls (.int x :: rest)) := h ▸ k
theorem rt_l {x v : Int64} (h : x = v) (k : W p l e R s m args below meth c H locs cells slots Q (F0 m pc ls (.long v :: rest))) : W p l e R s m args below meth c H locs cells slots Q (F0 m pc ls (.long x :: rest)) := h ▸ k
theorem n_iadd {a b : Nat} (hx : p.tables.exec = Jvm.exec) (hb : c.code = cc) (hdg : decode cc pc = .ok (.iadd, 1)) (k : W p l e R s m args below meth c H locs cells slots Q (F0 m (pc + 1) ls (.int (nI (a + b)) :: rest))) : W p l e R s m args below meth c H locs cells slots Q (F0 m pc ls (.int (nI b) :: .int (nI a) :: rest)) := lv_iadd hx hb hdg (rt_i (nI_add a b) k)
theorem n_isub {a b : Nat} (hx : p.tables.exec = Jvm.exec) (hb : c.code = cc) (hdg : decode cc pc = .ok (.isub, 1)) (h : b ≤ a) (k : W p l e R s m args below meth c H locs cells slots Q (F0 m (pc + 1) ls (.int (nI (a - b)) :: rest))) : W p l e R s m args below meth c H locs cells slots Q (F0 m pc ls (.int (nI b) :: .int (nI a) :: rest)) := lv_isub hx hb hdg (rt_i (pk_sub h) k)
theorem n_imul {a b : Nat} (hx : p.tables.exec = Jvm.exec) (hb : c.code = cc) (hdg : decode cc pc = .ok (.imul, 1)) (k : W p l e R s m args below meth c H locs cells slots Q (F0 m (pc + 1) ls (.int (nI (a * b)) :: rest))) : W p l e R s m args below meth c H locs cells slots Q (F0 m pc ls (.int (nI b) :: .int (nI a) :: rest)) := lv_imul hx hb hdg (rt_i (pk_mul a b) k)
theorem n_idiv {a b : Nat} (hx : p.tables.exec = Jvm.exec) (hb : c.code = cc) (hdg : decode cc pc = .ok (.idiv, 1)) (ha : a < 2 ^ 31) (h0 : 0 < b) (h1 : b < 2 ^ 31) (k : W p l e R s m args below meth c H locs cells slots Q (F0 m (pc + 1) ls (.int (nI (a / b)) :: rest))) : W p l e R s m args below meth c H locs cells slots Q (F0 m pc ls (.int (nI b) :: .int (nI a) :: rest)) := lv_idiv hx hb hdg (nI_ne0 h0 h1) (rt_i (pk_div ha h0 h1) k)
theorem n_irem {a b : Nat} (hx : p.tables.exec = Jvm.exec) (hb : c.code = cc) (hdg : decode cc pc = .ok (.irem, 1)) (ha : a < 2 ^ 31) (h0 : 0 < b) (h1 : b < 2 ^ 31) (k : W p l e R s m args below meth c H locs cells slots Q (F0 m (pc + 1) ls (.int (nI (a % b)) :: rest))) : W p l e R s m args below meth c H locs cells slots Q (F0 m pc ls (.int (nI b) :: .int (nI a) :: rest)) := lv_irem hx hb hdg (nI_ne0 h0 h1) (rt_i (pk_rem ha h0 h1) k)
theorem n_iinc {a i nL k n : Nat} {lv lv' : List (Nat × Value)} (hx : p.tables.exec = Jvm.exec) (hb : c.code = cc) (hdg : decode cc pc = .ok (.iinc i (n : Int), 3)) (h : lv_has ls nL lv) (hk : lv[k]? = some (i, .int (nI a))) (hn : i < nL) (hl : (i, Value.int (nI (a + n))) :: lv.filter (fun q => !(q.1 == i) && !(q.1 + 1 == i && q.2.category == 2)) = lv')
    (kk : ∀ ls' : Array Slot, lv_has ls' nL lv' → W p l e R s m args below meth c H locs cells slots Q (F0 m (pc + 3) ls' rest)) : W p l e R s m args below meth c H locs cells slots Q (F0 m pc ls rest) :=
  lv_iinc hx hb hdg h hk (v := nI (a + n)) (by rw [← nI_add]; congr 1) hn hl kk
theorem n_if_eq {a : Nat} {off : Int} {tgt : Nat} (hx : p.tables.exec = Jvm.exec) (hb : c.code = cc) (hdg : decode cc pc = .ok (.ifCond .eq off, 3)) (ht : (pc : Int) + off = (tgt : Int)) (ha : a < 2 ^ 31)
    (kt : a = 0 → W p l e R s m args below meth c H locs cells slots Q (F0 m tgt ls rest)) (kf : ¬ a = 0 → W p l e R s m args below meth c H locs cells slots Q (F0 m (pc + 3) ls rest)) : W p l e R s m args below meth c H locs cells slots Q (F0 m pc ls (.int (nI a) :: rest)) :=
  lv_if_eq hx hb hdg ht (fun h => kt ((nI_eq ha (by decide)).mp (h.trans nI_0.symm))) (fun h => kf (fun e0 => h (by rw [e0]; exact nI_0)))
theorem n_if_ne {a : Nat} {off : Int} {tgt : Nat} (hx : p.tables.exec = Jvm.exec) (hb : c.code = cc) (hdg : decode cc pc = .ok (.ifCond .ne off, 3)) (ht : (pc : Int) + off = (tgt : Int)) (ha : a < 2 ^ 31)
    (kt : ¬ a = 0 → W p l e R s m args below meth c H locs cells slots Q (F0 m tgt ls rest)) (kf : a = 0 → W p l e R s m args below meth c H locs cells slots Q (F0 m (pc + 3) ls rest)) : W p l e R s m args below meth c H locs cells slots Q (F0 m pc ls (.int (nI a) :: rest)) :=
  lv_if_ne hx hb hdg ht (fun h => kt (fun e0 => h (by rw [e0]; exact nI_0))) (fun h => kf ((nI_eq ha (by decide)).mp (h.trans nI_0.symm)))
theorem n_if_le {a : Nat} {off : Int} {tgt : Nat} (hx : p.tables.exec = Jvm.exec) (hb : c.code = cc) (hdg : decode cc pc = .ok (.ifCond .le off, 3)) (ht : (pc : Int) + off = (tgt : Int)) (ha : a < 2 ^ 31)
    (kt : a = 0 → W p l e R s m args below meth c H locs cells slots Q (F0 m tgt ls rest)) (kf : 0 < a → W p l e R s m args below meth c H locs cells slots Q (F0 m (pc + 3) ls rest)) : W p l e R s m args below meth c H locs cells slots Q (F0 m pc ls (.int (nI a) :: rest)) :=
  lv_if_le hx hb hdg ht (fun h => kt (by have := (nI_leI ha (b := 0) (by decide)).mp (by rw [nI_0]; exact h); omega)) (fun h => kf (by
    rcases Nat.eq_zero_or_pos a with q | q
    · exact absurd (by rw [q, nI_0]; exact Int32.le_refl 0) h
    · exact q))
theorem n_icmp_ge {a b : Nat} {off : Int} {tgt : Nat} (hx : p.tables.exec = Jvm.exec) (hb : c.code = cc) (hdg : decode cc pc = .ok (.if_icmp .ge off, 3)) (ht : (pc : Int) + off = (tgt : Int)) (ha : a < 2 ^ 31) (h2 : b < 2 ^ 31)
    (kt : b ≤ a → W p l e R s m args below meth c H locs cells slots Q (F0 m tgt ls rest)) (kf : a < b → W p l e R s m args below meth c H locs cells slots Q (F0 m (pc + 3) ls rest)) : W p l e R s m args below meth c H locs cells slots Q (F0 m pc ls (.int (nI b) :: .int (nI a) :: rest)) :=
  lv_icmp_ge hx hb hdg ht (fun h => kt ((nI_leI h2 ha).mp h)) (fun h => kf (Nat.not_le.mp fun q => h ((nI_leI h2 ha).mpr q)))
theorem n_icmp_lt {a b : Nat} {off : Int} {tgt : Nat} (hx : p.tables.exec = Jvm.exec) (hb : c.code = cc) (hdg : decode cc pc = .ok (.if_icmp .lt off, 3)) (ht : (pc : Int) + off = (tgt : Int)) (ha : a < 2 ^ 31) (h2 : b < 2 ^ 31)
    (kt : a < b → W p l e R s m args below meth c H locs cells slots Q (F0 m tgt ls rest)) (kf : b ≤ a → W p l e R s m args below meth c H locs cells slots Q (F0 m (pc + 3) ls rest)) : W p l e R s m args below meth c H locs cells slots Q (F0 m pc ls (.int (nI b) :: .int (nI a) :: rest)) :=
  lv_icmp_lt hx hb hdg ht (fun h => kt ((nI_ltI ha h2).mp h)) (fun h => kf (Nat.not_lt.mp fun q => h ((nI_ltI ha h2).mpr q)))
theorem n_icmp_gt {a b : Nat} {off : Int} {tgt : Nat} (hx : p.tables.exec = Jvm.exec) (hb : c.code = cc) (hdg : decode cc pc = .ok (.if_icmp .gt off, 3)) (ht : (pc : Int) + off = (tgt : Int)) (ha : a < 2 ^ 31) (h2 : b < 2 ^ 31)
    (kt : b < a → W p l e R s m args below meth c H locs cells slots Q (F0 m tgt ls rest)) (kf : a ≤ b → W p l e R s m args below meth c H locs cells slots Q (F0 m (pc + 3) ls rest)) : W p l e R s m args below meth c H locs cells slots Q (F0 m pc ls (.int (nI b) :: .int (nI a) :: rest)) :=
  lv_icmp_gt hx hb hdg ht (fun h => kt ((nI_ltI h2 ha).mp h)) (fun h => kf (Nat.not_lt.mp fun q => h ((nI_ltI h2 ha).mpr q)))
theorem n_icmp_le {a b : Nat} {off : Int} {tgt : Nat} (hx : p.tables.exec = Jvm.exec) (hb : c.code = cc) (hdg : decode cc pc = .ok (.if_icmp .le off, 3)) (ht : (pc : Int) + off = (tgt : Int)) (ha : a < 2 ^ 31) (h2 : b < 2 ^ 31)
    (kt : a ≤ b → W p l e R s m args below meth c H locs cells slots Q (F0 m tgt ls rest)) (kf : b < a → W p l e R s m args below meth c H locs cells slots Q (F0 m (pc + 3) ls rest)) : W p l e R s m args below meth c H locs cells slots Q (F0 m pc ls (.int (nI b) :: .int (nI a) :: rest)) :=
  lv_icmp_le hx hb hdg ht (fun h => kt ((nI_leI ha h2).mp h)) (fun h => kf (Nat.not_le.mp fun q => h ((nI_leI ha h2).mpr q)))
theorem n_icmp_eq {a b : Nat} {off : Int} {tgt : Nat} (hx : p.tables.exec = Jvm.exec) (hb : c.code = cc) (hdg : decode cc pc = .ok (.if_icmp .eq off, 3)) (ht : (pc : Int) + off = (tgt : Int)) (ha : a < 2 ^ 31) (h2 : b < 2 ^ 31)
    (kt : a = b → W p l e R s m args below meth c H locs cells slots Q (F0 m tgt ls rest)) (kf : ¬ a = b → W p l e R s m args below meth c H locs cells slots Q (F0 m (pc + 3) ls rest)) : W p l e R s m args below meth c H locs cells slots Q (F0 m pc ls (.int (nI b) :: .int (nI a) :: rest)) :=
  lv_icmp_eq hx hb hdg ht (fun h => kt ((nI_eq ha h2).mp (by first | exact h | exact h.symm))) (fun h => kf (fun q => h (by first | exact (nI_eq ha h2).mpr q | exact ((nI_eq ha h2).mpr q).symm)))
theorem n_icmp_ne {a b : Nat} {off : Int} {tgt : Nat} (hx : p.tables.exec = Jvm.exec) (hb : c.code = cc) (hdg : decode cc pc = .ok (.if_icmp .ne off, 3)) (ht : (pc : Int) + off = (tgt : Int)) (ha : a < 2 ^ 31) (h2 : b < 2 ^ 31)
    (kt : ¬ a = b → W p l e R s m args below meth c H locs cells slots Q (F0 m tgt ls rest)) (kf : a = b → W p l e R s m args below meth c H locs cells slots Q (F0 m (pc + 3) ls rest)) : W p l e R s m args below meth c H locs cells slots Q (F0 m pc ls (.int (nI b) :: .int (nI a) :: rest)) :=
  lv_icmp_ne hx hb hdg ht (fun h => kt (fun q => h (by first | exact (nI_eq ha h2).mpr q | exact ((nI_eq ha h2).mpr q).symm))) (fun h => kf ((nI_eq ha h2).mp (by first | exact h | exact h.symm)))
variable {D : va_G} {cl : List vw_C} {ws : va_W} {tys : List (ClassId × FieldType)} {A : Nat → Prop} {H0 : Heap} {a : Nat}
theorem n_iald (hx : p.tables.exec = Jvm.exec) (hb : c.code = cc) (hK : va_K D cl tys s) (hP : va_P D cl ws H) (q0 t0 : Nat) {cA : ClassId} {n : Nat} {f : Nat → Int32} (ha : ws[q0]? = some (a, .inl (cA, n, .inl f))) (ht : tys[t0]? = some (cA, .int)) {i : Nat} (hi : i < n) (hn : n < 2 ^ 31) (hdg : decode cc pc = .ok (.iaload, 1))
    (kk : W p l e R s m args below meth c H locs cells slots Q (F0 m (pc + 1) ls (.int (f i) :: rest))) : W p l e R s m args below meth c H locs cells slots Q (F0 m pc ls (.int (nI i) :: .ref a :: rest)) :=
  va_iald hx hb hK hP q0 t0 ha ht (vp_in_nI hi hn) hdg (rt_i (by rw [nI_clamp (Nat.lt_trans hi hn)]) kk)
theorem n_lald (hx : p.tables.exec = Jvm.exec) (hb : c.code = cc) (hK : va_K D cl tys s) (hP : va_P D cl ws H) (q0 t0 : Nat) {cA : ClassId} {n : Nat} {f : Nat → Int64} (ha : ws[q0]? = some (a, .inl (cA, n, .inr (.inl f)))) (ht : tys[t0]? = some (cA, .long)) {i : Nat} (hi : i < n) (hn : n < 2 ^ 31) (hdg : decode cc pc = .ok (.laload, 1))
    (kk : W p l e R s m args below meth c H locs cells slots Q (F0 m (pc + 1) ls (.long (f i) :: rest))) : W p l e R s m args below meth c H locs cells slots Q (F0 m pc ls (.int (nI i) :: .ref a :: rest)) :=
  va_lald hx hb hK hP q0 t0 ha ht (vp_in_nI hi hn) hdg (rt_l (by rw [nI_clamp (Nat.lt_trans hi hn)]) kk)
theorem n_zald (hx : p.tables.exec = Jvm.exec) (hb : c.code = cc) (hK : va_K D cl tys s) (hP : va_P D cl ws H) (q0 t0 : Nat) {cA : ClassId} {n : Nat} {f : Nat → Int32} (ha : ws[q0]? = some (a, .inl (cA, n, .inl f))) (ht : tys[t0]? = some (cA, .boolean)) {i : Nat} (hi : i < n) (hn : n < 2 ^ 31) (hdg : decode cc pc = .ok (.baload, 1))
    (kk : W p l e R s m args below meth c H locs cells slots Q (F0 m (pc + 1) ls (.int (f i) :: rest))) : W p l e R s m args below meth c H locs cells slots Q (F0 m pc ls (.int (nI i) :: .ref a :: rest)) :=
  va_zald hx hb hK hP q0 t0 ha ht (vp_in_nI hi hn) hdg (rt_i (by rw [nI_clamp (Nat.lt_trans hi hn)]) kk)
theorem n_updN (g : Nat → Nat) (i v : Nat) : upd (fun j => nI (g j)) i (nI v) = fun j => nI (va_up g i v j) := by
  funext j
  by_cases h : j = i
  · subst h; rw [pk_us, va_up_self]
  · rw [pk_un h, va_up_ne _ _ h]
/-- a store into an array of naturals -/
theorem n_iast (hx : p.tables.exec = Jvm.exec) (hb : c.code = cc) (hK : va_K D cl tys s) (hP : va_P D cl ws H) (hD : va_D A ws) (hS : va_S A H0 H locs) (q0 t0 : Nat) {cA : ClassId} {n : Nat} {g : Nat → Nat} (ha : ws[q0]? = some (a, .inl (cA, n, .inl (fun j => nI (g j))))) (ht : tys[t0]? = some (cA, .int)) {i v : Nat} (hi : i < n) (hn : n < 2 ^ 31) (hdg : decode cc pc = .ok (.iastore, 1))
    (kk : ∀ (H1 : Heap) (locs1 : List Loc), va_P D cl (ws.set q0 (a, .inl (cA, n, .inl (fun j => nI (va_up g i v j))))) H1 → va_D A (ws.set q0 (a, .inl (cA, n, .inl (fun j => nI (va_up g i v j))))) → va_S A H0 H1 locs1 → W p l e R s m args below meth c H1 locs1 cells slots Q (F0 m (pc + 1) ls rest)) : W p l e R s m args below meth c H locs cells slots Q (F0 m pc ls (.int (nI v) :: .int (nI i) :: .ref a :: rest)) := by
  refine va_iast hx hb hK hP hD hS q0 t0 ha ht (vp_in_nI hi hn) hdg (fun H1 locs1 h1 h2 h3 => ?_)
  rw [nI_clamp (Nat.lt_trans hi hn), n_updN] at h1 h2
  exact kk H1 locs1 h1 h2 h3
/-- a store into an array of ints -/
theorem n_iastR (hx : p.tables.exec = Jvm.exec) (hb : c.code = cc) (hK : va_K D cl tys s) (hP : va_P D cl ws H) (hD : va_D A ws) (hS : va_S A H0 H locs) (q0 t0 : Nat) {cA : ClassId} {n : Nat} {f : Nat → Int32} (ha : ws[q0]? = some (a, .inl (cA, n, .inl f))) (ht : tys[t0]? = some (cA, .int)) {i : Nat} {x : Int32} (hi : i < n) (hn : n < 2 ^ 31) (hdg : decode cc pc = .ok (.iastore, 1))
    (kk : ∀ (H1 : Heap) (locs1 : List Loc), va_P D cl (ws.set q0 (a, .inl (cA, n, .inl (upd f i x)))) H1 → va_D A (ws.set q0 (a, .inl (cA, n, .inl (upd f i x)))) → va_S A H0 H1 locs1 → W p l e R s m args below meth c H1 locs1 cells slots Q (F0 m (pc + 1) ls rest)) : W p l e R s m args below meth c H locs cells slots Q (F0 m pc ls (.int x :: .int (nI i) :: .ref a :: rest)) := by
  refine va_iast hx hb hK hP hD hS q0 t0 ha ht (vp_in_nI hi hn) hdg (fun H1 locs1 h1 h2 h3 => ?_)
  rw [nI_clamp (Nat.lt_trans hi hn)] at h1 h2
  exact kk H1 locs1 h1 h2 h3
theorem n_lastR (hx : p.tables.exec = Jvm.exec) (hb : c.code = cc) (hK : va_K D cl tys s) (hP : va_P D cl ws H) (hD : va_D A ws) (hS : va_S A H0 H locs) (q0 t0 : Nat) {cA : ClassId} {n : Nat} {f : Nat → Int64} (ha : ws[q0]? = some (a, .inl (cA, n, .inr (.inl f)))) (ht : tys[t0]? = some (cA, .long)) {i : Nat} {x : Int64} (hi : i < n) (hn : n < 2 ^ 31) (hdg : decode cc pc = .ok (.lastore, 1))
    (kk : ∀ (H1 : Heap) (locs1 : List Loc), va_P D cl (ws.set q0 (a, .inl (cA, n, .inr (.inl (vp_updL f i x))))) H1 → va_D A (ws.set q0 (a, .inl (cA, n, .inr (.inl (vp_updL f i x))))) → va_S A H0 H1 locs1 → W p l e R s m args below meth c H1 locs1 cells slots Q (F0 m (pc + 1) ls rest)) : W p l e R s m args below meth c H locs cells slots Q (F0 m pc ls (.long x :: .int (nI i) :: .ref a :: rest)) := by
  refine va_last hx hb hK hP hD hS q0 t0 ha ht (vp_in_nI hi hn) hdg (fun H1 locs1 h1 h2 h3 => ?_)
  rw [nI_clamp (Nat.lt_trans hi hn)] at h1 h2
  exact kk H1 locs1 h1 h2 h3
end RowsRO
/-- a truth value as the machine has it -/
def bI (b : Bool) : Int32 := if b then 1 else 0
theorem bI_t : bI true = 1 := rfl
theorem bI_f : bI false = 0 := rfl
theorem bI_nar (b : Bool) : narrow .boolean (.int (bI b)) = .int (bI b) := by cases b <;> decide
theorem bI_eq0 (b : Bool) : bI b = 0 ↔ b = false := by cases b <;> decide
end
section
-- ===== more rows: shifts, long and truth-value tests, loops =====
def shlL (x : Int64) (k : Nat) : Int64 := x <<< ((nI k).toInt64 &&& 63)
def shrL (x : Int64) (k : Nat) : Int64 := (x.toUInt64 >>> ((nI k).toInt64.toUInt64 &&& Int64.toUInt64 63)).toInt64
section Rows2
variable {p : Program} {l : Launch} {e : Env} {R : Room} {s : State} {m : MethodId} {args : Array Value} {below : List Frame} {meth : Method} {c : Code} {H : Heap} {locs : List Loc} {cells slots : Nat} {Q : State → Prop}
variable {pc : Nat} {ls : Array Slot} {rest st0 : List Value} {cc : ByteArray}
theorem n_lshl {x : Int64} {k : Nat} (hx : p.tables.exec = Jvm.exec) (hb : c.code = cc) (hdg : decode cc pc = .ok (.lshl, 1)) (kk : W p l e R s m args below meth c H locs cells slots Q (F0 m (pc + 1) ls (.long (shlL x k) :: rest))) : W p l e R s m args below meth c H locs cells slots Q (F0 m pc ls (.int (nI k) :: .long x :: rest)) := lv_lshl hx hb hdg rfl kk
theorem n_lushr {x : Int64} {k : Nat} (hx : p.tables.exec = Jvm.exec) (hb : c.code = cc) (hdg : decode cc pc = .ok (.lushr, 1)) (kk : W p l e R s m args below meth c H locs cells slots Q (F0 m (pc + 1) ls (.long (shrL x k) :: rest))) : W p l e R s m args below meth c H locs cells slots Q (F0 m pc ls (.int (nI k) :: .long x :: rest)) := lv_lushr hx hb hdg rfl kk
theorem l_if_eq {x y : Int64} {off : Int} {tgt : Nat} (hx : p.tables.exec = Jvm.exec) (hb : c.code = cc) (hdg : decode cc pc = .ok (.ifCond .eq off, 3)) (ht : (pc : Int) + off = (tgt : Int))
    (kt : x = y → W p l e R s m args below meth c H locs cells slots Q (F0 m tgt ls rest)) (kf : ¬ x = y → W p l e R s m args below meth c H locs cells slots Q (F0 m (pc + 3) ls rest)) : W p l e R s m args below meth c H locs cells slots Q (F0 m pc ls (.int (lg_cmp x y) :: rest)) :=
  lv_if_eq hx hb hdg ht (fun h => kt ((lg_cmp_eq x y).mp h)) (fun h => kf (fun q => h ((lg_cmp_eq x y).mpr q)))
theorem l_if_ne {x y : Int64} {off : Int} {tgt : Nat} (hx : p.tables.exec = Jvm.exec) (hb : c.code = cc) (hdg : decode cc pc = .ok (.ifCond .ne off, 3)) (ht : (pc : Int) + off = (tgt : Int))
    (kt : ¬ x = y → W p l e R s m args below meth c H locs cells slots Q (F0 m tgt ls rest)) (kf : x = y → W p l e R s m args below meth c H locs cells slots Q (F0 m (pc + 3) ls rest)) : W p l e R s m args below meth c H locs cells slots Q (F0 m pc ls (.int (lg_cmp x y) :: rest)) :=
  lv_if_ne hx hb hdg ht (fun h => kt (fun q => h ((lg_cmp_eq x y).mpr q))) (fun h => kf ((lg_cmp_eq x y).mp h))
theorem b_if_eq {b : Bool} {off : Int} {tgt : Nat} (hx : p.tables.exec = Jvm.exec) (hb : c.code = cc) (hdg : decode cc pc = .ok (.ifCond .eq off, 3)) (ht : (pc : Int) + off = (tgt : Int))
    (kt : b = false → W p l e R s m args below meth c H locs cells slots Q (F0 m tgt ls rest)) (kf : b = true → W p l e R s m args below meth c H locs cells slots Q (F0 m (pc + 3) ls rest)) : W p l e R s m args below meth c H locs cells slots Q (F0 m pc ls (.int (bI b) :: rest)) :=
  lv_if_eq hx hb hdg ht (fun h => kt ((bI_eq0 b).mp h)) (fun h => kf (by cases b; exact absurd ((bI_eq0 false).mpr rfl) h; rfl))
theorem b_if_ne {b : Bool} {off : Int} {tgt : Nat} (hx : p.tables.exec = Jvm.exec) (hb : c.code = cc) (hdg : decode cc pc = .ok (.ifCond .ne off, 3)) (ht : (pc : Int) + off = (tgt : Int))
    (kt : b = true → W p l e R s m args below meth c H locs cells slots Q (F0 m tgt ls rest)) (kf : b = false → W p l e R s m args below meth c H locs cells slots Q (F0 m (pc + 3) ls rest)) : W p l e R s m args below meth c H locs cells slots Q (F0 m pc ls (.int (bI b) :: rest)) :=
  lv_if_ne hx hb hdg ht (fun h => kt (by cases b; exact absurd ((bI_eq0 false).mpr rfl) h; rfl)) (fun h => kf ((bI_eq0 b).mp h))
theorem rt_ldc {own : String} {index : Nat} {v w : Int32} (hx : p.tables.exec = Jvm.exec) (hb : c.code = cc) (hown : s.vm.findClass own = some m.cls) (hconst : (Jvm.Cond.constant own index w).before args s = true) (hv : w = v) (hdg : decode cc pc = .ok (.ldc index, 2)) (k : W p l e R s m args below meth c H locs cells slots Q (F0 m (pc + 2) ls (.int v :: rest))) : W p l e R s m args below meth c H locs cells slots Q (F0 m pc ls rest) := lv_ldc hx hb hown hconst hdg (by rw [hv]; exact k)
end Rows2
/-- a counted loop: at its head with i < N a round leads to the head with i + 1; with N it goes on behind -/
theorem loopW {σ : Type} {m : MethodId} {Wf : JFrame → Prop} (head nL : Nat) (lvf : Nat → σ → List (Nat × Value)) (Inv : Nat → σ → Prop) (N : Nat)
    (step : ∀ (i : Nat) (x : σ) (ls : Array Slot), i < N → Inv i x → lv_has ls nL (lvf i x) → (∀ (x' : σ) (ls' : Array Slot), Inv (i + 1) x' → lv_has ls' nL (lvf (i + 1) x') → Wf (F0 m head ls' [])) → Wf (F0 m head ls []))
    (exit : ∀ (x : σ) (ls : Array Slot), Inv N x → lv_has ls nL (lvf N x) → Wf (F0 m head ls [])) :
    ∀ (i : Nat) (x : σ) (ls : Array Slot), i ≤ N → Inv i x → lv_has ls nL (lvf i x) → Wf (F0 m head ls []) := by
  have key : ∀ (n i : Nat) (x : σ) (ls : Array Slot), N - i = n → i ≤ N → Inv i x → lv_has ls nL (lvf i x) → Wf (F0 m head ls []) := by
    intro n
    induction n with
    | zero =>
      intro i x ls h1 h2 hI hl
      obtain rfl : i = N := by omega
      exact exit x ls hI hl
    | succ n ih =>
      intro i x ls h1 h2 hI hl
      exact step i x ls (by omega) hI hl (fun x' ls' hI' hl' => ih (i + 1) x' ls' (by omega) (by omega) hI' hl')
  exact fun i x ls h hI hl => key _ i x ls rfl h hI hl
/-- a loop by a measure that falls -/
theorem loopM {σ : Type} {m : MethodId} {Wf : JFrame → Prop} (head nL : Nat) (lvf : σ → List (Nat × Value)) (Inv : σ → Prop) (μ : σ → Nat)
    (step : ∀ (x : σ) (ls : Array Slot), Inv x → lv_has ls nL (lvf x) → (∀ (x' : σ) (ls' : Array Slot), Inv x' → μ x' < μ x → lv_has ls' nL (lvf x') → Wf (F0 m head ls' [])) → Wf (F0 m head ls [])) :
    ∀ (x : σ) (ls : Array Slot), Inv x → lv_has ls nL (lvf x) → Wf (F0 m head ls []) := by
  have key : ∀ (n : Nat) (x : σ) (ls : Array Slot), μ x < n → Inv x → lv_has ls nL (lvf x) → Wf (F0 m head ls []) := by
    intro n
    induction n with
    | zero => intro x ls h; exact absurd h (Nat.not_lt_zero _)
    | succ n ih => exact fun x ls h hI hl => step x ls hI hl (fun x' ls' hI' h' hl' => ih x' ls' (by omega) hI' hl')
  exact fun x ls hI hl => key _ x ls (Nat.lt_succ_self _) hI hl
-- ===== the grid: its cells, what its methods answer =====
def stp (h j : Nat) : Nat := if j = 0 then 1 else if j = 1 then h else if j = 2 then h + 1 else h + 2
def sqL (h c r : Nat) : Int64 := shlL 1 (c * (h + 1) + r)
def colL (h c : Nat) : Int64 := shlL (shlL 1 (c * (h + 1))) h - shlL 1 (c * (h + 1))
def flrL (h : Nat) : Nat → Int64
  | 0 => 0
  | n + 1 => flrL h n ||| shlL 1 (n * (h + 1))
def allL (h : Nat) : Nat → Int64
  | 0 => 0
  | n + 1 => allL h n ||| colL h n
def lsL (x : Int64) (d : Nat) : Int64 := (x &&& shrL x d) &&& shrL (x &&& shrL x d) (2 * d)
def hlL (h : Nat) (x : Int64) : Bool := !(lsL x (stp h 0) == 0) || (!(lsL x (stp h 1) == 0) || (!(lsL x (stp h 2) == 0) || !(lsL x (stp h 3) == 0)))
def nxL (w h : Nat) (x : Int64) : Int64 := (x + flrL h w) &&& allL h w
def cpL (x : Int64) (d : Nat) : Int64 := ((shlL x d &&& shlL x (2 * d) &&& shlL x (3 * d)) ||| (shlL x d &&& shlL x (2 * d) &&& shrL x d)) ||| (shlL x d &&& (shrL x d &&& shrL x (2 * d))) ||| ((shrL x d &&& shrL x (2 * d)) &&& shrL x (3 * d))
def thL (w h : Nat) (x t : Int64) : Int64 := (((((0 ||| cpL x (stp h 0)) ||| cpL x (stp h 1)) ||| cpL x (stp h 2)) ||| cpL x (stp h 3)) &&& allL h w) &&& (t ^^^ (-1))
/-- the cells of a Grid -/
abbrev gW (cI cJ : ClassId) (w h g st cs : Nat) : va_W := [(g, .inr (1, [.int (nI w), .int (nI h), .long (allL h w), .long (flrL h w), .ref st, .ref cs])), (st, .inl (cI, 4, .inl (fun j => nI (stp h j)))), (cs, .inl (cJ, w, .inr (.inl (fun j => colL h j))))]
abbrev tyA (cI cJ cZ : ClassId) : List (ClassId × FieldType) := [(cI, .int), (cJ, .long), (cZ, .boolean)]
end
section
-- ===== signed numbers =====
def zI (z : Int) : Int32 := Int32.ofInt z
def zB (z : Int) : Prop := -1000000 ≤ z ∧ z ≤ 1000000
theorem zI_toInt {z : Int} (h : zB z) : (zI z).toInt = z := by
  obtain ⟨h1, h2⟩ := h
  exact Int32.toInt_ofInt_of_le (by omega) (by omega)
theorem zI_n (n : Nat) : zI (n : Int) = nI n := Int32.ofInt_eq_ofNat
theorem zI_add (a b : Int) : zI a + zI b = zI (a + b) := (Int32.ofInt_add a b).symm
theorem zI_sub (a b : Int) : zI a - zI b = zI (a - b) := (Int32.ofInt_sub a b).symm
theorem zI_neg (a : Int) : - zI a = zI (-a) := Int32.neg_ofInt
theorem zI_lt {a b : Int} (ha : zB a) (hb : zB b) : zI a < zI b ↔ a < b := by rw [Int32.lt_iff_toInt_lt, zI_toInt ha, zI_toInt hb]
theorem zI_le {a b : Int} (ha : zB a) (hb : zB b) : zI a ≤ zI b ↔ a ≤ b := by rw [Int32.le_iff_toInt_le, zI_toInt ha, zI_toInt hb]
theorem zI_eq {a b : Int} (ha : zB a) (hb : zB b) : zI a = zI b ↔ a = b := by rw [← Int32.toInt_inj, zI_toInt ha, zI_toInt hb]
theorem zI_max {a b : Int} (ha : zB a) (hb : zB b) : (if zI a < zI b then zI b else zI a) = zI (max a b) := by
  by_cases h : a < b
  · rw [if_pos ((zI_lt ha hb).mpr h), Int.max_eq_right (by omega)]
  · rw [if_neg (fun q => h ((zI_lt ha hb).mp q)), Int.max_eq_left (by omega)]
theorem zI_min {a b : Int} (ha : zB a) (hb : zB b) : (if zI b < zI a then zI b else zI a) = zI (min a b) := by
  by_cases h : b < a
  · rw [if_pos ((zI_lt hb ha).mpr h), Int.min_eq_right (by omega)]
  · rw [if_neg (fun q => h ((zI_lt hb ha).mp q)), Int.min_eq_left (by omega)]
section Rows3
variable {p : Program} {l : Launch} {e : Env} {R : Room} {s : State} {m : MethodId} {args : Array Value} {below : List Frame} {meth : Method} {c : Code} {H : Heap} {locs : List Loc} {cells slots : Nat} {Q : State → Prop}
variable {pc : Nat} {ls : Array Slot} {rest st0 : List Value} {cc : ByteArray}
theorem z_iadd {a b : Int} (hx : p.tables.exec = Jvm.exec) (hb : c.code = cc) (hdg : decode cc pc = .ok (.iadd, 1)) (k : W p l e R s m args below meth c H locs cells slots Q (F0 m (pc + 1) ls (.int (zI (a + b)) :: rest))) : W p l e R s m args below meth c H locs cells slots Q (F0 m pc ls (.int (zI b) :: .int (zI a) :: rest)) := lv_iadd hx hb hdg (rt_i (zI_add a b) k)
theorem z_isub {a b : Int} (hx : p.tables.exec = Jvm.exec) (hb : c.code = cc) (hdg : decode cc pc = .ok (.isub, 1)) (k : W p l e R s m args below meth c H locs cells slots Q (F0 m (pc + 1) ls (.int (zI (a - b)) :: rest))) : W p l e R s m args below meth c H locs cells slots Q (F0 m pc ls (.int (zI b) :: .int (zI a) :: rest)) := lv_isub hx hb hdg (rt_i (zI_sub a b) k)
theorem z_ineg {a : Int} (hx : p.tables.exec = Jvm.exec) (hb : c.code = cc) (hdg : decode cc pc = .ok (.ineg, 1)) (k : W p l e R s m args below meth c H locs cells slots Q (F0 m (pc + 1) ls (.int (zI (-a)) :: rest))) : W p l e R s m args below meth c H locs cells slots Q (F0 m pc ls (.int (zI a) :: rest)) := lv_ineg hx hb hdg (rt_i (zI_neg a) k)
theorem z_icmp_ge {a b : Int} {off : Int} {tgt : Nat} (hx : p.tables.exec = Jvm.exec) (hb : c.code = cc) (hdg : decode cc pc = .ok (.if_icmp .ge off, 3)) (ht : (pc : Int) + off = (tgt : Int)) (ha : zB a) (h2 : zB b)
    (kt : b ≤ a → W p l e R s m args below meth c H locs cells slots Q (F0 m tgt ls rest)) (kf : a < b → W p l e R s m args below meth c H locs cells slots Q (F0 m (pc + 3) ls rest)) : W p l e R s m args below meth c H locs cells slots Q (F0 m pc ls (.int (zI b) :: .int (zI a) :: rest)) :=
  lv_icmp_ge hx hb hdg ht (fun h => kt ((zI_le h2 ha).mp h)) (fun h => kf (Int.not_le.mp fun q => h ((zI_le h2 ha).mpr q)))
theorem z_icmp_lt {a b : Int} {off : Int} {tgt : Nat} (hx : p.tables.exec = Jvm.exec) (hb : c.code = cc) (hdg : decode cc pc = .ok (.if_icmp .lt off, 3)) (ht : (pc : Int) + off = (tgt : Int)) (ha : zB a) (h2 : zB b)
    (kt : a < b → W p l e R s m args below meth c H locs cells slots Q (F0 m tgt ls rest)) (kf : b ≤ a → W p l e R s m args below meth c H locs cells slots Q (F0 m (pc + 3) ls rest)) : W p l e R s m args below meth c H locs cells slots Q (F0 m pc ls (.int (zI b) :: .int (zI a) :: rest)) :=
  lv_icmp_lt hx hb hdg ht (fun h => kt ((zI_lt ha h2).mp h)) (fun h => kf (Int.not_lt.mp fun q => h ((zI_lt ha h2).mpr q)))
theorem z_icmp_gt {a b : Int} {off : Int} {tgt : Nat} (hx : p.tables.exec = Jvm.exec) (hb : c.code = cc) (hdg : decode cc pc = .ok (.if_icmp .gt off, 3)) (ht : (pc : Int) + off = (tgt : Int)) (ha : zB a) (h2 : zB b)
    (kt : b < a → W p l e R s m args below meth c H locs cells slots Q (F0 m tgt ls rest)) (kf : a ≤ b → W p l e R s m args below meth c H locs cells slots Q (F0 m (pc + 3) ls rest)) : W p l e R s m args below meth c H locs cells slots Q (F0 m pc ls (.int (zI b) :: .int (zI a) :: rest)) :=
  lv_icmp_gt hx hb hdg ht (fun h => kt ((zI_lt h2 ha).mp h)) (fun h => kf (Int.not_lt.mp fun q => h ((zI_lt h2 ha).mpr q)))
theorem z_icmp_le {a b : Int} {off : Int} {tgt : Nat} (hx : p.tables.exec = Jvm.exec) (hb : c.code = cc) (hdg : decode cc pc = .ok (.if_icmp .le off, 3)) (ht : (pc : Int) + off = (tgt : Int)) (ha : zB a) (h2 : zB b)
    (kt : a ≤ b → W p l e R s m args below meth c H locs cells slots Q (F0 m tgt ls rest)) (kf : b < a → W p l e R s m args below meth c H locs cells slots Q (F0 m (pc + 3) ls rest)) : W p l e R s m args below meth c H locs cells slots Q (F0 m pc ls (.int (zI b) :: .int (zI a) :: rest)) :=
  lv_icmp_le hx hb hdg ht (fun h => kt ((zI_le ha h2).mp h)) (fun h => kf (Int.not_le.mp fun q => h ((zI_le ha h2).mpr q)))
theorem rt_2 {x y a b : Int32} (h1 : x = a) (h2 : y = b) (k : W p l e R s m args below meth c H locs cells slots Q (F0 m pc ls (.int b :: .int a :: rest))) : W p l e R s m args below meth c H locs cells slots Q (F0 m pc ls (.int y :: .int x :: rest)) := h1 ▸ h2 ▸ k
end Rows3
end
section
-- ===== M1: lines, sets of squares, the score =====
/-- the column, the row of the i-th square of a line that begins at (c, r); ways: 0 up, 1 right, 2 right and up, 3 right and down -/
def ln_c (way i c : Nat) : Nat := if way = 0 then c else c + i
def ln_r (way i r : Nat) : Nat := if way = 1 then r else if way = 3 then r - i else r + i
def ln_ok (w h way c r : Nat) : Prop := c < w ∧ r < h ∧ ln_c way 3 c < w ∧ ln_r way 3 r < h ∧ (way = 3 → 3 ≤ r)
/-- sets of squares -/
abbrev Sq : Type := Nat → Nat → Bool
def ln_in (M : Sq) (way c r : Nat) : Prop := ∀ i, i < 4 → M (ln_c way i c) (ln_r way i r) = true
def hasL (w h : Nat) (M : Sq) : Prop := ∃ way c r, way < 4 ∧ ln_ok w h way c r ∧ ln_in M way c r
def sq_put (M : Sq) (c r : Nat) : Sq := fun c' r' => M c' r' || (c' == c && r' == r)
def tp_inc (tp : Nat → Nat) (c : Nat) : Nat → Nat := fun c' => if c' = c then tp c' + 1 else tp c'
/-- the greatest of lo and of the v c, c < n, that are ok -/
def bestOf (ok : Nat → Bool) (v : Nat → Int) (lo : Int) : Nat → Int
  | 0 => lo
  | n + 1 => if ok n then max (bestOf ok v lo n) (v n) else bestOf ok v lo n
noncomputable def Sc (w h : Nat) : Nat → (Nat → Nat) → Sq → Sq → Int
  | 0, _, _, _ => 0
  | k + 1, tp, M, T => bestOf (fun c => decide (tp c < h)) (fun c => @ite Int (hasL w h (sq_put M c (tp c))) (Classical.propDecidable _) ((k : Int) + 1) (- Sc w h k (tp_inc tp c) T (sq_put M c (tp c)))) (-((k : Int) + 1)) w
/-- what a drop in column c is worth, k + 1 squares being empty -/
noncomputable def Mv (w h k : Nat) (tp : Nat → Nat) (M T : Sq) (c : Nat) : Int := @ite Int (hasL w h (sq_put M c (tp c))) (Classical.propDecidable _) ((k : Int) + 1) (- Sc w h k (tp_inc tp c) T (sq_put M c (tp c)))
theorem Sc_succ (w h k : Nat) (tp : Nat → Nat) (M T : Sq) : Sc w h (k + 1) tp M T = bestOf (fun c => decide (tp c < h)) (Mv w h k tp M T) (-((k : Int) + 1)) w := rfl
theorem Mv_win {w h k : Nat} {tp : Nat → Nat} {M T : Sq} {c : Nat} (hl : hasL w h (sq_put M c (tp c))) : Mv w h k tp M T c = (k : Int) + 1 := by
  unfold Mv; exact if_pos hl
theorem Mv_go {w h k : Nat} {tp : Nat → Nat} {M T : Sq} {c : Nat} (hl : ¬ hasL w h (sq_put M c (tp c))) : Mv w h k tp M T c = - Sc w h k (tp_inc tp c) T (sq_put M c (tp c)) := by
  unfold Mv; exact if_neg hl
theorem bestOf_lo (ok : Nat → Bool) (v : Nat → Int) (lo : Int) : ∀ n, lo ≤ bestOf ok v lo n
  | 0 => Int.le_refl _
  | n + 1 => by
    have := bestOf_lo ok v lo n
    unfold bestOf
    split <;> omega
theorem bestOf_ge {ok : Nat → Bool} {v : Nat → Int} {lo : Int} : ∀ {n c : Nat}, c < n → ok c = true → v c ≤ bestOf ok v lo n
  | 0, c, h, _ => absurd h (Nat.not_lt_zero c)
  | n + 1, c, h, hc => by
    unfold bestOf
    by_cases e : c = n
    · subst e
      rw [if_pos hc]; omega
    · have := bestOf_ge (n := n) (c := c) (lo := lo) (v := v) (by omega) hc
      split <;> omega
theorem bestOf_is {ok : Nat → Bool} {v : Nat → Int} {lo : Int} : ∀ {n : Nat}, bestOf ok v lo n = lo ∨ ∃ c, c < n ∧ ok c = true ∧ bestOf ok v lo n = v c
  | 0 => Or.inl rfl
  | n + 1 => by
    unfold bestOf
    by_cases e : ok n = true
    · rw [if_pos e]
      rcases Int.le_total (v n) (bestOf ok v lo n) with h | h
      · rw [Int.max_eq_left h]
        rcases bestOf_is (n := n) (ok := ok) (v := v) (lo := lo) with q | ⟨c, h1, h2, h3⟩
        · exact Or.inl q
        · exact Or.inr ⟨c, by omega, h2, h3⟩
      · rw [Int.max_eq_right h]
        exact Or.inr ⟨n, by omega, e, rfl⟩
    · rw [if_neg e]
      rcases bestOf_is (n := n) (ok := ok) (v := v) (lo := lo) with q | ⟨c, h1, h2, h3⟩
      · exact Or.inl q
      · exact Or.inr ⟨c, by omega, h2, h3⟩
theorem bestOf_le {ok : Nat → Bool} {v : Nat → Int} {lo z : Int} {n : Nat} (hlo : lo ≤ z) (h : ∀ c, c < n → ok c = true → v c ≤ z) : bestOf ok v lo n ≤ z := by
  rcases bestOf_is (n := n) (ok := ok) (v := v) (lo := lo) with q | ⟨c, h1, h2, h3⟩
  · rw [q]; exact hlo
  · rw [h3]; exact h c h1 h2
/-- a score lies between -k and k -/
theorem Sc_bd (w h : Nat) : ∀ (k : Nat) (tp : Nat → Nat) (M T : Sq), -(k : Int) ≤ Sc w h k tp M T ∧ Sc w h k tp M T ≤ k
  | 0, _, _, _ => ⟨Int.le_refl _, Int.le_refl _⟩
  | k + 1, tp, M, T => by
    rw [Sc_succ]
    refine ⟨by have := bestOf_lo (fun c => decide (tp c < h)) (Mv w h k tp M T) (-((k : Int) + 1)) w; omega, ?_⟩
    refine bestOf_le (by omega) (fun c _ _ => ?_)
    by_cases hl : hasL w h (sq_put M c (tp c))
    · rw [Mv_win hl]; omega
    · rw [Mv_go hl]
      have := Sc_bd w h k (tp_inc tp c) T (sq_put M c (tp c))
      omega
theorem Mv_bd (w h k : Nat) (tp : Nat → Nat) (M T : Sq) (c : Nat) : -(k : Int) ≤ Mv w h k tp M T c ∧ Mv w h k tp M T c ≤ (k : Int) + 1 := by
  by_cases hl : hasL w h (sq_put M c (tp c))
  · rw [Mv_win hl]; omega
  · rw [Mv_go hl]
    have := Sc_bd w h k (tp_inc tp c) T (sq_put M c (tp c))
    omega
/-- where a drop is possible, the score is the best drop's -/
theorem Sc_is {w h k : Nat} {tp : Nat → Nat} {M T : Sq} (hc : ∃ c, c < w ∧ tp c < h) : ∃ c, c < w ∧ tp c < h ∧ Sc w h (k + 1) tp M T = Mv w h k tp M T c := by
  rw [Sc_succ]
  rcases bestOf_is (n := w) (ok := fun c => decide (tp c < h)) (v := Mv w h k tp M T) (lo := -((k : Int) + 1)) with q | ⟨c, h1, h2, h3⟩
  · obtain ⟨c, h1, h2⟩ := hc
    have a := bestOf_ge (ok := fun c => decide (tp c < h)) (v := Mv w h k tp M T) (lo := -((k : Int) + 1)) h1 (by simpa using h2)
    have b := (Mv_bd w h k tp M T c).1
    omega
  · exact ⟨c, h1, by simpa using h2, h3⟩
theorem Sc_ge {w h k : Nat} {tp : Nat → Nat} {M T : Sq} {c : Nat} (h1 : c < w) (h2 : tp c < h) : Mv w h k tp M T c ≤ Sc w h (k + 1) tp M T := by
  rw [Sc_succ]
  exact bestOf_ge (ok := fun c => decide (tp c < h)) h1 (by simpa using h2)
theorem Sc_lt {w h k : Nat} {tp : Nat → Nat} {M T : Sq} (hc : ∃ c, c < w ∧ tp c < h) : -(k : Int) ≤ Sc w h (k + 1) tp M T := by
  obtain ⟨c, -, -, h3⟩ := Sc_is (k := k) (M := M) (T := T) hc
  rw [h3]; exact (Mv_bd w h k tp M T c).1
end
section
-- ===== M2: bits of a long =====
def tb (x : Int64) (i : Nat) : Bool := x.toBitVec.getLsbD i
theorem tb_big {x : Int64} {i : Nat} (h : 64 ≤ i) : tb x i = false := BitVec.getLsbD_of_ge _ _ h
theorem tb_ext {x y : Int64} (h : ∀ i, i < 64 → tb x i = tb y i) : x = y := by
  have e : x.toBitVec = y.toBitVec := BitVec.eq_of_getLsbD_eq (fun i hi => h i hi)
  exact Int64.toBitVec_inj.mp e
theorem tb_and (x y : Int64) (i : Nat) : tb (x &&& y) i = (tb x i && tb y i) := by simp [tb]
theorem tb_or (x y : Int64) (i : Nat) : tb (x ||| y) i = (tb x i || tb y i) := by simp [tb]
theorem tb_0 (i : Nat) : tb 0 i = false := by simp [tb]
theorem tb_1 (i : Nat) : tb 1 i = decide (i = 0) := by
  show (BitVec.ofNat 64 1).getLsbD i = _
  rw [BitVec.getLsbD_ofNat]
  by_cases h : i = 0
  · subst h; decide
  · rw [decide_eq_false h]
    cases hi : decide (i < 64)
    · rfl
    · simp only [Bool.true_and]
      cases hq : Nat.testBit 1 i
      · rfl
      · exact absurd (Nat.testBit_one_eq_true_iff_self_eq_zero.mp hq) h
theorem tb_not (x : Int64) {i : Nat} (h : i < 64) : tb (x ^^^ (-1)) i = !tb x i := by
  have e : ((-1 : Int64)).toBitVec = BitVec.allOnes 64 := by decide
  simp only [tb, Int64.toBitVec_xor, e, BitVec.getLsbD_xor, BitVec.getLsbD_allOnes, h, decide_true, Bool.xor_true]
theorem sh_k : ∀ k, k < 64 → (((nI k).toInt64 &&& 63).toBitVec.smod 64).toNat = k := by decide +kernel
theorem sh_u : ∀ k, k < 64 → (((nI k).toInt64.toUInt64 &&& Int64.toUInt64 63).toBitVec % 64).toNat = k := by decide +kernel
theorem tb_shl {k : Nat} (hk : k < 64) (x : Int64) {i : Nat} (hi : i < 64) : tb (shlL x k) i = (decide (k ≤ i) && tb x (i - k)) := by
  unfold tb shlL
  rw [Int64.toBitVec_shiftLeft, BitVec.shiftLeft_eq', sh_k k hk, BitVec.getLsbD_shiftLeft]
  by_cases h : i < k
  · simp [h, hi, Nat.not_le.mpr h]
  · simp [h, hi, Nat.not_lt.mp h]
theorem tb_shr {k : Nat} (hk : k < 64) (x : Int64) (i : Nat) : tb (shrL x k) i = tb x (k + i) := by
  unfold tb shrL
  show ((x.toUInt64 >>> ((nI k).toInt64.toUInt64 &&& Int64.toUInt64 63)).toBitVec).getLsbD i = _
  rw [UInt64.toBitVec_shiftRight, BitVec.ushiftRight_eq', sh_u k hk, BitVec.getLsbD_ushiftRight]
  rfl
/-- the number of a long -/
def tN (x : Int64) : Nat := x.toBitVec.toNat
theorem tN_lt (x : Int64) : tN x < 2 ^ 64 := x.toBitVec.isLt
theorem tb_tN (x : Int64) (i : Nat) : tb x i = (tN x).testBit i := rfl
theorem tN_add (x y : Int64) : tN (x + y) = (tN x + tN y) % 2 ^ 64 := by simp [tN, Int64.toBitVec_add, BitVec.toNat_add]
theorem tN_inj {x y : Int64} (h : tN x = tN y) : x = y := Int64.toBitVec_inj.mp (BitVec.eq_of_toNat_eq h)
/-- digits: the number whose c-th digit of b bits is v c -/
def dgs (b : Nat) (v : Nat → Nat) : Nat → Nat
  | 0 => 0
  | n + 1 => 2 ^ (b * n) * v n + dgs b v n
theorem dgs_lt {b : Nat} {v : Nat → Nat} : ∀ {n : Nat}, (∀ c, c < n → v c < 2 ^ b) → dgs b v n < 2 ^ (b * n)
  | 0, _ => by simp [dgs]
  | n + 1, h => by
    have i1 := dgs_lt (n := n) (fun c hc => h c (by omega))
    have i2 := h n (by omega)
    have e : 2 ^ (b * (n + 1)) = 2 ^ (b * n) * 2 ^ b := by rw [Nat.mul_succ, Nat.pow_add]
    rw [e]
    calc dgs b v (n + 1) = 2 ^ (b * n) * v n + dgs b v n := rfl
      _ < 2 ^ (b * n) * v n + 2 ^ (b * n) := by omega
      _ = 2 ^ (b * n) * (v n + 1) := by rw [Nat.mul_succ]
      _ ≤ 2 ^ (b * n) * 2 ^ b := Nat.mul_le_mul_left _ i2
theorem dgs_bit {b : Nat} {v : Nat → Nat} (hb : 0 < b) : ∀ {n : Nat}, (∀ c, c < n → v c < 2 ^ b) → ∀ c r, r < b → (dgs b v n).testBit (b * c + r) = (decide (c < n) && (v c).testBit r)
  | 0, _, c, r, _ => by simp [dgs]
  | n + 1, h, c, r, hr => by
    have hv : ∀ c, c < n → v c < 2 ^ b := fun c hc => h c (by omega)
    show (2 ^ (b * n) * v n + dgs b v n).testBit (b * c + r) = _
    rw [Nat.testBit_two_pow_mul_add _ (dgs_lt hv)]
    by_cases h1 : c < n
    · have h2 : b * c + r < b * n := by
        have : b * (c + 1) ≤ b * n := Nat.mul_le_mul_left _ h1
        rw [Nat.mul_succ] at this; omega
      rw [if_pos h2, dgs_bit hb hv c r hr]
      simp [h1, Nat.lt_succ_of_lt h1]
    · have h2 : ¬ b * c + r < b * n := by
        have : b * n ≤ b * c := Nat.mul_le_mul_left _ (by omega)
        omega
      rw [if_neg h2]
      by_cases h3 : c = n
      · subst h3
        simp
      · have h4 : b ≤ b * c + r - b * n := by
          have : b * (n + 1) ≤ b * c := Nat.mul_le_mul_left _ (by omega)
          rw [Nat.mul_succ] at this; omega
        have h5 : v n < 2 ^ (b * c + r - b * n) := Nat.lt_of_lt_of_le (h n (by omega)) (Nat.pow_le_pow_right (by decide) h4)
        rw [Nat.testBit_lt_two_pow h5]
        simp [show ¬ c < n + 1 by omega]
theorem dgs_add (b : Nat) (u v : Nat → Nat) : ∀ n, dgs b u n + dgs b v n = dgs b (fun c => u c + v c) n
  | 0 => rfl
  | n + 1 => by
    have := dgs_add b u v n
    simp only [dgs, Nat.mul_add]
    omega
theorem dgs_congr {b : Nat} {u v : Nat → Nat} : ∀ {n : Nat}, (∀ c, c < n → u c = v c) → dgs b u n = dgs b v n
  | 0, _ => rfl
  | n + 1, h => by
    simp only [dgs]
    rw [h n (by omega), dgs_congr (n := n) (fun c hc => h c (by omega))]
theorem tN_shr {k : Nat} (hk : k < 64) (x : Int64) : tN (shrL x k) = tN x / 2 ^ k := by
  apply Nat.eq_of_testBit_eq
  intro i
  rw [← tb_tN, tb_shr hk, tb_tN, Nat.testBit_div_two_pow, Nat.add_comm]
theorem tN_toI {x : Int64} (h : tN x < 2 ^ 31) : x.toInt32 = nI (tN x) := by
  have e : x.toInt32.toBitVec = (nI (tN x)).toBitVec := by
    apply BitVec.eq_of_toNat_eq
    have e1 : x.toInt32.toBitVec.toNat = tN x % 2 ^ 32 := by
      rw [Int64.toBitVec_toInt32, BitVec.signExtend_eq_setWidth_of_le _ (by decide), BitVec.toNat_setWidth]; rfl
    rw [e1, pk_tn (by omega)]
    omega
  exact Int32.toBitVec_inj.mp e
/-- the slot of a key -/
def slN (k : Int64) : Nat := tN (k * (-7046029254386353131)) / 2 ^ 54
theorem slN_lt (k : Int64) : slN k < 1024 := by
  have := tN_lt (k * (-7046029254386353131))
  unfold slN
  omega
theorem slN_I (k : Int64) : (shrL (k * (-7046029254386353131)) 54).toInt32 = nI (slN k) := by
  have h := slN_lt k
  have e : tN (shrL (k * (-7046029254386353131)) 54) = slN k := tN_shr (by decide) _
  rw [tN_toI (by rw [e]; omega), e]
end
section
-- ===== M3: the number of set bits, as Long.bitCount finds it =====
/-- the number of set bits among the first k -/
def popN (x : Int64) : Nat → Nat
  | 0 => 0
  | k + 1 => popN x k + (if tb x k then 1 else 0)
theorem popN_le (x : Int64) : ∀ k, popN x k ≤ k
  | 0 => Nat.le_refl 0
  | k + 1 => by
    have := popN_le x k
    unfold popN
    split <;> omega
theorem dgs_low (b : Nat) (u : Nat → Nat) : ∀ n, dgs b u (n + 1) = u 0 + 2 ^ b * dgs b (fun c => u (c + 1)) n
  | 0 => by simp [dgs]
  | n + 1 => by
    have ih := dgs_low b u n
    have e : dgs b u (n + 2) = 2 ^ (b * (n + 1)) * u (n + 1) + dgs b u (n + 1) := rfl
    have e2 : dgs b (fun c => u (c + 1)) (n + 1) = 2 ^ (b * n) * u (n + 1) + dgs b (fun c => u (c + 1)) n := rfl
    have e3 : 2 ^ (b * (n + 1)) = 2 ^ b * 2 ^ (b * n) := by rw [Nat.mul_succ, Nat.add_comm, Nat.pow_add]
    rw [e, ih, e2, e3, Nat.mul_add, Nat.mul_assoc]
    omega
theorem dgs_shr {b : Nat} {u : Nat → Nat} {n : Nat} (h0 : u 0 < 2 ^ b) : dgs b u (n + 1) / 2 ^ b = dgs b (fun c => u (c + 1)) n := by
  rw [dgs_low, Nat.add_mul_div_left _ _ (Nat.two_pow_pos b), Nat.div_eq_of_lt h0, Nat.zero_add]
theorem dgs_last {b : Nat} {u : Nat → Nat} {n : Nat} (h : u n = 0) : dgs b u (n + 1) = dgs b u n := by
  show 2 ^ (b * n) * u n + dgs b u n = _
  rw [h]; omega
/-- every other digit, by a mask -/
theorem dgs_mask {b n M : Nat} {u : Nat → Nat} (hb : 0 < b) (hu : ∀ c, c < 2 * n → u c < 2 ^ b) (hM : ∀ i, i < 2 * b * n → M.testBit i = decide (i % (2 * b) < b)) : dgs b u (2 * n) &&& M = dgs (2 * b) (fun c => u (2 * c)) n := by
  apply Nat.eq_of_testBit_eq
  intro i
  obtain ⟨c, r, hr, rfl⟩ : ∃ c r, r < 2 * b ∧ i = 2 * b * c + r := ⟨i / (2 * b), i % (2 * b), Nat.mod_lt _ (by omega), (Nat.div_add_mod i (2 * b)).symm⟩
  have hu2 : ∀ c, c < n → (fun c => u (2 * c)) c < 2 ^ (2 * b) := fun c hc => Nat.lt_of_lt_of_le (hu (2 * c) (by omega)) (Nat.pow_le_pow_right (by decide) (by omega))
  rw [Nat.testBit_and, dgs_bit (by omega) hu2 c r hr]
  have e0 : 2 * b * c = b * (2 * c) := by rw [Nat.mul_assoc, Nat.mul_left_comm]
  by_cases hc : c < n
  · have hi : 2 * b * c + r < 2 * b * n := by
      have : 2 * b * (c + 1) ≤ 2 * b * n := Nat.mul_le_mul_left _ hc
      rw [Nat.mul_succ] at this; omega
    rw [hM _ hi, Nat.mul_add_mod, Nat.mod_eq_of_lt hr]
    by_cases h1 : r < b
    · rw [e0, dgs_bit hb hu (2 * c) r h1]
      simp [h1, hc]
    · have h2 : (u (2 * c)).testBit r = false := Nat.testBit_lt_two_pow (Nat.lt_of_lt_of_le (hu (2 * c) (by omega)) (Nat.pow_le_pow_right (by decide) (by omega)))
      simp [h1, h2]
  · have h3 : dgs b u (2 * n) < 2 ^ (2 * b * c + r) := by
      refine Nat.lt_of_lt_of_le (dgs_lt hu) (Nat.pow_le_pow_right (by decide) ?_)
      have : 2 * b * n ≤ 2 * b * c := Nat.mul_le_mul_left _ (by omega)
      have e : b * (2 * n) = 2 * b * n := by rw [Nat.mul_left_comm, Nat.mul_assoc]
      omega
    rw [Nat.testBit_lt_two_pow h3]
    simp [hc]
/-- the mask behind a shift by one digit: the odd digits -/
theorem dgs_maskS {b n M : Nat} {u : Nat → Nat} (hb : 0 < b) (hn : 0 < n) (hu : ∀ c, c < 2 * n → u c < 2 ^ b) (hM : ∀ i, i < 2 * b * n → M.testBit i = decide (i % (2 * b) < b)) : (dgs b u (2 * n) / 2 ^ b) &&& M = dgs (2 * b) (fun c => u (2 * c + 1)) n := by
  obtain ⟨k, rfl⟩ : ∃ k, n = k + 1 := ⟨n - 1, by omega⟩
  have e1 : dgs b u (2 * (k + 1)) / 2 ^ b = dgs b (fun c => u (c + 1)) (2 * k + 1) := dgs_shr (n := 2 * k + 1) (hu 0 (by omega))
  have e2 : dgs b (fun c => if c < 2 * k + 1 then u (c + 1) else 0) (2 * (k + 1)) = dgs b (fun c => u (c + 1)) (2 * k + 1) := by
    rw [show 2 * (k + 1) = (2 * k + 1) + 1 by omega, dgs_last (by simp)]
    exact dgs_congr (fun c hc => by simp [hc])
  rw [e1, ← e2, dgs_mask hb (fun c hc => by
    by_cases h : c < 2 * k + 1
    · simp only [h, if_true]; exact hu (c + 1) (by omega)
    · simp only [h, if_false]; exact Nat.two_pow_pos b) hM]
  exact dgs_congr (fun c hc => by simp [show 2 * c < 2 * k + 1 by omega])
theorem tN_and (x y : Int64) : tN (x &&& y) = tN x &&& tN y := by simp [tN]
theorem tN_sub {x y : Int64} (h : tN y ≤ tN x) : tN (x - y) = tN x - tN y := by
  have h1 := tN_lt x
  have h2 := tN_lt y
  simp only [tN, Int64.toBitVec_sub, BitVec.toNat_sub] at h ⊢
  simp only [tN] at h1 h2
  omega
theorem tN_addS {x y : Int64} (h : tN x + tN y < 2 ^ 64) : tN (x + y) = tN x + tN y := by rw [tN_add, Nat.mod_eq_of_lt h]
theorem bc_m1 : ∀ i, i < 2 * 1 * 32 → (6148914691236517205 : Nat).testBit i = decide (i % (2 * 1) < 1) := by decide +kernel
theorem bc_m2 : ∀ i, i < 2 * 2 * 16 → (3689348814741910323 : Nat).testBit i = decide (i % (2 * 2) < 2) := by decide +kernel
theorem bc_m4 : ∀ i, i < 2 * 4 * 8 → (1085102592571150095 : Nat).testBit i = decide (i % (2 * 4) < 4) := by decide +kernel
theorem bc_k1 : tN 6148914691236517205 = 6148914691236517205 := by decide +kernel
theorem bc_k2 : tN 3689348814741910323 = 3689348814741910323 := by decide +kernel
theorem bc_k4 : tN 1085102592571150095 = 1085102592571150095 := by decide +kernel
/-- the bits of a long as digits -/
def bt1 (x : Int64) (c : Nat) : Nat := if tb x c then 1 else 0
theorem bt1_le (x : Int64) (c : Nat) : bt1 x c ≤ 1 := by unfold bt1; split <;> omega
theorem bc_0 (x : Int64) : tN x = dgs 1 (bt1 x) 64 := by
  apply Nat.eq_of_testBit_eq
  intro i
  have hu : ∀ c, c < 64 → bt1 x c < 2 ^ 1 := fun c _ => by have := bt1_le x c; omega
  have e := dgs_bit (b := 1) (by decide) hu i 0 (by decide)
  rw [Nat.one_mul, Nat.add_zero] at e
  rw [e, ← tb_tN]
  unfold bt1
  by_cases h : i < 64
  · cases tb x i <;> simp [h]
  · rw [tb_big (by omega)]; simp [h]
theorem bc_1 (x : Int64) : tN (x - (shrL x 1 &&& 6148914691236517205)) = dgs 2 (fun c => bt1 x (2 * c) + bt1 x (2 * c + 1)) 32 := by
  have hu : ∀ c, c < 2 * 32 → bt1 x c < 2 ^ 1 := fun c _ => by have := bt1_le x c; omega
  have e1 : tN (shrL x 1 &&& 6148914691236517205) = dgs 2 (fun c => bt1 x (2 * c + 1)) 32 := by
    rw [tN_and, tN_shr (by decide), bc_k1, bc_0]
    exact dgs_maskS (b := 1) (n := 32) (by decide) (by decide) hu bc_m1
  have e2 : tN x = dgs 2 (fun c => bt1 x (2 * c) + 2 * bt1 x (2 * c + 1)) 32 := by
    apply Nat.eq_of_testBit_eq
    intro i
    obtain ⟨c, r, hr, rfl⟩ : ∃ c r, r < 2 ∧ i = 2 * c + r := ⟨i / 2, i % 2, Nat.mod_lt _ (by omega), (Nat.div_add_mod i 2).symm⟩
    rw [dgs_bit (by decide) (fun c _ => by have h1 := bt1_le x (2 * c); have h2 := bt1_le x (2 * c + 1); show _ < 4; omega) c r hr, ← tb_tN]
    by_cases hc : c < 32
    · simp only [hc, decide_true, Bool.true_and]
      obtain rfl | rfl : r = 0 ∨ r = 1 := by omega
      · unfold bt1
        cases h1 : tb x (2 * c) <;> cases h2 : tb x (2 * c + 1) <;> simp_all <;> decide
      · unfold bt1
        cases h1 : tb x (2 * c) <;> cases h2 : tb x (2 * c + 1) <;> simp_all <;> decide
    · rw [tb_big (by omega)]; simp [hc]
  have e3 : dgs 2 (fun c => bt1 x (2 * c) + bt1 x (2 * c + 1)) 32 + dgs 2 (fun c => bt1 x (2 * c + 1)) 32 = dgs 2 (fun c => bt1 x (2 * c) + 2 * bt1 x (2 * c + 1)) 32 := by
    rw [dgs_add]
    exact dgs_congr (fun c _ => by omega)
  rw [tN_sub (by rw [e1, e2, ← e3]; exact Nat.le_add_left _ _), e1, e2, ← e3]
  exact Nat.add_sub_cancel _ _
theorem bc_2 (a : Int64) (v : Nat → Nat) (hv : ∀ c, v c ≤ 2) (ha : tN a = dgs 2 v 32) : tN ((a &&& 3689348814741910323) + (shrL a 2 &&& 3689348814741910323)) = dgs 4 (fun c => v (2 * c) + v (2 * c + 1)) 16 := by
  have hu : ∀ c, c < 2 * 16 → v c < 2 ^ 2 := fun c _ => by have := hv c; omega
  have e1 : tN (a &&& 3689348814741910323) = dgs 4 (fun c => v (2 * c)) 16 := by
    rw [tN_and, bc_k2, ha]
    exact dgs_mask (b := 2) (n := 16) (by decide) hu bc_m2
  have e2 : tN (shrL a 2 &&& 3689348814741910323) = dgs 4 (fun c => v (2 * c + 1)) 16 := by
    rw [tN_and, tN_shr (by decide), bc_k2, ha]
    exact dgs_maskS (b := 2) (n := 16) (by decide) (by decide) hu bc_m2
  have hs : dgs 4 (fun c => v (2 * c)) 16 + dgs 4 (fun c => v (2 * c + 1)) 16 = dgs 4 (fun c => v (2 * c) + v (2 * c + 1)) 16 := dgs_add _ _ _ _
  have hl : dgs 4 (fun c => v (2 * c) + v (2 * c + 1)) 16 < 2 ^ 64 := dgs_lt (fun c _ => by have h1 := hv (2 * c); have h2 := hv (2 * c + 1); show _ < 16; omega)
  rw [tN_addS (by rw [e1, e2, hs]; exact hl), e1, e2, hs]
/-- a number of digits and itself, shifted by k digits -/
theorem bc_s {b n k : Nat} {v : Nat → Nat} (hk : k ≤ n) (hv : ∀ c, c < n → v c < 2 ^ b) : dgs b v n / 2 ^ (b * k) = dgs b (fun c => if c + k < n then v (c + k) else 0) n := by
  induction k with
  | zero =>
    rw [Nat.mul_zero, Nat.pow_zero, Nat.div_one]
    exact dgs_congr (fun c hc => by simp [hc])
  | succ k ih =>
    rw [Nat.mul_succ, Nat.pow_add, ← Nat.div_div_eq_div_mul, ih (by omega)]
    obtain ⟨j, rfl⟩ : ∃ j, n = j + 1 := ⟨n - 1, by omega⟩
    rw [dgs_shr (by split; exact hv _ (by omega); exact Nat.two_pow_pos b), dgs_last (n := j) (by simp)]
    exact dgs_congr (fun c hc => by
      have e : c + 1 + k = c + (k + 1) := by omega
      simp only [e])
theorem bc_3 (a : Int64) (v : Nat → Nat) (hv : ∀ c, v c ≤ 4) (ha : tN a = dgs 4 v 16) : tN ((a + shrL a 4) &&& 1085102592571150095) = dgs 8 (fun c => v (2 * c) + v (2 * c + 1)) 8 := by
  have hu : ∀ c, c < 16 → v c < 2 ^ 4 := fun c _ => by have := hv c; omega
  have e2 : tN (shrL a 4) = dgs 4 (fun c => if c + 1 < 16 then v (c + 1) else 0) 16 := by
    rw [tN_shr (by decide), ha]
    exact bc_s (b := 4) (n := 16) (k := 1) (by decide) hu
  have hs : dgs 4 v 16 + dgs 4 (fun c => if c + 1 < 16 then v (c + 1) else 0) 16 = dgs 4 (fun c => v c + (if c + 1 < 16 then v (c + 1) else 0)) 16 := dgs_add _ _ _ _
  have hb : ∀ c, v c + (if c + 1 < 16 then v (c + 1) else 0) < 2 ^ 4 := fun c => by
    have h1 := hv c
    have h2 := hv (c + 1)
    split <;> omega
  have hl : dgs 4 (fun c => v c + (if c + 1 < 16 then v (c + 1) else 0)) 16 < 2 ^ 64 := dgs_lt (fun c _ => hb c)
  have e3 : tN (a + shrL a 4) = dgs 4 (fun c => v c + (if c + 1 < 16 then v (c + 1) else 0)) (2 * 8) := by
    rw [tN_addS (by rw [e2, ha, hs]; exact hl), e2, ha, hs]
  rw [tN_and, bc_k4, e3, dgs_mask (b := 4) (n := 8) (by decide) (fun c _ => hb c) bc_m4]
  exact dgs_congr (fun c hc => by simp [show 2 * c + 1 < 16 by omega])
theorem bc_4 (a : Int64) (v : Nat → Nat) (k M : Nat) (hk : k ≤ 8) (hM : M ≤ 127) (hv : ∀ c, v c ≤ M) (ha : tN a = dgs 8 v 8) (h8 : 8 * k < 64) : tN (a + shrL a (8 * k)) = dgs 8 (fun c => v c + (if c + k < 8 then v (c + k) else 0)) 8 := by
  have hu : ∀ c, c < 8 → v c < 2 ^ 8 := fun c _ => by have := hv c; omega
  have e2 : tN (shrL a (8 * k)) = dgs 8 (fun c => if c + k < 8 then v (c + k) else 0) 8 := by
    rw [tN_shr h8, ha]
    exact bc_s (b := 8) (n := 8) (k := k) hk hu
  have hs : dgs 8 v 8 + dgs 8 (fun c => if c + k < 8 then v (c + k) else 0) 8 = dgs 8 (fun c => v c + (if c + k < 8 then v (c + k) else 0)) 8 := dgs_add _ _ _ _
  have hl : dgs 8 (fun c => v c + (if c + k < 8 then v (c + k) else 0)) 8 < 2 ^ 64 := dgs_lt (fun c _ => by
    have h1 := hv c
    have h2 := hv (c + k)
    show v c + (if c + k < 8 then v (c + k) else 0) < 256
    split <;> omega)
  rw [tN_addS (by rw [e2, ha, hs]; exact hl), e2, ha, hs]
theorem bc_ok {x a1 a2 a3 a4 a5 a6 : Int64} (h1 : a1 = x - (shrL x 1 &&& 6148914691236517205)) (h2 : a2 = (a1 &&& 3689348814741910323) + (shrL a1 2 &&& 3689348814741910323)) (h3 : a3 = (a2 + shrL a2 4) &&& 1085102592571150095)
    (h4 : a4 = a3 + shrL a3 8) (h5 : a5 = a4 + shrL a4 16) (h6 : a6 = a5 + shrL a5 32) : a6.toInt32 &&& nI 127 = nI (popN x 64) := by
  have q1 := bc_1 x
  rw [← h1] at q1
  have hv1 : ∀ c, (fun c => bt1 x (2 * c) + bt1 x (2 * c + 1)) c ≤ 2 := fun c => by
    have i1 := bt1_le x (2 * c); have i2 := bt1_le x (2 * c + 1); show _ + _ ≤ 2; omega
  have q2 := bc_2 a1 _ hv1 q1
  rw [← h2] at q2
  have hv2 : ∀ c, (fun c => (fun c => bt1 x (2 * c) + bt1 x (2 * c + 1)) (2 * c) + (fun c => bt1 x (2 * c) + bt1 x (2 * c + 1)) (2 * c + 1)) c ≤ 4 := fun c => by
    have i1 := hv1 (2 * c); have i2 := hv1 (2 * c + 1); show _ + _ ≤ 4; omega
  have q3 := bc_3 a2 _ hv2 q2
  rw [← h3] at q3
  generalize hg : (fun c => (fun c => (fun c => bt1 x (2 * c) + bt1 x (2 * c + 1)) (2 * c) + (fun c => bt1 x (2 * c) + bt1 x (2 * c + 1)) (2 * c + 1)) (2 * c) + (fun c => (fun c => bt1 x (2 * c) + bt1 x (2 * c + 1)) (2 * c) + (fun c => bt1 x (2 * c) + bt1 x (2 * c + 1)) (2 * c + 1)) (2 * c + 1)) = g at q3
  have hv3 : ∀ c, g c ≤ 8 := fun c => by
    rw [← hg]
    have i1 := hv2 (2 * c); have i2 := hv2 (2 * c + 1); show _ + _ ≤ 8; omega
  have q4 := bc_4 a3 g 1 8 (by decide) (by decide) hv3 q3 (by decide)
  rw [show (8 * 1 : Nat) = 8 from rfl, ← h4] at q4
  have hv4 : ∀ c, (fun c => g c + (if c + 1 < 8 then g (c + 1) else 0)) c ≤ 16 := fun c => by
    have i1 := hv3 c; have i2 := hv3 (c + 1)
    show g c + (if c + 1 < 8 then g (c + 1) else 0) ≤ 16
    split <;> omega
  have q5 := bc_4 a4 _ 2 16 (by decide) (by decide) hv4 q4 (by decide)
  rw [show (8 * 2 : Nat) = 16 from rfl, ← h5] at q5
  have hv5 : ∀ c, (fun c => (fun c => g c + (if c + 1 < 8 then g (c + 1) else 0)) c + (if c + 2 < 8 then (fun c => g c + (if c + 1 < 8 then g (c + 1) else 0)) (c + 2) else 0)) c ≤ 32 := fun c => by
    have i1 := hv4 c; have i2 := hv4 (c + 2)
    show _ + (if c + 2 < 8 then _ else 0) ≤ 32
    split <;> omega
  have q6 := bc_4 a5 _ 4 32 (by decide) (by decide) hv5 q5 (by decide)
  rw [show (8 * 4 : Nat) = 32 from rfl, ← h6] at q6
  have hz : tN a6 % 128 = popN x 64 := by
    have ez : tN a6 = (g 0 + g 1 + (g 2 + g 3) + (g 4 + g 5 + (g 6 + g 7))) + 2 ^ 8 * dgs 8 (fun c => (fun c => (fun c => (fun c => g c + (if c + 1 < 8 then g (c + 1) else 0)) c + (if c + 2 < 8 then (fun c => g c + (if c + 1 < 8 then g (c + 1) else 0)) (c + 2) else 0)) c + (if c + 4 < 8 then (fun c => (fun c => g c + (if c + 1 < 8 then g (c + 1) else 0)) c + (if c + 2 < 8 then (fun c => g c + (if c + 1 < 8 then g (c + 1) else 0)) (c + 2) else 0)) (c + 4) else 0)) (c + 1)) 7 := by
      rw [q6, dgs_low]
      rfl
    have es : g 0 + g 1 + (g 2 + g 3) + (g 4 + g 5 + (g 6 + g 7)) = popN x 64 := by
      rw [← hg]
      simp only [popN, bt1, Nat.reduceMul, Nat.reduceAdd]
      omega
    have hp := popN_le x 64
    rw [ez, es]
    omega
  have hm : (nI 127).toBitVec.toNat = 2 ^ 7 - 1 := by decide
  rw [pk_and a6.toInt32 7 hm]
  congr 1
  have e1 : a6.toInt32.toBitVec.toNat = tN a6 % 2 ^ 32 := by
    rw [Int64.toBitVec_toInt32, BitVec.signExtend_eq_setWidth_of_le _ (by decide), BitVec.toNat_setWidth]; rfl
  rw [e1, ← hz]
  omega
end
section
-- ===== the class's cells, and what its small methods answer =====
/-- the sizes of a board -/
def Dm (w h : Nat) : Prop := 3 ≤ w ∧ w ≤ 9 ∧ 3 ≤ h ∧ h ≤ 7 ∧ w * h ≤ 63 ∧ w * (h + 1) ≤ 64
/-- the cells of a DropFour that its reading methods use -/
abbrev xW (cI cJ : ClassId) (w h x sn hs hi g st cs fo se : Nat) (S : Nat → Int64) (ht hy : Nat → Nat) (n : Nat) : va_W :=
  [(x, .inr (4, [.ref g, .ref se, .ref fo, .ref sn, .ref hs, .ref hi, .int (nI n)])), (sn, .inl (cJ, 2, .inr (.inl S))), (hs, .inl (cI, w, .inl (fun j => nI (ht j)))), (hi, .inl (cI, w * h, .inl (fun j => nI (hy j)))),
   (g, .inr (1, [.int (nI w), .int (nI h), .long (allL h w), .long (flrL h w), .ref st, .ref cs])), (st, .inl (cI, 4, .inl (fun j => nI (stp h j)))), (cs, .inl (cJ, w, .inr (.inl (fun j => colL h j))))]
def icB (w : Nat) (k : Int32) : Bool := !decide (k < 0) && !decide (nI w ≤ k)
def ipB (k : Int32) : Bool := decide (k = 0) || decide (k = 1)
def wnI (w h : Nat) (S : Nat → Int64) (n : Nat) : Int32 := if hlL h (S 0) then 0 else if hlL h (S 1) then 1 else if w * h - n = 0 then 2 else -1
def ovB (w h : Nat) (S : Nat → Int64) (n : Nat) : Bool := hlL h (S 0) || (hlL h (S 1) || decide (w * h - n = 0))
def cvB (w h : Nat) (S : Nat → Int64) (n : Nat) : Bool := decide (w * h - n ≤ 12) && !ovB w h S n
def evB (h : Nat) (ht : Nat → Nat) : Nat → Bool
  | 0 => true
  | n + 1 => evB h ht n && decide ((h - ht n) % 2 = 0)
theorem evB_no {h : Nat} {ht : Nat → Nat} {i : Nat} (hi : ¬ (h - ht i) % 2 = 0) : ∀ {n : Nat}, i < n → evB h ht n = false
  | 0, h0 => absurd h0 (Nat.not_lt_zero _)
  | n + 1, h0 => by
    unfold evB
    by_cases e : i = n
    · subst e; simp [hi]
    · rw [evB_no hi (n := n) (by omega)]; rfl
def clN (h : Nat) (x : Int64) : Nat := (((0 + popN (lsL x (stp h 0)) 64) + popN (lsL x (stp h 1)) 64) + popN (lsL x (stp h 2)) 64) + popN (lsL x (stp h 3)) 64
def smL (nx th : Int64) : Int64 := if 1 < popN (nx &&& th) 64 then 0 else (if nx &&& th = 0 then nx else nx &&& th) &&& (shrL th 1 ^^^ (-1))
/-- the cells of a Memory -/
abbrev mW (cI cJ : ClassId) (me ks le mo : Nat) (K : Nat → Int64) (lf mf : Nat → Int32) : va_W :=
  [(me, .inr (2, [.ref ks, .ref le, .ref mo])), (ks, .inl (cJ, 1024, .inr (.inl K))), (le, .inl (cI, 1024, .inl lf)), (mo, .inl (cI, 1024, .inl mf))]
def mid (w j : Nat) : Nat := if j % 2 = 0 then w / 2 + j / 2 else w / 2 - (j + 1) / 2
/-- the cells of a Search, with its Grid and its Memory -/
abbrev seW (cI cJ : ClassId) (w h se mi g st cs me ks le mo : Nat) (K : Nat → Int64) (lf mf : Nat → Int32) : va_W :=
  [(se, .inr (3, [.ref g, .ref me, .ref mi])), (mi, .inl (cJ, w, .inr (.inl (fun j => colL h (mid w j))))),
   (g, .inr (1, [.int (nI w), .int (nI h), .long (allL h w), .long (flrL h w), .ref st, .ref cs])), (st, .inl (cI, 4, .inl (fun j => nI (stp h j)))), (cs, .inl (cJ, w, .inr (.inl (fun j => colL h j)))),
   (me, .inr (2, [.ref ks, .ref le, .ref mo])), (ks, .inl (cJ, 1024, .inr (.inl K))), (le, .inl (cI, 1024, .inl lf)), (mo, .inl (cI, 1024, .inl mf))]
def laZ (w h : Nat) (x : Int64) (k : Nat) : Int := if hlL h (allL h w &&& (x ^^^ (-1))) then 3 - (k : Int) else 0
def maZ (w h : Nat) (x : Int64) (k : Nat) : Int := if hlL h (allL h w &&& (x ^^^ (-1))) then (k : Int) - 2 else 0
def btI (k : Int32) (m : Nat) : Int32 := if nI 3 < (if k < nI m then k else nI m) then (if k < nI m then k else nI m) else nI 3
def idI (e : Nat) (k : Int32) : Int32 := if k = 0 then 0 else if k ≤ 0 then -(nI (e + 1) - (if 0 ≤ k then k else 0 - k)) else nI (e + 1) - (if 0 ≤ k then k else 0 - k)
end
section
-- ===== M4: longs as sets of squares =====
def ix (h c r : Nat) : Nat := c * (h + 1) + r
theorem ix_div {h c r : Nat} (hr : r ≤ h) : ix h c r / (h + 1) = c := by
  unfold ix
  rw [Nat.add_comm, Nat.add_mul_div_right _ _ (Nat.succ_pos h), Nat.div_eq_of_lt (by omega), Nat.zero_add]
theorem ix_mod {h c r : Nat} (hr : r ≤ h) : ix h c r % (h + 1) = r := by
  unfold ix
  rw [Nat.add_comm, Nat.add_mul_mod_self_right]
  exact Nat.mod_eq_of_lt (by omega)
theorem ix_inj {h c r c' r' : Nat} (hr : r ≤ h) (hr' : r' ≤ h) (e : ix h c r = ix h c' r') : c = c' ∧ r = r' := by
  have e1 := ix_div (c := c) hr
  have e2 := ix_mod (c := c) hr
  rw [e, ix_div hr'] at e1
  rw [e, ix_mod hr'] at e2
  exact ⟨e1.symm, e2.symm⟩
theorem ix_of (h i : Nat) : ∃ c r, r ≤ h ∧ i = ix h c r := ⟨i / (h + 1), i % (h + 1), Nat.lt_succ_iff.mp (Nat.mod_lt _ (Nat.succ_pos h)), by
  unfold ix; rw [Nat.mul_comm]; exact (Nat.div_add_mod i (h + 1)).symm⟩
theorem ix_lt {w h c r : Nat} (hc : c < w) (hr : r ≤ h) : ix h c r < w * (h + 1) := by
  unfold ix
  have : (c + 1) * (h + 1) ≤ w * (h + 1) := Nat.mul_le_mul_right _ hc
  rw [Nat.succ_mul] at this
  omega
theorem ix_up (h c r k : Nat) : ix h c r + k = ix h c (r + k) := by unfold ix; omega
theorem ix_right (h c r : Nat) : ix h c r + (h + 1) = ix h (c + 1) r := by unfold ix; rw [Nat.succ_mul]; omega
/-- the long x has the bits of the set M -/
def Rep (w h : Nat) (x : Int64) (M : Sq) : Prop := (∀ c r, r ≤ h → tb x (ix h c r) = M c r) ∧ (∀ c r, M c r = true → c < w ∧ r < h)
theorem Rep.off {w h : Nat} {x : Int64} {M : Sq} (H : Rep w h x M) {c r : Nat} (hh : ¬ (c < w ∧ r < h)) : M c r = false := by
  cases e : M c r
  · rfl
  · exact absurd (H.2 c r e) hh
theorem Rep.uniq {w h : Nat} {x : Int64} {M M' : Sq} (H : Rep w h x M) (H' : Rep w h x M') : M = M' := by
  funext c r
  by_cases hr : r ≤ h
  · rw [← H.1 c r hr, H'.1 c r hr]
  · rw [H.off (by omega), H'.off (by omega)]
theorem Rep.or {w h : Nat} {x y : Int64} {M T : Sq} (H : Rep w h x M) (H' : Rep w h y T) : Rep w h (x ||| y) (fun c r => M c r || T c r) := by
  refine ⟨fun c r hr => by rw [tb_or, H.1 c r hr, H'.1 c r hr], fun c r e => ?_⟩
  rcases Bool.or_eq_true _ _ |>.mp e with q | q
  · exact H.2 c r q
  · exact H'.2 c r q
theorem Rep.of_tb {w h : Nat} {x : Int64} {M : Sq} (H : Rep w h x M) {i : Nat} (e : tb x i = true) : ∃ c r, c < w ∧ r < h ∧ i = ix h c r ∧ M c r = true := by
  obtain ⟨c, r, hr, rfl⟩ := ix_of h i
  rw [H.1 c r hr] at e
  obtain ⟨h1, h2⟩ := H.2 c r e
  exact ⟨c, r, h1, h2, rfl, e⟩
/-- which way a step of the grid goes -/
def wayOf (j : Nat) : Nat := if j = 0 then 0 else if j = 1 then 3 else if j = 2 then 1 else 2
theorem step_sq {w h : Nat} {x : Int64} {M : Sq} (H : Rep w h x M) {c r j : Nat} (hj : j < 4) (h1 : M c r = true) (h2 : tb x (ix h c r + stp h j) = true) :
    (wayOf j = 3 → 1 ≤ r) ∧ M (ln_c (wayOf j) 1 c) (ln_r (wayOf j) 1 r) = true ∧ ix h c r + stp h j = ix h (ln_c (wayOf j) 1 c) (ln_r (wayOf j) 1 r) := by
  obtain ⟨hc, hr⟩ := H.2 c r h1
  obtain rfl | rfl | rfl | rfl : j = 0 ∨ j = 1 ∨ j = 2 ∨ j = 3 := by omega
  · have e : ix h c r + stp h 0 = ix h c (r + 1) := ix_up h c r 1
    rw [e, H.1 _ _ (by omega)] at h2
    exact ⟨fun q => absurd q (by decide), h2, e⟩
  · by_cases h0 : r = 0
    · subst h0
      have e : ix h c 0 + stp h 1 = ix h c h := by show ix h c 0 + h = _; rw [ix_up, Nat.zero_add]
      rw [e, H.1 _ _ (Nat.le_refl h)] at h2
      exact absurd (H.2 c h h2).2 (Nat.lt_irrefl h)
    · have e : ix h c r + stp h 1 = ix h (c + 1) (r - 1) := by
        show ix h c r + h = _
        unfold ix; rw [Nat.succ_mul]; omega
      rw [e, H.1 _ _ (by omega)] at h2
      exact ⟨fun _ => by omega, h2, e⟩
  · have e : ix h c r + stp h 2 = ix h (c + 1) r := ix_right h c r
    rw [e, H.1 _ _ (by omega)] at h2
    exact ⟨fun q => absurd q (by decide), h2, e⟩
  · have e : ix h c r + stp h 3 = ix h (c + 1) (r + 1) := by
      show ix h c r + (h + 2) = _
      unfold ix; rw [Nat.succ_mul]; omega
    rw [e, H.1 _ _ (by omega)] at h2
    exact ⟨fun q => absurd q (by decide), h2, e⟩
theorem ln_c1 (way i c : Nat) : ln_c way 1 (ln_c way i c) = ln_c way (i + 1) c := by unfold ln_c; split <;> omega
theorem ln_r1 (way i r : Nat) : ln_r way 1 (ln_r way i r) = ln_r way (i + 1) r := by unfold ln_r; split <;> first | rfl | (split <;> omega)
theorem ln_c0 (way c : Nat) : ln_c way 0 c = c := by unfold ln_c; split <;> rfl
theorem ln_r0 (way r : Nat) : ln_r way 0 r = r := by unfold ln_r; split <;> first | rfl | (split <;> rfl)
theorem wayOf_lt (j : Nat) : wayOf j < 4 := by unfold wayOf; split <;> first | decide | (split <;> first | decide | (split <;> decide))
/-- four set bits, a step apart: a line -/
theorem bits_line {w h : Nat} {x : Int64} {M : Sq} (H : Rep w h x M) {i j : Nat} (hj : j < 4) (b0 : tb x i = true) (b1 : tb x (i + stp h j) = true) (b2 : tb x (i + 2 * stp h j) = true) (b3 : tb x (i + 3 * stp h j) = true) : hasL w h M := by
  obtain ⟨c, r, hc, hr, rfl, m0⟩ := H.of_tb b0
  obtain ⟨q1, m1, e1⟩ := step_sq H hj m0 b1
  have b2' : tb x (ix h (ln_c (wayOf j) 1 c) (ln_r (wayOf j) 1 r) + stp h j) = true := by rw [← e1, Nat.add_assoc, ← Nat.two_mul]; exact b2
  obtain ⟨q2, m2, e2⟩ := step_sq H hj m1 b2'
  have b3' : tb x (ix h (ln_c (wayOf j) 1 (ln_c (wayOf j) 1 c)) (ln_r (wayOf j) 1 (ln_r (wayOf j) 1 r)) + stp h j) = true := by
    rw [← e2, ← e1]
    have : ix h c r + stp h j + stp h j + stp h j = ix h c r + 3 * stp h j := by omega
    rw [this]; exact b3
  obtain ⟨q3, m3, e3⟩ := step_sq H hj m2 b3'
  rw [ln_c1, ln_r1] at m2
  rw [ln_c1 _ 1 c, ln_r1 _ 1 r, ln_c1, ln_r1] at m3
  refine ⟨wayOf j, c, r, wayOf_lt j, ⟨hc, hr, (H.2 _ _ m3).1, (H.2 _ _ m3).2, fun hw => ?_⟩, fun i hi => ?_⟩
  · have t1 := q1 hw
    have t2 := q2 hw
    have t3 := q3 hw
    rw [hw] at t2 t3
    simp only [ln_r] at t2 t3
    simp at t2 t3
    omega
  · obtain rfl | rfl | rfl | rfl : i = 0 ∨ i = 1 ∨ i = 2 ∨ i = 3 := by omega
    · rw [ln_c0, ln_r0]; exact m0
    · exact m1
    · exact m2
    · exact m3
def stepOf (way : Nat) : Nat := if way = 0 then 0 else if way = 3 then 1 else if way = 1 then 2 else 3
theorem stepOf_lt (way : Nat) : stepOf way < 4 := by unfold stepOf; split <;> first | decide | (split <;> first | decide | (split <;> decide))
theorem ln_ix {w h way c r : Nat} (hw : way < 4) (hl : ln_ok w h way c r) {i : Nat} (hi : i < 4) : ix h c r + i * stp h (stepOf way) = ix h (ln_c way i c) (ln_r way i r) ∧ ln_r way i r < h := by
  obtain ⟨h1, h2, h3, h4, h5⟩ := hl
  obtain rfl | rfl | rfl | rfl : way = 0 ∨ way = 1 ∨ way = 2 ∨ way = 3 := by omega
  · simp [ln_c, ln_r, stepOf, stp] at h3 h4 h5 ⊢
    refine ⟨ix_up h c r i, by omega⟩
  · simp [ln_c, ln_r, stepOf, stp] at h3 h4 h5 ⊢
    refine ⟨?_, h2⟩
    unfold ix
    rw [Nat.add_mul]; omega
  · simp [ln_c, ln_r, stepOf, stp] at h3 h4 h5 ⊢
    refine ⟨?_, by omega⟩
    unfold ix
    have : i * (h + 2) = i * (h + 1) + i := by rw [show h + 2 = (h + 1) + 1 by omega, Nat.mul_succ]
    rw [Nat.add_mul, this]; omega
  · simp [ln_c, ln_r, stepOf, stp] at h3 h4 h5 ⊢
    refine ⟨?_, by omega⟩
    unfold ix
    have : i * (h + 1) = i * h + i := Nat.mul_succ i h
    rw [Nat.add_mul, this]; omega
/-- a line: four set bits, a step apart -/
theorem line_bits {w h : Nat} {x : Int64} {M : Sq} (H : Rep w h x M) (hl : hasL w h M) : ∃ i j, j < 4 ∧ ∀ k, k < 4 → tb x (i + k * stp h j) = true := by
  obtain ⟨way, c, r, hw, ho, hm⟩ := hl
  refine ⟨ix h c r, stepOf way, stepOf_lt way, fun k hk => ?_⟩
  obtain ⟨e, hr⟩ := ln_ix hw ho hk
  rw [e, H.1 _ _ (Nat.le_of_lt hr)]
  exact hm k hk
theorem stp_le {h : Nat} (hh : h ≤ 7) (j : Nat) : stp h j ≤ 9 := by unfold stp; split <;> first | omega | (split <;> first | omega | (split <;> omega))
theorem stp_pos {h : Nat} (hh : 3 ≤ h) (j : Nat) : 1 ≤ stp h j := by unfold stp; split <;> first | omega | (split <;> first | omega | (split <;> omega))
theorem ls_bit {x : Int64} {d : Nat} (hd : d ≤ 9) (i : Nat) : tb (lsL x d) i = (tb x i && (tb x (i + d) && (tb x (i + 2 * d) && tb x (i + 3 * d)))) := by
  unfold lsL
  rw [tb_and, tb_and, tb_shr (by omega), tb_shr (by omega), tb_and, tb_shr (by omega)]
  rw [show d + i = i + d by omega, show 2 * d + i = i + 2 * d by omega, show d + (i + 2 * d) = i + 3 * d by omega]
  cases tb x i <;> cases tb x (i + d) <;> cases tb x (i + 2 * d) <;> cases tb x (i + 3 * d) <;> rfl
theorem nz_bit {x : Int64} (h : ¬ x = 0) : ∃ i, i < 64 ∧ tb x i = true := by
  by_cases q : ∃ i, i < 64 ∧ tb x i = true
  · exact q
  · refine absurd (tb_ext fun i hi => ?_) h
    rw [tb_0]
    cases e : tb x i
    · rfl
    · exact absurd ⟨i, hi, e⟩ q
theorem bit_nz {x : Int64} {i : Nat} (h : tb x i = true) : ¬ x = 0 := by
  intro e
  rw [e, tb_0] at h
  cases h
theorem hl_iff {w h : Nat} (hd : Dm w h) {x : Int64} {M : Sq} (H : Rep w h x M) : hlL h x = true ↔ hasL w h M := by
  obtain ⟨h3w, hw9, h3h, hh7, hwh, h64⟩ := hd
  have key : hlL h x = true ↔ ∃ j, j < 4 ∧ ¬ lsL x (stp h j) = 0 := by
    unfold hlL
    constructor
    · intro q
      simp only [Bool.or_eq_true, Bool.not_eq_true', beq_eq_false_iff_ne] at q
      rcases q with q | q | q | q
      · exact ⟨0, by decide, q⟩
      · exact ⟨1, by decide, q⟩
      · exact ⟨2, by decide, q⟩
      · exact ⟨3, by decide, q⟩
    · rintro ⟨j, hj, q⟩
      simp only [Bool.or_eq_true, Bool.not_eq_true', beq_eq_false_iff_ne]
      obtain rfl | rfl | rfl | rfl : j = 0 ∨ j = 1 ∨ j = 2 ∨ j = 3 := by omega
      · exact Or.inl q
      · exact Or.inr (Or.inl q)
      · exact Or.inr (Or.inr (Or.inl q))
      · exact Or.inr (Or.inr (Or.inr q))
  rw [key]
  constructor
  · rintro ⟨j, hj, q⟩
    obtain ⟨i, -, e⟩ := nz_bit q
    rw [ls_bit (stp_le hh7 j)] at e
    simp only [Bool.and_eq_true] at e
    exact bits_line H hj e.1 e.2.1 e.2.2.1 e.2.2.2
  · intro q
    obtain ⟨i, j, hj, b⟩ := line_bits H q
    refine ⟨j, hj, bit_nz (i := i) ?_⟩
    rw [ls_bit (stp_le hh7 j)]
    have b0 := b 0 (by decide)
    have b1 := b 1 (by decide)
    have b2 := b 2 (by decide)
    have b3 := b 3 (by decide)
    rw [Nat.zero_mul, Nat.add_zero] at b0
    rw [Nat.one_mul] at b1
    rw [b0, b1, b2, b3]; rfl
/-- the board's squares, its floor -/
def onB (w h : Nat) : Sq := fun c r => decide (c < w) && decide (r < h)
theorem tb_pow {k : Nat} (hk : k < 64) (i : Nat) : tb (shlL 1 k) i = decide (i = k) := by
  by_cases hi : i < 64
  · rw [tb_shl hk _ hi, tb_1]
    by_cases e : i = k
    · subst e; simp
    · by_cases h1 : k ≤ i
      · simp [h1, e]; omega
      · simp [h1, e]
  · rw [tb_big (by omega), decide_eq_false (by omega)]
theorem tN_pow {k : Nat} (hk : k < 64) : tN (shlL 1 k) = 2 ^ k := by
  apply Nat.eq_of_testBit_eq
  intro i
  rw [← tb_tN, tb_pow hk, Nat.testBit_two_pow]
  by_cases e : i = k
  · simp [e]
  · simp [e]; omega
theorem tN_shl {k : Nat} (hk : k < 64) {x : Int64} (hx : tN x * 2 ^ k < 2 ^ 64) : tN (shlL x k) = tN x * 2 ^ k := by
  apply Nat.eq_of_testBit_eq
  intro i
  rw [← tb_tN, Nat.testBit_mul_two_pow]
  by_cases hi : i < 64
  · rw [tb_shl hk _ hi, tb_tN]
  · rw [tb_big (by omega)]
    have h1 : (tN x * 2 ^ k).testBit i = false := Nat.testBit_lt_two_pow (Nat.lt_of_lt_of_le hx (Nat.pow_le_pow_right (by decide) (by omega)))
    rw [Nat.testBit_mul_two_pow] at h1
    exact h1.symm
theorem Rep.sq {w h c r : Nat} (hd : Dm w h) (hc : c < w) (hr : r < h) : Rep w h (sqL h c r) (fun c' r' => c' == c && r' == r) := by
  obtain ⟨h3w, hw9, h3h, hh7, hwh, h64⟩ := hd
  have hl := ix_lt hc (Nat.le_of_lt hr)
  refine ⟨fun c' r' hr' => ?_, fun c' r' e => ?_⟩
  · show tb (shlL 1 (ix h c r)) (ix h c' r') = _
    rw [tb_pow (by omega)]
    by_cases e : ix h c' r' = ix h c r
    · obtain ⟨e1, e2⟩ := ix_inj hr' (Nat.le_of_lt hr) e
      simp [e1, e2]
    · rw [decide_eq_false e]
      by_cases e1 : c' = c
      · by_cases e2 : r' = r
        · exact absurd (by rw [e1, e2]) e
        · simp [e2]
      · simp [e1]
  · simp only [Bool.and_eq_true, beq_iff_eq] at e
    rw [e.1, e.2]; exact ⟨hc, hr⟩
theorem Rep.put {w h c r : Nat} (hd : Dm w h) (hc : c < w) (hr : r < h) {x : Int64} {M : Sq} (H : Rep w h x M) : Rep w h (x ||| sqL h c r) (sq_put M c r) := H.or (Rep.sq hd hc hr)
theorem col_bit {w h c : Nat} (hd : Dm w h) (hc : c < w) (c' r : Nat) (hr : r ≤ h) : tb (colL h c) (ix h c' r) = (decide (c' = c) && decide (r < h)) := by
  obtain ⟨h3w, hw9, h3h, hh7, hwh, h64⟩ := hd
  have hl := ix_lt (w := w) (h := h) hc (Nat.le_refl h)
  unfold ix at hl
  have e0 : tN (shlL 1 (c * (h + 1))) = 2 ^ (c * (h + 1)) := tN_pow (by omega)
  have e1 : tN (shlL (shlL 1 (c * (h + 1))) h) = 2 ^ (c * (h + 1)) * 2 ^ h := by
    rw [tN_shl (by omega) (by rw [e0, ← Nat.pow_add]; exact Nat.pow_lt_pow_right (by decide) (by omega)), e0]
  have e2 : tN (colL h c) = 2 ^ (c * (h + 1)) * (2 ^ h - 1) := by
    unfold colL
    rw [tN_sub (by rw [e0, e1]; exact Nat.le_mul_of_pos_right _ (Nat.two_pow_pos h)), e1, e0, Nat.mul_sub, Nat.mul_one]
  rw [tb_tN, e2, Nat.mul_comm, Nat.testBit_mul_two_pow, Nat.testBit_two_pow_sub_one]
  by_cases h1 : c' = c
  · subst h1
    unfold ix
    simp [show c' * (h + 1) + r - c' * (h + 1) = r by omega]
  · simp only [h1, decide_false, Bool.false_and]
    by_cases h2 : c' < c
    · have : (c' + 1) * (h + 1) ≤ c * (h + 1) := Nat.mul_le_mul_right _ h2
      rw [Nat.succ_mul] at this
      unfold ix
      rw [decide_eq_false (by omega)]; rfl
    · have : (c + 1) * (h + 1) ≤ c' * (h + 1) := Nat.mul_le_mul_right _ (by omega)
      rw [Nat.succ_mul] at this
      unfold ix
      rw [decide_eq_false (p := c' * (h + 1) + r - c * (h + 1) < h) (by omega)]; simp
theorem all_bit {w h : Nat} (hd : Dm w h) : ∀ n, n ≤ w → ∀ c r, r ≤ h → tb (allL h n) (ix h c r) = (decide (c < n) && decide (r < h))
  | 0, _, c, r, _ => by unfold allL; rw [tb_0]; simp
  | n + 1, hn, c, r, hr => by
    unfold allL
    rw [tb_or, all_bit hd n (by omega) c r hr, col_bit hd (by omega) c r hr]
    by_cases h1 : c < n
    · simp [h1, show c < n + 1 by omega, show ¬ c = n by omega]
    · by_cases h2 : c = n
      · simp [h2]
      · simp [h1, h2, show ¬ c < n + 1 by omega]
theorem Rep.all {w h : Nat} (hd : Dm w h) : Rep w h (allL h w) (onB w h) := ⟨fun c r hr => all_bit hd w (Nat.le_refl w) c r hr, fun c r e => by simpa [onB] using e⟩
theorem flr_bit {w h : Nat} (hd : Dm w h) : ∀ n, n ≤ w → ∀ c r, r ≤ h → tb (flrL h n) (ix h c r) = (decide (c < n) && decide (r = 0))
  | 0, _, c, r, _ => by unfold flrL; rw [tb_0]; simp
  | n + 1, hn, c, r, hr => by
    have hd' := hd
    obtain ⟨h3w, hw9, h3h, hh7, hwh, h64⟩ := hd'
    have hl := ix_lt (w := w) (h := h) (c := n) (r := 0) (by omega) (by omega)
    unfold flrL
    rw [tb_or, flr_bit hd n (by omega) c r hr, tb_pow (by unfold ix at hl; omega)]
    by_cases e : ix h c r = n * (h + 1)
    · obtain ⟨e1, e2⟩ := ix_inj (h := h) (c' := n) (r' := 0) hr (by omega) e
      rw [decide_eq_true e, decide_eq_true (show c < n + 1 by omega), decide_eq_true e2]; simp
    · rw [decide_eq_false e]
      by_cases h1 : c < n
      · simp [h1, show c < n + 1 by omega]
      · by_cases h2 : c = n
        · have h3 : ¬ r = 0 := fun q => e (by rw [h2, q]; rfl)
          simp [h3]
        · simp [h1, show ¬ c < n + 1 by omega]
theorem dgs_ix {h : Nat} {v : Nat → Nat} {n : Nat} (hv : ∀ c, c < n → v c < 2 ^ (h + 1)) (c r : Nat) (hr : r ≤ h) : (dgs (h + 1) v n).testBit (ix h c r) = (decide (c < n) && (v c).testBit r) := by
  unfold ix
  rw [Nat.mul_comm]
  exact dgs_bit (Nat.succ_pos h) hv c r (by omega)
theorem tN_dgs {h n : Nat} {v : Nat → Nat} {x : Int64} (hv : ∀ c, c < n → v c < 2 ^ (h + 1)) (H : ∀ c r, r ≤ h → tb x (ix h c r) = (decide (c < n) && (v c).testBit r)) : tN x = dgs (h + 1) v n := by
  apply Nat.eq_of_testBit_eq
  intro i
  obtain ⟨c, r, hr, rfl⟩ := ix_of h i
  rw [← tb_tN, H c r hr, dgs_ix hv c r hr]
/-- the stones lie on one another: column c has tp c of them -/
def grav (w : Nat) (tp : Nat → Nat) (U : Sq) : Prop := ∀ c r, U c r = (decide (c < w) && decide (r < tp c))
theorem top_tN {w h : Nat} (hd : Dm w h) {tp : Nat → Nat} (htp : ∀ c, c < w → tp c ≤ h) {u : Int64} {U : Sq} (H : Rep w h u U) (hg : grav w tp U) : tN (u + flrL h w) = dgs (h + 1) (fun c => 2 ^ tp c) w := by
  have hd' := hd
  obtain ⟨h3w, hw9, h3h, hh7, hwh, h64⟩ := hd'
  have e1 : tN u = dgs (h + 1) (fun c => 2 ^ tp c - 1) w := tN_dgs (fun c hc => by
      have := Nat.pow_le_pow_right (n := 2) (by decide) (htp c hc)
      have h2 : 2 ^ (h + 1) = 2 * 2 ^ h := by rw [Nat.pow_succ, Nat.mul_comm]
      have h3 := Nat.two_pow_pos h
      show 2 ^ tp c - 1 < 2 ^ (h + 1)
      omega) (fun c r hr => by
      rw [H.1 c r hr, hg c r, Nat.testBit_two_pow_sub_one])
  have e2 : tN (flrL h w) = dgs (h + 1) (fun _ => 1) w := tN_dgs (fun c _ => Nat.one_lt_two_pow (by omega)) (fun c r hr => by
      rw [flr_bit hd w (Nat.le_refl w) c r hr]
      congr 1
      by_cases h0 : r = 0
      · subst h0; decide
      · rw [decide_eq_false h0]
        cases hq : Nat.testBit 1 r
        · rfl
        · exact absurd (Nat.testBit_one_eq_true_iff_self_eq_zero.mp hq) h0)
  have e3 : dgs (h + 1) (fun c => 2 ^ tp c - 1) w + dgs (h + 1) (fun _ => 1) w = dgs (h + 1) (fun c => 2 ^ tp c) w := by
    rw [dgs_add]
    exact dgs_congr (fun c _ => by have := Nat.two_pow_pos (tp c); show 2 ^ tp c - 1 + 1 = 2 ^ tp c; omega)
  have e4 : dgs (h + 1) (fun c => 2 ^ tp c) w < 2 ^ 64 := Nat.lt_of_lt_of_le (dgs_lt (fun c hc => Nat.pow_lt_pow_right (by decide) (by have := htp c hc; omega))) (Nat.pow_le_pow_right (by decide) (by rw [Nat.mul_comm]; exact h64))
  rw [tN_addS (by rw [e1, e2, e3]; exact e4), e1, e2, e3]
theorem top_bit {w h : Nat} (hd : Dm w h) {tp : Nat → Nat} (htp : ∀ c, c < w → tp c ≤ h) {u : Int64} {U : Sq} (H : Rep w h u U) (hg : grav w tp U) (c r : Nat) (hr : r ≤ h) : tb (u + flrL h w) (ix h c r) = (decide (c < w) && decide (r = tp c)) := by
  rw [tb_tN, top_tN hd htp H hg, dgs_ix (fun c hc => Nat.pow_lt_pow_right (by decide) (by have := htp c hc; omega)) c r hr, Nat.testBit_two_pow]
  congr 1
  by_cases e : r = tp c
  · simp [e]
  · simp [e]; omega
/-- the squares that the next stone can come to -/
def nxS (w h : Nat) (tp : Nat → Nat) : Sq := fun c r => decide (c < w) && (decide (r < h) && decide (r = tp c))
theorem Rep.nx {w h : Nat} (hd : Dm w h) {tp : Nat → Nat} (htp : ∀ c, c < w → tp c ≤ h) {u : Int64} {U : Sq} (H : Rep w h u U) (hg : grav w tp U) : Rep w h (nxL w h u) (nxS w h tp) := by
  refine ⟨fun c r hr => ?_, fun c r e => ?_⟩
  · unfold nxL nxS
    rw [tb_and, top_bit hd htp H hg c r hr, (Rep.all hd).1 c r hr]
    unfold onB
    cases decide (c < w) <;> cases decide (r < h) <;> cases decide (r = tp c) <;> rfl
  · simp only [nxS, Bool.and_eq_true, decide_eq_true_eq] at e
    exact ⟨e.1, e.2.1⟩
end
section
-- ===== M5: threats, safe moves, keys =====
theorem cp_bit {x : Int64} {d : Nat} (hd : d ≤ 9) {i : Nat} (hi : i < 64) : tb (cpL x d) i = ((decide (d ≤ i) && tb x (i - d) && (decide (2 * d ≤ i) && tb x (i - 2 * d)) && (decide (3 * d ≤ i) && tb x (i - 3 * d))) ||
    (decide (d ≤ i) && tb x (i - d) && (decide (2 * d ≤ i) && tb x (i - 2 * d)) && tb x (i + d)) || (decide (d ≤ i) && tb x (i - d) && (tb x (i + d) && tb x (i + 2 * d))) || (tb x (i + d) && tb x (i + 2 * d) && tb x (i + 3 * d))) := by
  unfold cpL
  simp only [tb_or, tb_and, tb_shl (show d < 64 by omega) _ hi, tb_shl (show 2 * d < 64 by omega) _ hi, tb_shl (show 3 * d < 64 by omega) _ hi, tb_shr (show d < 64 by omega), tb_shr (show 2 * d < 64 by omega), tb_shr (show 3 * d < 64 by omega)]
  rw [show d + i = i + d by omega, show 2 * d + i = i + 2 * d by omega, show 3 * d + i = i + 3 * d by omega]
theorem put_bit {w h : Nat} (hd : Dm w h) {x : Int64} {c r : Nat} (hc : c < w) (hr : r < h) (q : Nat) : tb (x ||| sqL h c r) q = (tb x q || decide (q = ix h c r)) := by
  obtain ⟨h3w, hw9, h3h, hh7, hwh, h64⟩ := hd
  have hl := ix_lt hc (Nat.le_of_lt hr)
  rw [tb_or]
  congr 1
  exact tb_pow (k := ix h c r) (by omega) q
/-- completing bit: with the square itself four in a line -/
theorem cp_line {w h : Nat} (hd : Dm w h) {x : Int64} {M : Sq} (H : Rep w h x M) {c r j : Nat} (hc : c < w) (hr : r < h) (hj : j < 4) (hb : tb (cpL x (stp h j)) (ix h c r) = true) : hasL w h (sq_put M c r) := by
  have H' := H.put hd hc hr
  have pb := put_bit hd (x := x) hc hr
  have hd' := hd
  obtain ⟨h3w, hw9, h3h, hh7, hwh, h64⟩ := hd'
  have hl := ix_lt hc (Nat.le_of_lt hr)
  have hs := stp_le hh7 j
  generalize hi : ix h c r = i at hb hl pb
  have own : tb (x ||| sqL h c r) i = true := by rw [pb]; simp
  have up : ∀ q, tb x q = true → tb (x ||| sqL h c r) q = true := fun q e => by rw [pb, e]; rfl
  rw [cp_bit hs (by omega)] at hb
  simp only [Bool.or_eq_true, Bool.and_eq_true, decide_eq_true_eq] at hb
  rcases hb with ((⟨⟨⟨a1, a2⟩, a3, a4⟩, a5, a6⟩ | ⟨⟨⟨a1, a2⟩, a3, a4⟩, a5⟩) | ⟨⟨a1, a2⟩, a3, a4⟩) | ⟨⟨a1, a2⟩, a3⟩
  · refine bits_line H' hj (i := i - 3 * stp h j) (up _ a6) ?_ ?_ ?_
    · rw [show i - 3 * stp h j + stp h j = i - 2 * stp h j by omega]; exact up _ a4
    · rw [show i - 3 * stp h j + 2 * stp h j = i - stp h j by omega]; exact up _ a2
    · rw [show i - 3 * stp h j + 3 * stp h j = i by omega]; exact own
  · refine bits_line H' hj (i := i - 2 * stp h j) (up _ a4) ?_ ?_ ?_
    · rw [show i - 2 * stp h j + stp h j = i - stp h j by omega]; exact up _ a2
    · rw [show i - 2 * stp h j + 2 * stp h j = i by omega]; exact own
    · rw [show i - 2 * stp h j + 3 * stp h j = i + stp h j by omega]; exact up _ a5
  · refine bits_line H' hj (i := i - stp h j) (up _ a2) ?_ ?_ ?_
    · rw [show i - stp h j + stp h j = i by omega]; exact own
    · rw [show i - stp h j + 2 * stp h j = i + stp h j by omega]; exact up _ a3
    · rw [show i - stp h j + 3 * stp h j = i + 2 * stp h j by omega]; exact up _ a4
  · exact bits_line H' hj (i := i) own (up _ a1) (up _ a2) (up _ a3)
theorem line_cp {w h : Nat} (hd : Dm w h) {x : Int64} {M : Sq} (H : Rep w h x M) (hno : ¬ hasL w h M) {c r : Nat} (hc : c < w) (hr : r < h) (hl : hasL w h (sq_put M c r)) : ∃ j, j < 4 ∧ tb (cpL x (stp h j)) (ix h c r) = true := by
  have H' := H.put hd hc hr
  have pb := put_bit hd (x := x) hc hr
  have hd' := hd
  obtain ⟨h3w, hw9, h3h, hh7, hwh, h64⟩ := hd'
  have hlt := ix_lt hc (Nat.le_of_lt hr)
  obtain ⟨i0, j, hj, b⟩ := line_bits H' hl
  have hs := stp_le hh7 j
  have hp := stp_pos h3h j
  refine ⟨j, hj, ?_⟩
  generalize ix h c r = i at hlt pb
  rw [cp_bit hs (by omega)]
  simp only [Bool.or_eq_true, Bool.and_eq_true, decide_eq_true_eq]
  have b0 := b 0 (by decide)
  have b1 := b 1 (by decide)
  have b2 := b 2 (by decide)
  have b3 := b 3 (by decide)
  rw [Nat.zero_mul, Nat.add_zero] at b0
  rw [Nat.one_mul] at b1
  rw [pb] at b0 b1 b2 b3
  have nl : ¬ (tb x i0 = true ∧ tb x (i0 + stp h j) = true ∧ tb x (i0 + 2 * stp h j) = true ∧ tb x (i0 + 3 * stp h j) = true) := fun q => hno (bits_line H hj q.1 q.2.1 q.2.2.1 q.2.2.2)
  generalize stp h j = d at *
  simp only [Bool.or_eq_true, decide_eq_true_eq] at b0 b1 b2 b3
  by_cases e0 : i0 = i
  · subst e0
    have c1 : tb x (i0 + d) = true := b1.resolve_right (by omega)
    have c2 : tb x (i0 + 2 * d) = true := b2.resolve_right (by omega)
    have c3 : tb x (i0 + 3 * d) = true := b3.resolve_right (by omega)
    exact Or.inr ⟨⟨c1, c2⟩, c3⟩
  · have c0 : tb x i0 = true := b0.resolve_right e0
    by_cases e1 : i0 + d = i
    · subst e1
      have c2 : tb x (i0 + 2 * d) = true := b2.resolve_right (by omega)
      have c3 : tb x (i0 + 3 * d) = true := b3.resolve_right (by omega)
      refine Or.inl (Or.inr ⟨⟨by omega, by rw [show i0 + d - d = i0 by omega]; exact c0⟩, ?_, ?_⟩)
      · rw [show i0 + d + d = i0 + 2 * d by omega]; exact c2
      · rw [show i0 + d + 2 * d = i0 + 3 * d by omega]; exact c3
    · have c1 : tb x (i0 + d) = true := b1.resolve_right e1
      by_cases e2 : i0 + 2 * d = i
      · subst e2
        have c3 : tb x (i0 + 3 * d) = true := b3.resolve_right (by omega)
        refine Or.inl (Or.inl (Or.inr ⟨⟨⟨by omega, ?_⟩, by omega, ?_⟩, ?_⟩))
        · rw [show i0 + 2 * d - d = i0 + d by omega]; exact c1
        · rw [show i0 + 2 * d - 2 * d = i0 by omega]; exact c0
        · rw [show i0 + 2 * d + d = i0 + 3 * d by omega]; exact c3
      · have c2 : tb x (i0 + 2 * d) = true := b2.resolve_right e2
        have e3 : i0 + 3 * d = i := by
          rcases b3 with q | q
          · exact absurd ⟨c0, c1, c2, q⟩ nl
          · exact q
        subst e3
        refine Or.inl (Or.inl (Or.inl ⟨⟨⟨by omega, ?_⟩, by omega, ?_⟩, by omega, ?_⟩))
        · rw [show i0 + 3 * d - d = i0 + 2 * d by omega]; exact c2
        · rw [show i0 + 3 * d - 2 * d = i0 + d by omega]; exact c1
        · rw [show i0 + 3 * d - 3 * d = i0 by omega]; exact c0
/-- a bit of threatSquares: an empty square that would make a line -/
theorem th_bit {w h : Nat} (hd : Dm w h) {x u : Int64} {M U : Sq} (H : Rep w h x M) (HU : Rep w h u U) (hno : ¬ hasL w h M) {c r : Nat} (hr : r ≤ h) : tb (thL w h x u) (ix h c r) = true ↔ c < w ∧ r < h ∧ U c r = false ∧ hasL w h (sq_put M c r) := by
  unfold thL
  rw [tb_and, tb_and, (Rep.all hd).1 c r hr]
  by_cases hb : c < w ∧ r < h
  · obtain ⟨hc, hr'⟩ := hb
    have hlt := ix_lt hc (Nat.le_of_lt hr')
    rw [tb_not _ (by have := hd.2.2.2.2.2; omega), HU.1 c r hr]
    simp only [onB, hc, hr', decide_true, Bool.and_true, Bool.and_eq_true, Bool.not_eq_true', true_and]
    have key : tb ((((0 ||| cpL x (stp h 0)) ||| cpL x (stp h 1)) ||| cpL x (stp h 2)) ||| cpL x (stp h 3)) (ix h c r) = true ↔ hasL w h (sq_put M c r) := by
      simp only [tb_or, tb_0, Bool.false_or, Bool.or_eq_true]
      constructor
      · rintro (((q | q) | q) | q)
        · exact cp_line hd H hc hr' (by decide) q
        · exact cp_line hd H hc hr' (by decide) q
        · exact cp_line hd H hc hr' (by decide) q
        · exact cp_line hd H hc hr' (by decide) q
      · intro q
        obtain ⟨j, hj, e⟩ := line_cp hd H hno hc hr' q
        obtain rfl | rfl | rfl | rfl : j = 0 ∨ j = 1 ∨ j = 2 ∨ j = 3 := by omega
        · exact Or.inl (Or.inl (Or.inl e))
        · exact Or.inl (Or.inl (Or.inr e))
        · exact Or.inl (Or.inr e)
        · exact Or.inr e
    rw [key]
    exact ⟨fun q => ⟨q.2, q.1⟩, fun q => ⟨q.2, q.1⟩⟩
  · have e : onB w h c r = false := by
      unfold onB
      by_cases hc : c < w
      · simp [show ¬ r < h from fun q => hb ⟨hc, q⟩]
      · simp [hc]
    rw [e]
    simp only [Bool.and_false, Bool.false_and, Bool.false_eq_true, false_iff]
    exact fun q => hb ⟨q.1, q.2.1⟩
/-- set bits are counted -/
theorem popN_two {x : Int64} : ∀ {k : Nat}, 1 < popN x k → ∃ i j, i < j ∧ j < k ∧ tb x i = true ∧ tb x j = true
  | 0, h => absurd h (by simp [popN])
  | k + 1, h => by
    unfold popN at h
    by_cases e : tb x k = true
    · rw [if_pos e] at h
      have h1 : 0 < popN x k := by omega
      have one : ∀ k, 0 < popN x k → ∃ i, i < k ∧ tb x i = true := by
        intro k
        induction k with
        | zero => intro q; exact absurd q (by simp [popN])
        | succ k ih =>
          intro q
          unfold popN at q
          by_cases e2 : tb x k = true
          · exact ⟨k, by omega, e2⟩
          · rw [if_neg e2] at q
            obtain ⟨i, h1, h2⟩ := ih (by omega)
            exact ⟨i, by omega, h2⟩
      obtain ⟨i, hi, ei⟩ := one k h1
      exact ⟨i, k, hi, by omega, ei, e⟩
    · rw [if_neg e] at h
      obtain ⟨i, j, h1, h2, h3, h4⟩ := popN_two (k := k) (by omega)
      exact ⟨i, j, h1, by omega, h3, h4⟩
theorem popN_pos {x : Int64} {i : Nat} (hx : tb x i = true) : ∀ {k : Nat}, i < k → 0 < popN x k
  | 0, h => absurd h (Nat.not_lt_zero _)
  | k + 1, h => by
    unfold popN
    by_cases e : i = k
    · subst e; rw [if_pos hx]; omega
    · have := popN_pos hx (k := k) (by omega); omega
theorem popN_two' {x : Int64} {i j : Nat} (hij : i < j) (hi : tb x i = true) (hj : tb x j = true) : ∀ {k : Nat}, j < k → 1 < popN x k
  | 0, h => absurd h (Nat.not_lt_zero _)
  | k + 1, h => by
    unfold popN
    by_cases e : j = k
    · subst e
      have := popN_pos hi (k := j) hij
      rw [if_pos hj]; omega
    · have := popN_two' hij hi hj (k := k) (by omega); omega
/-- where two sets have the same key they are the same -/
def keyL (w h : Nat) (m t : Int64) : Int64 := ((m ||| t) + flrL h w) ||| m
theorem key_bit {w h : Nat} (hd : Dm w h) {tp : Nat → Nat} (htp : ∀ c, c < w → tp c ≤ h) {m t : Int64} {M T : Sq} (Hm : Rep w h m M) (Ht : Rep w h t T) (hg : grav w tp (fun c r => M c r || T c r)) (c r : Nat) (hr : r ≤ h) : tb (keyL w h m t) (ix h c r) = ((decide (c < w) && decide (r = tp c)) || M c r) := by
  unfold keyL
  rw [tb_or, top_bit hd htp (Hm.or Ht) hg c r hr, Hm.1 c r hr]
theorem key_inj {w h : Nat} (hd : Dm w h) {tp tp' : Nat → Nat} (htp : ∀ c, c < w → tp c ≤ h) (htp' : ∀ c, c < w → tp' c ≤ h) {m t m' t' : Int64} {M T M' T' : Sq} (Hm : Rep w h m M) (Ht : Rep w h t T) (Hm' : Rep w h m' M') (Ht' : Rep w h t' T')
    (hg : grav w tp (fun c r => M c r || T c r)) (hg' : grav w tp' (fun c r => M' c r || T' c r)) (hdj : ∀ c r, M c r = true → T c r = false) (hdj' : ∀ c r, M' c r = true → T' c r = false) (e : keyL w h m t = keyL w h m' t') : (∀ c, c < w → tp c = tp' c) ∧ M = M' ∧ T = T' := by
  have kb := fun c r hr => key_bit hd htp Hm Ht hg c r hr
  have kb' := fun c r hr => key_bit hd htp' Hm' Ht' hg' c r hr
  have below : ∀ c r, M c r = true → r < tp c := fun c r q => by
    have this : (M c r || T c r) = (decide (c < w) && decide (r < tp c)) := hg c r
    rw [q] at this
    simp at this
    exact this.2
  have below' : ∀ c r, M' c r = true → r < tp' c := fun c r q => by
    have this : (M' c r || T' c r) = (decide (c < w) && decide (r < tp' c)) := hg' c r
    rw [q] at this
    simp at this
    exact this.2
  have et : ∀ c, c < w → tp c = tp' c := by
    intro c hc
    have k1 := kb c (tp' c) (htp' c hc)
    have k2 := kb' c (tp' c) (htp' c hc)
    have k3 := kb c (tp c) (htp c hc)
    have k4 := kb' c (tp c) (htp c hc)
    rw [e, k2] at k1
    rw [e, k4] at k3
    simp only [hc, decide_true, Bool.true_and, Bool.true_or] at k1 k3
    have q1 := k1.symm
    have q3 := k3
    simp only [Bool.or_eq_true, decide_eq_true_eq] at q1 q3
    rcases q1 with q | q
    · exact q.symm
    · rcases q3 with q' | q'
      · exact q'
      · have a1 := below c _ q
        have a2 := below' c _ q'
        omega
  have eM : M = M' := by
    funext c r
    by_cases hc : c < w
    · by_cases hr : r < tp c
      · have hr' : r ≤ h := by have := htp c hc; omega
        have k1 := kb c r hr'
        rw [e, kb' c r hr', ← et c hc] at k1
        rw [decide_eq_false (show ¬ r = tp c by omega)] at k1
        simpa using k1.symm
      · have f1 : M c r = false := by cases q : M c r; rfl; exact absurd (below c r q) hr
        have f2 : M' c r = false := by cases q : M' c r; rfl; exact absurd (below' c r q) (by rw [← et c hc]; exact hr)
        rw [f1, f2]
    · rw [Hm.off (fun q => hc q.1), Hm'.off (fun q => hc q.1)]
  refine ⟨et, eM, ?_⟩
  funext c r
  have g1 := hg c r
  have g2 := hg' c r
  by_cases hc : c < w
  · rw [← et c hc] at g2
    rw [← g1] at g2
    simp only at g2
    subst eM
    cases q : M c r
    · rw [q] at g2; simpa using g2.symm
    · rw [hdj c r q, hdj' c r q]
  · rw [Ht.off (fun q => hc q.1), Ht'.off (fun q => hc q.1)]
theorem key_nz {w h : Nat} (hd : Dm w h) {tp : Nat → Nat} (htp : ∀ c, c < w → tp c ≤ h) {m t : Int64} {M T : Sq} (Hm : Rep w h m M) (Ht : Rep w h t T) (hg : grav w tp (fun c r => M c r || T c r)) : ¬ keyL w h m t = 0 := by
  have h0 : 0 < w := by have := hd.1; omega
  refine bit_nz (i := ix h 0 (tp 0)) ?_
  rw [key_bit hd htp Hm Ht hg 0 (tp 0) (htp 0 h0)]
  simp [h0]
end
section
-- ===== M6: positions and what they are worth =====
/-- the number of empty squares of the first n columns -/
def emp (h : Nat) (tp : Nat → Nat) : Nat → Nat
  | 0 => 0
  | n + 1 => emp h tp n + (h - tp n)
theorem emp_pos {h : Nat} {tp : Nat → Nat} : ∀ {n : Nat}, 0 < emp h tp n → ∃ c, c < n ∧ tp c < h
  | 0, q => absurd q (Nat.lt_irrefl 0)
  | n + 1, q => by
    unfold emp at q
    by_cases e : tp n < h
    · exact ⟨n, by omega, e⟩
    · obtain ⟨c, h1, h2⟩ := emp_pos (h := h) (tp := tp) (n := n) (by omega)
      exact ⟨c, by omega, h2⟩
theorem emp_some {h : Nat} {tp : Nat → Nat} {c : Nat} (hc : tp c < h) : ∀ {n : Nat}, c < n → 0 < emp h tp n
  | 0, q => absurd q (Nat.not_lt_zero _)
  | n + 1, q => by
    unfold emp
    by_cases e : c = n
    · subst e; omega
    · have := emp_some hc (n := n) (by omega); omega
theorem emp_congr {h : Nat} {tp tp' : Nat → Nat} : ∀ {n : Nat}, (∀ c, c < n → tp c = tp' c) → emp h tp n = emp h tp' n
  | 0, _ => rfl
  | n + 1, q => by
    unfold emp
    rw [emp_congr (n := n) (fun c hc => q c (by omega)), q n (by omega)]
theorem emp_inc {h : Nat} {tp : Nat → Nat} {c : Nat} (hc : tp c < h) : ∀ {n : Nat}, c < n → emp h (tp_inc tp c) n + 1 = emp h tp n
  | 0, q => absurd q (Nat.not_lt_zero _)
  | n + 1, q => by
    unfold emp
    by_cases e : c = n
    · subst e
      rw [emp_congr (tp' := tp) (fun k hk => by unfold tp_inc; rw [if_neg (by omega)])]
      have : tp_inc tp c c = tp c + 1 := if_pos rfl
      rw [this]; omega
    · have h1 := emp_inc hc (n := n) (by omega)
      have h2 : tp_inc tp c n = tp n := if_neg (by omega)
      rw [h2]; omega
/-- a position that nobody has won: k squares are empty, tp their columns' heights, M the stones of the one whose turn it is -/
def PosOK (w h k : Nat) (tp : Nat → Nat) (M T : Sq) : Prop :=
  (∀ c, c < w → tp c ≤ h) ∧ grav w tp (fun c r => M c r || T c r) ∧ (∀ c r, M c r = true → T c r = false) ∧ ¬ hasL w h M ∧ ¬ hasL w h T ∧ k = emp h tp w
theorem put_at {M : Sq} {c r c' r' : Nat} : sq_put M c r c' r' = true ↔ M c' r' = true ∨ (c' = c ∧ r' = r) := by simp [sq_put]
theorem PosOK.child {w h k : Nat} {tp : Nat → Nat} {M T : Sq} (H : PosOK w h (k + 1) tp M T) {c : Nat} (hc : c < w) (hr : tp c < h) (hl : ¬ hasL w h (sq_put M c (tp c))) : PosOK w h k (tp_inc tp c) T (sq_put M c (tp c)) := by
  obtain ⟨h1, h2, h3, h4, h5, h6⟩ := H
  have hT : ∀ c r, T c r = true → r < tp c := fun c r q => by
    have this : (M c r || T c r) = (decide (c < w) && decide (r < tp c)) := h2 c r
    rw [q] at this
    simp at this
    exact this.2
  refine ⟨fun c' hc' => ?_, fun c' r' => ?_, fun c' r' q => ?_, h5, hl, ?_⟩
  · unfold tp_inc
    split
    · rename_i e; subst e; omega
    · exact h1 c' hc'
  · have this : (M c' r' || T c' r') = (decide (c' < w) && decide (r' < tp c')) := h2 c' r'
    show (T c' r' || sq_put M c (tp c) c' r') = _
    unfold sq_put tp_inc
    rw [← Bool.or_assoc, Bool.or_comm (T c' r'), this]
    by_cases e : c' = c
    · subst e
      simp only [hc, decide_true, Bool.true_and, if_true, beq_self_eq_true]
      by_cases e2 : r' < tp c'
      · simp [e2, show r' < tp c' + 1 by omega]
      · by_cases e3 : r' = tp c'
        · simp [e3]
        · simp [e2, e3, show ¬ r' < tp c' + 1 by omega]
    · simp [e]
  · cases q2 : sq_put M c (tp c) c' r'
    · rfl
    · rcases put_at.mp q2 with q3 | ⟨rfl, rfl⟩
      · have := h3 c' r' q3
        rw [q] at this; cases this
      · exact absurd (hT _ _ q) (Nat.lt_irrefl _)
  · have := emp_inc (h := h) hr (n := w) hc
    omega
theorem PosOK.move {w h k : Nat} {tp : Nat → Nat} {M T : Sq} (H : PosOK w h (k + 1) tp M T) : ∃ c, c < w ∧ tp c < h := emp_pos (by have := H.2.2.2.2.2; omega)
/-- a drop that wins at once -/
def winsAt (w h : Nat) (tp : Nat → Nat) (M : Sq) (c : Nat) : Prop := c < w ∧ tp c < h ∧ hasL w h (sq_put M c (tp c))
theorem Sc_win {w h k : Nat} {tp : Nat → Nat} {M T : Sq} {c : Nat} (hw : winsAt w h tp M c) : Sc w h (k + 1) tp M T = (k : Int) + 1 := by
  have h1 := Sc_ge (k := k) (M := M) (T := T) hw.1 hw.2.1
  rw [Mv_win hw.2.2] at h1
  have h2 := (Sc_bd w h (k + 1) tp M T).2
  omega
/-- the best that one can hope for who cannot win at once -/
theorem Sc_most {w h k : Nat} {tp : Nat → Nat} {M T : Sq} (H : PosOK w h (k + 1) tp M T) (hn : ∀ c, ¬ winsAt w h tp M c) (hk : 1 ≤ k) : Sc w h (k + 1) tp M T ≤ (k : Int) - 1 := by
  obtain ⟨c, hc, hr, e⟩ := Sc_is (k := k) (M := M) (T := T) H.move
  have hl : ¬ hasL w h (sq_put M c (tp c)) := fun q => hn c ⟨hc, hr, q⟩
  have C := H.child hc hr hl
  obtain ⟨k', rfl⟩ : ∃ k', k = k' + 1 := ⟨k - 1, by omega⟩
  rw [e, Mv_go hl]
  have := Sc_lt (k := k') (M := T) (T := sq_put M c (tp c)) C.move
  omega
/-- a bad drop: the other one wins at once -/
def badAt (w h : Nat) (tp : Nat → Nat) (T : Sq) (c : Nat) : Prop := ∃ c', winsAt w h (tp_inc tp c) T c'
theorem Mv_bad {w h k : Nat} {tp : Nat → Nat} {M T : Sq} (H : PosOK w h (k + 1) tp M T) (hn : ∀ c, ¬ winsAt w h tp M c) {c : Nat} (hc : c < w) (hr : tp c < h) (hu : badAt w h tp T c) : Mv w h k tp M T c = -(k : Int) := by
  have hl : ¬ hasL w h (sq_put M c (tp c)) := fun q => hn c ⟨hc, hr, q⟩
  have C := H.child hc hr hl
  obtain ⟨c', hw⟩ := hu
  have hk : 0 < k := by
    rw [C.2.2.2.2.2]
    exact emp_some hw.2.1 hw.1
  obtain ⟨k', rfl⟩ : ∃ k', k = k' + 1 := ⟨k - 1, by omega⟩
  rw [Mv_go hl, Sc_win hw]
  omega
theorem Sc_lost {w h k : Nat} {tp : Nat → Nat} {M T : Sq} (H : PosOK w h (k + 1) tp M T) (hn : ∀ c, ¬ winsAt w h tp M c) (hu : ∀ c, c < w → tp c < h → badAt w h tp T c) : Sc w h (k + 1) tp M T = -(k : Int) := by
  obtain ⟨c, hc, hr, e⟩ := Sc_is (k := k) (M := M) (T := T) H.move
  rw [e]
  exact Mv_bad H hn hc hr (hu c hc hr)
/-- where a safe drop is, the score is that of the best safe drop -/
theorem Sc_safe {w h k : Nat} {tp : Nat → Nat} {M T : Sq} (H : PosOK w h (k + 1) tp M T) (hn : ∀ c, ¬ winsAt w h tp M c) {c0 : Nat} (hc0 : c0 < w) (hr0 : tp c0 < h) (hs0 : ¬ badAt w h tp T c0) : ∃ c, c < w ∧ tp c < h ∧ ¬ badAt w h tp T c ∧ Sc w h (k + 1) tp M T = Mv w h k tp M T c := by
  obtain ⟨c, hc, hr, e⟩ := Sc_is (k := k) (M := M) (T := T) H.move
  by_cases hu : badAt w h tp T c
  · rw [Mv_bad H hn hc hr hu] at e
    have h1 := Sc_ge (k := k) (M := M) (T := T) hc0 hr0
    have h2 := (Mv_bd w h k tp M T c0).1
    exact ⟨c0, hc0, hr0, hs0, by omega⟩
  · exact ⟨c, hc, hr, hu, e⟩
theorem Sc_least {w h k : Nat} {tp : Nat → Nat} {M T : Sq} (H : PosOK w h (k + 1) tp M T) (hn : ∀ c, ¬ winsAt w h tp M c) {c0 : Nat} (hc0 : c0 < w) (hr0 : tp c0 < h) (hs0 : ¬ badAt w h tp T c0) (hk : 2 ≤ k) : 2 - (k : Int) ≤ Sc w h (k + 1) tp M T := by
  have hl : ¬ hasL w h (sq_put M c0 (tp c0)) := fun q => hn c0 ⟨hc0, hr0, q⟩
  have C := H.child hc0 hr0 hl
  have h1 := Sc_ge (k := k) (M := M) (T := T) hc0 hr0
  rw [Mv_go hl] at h1
  obtain ⟨k', rfl⟩ : ∃ k', k = k' + 1 := ⟨k - 1, by omega⟩
  have h2 := Sc_most C (fun c q => hs0 ⟨c, q⟩) (by omega)
  omega
theorem Sc_few {w h k : Nat} {tp : Nat → Nat} {M T : Sq} (H : PosOK w h (k + 1) tp M T) (hn : ∀ c, ¬ winsAt w h tp M c) {c0 : Nat} (hc0 : c0 < w) (hr0 : tp c0 < h) (hs0 : ¬ badAt w h tp T c0) (hk : k ≤ 1) : Sc w h (k + 1) tp M T = 0 := by
  obtain ⟨c, hc, hr, hs, e⟩ := Sc_safe H hn hc0 hr0 hs0
  have hl : ¬ hasL w h (sq_put M c (tp c)) := fun q => hn c ⟨hc, hr, q⟩
  have C := H.child hc hr hl
  rw [e, Mv_go hl]
  obtain rfl | rfl : k = 0 ∨ k = 1 := by omega
  · rfl
  · obtain ⟨c2, hc2, hr2, e2⟩ := Sc_is (k := 0) (M := T) (T := sq_put M c (tp c)) C.move
    have hl2 : ¬ hasL w h (sq_put T c2 (tp_inc tp c c2)) := fun q => hs ⟨c2, hc2, hr2, q⟩
    rw [e2, Mv_go hl2]
    rfl
/-- one whose lines are all stopped never wins -/
theorem Sc_stop {w h : Nat} : ∀ (k : Nat) (tp : Nat → Nat) (M T : Sq), PosOK w h k tp M T → (¬ hasL w h (fun c r => onB w h c r && !T c r) → Sc w h k tp M T ≤ 0) ∧ (¬ hasL w h (fun c r => onB w h c r && !M c r) → 0 ≤ Sc w h k tp M T)
  | 0, tp, M, T, _ => ⟨fun _ => Int.le_refl _, fun _ => Int.le_refl _⟩
  | k + 1, tp, M, T, H => by
    have H0 := H
    obtain ⟨h1, h2, h3, h4, h5, h6⟩ := H0
    have hin : ∀ c r, (M c r = true ∨ T c r = true) → c < w ∧ r < tp c := fun c r q => by
      have this : (M c r || T c r) = (decide (c < w) && decide (r < tp c)) := h2 c r
      have q2 : (M c r || T c r) = true := by rcases q with q | q <;> simp [q]
      rw [q2] at this
      simpa using this.symm
    have mono : ∀ {A B : Sq}, (∀ c r, A c r = true → B c r = true) → hasL w h A → hasL w h B := by
      rintro A B q ⟨way, c, r, a1, a2, a3⟩
      exact ⟨way, c, r, a1, a2, fun i hi => q _ _ (a3 i hi)⟩
    have nowin : ∀ c, c < w → tp c < h → ¬ hasL w h (fun c r => onB w h c r && !T c r) → ¬ hasL w h (sq_put M c (tp c)) := by
      intro c hc hr hs q
      refine hs (mono (fun c' r' e => ?_) q)
      rcases put_at.mp e with e | ⟨rfl, rfl⟩
      · obtain ⟨a1, a2⟩ := hin c' r' (Or.inl e)
        have a3 := h3 c' r' e
        have a4 := h1 c' a1
        simp [onB, a1, a3]; omega
      · have a3 : T c' (tp c') = false := by
          cases q2 : T c' (tp c')
          · rfl
          · exact absurd (hin _ _ (Or.inr q2)).2 (Nat.lt_irrefl _)
        simp [onB, hc, hr, a3]
    constructor
    · intro hs
      obtain ⟨c, hc, hr, e⟩ := Sc_is (k := k) (M := M) (T := T) H.move
      have hl := nowin c hc hr hs
      rw [e, Mv_go hl]
      have := (Sc_stop k (tp_inc tp c) T (sq_put M c (tp c)) (H.child hc hr hl)).2 hs
      omega
    · intro hs
      obtain ⟨c, hc, hr⟩ := H.move
      have h7 := Sc_ge (k := k) (M := M) (T := T) hc hr
      by_cases hl : hasL w h (sq_put M c (tp c))
      · rw [Mv_win hl] at h7; omega
      · rw [Mv_go hl] at h7
        have := (Sc_stop k (tp_inc tp c) T (sq_put M c (tp c)) (H.child hc hr hl)).1 (fun q => hs (mono (fun c' r' e => by
          simp only [Bool.and_eq_true, Bool.not_eq_true'] at e ⊢
          refine ⟨e.1, ?_⟩
          cases q2 : M c' r'
          · rfl
          · have := e.2
            unfold sq_put at this
            rw [q2] at this; simp at this) q))
        omega
/-- the two longs of a position -/
def Pos (w h k : Nat) (tp : Nat → Nat) (M T : Sq) (m t : Int64) : Prop := Rep w h m M ∧ Rep w h t T ∧ PosOK w h k tp M T
theorem Pos.win {w h k : Nat} (hd : Dm w h) {tp : Nat → Nat} {M T : Sq} {m t : Int64} (H : Pos w h k tp M T m t) : ¬ (thL w h m (m ||| t) &&& nxL w h (m ||| t)) = 0 ↔ ∃ c, winsAt w h tp M c := by
  obtain ⟨Hm, Ht, h1, h2, h3, h4, h5, h6⟩ := H
  have HU := Hm.or Ht
  have Hn := Rep.nx hd h1 HU h2
  constructor
  · intro q
    obtain ⟨i, -, e⟩ := nz_bit q
    obtain ⟨c, r, hr, rfl⟩ := ix_of h i
    rw [tb_and, Bool.and_eq_true, th_bit hd Hm HU h4 hr, Hn.1 c r hr] at e
    obtain ⟨⟨a1, a2, a3, a4⟩, a5⟩ := e
    simp only [nxS, Bool.and_eq_true, decide_eq_true_eq] at a5
    obtain ⟨b1, b2, b3⟩ := a5
    subst b3
    exact ⟨c, b1, b2, a4⟩
  · rintro ⟨c, hc, hr, hl⟩
    refine bit_nz (i := ix h c (tp c)) ?_
    rw [tb_and, Bool.and_eq_true, th_bit hd Hm HU h4 (Nat.le_of_lt hr), Hn.1 c _ (Nat.le_of_lt hr)]
    refine ⟨⟨hc, hr, ?_, hl⟩, by simp [nxS, hc, hr]⟩
    have this : (M c (tp c) || T c (tp c)) = (decide (c < w) && decide (tp c < tp c)) := h2 c (tp c)
    show (M c (tp c) || T c (tp c)) = false
    rw [this]; simp
end
section
-- ===== M7: the safe moves =====
theorem tp_inc_self (tp : Nat → Nat) (c : Nat) : tp_inc tp c c = tp c + 1 := if_pos rfl
theorem tp_inc_ne (tp : Nat → Nat) {c c' : Nat} (h : c' ≠ c) : tp_inc tp c c' = tp c' := if_neg h
theorem Pos.safe {w h k : Nat} (hd : Dm w h) {tp : Nat → Nat} {M T : Sq} {m t : Int64} (H : Pos w h k tp M T m t) :
    (∀ c r, r ≤ h → tb (smL (nxL w h (m ||| t)) (thL w h t (m ||| t))) (ix h c r) = true → c < w ∧ r = tp c ∧ tp c < h ∧ ¬ badAt w h tp T c) ∧
    (∀ c, c < w → tp c < h → tb (smL (nxL w h (m ||| t)) (thL w h t (m ||| t))) (ix h c (tp c)) = false → badAt w h tp T c) := by
  obtain ⟨Hm, Ht, h1, h2, h3, h4, h5, h6⟩ := H
  have HU := Hm.or Ht
  have Hn := Rep.nx hd h1 HU h2
  have h64 := hd.2.2.2.2.2
  have hU : ∀ c r, tp c ≤ r → (M c r || T c r) = false := fun c r q => by
    have this : (M c r || T c r) = (decide (c < w) && decide (r < tp c)) := h2 c r
    rw [this, decide_eq_false (show ¬ r < tp c by omega)]; simp
  have thb : ∀ c r, r ≤ h → (tb (thL w h t (m ||| t)) (ix h c r) = true ↔ c < w ∧ r < h ∧ (M c r || T c r) = false ∧ hasL w h (sq_put T c r)) := fun c r hr => th_bit hd Ht HU h5 hr
  have nxb : ∀ c r, r ≤ h → (tb (nxL w h (m ||| t)) (ix h c r) = true ↔ c < w ∧ r < h ∧ r = tp c) := fun c r hr => by
    rw [Hn.1 c r hr]; simp [nxS]
  generalize nxL w h (m ||| t) = nx at nxb ⊢
  generalize thL w h t (m ||| t) = th at thb ⊢
  have Fb : ∀ c r, r ≤ h → (tb (nx &&& th) (ix h c r) = true ↔ c < w ∧ r = tp c ∧ tp c < h ∧ hasL w h (sq_put T c (tp c))) := by
    intro c r hr
    rw [tb_and, Bool.and_eq_true, nxb c r hr, thb c r hr]
    constructor
    · rintro ⟨⟨a1, a2, rfl⟩, b1, b2, b3, b4⟩
      exact ⟨a1, rfl, a2, b4⟩
    · rintro ⟨a1, rfl, a2, a3⟩
      exact ⟨⟨a1, a2, rfl⟩, a1, a2, hU _ _ (Nat.le_refl _), a3⟩
  have two : ∀ c c', c < w → c' < w → c ≠ c' → tb (nx &&& th) (ix h c (tp c)) = true → tb (nx &&& th) (ix h c' (tp c')) = true → 1 < popN (nx &&& th) 64 := by
    intro c c' hc hc' hne e e'
    have l1 := ix_lt hc (h1 c hc)
    have l2 := ix_lt hc' (h1 c' hc')
    have ne : ix h c (tp c) ≠ ix h c' (tp c') := fun q => hne (ix_inj (h1 c hc) (h1 c' hc') q).1
    rcases Nat.lt_or_gt_of_ne ne with q | q
    · exact popN_two' q e e' (by omega)
    · exact popN_two' q e' e (by omega)
  have sh : ∀ c r, tb (shrL th 1) (ix h c r) = tb th (ix h c (r + 1)) := fun c r => by
    rw [tb_shr (by decide), Nat.add_comm 1, ix_up]
  constructor
  · intro c r hr e
    unfold smL at e
    by_cases hp : 1 < popN (nx &&& th) 64
    · rw [if_pos hp, tb_0] at e; cases e
    · rw [if_neg hp, tb_and, Bool.and_eq_true] at e
      obtain ⟨e1, e2⟩ := e
      have en : tb nx (ix h c r) = true := by
        by_cases hF : nx &&& th = 0
        · rw [if_pos hF] at e1; exact e1
        · rw [if_neg hF, tb_and, Bool.and_eq_true] at e1; exact e1.1
      obtain ⟨hc, hrh, rfl⟩ := (nxb c r hr).mp en
      refine ⟨hc, rfl, hrh, ?_⟩
      rintro ⟨c', hc', hr', hl'⟩
      have l1 := ix_lt hc hr
      by_cases ec : c' = c
      · subst ec
        rw [tp_inc_self] at hr' hl'
        rw [tb_not _ (by omega), sh, Bool.not_eq_true'] at e2
        have := (thb c' (tp c' + 1) (by omega)).mpr ⟨hc', hr', hU _ _ (by omega), hl'⟩
        rw [e2] at this; cases this
      · rw [tp_inc_ne tp ec] at hr' hl'
        have eF := (Fb c' (tp c') (by omega)).mpr ⟨hc', rfl, hr', hl'⟩
        rw [if_neg (bit_nz eF)] at e1
        exact hp (two c c' hc hc' (Ne.symm ec) e1 eF)
  · intro c hc hr e
    have hle : tp c ≤ h := h1 c hc
    have l1 := ix_lt hc hle
    have en : tb nx (ix h c (tp c)) = true := (nxb c (tp c) hle).mpr ⟨hc, hr, rfl⟩
    have other : ∀ c', tb (nx &&& th) (ix h c' (tp c')) = true → tp c' ≤ h → c' ≠ c → badAt w h tp T c := by
      intro c' q ql hne
      obtain ⟨a1, -, a2, a3⟩ := (Fb c' (tp c') ql).mp q
      exact ⟨c', a1, by rw [tp_inc_ne tp hne]; exact a2, by rw [tp_inc_ne tp hne]; exact a3⟩
    have above : tb (shrL th 1 ^^^ (-1)) (ix h c (tp c)) = false → badAt w h tp T c := by
      intro q
      rw [tb_not _ (by omega), sh, Bool.not_eq_false'] at q
      have a := (thb c (tp c + 1) (by omega)).mp q
      exact ⟨c, hc, by rw [tp_inc_self]; exact a.2.1, by rw [tp_inc_self]; exact a.2.2.2⟩
    unfold smL at e
    by_cases hp : 1 < popN (nx &&& th) 64
    · obtain ⟨i, j, hij, hj, bi, bj⟩ := popN_two hp
      obtain ⟨c1, r1, q1, rfl⟩ := ix_of h i
      obtain ⟨c2, r2, q2, rfl⟩ := ix_of h j
      obtain ⟨a1, rfl, a2, a3⟩ := (Fb c1 r1 q1).mp bi
      obtain ⟨b1, rfl, b2, b3⟩ := (Fb c2 r2 q2).mp bj
      by_cases ec : c1 = c
      · have hne : c2 ≠ c := fun q => by rw [ec, q] at hij; exact absurd hij (Nat.lt_irrefl _)
        exact other c2 bj q2 hne
      · exact other c1 bi q1 ec
    · rw [if_neg hp, tb_and] at e
      by_cases hF : nx &&& th = 0
      · rw [if_pos hF, en, Bool.true_and] at e
        exact above e
      · rw [if_neg hF] at e
        cases eF : tb (nx &&& th) (ix h c (tp c))
        · obtain ⟨i, -, bi⟩ := nz_bit hF
          obtain ⟨c1, r1, q1, rfl⟩ := ix_of h i
          obtain ⟨a1, rfl, a2, a3⟩ := (Fb c1 r1 q1).mp bi
          refine other c1 bi q1 (fun q => ?_)
          subst q
          rw [eF] at bi; cases bi
        · rw [eF, Bool.true_and] at e
          exact above e
end
section
-- ===== contracts of methods that write =====
def MPc (D : va_G) (av : List Value) (wo : va_W) (tys : List (ClassId × FieldType)) (sz : Nat) : Array Value → State → Prop := fun v U => v = av.toArray ∧ U.heap.size = sz ∧ va_P D vwCl wo U.heap ∧ va_K D vwCl tys U ∧ va_D (fun _ => True) wo ∧ NWa U
theorem MPc.blind {D : va_G} {av : List Value} {wo : va_W} {tys : List (ClassId × FieldType)} {sz : Nat} : FrameBlind (MPc D av wo tys sz) := by
  intro a U g mk q
  obtain ⟨q0, qz, qP, qK, qD, qN⟩ := q
  exact ⟨q0, qz, qP, va_K.moved (u := U) (U := U.calling g mk a) (Vm.Alike.refl U.vm) qK, qD, NWa.same (s := U) (U := U.calling g mk a) rfl qN⟩
theorem MPc.at {D : va_G} {av : List Value} {wo : va_W} {tys : List (ClassId × FieldType)} {s : State} {H : Heap} {A : Nat → Prop} (hP : va_P D vwCl wo H) (hD : va_D A wo) (hK : va_K D vwCl tys s) (hN : NWa s) : ∀ U : State, U.heap = H → s.WarmedH U.vm → MPc D av wo tys H.size av.toArray U :=
  fun U hU hW => ⟨rfl, by rw [hU], by rw [hU]; exact hP, va_K.moved hW.alike hK, hD.weaken (fun _ _ _ _ => trivial), hN.warm hW⟩
theorem mu_head {l : Launch} {y : MethodName} {ws ws' : List Cond} {rm : Room} {D : va_G} {av : List Value} {wo : va_W} {tys : List (ClassId × FieldType)} {Qc : (Nat → Prop) → Array Value → State → Outcome → State → Prop} {mc ms sz : Nat} {cc : ByteArray} {maxL : Nat} {ret : Option FieldType} (hy : plainName y.cls = true) (hw : ws = Cond.code y cc maxL ret :: ws') (hn : (lg_sl av).length ≤ maxL)
    (body : ∀ (p : Program) (e : Env) (s : State) (m : MethodId) (below : List Frame) (meth : Method) (c : Code) (ls : Array Slot) (A : Nat → Prop), p.tables.exec = Jvm.exec → c.code = cc → meth.sig.returnType = ret → meth.locks = false → meth.name = y.name → (∀ w ∈ ws, w.before av.toArray s = true) → s.vm.findClass y.cls = some m.cls → c.maxLocals = maxL → (∀ q : Nat, s.heap.size ≤ q → A q) →
      va_P D vwCl wo s.heap → va_K D vwCl tys s → va_D A wo → NWa s → va_S A s.heap s.heap [] → lv_has ls maxL (lv_args 0 av) →
      W p l e rm s m av.toArray below meth c s.heap [] 0 0 (MQ below (Qc A) av.toArray s mc ms A) (F0 m 0 ls [])) : Met l y ws rm (MPc D av wo tys sz) (Qc (va_A wo sz)) mc ms (va_A wo sz) := by
  refine Met.ofW (cc := cc) (maxL := maxL) (ret := ret) hy hw ?_
  intro p e s m args below meth c s₁ B hml hv
  obtain ⟨rfl, hsz, hP, hK, hD0, hN⟩ := hv
  rw [lg_entry_eq]
  subst hsz
  exact body p e s m below meth c _ _ B.exec B.bytes B.returns B.notSynchronized (name_of_methodNamed B.named B.method).1 (atoms_spec (ws := ws) B.pre) (findClass_of_methodNamed B.named) hml (fun q h => Or.inr h) hP hK (hD0.self (sz := s.heap.size)) hN va_S.rf (lv_entry av hn)
section Rows4
variable {p : Program} {l : Launch} {e : Env} {R : Room} {s : State} {m : MethodId} {args : Array Value} {below : List Frame} {meth : Method} {c : Code} {H : Heap} {locs : List Loc} {cells slots : Nat} {Q : State → Prop}
variable {pc : Nat} {ls : Array Slot} {rest st0 : List Value} {cc : ByteArray} {D : va_G} {A : Nat → Prop} {S : Type} {wf : S → va_W}
/-- the ends of a contract that writes: the answer, the new cells -/
abbrev mQi (D : va_G) (post : Int32 → S → Prop) (wf : S → va_W) (A : Nat → Prop) : Array Value → State → Outcome → State → Prop := va_Qi post (fun u t => va_P D vwCl (wf u) t.heap ∧ va_D A (wf u)) A
abbrev mQv (D : va_G) (post : S → Prop) (wf : S → va_W) (A : Nat → Prop) : Array Value → State → Outcome → State → Prop := va_Qv post (fun u t => va_P D vwCl (wf u) t.heap ∧ va_D A (wf u)) A
theorem mu_iret {post : Int32 → S → Prop} {v : Int32} (hx : p.tables.exec = Jvm.exec) (hb : c.code = cc) (hr : meth.sig.returnType = some .int) (hlocks : meth.locks = false) (u : S) (hp : post v u) (hP : va_P D vwCl (wf u) H) (hD : va_D A (wf u)) (hS : va_S A s.heap H locs) (hdg : decode cc pc = .ok (.ireturn, 1)) :
    W p l e R s m args below meth c H locs cells slots (MQ below (mQi D post wf A) args s cells slots A) (F0 m pc ls [.int v]) :=
  W.iret hx hb hr (fun t ht _ => ⟨⟨v, u, rfl, hp, by rw [ht]; exact hP, hD⟩, hS.F ht⟩) hS.2.2 hdg hlocks
theorem mu_zret {post : Int32 → S → Prop} {v : Int32} (hx : p.tables.exec = Jvm.exec) (hb : c.code = cc) (hr : meth.sig.returnType = some .boolean) (hlocks : meth.locks = false) (hn : narrow .boolean (.int v) = .int v) (u : S) (hp : post v u) (hP : va_P D vwCl (wf u) H) (hD : va_D A (wf u)) (hS : va_S A s.heap H locs) (hdg : decode cc pc = .ok (.ireturn, 1)) :
    W p l e R s m args below meth c H locs cells slots (MQ below (mQi D post wf A) args s cells slots A) (F0 m pc ls [.int v]) :=
  W.zret hx hb hr hn (fun t ht _ => ⟨⟨v, u, rfl, hp, by rw [ht]; exact hP, hD⟩, hS.F ht⟩) hS.2.2 hdg hlocks
theorem mu_vret {post : S → Prop} (hx : p.tables.exec = Jvm.exec) (hb : c.code = cc) (hr : meth.sig.returnType = none) (hlocks : meth.locks = false) (u : S) (hp : post u) (hP : va_P D vwCl (wf u) H) (hD : va_D A (wf u)) (hS : va_S A s.heap H locs) (hdg : decode cc pc = .ok (.return_, 1)) :
    W p l e R s m args below meth c H locs cells slots (MQ below (mQv D post wf A) args s cells slots A) (F0 m pc ls []) :=
  W.vret hx hb hr (fun t ht _ => ⟨⟨u, rfl, hp, by rw [ht]; exact hP, hD⟩, hS.F ht⟩) hS.2.2 hdg hlocks
variable {A0 : Nat → Prop} {H0 : Heap} {ws wc wr : va_W} {mc ms : Nat} {a : Array Value}
theorem mu_calli {post : Int32 → S → Prop} (hr : va_Run p l e R s m args below meth c H locs cells slots mc ms (F0 m pc ls st0) rest (mQi D post wf (va_A wc H.size) a) (va_A wc H.size)) (hP : va_P D vwCl ws H) (hD : va_D A0 ws) (hS : va_S A0 H0 H locs) (hA : ∀ q, H0.size ≤ q → A0 q) (isC isR : List Nat) (hC : isC.map (fun i => ws[i]?) = wc.map some) (hR : isR.map (fun i => ws[i]?) = wr.map some) (hn : va_nd isR = true) (hdis : ∀ i ∈ isR, i ∉ isC)
    (kk : ∀ (r : Int32) (u : S) (H1 : Heap) (locs1 : List Loc), post r u → va_P D vwCl (wr ++ wf u) H1 → va_D A0 (wr ++ wf u) → va_S A0 H0 H1 locs1 → W p l e R s m args below meth c H1 locs1 (cells + mc) (slots + ms) Q (F0 m (pc + 3) ls (.int r :: rest))) : W p l e R s m args below meth c H locs cells slots Q (F0 m pc ls st0) := by
  have hFc := va_free (wc := wc) hD hS hA isC hC
  refine va_calli hr hS (fun q _ h => hFc q h) hFc (fun r u t H1 locs1 ht hvm hw hB hz1 hk1 hS1 => ?_)
  obtain ⟨hP1, hD1⟩ := hB
  rw [ht] at hP1
  obtain ⟨hP2, hD2⟩ := va_join (wr := wr) (w1 := wf u) hP hD isC isR hC hR hn hdis hk1 hFc hP1 hD1
  exact kk r u H1 locs1 hw hP2 hD2 hS1
theorem mu_callv {post : S → Prop} (hr : va_Run p l e R s m args below meth c H locs cells slots mc ms (F0 m pc ls st0) rest (mQv D post wf (va_A wc H.size) a) (va_A wc H.size)) (hP : va_P D vwCl ws H) (hD : va_D A0 ws) (hS : va_S A0 H0 H locs) (hA : ∀ q, H0.size ≤ q → A0 q) (isC isR : List Nat) (hC : isC.map (fun i => ws[i]?) = wc.map some) (hR : isR.map (fun i => ws[i]?) = wr.map some) (hn : va_nd isR = true) (hdis : ∀ i ∈ isR, i ∉ isC)
    (kk : ∀ (u : S) (H1 : Heap) (locs1 : List Loc), post u → va_P D vwCl (wr ++ wf u) H1 → va_D A0 (wr ++ wf u) → va_S A0 H0 H1 locs1 → W p l e R s m args below meth c H1 locs1 (cells + mc) (slots + ms) Q (F0 m (pc + 3) ls rest)) : W p l e R s m args below meth c H locs cells slots Q (F0 m pc ls st0) := by
  have hFc := va_free (wc := wc) hD hS hA isC hC
  refine va_callv hr hS (fun q _ h => hFc q h) hFc (fun u t H1 locs1 ht hvm hw hB hz1 hk1 hS1 => ?_)
  obtain ⟨hP1, hD1⟩ := hB
  rw [ht] at hP1
  obtain ⟨hP2, hD2⟩ := va_join (wr := wr) (w1 := wf u) hP hD isC isR hC hR hn hdis hk1 hFc hP1 hD1
  exact kk u H1 locs1 hw hP2 hD2 hS1
theorem n_if_gt {a : Nat} {off : Int} {tgt : Nat} (hx : p.tables.exec = Jvm.exec) (hb : c.code = cc) (hdg : decode cc pc = .ok (.ifCond .gt off, 3)) (ht : (pc : Int) + off = (tgt : Int)) (ha : a < 2 ^ 31)
    (kt : 0 < a → W p l e R s m args below meth c H locs cells slots Q (F0 m tgt ls rest)) (kf : a = 0 → W p l e R s m args below meth c H locs cells slots Q (F0 m (pc + 3) ls rest)) : W p l e R s m args below meth c H locs cells slots Q (F0 m pc ls (.int (nI a) :: rest)) :=
  lv_if_gt hx hb hdg ht (fun h => kt (by
    rcases Nat.eq_zero_or_pos a with q | q
    · exact absurd (by rw [q, nI_0] at h; exact h) (Int32.lt_irrefl)
    · exact q)) (fun h => kf (by
    rcases Nat.eq_zero_or_pos a with q | q
    · exact q
    · exact absurd (by rw [← nI_0]; exact nI_lt q ha) h))
end Rows4
/-- a counted loop that writes -/
theorem loopH {σ : Type} {m : MethodId} {D : va_G} {A : Nat → Prop} {H0 : Heap} {Wf : Heap → List Loc → JFrame → Prop} (head nL : Nat) (lvf : Nat → σ → List (Nat × Value)) (wf : Nat → σ → va_W) (Inv : Nat → σ → Prop) (N : Nat)
    (step : ∀ (i : Nat) (x : σ) (ls : Array Slot) (H : Heap) (locs : List Loc), i < N → Inv i x → va_P D vwCl (wf i x) H → va_D A (wf i x) → va_S A H0 H locs → lv_has ls nL (lvf i x) →
      (∀ (x' : σ) (ls' : Array Slot) (H' : Heap) (locs' : List Loc), Inv (i + 1) x' → va_P D vwCl (wf (i + 1) x') H' → va_D A (wf (i + 1) x') → va_S A H0 H' locs' → lv_has ls' nL (lvf (i + 1) x') → Wf H' locs' (F0 m head ls' [])) → Wf H locs (F0 m head ls []))
    (exit : ∀ (x : σ) (ls : Array Slot) (H : Heap) (locs : List Loc), Inv N x → va_P D vwCl (wf N x) H → va_D A (wf N x) → va_S A H0 H locs → lv_has ls nL (lvf N x) → Wf H locs (F0 m head ls [])) :
    ∀ (i : Nat) (x : σ) (ls : Array Slot) (H : Heap) (locs : List Loc), i ≤ N → Inv i x → va_P D vwCl (wf i x) H → va_D A (wf i x) → va_S A H0 H locs → lv_has ls nL (lvf i x) → Wf H locs (F0 m head ls []) := by
  have key : ∀ (n i : Nat) (x : σ) (ls : Array Slot) (H : Heap) (locs : List Loc), N - i = n → i ≤ N → Inv i x → va_P D vwCl (wf i x) H → va_D A (wf i x) → va_S A H0 H locs → lv_has ls nL (lvf i x) → Wf H locs (F0 m head ls []) := by
    intro n
    induction n with
    | zero =>
      intro i x ls H locs h1 h2 hI hP hD hS hl
      obtain rfl : i = N := by omega
      exact exit x ls H locs hI hP hD hS hl
    | succ n ih =>
      intro i x ls H locs h1 h2 hI hP hD hS hl
      exact step i x ls H locs (by omega) hI hP hD hS hl (fun x' ls' H' locs' hI' hP' hD' hS' hl' => ih (i + 1) x' ls' H' locs' (by omega) (by omega) hI' hP' hD' hS' hl')
  exact fun i x ls H locs h hI hP hD hS hl => key _ i x ls H locs rfl h hI hP hD hS hl
/-- a loop that writes, by a measure -/
theorem loopHM {σ : Type} {m : MethodId} {D : va_G} {A : Nat → Prop} {H0 : Heap} {Wf : Heap → List Loc → JFrame → Prop} (head nL : Nat) (lvf : σ → List (Nat × Value)) (wf : σ → va_W) (Inv : σ → Prop) (μ : σ → Nat)
    (step : ∀ (x : σ) (ls : Array Slot) (H : Heap) (locs : List Loc), Inv x → va_P D vwCl (wf x) H → va_D A (wf x) → va_S A H0 H locs → lv_has ls nL (lvf x) →
      (∀ (x' : σ) (ls' : Array Slot) (H' : Heap) (locs' : List Loc), Inv x' → μ x' < μ x → va_P D vwCl (wf x') H' → va_D A (wf x') → va_S A H0 H' locs' → lv_has ls' nL (lvf x') → Wf H' locs' (F0 m head ls' [])) → Wf H locs (F0 m head ls [])) :
    ∀ (x : σ) (ls : Array Slot) (H : Heap) (locs : List Loc), Inv x → va_P D vwCl (wf x) H → va_D A (wf x) → va_S A H0 H locs → lv_has ls nL (lvf x) → Wf H locs (F0 m head ls []) := by
  have key : ∀ (n : Nat) (x : σ) (ls : Array Slot) (H : Heap) (locs : List Loc), μ x < n → Inv x → va_P D vwCl (wf x) H → va_D A (wf x) → va_S A H0 H locs → lv_has ls nL (lvf x) → Wf H locs (F0 m head ls []) := by
    intro n
    induction n with
    | zero => intro x ls H locs h; exact absurd h (Nat.not_lt_zero _)
    | succ n ih => exact fun x ls H locs h hI hP hD hS hl => step x ls H locs hI hP hD hS hl (fun x' ls' H' locs' hI' h' hP' hD' hS' hl' => ih x' ls' H' locs' (by omega) hI' hP' hD' hS' hl')
  exact fun x ls H locs hI hP hD hS hl => key _ x ls H locs (Nat.lt_succ_self _) hI hP hD hS hl
end
section
-- ===== M8: what the search keeps, and its steps =====
theorem bestOf_congr {ok ok' : Nat → Bool} {v v' : Nat → Int} {lo : Int} : ∀ {n : Nat}, (∀ c, c < n → ok c = ok' c ∧ v c = v' c) → bestOf ok v lo n = bestOf ok' v' lo n
  | 0, _ => rfl
  | n + 1, h => by
    unfold bestOf
    rw [bestOf_congr (n := n) (fun c hc => h c (by omega)), (h n (by omega)).1, (h n (by omega)).2]
theorem Sc_congr {w h : Nat} : ∀ (k : Nat) {tp tp' : Nat → Nat} {M T : Sq}, (∀ c, c < w → tp c = tp' c) → Sc w h k tp M T = Sc w h k tp' M T
  | 0, _, _, _, _, _ => rfl
  | k + 1, tp, tp', M, T, e => by
    rw [Sc_succ, Sc_succ]
    refine bestOf_congr (fun c hc => ⟨by rw [e c hc], ?_⟩)
    unfold Mv
    rw [← e c hc]
    by_cases hl : hasL w h (sq_put M c (tp c))
    · rw [if_pos hl, if_pos hl]
    · rw [if_neg hl, if_neg hl, Sc_congr k (tp := tp_inc tp c) (tp' := tp_inc tp' c) (fun c' hc' => by unfold tp_inc; rw [e c' hc'])]
theorem emp_le {h : Nat} {tp : Nat → Nat} : ∀ n, emp h tp n ≤ n * h
  | 0 => by simp [emp]
  | n + 1 => by
    have := emp_le (h := h) (tp := tp) n
    unfold emp
    rw [Nat.succ_mul]; omega
abbrev Mem : Type := (Nat → Int64) × (Nat → Int32) × (Nat → Int32)
/-- what is remembered is true -/
def MemOK (w h : Nat) (u : Mem) : Prop := ∀ j, j < 1024 → ∀ (k : Nat) (tp : Nat → Nat) (M T : Sq) (m t : Int64), Pos w h k tp M T m t → keyL w h m t = u.1 j →
  ∃ z1 z2 : Int, u.2.1 j = zI z1 ∧ u.2.2 j = zI z2 ∧ z1 ≤ Sc w h k tp M T ∧ Sc w h k tp M T ≤ z2 ∧ -64 ≤ z1 ∧ z2 ≤ 64
theorem MemOK.new {w h : Nat} (hd : Dm w h) (f g : Nat → Int32) : MemOK w h (fun _ => 0, f, g) := by
  intro j hj k tp M T m t H e
  exact absurd e (key_nz hd H.2.2.1 H.1 H.2.1 H.2.2.2.1)
theorem MemOK.keep {w h : Nat} (hd : Dm w h) {u : Mem} (hu : MemOK w h u) {k : Nat} {tp : Nat → Nat} {M T : Sq} {m t : Int64} (H : Pos w h k tp M T m t) {z1 z2 : Int} (h1 : z1 ≤ Sc w h k tp M T) (h2 : Sc w h k tp M T ≤ z2) (h3 : -64 ≤ z1) (h4 : z2 ≤ 64) :
    MemOK w h (vp_updL u.1 (slN (keyL w h m t)) (keyL w h m t), upd u.2.1 (slN (keyL w h m t)) (zI z1), upd u.2.2 (slN (keyL w h m t)) (zI z2)) := by
  intro j hj k' tp' M' T' m' t' H' e
  by_cases ej : j = slN (keyL w h m t)
  · subst ej
    simp only [pk_uLs] at e
    simp only [pk_us]
    obtain ⟨Hm, Ht, p1, p2, p3, p4, p5, p6⟩ := H
    obtain ⟨Hm', Ht', p1', p2', p3', p4', p5', p6'⟩ := H'
    obtain ⟨et, eM, eT⟩ := key_inj hd p1' p1 Hm' Ht' Hm Ht p2' p2 p3' p3 e
    have ek : k' = k := by rw [p6, p6', emp_congr et]
    subst ek eM eT
    rw [Sc_congr k' et]
    exact ⟨z1, z2, rfl, rfl, h1, h2, h3, h4⟩
  · simp only [pk_uLn ej] at e
    simp only [pk_un ej]
    exact hu j hj k' tp' M' T' m' t' H' e
theorem mid_lt : ∀ w, w < 10 → 3 ≤ w → ∀ i, i < w → mid w i < w := by decide +kernel
theorem mid_onto : ∀ w, w < 10 → 3 ≤ w → ∀ c, c < w → ∃ i, i < w ∧ mid w i = c := by
  intro w hw h3 c hc
  have key : ∀ w, w < 10 → 3 ≤ w → ∀ c, c < w → (List.range w).any (fun i => mid w i == c) = true := by decide +kernel
  have := key w hw h3 c hc
  rw [List.any_eq_true] at this
  obtain ⟨i, hi, e⟩ := this
  exact ⟨i, List.mem_range.mp hi, by simpa using e⟩
/-- the safe moves of a position, as a long -/
def mvL (w h : Nat) (m t : Int64) : Int64 := smL (nxL w h (m ||| t)) (thL w h t (m ||| t))
def okc (w h : Nat) (tp : Nat → Nat) (m t : Int64) (c : Nat) : Bool := tb (mvL w h m t) (ix h c (tp c))
theorem Pos.ok {w h k : Nat} (hd : Dm w h) {tp : Nat → Nat} {M T : Sq} {m t : Int64} (H : Pos w h k tp M T m t) {c : Nat} (hc : c < w) : okc w h tp m t c = true ↔ tp c < h ∧ ¬ badAt w h tp T c := by
  have hle := H.2.2.1 c hc
  obtain ⟨h1, h2⟩ := H.safe hd
  constructor
  · intro e
    obtain ⟨a1, a2, a3, a4⟩ := h1 c (tp c) hle e
    exact ⟨a3, a4⟩
  · rintro ⟨a1, a2⟩
    cases e : okc w h tp m t c
    · exact absurd (h2 c hc a1 e) a2
    · rfl
theorem Pos.mv {w h k : Nat} (hd : Dm w h) {tp : Nat → Nat} {M T : Sq} {m t : Int64} (H : Pos w h k tp M T m t) {c : Nat} (hc : c < w) : (okc w h tp m t c = true → mvL w h m t &&& colL h c = sqL h c (tp c)) ∧ (okc w h tp m t c = false → mvL w h m t &&& colL h c = 0) := by
  have hle := H.2.2.1 c hc
  obtain ⟨h1, h2⟩ := H.safe hd
  have h64 := hd.2.2.2.2.2
  have only : ∀ i, tb (mvL w h m t &&& colL h c) i = true → i = ix h c (tp c) ∧ okc w h tp m t c = true := by
    intro i e
    obtain ⟨c', r, hr, rfl⟩ := ix_of h i
    rw [tb_and, Bool.and_eq_true, col_bit hd hc c' r hr] at e
    simp only [Bool.and_eq_true, decide_eq_true_eq] at e
    obtain ⟨a1, a2, a3⟩ := e
    subst a2
    obtain ⟨b1, rfl, b3, b4⟩ := h1 c' r hr a1
    exact ⟨rfl, a1⟩
  constructor
  · intro e
    have hlt := ((H.ok hd hc).mp e).1
    have l1 := ix_lt hc hle
    refine tb_ext (fun i hi => ?_)
    have e2 : tb (sqL h c (tp c)) i = decide (i = ix h c (tp c)) := tb_pow (k := ix h c (tp c)) (by omega) i
    rw [e2]
    by_cases q : i = ix h c (tp c)
    · subst q
      have e3 : tb (mvL w h m t) (ix h c (tp c)) = true := e
      rw [tb_and, col_bit hd hc c (tp c) hle, e3]; simp [hlt]
    · rw [decide_eq_false q]
      cases q2 : tb (mvL w h m t &&& colL h c) i
      · rfl
      · exact absurd (only i q2).1 q
  · intro e
    refine tb_ext (fun i hi => ?_)
    rw [tb_0]
    cases q2 : tb (mvL w h m t &&& colL h c) i
    · rfl
    · rw [(only i q2).2] at e; cases e
theorem Pos.mv0 {w h k : Nat} (hd : Dm w h) {tp : Nat → Nat} {M T : Sq} {m t : Int64} (H : Pos w h k tp M T m t) : (mvL w h m t = 0 → ∀ c, c < w → tp c < h → badAt w h tp T c) ∧ (¬ mvL w h m t = 0 → ∃ c, c < w ∧ tp c < h ∧ ¬ badAt w h tp T c) := by
  obtain ⟨h1, h2⟩ := H.safe hd
  constructor
  · intro e c hc hr
    refine h2 c hc hr ?_
    show tb (mvL w h m t) _ = false
    rw [e, tb_0]
  · intro e
    obtain ⟨i, -, b⟩ := nz_bit e
    obtain ⟨c, r, hr, rfl⟩ := ix_of h i
    obtain ⟨a1, a2, a3, a4⟩ := h1 c r hr b
    exact ⟨c, a1, a3, a4⟩
/-- the best of the safe moves in the first n places of the order, and from -/
noncomputable def pb (w h k : Nat) (tp : Nat → Nat) (M T : Sq) (m t : Int64) (from_ : Int) (n : Nat) : Int := bestOf (fun j => okc w h tp m t (mid w j)) (fun j => Mv w h k tp M T (mid w j)) from_ n
theorem pb_end {w h k : Nat} (hd : Dm w h) {tp : Nat → Nat} {M T : Sq} {m t : Int64} (H : Pos w h (k + 1) tp M T m t) (hn : ∀ c, ¬ winsAt w h tp M c) (hm : ¬ mvL w h m t = 0) (from_ : Int) : pb w h k tp M T m t from_ w = max from_ (Sc w h (k + 1) tp M T) := by
  have hw := hd.2.1
  have h3 := hd.1
  obtain ⟨c0, hc0, hr0, hs0⟩ := (H.mv0 hd).2 hm
  obtain ⟨c, hc, hr, hs, e⟩ := Sc_safe H.2.2 hn hc0 hr0 hs0
  have a1 : pb w h k tp M T m t from_ w ≤ max from_ (Sc w h (k + 1) tp M T) := by
    refine bestOf_le (by omega) (fun j hj hok => ?_)
    have hl := mid_lt w (by omega) h3 j hj
    have := Sc_ge (k := k) (M := M) (T := T) hl ((H.ok hd hl).mp hok).1
    omega
  have a2 : from_ ≤ pb w h k tp M T m t from_ w := bestOf_lo _ _ _ _
  obtain ⟨j, hj, ej⟩ := mid_onto w (by omega) h3 c hc
  have a3 : Mv w h k tp M T (mid w j) ≤ pb w h k tp M T m t from_ w := bestOf_ge (ok := fun j => okc w h tp m t (mid w j)) (v := fun j => Mv w h k tp M T (mid w j)) hj (by
    show okc w h tp m t (mid w j) = true
    rw [ej]; exact (H.ok hd hc).mpr ⟨hr, hs⟩)
  rw [ej, ← e] at a3
  omega
theorem pb_mono {w h k : Nat} {tp : Nat → Nat} {M T : Sq} {m t : Int64} {from_ : Int} {i n : Nat} (hi : i ≤ n) : pb w h k tp M T m t from_ i ≤ pb w h k tp M T m t from_ n := by
  induction n with
  | zero => rw [show i = 0 by omega]; exact Int.le_refl _
  | succ n ih =>
    by_cases e : i = n + 1
    · rw [e]; exact Int.le_refl _
    · have := ih (by omega)
      unfold pb at this ⊢
      rw [bestOf]
      split <;> omega
theorem pb_succ {w h k : Nat} {tp : Nat → Nat} {M T : Sq} {m t : Int64} {from_ : Int} {i : Nat} : pb w h k tp M T m t from_ (i + 1) = if okc w h tp m t (mid w i) then max (pb w h k tp M T m t from_ i) (Mv w h k tp M T (mid w i)) else pb w h k tp M T m t from_ i := rfl
/-- what a search between low and high may answer -/
def scPost (S low high z : Int) : Prop := z = S ∨ (S ≤ z ∧ z ≤ low) ∨ (high ≤ z ∧ z ≤ S)
theorem la_le {w h k : Nat} (hd : Dm w h) {tp : Nat → Nat} {M T : Sq} {m t : Int64} (H : Pos w h (k + 1) tp M T m t) (hn : ∀ c, ¬ winsAt w h tp M c) (hm : ¬ mvL w h m t = 0) (hk : 2 ≤ k) : laZ w h m (k + 1) ≤ Sc w h (k + 1) tp M T ∧ -64 ≤ laZ w h m (k + 1) ∧ laZ w h m (k + 1) ≤ 64 := by
  obtain ⟨c0, hc0, hr0, hs0⟩ := (H.mv0 hd).2 hm
  have hkb : k + 1 ≤ 63 := by
    have h1 := H.2.2.2.2.2.2.2
    have h2 := emp_le (h := h) (tp := tp) w
    have h3 := hd.2.2.2.2.1
    omega
  have Rn : Rep w h (allL h w &&& (m ^^^ (-1))) (fun c r => onB w h c r && !M c r) := by
    refine ⟨fun c r hr => ?_, fun c r e => ?_⟩
    · rw [tb_and, (Rep.all hd).1 c r hr]
      by_cases q : c < w ∧ r < h
      · have := ix_lt q.1 (Nat.le_of_lt q.2)
        have h64 := hd.2.2.2.2.2
        rw [tb_not _ (by omega), H.1.1 c r hr]
      · have e : onB w h c r = false := by
          unfold onB
          by_cases hc : c < w
          · simp [show ¬ r < h from fun z => q ⟨hc, z⟩]
          · simp [hc]
        show _ = (onB w h c r && _)
        rw [e]; rfl
    · simp only [Bool.and_eq_true, onB, decide_eq_true_eq] at e
      exact e.1
  unfold laZ
  by_cases q : hlL h (allL h w &&& (m ^^^ (-1))) = true
  · rw [if_pos q]
    have := Sc_least H.2.2 hn hc0 hr0 hs0 hk
    omega
  · rw [if_neg q]
    have := (Sc_stop (k + 1) tp M T H.2.2).2 (fun z => q ((hl_iff hd Rn).mpr z))
    omega
theorem ma_ge {w h k : Nat} (hd : Dm w h) {tp : Nat → Nat} {M T : Sq} {m t : Int64} (H : Pos w h (k + 1) tp M T m t) (hn : ∀ c, ¬ winsAt w h tp M c) (hk : 2 ≤ k) : Sc w h (k + 1) tp M T ≤ maZ w h t (k + 1) ∧ -64 ≤ maZ w h t (k + 1) ∧ maZ w h t (k + 1) ≤ 64 := by
  have hkb : k + 1 ≤ 63 := by
    have h1 := H.2.2.2.2.2.2.2
    have h2 := emp_le (h := h) (tp := tp) w
    have h3 := hd.2.2.2.2.1
    omega
  have Rn : Rep w h (allL h w &&& (t ^^^ (-1))) (fun c r => onB w h c r && !T c r) := by
    refine ⟨fun c r hr => ?_, fun c r e => ?_⟩
    · rw [tb_and, (Rep.all hd).1 c r hr]
      by_cases q : c < w ∧ r < h
      · have := ix_lt q.1 (Nat.le_of_lt q.2)
        have h64 := hd.2.2.2.2.2
        rw [tb_not _ (by omega), H.2.1.1 c r hr]
      · have e : onB w h c r = false := by
          unfold onB
          by_cases hc : c < w
          · simp [show ¬ r < h from fun z => q ⟨hc, z⟩]
          · simp [hc]
        show _ = (onB w h c r && _)
        rw [e]; rfl
    · simp only [Bool.and_eq_true, onB, decide_eq_true_eq] at e
      exact e.1
  unfold maZ
  by_cases q : hlL h (allL h w &&& (t ^^^ (-1))) = true
  · rw [if_pos q]
    have := Sc_most H.2.2 hn (by omega)
    omega
  · rw [if_neg q]
    have := (Sc_stop (k + 1) tp M T H.2.2).1 (fun z => q ((hl_iff hd Rn).mpr z))
    omega
end
section
set_option maxHeartbeats 4000000 in
set_option maxRecDepth 100000 in
theorem c_completing (l : Launch) (D : va_G) (cI cJ cZ : ClassId) (x : Int64) (d : Nat) : Met l yX1_completing wsX1_completing (k2_rm 0 0) (RPc D [.long x, .int (nI d)] [] (tyA cI cJ cZ)) (k2_QcV (.long (cpL x d))) 0 0 (fun _ => False) := by
  refine ro_head (cc := cX1_completing) (maxL := 11) (ret := (some .long)) (by decide) rfl (Nat.le_of_ble_eq_true rfl) ?_
  intro p e s m below meth cd ls hx hb hr hlocks hts hown hml hP hK hN hl
  have hl : lv_has ls 11 [(0, .long x), (2, .int (nI d))] := hl
  refine lv_lload_n hx hb dX1_completing_0 rfl (lv_at hl 0 rfl) ?_
  refine lv_iload_n hx hb dX1_completing_1 rfl (lv_at hl 1 rfl) ?_
  refine n_lshl hx hb dX1_completing_2 ?_
  refine lv_lstore_n (lv' := [(3, .long (shlL x d)), (0, .long x), (2, .int (nI d))]) hx hb dX1_completing_3 rfl hl (by decide) rfl (fun ls hl => ?_)
  refine lv_lload_n hx hb dX1_completing_4 rfl (lv_at hl 0 rfl) ?_
  refine lv_lload_n hx hb dX1_completing_5 rfl (lv_at hl 1 rfl) ?_
  refine lv_iconst (v := nI 2) hx hb dX1_completing_6 (by decide) ?_
  refine lv_iload_n hx hb dX1_completing_7 rfl (lv_at hl 2 rfl) ?_
  refine n_imul hx hb dX1_completing_8 ?_
  refine n_lshl hx hb dX1_completing_9 ?_
  refine lv_land hx hb dX1_completing_10 ?_
  refine lv_lstore (lv' := [(5, .long ((shlL x d) &&& (shlL x (2 * d)))), (3, .long (shlL x d)), (0, .long x), (2, .int (nI d))]) hx hb dX1_completing_11 hl (by decide) rfl (fun ls hl => ?_)
  refine lv_lload_n hx hb dX1_completing_13 rfl (lv_at hl 2 rfl) ?_
  refine lv_iload_n hx hb dX1_completing_14 rfl (lv_at hl 3 rfl) ?_
  refine n_lushr hx hb dX1_completing_15 ?_
  refine lv_lstore (lv' := [(7, .long (shrL x d)), (5, .long ((shlL x d) &&& (shlL x (2 * d)))), (3, .long (shlL x d)), (0, .long x), (2, .int (nI d))]) hx hb dX1_completing_16 hl (by decide) rfl (fun ls hl => ?_)
  refine lv_lload hx hb dX1_completing_18 (lv_at hl 0 rfl) ?_
  refine lv_lload_n hx hb dX1_completing_20 rfl (lv_at hl 3 rfl) ?_
  refine lv_iconst (v := nI 2) hx hb dX1_completing_21 (by decide) ?_
  refine lv_iload_n hx hb dX1_completing_22 rfl (lv_at hl 4 rfl) ?_
  refine n_imul hx hb dX1_completing_23 ?_
  refine n_lushr hx hb dX1_completing_24 ?_
  refine lv_land hx hb dX1_completing_25 ?_
  refine lv_lstore (lv' := [(9, .long ((shrL x d) &&& (shrL x (2 * d)))), (7, .long (shrL x d)), (5, .long ((shlL x d) &&& (shlL x (2 * d)))), (3, .long (shlL x d)), (0, .long x), (2, .int (nI d))]) hx hb dX1_completing_26 hl (by decide) rfl (fun ls hl => ?_)
  refine lv_lload hx hb dX1_completing_28 (lv_at hl 2 rfl) ?_
  refine lv_lload_n hx hb dX1_completing_30 rfl (lv_at hl 4 rfl) ?_
  refine lv_iconst (v := nI 3) hx hb dX1_completing_31 (by decide) ?_
  refine lv_iload_n hx hb dX1_completing_32 rfl (lv_at hl 5 rfl) ?_
  refine n_imul hx hb dX1_completing_33 ?_
  refine n_lshl hx hb dX1_completing_34 ?_
  refine lv_land hx hb dX1_completing_35 ?_
  refine lv_lload hx hb dX1_completing_36 (lv_at hl 2 rfl) ?_
  refine lv_lload hx hb dX1_completing_38 (lv_at hl 1 rfl) ?_
  refine lv_land hx hb dX1_completing_40 ?_
  refine lv_lor hx hb dX1_completing_41 ?_
  refine lv_lload_n hx hb dX1_completing_42 rfl (lv_at hl 3 rfl) ?_
  refine lv_lload hx hb dX1_completing_43 (lv_at hl 0 rfl) ?_
  refine lv_land hx hb dX1_completing_45 ?_
  refine lv_lor hx hb dX1_completing_46 ?_
  refine lv_lload hx hb dX1_completing_47 (lv_at hl 0 rfl) ?_
  refine lv_lload_n hx hb dX1_completing_49 rfl (lv_at hl 4 rfl) ?_
  refine lv_iconst (v := nI 3) hx hb dX1_completing_50 (by decide) ?_
  refine lv_iload_n hx hb dX1_completing_51 rfl (lv_at hl 5 rfl) ?_
  refine n_imul hx hb dX1_completing_52 ?_
  refine n_lushr hx hb dX1_completing_53 ?_
  refine lv_land hx hb dX1_completing_54 ?_
  refine lv_lor hx hb dX1_completing_55 ?_
  exact ro_lret hx hb hr hlocks rfl dX1_completing_56

set_option maxHeartbeats 4000000 in
set_option maxRecDepth 100000 in
theorem c_lineStarts (l : Launch) (D : va_G) (cI cJ cZ : ClassId) (w h g st cs : Nat) (x : Int64) (d : Nat) : Met l yX1_lineStarts wsX1_lineStarts (k2_rm 0 0) (RPc D [.ref g, .long x, .int (nI d)] (gW cI cJ w h g st cs) (tyA cI cJ cZ)) (k2_QcV (.long (lsL x d))) 0 0 (fun _ => False) := by
  refine ro_head (cc := cX1_lineStarts) (maxL := 6) (ret := (some .long)) (by decide) rfl (Nat.le_of_ble_eq_true rfl) ?_
  intro p e s m below meth cd ls hx hb hr hlocks hts hown hml hP hK hN hl
  have hl : lv_has ls 6 [(0, .ref g), (1, .long x), (3, .int (nI d))] := hl
  refine lv_lload_n hx hb dX1_lineStarts_0 rfl (lv_at hl 1 rfl) ?_
  refine lv_lload_n hx hb dX1_lineStarts_1 rfl (lv_at hl 1 rfl) ?_
  refine lv_iload_n hx hb dX1_lineStarts_2 rfl (lv_at hl 2 rfl) ?_
  refine n_lushr hx hb dX1_lineStarts_3 ?_
  refine lv_land hx hb dX1_lineStarts_4 ?_
  refine lv_lstore (lv' := [(4, .long (x &&& (shrL x d))), (0, .ref g), (1, .long x), (3, .int (nI d))]) hx hb dX1_lineStarts_5 hl (by decide) rfl (fun ls hl => ?_)
  refine lv_lload hx hb dX1_lineStarts_7 (lv_at hl 0 rfl) ?_
  refine lv_lload hx hb dX1_lineStarts_9 (lv_at hl 0 rfl) ?_
  refine lv_iconst (v := nI 2) hx hb dX1_lineStarts_11 (by decide) ?_
  refine lv_iload_n hx hb dX1_lineStarts_12 rfl (lv_at hl 3 rfl) ?_
  refine n_imul hx hb dX1_lineStarts_13 ?_
  refine n_lushr hx hb dX1_lineStarts_14 ?_
  refine lv_land hx hb dX1_lineStarts_15 ?_
  exact ro_lret hx hb hr hlocks rfl dX1_lineStarts_16

set_option maxHeartbeats 4000000 in
set_option maxRecDepth 100000 in
theorem c_square (l : Launch) (D : va_G) (cI cJ cZ : ClassId) (w h g st cs : Nat) (c r : Nat) : Met l yX1_square wsX1_square (k2_rm 0 0) (RPc D [.ref g, .int (nI c), .int (nI r)] (gW cI cJ w h g st cs) (tyA cI cJ cZ)) (k2_QcV (.long (sqL h c r))) 0 0 (fun _ => False) := by
  refine ro_head (cc := cX1_square) (maxL := 3) (ret := (some .long)) (by decide) rfl (Nat.le_of_ble_eq_true rfl) ?_
  intro p e s m below meth cd ls hx hb hr hlocks hts hown hml hP hK hN hl
  have hl : lv_has ls 3 [(0, .ref g), (1, .int (nI c)), (2, .int (nI r))] := hl
  refine lv_lconst (v := 1) hx hb dX1_square_0 (by decide) ?_
  refine lv_iload_n hx hb dX1_square_1 rfl (lv_at hl 1 rfl) ?_
  refine lv_aload_n hx hb dX1_square_2 rfl (lv_at hl 0 rfl) ?_
  refine va_get (C := RX1) (T := TX1) (N := 6) hx hb hts (by decide +kernel) hown hK hP 0 rfl rfl 1 (by decide) (hts (.fieldLink RX1 13 RX1 "rows" "I") (by decide +kernel)) (fun _ h9 => h9) rfl dX1_square_3 ?_
  refine lv_iconst (v := nI 1) hx hb dX1_square_6 (by decide) ?_
  refine n_iadd hx hb dX1_square_7 ?_
  refine n_imul hx hb dX1_square_8 ?_
  refine lv_iload_n hx hb dX1_square_9 rfl (lv_at hl 2 rfl) ?_
  refine n_iadd hx hb dX1_square_10 ?_
  refine n_lshl hx hb dX1_square_11 ?_
  exact ro_lret hx hb hr hlocks rfl dX1_square_12

set_option maxHeartbeats 4000000 in
set_option maxRecDepth 100000 in
theorem c_nextSquares (l : Launch) (D : va_G) (cI cJ cZ : ClassId) (w h g st cs : Nat) (x : Int64) : Met l yX1_nextSquares wsX1_nextSquares (k2_rm 0 0) (RPc D [.ref g, .long x] (gW cI cJ w h g st cs) (tyA cI cJ cZ)) (k2_QcV (.long (nxL w h x))) 0 0 (fun _ => False) := by
  refine ro_head (cc := cX1_nextSquares) (maxL := 3) (ret := (some .long)) (by decide) rfl (Nat.le_of_ble_eq_true rfl) ?_
  intro p e s m below meth cd ls hx hb hr hlocks hts hown hml hP hK hN hl
  have hl : lv_has ls 3 [(0, .ref g), (1, .long x)] := hl
  refine lv_lload_n hx hb dX1_nextSquares_0 rfl (lv_at hl 1 rfl) ?_
  refine lv_aload_n hx hb dX1_nextSquares_1 rfl (lv_at hl 0 rfl) ?_
  refine va_get (C := RX1) (T := TX1) (N := 6) hx hb hts (by decide +kernel) hown hK hP 0 rfl rfl 3 (by decide) (hts (.fieldLink RX1 24 RX1 "floor" "J") (by decide +kernel)) (fun _ h9 => h9) rfl dX1_nextSquares_2 ?_
  refine lv_ladd hx hb dX1_nextSquares_5 ?_
  refine lv_aload_n hx hb dX1_nextSquares_6 rfl (lv_at hl 0 rfl) ?_
  refine va_get (C := RX1) (T := TX1) (N := 6) hx hb hts (by decide +kernel) hown hK hP 0 rfl rfl 2 (by decide) (hts (.fieldLink RX1 28 RX1 "squares" "J") (by decide +kernel)) (fun _ h9 => h9) rfl dX1_nextSquares_7 ?_
  refine lv_land hx hb dX1_nextSquares_10 ?_
  exact ro_lret hx hb hr hlocks rfl dX1_nextSquares_11

set_option maxHeartbeats 4000000 in
set_option maxRecDepth 100000 in
theorem c_hasLine (l : Launch) (D : va_G) (cI cJ cZ : ClassId) (w h g st cs : Nat) (x : Int64) : Met l yX1_hasLine wsX1_hasLine (k2_rm 1 25) (RPc D [.ref g, .long x] (gW cI cJ w h g st cs) (tyA cI cJ cZ)) (k2_QcV (.int (bI (hlL h x)))) 0 0 (fun _ => False) := by
  refine ro_head (cc := cX1_hasLine) (maxL := 7) (ret := (some .boolean)) (by decide) rfl (Nat.le_of_ble_eq_true rfl) ?_
  intro p e s m below meth cd ls hx hb hr hlocks hts hown hml hP hK hN hl
  have hl : lv_has ls 7 [(0, .ref g), (1, .long x)] := hl
  refine lv_aload_n hx hb dX1_hasLine_0 rfl (lv_at hl 0 rfl) ?_
  refine va_get (C := RX1) (T := TX1) (N := 6) hx hb hts (by decide +kernel) hown hK hP 0 rfl rfl 4 (by decide) (hts (.fieldLink RX1 16 RX1 "steps" "[I") (by decide +kernel)) (fun _ h9 => h9) rfl dX1_hasLine_1 ?_
  refine lv_astore_n (lv' := [(3, .ref st), (0, .ref g), (1, .long x)]) hx hb dX1_hasLine_4 rfl hl (by decide) rfl (fun ls hl => ?_)
  refine lv_aload_n hx hb dX1_hasLine_5 rfl (lv_at hl 0 rfl) ?_
  refine va_alen hx hb hK hP 1 0 rfl rfl (v := nI 4) rfl dX1_hasLine_6 ?_
  refine lv_istore (lv' := [(4, .int (nI 4)), (3, .ref st), (0, .ref g), (1, .long x)]) hx hb dX1_hasLine_7 hl (by decide) rfl (fun ls hl => ?_)
  refine lv_iconst (v := nI 0) hx hb dX1_hasLine_9 (by decide) ?_
  refine lv_istore (lv' := [(5, .int (nI 0)), (4, .int (nI 4)), (3, .ref st), (0, .ref g), (1, .long x)]) hx hb dX1_hasLine_10 hl (by decide) rfl (fun ls hl => ?_)
  refine lv_iload hx hb dX1_hasLine_12 (lv_at hl 0 rfl) ?_
  refine lv_iload hx hb dX1_hasLine_14 (lv_at hl 1 rfl) ?_
  refine n_icmp_ge (tgt := 45) hx hb dX1_hasLine_16 (by decide) (by decide) (by decide) (fun c16_1 => absurd c16_1 (by decide)) (fun _ => ?_)
  refine lv_aload_n hx hb dX1_hasLine_19 rfl (lv_at hl 2 rfl) ?_
  refine lv_iload hx hb dX1_hasLine_20 (lv_at hl 0 rfl) ?_
  refine n_iald hx hb hK hP 1 0 rfl rfl (by omega) (by omega) dX1_hasLine_22 ?_
  refine lv_istore (lv' := [(6, .int (nI (stp h 0))), (5, .int (nI 0)), (4, .int (nI 4)), (3, .ref st), (0, .ref g), (1, .long x)]) hx hb dX1_hasLine_23 hl (by decide) rfl (fun ls hl => ?_)
  refine lv_aload_n hx hb dX1_hasLine_25 rfl (lv_at hl 4 rfl) ?_
  refine lv_lload_n hx hb dX1_hasLine_26 rfl (lv_at hl 5 rfl) ?_
  refine lv_iload hx hb dX1_hasLine_27 (lv_at hl 0 rfl) ?_
  refine ro_call (W.runV (As := [.long x, .int (nI (stp h 0))]) (rest := []) ⟨hx, hb, hml, hown, hts⟩ (c_lineStarts l D cI cJ cZ w h g st cs x (stp h 0)) (cwV 2 hts gX1_hasLine_X1_lineStarts rfl rfl rfl (by decide +kernel) ⟨Nat.le_of_ble_eq_true rfl, Nat.le_of_ble_eq_true rfl⟩) ⟨RPc.blind, va_recv hK hP (ci := 1) (q0 := 0) rfl rfl, (RPc.at (hP.sub [0, 1, 2] rfl) hK hN)⟩ rfl rfl hl.1 rfl (lv_room (Nat.le_of_ble_eq_true rfl)) dX1_hasLine_29 ⟨Nat.zero_le _, Nat.zero_le _⟩) ?_
  refine lv_lconst (v := 0) hx hb dX1_hasLine_32 (by decide) ?_
  refine W.lcmp hx hb dX1_hasLine_33 ?_
  refine l_if_eq (tgt := 39) hx hb dX1_hasLine_34 (by decide) (fun c34_2 => ?_) (fun c34_2 => ?_)
  · skip
    refine n_iinc (n := 1) (lv' := [(5, .int (nI 1)), (6, .int (nI (stp h 0))), (4, .int (nI 4)), (3, .ref st), (0, .ref g), (1, .long x)]) hx hb dX1_hasLine_39 hl (k := 1) rfl (by decide) rfl (fun ls hl => ?_)
    refine lv_goto (tgt := 12) hx hb dX1_hasLine_42 (by decide) ?_
    refine lv_iload hx hb dX1_hasLine_12 (lv_at hl 0 rfl) ?_
    refine lv_iload hx hb dX1_hasLine_14 (lv_at hl 2 rfl) ?_
    refine n_icmp_ge (tgt := 45) hx hb dX1_hasLine_16 (by decide) (by decide) (by decide) (fun c16_3 => absurd c16_3 (by decide)) (fun _ => ?_)
    refine lv_aload_n hx hb dX1_hasLine_19 rfl (lv_at hl 3 rfl) ?_
    refine lv_iload hx hb dX1_hasLine_20 (lv_at hl 0 rfl) ?_
    refine n_iald hx hb hK hP 1 0 rfl rfl (by omega) (by omega) dX1_hasLine_22 ?_
    refine lv_istore (lv' := [(6, .int (nI (stp h 1))), (5, .int (nI 1)), (4, .int (nI 4)), (3, .ref st), (0, .ref g), (1, .long x)]) hx hb dX1_hasLine_23 hl (by decide) rfl (fun ls hl => ?_)
    refine lv_aload_n hx hb dX1_hasLine_25 rfl (lv_at hl 4 rfl) ?_
    refine lv_lload_n hx hb dX1_hasLine_26 rfl (lv_at hl 5 rfl) ?_
    refine lv_iload hx hb dX1_hasLine_27 (lv_at hl 0 rfl) ?_
    refine ro_call (W.runV (As := [.long x, .int (nI (stp h 1))]) (rest := []) ⟨hx, hb, hml, hown, hts⟩ (c_lineStarts l D cI cJ cZ w h g st cs x (stp h 1)) (cwV 2 hts gX1_hasLine_X1_lineStarts rfl rfl rfl (by decide +kernel) ⟨Nat.le_of_ble_eq_true rfl, Nat.le_of_ble_eq_true rfl⟩) ⟨RPc.blind, va_recv hK hP (ci := 1) (q0 := 0) rfl rfl, (RPc.at (hP.sub [0, 1, 2] rfl) hK hN)⟩ rfl rfl hl.1 rfl (lv_room (Nat.le_of_ble_eq_true rfl)) dX1_hasLine_29 ⟨Nat.zero_le _, Nat.zero_le _⟩) ?_
    refine lv_lconst (v := 0) hx hb dX1_hasLine_32 (by decide) ?_
    refine W.lcmp hx hb dX1_hasLine_33 ?_
    refine l_if_eq (tgt := 39) hx hb dX1_hasLine_34 (by decide) (fun c34_4 => ?_) (fun c34_4 => ?_)
    · skip
      refine n_iinc (n := 1) (lv' := [(5, .int (nI 2)), (6, .int (nI (stp h 1))), (4, .int (nI 4)), (3, .ref st), (0, .ref g), (1, .long x)]) hx hb dX1_hasLine_39 hl (k := 1) rfl (by decide) rfl (fun ls hl => ?_)
      refine lv_goto (tgt := 12) hx hb dX1_hasLine_42 (by decide) ?_
      refine lv_iload hx hb dX1_hasLine_12 (lv_at hl 0 rfl) ?_
      refine lv_iload hx hb dX1_hasLine_14 (lv_at hl 2 rfl) ?_
      refine n_icmp_ge (tgt := 45) hx hb dX1_hasLine_16 (by decide) (by decide) (by decide) (fun c16_5 => absurd c16_5 (by decide)) (fun _ => ?_)
      refine lv_aload_n hx hb dX1_hasLine_19 rfl (lv_at hl 3 rfl) ?_
      refine lv_iload hx hb dX1_hasLine_20 (lv_at hl 0 rfl) ?_
      refine n_iald hx hb hK hP 1 0 rfl rfl (by omega) (by omega) dX1_hasLine_22 ?_
      refine lv_istore (lv' := [(6, .int (nI (stp h 2))), (5, .int (nI 2)), (4, .int (nI 4)), (3, .ref st), (0, .ref g), (1, .long x)]) hx hb dX1_hasLine_23 hl (by decide) rfl (fun ls hl => ?_)
      refine lv_aload_n hx hb dX1_hasLine_25 rfl (lv_at hl 4 rfl) ?_
      refine lv_lload_n hx hb dX1_hasLine_26 rfl (lv_at hl 5 rfl) ?_
      refine lv_iload hx hb dX1_hasLine_27 (lv_at hl 0 rfl) ?_
      refine ro_call (W.runV (As := [.long x, .int (nI (stp h 2))]) (rest := []) ⟨hx, hb, hml, hown, hts⟩ (c_lineStarts l D cI cJ cZ w h g st cs x (stp h 2)) (cwV 2 hts gX1_hasLine_X1_lineStarts rfl rfl rfl (by decide +kernel) ⟨Nat.le_of_ble_eq_true rfl, Nat.le_of_ble_eq_true rfl⟩) ⟨RPc.blind, va_recv hK hP (ci := 1) (q0 := 0) rfl rfl, (RPc.at (hP.sub [0, 1, 2] rfl) hK hN)⟩ rfl rfl hl.1 rfl (lv_room (Nat.le_of_ble_eq_true rfl)) dX1_hasLine_29 ⟨Nat.zero_le _, Nat.zero_le _⟩) ?_
      refine lv_lconst (v := 0) hx hb dX1_hasLine_32 (by decide) ?_
      refine W.lcmp hx hb dX1_hasLine_33 ?_
      refine l_if_eq (tgt := 39) hx hb dX1_hasLine_34 (by decide) (fun c34_6 => ?_) (fun c34_6 => ?_)
      · skip
        refine n_iinc (n := 1) (lv' := [(5, .int (nI 3)), (6, .int (nI (stp h 2))), (4, .int (nI 4)), (3, .ref st), (0, .ref g), (1, .long x)]) hx hb dX1_hasLine_39 hl (k := 1) rfl (by decide) rfl (fun ls hl => ?_)
        refine lv_goto (tgt := 12) hx hb dX1_hasLine_42 (by decide) ?_
        refine lv_iload hx hb dX1_hasLine_12 (lv_at hl 0 rfl) ?_
        refine lv_iload hx hb dX1_hasLine_14 (lv_at hl 2 rfl) ?_
        refine n_icmp_ge (tgt := 45) hx hb dX1_hasLine_16 (by decide) (by decide) (by decide) (fun c16_7 => absurd c16_7 (by decide)) (fun _ => ?_)
        refine lv_aload_n hx hb dX1_hasLine_19 rfl (lv_at hl 3 rfl) ?_
        refine lv_iload hx hb dX1_hasLine_20 (lv_at hl 0 rfl) ?_
        refine n_iald hx hb hK hP 1 0 rfl rfl (by omega) (by omega) dX1_hasLine_22 ?_
        refine lv_istore (lv' := [(6, .int (nI (stp h 3))), (5, .int (nI 3)), (4, .int (nI 4)), (3, .ref st), (0, .ref g), (1, .long x)]) hx hb dX1_hasLine_23 hl (by decide) rfl (fun ls hl => ?_)
        refine lv_aload_n hx hb dX1_hasLine_25 rfl (lv_at hl 4 rfl) ?_
        refine lv_lload_n hx hb dX1_hasLine_26 rfl (lv_at hl 5 rfl) ?_
        refine lv_iload hx hb dX1_hasLine_27 (lv_at hl 0 rfl) ?_
        refine ro_call (W.runV (As := [.long x, .int (nI (stp h 3))]) (rest := []) ⟨hx, hb, hml, hown, hts⟩ (c_lineStarts l D cI cJ cZ w h g st cs x (stp h 3)) (cwV 2 hts gX1_hasLine_X1_lineStarts rfl rfl rfl (by decide +kernel) ⟨Nat.le_of_ble_eq_true rfl, Nat.le_of_ble_eq_true rfl⟩) ⟨RPc.blind, va_recv hK hP (ci := 1) (q0 := 0) rfl rfl, (RPc.at (hP.sub [0, 1, 2] rfl) hK hN)⟩ rfl rfl hl.1 rfl (lv_room (Nat.le_of_ble_eq_true rfl)) dX1_hasLine_29 ⟨Nat.zero_le _, Nat.zero_le _⟩) ?_
        refine lv_lconst (v := 0) hx hb dX1_hasLine_32 (by decide) ?_
        refine W.lcmp hx hb dX1_hasLine_33 ?_
        refine l_if_eq (tgt := 39) hx hb dX1_hasLine_34 (by decide) (fun c34_8 => ?_) (fun c34_8 => ?_)
        · skip
          refine n_iinc (n := 1) (lv' := [(5, .int (nI 4)), (6, .int (nI (stp h 3))), (4, .int (nI 4)), (3, .ref st), (0, .ref g), (1, .long x)]) hx hb dX1_hasLine_39 hl (k := 1) rfl (by decide) rfl (fun ls hl => ?_)
          refine lv_goto (tgt := 12) hx hb dX1_hasLine_42 (by decide) ?_
          refine lv_iload hx hb dX1_hasLine_12 (lv_at hl 0 rfl) ?_
          refine lv_iload hx hb dX1_hasLine_14 (lv_at hl 2 rfl) ?_
          refine n_icmp_ge (tgt := 45) hx hb dX1_hasLine_16 (by decide) (by decide) (by decide) (fun _ => ?_) (fun c16_9 => absurd c16_9 (by decide))
          refine lv_iconst (v := nI 0) hx hb dX1_hasLine_45 (by decide) ?_
          exact ro_zret hx hb hr hlocks (by first | rfl | exact bI_nar _) (by rw [show hlL h x = false by simp [hlL, c34_2, c34_4, c34_6, c34_8]]; rfl) dX1_hasLine_46
        refine lv_iconst (v := nI 1) hx hb dX1_hasLine_37 (by decide) ?_
        exact ro_zret hx hb hr hlocks (by first | rfl | exact bI_nar _) (by rw [show hlL h x = true by simp [hlL, c34_2, c34_4, c34_6, c34_8]]; rfl) dX1_hasLine_38
      refine lv_iconst (v := nI 1) hx hb dX1_hasLine_37 (by decide) ?_
      exact ro_zret hx hb hr hlocks (by first | rfl | exact bI_nar _) (by rw [show hlL h x = true by simp [hlL, c34_2, c34_4, c34_6]]; rfl) dX1_hasLine_38
    refine lv_iconst (v := nI 1) hx hb dX1_hasLine_37 (by decide) ?_
    exact ro_zret hx hb hr hlocks (by first | rfl | exact bI_nar _) (by rw [show hlL h x = true by simp [hlL, c34_2, c34_4]]; rfl) dX1_hasLine_38
  refine lv_iconst (v := nI 1) hx hb dX1_hasLine_37 (by decide) ?_
  exact ro_zret hx hb hr hlocks (by first | rfl | exact bI_nar _) (by rw [show hlL h x = true by simp [hlL, c34_2]]; rfl) dX1_hasLine_38

set_option maxHeartbeats 4000000 in
set_option maxRecDepth 100000 in
theorem c_threatSquares (l : Launch) (D : va_G) (cI cJ cZ : ClassId) (w h g st cs : Nat) (x t : Int64) : Met l yX1_threatSquares wsX1_threatSquares (k2_rm 1 30) (RPc D [.ref g, .long x, .long t] (gW cI cJ w h g st cs) (tyA cI cJ cZ)) (k2_QcV (.long (thL w h x t))) 0 0 (fun _ => False) := by
  refine ro_head (cc := cX1_threatSquares) (maxL := 11) (ret := (some .long)) (by decide) rfl (Nat.le_of_ble_eq_true rfl) ?_
  intro p e s m below meth cd ls hx hb hr hlocks hts hown hml hP hK hN hl
  have hl : lv_has ls 11 [(0, .ref g), (1, .long x), (3, .long t)] := hl
  refine lv_lconst (v := 0) hx hb dX1_threatSquares_0 (by decide) ?_
  refine lv_lstore (lv' := [(5, .long 0), (0, .ref g), (1, .long x), (3, .long t)]) hx hb dX1_threatSquares_1 hl (by decide) rfl (fun ls hl => ?_)
  refine lv_aload_n hx hb dX1_threatSquares_3 rfl (lv_at hl 1 rfl) ?_
  refine va_get (C := RX1) (T := TX1) (N := 6) hx hb hts (by decide +kernel) hown hK hP 0 rfl rfl 4 (by decide) (hts (.fieldLink RX1 16 RX1 "steps" "[I") (by decide +kernel)) (fun _ h9 => h9) rfl dX1_threatSquares_4 ?_
  refine lv_astore (lv' := [(7, .ref st), (5, .long 0), (0, .ref g), (1, .long x), (3, .long t)]) hx hb dX1_threatSquares_7 hl (by decide) rfl (fun ls hl => ?_)
  refine lv_aload hx hb dX1_threatSquares_9 (lv_at hl 0 rfl) ?_
  refine va_alen hx hb hK hP 1 0 rfl rfl (v := nI 4) rfl dX1_threatSquares_11 ?_
  refine lv_istore (lv' := [(8, .int (nI 4)), (7, .ref st), (5, .long 0), (0, .ref g), (1, .long x), (3, .long t)]) hx hb dX1_threatSquares_12 hl (by decide) rfl (fun ls hl => ?_)
  refine lv_iconst (v := nI 0) hx hb dX1_threatSquares_14 (by decide) ?_
  refine lv_istore (lv' := [(9, .int (nI 0)), (8, .int (nI 4)), (7, .ref st), (5, .long 0), (0, .ref g), (1, .long x), (3, .long t)]) hx hb dX1_threatSquares_15 hl (by decide) rfl (fun ls hl => ?_)
  refine lv_iload hx hb dX1_threatSquares_17 (lv_at hl 0 rfl) ?_
  refine lv_iload hx hb dX1_threatSquares_19 (lv_at hl 1 rfl) ?_
  refine n_icmp_ge (tgt := 48) hx hb dX1_threatSquares_21 (by decide) (by decide) (by decide) (fun c21_1 => absurd c21_1 (by decide)) (fun _ => ?_)
  refine lv_aload hx hb dX1_threatSquares_24 (lv_at hl 2 rfl) ?_
  refine lv_iload hx hb dX1_threatSquares_26 (lv_at hl 0 rfl) ?_
  refine n_iald hx hb hK hP 1 0 rfl rfl (by omega) (by omega) dX1_threatSquares_28 ?_
  refine lv_istore (lv' := [(10, .int (nI (stp h 0))), (9, .int (nI 0)), (8, .int (nI 4)), (7, .ref st), (5, .long 0), (0, .ref g), (1, .long x), (3, .long t)]) hx hb dX1_threatSquares_29 hl (by decide) rfl (fun ls hl => ?_)
  refine lv_lload hx hb dX1_threatSquares_31 (lv_at hl 4 rfl) ?_
  refine lv_lload_n hx hb dX1_threatSquares_33 rfl (lv_at hl 6 rfl) ?_
  refine lv_iload hx hb dX1_threatSquares_34 (lv_at hl 0 rfl) ?_
  refine ro_call (W.runS (As := [.long x, .int (nI (stp h 0))]) (rest := [.long 0]) ⟨hx, hb, hml, hown, hts⟩ (c_completing l D cI cJ cZ x (stp h 0)) (va_cwS 2 hts gX1_threatSquares_X1_completing rfl rfl rfl (by decide +kernel) ⟨Nat.le_of_ble_eq_true rfl, Nat.le_of_ble_eq_true rfl⟩) ⟨RPc.blind, (RPc.at (hP.sub [] rfl) hK hN)⟩ rfl rfl hl.1 rfl (lv_room (Nat.le_of_ble_eq_true rfl)) dX1_threatSquares_36 ⟨Nat.zero_le _, Nat.zero_le _⟩) ?_
  refine lv_lor hx hb dX1_threatSquares_39 ?_
  refine lv_lstore (lv' := [(5, .long (0 ||| (cpL x (stp h 0)))), (10, .int (nI (stp h 0))), (9, .int (nI 0)), (8, .int (nI 4)), (7, .ref st), (0, .ref g), (1, .long x), (3, .long t)]) hx hb dX1_threatSquares_40 hl (by decide) rfl (fun ls hl => ?_)
  refine n_iinc (n := 1) (lv' := [(9, .int (nI 1)), (5, .long (0 ||| (cpL x (stp h 0)))), (10, .int (nI (stp h 0))), (8, .int (nI 4)), (7, .ref st), (0, .ref g), (1, .long x), (3, .long t)]) hx hb dX1_threatSquares_42 hl (k := 2) rfl (by decide) rfl (fun ls hl => ?_)
  refine lv_goto (tgt := 17) hx hb dX1_threatSquares_45 (by decide) ?_
  refine lv_iload hx hb dX1_threatSquares_17 (lv_at hl 0 rfl) ?_
  refine lv_iload hx hb dX1_threatSquares_19 (lv_at hl 3 rfl) ?_
  refine n_icmp_ge (tgt := 48) hx hb dX1_threatSquares_21 (by decide) (by decide) (by decide) (fun c21_2 => absurd c21_2 (by decide)) (fun _ => ?_)
  refine lv_aload hx hb dX1_threatSquares_24 (lv_at hl 4 rfl) ?_
  refine lv_iload hx hb dX1_threatSquares_26 (lv_at hl 0 rfl) ?_
  refine n_iald hx hb hK hP 1 0 rfl rfl (by omega) (by omega) dX1_threatSquares_28 ?_
  refine lv_istore (lv' := [(10, .int (nI (stp h 1))), (9, .int (nI 1)), (5, .long (0 ||| (cpL x (stp h 0)))), (8, .int (nI 4)), (7, .ref st), (0, .ref g), (1, .long x), (3, .long t)]) hx hb dX1_threatSquares_29 hl (by decide) rfl (fun ls hl => ?_)
  refine lv_lload hx hb dX1_threatSquares_31 (lv_at hl 2 rfl) ?_
  refine lv_lload_n hx hb dX1_threatSquares_33 rfl (lv_at hl 6 rfl) ?_
  refine lv_iload hx hb dX1_threatSquares_34 (lv_at hl 0 rfl) ?_
  refine ro_call (W.runS (As := [.long x, .int (nI (stp h 1))]) (rest := [.long (0 ||| (cpL x (stp h 0)))]) ⟨hx, hb, hml, hown, hts⟩ (c_completing l D cI cJ cZ x (stp h 1)) (va_cwS 2 hts gX1_threatSquares_X1_completing rfl rfl rfl (by decide +kernel) ⟨Nat.le_of_ble_eq_true rfl, Nat.le_of_ble_eq_true rfl⟩) ⟨RPc.blind, (RPc.at (hP.sub [] rfl) hK hN)⟩ rfl rfl hl.1 rfl (lv_room (Nat.le_of_ble_eq_true rfl)) dX1_threatSquares_36 ⟨Nat.zero_le _, Nat.zero_le _⟩) ?_
  refine lv_lor hx hb dX1_threatSquares_39 ?_
  refine lv_lstore (lv' := [(5, .long ((0 ||| (cpL x (stp h 0))) ||| (cpL x (stp h 1)))), (10, .int (nI (stp h 1))), (9, .int (nI 1)), (8, .int (nI 4)), (7, .ref st), (0, .ref g), (1, .long x), (3, .long t)]) hx hb dX1_threatSquares_40 hl (by decide) rfl (fun ls hl => ?_)
  refine n_iinc (n := 1) (lv' := [(9, .int (nI 2)), (5, .long ((0 ||| (cpL x (stp h 0))) ||| (cpL x (stp h 1)))), (10, .int (nI (stp h 1))), (8, .int (nI 4)), (7, .ref st), (0, .ref g), (1, .long x), (3, .long t)]) hx hb dX1_threatSquares_42 hl (k := 2) rfl (by decide) rfl (fun ls hl => ?_)
  refine lv_goto (tgt := 17) hx hb dX1_threatSquares_45 (by decide) ?_
  refine lv_iload hx hb dX1_threatSquares_17 (lv_at hl 0 rfl) ?_
  refine lv_iload hx hb dX1_threatSquares_19 (lv_at hl 3 rfl) ?_
  refine n_icmp_ge (tgt := 48) hx hb dX1_threatSquares_21 (by decide) (by decide) (by decide) (fun c21_3 => absurd c21_3 (by decide)) (fun _ => ?_)
  refine lv_aload hx hb dX1_threatSquares_24 (lv_at hl 4 rfl) ?_
  refine lv_iload hx hb dX1_threatSquares_26 (lv_at hl 0 rfl) ?_
  refine n_iald hx hb hK hP 1 0 rfl rfl (by omega) (by omega) dX1_threatSquares_28 ?_
  refine lv_istore (lv' := [(10, .int (nI (stp h 2))), (9, .int (nI 2)), (5, .long ((0 ||| (cpL x (stp h 0))) ||| (cpL x (stp h 1)))), (8, .int (nI 4)), (7, .ref st), (0, .ref g), (1, .long x), (3, .long t)]) hx hb dX1_threatSquares_29 hl (by decide) rfl (fun ls hl => ?_)
  refine lv_lload hx hb dX1_threatSquares_31 (lv_at hl 2 rfl) ?_
  refine lv_lload_n hx hb dX1_threatSquares_33 rfl (lv_at hl 6 rfl) ?_
  refine lv_iload hx hb dX1_threatSquares_34 (lv_at hl 0 rfl) ?_
  refine ro_call (W.runS (As := [.long x, .int (nI (stp h 2))]) (rest := [.long ((0 ||| (cpL x (stp h 0))) ||| (cpL x (stp h 1)))]) ⟨hx, hb, hml, hown, hts⟩ (c_completing l D cI cJ cZ x (stp h 2)) (va_cwS 2 hts gX1_threatSquares_X1_completing rfl rfl rfl (by decide +kernel) ⟨Nat.le_of_ble_eq_true rfl, Nat.le_of_ble_eq_true rfl⟩) ⟨RPc.blind, (RPc.at (hP.sub [] rfl) hK hN)⟩ rfl rfl hl.1 rfl (lv_room (Nat.le_of_ble_eq_true rfl)) dX1_threatSquares_36 ⟨Nat.zero_le _, Nat.zero_le _⟩) ?_
  refine lv_lor hx hb dX1_threatSquares_39 ?_
  refine lv_lstore (lv' := [(5, .long (((0 ||| (cpL x (stp h 0))) ||| (cpL x (stp h 1))) ||| (cpL x (stp h 2)))), (10, .int (nI (stp h 2))), (9, .int (nI 2)), (8, .int (nI 4)), (7, .ref st), (0, .ref g), (1, .long x), (3, .long t)]) hx hb dX1_threatSquares_40 hl (by decide) rfl (fun ls hl => ?_)
  refine n_iinc (n := 1) (lv' := [(9, .int (nI 3)), (5, .long (((0 ||| (cpL x (stp h 0))) ||| (cpL x (stp h 1))) ||| (cpL x (stp h 2)))), (10, .int (nI (stp h 2))), (8, .int (nI 4)), (7, .ref st), (0, .ref g), (1, .long x), (3, .long t)]) hx hb dX1_threatSquares_42 hl (k := 2) rfl (by decide) rfl (fun ls hl => ?_)
  refine lv_goto (tgt := 17) hx hb dX1_threatSquares_45 (by decide) ?_
  refine lv_iload hx hb dX1_threatSquares_17 (lv_at hl 0 rfl) ?_
  refine lv_iload hx hb dX1_threatSquares_19 (lv_at hl 3 rfl) ?_
  refine n_icmp_ge (tgt := 48) hx hb dX1_threatSquares_21 (by decide) (by decide) (by decide) (fun c21_4 => absurd c21_4 (by decide)) (fun _ => ?_)
  refine lv_aload hx hb dX1_threatSquares_24 (lv_at hl 4 rfl) ?_
  refine lv_iload hx hb dX1_threatSquares_26 (lv_at hl 0 rfl) ?_
  refine n_iald hx hb hK hP 1 0 rfl rfl (by omega) (by omega) dX1_threatSquares_28 ?_
  refine lv_istore (lv' := [(10, .int (nI (stp h 3))), (9, .int (nI 3)), (5, .long (((0 ||| (cpL x (stp h 0))) ||| (cpL x (stp h 1))) ||| (cpL x (stp h 2)))), (8, .int (nI 4)), (7, .ref st), (0, .ref g), (1, .long x), (3, .long t)]) hx hb dX1_threatSquares_29 hl (by decide) rfl (fun ls hl => ?_)
  refine lv_lload hx hb dX1_threatSquares_31 (lv_at hl 2 rfl) ?_
  refine lv_lload_n hx hb dX1_threatSquares_33 rfl (lv_at hl 6 rfl) ?_
  refine lv_iload hx hb dX1_threatSquares_34 (lv_at hl 0 rfl) ?_
  refine ro_call (W.runS (As := [.long x, .int (nI (stp h 3))]) (rest := [.long (((0 ||| (cpL x (stp h 0))) ||| (cpL x (stp h 1))) ||| (cpL x (stp h 2)))]) ⟨hx, hb, hml, hown, hts⟩ (c_completing l D cI cJ cZ x (stp h 3)) (va_cwS 2 hts gX1_threatSquares_X1_completing rfl rfl rfl (by decide +kernel) ⟨Nat.le_of_ble_eq_true rfl, Nat.le_of_ble_eq_true rfl⟩) ⟨RPc.blind, (RPc.at (hP.sub [] rfl) hK hN)⟩ rfl rfl hl.1 rfl (lv_room (Nat.le_of_ble_eq_true rfl)) dX1_threatSquares_36 ⟨Nat.zero_le _, Nat.zero_le _⟩) ?_
  refine lv_lor hx hb dX1_threatSquares_39 ?_
  refine lv_lstore (lv' := [(5, .long ((((0 ||| (cpL x (stp h 0))) ||| (cpL x (stp h 1))) ||| (cpL x (stp h 2))) ||| (cpL x (stp h 3)))), (10, .int (nI (stp h 3))), (9, .int (nI 3)), (8, .int (nI 4)), (7, .ref st), (0, .ref g), (1, .long x), (3, .long t)]) hx hb dX1_threatSquares_40 hl (by decide) rfl (fun ls hl => ?_)
  refine n_iinc (n := 1) (lv' := [(9, .int (nI 4)), (5, .long ((((0 ||| (cpL x (stp h 0))) ||| (cpL x (stp h 1))) ||| (cpL x (stp h 2))) ||| (cpL x (stp h 3)))), (10, .int (nI (stp h 3))), (8, .int (nI 4)), (7, .ref st), (0, .ref g), (1, .long x), (3, .long t)]) hx hb dX1_threatSquares_42 hl (k := 2) rfl (by decide) rfl (fun ls hl => ?_)
  refine lv_goto (tgt := 17) hx hb dX1_threatSquares_45 (by decide) ?_
  refine lv_iload hx hb dX1_threatSquares_17 (lv_at hl 0 rfl) ?_
  refine lv_iload hx hb dX1_threatSquares_19 (lv_at hl 3 rfl) ?_
  refine n_icmp_ge (tgt := 48) hx hb dX1_threatSquares_21 (by decide) (by decide) (by decide) (fun _ => ?_) (fun c21_5 => absurd c21_5 (by decide))
  refine lv_lload hx hb dX1_threatSquares_48 (lv_at hl 1 rfl) ?_
  refine lv_aload_n hx hb dX1_threatSquares_50 rfl (lv_at hl 5 rfl) ?_
  refine va_get (C := RX1) (T := TX1) (N := 6) hx hb hts (by decide +kernel) hown hK hP 0 rfl rfl 2 (by decide) (hts (.fieldLink RX1 28 RX1 "squares" "J") (by decide +kernel)) (fun _ h9 => h9) rfl dX1_threatSquares_51 ?_
  refine lv_land hx hb dX1_threatSquares_54 ?_
  refine lv_lload_n hx hb dX1_threatSquares_55 rfl (lv_at hl 7 rfl) ?_
  refine lv_ldc2 (v := (-1)) hx hb hown (hts (.constantLong RX1 44 (-1)) (by decide +kernel)) dX1_threatSquares_56 ?_
  refine lv_lxor hx hb dX1_threatSquares_59 ?_
  refine lv_land hx hb dX1_threatSquares_60 ?_
  exact ro_lret hx hb hr hlocks rfl dX1_threatSquares_61
end
section
theorem ov_t {w h : Nat} {S : Nat → Int64} {n : Nat} (q : ¬ wnI w h S n = -1) : ovB w h S n = true := by
  unfold wnI at q; unfold ovB
  split at q
  · simp [*]
  · split at q
    · simp [*]
    · split at q
      · simp [*]
      · exact absurd rfl q
theorem ov_f {w h : Nat} {S : Nat → Int64} {n : Nat} (q : wnI w h S n = -1) : ovB w h S n = false := by
  unfold wnI at q; unfold ovB
  split at q
  · exact absurd q (by decide)
  · split at q
    · exact absurd q (by decide)
    · split at q
      · exact absurd q (by decide)
      · simp [*]
set_option maxHeartbeats 4000000 in
set_option maxRecDepth 100000 in
theorem c_turn (l : Launch) (D : va_G) (cI cJ cZ : ClassId) (w h x sn hs hi g st cs fo se : Nat) (S : Nat → Int64) (ht hy : Nat → Nat) (n : Nat) (hd : Dm w h) (hht : ∀ j, ht j ≤ h) (hn : n ≤ w * h) : Met l yX4_turn wsX4_turn (k2_rm 0 0) (RPc D [.ref x] (xW cI cJ w h x sn hs hi g st cs fo se S ht hy n) (tyA cI cJ cZ)) (k2_QcV (.int (nI (n % 2)))) 0 0 (fun _ => False) := by
  refine ro_head (cc := cX4_turn) (maxL := 1) (ret := (some .int)) (by decide) rfl (Nat.le_of_ble_eq_true rfl) ?_
  intro p e s m below meth cd ls hx hb hr hlocks hts hown hml hP hK hN hl
  have hl : lv_has ls 1 [(0, .ref x)] := hl
  obtain ⟨h3w, hw9, h3h, hh7, hwh, h64⟩ := hd
  refine lv_aload_n hx hb dX4_turn_0 rfl (lv_at hl 0 rfl) ?_
  refine va_get (C := RX4) (T := TX4) (N := 7) hx hb hts (by decide +kernel) hown hK hP 0 rfl rfl 6 (by decide) (hts (.fieldLink RX4 13 RX4 "count" "I") (by decide +kernel)) (fun _ h9 => h9) rfl dX4_turn_1 ?_
  refine lv_iconst (v := nI 2) hx hb dX4_turn_4 (by decide) ?_
  refine n_irem hx hb dX4_turn_5 (by omega) (by omega) (by omega) ?_
  exact ro_iret hx hb hr hlocks rfl dX4_turn_6

set_option maxHeartbeats 4000000 in
set_option maxRecDepth 100000 in
theorem c_empty (l : Launch) (D : va_G) (cI cJ cZ : ClassId) (w h x sn hs hi g st cs fo se : Nat) (S : Nat → Int64) (ht hy : Nat → Nat) (n : Nat) (hd : Dm w h) (hht : ∀ j, ht j ≤ h) (hn : n ≤ w * h) : Met l yX4_empty wsX4_empty (k2_rm 0 0) (RPc D [.ref x] (xW cI cJ w h x sn hs hi g st cs fo se S ht hy n) (tyA cI cJ cZ)) (k2_QcV (.int (nI (w * h - n)))) 0 0 (fun _ => False) := by
  refine ro_head (cc := cX4_empty) (maxL := 1) (ret := (some .int)) (by decide) rfl (Nat.le_of_ble_eq_true rfl) ?_
  intro p e s m below meth cd ls hx hb hr hlocks hts hown hml hP hK hN hl
  have hl : lv_has ls 1 [(0, .ref x)] := hl
  obtain ⟨h3w, hw9, h3h, hh7, hwh, h64⟩ := hd
  refine lv_aload_n hx hb dX4_empty_0 rfl (lv_at hl 0 rfl) ?_
  refine va_get (C := RX4) (T := TX4) (N := 7) hx hb hts (by decide +kernel) hown hK hP 0 rfl rfl 5 (by decide) (hts (.fieldLink RX4 50 RX4 "history" "[I") (by decide +kernel)) (fun _ h9 => h9) rfl dX4_empty_1 ?_
  refine va_alen hx hb hK hP 3 0 rfl rfl (v := nI (w * h)) rfl dX4_empty_4 ?_
  refine lv_aload_n hx hb dX4_empty_5 rfl (lv_at hl 0 rfl) ?_
  refine va_get (C := RX4) (T := TX4) (N := 7) hx hb hts (by decide +kernel) hown hK hP 0 rfl rfl 6 (by decide) (hts (.fieldLink RX4 13 RX4 "count" "I") (by decide +kernel)) (fun _ h9 => h9) rfl dX4_empty_6 ?_
  refine n_isub hx hb dX4_empty_9 (by omega) ?_
  exact ro_iret hx hb hr hlocks rfl dX4_empty_10

set_option maxHeartbeats 4000000 in
set_option maxRecDepth 100000 in
theorem c_mine (l : Launch) (D : va_G) (cI cJ cZ : ClassId) (w h x sn hs hi g st cs fo se : Nat) (S : Nat → Int64) (ht hy : Nat → Nat) (n : Nat) (hd : Dm w h) (hht : ∀ j, ht j ≤ h) (hn : n ≤ w * h) : Met l yX4_mine wsX4_mine (k2_rm 1 20) (RPc D [.ref x] (xW cI cJ w h x sn hs hi g st cs fo se S ht hy n) (tyA cI cJ cZ)) (k2_QcV (.long (S (n % 2)))) 0 0 (fun _ => False) := by
  refine ro_head (cc := cX4_mine) (maxL := 1) (ret := (some .long)) (by decide) rfl (Nat.le_of_ble_eq_true rfl) ?_
  intro p e s m below meth cd ls hx hb hr hlocks hts hown hml hP hK hN hl
  have hl : lv_has ls 1 [(0, .ref x)] := hl
  have hd0 := hd
  obtain ⟨h3w, hw9, h3h, hh7, hwh, h64⟩ := hd0
  refine lv_aload_n hx hb dX4_mine_0 rfl (lv_at hl 0 rfl) ?_
  refine va_get (C := RX4) (T := TX4) (N := 7) hx hb hts (by decide +kernel) hown hK hP 0 rfl rfl 3 (by decide) (hts (.fieldLink RX4 7 RX4 "stones" "[J") (by decide +kernel)) (fun _ h9 => h9) rfl dX4_mine_1 ?_
  refine lv_aload_n hx hb dX4_mine_4 rfl (lv_at hl 0 rfl) ?_
  refine ro_call (W.runV (As := []) (rest := [.ref sn]) ⟨hx, hb, hml, hown, hts⟩ (c_turn l D cI cJ cZ w h x sn hs hi g st cs fo se S ht hy n hd hht hn) (cwV 0 hts gX4_mine_X4_turn rfl rfl rfl (by decide +kernel) ⟨Nat.le_of_ble_eq_true rfl, Nat.le_of_ble_eq_true rfl⟩) ⟨RPc.blind, va_recv hK hP (ci := 4) (q0 := 0) rfl rfl, (RPc.at (hP.sub [0, 1, 2, 3, 4, 5, 6] rfl) hK hN)⟩ rfl rfl hl.1 rfl (lv_room (Nat.le_of_ble_eq_true rfl)) dX4_mine_5 ⟨Nat.zero_le _, Nat.zero_le _⟩) ?_
  refine n_lald hx hb hK hP 1 1 rfl rfl (by omega) (by omega) dX4_mine_8 ?_
  exact ro_lret hx hb hr hlocks rfl dX4_mine_9

set_option maxHeartbeats 4000000 in
set_option maxRecDepth 100000 in
theorem c_theirs (l : Launch) (D : va_G) (cI cJ cZ : ClassId) (w h x sn hs hi g st cs fo se : Nat) (S : Nat → Int64) (ht hy : Nat → Nat) (n : Nat) (hd : Dm w h) (hht : ∀ j, ht j ≤ h) (hn : n ≤ w * h) : Met l yX4_theirs wsX4_theirs (k2_rm 1 20) (RPc D [.ref x] (xW cI cJ w h x sn hs hi g st cs fo se S ht hy n) (tyA cI cJ cZ)) (k2_QcV (.long (S (1 - n % 2)))) 0 0 (fun _ => False) := by
  refine ro_head (cc := cX4_theirs) (maxL := 1) (ret := (some .long)) (by decide) rfl (Nat.le_of_ble_eq_true rfl) ?_
  intro p e s m below meth cd ls hx hb hr hlocks hts hown hml hP hK hN hl
  have hl : lv_has ls 1 [(0, .ref x)] := hl
  have hd0 := hd
  obtain ⟨h3w, hw9, h3h, hh7, hwh, h64⟩ := hd0
  refine lv_aload_n hx hb dX4_theirs_0 rfl (lv_at hl 0 rfl) ?_
  refine va_get (C := RX4) (T := TX4) (N := 7) hx hb hts (by decide +kernel) hown hK hP 0 rfl rfl 3 (by decide) (hts (.fieldLink RX4 7 RX4 "stones" "[J") (by decide +kernel)) (fun _ h9 => h9) rfl dX4_theirs_1 ?_
  refine lv_iconst (v := nI 1) hx hb dX4_theirs_4 (by decide) ?_
  refine lv_aload_n hx hb dX4_theirs_5 rfl (lv_at hl 0 rfl) ?_
  refine ro_call (W.runV (As := []) (rest := [.int (nI 1), .ref sn]) ⟨hx, hb, hml, hown, hts⟩ (c_turn l D cI cJ cZ w h x sn hs hi g st cs fo se S ht hy n hd hht hn) (cwV 0 hts gX4_theirs_X4_turn rfl rfl rfl (by decide +kernel) ⟨Nat.le_of_ble_eq_true rfl, Nat.le_of_ble_eq_true rfl⟩) ⟨RPc.blind, va_recv hK hP (ci := 4) (q0 := 0) rfl rfl, (RPc.at (hP.sub [0, 1, 2, 3, 4, 5, 6] rfl) hK hN)⟩ rfl rfl hl.1 rfl (lv_room (Nat.le_of_ble_eq_true rfl)) dX4_theirs_6 ⟨Nat.zero_le _, Nat.zero_le _⟩) ?_
  refine n_isub hx hb dX4_theirs_9 (by omega) ?_
  refine n_lald hx hb hK hP 1 1 rfl rfl (by omega) (by omega) dX4_theirs_10 ?_
  exact ro_lret hx hb hr hlocks rfl dX4_theirs_11

set_option maxHeartbeats 4000000 in
set_option maxRecDepth 100000 in
theorem c_taken (l : Launch) (D : va_G) (cI cJ cZ : ClassId) (w h x sn hs hi g st cs fo se : Nat) (S : Nat → Int64) (ht hy : Nat → Nat) (n : Nat) (hd : Dm w h) (hht : ∀ j, ht j ≤ h) (hn : n ≤ w * h) : Met l yX4_taken wsX4_taken (k2_rm 0 0) (RPc D [.ref x] (xW cI cJ w h x sn hs hi g st cs fo se S ht hy n) (tyA cI cJ cZ)) (k2_QcV (.long (S 0 ||| S 1))) 0 0 (fun _ => False) := by
  refine ro_head (cc := cX4_taken) (maxL := 1) (ret := (some .long)) (by decide) rfl (Nat.le_of_ble_eq_true rfl) ?_
  intro p e s m below meth cd ls hx hb hr hlocks hts hown hml hP hK hN hl
  have hl : lv_has ls 1 [(0, .ref x)] := hl
  have hd0 := hd
  obtain ⟨h3w, hw9, h3h, hh7, hwh, h64⟩ := hd0
  refine lv_aload_n hx hb dX4_taken_0 rfl (lv_at hl 0 rfl) ?_
  refine va_get (C := RX4) (T := TX4) (N := 7) hx hb hts (by decide +kernel) hown hK hP 0 rfl rfl 3 (by decide) (hts (.fieldLink RX4 7 RX4 "stones" "[J") (by decide +kernel)) (fun _ h9 => h9) rfl dX4_taken_1 ?_
  refine lv_iconst (v := nI 0) hx hb dX4_taken_4 (by decide) ?_
  refine n_lald hx hb hK hP 1 1 rfl rfl (by omega) (by omega) dX4_taken_5 ?_
  refine lv_aload_n hx hb dX4_taken_6 rfl (lv_at hl 0 rfl) ?_
  refine va_get (C := RX4) (T := TX4) (N := 7) hx hb hts (by decide +kernel) hown hK hP 0 rfl rfl 3 (by decide) (hts (.fieldLink RX4 7 RX4 "stones" "[J") (by decide +kernel)) (fun _ h9 => h9) rfl dX4_taken_7 ?_
  refine lv_iconst (v := nI 1) hx hb dX4_taken_10 (by decide) ?_
  refine n_lald hx hb hK hP 1 1 rfl rfl (by omega) (by omega) dX4_taken_11 ?_
  refine lv_lor hx hb dX4_taken_12 ?_
  exact ro_lret hx hb hr hlocks rfl dX4_taken_13

set_option maxHeartbeats 4000000 in
set_option maxRecDepth 100000 in
theorem c_isColumn (l : Launch) (D : va_G) (cI cJ cZ : ClassId) (w h x sn hs hi g st cs fo se : Nat) (S : Nat → Int64) (ht hy : Nat → Nat) (n : Nat) (k : Int32) (hd : Dm w h) (hht : ∀ j, ht j ≤ h) (hn : n ≤ w * h) : Met l yX4_isColumn wsX4_isColumn (k2_rm 0 0) (RPc D [.ref x, .int k] (xW cI cJ w h x sn hs hi g st cs fo se S ht hy n) (tyA cI cJ cZ)) (k2_QcV (.int (bI (icB w k)))) 0 0 (fun _ => False) := by
  refine ro_head (cc := cX4_isColumn) (maxL := 2) (ret := (some .boolean)) (by decide) rfl (Nat.le_of_ble_eq_true rfl) ?_
  intro p e s m below meth cd ls hx hb hr hlocks hts hown hml hP hK hN hl
  have hl : lv_has ls 2 [(0, .ref x), (1, .int k)] := hl
  have hd0 := hd
  obtain ⟨h3w, hw9, h3h, hh7, hwh, h64⟩ := hd0
  refine lv_iload_n hx hb dX4_isColumn_0 rfl (lv_at hl 1 rfl) ?_
  refine lv_if_lt (tgt := 19) hx hb dX4_isColumn_1 (by decide) (fun c1_1 => ?_) (fun c1_1 => ?_)
  · skip
    refine lv_iconst (v := nI 0) hx hb dX4_isColumn_19 (by decide) ?_
    exact ro_zret hx hb hr hlocks (by first | rfl | exact bI_nar _) (by rw [show icB w k = false by simp [icB, c1_1]]; rfl) dX4_isColumn_20
  refine lv_iload_n hx hb dX4_isColumn_4 rfl (lv_at hl 1 rfl) ?_
  refine lv_aload_n hx hb dX4_isColumn_5 rfl (lv_at hl 0 rfl) ?_
  refine va_get (C := RX4) (T := TX4) (N := 7) hx hb hts (by decide +kernel) hown hK hP 0 rfl rfl 0 (by decide) (hts (.fieldLink RX4 26 RX4 "grid" "LDropFour$Grid;") (by decide +kernel)) (fun _ h9 => h9) rfl dX4_isColumn_6 ?_
  refine va_getN (C := RX1) (T := TX1) (N := 6) hx hb hts (by decide +kernel) hown hK hP 4 rfl rfl 0 (by decide) (hN.use 9 rfl rfl) (fun _ h9 => h9) rfl dX4_isColumn_9 ?_
  refine lv_icmp_ge (tgt := 19) hx hb dX4_isColumn_12 (by decide) (fun c12_2 => ?_) (fun c12_2 => ?_)
  · skip
    refine lv_iconst (v := nI 0) hx hb dX4_isColumn_19 (by decide) ?_
    exact ro_zret hx hb hr hlocks (by first | rfl | exact bI_nar _) (by rw [show icB w k = false by simp [icB, c1_1, c12_2]]; rfl) dX4_isColumn_20
  refine lv_iconst (v := nI 1) hx hb dX4_isColumn_15 (by decide) ?_
  refine lv_goto (tgt := 20) hx hb dX4_isColumn_16 (by decide) ?_
  exact ro_zret hx hb hr hlocks (by first | rfl | exact bI_nar _) (by rw [show icB w k = true by simp [icB, c1_1, c12_2]]; rfl) dX4_isColumn_20

set_option maxHeartbeats 4000000 in
set_option maxRecDepth 100000 in
theorem c_isFull (l : Launch) (D : va_G) (cI cJ cZ : ClassId) (w h x sn hs hi g st cs fo se : Nat) (S : Nat → Int64) (ht hy : Nat → Nat) (n : Nat) (c : Nat) (hd : Dm w h) (hht : ∀ j, ht j ≤ h) (hn : n ≤ w * h) (hc : c < w) : Met l yX4_isFull wsX4_isFull (k2_rm 0 0) (RPc D [.ref x, .int (nI c)] (xW cI cJ w h x sn hs hi g st cs fo se S ht hy n) (tyA cI cJ cZ)) (k2_QcV (.int (bI (decide (h ≤ ht c))))) 0 0 (fun _ => False) := by
  refine ro_head (cc := cX4_isFull) (maxL := 2) (ret := (some .boolean)) (by decide) rfl (Nat.le_of_ble_eq_true rfl) ?_
  intro p e s m below meth cd ls hx hb hr hlocks hts hown hml hP hK hN hl
  have hl : lv_has ls 2 [(0, .ref x), (1, .int (nI c))] := hl
  have hd0 := hd
  obtain ⟨h3w, hw9, h3h, hh7, hwh, h64⟩ := hd0
  have hhc := hht c
  refine lv_aload_n hx hb dX4_isFull_0 rfl (lv_at hl 0 rfl) ?_
  refine va_get (C := RX4) (T := TX4) (N := 7) hx hb hts (by decide +kernel) hown hK hP 0 rfl rfl 4 (by decide) (hts (.fieldLink RX4 46 RX4 "heights" "[I") (by decide +kernel)) (fun _ h9 => h9) rfl dX4_isFull_1 ?_
  refine lv_iload_n hx hb dX4_isFull_4 rfl (lv_at hl 1 rfl) ?_
  refine n_iald hx hb hK hP 2 0 rfl rfl (by omega) (by omega) dX4_isFull_5 ?_
  refine lv_aload_n hx hb dX4_isFull_6 rfl (lv_at hl 0 rfl) ?_
  refine va_get (C := RX4) (T := TX4) (N := 7) hx hb hts (by decide +kernel) hown hK hP 0 rfl rfl 0 (by decide) (hts (.fieldLink RX4 26 RX4 "grid" "LDropFour$Grid;") (by decide +kernel)) (fun _ h9 => h9) rfl dX4_isFull_7 ?_
  refine va_getN (C := RX1) (T := TX1) (N := 6) hx hb hts (by decide +kernel) hown hK hP 4 rfl rfl 1 (by decide) (hN.use 8 rfl rfl) (fun _ h9 => h9) rfl dX4_isFull_10 ?_
  refine n_icmp_lt (tgt := 20) hx hb dX4_isFull_13 (by decide) (by omega) (by omega) (fun c13_1 => ?_) (fun c13_1 => ?_)
  · skip
    refine lv_iconst (v := nI 0) hx hb dX4_isFull_20 (by decide) ?_
    exact ro_zret hx hb hr hlocks (by first | rfl | exact bI_nar _) (by rw [show decide (h ≤ ht c) = false by simp [Nat.not_le, c13_1]]; rfl) dX4_isFull_21
  refine lv_iconst (v := nI 1) hx hb dX4_isFull_16 (by decide) ?_
  refine lv_goto (tgt := 21) hx hb dX4_isFull_17 (by decide) ?_
  exact ro_zret hx hb hr hlocks (by first | rfl | exact bI_nar _) (by rw [show decide (h ≤ ht c) = true by simp [Nat.not_le, c13_1]]; rfl) dX4_isFull_21

set_option maxHeartbeats 4000000 in
set_option maxRecDepth 100000 in
theorem c_winner (l : Launch) (D : va_G) (cI cJ cZ : ClassId) (w h x sn hs hi g st cs fo se : Nat) (S : Nat → Int64) (ht hy : Nat → Nat) (n : Nat) (hd : Dm w h) (hht : ∀ j, ht j ≤ h) (hn : n ≤ w * h) : Met l yX4_winner wsX4_winner (k2_rm 2 51) (RPc D [.ref x] (xW cI cJ w h x sn hs hi g st cs fo se S ht hy n) (tyA cI cJ cZ)) (k2_QcV (.int (wnI w h S n))) 0 0 (fun _ => False) := by
  refine ro_head (cc := cX4_winner) (maxL := 1) (ret := (some .int)) (by decide) rfl (Nat.le_of_ble_eq_true rfl) ?_
  intro p e s m below meth cd ls hx hb hr hlocks hts hown hml hP hK hN hl
  have hl : lv_has ls 1 [(0, .ref x)] := hl
  have hd0 := hd
  obtain ⟨h3w, hw9, h3h, hh7, hwh, h64⟩ := hd0
  refine lv_aload_n hx hb dX4_winner_0 rfl (lv_at hl 0 rfl) ?_
  refine va_get (C := RX4) (T := TX4) (N := 7) hx hb hts (by decide +kernel) hown hK hP 0 rfl rfl 0 (by decide) (hts (.fieldLink RX4 26 RX4 "grid" "LDropFour$Grid;") (by decide +kernel)) (fun _ h9 => h9) rfl dX4_winner_1 ?_
  refine lv_aload_n hx hb dX4_winner_4 rfl (lv_at hl 0 rfl) ?_
  refine va_get (C := RX4) (T := TX4) (N := 7) hx hb hts (by decide +kernel) hown hK hP 0 rfl rfl 3 (by decide) (hts (.fieldLink RX4 7 RX4 "stones" "[J") (by decide +kernel)) (fun _ h9 => h9) rfl dX4_winner_5 ?_
  refine lv_iconst (v := nI 0) hx hb dX4_winner_8 (by decide) ?_
  refine n_lald hx hb hK hP 1 1 rfl rfl (by omega) (by omega) dX4_winner_9 ?_
  refine ro_call (W.runV (As := [.long (S 0)]) (rest := []) ⟨hx, hb, hml, hown, hts⟩ (c_hasLine l D cI cJ cZ w h g st cs (S 0)) (cwV 1 hts gX4_winner_X1_hasLine rfl rfl rfl (by decide +kernel) ⟨Nat.le_of_ble_eq_true rfl, Nat.le_of_ble_eq_true rfl⟩) ⟨RPc.blind, va_recv hK hP (ci := 1) (q0 := 4) rfl rfl, (RPc.at (hP.sub [4, 5, 6] rfl) hK hN)⟩ rfl rfl hl.1 rfl (lv_room (Nat.le_of_ble_eq_true rfl)) dX4_winner_10 ⟨Nat.zero_le _, Nat.zero_le _⟩) ?_
  refine b_if_eq (tgt := 18) hx hb dX4_winner_13 (by decide) (fun c13_1 => ?_) (fun c13_1 => ?_)
  · skip
    refine lv_aload_n hx hb dX4_winner_18 rfl (lv_at hl 0 rfl) ?_
    refine va_get (C := RX4) (T := TX4) (N := 7) hx hb hts (by decide +kernel) hown hK hP 0 rfl rfl 0 (by decide) (hts (.fieldLink RX4 26 RX4 "grid" "LDropFour$Grid;") (by decide +kernel)) (fun _ h9 => h9) rfl dX4_winner_19 ?_
    refine lv_aload_n hx hb dX4_winner_22 rfl (lv_at hl 0 rfl) ?_
    refine va_get (C := RX4) (T := TX4) (N := 7) hx hb hts (by decide +kernel) hown hK hP 0 rfl rfl 3 (by decide) (hts (.fieldLink RX4 7 RX4 "stones" "[J") (by decide +kernel)) (fun _ h9 => h9) rfl dX4_winner_23 ?_
    refine lv_iconst (v := nI 1) hx hb dX4_winner_26 (by decide) ?_
    refine n_lald hx hb hK hP 1 1 rfl rfl (by omega) (by omega) dX4_winner_27 ?_
    refine ro_call (W.runV (As := [.long (S 1)]) (rest := []) ⟨hx, hb, hml, hown, hts⟩ (c_hasLine l D cI cJ cZ w h g st cs (S 1)) (cwV 1 hts gX4_winner_X1_hasLine rfl rfl rfl (by decide +kernel) ⟨Nat.le_of_ble_eq_true rfl, Nat.le_of_ble_eq_true rfl⟩) ⟨RPc.blind, va_recv hK hP (ci := 1) (q0 := 4) rfl rfl, (RPc.at (hP.sub [4, 5, 6] rfl) hK hN)⟩ rfl rfl hl.1 rfl (lv_room (Nat.le_of_ble_eq_true rfl)) dX4_winner_28 ⟨Nat.zero_le _, Nat.zero_le _⟩) ?_
    refine b_if_eq (tgt := 36) hx hb dX4_winner_31 (by decide) (fun c31_2 => ?_) (fun c31_2 => ?_)
    · skip
      refine lv_aload_n hx hb dX4_winner_36 rfl (lv_at hl 0 rfl) ?_
      refine ro_call (W.runV (As := []) (rest := []) ⟨hx, hb, hml, hown, hts⟩ (c_empty l D cI cJ cZ w h x sn hs hi g st cs fo se S ht hy n hd hht hn) (cwV 0 hts gX4_winner_X4_empty rfl rfl rfl (by decide +kernel) ⟨Nat.le_of_ble_eq_true rfl, Nat.le_of_ble_eq_true rfl⟩) ⟨RPc.blind, va_recv hK hP (ci := 4) (q0 := 0) rfl rfl, (RPc.at (hP.sub [0, 1, 2, 3, 4, 5, 6] rfl) hK hN)⟩ rfl rfl hl.1 rfl (lv_room (Nat.le_of_ble_eq_true rfl)) dX4_winner_37 ⟨Nat.zero_le _, Nat.zero_le _⟩) ?_
      refine n_if_ne (tgt := 47) hx hb dX4_winner_40 (by decide) (by omega) (fun c40_3 => ?_) (fun c40_3 => ?_)
      · skip
        refine lv_iconst (v := -1) hx hb dX4_winner_47 (by decide) ?_
        exact ro_iret hx hb hr hlocks (by simp [wnI, nI, c13_1, c31_2, c40_3]) dX4_winner_48
      refine lv_iconst (v := nI 2) hx hb dX4_winner_43 (by decide) ?_
      refine lv_goto (tgt := 48) hx hb dX4_winner_44 (by decide) ?_
      exact ro_iret hx hb hr hlocks (by simp [wnI, nI, c13_1, c31_2, c40_3]) dX4_winner_48
    refine lv_iconst (v := nI 1) hx hb dX4_winner_34 (by decide) ?_
    exact ro_iret hx hb hr hlocks (by simp [wnI, nI, c13_1, c31_2]) dX4_winner_35
  refine lv_iconst (v := nI 0) hx hb dX4_winner_16 (by decide) ?_
  exact ro_iret hx hb hr hlocks (by simp [wnI, nI, c13_1]) dX4_winner_17

set_option maxHeartbeats 4000000 in
set_option maxRecDepth 100000 in
theorem c_isOver (l : Launch) (D : va_G) (cI cJ cZ : ClassId) (w h x sn hs hi g st cs fo se : Nat) (S : Nat → Int64) (ht hy : Nat → Nat) (n : Nat) (hd : Dm w h) (hht : ∀ j, ht j ≤ h) (hn : n ≤ w * h) : Met l yX4_isOver wsX4_isOver (k2_rm 3 71) (RPc D [.ref x] (xW cI cJ w h x sn hs hi g st cs fo se S ht hy n) (tyA cI cJ cZ)) (k2_QcV (.int (bI (ovB w h S n)))) 0 0 (fun _ => False) := by
  refine ro_head (cc := cX4_isOver) (maxL := 1) (ret := (some .boolean)) (by decide) rfl (Nat.le_of_ble_eq_true rfl) ?_
  intro p e s m below meth cd ls hx hb hr hlocks hts hown hml hP hK hN hl
  have hl : lv_has ls 1 [(0, .ref x)] := hl
  have hd0 := hd
  obtain ⟨h3w, hw9, h3h, hh7, hwh, h64⟩ := hd0
  refine lv_aload_n hx hb dX4_isOver_0 rfl (lv_at hl 0 rfl) ?_
  refine ro_call (W.runV (As := []) (rest := []) ⟨hx, hb, hml, hown, hts⟩ (c_winner l D cI cJ cZ w h x sn hs hi g st cs fo se S ht hy n hd hht hn) (cwV 0 hts gX4_isOver_X4_winner rfl rfl rfl (by decide +kernel) ⟨Nat.le_of_ble_eq_true rfl, Nat.le_of_ble_eq_true rfl⟩) ⟨RPc.blind, va_recv hK hP (ci := 4) (q0 := 0) rfl rfl, (RPc.at (hP.sub [0, 1, 2, 3, 4, 5, 6] rfl) hK hN)⟩ rfl rfl hl.1 rfl (lv_room (Nat.le_of_ble_eq_true rfl)) dX4_isOver_1 ⟨Nat.zero_le _, Nat.zero_le _⟩) ?_
  refine lv_iconst (v := -1) hx hb dX4_isOver_4 (by decide) ?_
  refine lv_icmp_eq (tgt := 12) hx hb dX4_isOver_5 (by decide) (fun c5_1 => ?_) (fun c5_1 => ?_)
  · skip
    refine lv_iconst (v := nI 0) hx hb dX4_isOver_12 (by decide) ?_
    exact ro_zret hx hb hr hlocks (by first | rfl | exact bI_nar _) (by rw [show ovB w h S n = false from ov_f c5_1]; rfl) dX4_isOver_13
  refine lv_iconst (v := nI 1) hx hb dX4_isOver_8 (by decide) ?_
  refine lv_goto (tgt := 13) hx hb dX4_isOver_9 (by decide) ?_
  exact ro_zret hx hb hr hlocks (by first | rfl | exact bI_nar _) (by rw [show ovB w h S n = true from ov_t c5_1]; rfl) dX4_isOver_13

set_option maxHeartbeats 4000000 in
set_option maxRecDepth 100000 in
theorem c_canBeValued (l : Launch) (D : va_G) (cI cJ cZ : ClassId) (w h x sn hs hi g st cs fo se : Nat) (S : Nat → Int64) (ht hy : Nat → Nat) (n : Nat) (hd : Dm w h) (hht : ∀ j, ht j ≤ h) (hn : n ≤ w * h) : Met l yX4_canBeValued wsX4_canBeValued (k2_rm 4 91) (RPc D [.ref x] (xW cI cJ w h x sn hs hi g st cs fo se S ht hy n) (tyA cI cJ cZ)) (k2_QcV (.int (bI (cvB w h S n)))) 0 0 (fun _ => False) := by
  refine ro_head (cc := cX4_canBeValued) (maxL := 1) (ret := (some .boolean)) (by decide) rfl (Nat.le_of_ble_eq_true rfl) ?_
  intro p e s m below meth cd ls hx hb hr hlocks hts hown hml hP hK hN hl
  have hl : lv_has ls 1 [(0, .ref x)] := hl
  have hd0 := hd
  obtain ⟨h3w, hw9, h3h, hh7, hwh, h64⟩ := hd0
  refine lv_aload_n hx hb dX4_canBeValued_0 rfl (lv_at hl 0 rfl) ?_
  refine ro_call (W.runV (As := []) (rest := []) ⟨hx, hb, hml, hown, hts⟩ (c_empty l D cI cJ cZ w h x sn hs hi g st cs fo se S ht hy n hd hht hn) (cwV 0 hts gX4_canBeValued_X4_empty rfl rfl rfl (by decide +kernel) ⟨Nat.le_of_ble_eq_true rfl, Nat.le_of_ble_eq_true rfl⟩) ⟨RPc.blind, va_recv hK hP (ci := 4) (q0 := 0) rfl rfl, (RPc.at (hP.sub [0, 1, 2, 3, 4, 5, 6] rfl) hK hN)⟩ rfl rfl hl.1 rfl (lv_room (Nat.le_of_ble_eq_true rfl)) dX4_canBeValued_1 ⟨Nat.zero_le _, Nat.zero_le _⟩) ?_
  refine lv_bipush (v := nI 12) hx hb dX4_canBeValued_4 (by decide) ?_
  refine n_icmp_gt (tgt := 20) hx hb dX4_canBeValued_6 (by decide) (by omega) (by omega) (fun c6_1 => ?_) (fun c6_1 => ?_)
  · skip
    refine lv_iconst (v := nI 0) hx hb dX4_canBeValued_20 (by decide) ?_
    exact ro_zret hx hb hr hlocks (by first | rfl | exact bI_nar _) (by unfold cvB; rw [decide_eq_false (show ¬ w * h - n ≤ 12 by omega)]; rfl) dX4_canBeValued_21
  refine lv_aload_n hx hb dX4_canBeValued_9 rfl (lv_at hl 0 rfl) ?_
  refine ro_call (W.runV (As := []) (rest := []) ⟨hx, hb, hml, hown, hts⟩ (c_isOver l D cI cJ cZ w h x sn hs hi g st cs fo se S ht hy n hd hht hn) (cwV 0 hts gX4_canBeValued_X4_isOver rfl rfl rfl (by decide +kernel) ⟨Nat.le_of_ble_eq_true rfl, Nat.le_of_ble_eq_true rfl⟩) ⟨RPc.blind, va_recv hK hP (ci := 4) (q0 := 0) rfl rfl, (RPc.at (hP.sub [0, 1, 2, 3, 4, 5, 6] rfl) hK hN)⟩ rfl rfl hl.1 rfl (lv_room (Nat.le_of_ble_eq_true rfl)) dX4_canBeValued_10 ⟨Nat.zero_le _, Nat.zero_le _⟩) ?_
  refine b_if_ne (tgt := 20) hx hb dX4_canBeValued_13 (by decide) (fun c13_2 => ?_) (fun c13_2 => ?_)
  · skip
    refine lv_iconst (v := nI 0) hx hb dX4_canBeValued_20 (by decide) ?_
    exact ro_zret hx hb hr hlocks (by first | rfl | exact bI_nar _) (by unfold cvB; rw [c13_2]; cases decide (w * h - n ≤ 12) <;> rfl) dX4_canBeValued_21
  refine lv_iconst (v := nI 1) hx hb dX4_canBeValued_16 (by decide) ?_
  refine lv_goto (tgt := 21) hx hb dX4_canBeValued_17 (by decide) ?_
  exact ro_zret hx hb hr hlocks (by first | rfl | exact bI_nar _) (by unfold cvB; rw [decide_eq_true (show w * h - n ≤ 12 by omega), c13_2]; rfl) dX4_canBeValued_21

set_option maxHeartbeats 4000000 in
set_option maxRecDepth 100000 in
theorem c_canFollow (l : Launch) (D : va_G) (cI cJ cZ : ClassId) (w h x sn hs hi g st cs fo se : Nat) (S : Nat → Int64) (ht hy : Nat → Nat) (n : Nat) (hd : Dm w h) (hht : ∀ j, ht j ≤ h) (hn : n ≤ w * h) : Met l yX4_canFollow wsX4_canFollow (k2_rm 0 0) (RPc D [.ref x] (xW cI cJ w h x sn hs hi g st cs fo se S ht hy n) (tyA cI cJ cZ)) (k2_QcV (.int (bI (evB h ht w)))) 0 0 (fun _ => False) := by
  refine ro_head (cc := cX4_canFollow) (maxL := 2) (ret := (some .boolean)) (by decide) rfl (Nat.le_of_ble_eq_true rfl) ?_
  intro p e s m below meth cd ls hx hb hr hlocks hts hown hml hP hK hN hl
  have hl : lv_has ls 2 [(0, .ref x)] := hl
  have hd0 := hd
  obtain ⟨h3w, hw9, h3h, hh7, hwh, h64⟩ := hd0
  refine lv_iconst (v := nI 0) hx hb dX4_canFollow_0 (by decide) ?_
  refine lv_istore_n (lv' := [(1, .int (nI 0)), (0, .ref x)]) hx hb dX4_canFollow_1 rfl hl (by decide) rfl (fun ls hl => ?_)
  refine loopW (σ := Unit) (m := m) 2 2 (fun i qx => [(0, .ref x), (1, .int (nI i))]) (fun i qx => evB h ht i = true) w ?_ ?_ 0 () ls (by omega) rfl (lv_sub hl [1, 0] rfl)
  · intro i qx ls hi_2 hI_2 hl ih_2
    have hl : lv_has ls 2 [(0, .ref x), (1, .int (nI i))] := hl
    have hI_2 : evB h ht i = true := hI_2
    refine lv_iload_n hx hb dX4_canFollow_2 rfl (lv_at hl 1 rfl) ?_
    refine lv_aload_n hx hb dX4_canFollow_3 rfl (lv_at hl 0 rfl) ?_
    refine va_get (C := RX4) (T := TX4) (N := 7) hx hb hts (by decide +kernel) hown hK hP 0 rfl rfl 0 (by decide) (hts (.fieldLink RX4 26 RX4 "grid" "LDropFour$Grid;") (by decide +kernel)) (fun _ h9 => h9) rfl dX4_canFollow_4 ?_
    refine va_getN (C := RX1) (T := TX1) (N := 6) hx hb hts (by decide +kernel) hown hK hP 4 rfl rfl 0 (by decide) (hN.use 9 rfl rfl) (fun _ h9 => h9) rfl dX4_canFollow_7 ?_
    refine n_icmp_ge (tgt := 40) hx hb dX4_canFollow_10 (by decide) (by omega) (by omega) (fun c10_1 => ?_) (fun c10_1 => ?_)
    · exact absurd c10_1 (by omega)
    refine lv_aload_n hx hb dX4_canFollow_13 rfl (lv_at hl 0 rfl) ?_
    refine va_get (C := RX4) (T := TX4) (N := 7) hx hb hts (by decide +kernel) hown hK hP 0 rfl rfl 0 (by decide) (hts (.fieldLink RX4 26 RX4 "grid" "LDropFour$Grid;") (by decide +kernel)) (fun _ h9 => h9) rfl dX4_canFollow_14 ?_
    refine va_getN (C := RX1) (T := TX1) (N := 6) hx hb hts (by decide +kernel) hown hK hP 4 rfl rfl 1 (by decide) (hN.use 8 rfl rfl) (fun _ h9 => h9) rfl dX4_canFollow_17 ?_
    refine lv_aload_n hx hb dX4_canFollow_20 rfl (lv_at hl 0 rfl) ?_
    refine va_get (C := RX4) (T := TX4) (N := 7) hx hb hts (by decide +kernel) hown hK hP 0 rfl rfl 4 (by decide) (hts (.fieldLink RX4 46 RX4 "heights" "[I") (by decide +kernel)) (fun _ h9 => h9) rfl dX4_canFollow_21 ?_
    refine lv_iload_n hx hb dX4_canFollow_24 rfl (lv_at hl 1 rfl) ?_
    refine n_iald hx hb hK hP 2 0 rfl rfl (by omega) (by omega) dX4_canFollow_25 ?_
    refine n_isub hx hb dX4_canFollow_26 (hht i) ?_
    refine lv_iconst (v := nI 2) hx hb dX4_canFollow_27 (by decide) ?_
    refine n_irem hx hb dX4_canFollow_28 (by omega) (by omega) (by omega) ?_
    refine n_if_eq (tgt := 34) hx hb dX4_canFollow_29 (by decide) (by omega) (fun c29_2 => ?_) (fun c29_2 => ?_)
    · skip
      refine n_iinc (n := 1) (lv' := [(1, .int (nI (i + 1))), (0, .ref x)]) hx hb dX4_canFollow_34 hl (k := 1) rfl (by decide) rfl (fun ls hl => ?_)
      refine lv_goto (tgt := 2) hx hb dX4_canFollow_37 (by decide) ?_
      exact ih_2 () ls (by unfold evB; rw [hI_2]; simp [c29_2]) (lv_sub hl [1, 0] rfl)
    refine lv_iconst (v := nI 0) hx hb dX4_canFollow_32 (by decide) ?_
    exact ro_zret hx hb hr hlocks (by first | rfl | exact bI_nar _) (by rw [evB_no c29_2 hi_2]; rfl) dX4_canFollow_33
  · intro qx ls hI_2 hl
    have hl : lv_has ls 2 [(0, .ref x), (1, .int (nI w))] := hl
    have hI_2 : evB h ht w = true := hI_2
    refine lv_iload_n hx hb dX4_canFollow_2 rfl (lv_at hl 1 rfl) ?_
    refine lv_aload_n hx hb dX4_canFollow_3 rfl (lv_at hl 0 rfl) ?_
    refine va_get (C := RX4) (T := TX4) (N := 7) hx hb hts (by decide +kernel) hown hK hP 0 rfl rfl 0 (by decide) (hts (.fieldLink RX4 26 RX4 "grid" "LDropFour$Grid;") (by decide +kernel)) (fun _ h9 => h9) rfl dX4_canFollow_4 ?_
    refine va_getN (C := RX1) (T := TX1) (N := 6) hx hb hts (by decide +kernel) hown hK hP 4 rfl rfl 0 (by decide) (hN.use 9 rfl rfl) (fun _ h9 => h9) rfl dX4_canFollow_7 ?_
    refine n_icmp_ge (tgt := 40) hx hb dX4_canFollow_10 (by decide) (by omega) (by omega) (fun c10_3 => ?_) (fun c10_3 => ?_)
    · skip
      refine lv_iconst (v := nI 1) hx hb dX4_canFollow_40 (by decide) ?_
      exact ro_zret hx hb hr hlocks (by first | rfl | exact bI_nar _) (by rw [hI_2]; rfl) dX4_canFollow_41
    · exact absurd c10_3 (by omega)

set_option maxHeartbeats 4000000 in
set_option maxRecDepth 100000 in
theorem c_isPlayer (l : Launch) (D : va_G) (cI cJ cZ : ClassId) (k : Int32) : Met l yX4_isPlayer wsX4_isPlayer (k2_rm 0 0) (RPc D [.int k] [] (tyA cI cJ cZ)) (k2_QcV (.int (bI (ipB k)))) 0 0 (fun _ => False) := by
  refine ro_head (cc := cX4_isPlayer) (maxL := 1) (ret := (some .boolean)) (by decide) rfl (Nat.le_of_ble_eq_true rfl) ?_
  intro p e s m below meth cd ls hx hb hr hlocks hts hown hml hP hK hN hl
  have hl : lv_has ls 1 [(0, .int k)] := hl
  refine lv_iload_n hx hb dX4_isPlayer_0 rfl (lv_at hl 0 rfl) ?_
  refine lv_if_eq (tgt := 9) hx hb dX4_isPlayer_1 (by decide) (fun c1_1 => ?_) (fun c1_1 => ?_)
  · skip
    refine lv_iconst (v := nI 1) hx hb dX4_isPlayer_9 (by decide) ?_
    refine lv_goto (tgt := 14) hx hb dX4_isPlayer_10 (by decide) ?_
    exact ro_zret hx hb hr hlocks (by first | rfl | exact bI_nar _) (by rw [show ipB k = true by simp [ipB, c1_1]]; rfl) dX4_isPlayer_14
  refine lv_iload_n hx hb dX4_isPlayer_4 rfl (lv_at hl 0 rfl) ?_
  refine lv_iconst (v := nI 1) hx hb dX4_isPlayer_5 (by decide) ?_
  refine lv_icmp_ne (tgt := 13) hx hb dX4_isPlayer_6 (by decide) (fun c6_2 => ?_) (fun c6_2 => ?_)
  · skip
    refine lv_iconst (v := nI 0) hx hb dX4_isPlayer_13 (by decide) ?_
    exact ro_zret hx hb hr hlocks (by first | rfl | exact bI_nar _) (by have q1 : ¬ k = 1 := c6_2; rw [show ipB k = false by simp [ipB, c1_1, q1]]; rfl) dX4_isPlayer_14
  refine lv_iconst (v := nI 1) hx hb dX4_isPlayer_9 (by decide) ?_
  refine lv_goto (tgt := 14) hx hb dX4_isPlayer_10 (by decide) ?_
  exact ro_zret hx hb hr hlocks (by first | rfl | exact bI_nar _) (by have q1 : k = 1 := c6_2; rw [show ipB k = true by simp [ipB, q1]]; rfl) dX4_isPlayer_14
end
section
set_option maxHeartbeats 4000000 in
set_option maxRecDepth 100000 in
theorem c_bitCount (l : Launch) (D : va_G) (cI cJ cZ : ClassId) (x : Int64) : Met l yJ13_bitCount_95d88 wsJ13_bitCount_95d88 (k2_rm 0 0) (RPc D [.long x] [] (tyA cI cJ cZ)) (k2_QcV (.int (nI (popN x 64)))) 0 0 (fun _ => False) := by
  refine ro_head (cc := cJ13_bitCount_95d88) (maxL := 2) (ret := (some .int)) (by decide) rfl (Nat.le_of_ble_eq_true rfl) ?_
  intro p e s m below meth cd ls hx hb hr hlocks hts hown hml hP hK hN hl
  have hl : lv_has ls 2 [(0, .long x)] := hl
  refine lv_lload_n hx hb dJ13_bitCount_95d88_0 rfl (lv_at hl 0 rfl) ?_
  refine lv_lload_n hx hb dJ13_bitCount_95d88_1 rfl (lv_at hl 0 rfl) ?_
  refine lv_iconst (v := nI 1) hx hb dJ13_bitCount_95d88_2 (by decide) ?_
  refine n_lushr hx hb dJ13_bitCount_95d88_3 ?_
  refine lv_ldc2 (v := 6148914691236517205) hx hb hown (hts (.constantLong RJ13 314 (6148914691236517205)) (by decide +kernel)) dJ13_bitCount_95d88_4 ?_
  refine lv_land hx hb dJ13_bitCount_95d88_7 ?_
  refine lv_lsub hx hb dJ13_bitCount_95d88_8 ?_
  refine lv_topl (fun a1 e1 => ?_)
  refine lv_lstore_n (lv' := [(0, .long a1)]) hx hb dJ13_bitCount_95d88_9 rfl hl (by decide) rfl (fun ls hl => ?_)
  refine lv_lload_n hx hb dJ13_bitCount_95d88_10 rfl (lv_at hl 0 rfl) ?_
  refine lv_ldc2 (v := 3689348814741910323) hx hb hown (hts (.constantLong RJ13 316 (3689348814741910323)) (by decide +kernel)) dJ13_bitCount_95d88_11 ?_
  refine lv_land hx hb dJ13_bitCount_95d88_14 ?_
  refine lv_lload_n hx hb dJ13_bitCount_95d88_15 rfl (lv_at hl 0 rfl) ?_
  refine lv_iconst (v := nI 2) hx hb dJ13_bitCount_95d88_16 (by decide) ?_
  refine n_lushr hx hb dJ13_bitCount_95d88_17 ?_
  refine lv_ldc2 (v := 3689348814741910323) hx hb hown (hts (.constantLong RJ13 316 (3689348814741910323)) (by decide +kernel)) dJ13_bitCount_95d88_18 ?_
  refine lv_land hx hb dJ13_bitCount_95d88_21 ?_
  refine lv_ladd hx hb dJ13_bitCount_95d88_22 ?_
  refine lv_topl (fun a2 e2 => ?_)
  refine lv_lstore_n (lv' := [(0, .long a2)]) hx hb dJ13_bitCount_95d88_23 rfl hl (by decide) rfl (fun ls hl => ?_)
  refine lv_lload_n hx hb dJ13_bitCount_95d88_24 rfl (lv_at hl 0 rfl) ?_
  refine lv_lload_n hx hb dJ13_bitCount_95d88_25 rfl (lv_at hl 0 rfl) ?_
  refine lv_iconst (v := nI 4) hx hb dJ13_bitCount_95d88_26 (by decide) ?_
  refine n_lushr hx hb dJ13_bitCount_95d88_27 ?_
  refine lv_ladd hx hb dJ13_bitCount_95d88_28 ?_
  refine lv_ldc2 (v := 1085102592571150095) hx hb hown (hts (.constantLong RJ13 318 (1085102592571150095)) (by decide +kernel)) dJ13_bitCount_95d88_29 ?_
  refine lv_land hx hb dJ13_bitCount_95d88_32 ?_
  refine lv_topl (fun a3 e3 => ?_)
  refine lv_lstore_n (lv' := [(0, .long a3)]) hx hb dJ13_bitCount_95d88_33 rfl hl (by decide) rfl (fun ls hl => ?_)
  refine lv_lload_n hx hb dJ13_bitCount_95d88_34 rfl (lv_at hl 0 rfl) ?_
  refine lv_lload_n hx hb dJ13_bitCount_95d88_35 rfl (lv_at hl 0 rfl) ?_
  refine lv_bipush (v := nI 8) hx hb dJ13_bitCount_95d88_36 (by decide) ?_
  refine n_lushr hx hb dJ13_bitCount_95d88_38 ?_
  refine lv_ladd hx hb dJ13_bitCount_95d88_39 ?_
  refine lv_topl (fun a4 e4 => ?_)
  refine lv_lstore_n (lv' := [(0, .long a4)]) hx hb dJ13_bitCount_95d88_40 rfl hl (by decide) rfl (fun ls hl => ?_)
  refine lv_lload_n hx hb dJ13_bitCount_95d88_41 rfl (lv_at hl 0 rfl) ?_
  refine lv_lload_n hx hb dJ13_bitCount_95d88_42 rfl (lv_at hl 0 rfl) ?_
  refine lv_bipush (v := nI 16) hx hb dJ13_bitCount_95d88_43 (by decide) ?_
  refine n_lushr hx hb dJ13_bitCount_95d88_45 ?_
  refine lv_ladd hx hb dJ13_bitCount_95d88_46 ?_
  refine lv_topl (fun a5 e5 => ?_)
  refine lv_lstore_n (lv' := [(0, .long a5)]) hx hb dJ13_bitCount_95d88_47 rfl hl (by decide) rfl (fun ls hl => ?_)
  refine lv_lload_n hx hb dJ13_bitCount_95d88_48 rfl (lv_at hl 0 rfl) ?_
  refine lv_lload_n hx hb dJ13_bitCount_95d88_49 rfl (lv_at hl 0 rfl) ?_
  refine lv_bipush (v := nI 32) hx hb dJ13_bitCount_95d88_50 (by decide) ?_
  refine n_lushr hx hb dJ13_bitCount_95d88_52 ?_
  refine lv_ladd hx hb dJ13_bitCount_95d88_53 ?_
  refine lv_topl (fun a6 e6 => ?_)
  refine lv_lstore_n (lv' := [(0, .long a6)]) hx hb dJ13_bitCount_95d88_54 rfl hl (by decide) rfl (fun ls hl => ?_)
  refine lv_lload_n hx hb dJ13_bitCount_95d88_55 rfl (lv_at hl 0 rfl) ?_
  refine lv_l2i hx hb dJ13_bitCount_95d88_56 rfl ?_
  refine lv_bipush (v := nI 127) hx hb dJ13_bitCount_95d88_57 (by decide) ?_
  refine lv_iand hx hb dJ13_bitCount_95d88_59 ?_
  exact ro_iret hx hb hr hlocks (bc_ok e1 e2 e3 e4 e5 e6) dJ13_bitCount_95d88_60

set_option maxHeartbeats 4000000 in
set_option maxRecDepth 100000 in
theorem c_countLines (l : Launch) (D : va_G) (cI cJ cZ : ClassId) (w h g st cs : Nat) (x : Int64) : Met l yX1_countLines wsX1_countLines (k2_rm 1 25) (RPc D [.ref g, .long x] (gW cI cJ w h g st cs) (tyA cI cJ cZ)) (k2_QcV (.int (nI (clN h x)))) 0 0 (fun _ => False) := by
  refine ro_head (cc := cX1_countLines) (maxL := 8) (ret := (some .int)) (by decide) rfl (Nat.le_of_ble_eq_true rfl) ?_
  intro p e s m below meth cd ls hx hb hr hlocks hts hown hml hP hK hN hl
  have hl : lv_has ls 8 [(0, .ref g), (1, .long x)] := hl
  refine lv_iconst (v := nI 0) hx hb dX1_countLines_0 (by decide) ?_
  refine lv_istore_n (lv' := [(3, .int (nI 0)), (0, .ref g), (1, .long x)]) hx hb dX1_countLines_1 rfl hl (by decide) rfl (fun ls hl => ?_)
  refine lv_aload_n hx hb dX1_countLines_2 rfl (lv_at hl 1 rfl) ?_
  refine va_get (C := RX1) (T := TX1) (N := 6) hx hb hts (by decide +kernel) hown hK hP 0 rfl rfl 4 (by decide) (hts (.fieldLink RX1 16 RX1 "steps" "[I") (by decide +kernel)) (fun _ h9 => h9) rfl dX1_countLines_3 ?_
  refine lv_astore (lv' := [(4, .ref st), (3, .int (nI 0)), (0, .ref g), (1, .long x)]) hx hb dX1_countLines_6 hl (by decide) rfl (fun ls hl => ?_)
  refine lv_aload hx hb dX1_countLines_8 (lv_at hl 0 rfl) ?_
  refine va_alen hx hb hK hP 1 0 rfl rfl (v := nI 4) rfl dX1_countLines_10 ?_
  refine lv_istore (lv' := [(5, .int (nI 4)), (4, .ref st), (3, .int (nI 0)), (0, .ref g), (1, .long x)]) hx hb dX1_countLines_11 hl (by decide) rfl (fun ls hl => ?_)
  refine lv_iconst (v := nI 0) hx hb dX1_countLines_13 (by decide) ?_
  refine lv_istore (lv' := [(6, .int (nI 0)), (5, .int (nI 4)), (4, .ref st), (3, .int (nI 0)), (0, .ref g), (1, .long x)]) hx hb dX1_countLines_14 hl (by decide) rfl (fun ls hl => ?_)
  refine lv_iload hx hb dX1_countLines_16 (lv_at hl 0 rfl) ?_
  refine lv_iload hx hb dX1_countLines_18 (lv_at hl 1 rfl) ?_
  refine n_icmp_ge (tgt := 49) hx hb dX1_countLines_20 (by decide) (by decide) (by decide) (fun c20_1 => absurd c20_1 (by decide)) (fun _ => ?_)
  refine lv_aload hx hb dX1_countLines_23 (lv_at hl 2 rfl) ?_
  refine lv_iload hx hb dX1_countLines_25 (lv_at hl 0 rfl) ?_
  refine n_iald hx hb hK hP 1 0 rfl rfl (by omega) (by omega) dX1_countLines_27 ?_
  refine lv_istore (lv' := [(7, .int (nI (stp h 0))), (6, .int (nI 0)), (5, .int (nI 4)), (4, .ref st), (3, .int (nI 0)), (0, .ref g), (1, .long x)]) hx hb dX1_countLines_28 hl (by decide) rfl (fun ls hl => ?_)
  refine lv_iload_n hx hb dX1_countLines_30 rfl (lv_at hl 4 rfl) ?_
  refine lv_aload_n hx hb dX1_countLines_31 rfl (lv_at hl 5 rfl) ?_
  refine lv_lload_n hx hb dX1_countLines_32 rfl (lv_at hl 6 rfl) ?_
  refine lv_iload hx hb dX1_countLines_33 (lv_at hl 0 rfl) ?_
  refine ro_call (W.runV (As := [.long x, .int (nI (stp h 0))]) (rest := [.int (nI 0)]) ⟨hx, hb, hml, hown, hts⟩ (c_lineStarts l D cI cJ cZ w h g st cs x (stp h 0)) (cwV 2 hts gX1_countLines_X1_lineStarts rfl rfl rfl (by decide +kernel) ⟨Nat.le_of_ble_eq_true rfl, Nat.le_of_ble_eq_true rfl⟩) ⟨RPc.blind, va_recv hK hP (ci := 1) (q0 := 0) rfl rfl, (RPc.at (hP.sub [0, 1, 2] rfl) hK hN)⟩ rfl rfl hl.1 rfl (lv_room (Nat.le_of_ble_eq_true rfl)) dX1_countLines_35 ⟨Nat.zero_le _, Nat.zero_le _⟩) ?_
  refine ro_call (W.runS (As := [.long (lsL x (stp h 0))]) (rest := [.int (nI 0)]) ⟨hx, hb, hml, hown, hts⟩ (c_bitCount l D cI cJ cZ (lsL x (stp h 0))) (va_cwS 1 hts gX1_countLines_J13_bitCount_95d88 rfl rfl rfl (by decide +kernel) ⟨Nat.le_of_ble_eq_true rfl, Nat.le_of_ble_eq_true rfl⟩) ⟨RPc.blind, (RPc.at (hP.sub [] rfl) hK hN)⟩ rfl rfl hl.1 rfl (lv_room (Nat.le_of_ble_eq_true rfl)) dX1_countLines_38 ⟨Nat.zero_le _, Nat.zero_le _⟩) ?_
  refine n_iadd hx hb dX1_countLines_41 ?_
  refine lv_istore_n (lv' := [(3, .int (nI (0 + (popN (lsL x (stp h 0)) 64)))), (7, .int (nI (stp h 0))), (6, .int (nI 0)), (5, .int (nI 4)), (4, .ref st), (0, .ref g), (1, .long x)]) hx hb dX1_countLines_42 rfl hl (by decide) rfl (fun ls hl => ?_)
  refine n_iinc (n := 1) (lv' := [(6, .int (nI 1)), (3, .int (nI (0 + (popN (lsL x (stp h 0)) 64)))), (7, .int (nI (stp h 0))), (5, .int (nI 4)), (4, .ref st), (0, .ref g), (1, .long x)]) hx hb dX1_countLines_43 hl (k := 2) rfl (by decide) rfl (fun ls hl => ?_)
  refine lv_goto (tgt := 16) hx hb dX1_countLines_46 (by decide) ?_
  refine lv_iload hx hb dX1_countLines_16 (lv_at hl 0 rfl) ?_
  refine lv_iload hx hb dX1_countLines_18 (lv_at hl 3 rfl) ?_
  refine n_icmp_ge (tgt := 49) hx hb dX1_countLines_20 (by decide) (by decide) (by decide) (fun c20_2 => absurd c20_2 (by decide)) (fun _ => ?_)
  refine lv_aload hx hb dX1_countLines_23 (lv_at hl 4 rfl) ?_
  refine lv_iload hx hb dX1_countLines_25 (lv_at hl 0 rfl) ?_
  refine n_iald hx hb hK hP 1 0 rfl rfl (by omega) (by omega) dX1_countLines_27 ?_
  refine lv_istore (lv' := [(7, .int (nI (stp h 1))), (6, .int (nI 1)), (3, .int (nI (0 + (popN (lsL x (stp h 0)) 64)))), (5, .int (nI 4)), (4, .ref st), (0, .ref g), (1, .long x)]) hx hb dX1_countLines_28 hl (by decide) rfl (fun ls hl => ?_)
  refine lv_iload_n hx hb dX1_countLines_30 rfl (lv_at hl 2 rfl) ?_
  refine lv_aload_n hx hb dX1_countLines_31 rfl (lv_at hl 5 rfl) ?_
  refine lv_lload_n hx hb dX1_countLines_32 rfl (lv_at hl 6 rfl) ?_
  refine lv_iload hx hb dX1_countLines_33 (lv_at hl 0 rfl) ?_
  refine ro_call (W.runV (As := [.long x, .int (nI (stp h 1))]) (rest := [.int (nI (0 + (popN (lsL x (stp h 0)) 64)))]) ⟨hx, hb, hml, hown, hts⟩ (c_lineStarts l D cI cJ cZ w h g st cs x (stp h 1)) (cwV 2 hts gX1_countLines_X1_lineStarts rfl rfl rfl (by decide +kernel) ⟨Nat.le_of_ble_eq_true rfl, Nat.le_of_ble_eq_true rfl⟩) ⟨RPc.blind, va_recv hK hP (ci := 1) (q0 := 0) rfl rfl, (RPc.at (hP.sub [0, 1, 2] rfl) hK hN)⟩ rfl rfl hl.1 rfl (lv_room (Nat.le_of_ble_eq_true rfl)) dX1_countLines_35 ⟨Nat.zero_le _, Nat.zero_le _⟩) ?_
  refine ro_call (W.runS (As := [.long (lsL x (stp h 1))]) (rest := [.int (nI (0 + (popN (lsL x (stp h 0)) 64)))]) ⟨hx, hb, hml, hown, hts⟩ (c_bitCount l D cI cJ cZ (lsL x (stp h 1))) (va_cwS 1 hts gX1_countLines_J13_bitCount_95d88 rfl rfl rfl (by decide +kernel) ⟨Nat.le_of_ble_eq_true rfl, Nat.le_of_ble_eq_true rfl⟩) ⟨RPc.blind, (RPc.at (hP.sub [] rfl) hK hN)⟩ rfl rfl hl.1 rfl (lv_room (Nat.le_of_ble_eq_true rfl)) dX1_countLines_38 ⟨Nat.zero_le _, Nat.zero_le _⟩) ?_
  refine n_iadd hx hb dX1_countLines_41 ?_
  refine lv_istore_n (lv' := [(3, .int (nI ((0 + (popN (lsL x (stp h 0)) 64)) + (popN (lsL x (stp h 1)) 64)))), (7, .int (nI (stp h 1))), (6, .int (nI 1)), (5, .int (nI 4)), (4, .ref st), (0, .ref g), (1, .long x)]) hx hb dX1_countLines_42 rfl hl (by decide) rfl (fun ls hl => ?_)
  refine n_iinc (n := 1) (lv' := [(6, .int (nI 2)), (3, .int (nI ((0 + (popN (lsL x (stp h 0)) 64)) + (popN (lsL x (stp h 1)) 64)))), (7, .int (nI (stp h 1))), (5, .int (nI 4)), (4, .ref st), (0, .ref g), (1, .long x)]) hx hb dX1_countLines_43 hl (k := 2) rfl (by decide) rfl (fun ls hl => ?_)
  refine lv_goto (tgt := 16) hx hb dX1_countLines_46 (by decide) ?_
  refine lv_iload hx hb dX1_countLines_16 (lv_at hl 0 rfl) ?_
  refine lv_iload hx hb dX1_countLines_18 (lv_at hl 3 rfl) ?_
  refine n_icmp_ge (tgt := 49) hx hb dX1_countLines_20 (by decide) (by decide) (by decide) (fun c20_3 => absurd c20_3 (by decide)) (fun _ => ?_)
  refine lv_aload hx hb dX1_countLines_23 (lv_at hl 4 rfl) ?_
  refine lv_iload hx hb dX1_countLines_25 (lv_at hl 0 rfl) ?_
  refine n_iald hx hb hK hP 1 0 rfl rfl (by omega) (by omega) dX1_countLines_27 ?_
  refine lv_istore (lv' := [(7, .int (nI (stp h 2))), (6, .int (nI 2)), (3, .int (nI ((0 + (popN (lsL x (stp h 0)) 64)) + (popN (lsL x (stp h 1)) 64)))), (5, .int (nI 4)), (4, .ref st), (0, .ref g), (1, .long x)]) hx hb dX1_countLines_28 hl (by decide) rfl (fun ls hl => ?_)
  refine lv_iload_n hx hb dX1_countLines_30 rfl (lv_at hl 2 rfl) ?_
  refine lv_aload_n hx hb dX1_countLines_31 rfl (lv_at hl 5 rfl) ?_
  refine lv_lload_n hx hb dX1_countLines_32 rfl (lv_at hl 6 rfl) ?_
  refine lv_iload hx hb dX1_countLines_33 (lv_at hl 0 rfl) ?_
  refine ro_call (W.runV (As := [.long x, .int (nI (stp h 2))]) (rest := [.int (nI ((0 + (popN (lsL x (stp h 0)) 64)) + (popN (lsL x (stp h 1)) 64)))]) ⟨hx, hb, hml, hown, hts⟩ (c_lineStarts l D cI cJ cZ w h g st cs x (stp h 2)) (cwV 2 hts gX1_countLines_X1_lineStarts rfl rfl rfl (by decide +kernel) ⟨Nat.le_of_ble_eq_true rfl, Nat.le_of_ble_eq_true rfl⟩) ⟨RPc.blind, va_recv hK hP (ci := 1) (q0 := 0) rfl rfl, (RPc.at (hP.sub [0, 1, 2] rfl) hK hN)⟩ rfl rfl hl.1 rfl (lv_room (Nat.le_of_ble_eq_true rfl)) dX1_countLines_35 ⟨Nat.zero_le _, Nat.zero_le _⟩) ?_
  refine ro_call (W.runS (As := [.long (lsL x (stp h 2))]) (rest := [.int (nI ((0 + (popN (lsL x (stp h 0)) 64)) + (popN (lsL x (stp h 1)) 64)))]) ⟨hx, hb, hml, hown, hts⟩ (c_bitCount l D cI cJ cZ (lsL x (stp h 2))) (va_cwS 1 hts gX1_countLines_J13_bitCount_95d88 rfl rfl rfl (by decide +kernel) ⟨Nat.le_of_ble_eq_true rfl, Nat.le_of_ble_eq_true rfl⟩) ⟨RPc.blind, (RPc.at (hP.sub [] rfl) hK hN)⟩ rfl rfl hl.1 rfl (lv_room (Nat.le_of_ble_eq_true rfl)) dX1_countLines_38 ⟨Nat.zero_le _, Nat.zero_le _⟩) ?_
  refine n_iadd hx hb dX1_countLines_41 ?_
  refine lv_istore_n (lv' := [(3, .int (nI (((0 + (popN (lsL x (stp h 0)) 64)) + (popN (lsL x (stp h 1)) 64)) + (popN (lsL x (stp h 2)) 64)))), (7, .int (nI (stp h 2))), (6, .int (nI 2)), (5, .int (nI 4)), (4, .ref st), (0, .ref g), (1, .long x)]) hx hb dX1_countLines_42 rfl hl (by decide) rfl (fun ls hl => ?_)
  refine n_iinc (n := 1) (lv' := [(6, .int (nI 3)), (3, .int (nI (((0 + (popN (lsL x (stp h 0)) 64)) + (popN (lsL x (stp h 1)) 64)) + (popN (lsL x (stp h 2)) 64)))), (7, .int (nI (stp h 2))), (5, .int (nI 4)), (4, .ref st), (0, .ref g), (1, .long x)]) hx hb dX1_countLines_43 hl (k := 2) rfl (by decide) rfl (fun ls hl => ?_)
  refine lv_goto (tgt := 16) hx hb dX1_countLines_46 (by decide) ?_
  refine lv_iload hx hb dX1_countLines_16 (lv_at hl 0 rfl) ?_
  refine lv_iload hx hb dX1_countLines_18 (lv_at hl 3 rfl) ?_
  refine n_icmp_ge (tgt := 49) hx hb dX1_countLines_20 (by decide) (by decide) (by decide) (fun c20_4 => absurd c20_4 (by decide)) (fun _ => ?_)
  refine lv_aload hx hb dX1_countLines_23 (lv_at hl 4 rfl) ?_
  refine lv_iload hx hb dX1_countLines_25 (lv_at hl 0 rfl) ?_
  refine n_iald hx hb hK hP 1 0 rfl rfl (by omega) (by omega) dX1_countLines_27 ?_
  refine lv_istore (lv' := [(7, .int (nI (stp h 3))), (6, .int (nI 3)), (3, .int (nI (((0 + (popN (lsL x (stp h 0)) 64)) + (popN (lsL x (stp h 1)) 64)) + (popN (lsL x (stp h 2)) 64)))), (5, .int (nI 4)), (4, .ref st), (0, .ref g), (1, .long x)]) hx hb dX1_countLines_28 hl (by decide) rfl (fun ls hl => ?_)
  refine lv_iload_n hx hb dX1_countLines_30 rfl (lv_at hl 2 rfl) ?_
  refine lv_aload_n hx hb dX1_countLines_31 rfl (lv_at hl 5 rfl) ?_
  refine lv_lload_n hx hb dX1_countLines_32 rfl (lv_at hl 6 rfl) ?_
  refine lv_iload hx hb dX1_countLines_33 (lv_at hl 0 rfl) ?_
  refine ro_call (W.runV (As := [.long x, .int (nI (stp h 3))]) (rest := [.int (nI (((0 + (popN (lsL x (stp h 0)) 64)) + (popN (lsL x (stp h 1)) 64)) + (popN (lsL x (stp h 2)) 64)))]) ⟨hx, hb, hml, hown, hts⟩ (c_lineStarts l D cI cJ cZ w h g st cs x (stp h 3)) (cwV 2 hts gX1_countLines_X1_lineStarts rfl rfl rfl (by decide +kernel) ⟨Nat.le_of_ble_eq_true rfl, Nat.le_of_ble_eq_true rfl⟩) ⟨RPc.blind, va_recv hK hP (ci := 1) (q0 := 0) rfl rfl, (RPc.at (hP.sub [0, 1, 2] rfl) hK hN)⟩ rfl rfl hl.1 rfl (lv_room (Nat.le_of_ble_eq_true rfl)) dX1_countLines_35 ⟨Nat.zero_le _, Nat.zero_le _⟩) ?_
  refine ro_call (W.runS (As := [.long (lsL x (stp h 3))]) (rest := [.int (nI (((0 + (popN (lsL x (stp h 0)) 64)) + (popN (lsL x (stp h 1)) 64)) + (popN (lsL x (stp h 2)) 64)))]) ⟨hx, hb, hml, hown, hts⟩ (c_bitCount l D cI cJ cZ (lsL x (stp h 3))) (va_cwS 1 hts gX1_countLines_J13_bitCount_95d88 rfl rfl rfl (by decide +kernel) ⟨Nat.le_of_ble_eq_true rfl, Nat.le_of_ble_eq_true rfl⟩) ⟨RPc.blind, (RPc.at (hP.sub [] rfl) hK hN)⟩ rfl rfl hl.1 rfl (lv_room (Nat.le_of_ble_eq_true rfl)) dX1_countLines_38 ⟨Nat.zero_le _, Nat.zero_le _⟩) ?_
  refine n_iadd hx hb dX1_countLines_41 ?_
  refine lv_istore_n (lv' := [(3, .int (nI ((((0 + (popN (lsL x (stp h 0)) 64)) + (popN (lsL x (stp h 1)) 64)) + (popN (lsL x (stp h 2)) 64)) + (popN (lsL x (stp h 3)) 64)))), (7, .int (nI (stp h 3))), (6, .int (nI 3)), (5, .int (nI 4)), (4, .ref st), (0, .ref g), (1, .long x)]) hx hb dX1_countLines_42 rfl hl (by decide) rfl (fun ls hl => ?_)
  refine n_iinc (n := 1) (lv' := [(6, .int (nI 4)), (3, .int (nI ((((0 + (popN (lsL x (stp h 0)) 64)) + (popN (lsL x (stp h 1)) 64)) + (popN (lsL x (stp h 2)) 64)) + (popN (lsL x (stp h 3)) 64)))), (7, .int (nI (stp h 3))), (5, .int (nI 4)), (4, .ref st), (0, .ref g), (1, .long x)]) hx hb dX1_countLines_43 hl (k := 2) rfl (by decide) rfl (fun ls hl => ?_)
  refine lv_goto (tgt := 16) hx hb dX1_countLines_46 (by decide) ?_
  refine lv_iload hx hb dX1_countLines_16 (lv_at hl 0 rfl) ?_
  refine lv_iload hx hb dX1_countLines_18 (lv_at hl 3 rfl) ?_
  refine n_icmp_ge (tgt := 49) hx hb dX1_countLines_20 (by decide) (by decide) (by decide) (fun _ => ?_) (fun c20_5 => absurd c20_5 (by decide))
  refine lv_iload_n hx hb dX1_countLines_49 rfl (lv_at hl 1 rfl) ?_
  exact ro_iret hx hb hr hlocks rfl dX1_countLines_50

set_option maxHeartbeats 4000000 in
set_option maxRecDepth 100000 in
theorem c_safeMoves (l : Launch) (D : va_G) (cI cJ cZ : ClassId) (nx th : Int64) : Met l yX3_safeMoves wsX3_safeMoves (k2_rm 1 21) (RPc D [.long nx, .long th] [] (tyA cI cJ cZ)) (k2_QcV (.long (smL nx th))) 0 0 (fun _ => False) := by
  refine ro_head (cc := cX3_safeMoves) (maxL := 8) (ret := (some .long)) (by decide) rfl (Nat.le_of_ble_eq_true rfl) ?_
  intro p e s m below meth cd ls hx hb hr hlocks hts hown hml hP hK hN hl
  have hl : lv_has ls 8 [(0, .long nx), (2, .long th)] := hl
  refine lv_lload_n hx hb dX3_safeMoves_0 rfl (lv_at hl 0 rfl) ?_
  refine lv_lload_n hx hb dX3_safeMoves_1 rfl (lv_at hl 1 rfl) ?_
  refine lv_land hx hb dX3_safeMoves_2 ?_
  refine lv_lstore (lv' := [(4, .long (nx &&& th)), (0, .long nx), (2, .long th)]) hx hb dX3_safeMoves_3 hl (by decide) rfl (fun ls hl => ?_)
  refine lv_lload hx hb dX3_safeMoves_5 (lv_at hl 0 rfl) ?_
  refine ro_call (W.runS (As := [.long (nx &&& th)]) (rest := []) ⟨hx, hb, hml, hown, hts⟩ (c_bitCount l D cI cJ cZ (nx &&& th)) (va_cwS 1 hts gX3_safeMoves_J13_bitCount_95d88 rfl rfl rfl (by decide +kernel) ⟨Nat.le_of_ble_eq_true rfl, Nat.le_of_ble_eq_true rfl⟩) ⟨RPc.blind, (RPc.at (hP.sub [] rfl) hK hN)⟩ rfl rfl hl.1 rfl (lv_room (Nat.le_of_ble_eq_true rfl)) dX3_safeMoves_7 ⟨Nat.zero_le _, Nat.zero_le _⟩) ?_
  refine lv_iconst (v := nI 1) hx hb dX3_safeMoves_10 (by decide) ?_
  refine n_icmp_le (tgt := 16) hx hb dX3_safeMoves_11 (by decide) (Nat.lt_of_le_of_lt (popN_le _ _) (by decide)) (by decide) (fun c11_1 => ?_) (fun c11_1 => ?_)
  · skip
    refine lv_lload hx hb dX3_safeMoves_16 (lv_at hl 0 rfl) ?_
    refine lv_lconst (v := 0) hx hb dX3_safeMoves_18 (by decide) ?_
    refine W.lcmp hx hb dX3_safeMoves_19 ?_
    refine l_if_ne (tgt := 27) hx hb dX3_safeMoves_20 (by decide) (fun c20_2 => ?_) (fun c20_2 => ?_)
    · skip
      refine lv_lload hx hb dX3_safeMoves_27 (lv_at hl 0 rfl) ?_
      refine lv_lstore (lv' := [(6, .long (nx &&& th)), (4, .long (nx &&& th)), (0, .long nx), (2, .long th)]) hx hb dX3_safeMoves_29 hl (by decide) rfl (fun ls hl => ?_)
      refine lv_lload hx hb dX3_safeMoves_31 (lv_at hl 0 rfl) ?_
      refine lv_lload_n hx hb dX3_safeMoves_33 rfl (lv_at hl 3 rfl) ?_
      refine lv_iconst (v := nI 1) hx hb dX3_safeMoves_34 (by decide) ?_
      refine n_lushr hx hb dX3_safeMoves_35 ?_
      refine lv_ldc2 (v := (-1)) hx hb hown (hts (.constantLong RX3 54 (-1)) (by decide +kernel)) dX3_safeMoves_36 ?_
      refine lv_lxor hx hb dX3_safeMoves_39 ?_
      refine lv_land hx hb dX3_safeMoves_40 ?_
      exact ro_lret hx hb hr hlocks (by unfold smL; rw [if_neg (Nat.not_lt.mpr c11_1), if_neg c20_2]) dX3_safeMoves_41
    refine lv_lload_n hx hb dX3_safeMoves_23 rfl (lv_at hl 1 rfl) ?_
    refine lv_goto (tgt := 29) hx hb dX3_safeMoves_24 (by decide) ?_
    refine lv_lstore (lv' := [(6, .long nx), (4, .long (nx &&& th)), (0, .long nx), (2, .long th)]) hx hb dX3_safeMoves_29 hl (by decide) rfl (fun ls hl => ?_)
    refine lv_lload hx hb dX3_safeMoves_31 (lv_at hl 0 rfl) ?_
    refine lv_lload_n hx hb dX3_safeMoves_33 rfl (lv_at hl 3 rfl) ?_
    refine lv_iconst (v := nI 1) hx hb dX3_safeMoves_34 (by decide) ?_
    refine n_lushr hx hb dX3_safeMoves_35 ?_
    refine lv_ldc2 (v := (-1)) hx hb hown (hts (.constantLong RX3 54 (-1)) (by decide +kernel)) dX3_safeMoves_36 ?_
    refine lv_lxor hx hb dX3_safeMoves_39 ?_
    refine lv_land hx hb dX3_safeMoves_40 ?_
    exact ro_lret hx hb hr hlocks (by unfold smL; rw [if_neg (Nat.not_lt.mpr c11_1), if_pos c20_2]) dX3_safeMoves_41
  refine lv_lconst (v := 0) hx hb dX3_safeMoves_14 (by decide) ?_
  exact ro_lret hx hb hr hlocks (by unfold smL; rw [if_pos c11_1]) dX3_safeMoves_15

set_option maxHeartbeats 4000000 in
set_option maxRecDepth 100000 in
theorem c_slotOf (l : Launch) (D : va_G) (cI cJ cZ : ClassId) (k : Int64) : Met l yX2_slotOf wsX2_slotOf (k2_rm 0 0) (RPc D [.long k] [] (tyA cI cJ cZ)) (k2_QcV (.int (nI (slN k)))) 0 0 (fun _ => False) := by
  refine ro_head (cc := cX2_slotOf) (maxL := 2) (ret := (some .int)) (by decide) rfl (Nat.le_of_ble_eq_true rfl) ?_
  intro p e s m below meth cd ls hx hb hr hlocks hts hown hml hP hK hN hl
  have hl : lv_has ls 2 [(0, .long k)] := hl
  refine lv_lload_n hx hb dX2_slotOf_0 rfl (lv_at hl 0 rfl) ?_
  refine lv_ldc2 (v := (-7046029254386353131)) hx hb hown (hts (.constantLong RX2 24 (-7046029254386353131)) (by decide +kernel)) dX2_slotOf_1 ?_
  refine lv_lmul hx hb dX2_slotOf_4 ?_
  refine lv_bipush (v := nI 54) hx hb dX2_slotOf_5 (by decide) ?_
  refine n_lushr hx hb dX2_slotOf_7 ?_
  refine lv_l2i hx hb dX2_slotOf_8 rfl ?_
  exact ro_iret hx hb hr hlocks (slN_I k) dX2_slotOf_9

set_option maxHeartbeats 4000000 in
set_option maxRecDepth 100000 in
theorem c_holds (l : Launch) (D : va_G) (cI cJ cZ : ClassId) (me ks le mo : Nat) (K : Nat → Int64) (lf mf : Nat → Int32) (k : Int64) : Met l yX2_holds wsX2_holds (k2_rm 1 21) (RPc D [.ref me, .long k] (mW cI cJ me ks le mo K lf mf) (tyA cI cJ cZ)) (k2_QcV (.int (bI (decide (K (slN k) = k))))) 0 0 (fun _ => False) := by
  refine ro_head (cc := cX2_holds) (maxL := 3) (ret := (some .boolean)) (by decide) rfl (Nat.le_of_ble_eq_true rfl) ?_
  intro p e s m below meth cd ls hx hb hr hlocks hts hown hml hP hK hN hl
  have hl : lv_has ls 3 [(0, .ref me), (1, .long k)] := hl
  refine lv_aload_n hx hb dX2_holds_0 rfl (lv_at hl 0 rfl) ?_
  refine va_get (C := RX2) (T := TX2) (N := 3) hx hb hts (by decide +kernel) hown hK hP 0 rfl rfl 0 (by decide) (hts (.fieldLink RX2 9 RX2 "keys" "[J") (by decide +kernel)) (fun _ h9 => h9) rfl dX2_holds_1 ?_
  refine lv_lload_n hx hb dX2_holds_4 rfl (lv_at hl 1 rfl) ?_
  refine ro_call (W.runS (As := [.long k]) (rest := [.ref ks]) ⟨hx, hb, hml, hown, hts⟩ (c_slotOf l D cI cJ cZ k) (va_cwS 1 hts gX2_holds_X2_slotOf rfl rfl rfl (by decide +kernel) ⟨Nat.le_of_ble_eq_true rfl, Nat.le_of_ble_eq_true rfl⟩) ⟨RPc.blind, (RPc.at (hP.sub [] rfl) hK hN)⟩ rfl rfl hl.1 rfl (lv_room (Nat.le_of_ble_eq_true rfl)) dX2_holds_5 ⟨Nat.zero_le _, Nat.zero_le _⟩) ?_
  refine n_lald hx hb hK hP 1 1 rfl rfl (slN_lt k) (by decide) dX2_holds_8 ?_
  refine lv_lload_n hx hb dX2_holds_9 rfl (lv_at hl 1 rfl) ?_
  refine W.lcmp hx hb dX2_holds_10 ?_
  refine l_if_ne (tgt := 18) hx hb dX2_holds_11 (by decide) (fun c11_1 => ?_) (fun c11_1 => ?_)
  · skip
    refine lv_iconst (v := nI 0) hx hb dX2_holds_18 (by decide) ?_
    exact ro_zret hx hb hr hlocks (by first | rfl | exact bI_nar _) (by simp [bI, nI, c11_1]) dX2_holds_19
  refine lv_iconst (v := nI 1) hx hb dX2_holds_14 (by decide) ?_
  refine lv_goto (tgt := 19) hx hb dX2_holds_15 (by decide) ?_
  exact ro_zret hx hb hr hlocks (by first | rfl | exact bI_nar _) (by simp [bI, nI, c11_1]) dX2_holds_19

set_option maxHeartbeats 4000000 in
set_option maxRecDepth 100000 in
theorem c_leastOf (l : Launch) (D : va_G) (cI cJ cZ : ClassId) (me ks le mo : Nat) (K : Nat → Int64) (lf mf : Nat → Int32) (k : Int64) : Met l yX2_leastOf wsX2_leastOf (k2_rm 1 21) (RPc D [.ref me, .long k] (mW cI cJ me ks le mo K lf mf) (tyA cI cJ cZ)) (k2_QcV (.int (lf (slN k)))) 0 0 (fun _ => False) := by
  refine ro_head (cc := cX2_leastOf) (maxL := 3) (ret := (some .int)) (by decide) rfl (Nat.le_of_ble_eq_true rfl) ?_
  intro p e s m below meth cd ls hx hb hr hlocks hts hown hml hP hK hN hl
  have hl : lv_has ls 3 [(0, .ref me), (1, .long k)] := hl
  refine lv_aload_n hx hb dX2_leastOf_0 rfl (lv_at hl 0 rfl) ?_
  refine va_get (C := RX2) (T := TX2) (N := 3) hx hb hts (by decide +kernel) hown hK hP 0 rfl rfl 1 (by decide) (hts (.fieldLink RX2 13 RX2 "least" "[I") (by decide +kernel)) (fun _ h9 => h9) rfl dX2_leastOf_1 ?_
  refine lv_lload_n hx hb dX2_leastOf_4 rfl (lv_at hl 1 rfl) ?_
  refine ro_call (W.runS (As := [.long k]) (rest := [.ref le]) ⟨hx, hb, hml, hown, hts⟩ (c_slotOf l D cI cJ cZ k) (va_cwS 1 hts gX2_leastOf_X2_slotOf rfl rfl rfl (by decide +kernel) ⟨Nat.le_of_ble_eq_true rfl, Nat.le_of_ble_eq_true rfl⟩) ⟨RPc.blind, (RPc.at (hP.sub [] rfl) hK hN)⟩ rfl rfl hl.1 rfl (lv_room (Nat.le_of_ble_eq_true rfl)) dX2_leastOf_5 ⟨Nat.zero_le _, Nat.zero_le _⟩) ?_
  refine n_iald hx hb hK hP 2 0 rfl rfl (slN_lt k) (by decide) dX2_leastOf_8 ?_
  exact ro_iret hx hb hr hlocks rfl dX2_leastOf_9

set_option maxHeartbeats 4000000 in
set_option maxRecDepth 100000 in
theorem c_mostOf (l : Launch) (D : va_G) (cI cJ cZ : ClassId) (me ks le mo : Nat) (K : Nat → Int64) (lf mf : Nat → Int32) (k : Int64) : Met l yX2_mostOf wsX2_mostOf (k2_rm 1 21) (RPc D [.ref me, .long k] (mW cI cJ me ks le mo K lf mf) (tyA cI cJ cZ)) (k2_QcV (.int (mf (slN k)))) 0 0 (fun _ => False) := by
  refine ro_head (cc := cX2_mostOf) (maxL := 3) (ret := (some .int)) (by decide) rfl (Nat.le_of_ble_eq_true rfl) ?_
  intro p e s m below meth cd ls hx hb hr hlocks hts hown hml hP hK hN hl
  have hl : lv_has ls 3 [(0, .ref me), (1, .long k)] := hl
  refine lv_aload_n hx hb dX2_mostOf_0 rfl (lv_at hl 0 rfl) ?_
  refine va_get (C := RX2) (T := TX2) (N := 3) hx hb hts (by decide +kernel) hown hK hP 0 rfl rfl 2 (by decide) (hts (.fieldLink RX2 17 RX2 "most" "[I") (by decide +kernel)) (fun _ h9 => h9) rfl dX2_mostOf_1 ?_
  refine lv_lload_n hx hb dX2_mostOf_4 rfl (lv_at hl 1 rfl) ?_
  refine ro_call (W.runS (As := [.long k]) (rest := [.ref mo]) ⟨hx, hb, hml, hown, hts⟩ (c_slotOf l D cI cJ cZ k) (va_cwS 1 hts gX2_mostOf_X2_slotOf rfl rfl rfl (by decide +kernel) ⟨Nat.le_of_ble_eq_true rfl, Nat.le_of_ble_eq_true rfl⟩) ⟨RPc.blind, (RPc.at (hP.sub [] rfl) hK hN)⟩ rfl rfl hl.1 rfl (lv_room (Nat.le_of_ble_eq_true rfl)) dX2_mostOf_5 ⟨Nat.zero_le _, Nat.zero_le _⟩) ?_
  refine n_iald hx hb hK hP 3 0 rfl rfl (slN_lt k) (by decide) dX2_mostOf_8 ?_
  exact ro_iret hx hb hr hlocks rfl dX2_mostOf_9

set_option maxHeartbeats 4000000 in
set_option maxRecDepth 100000 in
theorem c_leastAtFirst (l : Launch) (D : va_G) (cI cJ cZ : ClassId) (w h se mi g st cs me ks le mo : Nat) (K : Nat → Int64) (lf mf : Nat → Int32) (x : Int64) (k : Nat) : Met l yX3_leastAtFirst wsX3_leastAtFirst (k2_rm 2 51) (RPc D [.ref se, .long x, .int (nI k)] (seW cI cJ w h se mi g st cs me ks le mo K lf mf) (tyA cI cJ cZ)) (k2_QcV (.int (zI (laZ w h x k)))) 0 0 (fun _ => False) := by
  refine ro_head (cc := cX3_leastAtFirst) (maxL := 4) (ret := (some .int)) (by decide) rfl (Nat.le_of_ble_eq_true rfl) ?_
  intro p e s m below meth cd ls hx hb hr hlocks hts hown hml hP hK hN hl
  have hl : lv_has ls 4 [(0, .ref se), (1, .long x), (3, .int (nI k))] := hl
  refine lv_aload_n hx hb dX3_leastAtFirst_0 rfl (lv_at hl 0 rfl) ?_
  refine va_get (C := RX3) (T := TX3) (N := 3) hx hb hts (by decide +kernel) hown hK hP 0 rfl rfl 0 (by decide) (hts (.fieldLink RX3 16 RX3 "grid" "LDropFour$Grid;") (by decide +kernel)) (fun _ h9 => h9) rfl dX3_leastAtFirst_1 ?_
  refine lv_aload_n hx hb dX3_leastAtFirst_4 rfl (lv_at hl 0 rfl) ?_
  refine va_get (C := RX3) (T := TX3) (N := 3) hx hb hts (by decide +kernel) hown hK hP 0 rfl rfl 0 (by decide) (hts (.fieldLink RX3 16 RX3 "grid" "LDropFour$Grid;") (by decide +kernel)) (fun _ h9 => h9) rfl dX3_leastAtFirst_5 ?_
  refine va_getN (C := RX1) (T := TX1) (N := 6) hx hb hts (by decide +kernel) hown hK hP 2 rfl rfl 2 (by decide) (hN.use 7 rfl rfl) (fun _ h9 => h9) rfl dX3_leastAtFirst_8 ?_
  refine lv_lload_n hx hb dX3_leastAtFirst_11 rfl (lv_at hl 1 rfl) ?_
  refine lv_ldc2 (v := (-1)) hx hb hown (hts (.constantLong RX3 54 (-1)) (by decide +kernel)) dX3_leastAtFirst_12 ?_
  refine lv_lxor hx hb dX3_leastAtFirst_15 ?_
  refine lv_land hx hb dX3_leastAtFirst_16 ?_
  refine ro_call (W.runV (As := [.long ((allL h w) &&& (x ^^^ (-1)))]) (rest := []) ⟨hx, hb, hml, hown, hts⟩ (c_hasLine l D cI cJ cZ w h g st cs ((allL h w) &&& (x ^^^ (-1)))) (cwV 1 hts gX3_leastAtFirst_X1_hasLine rfl rfl rfl (by decide +kernel) ⟨Nat.le_of_ble_eq_true rfl, Nat.le_of_ble_eq_true rfl⟩) ⟨RPc.blind, va_recv hK hP (ci := 1) (q0 := 2) rfl rfl, (RPc.at (hP.sub [2, 3, 4] rfl) hK hN)⟩ rfl rfl hl.1 rfl (lv_room (Nat.le_of_ble_eq_true rfl)) dX3_leastAtFirst_17 ⟨Nat.zero_le _, Nat.zero_le _⟩) ?_
  refine b_if_eq (tgt := 29) hx hb dX3_leastAtFirst_20 (by decide) (fun c20_1 => ?_) (fun c20_1 => ?_)
  · skip
    refine lv_iconst (v := nI 0) hx hb dX3_leastAtFirst_29 (by decide) ?_
    exact ro_iret hx hb hr hlocks (by unfold laZ; rw [c20_1]; rfl) dX3_leastAtFirst_30
  refine lv_iconst (v := nI 3) hx hb dX3_leastAtFirst_23 (by decide) ?_
  refine lv_iload_n hx hb dX3_leastAtFirst_24 rfl (lv_at hl 2 rfl) ?_
  refine rt_2 (a := zI 3) (b := zI ((k : Nat) : Int)) rfl (zI_n _).symm ?_
  refine z_isub hx hb dX3_leastAtFirst_25 ?_
  refine lv_goto (tgt := 30) hx hb dX3_leastAtFirst_26 (by decide) ?_
  exact ro_iret hx hb hr hlocks (by unfold laZ; rw [c20_1]; rfl) dX3_leastAtFirst_30

set_option maxHeartbeats 4000000 in
set_option maxRecDepth 100000 in
theorem c_mostAtFirst (l : Launch) (D : va_G) (cI cJ cZ : ClassId) (w h se mi g st cs me ks le mo : Nat) (K : Nat → Int64) (lf mf : Nat → Int32) (x : Int64) (k : Nat) : Met l yX3_mostAtFirst wsX3_mostAtFirst (k2_rm 2 51) (RPc D [.ref se, .long x, .int (nI k)] (seW cI cJ w h se mi g st cs me ks le mo K lf mf) (tyA cI cJ cZ)) (k2_QcV (.int (zI (maZ w h x k)))) 0 0 (fun _ => False) := by
  refine ro_head (cc := cX3_mostAtFirst) (maxL := 4) (ret := (some .int)) (by decide) rfl (Nat.le_of_ble_eq_true rfl) ?_
  intro p e s m below meth cd ls hx hb hr hlocks hts hown hml hP hK hN hl
  have hl : lv_has ls 4 [(0, .ref se), (1, .long x), (3, .int (nI k))] := hl
  refine lv_aload_n hx hb dX3_mostAtFirst_0 rfl (lv_at hl 0 rfl) ?_
  refine va_get (C := RX3) (T := TX3) (N := 3) hx hb hts (by decide +kernel) hown hK hP 0 rfl rfl 0 (by decide) (hts (.fieldLink RX3 16 RX3 "grid" "LDropFour$Grid;") (by decide +kernel)) (fun _ h9 => h9) rfl dX3_mostAtFirst_1 ?_
  refine lv_aload_n hx hb dX3_mostAtFirst_4 rfl (lv_at hl 0 rfl) ?_
  refine va_get (C := RX3) (T := TX3) (N := 3) hx hb hts (by decide +kernel) hown hK hP 0 rfl rfl 0 (by decide) (hts (.fieldLink RX3 16 RX3 "grid" "LDropFour$Grid;") (by decide +kernel)) (fun _ h9 => h9) rfl dX3_mostAtFirst_5 ?_
  refine va_getN (C := RX1) (T := TX1) (N := 6) hx hb hts (by decide +kernel) hown hK hP 2 rfl rfl 2 (by decide) (hN.use 7 rfl rfl) (fun _ h9 => h9) rfl dX3_mostAtFirst_8 ?_
  refine lv_lload_n hx hb dX3_mostAtFirst_11 rfl (lv_at hl 1 rfl) ?_
  refine lv_ldc2 (v := (-1)) hx hb hown (hts (.constantLong RX3 54 (-1)) (by decide +kernel)) dX3_mostAtFirst_12 ?_
  refine lv_lxor hx hb dX3_mostAtFirst_15 ?_
  refine lv_land hx hb dX3_mostAtFirst_16 ?_
  refine ro_call (W.runV (As := [.long ((allL h w) &&& (x ^^^ (-1)))]) (rest := []) ⟨hx, hb, hml, hown, hts⟩ (c_hasLine l D cI cJ cZ w h g st cs ((allL h w) &&& (x ^^^ (-1)))) (cwV 1 hts gX3_mostAtFirst_X1_hasLine rfl rfl rfl (by decide +kernel) ⟨Nat.le_of_ble_eq_true rfl, Nat.le_of_ble_eq_true rfl⟩) ⟨RPc.blind, va_recv hK hP (ci := 1) (q0 := 2) rfl rfl, (RPc.at (hP.sub [2, 3, 4] rfl) hK hN)⟩ rfl rfl hl.1 rfl (lv_room (Nat.le_of_ble_eq_true rfl)) dX3_mostAtFirst_17 ⟨Nat.zero_le _, Nat.zero_le _⟩) ?_
  refine b_if_eq (tgt := 29) hx hb dX3_mostAtFirst_20 (by decide) (fun c20_1 => ?_) (fun c20_1 => ?_)
  · skip
    refine lv_iconst (v := nI 0) hx hb dX3_mostAtFirst_29 (by decide) ?_
    exact ro_iret hx hb hr hlocks (by unfold maZ; rw [c20_1]; rfl) dX3_mostAtFirst_30
  refine lv_iload_n hx hb dX3_mostAtFirst_23 rfl (lv_at hl 2 rfl) ?_
  refine lv_iconst (v := nI 2) hx hb dX3_mostAtFirst_24 (by decide) ?_
  refine rt_2 (a := zI ((k : Nat) : Int)) (b := zI 2) (zI_n _).symm rfl ?_
  refine z_isub hx hb dX3_mostAtFirst_25 ?_
  refine lv_goto (tgt := 30) hx hb dX3_mostAtFirst_26 (by decide) ?_
  exact ro_iret hx hb hr hlocks (by unfold maZ; rw [c20_1]; rfl) dX3_mostAtFirst_30

set_option maxHeartbeats 4000000 in
set_option maxRecDepth 100000 in
theorem c_between (l : Launch) (D : va_G) (cI cJ cZ : ClassId) (k : Int32) (m0 : Nat) : Met l yX4_between wsX4_between (k2_rm 1 29) (RPc D [.int k, .int (nI m0)] [] (tyA cI cJ cZ)) (k2_QcV (.int (btI k m0))) 0 0 (fun _ => False) := by
  refine ro_head (cc := cX4_between) (maxL := 2) (ret := (some .int)) (by decide) rfl (Nat.le_of_ble_eq_true rfl) ?_
  intro p e s m below meth cd ls hx hb hr hlocks hts hown hml hP hK hN hl
  have hl : lv_has ls 2 [(0, .int k), (1, .int (nI m0))] := hl
  refine lv_iconst (v := nI 3) hx hb dX4_between_0 (by decide) ?_
  refine lv_iload_n hx hb dX4_between_1 rfl (lv_at hl 1 rfl) ?_
  refine lv_iload_n hx hb dX4_between_2 rfl (lv_at hl 0 rfl) ?_
  refine va_mmin hx hb (by rw [hml]; exact hl.1.symm) hown (hts (.methodLink RX4 165 Lib.Math.min.name) (by decide +kernel)) (hts (.static Lib.Math.min.name) (by decide +kernel)) (hts (.initialized "java/lang/Math") (by decide +kernel)) (hts (.code Lib.Math.min.name Lib.Math.min.code 2 (some .int)) (by decide +kernel)) (Nat.le_of_ble_eq_true rfl) (Nat.le_of_ble_eq_true rfl) (Nat.zero_le _) (Nat.zero_le _) dX4_between_3 ?_
  refine va_mmax hx hb (by rw [hml]; exact hl.1.symm) hown (hts (.methodLink RX4 170 Lib.Math.max.name) (by decide +kernel)) (hts (.static Lib.Math.max.name) (by decide +kernel)) (hts (.initialized "java/lang/Math") (by decide +kernel)) (hts (.code Lib.Math.max.name Lib.Math.max.code 2 (some .int)) (by decide +kernel)) (Nat.le_of_ble_eq_true rfl) (Nat.le_of_ble_eq_true rfl) (Nat.zero_le _) (Nat.zero_le _) dX4_between_6 ?_
  exact ro_iret hx hb hr hlocks rfl dX4_between_9

set_option maxHeartbeats 4000000 in
set_option maxRecDepth 100000 in
theorem c_inDrops (l : Launch) (D : va_G) (cI cJ cZ : ClassId) (w h x sn hs hi g st cs fo se : Nat) (S : Nat → Int64) (ht hy : Nat → Nat) (n : Nat) (k : Int32) (hd : Dm w h) (hht : ∀ j, ht j ≤ h) (hn : n ≤ w * h) : Met l yX4_inDrops wsX4_inDrops (k2_rm 1 29) (RPc D [.ref x, .int k] (xW cI cJ w h x sn hs hi g st cs fo se S ht hy n) (tyA cI cJ cZ)) (k2_QcV (.int (idI (w * h - n) k))) 0 0 (fun _ => False) := by
  refine ro_head (cc := cX4_inDrops) (maxL := 3) (ret := (some .int)) (by decide) rfl (Nat.le_of_ble_eq_true rfl) ?_
  intro p e s m below meth cd ls hx hb hr hlocks hts hown hml hP hK hN hl
  have hl : lv_has ls 3 [(0, .ref x), (1, .int k)] := hl
  have hd0 := hd
  obtain ⟨h3w, hw9, h3h, hh7, hwh, h64⟩ := hd0
  refine lv_iload_n hx hb dX4_inDrops_0 rfl (lv_at hl 1 rfl) ?_
  refine lv_if_ne (tgt := 6) hx hb dX4_inDrops_1 (by decide) (fun c1_1 => ?_) (fun c1_1 => ?_)
  · skip
    refine lv_aload_n hx hb dX4_inDrops_6 rfl (lv_at hl 0 rfl) ?_
    refine ro_call (W.runV (As := []) (rest := []) ⟨hx, hb, hml, hown, hts⟩ (c_empty l D cI cJ cZ w h x sn hs hi g st cs fo se S ht hy n hd hht hn) (cwV 0 hts gX4_inDrops_X4_empty rfl rfl rfl (by decide +kernel) ⟨Nat.le_of_ble_eq_true rfl, Nat.le_of_ble_eq_true rfl⟩) ⟨RPc.blind, va_recv hK hP (ci := 4) (q0 := 0) rfl rfl, (RPc.at (hP.sub [0, 1, 2, 3, 4, 5, 6] rfl) hK hN)⟩ rfl rfl hl.1 rfl (lv_room (Nat.le_of_ble_eq_true rfl)) dX4_inDrops_7 ⟨Nat.zero_le _, Nat.zero_le _⟩) ?_
    refine lv_iconst (v := nI 1) hx hb dX4_inDrops_10 (by decide) ?_
    refine n_iadd hx hb dX4_inDrops_11 ?_
    refine lv_iload_n hx hb dX4_inDrops_12 rfl (lv_at hl 1 rfl) ?_
    refine va_mabs hx hb (by rw [hml]; exact hl.1.symm) hown (hts (.methodLink RX4 176 Lib.Math.abs.name) (by decide +kernel)) (hts (.static Lib.Math.abs.name) (by decide +kernel)) (hts (.initialized "java/lang/Math") (by decide +kernel)) (hts (.code Lib.Math.abs.name Lib.Math.abs.code 1 (some .int)) (by decide +kernel)) (Nat.le_of_ble_eq_true rfl) (Nat.le_of_ble_eq_true rfl) (Nat.zero_le _) (Nat.zero_le _) dX4_inDrops_13 ?_
    refine lv_isub hx hb dX4_inDrops_16 ?_
    refine lv_istore_n (lv' := [(2, .int ((nI ((w * h - n) + 1)) - (if 0 ≤ k then k else 0 - k))), (0, .ref x), (1, .int k)]) hx hb dX4_inDrops_17 rfl hl (by decide) rfl (fun ls hl => ?_)
    refine lv_iload_n hx hb dX4_inDrops_18 rfl (lv_at hl 2 rfl) ?_
    refine lv_if_le (tgt := 26) hx hb dX4_inDrops_19 (by decide) (fun c19_2 => ?_) (fun c19_2 => ?_)
    · skip
      refine lv_iload_n hx hb dX4_inDrops_26 rfl (lv_at hl 0 rfl) ?_
      refine lv_ineg hx hb dX4_inDrops_27 ?_
      exact ro_iret hx hb hr hlocks (by simp [idI, nI_0, c1_1, c19_2]) dX4_inDrops_28
    refine lv_iload_n hx hb dX4_inDrops_22 rfl (lv_at hl 0 rfl) ?_
    refine lv_goto (tgt := 28) hx hb dX4_inDrops_23 (by decide) ?_
    exact ro_iret hx hb hr hlocks (by simp [idI, nI_0, c1_1, c19_2]) dX4_inDrops_28
  refine lv_iconst (v := nI 0) hx hb dX4_inDrops_4 (by decide) ?_
  exact ro_iret hx hb hr hlocks (by simp [idI, nI_0, c1_1]) dX4_inDrops_5
end
section
set_option maxHeartbeats 4000000 in
set_option maxRecDepth 100000 in
theorem c_keep (l : Launch) (D : va_G) (cI cJ cZ : ClassId) (me ks le mo : Nat) (K : Nat → Int64) (lf mf : Nat → Int32) (k : Int64) (a b : Int32) (sz : Nat) : Met l yX2_keep wsX2_keep (k2_rm 1 21) (MPc D [.ref me, .long k, .int a, .int b] (mW cI cJ me ks le mo K lf mf) (tyA cI cJ cZ) sz) (mQv D (fun _ : Unit => True) (fun _ => (mW cI cJ me ks le mo (vp_updL K (slN k) k) (upd lf (slN k) a) (upd mf (slN k) b))) (va_A (mW cI cJ me ks le mo K lf mf) sz)) 0 0 (va_A (mW cI cJ me ks le mo K lf mf) sz) := by
  refine mu_head (Qc := fun A => mQv D (fun _ : Unit => True) (fun _ => (mW cI cJ me ks le mo (vp_updL K (slN k) k) (upd lf (slN k) a) (upd mf (slN k) b))) A) (cc := cX2_keep) (maxL := 6) (ret := none) (by decide) rfl (Nat.le_of_ble_eq_true rfl) ?_
  intro p e s m below meth cd ls A hx hb hr hlocks hnm hts hown hml hA hP hK hD hN hS hl
  have hl : lv_has ls 6 [(0, .ref me), (1, .long k), (3, .int a), (4, .int b)] := hl
  refine lv_lload_n hx hb dX2_keep_0 rfl (lv_at hl 1 rfl) ?_
  refine ro_call (W.runS (As := [.long k]) (rest := []) ⟨hx, hb, hml, hown, hts⟩ (c_slotOf l D cI cJ cZ k) (va_cwS 1 hts gX2_keep_X2_slotOf rfl rfl rfl (by decide +kernel) ⟨Nat.le_of_ble_eq_true rfl, Nat.le_of_ble_eq_true rfl⟩) ⟨RPc.blind, (RPc.at (hP.sub [] rfl) hK hN)⟩ rfl rfl hl.1 rfl (lv_room (Nat.le_of_ble_eq_true rfl)) dX2_keep_1 ⟨Nat.zero_le _, Nat.zero_le _⟩) ?_
  refine lv_istore (lv' := [(5, .int (nI (slN k))), (0, .ref me), (1, .long k), (3, .int a), (4, .int b)]) hx hb dX2_keep_4 hl (by decide) rfl (fun ls hl => ?_)
  refine lv_aload_n hx hb dX2_keep_6 rfl (lv_at hl 1 rfl) ?_
  refine va_get (C := RX2) (T := TX2) (N := 3) hx hb hts (by decide +kernel) hown hK hP 0 rfl rfl 0 (by decide) (hts (.fieldLink RX2 9 RX2 "keys" "[J") (by decide +kernel)) (fun _ h9 => h9) rfl dX2_keep_7 ?_
  refine lv_iload hx hb dX2_keep_10 (lv_at hl 0 rfl) ?_
  refine lv_lload_n hx hb dX2_keep_12 rfl (lv_at hl 2 rfl) ?_
  refine n_lastR hx hb hK hP hD hS 1 1 rfl rfl (slN_lt k) (by decide) dX2_keep_13 (fun H locs hP hD hS => ?_)
  have hP : va_P D vwCl [(me, .inr (2, [.ref ks, .ref le, .ref mo])), (ks, .inl (cJ, 1024, .inr (.inl (vp_updL K (slN k) k)))), (le, .inl (cI, 1024, .inl lf)), (mo, .inl (cI, 1024, .inl mf))] H := hP
  have hD : va_D A [(me, .inr (2, [.ref ks, .ref le, .ref mo])), (ks, .inl (cJ, 1024, .inr (.inl (vp_updL K (slN k) k)))), (le, .inl (cI, 1024, .inl lf)), (mo, .inl (cI, 1024, .inl mf))] := hD
  refine lv_aload_n hx hb dX2_keep_14 rfl (lv_at hl 1 rfl) ?_
  refine va_get (C := RX2) (T := TX2) (N := 3) hx hb hts (by decide +kernel) hown hK hP 0 rfl rfl 1 (by decide) (hts (.fieldLink RX2 13 RX2 "least" "[I") (by decide +kernel)) (fun _ h9 => h9) rfl dX2_keep_15 ?_
  refine lv_iload hx hb dX2_keep_18 (lv_at hl 0 rfl) ?_
  refine lv_iload_n hx hb dX2_keep_20 rfl (lv_at hl 3 rfl) ?_
  refine n_iastR hx hb hK hP hD hS 2 0 rfl rfl (slN_lt k) (by decide) dX2_keep_21 (fun H locs hP hD hS => ?_)
  have hP : va_P D vwCl [(me, .inr (2, [.ref ks, .ref le, .ref mo])), (ks, .inl (cJ, 1024, .inr (.inl (vp_updL K (slN k) k)))), (le, .inl (cI, 1024, .inl (upd lf (slN k) a))), (mo, .inl (cI, 1024, .inl mf))] H := hP
  have hD : va_D A [(me, .inr (2, [.ref ks, .ref le, .ref mo])), (ks, .inl (cJ, 1024, .inr (.inl (vp_updL K (slN k) k)))), (le, .inl (cI, 1024, .inl (upd lf (slN k) a))), (mo, .inl (cI, 1024, .inl mf))] := hD
  refine lv_aload_n hx hb dX2_keep_22 rfl (lv_at hl 1 rfl) ?_
  refine va_get (C := RX2) (T := TX2) (N := 3) hx hb hts (by decide +kernel) hown hK hP 0 rfl rfl 2 (by decide) (hts (.fieldLink RX2 17 RX2 "most" "[I") (by decide +kernel)) (fun _ h9 => h9) rfl dX2_keep_23 ?_
  refine lv_iload hx hb dX2_keep_26 (lv_at hl 0 rfl) ?_
  refine lv_iload hx hb dX2_keep_28 (lv_at hl 4 rfl) ?_
  refine n_iastR hx hb hK hP hD hS 3 0 rfl rfl (slN_lt k) (by decide) dX2_keep_30 (fun H locs hP hD hS => ?_)
  have hP : va_P D vwCl [(me, .inr (2, [.ref ks, .ref le, .ref mo])), (ks, .inl (cJ, 1024, .inr (.inl (vp_updL K (slN k) k)))), (le, .inl (cI, 1024, .inl (upd lf (slN k) a))), (mo, .inl (cI, 1024, .inl (upd mf (slN k) b)))] H := hP
  have hD : va_D A [(me, .inr (2, [.ref ks, .ref le, .ref mo])), (ks, .inl (cJ, 1024, .inr (.inl (vp_updL K (slN k) k)))), (le, .inl (cI, 1024, .inl (upd lf (slN k) a))), (mo, .inl (cI, 1024, .inl (upd mf (slN k) b)))] := hD
  exact mu_vret (S := Unit) hx hb hr hlocks () trivial hP hD hS dX2_keep_31
abbrev seU (cI cJ : ClassId) (w h se mi g st cs me ks le mo : Nat) (u : Mem) : va_W := seW cI cJ w h se mi g st cs me ks le mo u.1 u.2.1 u.2.2
/-- the contract of Search.score at depth d -/
def ScoreMet (l : Launch) (D : va_G) (cI cJ cZ : ClassId) (w h se mi g st cs me ks le mo d : Nat) : Prop := ∀ (u : Mem) (k : Nat) (tp : Nat → Nat) (M T : Sq) (mm tt : Int64) (low high : Int) (sz : Nat), k ≤ d → Pos w h k tp M T mm tt → low < high → -200 ≤ low → high ≤ 200 → MemOK w h u →
  Met l yX3_score wsX3_score (k2_rm (3 * d + 4) (104 * d + 300)) (MPc D [.ref se, .long mm, .long tt, .int (nI k), .int (zI low), .int (zI high)] (seU cI cJ w h se mi g st cs me ks le mo u) (tyA cI cJ cZ) sz)
    (mQi D (fun r (v : Mem) => MemOK w h v ∧ ∃ z : Int, r = zI z ∧ scPost (Sc w h k tp M T) low high z ∧ -200 ≤ z ∧ z ≤ 200) (fun v => seU cI cJ w h se mi g st cs me ks le mo v) (va_A (seU cI cJ w h se mi g st cs me ks le mo u) sz)) 0 0 (va_A (seU cI cJ w h se mi g st cs me ks le mo u) sz)
def TriedMet (l : Launch) (D : va_G) (cI cJ cZ : ClassId) (w h se mi g st cs me ks le mo d : Nat) : Prop := ∀ (u : Mem) (k : Nat) (tp : Nat → Nat) (M T : Sq) (mm tt : Int64) (fr to : Int) (sz : Nat), k ≤ d → Pos w h (k + 1) tp M T mm tt → (∀ c, ¬ winsAt w h tp M c) → ¬ mvL w h mm tt = 0 → fr < to → -200 ≤ fr → to ≤ 200 → MemOK w h u →
  Met l yX3_tried wsX3_tried (k2_rm (3 * d + 5) (104 * d + 333)) (MPc D [.ref se, .long mm, .long tt, .long (mvL w h mm tt), .int (nI (k + 1)), .int (zI fr), .int (zI to)] (seU cI cJ w h se mi g st cs me ks le mo u) (tyA cI cJ cZ) sz)
    (mQi D (fun r (v : Mem) => MemOK w h v ∧ r = zI (min (max fr (Sc w h (k + 1) tp M T)) to)) (fun v => seU cI cJ w h se mi g st cs me ks le mo v) (va_A (seU cI cJ w h se mi g st cs me ks le mo u) sz)) 0 0 (va_A (seU cI cJ w h se mi g st cs me ks le mo u) sz)
def RemMet (l : Launch) (D : va_G) (cI cJ cZ : ClassId) (w h se mi g st cs me ks le mo d : Nat) : Prop := ∀ (u : Mem) (k : Nat) (tp : Nat → Nat) (M T : Sq) (mm tt : Int64) (low high : Int) (sz : Nat), k ≤ d → 2 ≤ k → Pos w h (k + 1) tp M T mm tt → (∀ c, ¬ winsAt w h tp M c) → ¬ mvL w h mm tt = 0 → low < high → -200 ≤ low → high ≤ 200 → MemOK w h u →
  Met l yX3_remembered wsX3_remembered (k2_rm (3 * d + 6) (104 * d + 367)) (MPc D [.ref se, .long mm, .long tt, .long (mvL w h mm tt), .int (nI (k + 1)), .int (zI low), .int (zI high)] (seU cI cJ w h se mi g st cs me ks le mo u) (tyA cI cJ cZ) sz)
    (mQi D (fun r (v : Mem) => MemOK w h v ∧ ∃ z : Int, r = zI z ∧ scPost (Sc w h (k + 1) tp M T) low high z ∧ -200 ≤ z ∧ z ≤ 200) (fun v => seU cI cJ w h se mi g st cs me ks le mo v) (va_A (seU cI cJ w h se mi g st cs me ks le mo u) sz)) 0 0 (va_A (seU cI cJ w h se mi g st cs me ks le mo u) sz)
theorem sq_nz {w h c r : Nat} (hd : Dm w h) (hc : c < w) (hr : r < h) : ¬ sqL h c r = 0 := by
  refine bit_nz (i := ix h c r) ?_
  rw [(Rep.sq hd hc hr).1 c r (Nat.le_of_lt hr)]
  simp
theorem tried_step {w h k : Nat} {tp : Nat → Nat} {M T : Sq} {mm tt : Int64} {fr to fd z S : Int} {i : Nat} {v1 : Mem} (hf : fd = pb w h k tp M T mm tt fr i) (hok : okc w h tp mm tt (mid w i) = true) (hMv : Mv w h k tp M T (mid w i) = -S) (hz : scPost S (-to) (-fd) z) (hm : MemOK w h v1) (h1 : fr ≤ fd) (h2 : fd < to) (h3 : to ≤ 200) (h4 : -200 ≤ z) :
    MemOK w h v1 ∧ fr ≤ max fd (-z) ∧ max fd (-z) ≤ 200 ∧ (max fd (-z) < to → max fd (-z) = pb w h k tp M T mm tt fr (i + 1)) ∧ (to ≤ max fd (-z) → to ≤ pb w h k tp M T mm tt fr (i + 1)) := by
  rw [pb_succ, if_pos hok, ← hf, hMv]
  unfold scPost at hz
  refine ⟨hm, by omega, by omega, fun q => ?_, fun q => ?_⟩ <;> omega
theorem tried_end {w h k : Nat} (hd : Dm w h) {tp : Nat → Nat} {M T : Sq} {mm tt : Int64} (H : Pos w h (k + 1) tp M T mm tt) (hn : ∀ c, ¬ winsAt w h tp M c) (hm : ¬ mvL w h mm tt = 0) {fr to fd : Int} {i : Nat} (hft : fr < to) (hi : i ≤ w) (h1 : fr ≤ fd) (h2 : fd < to → fd = pb w h k tp M T mm tt fr i) (h3 : to ≤ fd → to ≤ pb w h k tp M T mm tt fr i) (h4 : i = w ∨ to ≤ fd) :
    zI (min fd to) = zI (min (max fr (Sc w h (k + 1) tp M T)) to) := by
  have e := pb_end hd H hn hm fr
  have mo := pb_mono (w := w) (h := h) (k := k) (tp := tp) (M := M) (T := T) (m := mm) (t := tt) (from_ := fr) hi
  congr 1
  rcases h4 with rfl | q
  · by_cases q : fd < to
    · have := h2 q; omega
    · have := h3 (by omega); omega
  · have := h3 q; omega
set_option maxHeartbeats 4000000 in
set_option maxRecDepth 100000 in
theorem c_tried (l : Launch) (D : va_G) (cI cJ cZ : ClassId) (w h se mi g st cs me ks le mo d : Nat) (hd : Dm w h) (hSc : ScoreMet l D cI cJ cZ w h se mi g st cs me ks le mo d) : TriedMet l D cI cJ cZ w h se mi g st cs me ks le mo d := by
  intro u k tp M T mm tt fr to sz hkd hpos hnw hmv hft hfr hto hmem
  have hd0 := hd
  obtain ⟨h3w, hw9, h3h, hh7, hwh, h64⟩ := hd0
  refine mu_head (Qc := fun A => mQi D (fun r (v : Mem) => MemOK w h v ∧ r = zI (min (max fr (Sc w h (k + 1) tp M T)) to)) (fun v => seU cI cJ w h se mi g st cs me ks le mo v) A) (cc := cX3_tried) (maxL := 15) (ret := (some .int)) (by decide) rfl (Nat.le_of_ble_eq_true rfl) ?_
  intro p e s m below meth cd ls A hx hb hr hlocks hnm hts hown hml hA hP hK hD hN hS hl
  have hl : lv_has ls 15 [(0, .ref se), (1, .long mm), (3, .long tt), (5, .long (mvL w h mm tt)), (7, .int (nI (k + 1))), (8, .int (zI fr)), (9, .int (zI to))] := hl
  refine lv_iload hx hb dX3_tried_0 (lv_at hl 5 rfl) ?_
  refine lv_istore (lv' := [(10, .int (zI fr)), (0, .ref se), (1, .long mm), (3, .long tt), (5, .long (mvL w h mm tt)), (7, .int (nI (k + 1))), (8, .int (zI fr)), (9, .int (zI to))]) hx hb dX3_tried_2 hl (by decide) rfl (fun ls hl => ?_)
  refine lv_iconst (v := nI 0) hx hb dX3_tried_4 (by decide) ?_
  refine lv_istore (lv' := [(11, .int (nI 0)), (10, .int (zI fr)), (0, .ref se), (1, .long mm), (3, .long tt), (5, .long (mvL w h mm tt)), (7, .int (nI (k + 1))), (8, .int (zI fr)), (9, .int (zI to))]) hx hb dX3_tried_5 hl (by decide) rfl (fun ls hl => ?_)
  refine loopH (σ := Int × Mem) (m := m) (Wf := fun H locs g => W p l e _ s m _ below meth cd H locs _ _ _ g) 7 15 (fun i qx => [(0, .ref se), (1, .long mm), (3, .long tt), (5, .long (mvL w h mm tt)), (7, .int (nI (k + 1))), (8, .int (zI fr)), (9, .int (zI to)), (11, .int (nI i)), (10, .int (zI qx.1))]) (fun i qx => seU cI cJ w h se mi g st cs me ks le mo (qx.2)) (fun i qx => MemOK w h qx.2 ∧ fr ≤ qx.1 ∧ qx.1 ≤ 200 ∧ (qx.1 < to → qx.1 = pb w h k tp M T mm tt fr i) ∧ (to ≤ qx.1 → to ≤ pb w h k tp M T mm tt fr i)) w ?_ ?_ 0 (fr, u) ls _ _ (by omega) ⟨hmem, Int.le_refl _, by omega, fun _ => rfl, fun q => absurd q (by omega)⟩ hP hD hS (lv_sub hl [2, 3, 4, 5, 6, 7, 8, 0, 1] rfl)
  · intro i qx ls H locs hi_7 hI_7 hP hD hS hl ih_7
    obtain ⟨fd, v⟩ := qx
    have hl : lv_has ls 15 [(0, .ref se), (1, .long mm), (3, .long tt), (5, .long (mvL w h mm tt)), (7, .int (nI (k + 1))), (8, .int (zI fr)), (9, .int (zI to)), (11, .int (nI i)), (10, .int (zI fd))] := hl
    have hP : va_P D vwCl (seU cI cJ w h se mi g st cs me ks le mo v) H := hP
    have hD : va_D A (seU cI cJ w h se mi g st cs me ks le mo v) := hD
    have hI_7 : MemOK w h v ∧ fr ≤ fd ∧ fd ≤ 200 ∧ (fd < to → fd = pb w h k tp M T mm tt fr i) ∧ (to ≤ fd → to ≤ pb w h k tp M T mm tt fr i) := hI_7
    obtain ⟨hm_7, hf1_7, hf2_7, hf3_7, hf4_7⟩ := hI_7
    have hc_7 := mid_lt w (by omega) h3w i hi_7
    refine lv_iload hx hb dX3_tried_7 (lv_at hl 7 rfl) ?_
    refine lv_aload_n hx hb dX3_tried_9 rfl (lv_at hl 0 rfl) ?_
    refine va_get (C := RX3) (T := TX3) (N := 3) hx hb hts (by decide +kernel) hown hK hP 0 rfl rfl 0 (by decide) (hts (.fieldLink RX3 16 RX3 "grid" "LDropFour$Grid;") (by decide +kernel)) (fun _ h9 => h9) rfl dX3_tried_10 ?_
    refine va_getN (C := RX1) (T := TX1) (N := 6) hx hb hts (by decide +kernel) hown hK hP 2 rfl rfl 0 (by decide) (hN.use 4 rfl rfl) (fun _ h9 => h9) rfl dX3_tried_13 ?_
    refine n_icmp_ge (tgt := 82) hx hb dX3_tried_16 (by decide) (by omega) (by omega) (fun c16_1 => ?_) (fun c16_1 => ?_)
    · exact absurd c16_1 (by omega)
    refine lv_iload hx hb dX3_tried_19 (lv_at hl 8 rfl) ?_
    refine lv_iload hx hb dX3_tried_21 (lv_at hl 6 rfl) ?_
    refine z_icmp_ge (tgt := 82) hx hb dX3_tried_23 (by decide) (by unfold zB; omega) (by unfold zB; omega) (fun c23_2 => ?_) (fun c23_2 => ?_)
    · skip
      refine lv_iload hx hb dX3_tried_82 (lv_at hl 8 rfl) ?_
      refine lv_iload hx hb dX3_tried_84 (lv_at hl 6 rfl) ?_
      refine va_mmin hx hb (by rw [hml]; exact hl.1.symm) hown (hts (.methodLink RX3 83 Lib.Math.min.name) (by decide +kernel)) (hts (.static Lib.Math.min.name) (by decide +kernel)) (hts (.initialized "java/lang/Math") (by decide +kernel)) (hts (.code Lib.Math.min.name Lib.Math.min.code 2 (some .int)) (by decide +kernel)) (Nat.le_of_ble_eq_true rfl) (Nat.le_of_ble_eq_true rfl) (Nat.zero_le _) (Nat.zero_le _) dX3_tried_86 ?_
      refine rt_i (v := zI (min fd to)) (by rw [show zI fd = zI fd from rfl, show zI to = zI to from rfl]; exact zI_min (by unfold zB; omega) (by unfold zB; omega)) ?_
      exact mu_iret (S := Mem) hx hb hr hlocks v ⟨hI_7.1, tried_end hd hpos hnw hmv hft (by omega) hI_7.2.1 hI_7.2.2.2.1 hI_7.2.2.2.2 (by omega)⟩ hP hD hS dX3_tried_89
    refine lv_lload hx hb dX3_tried_26 (lv_at hl 3 rfl) ?_
    refine lv_aload_n hx hb dX3_tried_28 rfl (lv_at hl 0 rfl) ?_
    refine va_get (C := RX3) (T := TX3) (N := 3) hx hb hts (by decide +kernel) hown hK hP 0 rfl rfl 2 (by decide) (hts (.fieldLink RX3 26 RX3 "middleFirst" "[J") (by decide +kernel)) (fun _ h9 => h9) rfl dX3_tried_29 ?_
    refine lv_iload hx hb dX3_tried_32 (lv_at hl 7 rfl) ?_
    refine n_lald hx hb hK hP 1 1 rfl rfl (by omega) (by omega) dX3_tried_34 ?_
    refine lv_land hx hb dX3_tried_35 ?_
    refine lv_lstore (lv' := [(12, .long ((mvL w h mm tt) &&& (colL h (mid w i)))), (0, .ref se), (1, .long mm), (3, .long tt), (5, .long (mvL w h mm tt)), (7, .int (nI (k + 1))), (8, .int (zI fr)), (9, .int (zI to)), (11, .int (nI i)), (10, .int (zI fd))]) hx hb dX3_tried_36 hl (by decide) rfl (fun ls hl => ?_)
    refine lv_lload hx hb dX3_tried_38 (lv_at hl 0 rfl) ?_
    refine lv_lconst (v := 0) hx hb dX3_tried_40 (by decide) ?_
    refine W.lcmp hx hb dX3_tried_41 ?_
    refine l_if_eq (tgt := 76) hx hb dX3_tried_42 (by decide) (fun c42_3 => ?_) (fun c42_3 => ?_)
    · skip
      have hno_7 : okc w h tp mm tt (mid w i) = false := by
        cases q : okc w h tp mm tt (mid w i)
        · rfl
        · exact absurd c42_3 (by rw [(hpos.mv hd hc_7).1 q]; exact sq_nz hd hc_7 ((hpos.ok hd hc_7).mp q).1)
      refine n_iinc (n := 1) (lv' := [(11, .int (nI (i + 1))), (12, .long ((mvL w h mm tt) &&& (colL h (mid w i)))), (0, .ref se), (1, .long mm), (3, .long tt), (5, .long (mvL w h mm tt)), (7, .int (nI (k + 1))), (8, .int (zI fr)), (9, .int (zI to)), (10, .int (zI fd))]) hx hb dX3_tried_76 hl (k := 8) rfl (by decide) rfl (fun ls hl => ?_)
      refine lv_goto (tgt := 7) hx hb dX3_tried_79 (by decide) ?_
      exact ih_7 (fd, v) ls _ _ ⟨hm_7, hf1_7, hf2_7, fun q => by rw [pb_succ, hno_7, if_neg (by decide)]; exact hf3_7 q, fun q => by rw [pb_succ, hno_7, if_neg (by decide)]; exact hf4_7 q⟩ hP hD hS (lv_sub hl [2, 3, 4, 5, 6, 7, 8, 0, 9] rfl)
    have hok_7 : okc w h tp mm tt (mid w i) = true := by
      cases q : okc w h tp mm tt (mid w i)
      · exact absurd ((hpos.mv hd hc_7).2 q) c42_3
      · rfl
    have hmv_7 := (hpos.mv hd hc_7).1 hok_7
    have hlt_7 := ((hpos.ok hd hc_7).mp hok_7).1
    have hl_7 : ¬ hasL w h (sq_put M (mid w i) (tp (mid w i))) := fun q => hnw _ ⟨hc_7, hlt_7, q⟩
    have hch_7 : Pos w h k (tp_inc tp (mid w i)) T (sq_put M (mid w i) (tp (mid w i))) tt (mm ||| (mvL w h mm tt &&& colL h (mid w i))) := ⟨hpos.2.1, by rw [hmv_7]; exact hpos.1.put hd hc_7 hlt_7, hpos.2.2.child hc_7 hlt_7 hl_7⟩
    refine lv_aload_n hx hb dX3_tried_45 rfl (lv_at hl 1 rfl) ?_
    refine lv_lload_n hx hb dX3_tried_46 rfl (lv_at hl 3 rfl) ?_
    refine lv_lload_n hx hb dX3_tried_47 rfl (lv_at hl 2 rfl) ?_
    refine lv_lload hx hb dX3_tried_48 (lv_at hl 0 rfl) ?_
    refine lv_lor hx hb dX3_tried_50 ?_
    refine lv_iload hx hb dX3_tried_51 (lv_at hl 5 rfl) ?_
    refine lv_iconst (v := nI 1) hx hb dX3_tried_53 (by decide) ?_
    refine n_isub hx hb dX3_tried_54 (by omega) ?_
    refine rt_i (v := nI k) (by rw [Nat.add_sub_cancel]) ?_
    refine lv_iload hx hb dX3_tried_55 (lv_at hl 7 rfl) ?_
    refine z_ineg hx hb dX3_tried_57 ?_
    refine lv_iload hx hb dX3_tried_58 (lv_at hl 9 rfl) ?_
    refine z_ineg hx hb dX3_tried_60 ?_
    refine mu_calli (wr := []) (va_runV (As := [.long tt, .long (mm ||| ((mvL w h mm tt) &&& (colL h (mid w i)))), .int (nI k), .int (zI (-to)), .int (zI (-fd))]) (rest := []) ⟨hx, hb, hml, hown, hts⟩ (hSc v k (tp_inc tp (mid w i)) T (sq_put M (mid w i) (tp (mid w i))) tt (mm ||| (mvL w h mm tt &&& colL h (mid w i))) (-to) (-fd) H.size hkd hch_7 (by omega) (by omega) (by omega) hm_7) (cwV 5 hts gX3_tried_X3_score rfl rfl rfl (by decide +kernel) ⟨by simp only [k2_rm]; omega, by simp only [k2_rm]; omega⟩) ⟨MPc.blind, va_recv hK hP (ci := 3) (q0 := 0) rfl rfl, (MPc.at (hP.sub [0, 1, 2, 3, 4, 5, 6, 7, 8] rfl) (hD.sub [0, 1, 2, 3, 4, 5, 6, 7, 8] (by decide) rfl) hK hN)⟩ rfl rfl hl.1 rfl (lv_room (Nat.le_of_ble_eq_true rfl)) dX3_tried_61 ⟨Nat.zero_le _, Nat.zero_le _⟩) hP hD hS hA [0, 1, 2, 3, 4, 5, 6, 7, 8] [] rfl rfl (by decide) (by decide) (fun rr v1 H locs hw hP hD hS => ?_)
    obtain ⟨hm1, z, rfl, hz, hz1, hz2⟩ := hw
    have hMv : Mv w h k tp M T (mid w i) = -(Sc w h k (tp_inc tp (mid w i)) T (sq_put M (mid w i) (tp (mid w i)))) := Mv_go hl_7
    refine z_ineg hx hb dX3_tried_64 ?_
    refine lv_istore (lv' := [(14, .int (zI (-z))), (12, .long ((mvL w h mm tt) &&& (colL h (mid w i)))), (0, .ref se), (1, .long mm), (3, .long tt), (5, .long (mvL w h mm tt)), (7, .int (nI (k + 1))), (8, .int (zI fr)), (9, .int (zI to)), (11, .int (nI i)), (10, .int (zI fd))]) hx hb dX3_tried_65 hl (by decide) rfl (fun ls hl => ?_)
    refine lv_iload hx hb dX3_tried_67 (lv_at hl 10 rfl) ?_
    refine lv_iload hx hb dX3_tried_69 (lv_at hl 0 rfl) ?_
    refine va_mmax hx hb (by rw [hml]; exact hl.1.symm) hown (hts (.methodLink RX3 77 Lib.Math.max.name) (by decide +kernel)) (hts (.static Lib.Math.max.name) (by decide +kernel)) (hts (.initialized "java/lang/Math") (by decide +kernel)) (hts (.code Lib.Math.max.name Lib.Math.max.code 2 (some .int)) (by decide +kernel)) (Nat.le_of_ble_eq_true rfl) (Nat.le_of_ble_eq_true rfl) (Nat.zero_le _) (Nat.zero_le _) dX3_tried_71 ?_
    refine rt_i (v := zI (max fd (-z))) (by rw [show zI fd = zI fd from rfl, show zI (-z) = zI (-z) from rfl]; exact zI_max (by unfold zB; omega) (by unfold zB; omega)) ?_
    refine lv_istore (lv' := [(10, .int (zI (max fd (-z)))), (14, .int (zI (-z))), (12, .long ((mvL w h mm tt) &&& (colL h (mid w i)))), (0, .ref se), (1, .long mm), (3, .long tt), (5, .long (mvL w h mm tt)), (7, .int (nI (k + 1))), (8, .int (zI fr)), (9, .int (zI to)), (11, .int (nI i))]) hx hb dX3_tried_74 hl (by decide) rfl (fun ls hl => ?_)
    refine n_iinc (n := 1) (lv' := [(11, .int (nI (i + 1))), (10, .int (zI (max fd (-z)))), (14, .int (zI (-z))), (12, .long ((mvL w h mm tt) &&& (colL h (mid w i)))), (0, .ref se), (1, .long mm), (3, .long tt), (5, .long (mvL w h mm tt)), (7, .int (nI (k + 1))), (8, .int (zI fr)), (9, .int (zI to))]) hx hb dX3_tried_76 hl (k := 10) rfl (by decide) rfl (fun ls hl => ?_)
    refine lv_goto (tgt := 7) hx hb dX3_tried_79 (by decide) ?_
    exact ih_7 (max fd (-z), v1) ls _ _ (tried_step (hf3_7 (by omega)) hok_7 hMv hz hm1 hf1_7 (by omega) (by omega) (by omega)) hP hD hS (lv_sub hl [4, 5, 6, 7, 8, 9, 10, 0, 1] rfl)
  · intro qx ls H locs hI_7 hP hD hS hl
    obtain ⟨fd, v⟩ := qx
    have hl : lv_has ls 15 [(0, .ref se), (1, .long mm), (3, .long tt), (5, .long (mvL w h mm tt)), (7, .int (nI (k + 1))), (8, .int (zI fr)), (9, .int (zI to)), (11, .int (nI w)), (10, .int (zI fd))] := hl
    have hP : va_P D vwCl (seU cI cJ w h se mi g st cs me ks le mo v) H := hP
    have hD : va_D A (seU cI cJ w h se mi g st cs me ks le mo v) := hD
    have hI_7 : MemOK w h v ∧ fr ≤ fd ∧ fd ≤ 200 ∧ (fd < to → fd = pb w h k tp M T mm tt fr w) ∧ (to ≤ fd → to ≤ pb w h k tp M T mm tt fr w) := hI_7
    refine lv_iload hx hb dX3_tried_7 (lv_at hl 7 rfl) ?_
    refine lv_aload_n hx hb dX3_tried_9 rfl (lv_at hl 0 rfl) ?_
    refine va_get (C := RX3) (T := TX3) (N := 3) hx hb hts (by decide +kernel) hown hK hP 0 rfl rfl 0 (by decide) (hts (.fieldLink RX3 16 RX3 "grid" "LDropFour$Grid;") (by decide +kernel)) (fun _ h9 => h9) rfl dX3_tried_10 ?_
    refine va_getN (C := RX1) (T := TX1) (N := 6) hx hb hts (by decide +kernel) hown hK hP 2 rfl rfl 0 (by decide) (hN.use 4 rfl rfl) (fun _ h9 => h9) rfl dX3_tried_13 ?_
    refine n_icmp_ge (tgt := 82) hx hb dX3_tried_16 (by decide) (by omega) (by omega) (fun c16_4 => ?_) (fun c16_4 => ?_)
    · skip
      refine lv_iload hx hb dX3_tried_82 (lv_at hl 8 rfl) ?_
      refine lv_iload hx hb dX3_tried_84 (lv_at hl 6 rfl) ?_
      refine va_mmin hx hb (by rw [hml]; exact hl.1.symm) hown (hts (.methodLink RX3 83 Lib.Math.min.name) (by decide +kernel)) (hts (.static Lib.Math.min.name) (by decide +kernel)) (hts (.initialized "java/lang/Math") (by decide +kernel)) (hts (.code Lib.Math.min.name Lib.Math.min.code 2 (some .int)) (by decide +kernel)) (Nat.le_of_ble_eq_true rfl) (Nat.le_of_ble_eq_true rfl) (Nat.zero_le _) (Nat.zero_le _) dX3_tried_86 ?_
      refine rt_i (v := zI (min fd to)) (by rw [show zI fd = zI fd from rfl, show zI to = zI to from rfl]; exact zI_min (by unfold zB; omega) (by unfold zB; omega)) ?_
      exact mu_iret (S := Mem) hx hb hr hlocks v ⟨hI_7.1, tried_end hd hpos hnw hmv hft (by omega) hI_7.2.1 hI_7.2.2.2.1 hI_7.2.2.2.2 (by omega)⟩ hP hD hS dX3_tried_89
    · exact absurd c16_4 (by omega)

set_option maxHeartbeats 4000000 in
set_option maxRecDepth 100000 in
theorem c_remembered (l : Launch) (D : va_G) (cI cJ cZ : ClassId) (w h se mi g st cs me ks le mo d : Nat) (hd : Dm w h) (hTr : TriedMet l D cI cJ cZ w h se mi g st cs me ks le mo d) : RemMet l D cI cJ cZ w h se mi g st cs me ks le mo d := by
  intro u k tp M T mm tt low high sz hkd h2k hpos hnw hmv hlh hlo hhi hmem
  have hd0 := hd
  obtain ⟨h3w, hw9, h3h, hh7, hwh, h64⟩ := hd0
  have hkb : k + 1 ≤ 63 := by have h1 := hpos.2.2.2.2.2.2.2; have h2 := emp_le (h := h) (tp := tp) w; omega
  have hSb := Sc_bd w h (k + 1) tp M T
  refine mu_head (Qc := fun A => mQi D (fun r (v : Mem) => MemOK w h v ∧ ∃ z : Int, r = zI z ∧ scPost (Sc w h (k + 1) tp M T) low high z ∧ -200 ≤ z ∧ z ≤ 200) (fun v => seU cI cJ w h se mi g st cs me ks le mo v) A) (cc := cX3_remembered) (maxL := 18) (ret := (some .int)) (by decide) rfl (Nat.le_of_ble_eq_true rfl) ?_
  intro p e s m below meth cd ls A hx hb hr hlocks hnm hts hown hml hA hP hK hD hN hS hl
  have hl : lv_has ls 18 [(0, .ref se), (1, .long mm), (3, .long tt), (5, .long (mvL w h mm tt)), (7, .int (nI (k + 1))), (8, .int (zI low)), (9, .int (zI high))] := hl
  refine lv_lload_n hx hb dX3_remembered_0 rfl (lv_at hl 1 rfl) ?_
  refine lv_lload_n hx hb dX3_remembered_1 rfl (lv_at hl 2 rfl) ?_
  refine lv_lor hx hb dX3_remembered_2 ?_
  refine lv_aload_n hx hb dX3_remembered_3 rfl (lv_at hl 0 rfl) ?_
  refine va_get (C := RX3) (T := TX3) (N := 3) hx hb hts (by decide +kernel) hown hK hP 0 rfl rfl 0 (by decide) (hts (.fieldLink RX3 16 RX3 "grid" "LDropFour$Grid;") (by decide +kernel)) (fun _ h9 => h9) rfl dX3_remembered_4 ?_
  refine va_getN (C := RX1) (T := TX1) (N := 6) hx hb hts (by decide +kernel) hown hK hP 2 rfl rfl 3 (by decide) (hN.use 6 rfl rfl) (fun _ h9 => h9) rfl dX3_remembered_7 ?_
  refine lv_ladd hx hb dX3_remembered_10 ?_
  refine lv_lload_n hx hb dX3_remembered_11 rfl (lv_at hl 1 rfl) ?_
  refine lv_lor hx hb dX3_remembered_12 ?_
  refine rt_l (v := keyL w h mm tt) rfl ?_
  refine lv_lstore (lv' := [(10, .long (keyL w h mm tt)), (0, .ref se), (1, .long mm), (3, .long tt), (5, .long (mvL w h mm tt)), (7, .int (nI (k + 1))), (8, .int (zI low)), (9, .int (zI high))]) hx hb dX3_remembered_13 hl (by decide) rfl (fun ls hl => ?_)
  refine lv_aload_n hx hb dX3_remembered_15 rfl (lv_at hl 1 rfl) ?_
  refine va_get (C := RX3) (T := TX3) (N := 3) hx hb hts (by decide +kernel) hown hK hP 0 rfl rfl 1 (by decide) (hts (.fieldLink RX3 10 RX3 "memory" "LDropFour$Memory;") (by decide +kernel)) (fun _ h9 => h9) rfl dX3_remembered_16 ?_
  refine lv_lload hx hb dX3_remembered_19 (lv_at hl 0 rfl) ?_
  refine ro_call (W.runV (As := [.long (keyL w h mm tt)]) (rest := []) ⟨hx, hb, hml, hown, hts⟩ (c_holds l D cI cJ cZ me ks le mo u.1 u.2.1 u.2.2 (keyL w h mm tt)) (cwV 1 hts gX3_remembered_X2_holds rfl rfl rfl (by decide +kernel) ⟨Nat.le_of_ble_eq_true rfl, Nat.le_of_ble_eq_true rfl⟩) ⟨RPc.blind, va_recv hK hP (ci := 2) (q0 := 5) rfl rfl, (RPc.at (hP.sub [5, 6, 7, 8] rfl) hK hN)⟩ rfl rfl hl.1 rfl (lv_room (Nat.le_of_ble_eq_true rfl)) dX3_remembered_21 ⟨Nat.zero_le _, Nat.zero_le _⟩) ?_
  refine lv_istore (lv' := [(12, .int (bI (decide (u.1 (slN (keyL w h mm tt)) = (keyL w h mm tt))))), (10, .long (keyL w h mm tt)), (0, .ref se), (1, .long mm), (3, .long tt), (5, .long (mvL w h mm tt)), (7, .int (nI (k + 1))), (8, .int (zI low)), (9, .int (zI high))]) hx hb dX3_remembered_24 hl (by decide) rfl (fun ls hl => ?_)
  refine lv_iload hx hb dX3_remembered_26 (lv_at hl 0 rfl) ?_
  refine b_if_eq (tgt := 43) hx hb dX3_remembered_28 (by decide) (fun c28_1 => ?_) (fun c28_1 => ?_)
  · skip
    have hkn : ¬ u.1 (slN (keyL w h mm tt)) = (keyL w h mm tt) := of_decide_eq_false c28_1
    obtain ⟨z1, ez1⟩ : ∃ z, z = laZ w h mm (k + 1) := ⟨_, rfl⟩
    obtain ⟨z2, ez2⟩ : ∃ z, z = maZ w h tt (k + 1) := ⟨_, rfl⟩
    obtain ⟨q1, q3, q5⟩ := la_le hd hpos hnw hmv h2k
    obtain ⟨q2, q6, q4⟩ := ma_ge hd hpos hnw h2k
    rw [← ez1] at q1 q3 q5
    rw [← ez2] at q2 q4 q6
    refine lv_aload_n hx hb dX3_remembered_43 rfl (lv_at hl 2 rfl) ?_
    refine lv_lload_n hx hb dX3_remembered_44 rfl (lv_at hl 3 rfl) ?_
    refine lv_iload hx hb dX3_remembered_45 (lv_at hl 6 rfl) ?_
    refine ro_call (W.runV (As := [.long mm, .int (nI (k + 1))]) (rest := []) ⟨hx, hb, hml, hown, hts⟩ (c_leastAtFirst l D cI cJ cZ w h se mi g st cs me ks le mo u.1 u.2.1 u.2.2 mm (k + 1)) (cwV 2 hts gX3_remembered_X3_leastAtFirst rfl rfl rfl (by decide +kernel) ⟨Nat.le_of_ble_eq_true rfl, Nat.le_of_ble_eq_true rfl⟩) ⟨RPc.blind, va_recv hK hP (ci := 3) (q0 := 0) rfl rfl, (RPc.at (hP.sub [0, 1, 2, 3, 4, 5, 6, 7, 8] rfl) hK hN)⟩ rfl rfl hl.1 rfl (lv_room (Nat.le_of_ble_eq_true rfl)) dX3_remembered_47 ⟨Nat.zero_le _, Nat.zero_le _⟩) ?_
    refine rt_i (v := zI z1) (by rw [ez1]) ?_
    refine lv_istore (lv' := [(13, .int (zI z1)), (12, .int (bI (decide (u.1 (slN (keyL w h mm tt)) = (keyL w h mm tt))))), (10, .long (keyL w h mm tt)), (0, .ref se), (1, .long mm), (3, .long tt), (5, .long (mvL w h mm tt)), (7, .int (nI (k + 1))), (8, .int (zI low)), (9, .int (zI high))]) hx hb dX3_remembered_50 hl (by decide) rfl (fun ls hl => ?_)
    refine lv_iload hx hb dX3_remembered_52 (lv_at hl 1 rfl) ?_
    refine b_if_eq (tgt := 69) hx hb dX3_remembered_54 (by decide) (fun c54_2 => ?_) (fun c54_2 => ?_)
    · skip
      refine lv_aload_n hx hb dX3_remembered_69 rfl (lv_at hl 3 rfl) ?_
      refine lv_lload_n hx hb dX3_remembered_70 rfl (lv_at hl 5 rfl) ?_
      refine lv_iload hx hb dX3_remembered_71 (lv_at hl 7 rfl) ?_
      refine ro_call (W.runV (As := [.long tt, .int (nI (k + 1))]) (rest := []) ⟨hx, hb, hml, hown, hts⟩ (c_mostAtFirst l D cI cJ cZ w h se mi g st cs me ks le mo u.1 u.2.1 u.2.2 tt (k + 1)) (cwV 2 hts gX3_remembered_X3_mostAtFirst rfl rfl rfl (by decide +kernel) ⟨Nat.le_of_ble_eq_true rfl, Nat.le_of_ble_eq_true rfl⟩) ⟨RPc.blind, va_recv hK hP (ci := 3) (q0 := 0) rfl rfl, (RPc.at (hP.sub [0, 1, 2, 3, 4, 5, 6, 7, 8] rfl) hK hN)⟩ rfl rfl hl.1 rfl (lv_room (Nat.le_of_ble_eq_true rfl)) dX3_remembered_73 ⟨Nat.zero_le _, Nat.zero_le _⟩) ?_
      refine rt_i (v := zI z2) (by rw [ez2]) ?_
      refine lv_istore (lv' := [(14, .int (zI z2)), (13, .int (zI z1)), (12, .int (bI (decide (u.1 (slN (keyL w h mm tt)) = (keyL w h mm tt))))), (10, .long (keyL w h mm tt)), (0, .ref se), (1, .long mm), (3, .long tt), (5, .long (mvL w h mm tt)), (7, .int (nI (k + 1))), (8, .int (zI low)), (9, .int (zI high))]) hx hb dX3_remembered_76 hl (by decide) rfl (fun ls hl => ?_)
      refine lv_iload hx hb dX3_remembered_78 (lv_at hl 1 rfl) ?_
      refine lv_iload hx hb dX3_remembered_80 (lv_at hl 10 rfl) ?_
      refine z_icmp_ge (tgt := 92) hx hb dX3_remembered_82 (by decide) (by unfold zB; omega) (by unfold zB; omega) (fun c82_3 => ?_) (fun c82_3 => ?_)
      · skip
        refine lv_iload hx hb dX3_remembered_92 (lv_at hl 1 rfl) ?_
        exact mu_iret (S := Mem) hx hb hr hlocks u ⟨hmem, z1, rfl, by unfold scPost; omega, by omega, by omega⟩ hP hD hS dX3_remembered_94
      refine lv_iload hx hb dX3_remembered_85 (lv_at hl 1 rfl) ?_
      refine lv_iload hx hb dX3_remembered_87 (lv_at hl 0 rfl) ?_
      refine z_icmp_lt (tgt := 95) hx hb dX3_remembered_89 (by decide) (by unfold zB; omega) (by unfold zB; omega) (fun c89_4 => ?_) (fun c89_4 => ?_)
      · skip
        refine lv_iload hx hb dX3_remembered_95 (lv_at hl 0 rfl) ?_
        refine lv_iload hx hb dX3_remembered_97 (lv_at hl 9 rfl) ?_
        refine z_icmp_gt (tgt := 105) hx hb dX3_remembered_99 (by decide) (by unfold zB; omega) (by unfold zB; omega) (fun c99_5 => ?_) (fun c99_5 => ?_)
        · skip
          refine lv_iload hx hb dX3_remembered_105 (lv_at hl 9 rfl) ?_
          refine lv_iload hx hb dX3_remembered_107 (lv_at hl 1 rfl) ?_
          refine va_mmax hx hb (by rw [hml]; exact hl.1.symm) hown (hts (.methodLink RX3 77 Lib.Math.max.name) (by decide +kernel)) (hts (.static Lib.Math.max.name) (by decide +kernel)) (hts (.initialized "java/lang/Math") (by decide +kernel)) (hts (.code Lib.Math.max.name Lib.Math.max.code 2 (some .int)) (by decide +kernel)) (Nat.le_of_ble_eq_true rfl) (Nat.le_of_ble_eq_true rfl) (Nat.zero_le _) (Nat.zero_le _) dX3_remembered_109 ?_
          refine rt_i (v := zI (max low z1)) (by rw [show zI low = zI low from rfl, show zI z1 = zI z1 from rfl]; exact zI_max (by unfold zB; omega) (by unfold zB; omega)) ?_
          refine lv_istore (lv' := [(15, .int (zI (max low z1))), (14, .int (zI z2)), (13, .int (zI z1)), (12, .int (bI (decide (u.1 (slN (keyL w h mm tt)) = (keyL w h mm tt))))), (10, .long (keyL w h mm tt)), (0, .ref se), (1, .long mm), (3, .long tt), (5, .long (mvL w h mm tt)), (7, .int (nI (k + 1))), (8, .int (zI low)), (9, .int (zI high))]) hx hb dX3_remembered_112 hl (by decide) rfl (fun ls hl => ?_)
          refine lv_iload hx hb dX3_remembered_114 (lv_at hl 11 rfl) ?_
          refine lv_iload hx hb dX3_remembered_116 (lv_at hl 1 rfl) ?_
          refine va_mmin hx hb (by rw [hml]; exact hl.1.symm) hown (hts (.methodLink RX3 83 Lib.Math.min.name) (by decide +kernel)) (hts (.static Lib.Math.min.name) (by decide +kernel)) (hts (.initialized "java/lang/Math") (by decide +kernel)) (hts (.code Lib.Math.min.name Lib.Math.min.code 2 (some .int)) (by decide +kernel)) (Nat.le_of_ble_eq_true rfl) (Nat.le_of_ble_eq_true rfl) (Nat.zero_le _) (Nat.zero_le _) dX3_remembered_118 ?_
          refine rt_i (v := zI (min high z2)) (by rw [show zI high = zI high from rfl, show zI z2 = zI z2 from rfl]; exact zI_min (by unfold zB; omega) (by unfold zB; omega)) ?_
          refine lv_istore (lv' := [(16, .int (zI (min high z2))), (15, .int (zI (max low z1))), (14, .int (zI z2)), (13, .int (zI z1)), (12, .int (bI (decide (u.1 (slN (keyL w h mm tt)) = (keyL w h mm tt))))), (10, .long (keyL w h mm tt)), (0, .ref se), (1, .long mm), (3, .long tt), (5, .long (mvL w h mm tt)), (7, .int (nI (k + 1))), (8, .int (zI low)), (9, .int (zI high))]) hx hb dX3_remembered_121 hl (by decide) rfl (fun ls hl => ?_)
          refine lv_aload_n hx hb dX3_remembered_123 rfl (lv_at hl 6 rfl) ?_
          refine lv_lload_n hx hb dX3_remembered_124 rfl (lv_at hl 7 rfl) ?_
          refine lv_lload_n hx hb dX3_remembered_125 rfl (lv_at hl 8 rfl) ?_
          refine lv_lload hx hb dX3_remembered_126 (lv_at hl 9 rfl) ?_
          refine lv_iload hx hb dX3_remembered_128 (lv_at hl 10 rfl) ?_
          refine lv_iload hx hb dX3_remembered_130 (lv_at hl 1 rfl) ?_
          refine lv_iload hx hb dX3_remembered_132 (lv_at hl 0 rfl) ?_
          refine mu_calli (wr := []) (va_runV (As := [.long mm, .long tt, .long (mvL w h mm tt), .int (nI (k + 1)), .int (zI (max low z1)), .int (zI (min high z2))]) (rest := []) ⟨hx, hb, hml, hown, hts⟩ (hTr u k tp M T mm tt (max low z1) (min high z2) s.heap.size hkd hpos hnw hmv (by omega) (by omega) (by omega) hmem) (cwV 6 hts gX3_remembered_X3_tried rfl rfl rfl (by decide +kernel) ⟨by simp only [k2_rm]; omega, by simp only [k2_rm]; omega⟩) ⟨MPc.blind, va_recv hK hP (ci := 3) (q0 := 0) rfl rfl, (MPc.at (hP.sub [0, 1, 2, 3, 4, 5, 6, 7, 8] rfl) (hD.sub [0, 1, 2, 3, 4, 5, 6, 7, 8] (by decide) rfl) hK hN)⟩ rfl rfl hl.1 rfl (lv_room (Nat.le_of_ble_eq_true rfl)) dX3_remembered_134 ⟨Nat.zero_le _, Nat.zero_le _⟩) hP hD hS hA [0, 1, 2, 3, 4, 5, 6, 7, 8] [] rfl rfl (by decide) (by decide) (fun rr v1 H locs hw hP hD hS => ?_)
          obtain ⟨hm1, rfl⟩ := hw
          obtain ⟨f0, ef⟩ : ∃ z, z = min (max (max low z1) (Sc w h (k + 1) tp M T)) (min high z2) := ⟨_, rfl⟩
          refine rt_i (v := zI f0) (by rw [ef]) ?_
          refine lv_istore (lv' := [(17, .int (zI f0)), (16, .int (zI (min high z2))), (15, .int (zI (max low z1))), (14, .int (zI z2)), (13, .int (zI z1)), (12, .int (bI (decide (u.1 (slN (keyL w h mm tt)) = (keyL w h mm tt))))), (10, .long (keyL w h mm tt)), (0, .ref se), (1, .long mm), (3, .long tt), (5, .long (mvL w h mm tt)), (7, .int (nI (k + 1))), (8, .int (zI low)), (9, .int (zI high))]) hx hb dX3_remembered_137 hl (by decide) rfl (fun ls hl => ?_)
          refine lv_aload_n hx hb dX3_remembered_139 rfl (lv_at hl 7 rfl) ?_
          refine va_get (C := RX3) (T := TX3) (N := 3) hx hb hts (by decide +kernel) hown hK hP 0 rfl rfl 1 (by decide) (hts (.fieldLink RX3 10 RX3 "memory" "LDropFour$Memory;") (by decide +kernel)) (fun _ h9 => h9) rfl dX3_remembered_140 ?_
          refine lv_lload hx hb dX3_remembered_143 (lv_at hl 6 rfl) ?_
          refine lv_iload hx hb dX3_remembered_145 (lv_at hl 0 rfl) ?_
          refine lv_iload hx hb dX3_remembered_147 (lv_at hl 2 rfl) ?_
          refine z_icmp_le (tgt := 157) hx hb dX3_remembered_149 (by decide) (by unfold zB; omega) (by unfold zB; omega) (fun c149_6 => ?_) (fun c149_6 => ?_)
          · skip
            refine lv_iload hx hb dX3_remembered_157 (lv_at hl 4 rfl) ?_
            refine lv_iload hx hb dX3_remembered_159 (lv_at hl 0 rfl) ?_
            refine lv_iload hx hb dX3_remembered_161 (lv_at hl 1 rfl) ?_
            refine z_icmp_ge (tgt := 171) hx hb dX3_remembered_163 (by decide) (by unfold zB; omega) (by unfold zB; omega) (fun c163_7 => ?_) (fun c163_7 => ?_)
            · skip
              refine lv_iload hx hb dX3_remembered_171 (lv_at hl 3 rfl) ?_
              refine mu_callv (wr := [(se, .inr (3, [.ref g, .ref me, .ref mi])), (mi, .inl (cJ, w, .inr (.inl (fun j => colL h (mid w j))))), (g, .inr (1, [.int (nI w), .int (nI h), .long (allL h w), .long (flrL h w), .ref st, .ref cs])), (st, .inl (cI, 4, .inl (fun j => nI (stp h j)))), (cs, .inl (cJ, w, .inr (.inl (fun j => colL h j))))]) (va_runV (As := [.long (keyL w h mm tt), .int (zI z1), .int (zI z2)]) (rest := []) ⟨hx, hb, hml, hown, hts⟩ (c_keep l D cI cJ cZ me ks le mo v1.1 v1.2.1 v1.2.2 (keyL w h mm tt) (zI z1) (zI z2) H.size) (cwV 3 hts gX3_remembered_X2_keep rfl rfl rfl (by decide +kernel) ⟨Nat.le_of_ble_eq_true rfl, Nat.le_of_ble_eq_true rfl⟩) ⟨MPc.blind, va_recv hK hP (ci := 2) (q0 := 5) rfl rfl, (MPc.at (hP.sub [5, 6, 7, 8] rfl) (hD.sub [5, 6, 7, 8] (by decide) rfl) hK hN)⟩ rfl rfl hl.1 rfl (lv_room (Nat.le_of_ble_eq_true rfl)) dX3_remembered_173 ⟨Nat.zero_le _, Nat.zero_le _⟩) hP hD hS hA [5, 6, 7, 8] [0, 1, 2, 3, 4] rfl rfl (by decide) (by decide) (fun u1 H locs hw hP hD hS => ?_)
              refine lv_iload hx hb dX3_remembered_176 (lv_at hl 0 rfl) ?_
              exact mu_iret (S := Mem) hx hb hr hlocks (vp_updL v1.1 (slN (keyL w h mm tt)) (keyL w h mm tt), upd v1.2.1 (slN (keyL w h mm tt)) (zI z1), upd v1.2.2 (slN (keyL w h mm tt)) (zI z2)) ⟨(hm1.keep hd hpos (z1 := z1) (z2 := z2) (by omega) (by omega) (by omega) (by omega)), f0, rfl, by unfold scPost; omega, by omega, by omega⟩ hP hD hS dX3_remembered_178
            refine lv_iload hx hb dX3_remembered_166 (lv_at hl 0 rfl) ?_
            refine lv_goto (tgt := 173) hx hb dX3_remembered_168 (by decide) ?_
            refine mu_callv (wr := [(se, .inr (3, [.ref g, .ref me, .ref mi])), (mi, .inl (cJ, w, .inr (.inl (fun j => colL h (mid w j))))), (g, .inr (1, [.int (nI w), .int (nI h), .long (allL h w), .long (flrL h w), .ref st, .ref cs])), (st, .inl (cI, 4, .inl (fun j => nI (stp h j)))), (cs, .inl (cJ, w, .inr (.inl (fun j => colL h j))))]) (va_runV (As := [.long (keyL w h mm tt), .int (zI z1), .int (zI f0)]) (rest := []) ⟨hx, hb, hml, hown, hts⟩ (c_keep l D cI cJ cZ me ks le mo v1.1 v1.2.1 v1.2.2 (keyL w h mm tt) (zI z1) (zI f0) H.size) (cwV 3 hts gX3_remembered_X2_keep rfl rfl rfl (by decide +kernel) ⟨Nat.le_of_ble_eq_true rfl, Nat.le_of_ble_eq_true rfl⟩) ⟨MPc.blind, va_recv hK hP (ci := 2) (q0 := 5) rfl rfl, (MPc.at (hP.sub [5, 6, 7, 8] rfl) (hD.sub [5, 6, 7, 8] (by decide) rfl) hK hN)⟩ rfl rfl hl.1 rfl (lv_room (Nat.le_of_ble_eq_true rfl)) dX3_remembered_173 ⟨Nat.zero_le _, Nat.zero_le _⟩) hP hD hS hA [5, 6, 7, 8] [0, 1, 2, 3, 4] rfl rfl (by decide) (by decide) (fun u1 H locs hw hP hD hS => ?_)
            refine lv_iload hx hb dX3_remembered_176 (lv_at hl 0 rfl) ?_
            exact mu_iret (S := Mem) hx hb hr hlocks (vp_updL v1.1 (slN (keyL w h mm tt)) (keyL w h mm tt), upd v1.2.1 (slN (keyL w h mm tt)) (zI z1), upd v1.2.2 (slN (keyL w h mm tt)) (zI f0)) ⟨(hm1.keep hd hpos (z1 := z1) (z2 := f0) (by omega) (by omega) (by omega) (by omega)), f0, rfl, by unfold scPost; omega, by omega, by omega⟩ hP hD hS dX3_remembered_178
          refine lv_iload hx hb dX3_remembered_152 (lv_at hl 0 rfl) ?_
          refine lv_goto (tgt := 159) hx hb dX3_remembered_154 (by decide) ?_
          refine lv_iload hx hb dX3_remembered_159 (lv_at hl 0 rfl) ?_
          refine lv_iload hx hb dX3_remembered_161 (lv_at hl 1 rfl) ?_
          refine z_icmp_ge (tgt := 171) hx hb dX3_remembered_163 (by decide) (by unfold zB; omega) (by unfold zB; omega) (fun c163_8 => ?_) (fun c163_8 => ?_)
          · skip
            refine lv_iload hx hb dX3_remembered_171 (lv_at hl 3 rfl) ?_
            refine mu_callv (wr := [(se, .inr (3, [.ref g, .ref me, .ref mi])), (mi, .inl (cJ, w, .inr (.inl (fun j => colL h (mid w j))))), (g, .inr (1, [.int (nI w), .int (nI h), .long (allL h w), .long (flrL h w), .ref st, .ref cs])), (st, .inl (cI, 4, .inl (fun j => nI (stp h j)))), (cs, .inl (cJ, w, .inr (.inl (fun j => colL h j))))]) (va_runV (As := [.long (keyL w h mm tt), .int (zI f0), .int (zI z2)]) (rest := []) ⟨hx, hb, hml, hown, hts⟩ (c_keep l D cI cJ cZ me ks le mo v1.1 v1.2.1 v1.2.2 (keyL w h mm tt) (zI f0) (zI z2) H.size) (cwV 3 hts gX3_remembered_X2_keep rfl rfl rfl (by decide +kernel) ⟨Nat.le_of_ble_eq_true rfl, Nat.le_of_ble_eq_true rfl⟩) ⟨MPc.blind, va_recv hK hP (ci := 2) (q0 := 5) rfl rfl, (MPc.at (hP.sub [5, 6, 7, 8] rfl) (hD.sub [5, 6, 7, 8] (by decide) rfl) hK hN)⟩ rfl rfl hl.1 rfl (lv_room (Nat.le_of_ble_eq_true rfl)) dX3_remembered_173 ⟨Nat.zero_le _, Nat.zero_le _⟩) hP hD hS hA [5, 6, 7, 8] [0, 1, 2, 3, 4] rfl rfl (by decide) (by decide) (fun u1 H locs hw hP hD hS => ?_)
            refine lv_iload hx hb dX3_remembered_176 (lv_at hl 0 rfl) ?_
            exact mu_iret (S := Mem) hx hb hr hlocks (vp_updL v1.1 (slN (keyL w h mm tt)) (keyL w h mm tt), upd v1.2.1 (slN (keyL w h mm tt)) (zI f0), upd v1.2.2 (slN (keyL w h mm tt)) (zI z2)) ⟨(hm1.keep hd hpos (z1 := f0) (z2 := z2) (by omega) (by omega) (by omega) (by omega)), f0, rfl, by unfold scPost; omega, by omega, by omega⟩ hP hD hS dX3_remembered_178
          refine lv_iload hx hb dX3_remembered_166 (lv_at hl 0 rfl) ?_
          refine lv_goto (tgt := 173) hx hb dX3_remembered_168 (by decide) ?_
          refine mu_callv (wr := [(se, .inr (3, [.ref g, .ref me, .ref mi])), (mi, .inl (cJ, w, .inr (.inl (fun j => colL h (mid w j))))), (g, .inr (1, [.int (nI w), .int (nI h), .long (allL h w), .long (flrL h w), .ref st, .ref cs])), (st, .inl (cI, 4, .inl (fun j => nI (stp h j)))), (cs, .inl (cJ, w, .inr (.inl (fun j => colL h j))))]) (va_runV (As := [.long (keyL w h mm tt), .int (zI f0), .int (zI f0)]) (rest := []) ⟨hx, hb, hml, hown, hts⟩ (c_keep l D cI cJ cZ me ks le mo v1.1 v1.2.1 v1.2.2 (keyL w h mm tt) (zI f0) (zI f0) H.size) (cwV 3 hts gX3_remembered_X2_keep rfl rfl rfl (by decide +kernel) ⟨Nat.le_of_ble_eq_true rfl, Nat.le_of_ble_eq_true rfl⟩) ⟨MPc.blind, va_recv hK hP (ci := 2) (q0 := 5) rfl rfl, (MPc.at (hP.sub [5, 6, 7, 8] rfl) (hD.sub [5, 6, 7, 8] (by decide) rfl) hK hN)⟩ rfl rfl hl.1 rfl (lv_room (Nat.le_of_ble_eq_true rfl)) dX3_remembered_173 ⟨Nat.zero_le _, Nat.zero_le _⟩) hP hD hS hA [5, 6, 7, 8] [0, 1, 2, 3, 4] rfl rfl (by decide) (by decide) (fun u1 H locs hw hP hD hS => ?_)
          refine lv_iload hx hb dX3_remembered_176 (lv_at hl 0 rfl) ?_
          exact mu_iret (S := Mem) hx hb hr hlocks (vp_updL v1.1 (slN (keyL w h mm tt)) (keyL w h mm tt), upd v1.2.1 (slN (keyL w h mm tt)) (zI f0), upd v1.2.2 (slN (keyL w h mm tt)) (zI f0)) ⟨(hm1.keep hd hpos (z1 := f0) (z2 := f0) (by omega) (by omega) (by omega) (by omega)), f0, rfl, by unfold scPost; omega, by omega, by omega⟩ hP hD hS dX3_remembered_178
        refine lv_iload hx hb dX3_remembered_102 (lv_at hl 0 rfl) ?_
        exact mu_iret (S := Mem) hx hb hr hlocks u ⟨hmem, z2, rfl, by unfold scPost; omega, by omega, by omega⟩ hP hD hS dX3_remembered_104
      refine lv_iload hx hb dX3_remembered_92 (lv_at hl 1 rfl) ?_
      exact mu_iret (S := Mem) hx hb hr hlocks u ⟨hmem, z1, rfl, by unfold scPost; omega, by omega, by omega⟩ hP hD hS dX3_remembered_94
    · exact absurd c54_2 (by rw [decide_eq_false hkn]; decide)
  have hkn : u.1 (slN (keyL w h mm tt)) = (keyL w h mm tt) := of_decide_eq_true c28_1
  obtain ⟨z1, z2, ez1, ez2, q1, q2, q3, q4⟩ := hmem _ (slN_lt _) _ _ _ _ _ _ hpos hkn.symm
  refine lv_aload_n hx hb dX3_remembered_31 rfl (lv_at hl 2 rfl) ?_
  refine va_get (C := RX3) (T := TX3) (N := 3) hx hb hts (by decide +kernel) hown hK hP 0 rfl rfl 1 (by decide) (hts (.fieldLink RX3 10 RX3 "memory" "LDropFour$Memory;") (by decide +kernel)) (fun _ h9 => h9) rfl dX3_remembered_32 ?_
  refine lv_lload hx hb dX3_remembered_35 (lv_at hl 1 rfl) ?_
  refine ro_call (W.runV (As := [.long (keyL w h mm tt)]) (rest := []) ⟨hx, hb, hml, hown, hts⟩ (c_leastOf l D cI cJ cZ me ks le mo u.1 u.2.1 u.2.2 (keyL w h mm tt)) (cwV 1 hts gX3_remembered_X2_leastOf rfl rfl rfl (by decide +kernel) ⟨Nat.le_of_ble_eq_true rfl, Nat.le_of_ble_eq_true rfl⟩) ⟨RPc.blind, va_recv hK hP (ci := 2) (q0 := 5) rfl rfl, (RPc.at (hP.sub [5, 6, 7, 8] rfl) hK hN)⟩ rfl rfl hl.1 rfl (lv_room (Nat.le_of_ble_eq_true rfl)) dX3_remembered_37 ⟨Nat.zero_le _, Nat.zero_le _⟩) ?_
  refine rt_i (v := zI z1) ez1 ?_
  refine lv_goto (tgt := 50) hx hb dX3_remembered_40 (by decide) ?_
  refine lv_istore (lv' := [(13, .int (zI z1)), (12, .int (bI (decide (u.1 (slN (keyL w h mm tt)) = (keyL w h mm tt))))), (10, .long (keyL w h mm tt)), (0, .ref se), (1, .long mm), (3, .long tt), (5, .long (mvL w h mm tt)), (7, .int (nI (k + 1))), (8, .int (zI low)), (9, .int (zI high))]) hx hb dX3_remembered_50 hl (by decide) rfl (fun ls hl => ?_)
  refine lv_iload hx hb dX3_remembered_52 (lv_at hl 1 rfl) ?_
  refine b_if_eq (tgt := 69) hx hb dX3_remembered_54 (by decide) (fun c54_9 => ?_) (fun c54_9 => ?_)
  · exact absurd c54_9 (by rw [decide_eq_true hkn]; decide)
  refine lv_aload_n hx hb dX3_remembered_57 rfl (lv_at hl 3 rfl) ?_
  refine va_get (C := RX3) (T := TX3) (N := 3) hx hb hts (by decide +kernel) hown hK hP 0 rfl rfl 1 (by decide) (hts (.fieldLink RX3 10 RX3 "memory" "LDropFour$Memory;") (by decide +kernel)) (fun _ h9 => h9) rfl dX3_remembered_58 ?_
  refine lv_lload hx hb dX3_remembered_61 (lv_at hl 2 rfl) ?_
  refine ro_call (W.runV (As := [.long (keyL w h mm tt)]) (rest := []) ⟨hx, hb, hml, hown, hts⟩ (c_mostOf l D cI cJ cZ me ks le mo u.1 u.2.1 u.2.2 (keyL w h mm tt)) (cwV 1 hts gX3_remembered_X2_mostOf rfl rfl rfl (by decide +kernel) ⟨Nat.le_of_ble_eq_true rfl, Nat.le_of_ble_eq_true rfl⟩) ⟨RPc.blind, va_recv hK hP (ci := 2) (q0 := 5) rfl rfl, (RPc.at (hP.sub [5, 6, 7, 8] rfl) hK hN)⟩ rfl rfl hl.1 rfl (lv_room (Nat.le_of_ble_eq_true rfl)) dX3_remembered_63 ⟨Nat.zero_le _, Nat.zero_le _⟩) ?_
  refine rt_i (v := zI z2) ez2 ?_
  refine lv_goto (tgt := 76) hx hb dX3_remembered_66 (by decide) ?_
  refine lv_istore (lv' := [(14, .int (zI z2)), (13, .int (zI z1)), (12, .int (bI (decide (u.1 (slN (keyL w h mm tt)) = (keyL w h mm tt))))), (10, .long (keyL w h mm tt)), (0, .ref se), (1, .long mm), (3, .long tt), (5, .long (mvL w h mm tt)), (7, .int (nI (k + 1))), (8, .int (zI low)), (9, .int (zI high))]) hx hb dX3_remembered_76 hl (by decide) rfl (fun ls hl => ?_)
  refine lv_iload hx hb dX3_remembered_78 (lv_at hl 1 rfl) ?_
  refine lv_iload hx hb dX3_remembered_80 (lv_at hl 10 rfl) ?_
  refine z_icmp_ge (tgt := 92) hx hb dX3_remembered_82 (by decide) (by unfold zB; omega) (by unfold zB; omega) (fun c82_10 => ?_) (fun c82_10 => ?_)
  · skip
    refine lv_iload hx hb dX3_remembered_92 (lv_at hl 1 rfl) ?_
    exact mu_iret (S := Mem) hx hb hr hlocks u ⟨hmem, z1, rfl, by unfold scPost; omega, by omega, by omega⟩ hP hD hS dX3_remembered_94
  refine lv_iload hx hb dX3_remembered_85 (lv_at hl 1 rfl) ?_
  refine lv_iload hx hb dX3_remembered_87 (lv_at hl 0 rfl) ?_
  refine z_icmp_lt (tgt := 95) hx hb dX3_remembered_89 (by decide) (by unfold zB; omega) (by unfold zB; omega) (fun c89_11 => ?_) (fun c89_11 => ?_)
  · skip
    refine lv_iload hx hb dX3_remembered_95 (lv_at hl 0 rfl) ?_
    refine lv_iload hx hb dX3_remembered_97 (lv_at hl 9 rfl) ?_
    refine z_icmp_gt (tgt := 105) hx hb dX3_remembered_99 (by decide) (by unfold zB; omega) (by unfold zB; omega) (fun c99_12 => ?_) (fun c99_12 => ?_)
    · skip
      refine lv_iload hx hb dX3_remembered_105 (lv_at hl 9 rfl) ?_
      refine lv_iload hx hb dX3_remembered_107 (lv_at hl 1 rfl) ?_
      refine va_mmax hx hb (by rw [hml]; exact hl.1.symm) hown (hts (.methodLink RX3 77 Lib.Math.max.name) (by decide +kernel)) (hts (.static Lib.Math.max.name) (by decide +kernel)) (hts (.initialized "java/lang/Math") (by decide +kernel)) (hts (.code Lib.Math.max.name Lib.Math.max.code 2 (some .int)) (by decide +kernel)) (Nat.le_of_ble_eq_true rfl) (Nat.le_of_ble_eq_true rfl) (Nat.zero_le _) (Nat.zero_le _) dX3_remembered_109 ?_
      refine rt_i (v := zI (max low z1)) (by rw [show zI low = zI low from rfl, show zI z1 = zI z1 from rfl]; exact zI_max (by unfold zB; omega) (by unfold zB; omega)) ?_
      refine lv_istore (lv' := [(15, .int (zI (max low z1))), (14, .int (zI z2)), (13, .int (zI z1)), (12, .int (bI (decide (u.1 (slN (keyL w h mm tt)) = (keyL w h mm tt))))), (10, .long (keyL w h mm tt)), (0, .ref se), (1, .long mm), (3, .long tt), (5, .long (mvL w h mm tt)), (7, .int (nI (k + 1))), (8, .int (zI low)), (9, .int (zI high))]) hx hb dX3_remembered_112 hl (by decide) rfl (fun ls hl => ?_)
      refine lv_iload hx hb dX3_remembered_114 (lv_at hl 11 rfl) ?_
      refine lv_iload hx hb dX3_remembered_116 (lv_at hl 1 rfl) ?_
      refine va_mmin hx hb (by rw [hml]; exact hl.1.symm) hown (hts (.methodLink RX3 83 Lib.Math.min.name) (by decide +kernel)) (hts (.static Lib.Math.min.name) (by decide +kernel)) (hts (.initialized "java/lang/Math") (by decide +kernel)) (hts (.code Lib.Math.min.name Lib.Math.min.code 2 (some .int)) (by decide +kernel)) (Nat.le_of_ble_eq_true rfl) (Nat.le_of_ble_eq_true rfl) (Nat.zero_le _) (Nat.zero_le _) dX3_remembered_118 ?_
      refine rt_i (v := zI (min high z2)) (by rw [show zI high = zI high from rfl, show zI z2 = zI z2 from rfl]; exact zI_min (by unfold zB; omega) (by unfold zB; omega)) ?_
      refine lv_istore (lv' := [(16, .int (zI (min high z2))), (15, .int (zI (max low z1))), (14, .int (zI z2)), (13, .int (zI z1)), (12, .int (bI (decide (u.1 (slN (keyL w h mm tt)) = (keyL w h mm tt))))), (10, .long (keyL w h mm tt)), (0, .ref se), (1, .long mm), (3, .long tt), (5, .long (mvL w h mm tt)), (7, .int (nI (k + 1))), (8, .int (zI low)), (9, .int (zI high))]) hx hb dX3_remembered_121 hl (by decide) rfl (fun ls hl => ?_)
      refine lv_aload_n hx hb dX3_remembered_123 rfl (lv_at hl 6 rfl) ?_
      refine lv_lload_n hx hb dX3_remembered_124 rfl (lv_at hl 7 rfl) ?_
      refine lv_lload_n hx hb dX3_remembered_125 rfl (lv_at hl 8 rfl) ?_
      refine lv_lload hx hb dX3_remembered_126 (lv_at hl 9 rfl) ?_
      refine lv_iload hx hb dX3_remembered_128 (lv_at hl 10 rfl) ?_
      refine lv_iload hx hb dX3_remembered_130 (lv_at hl 1 rfl) ?_
      refine lv_iload hx hb dX3_remembered_132 (lv_at hl 0 rfl) ?_
      refine mu_calli (wr := []) (va_runV (As := [.long mm, .long tt, .long (mvL w h mm tt), .int (nI (k + 1)), .int (zI (max low z1)), .int (zI (min high z2))]) (rest := []) ⟨hx, hb, hml, hown, hts⟩ (hTr u k tp M T mm tt (max low z1) (min high z2) s.heap.size hkd hpos hnw hmv (by omega) (by omega) (by omega) hmem) (cwV 6 hts gX3_remembered_X3_tried rfl rfl rfl (by decide +kernel) ⟨by simp only [k2_rm]; omega, by simp only [k2_rm]; omega⟩) ⟨MPc.blind, va_recv hK hP (ci := 3) (q0 := 0) rfl rfl, (MPc.at (hP.sub [0, 1, 2, 3, 4, 5, 6, 7, 8] rfl) (hD.sub [0, 1, 2, 3, 4, 5, 6, 7, 8] (by decide) rfl) hK hN)⟩ rfl rfl hl.1 rfl (lv_room (Nat.le_of_ble_eq_true rfl)) dX3_remembered_134 ⟨Nat.zero_le _, Nat.zero_le _⟩) hP hD hS hA [0, 1, 2, 3, 4, 5, 6, 7, 8] [] rfl rfl (by decide) (by decide) (fun rr v1 H locs hw hP hD hS => ?_)
      obtain ⟨hm1, rfl⟩ := hw
      obtain ⟨f0, ef⟩ : ∃ z, z = min (max (max low z1) (Sc w h (k + 1) tp M T)) (min high z2) := ⟨_, rfl⟩
      refine rt_i (v := zI f0) (by rw [ef]) ?_
      refine lv_istore (lv' := [(17, .int (zI f0)), (16, .int (zI (min high z2))), (15, .int (zI (max low z1))), (14, .int (zI z2)), (13, .int (zI z1)), (12, .int (bI (decide (u.1 (slN (keyL w h mm tt)) = (keyL w h mm tt))))), (10, .long (keyL w h mm tt)), (0, .ref se), (1, .long mm), (3, .long tt), (5, .long (mvL w h mm tt)), (7, .int (nI (k + 1))), (8, .int (zI low)), (9, .int (zI high))]) hx hb dX3_remembered_137 hl (by decide) rfl (fun ls hl => ?_)
      refine lv_aload_n hx hb dX3_remembered_139 rfl (lv_at hl 7 rfl) ?_
      refine va_get (C := RX3) (T := TX3) (N := 3) hx hb hts (by decide +kernel) hown hK hP 0 rfl rfl 1 (by decide) (hts (.fieldLink RX3 10 RX3 "memory" "LDropFour$Memory;") (by decide +kernel)) (fun _ h9 => h9) rfl dX3_remembered_140 ?_
      refine lv_lload hx hb dX3_remembered_143 (lv_at hl 6 rfl) ?_
      refine lv_iload hx hb dX3_remembered_145 (lv_at hl 0 rfl) ?_
      refine lv_iload hx hb dX3_remembered_147 (lv_at hl 2 rfl) ?_
      refine z_icmp_le (tgt := 157) hx hb dX3_remembered_149 (by decide) (by unfold zB; omega) (by unfold zB; omega) (fun c149_13 => ?_) (fun c149_13 => ?_)
      · skip
        refine lv_iload hx hb dX3_remembered_157 (lv_at hl 4 rfl) ?_
        refine lv_iload hx hb dX3_remembered_159 (lv_at hl 0 rfl) ?_
        refine lv_iload hx hb dX3_remembered_161 (lv_at hl 1 rfl) ?_
        refine z_icmp_ge (tgt := 171) hx hb dX3_remembered_163 (by decide) (by unfold zB; omega) (by unfold zB; omega) (fun c163_14 => ?_) (fun c163_14 => ?_)
        · skip
          refine lv_iload hx hb dX3_remembered_171 (lv_at hl 3 rfl) ?_
          refine mu_callv (wr := [(se, .inr (3, [.ref g, .ref me, .ref mi])), (mi, .inl (cJ, w, .inr (.inl (fun j => colL h (mid w j))))), (g, .inr (1, [.int (nI w), .int (nI h), .long (allL h w), .long (flrL h w), .ref st, .ref cs])), (st, .inl (cI, 4, .inl (fun j => nI (stp h j)))), (cs, .inl (cJ, w, .inr (.inl (fun j => colL h j))))]) (va_runV (As := [.long (keyL w h mm tt), .int (zI z1), .int (zI z2)]) (rest := []) ⟨hx, hb, hml, hown, hts⟩ (c_keep l D cI cJ cZ me ks le mo v1.1 v1.2.1 v1.2.2 (keyL w h mm tt) (zI z1) (zI z2) H.size) (cwV 3 hts gX3_remembered_X2_keep rfl rfl rfl (by decide +kernel) ⟨Nat.le_of_ble_eq_true rfl, Nat.le_of_ble_eq_true rfl⟩) ⟨MPc.blind, va_recv hK hP (ci := 2) (q0 := 5) rfl rfl, (MPc.at (hP.sub [5, 6, 7, 8] rfl) (hD.sub [5, 6, 7, 8] (by decide) rfl) hK hN)⟩ rfl rfl hl.1 rfl (lv_room (Nat.le_of_ble_eq_true rfl)) dX3_remembered_173 ⟨Nat.zero_le _, Nat.zero_le _⟩) hP hD hS hA [5, 6, 7, 8] [0, 1, 2, 3, 4] rfl rfl (by decide) (by decide) (fun u1 H locs hw hP hD hS => ?_)
          refine lv_iload hx hb dX3_remembered_176 (lv_at hl 0 rfl) ?_
          exact mu_iret (S := Mem) hx hb hr hlocks (vp_updL v1.1 (slN (keyL w h mm tt)) (keyL w h mm tt), upd v1.2.1 (slN (keyL w h mm tt)) (zI z1), upd v1.2.2 (slN (keyL w h mm tt)) (zI z2)) ⟨(hm1.keep hd hpos (z1 := z1) (z2 := z2) (by omega) (by omega) (by omega) (by omega)), f0, rfl, by unfold scPost; omega, by omega, by omega⟩ hP hD hS dX3_remembered_178
        refine lv_iload hx hb dX3_remembered_166 (lv_at hl 0 rfl) ?_
        refine lv_goto (tgt := 173) hx hb dX3_remembered_168 (by decide) ?_
        refine mu_callv (wr := [(se, .inr (3, [.ref g, .ref me, .ref mi])), (mi, .inl (cJ, w, .inr (.inl (fun j => colL h (mid w j))))), (g, .inr (1, [.int (nI w), .int (nI h), .long (allL h w), .long (flrL h w), .ref st, .ref cs])), (st, .inl (cI, 4, .inl (fun j => nI (stp h j)))), (cs, .inl (cJ, w, .inr (.inl (fun j => colL h j))))]) (va_runV (As := [.long (keyL w h mm tt), .int (zI z1), .int (zI f0)]) (rest := []) ⟨hx, hb, hml, hown, hts⟩ (c_keep l D cI cJ cZ me ks le mo v1.1 v1.2.1 v1.2.2 (keyL w h mm tt) (zI z1) (zI f0) H.size) (cwV 3 hts gX3_remembered_X2_keep rfl rfl rfl (by decide +kernel) ⟨Nat.le_of_ble_eq_true rfl, Nat.le_of_ble_eq_true rfl⟩) ⟨MPc.blind, va_recv hK hP (ci := 2) (q0 := 5) rfl rfl, (MPc.at (hP.sub [5, 6, 7, 8] rfl) (hD.sub [5, 6, 7, 8] (by decide) rfl) hK hN)⟩ rfl rfl hl.1 rfl (lv_room (Nat.le_of_ble_eq_true rfl)) dX3_remembered_173 ⟨Nat.zero_le _, Nat.zero_le _⟩) hP hD hS hA [5, 6, 7, 8] [0, 1, 2, 3, 4] rfl rfl (by decide) (by decide) (fun u1 H locs hw hP hD hS => ?_)
        refine lv_iload hx hb dX3_remembered_176 (lv_at hl 0 rfl) ?_
        exact mu_iret (S := Mem) hx hb hr hlocks (vp_updL v1.1 (slN (keyL w h mm tt)) (keyL w h mm tt), upd v1.2.1 (slN (keyL w h mm tt)) (zI z1), upd v1.2.2 (slN (keyL w h mm tt)) (zI f0)) ⟨(hm1.keep hd hpos (z1 := z1) (z2 := f0) (by omega) (by omega) (by omega) (by omega)), f0, rfl, by unfold scPost; omega, by omega, by omega⟩ hP hD hS dX3_remembered_178
      refine lv_iload hx hb dX3_remembered_152 (lv_at hl 0 rfl) ?_
      refine lv_goto (tgt := 159) hx hb dX3_remembered_154 (by decide) ?_
      refine lv_iload hx hb dX3_remembered_159 (lv_at hl 0 rfl) ?_
      refine lv_iload hx hb dX3_remembered_161 (lv_at hl 1 rfl) ?_
      refine z_icmp_ge (tgt := 171) hx hb dX3_remembered_163 (by decide) (by unfold zB; omega) (by unfold zB; omega) (fun c163_15 => ?_) (fun c163_15 => ?_)
      · skip
        refine lv_iload hx hb dX3_remembered_171 (lv_at hl 3 rfl) ?_
        refine mu_callv (wr := [(se, .inr (3, [.ref g, .ref me, .ref mi])), (mi, .inl (cJ, w, .inr (.inl (fun j => colL h (mid w j))))), (g, .inr (1, [.int (nI w), .int (nI h), .long (allL h w), .long (flrL h w), .ref st, .ref cs])), (st, .inl (cI, 4, .inl (fun j => nI (stp h j)))), (cs, .inl (cJ, w, .inr (.inl (fun j => colL h j))))]) (va_runV (As := [.long (keyL w h mm tt), .int (zI f0), .int (zI z2)]) (rest := []) ⟨hx, hb, hml, hown, hts⟩ (c_keep l D cI cJ cZ me ks le mo v1.1 v1.2.1 v1.2.2 (keyL w h mm tt) (zI f0) (zI z2) H.size) (cwV 3 hts gX3_remembered_X2_keep rfl rfl rfl (by decide +kernel) ⟨Nat.le_of_ble_eq_true rfl, Nat.le_of_ble_eq_true rfl⟩) ⟨MPc.blind, va_recv hK hP (ci := 2) (q0 := 5) rfl rfl, (MPc.at (hP.sub [5, 6, 7, 8] rfl) (hD.sub [5, 6, 7, 8] (by decide) rfl) hK hN)⟩ rfl rfl hl.1 rfl (lv_room (Nat.le_of_ble_eq_true rfl)) dX3_remembered_173 ⟨Nat.zero_le _, Nat.zero_le _⟩) hP hD hS hA [5, 6, 7, 8] [0, 1, 2, 3, 4] rfl rfl (by decide) (by decide) (fun u1 H locs hw hP hD hS => ?_)
        refine lv_iload hx hb dX3_remembered_176 (lv_at hl 0 rfl) ?_
        exact mu_iret (S := Mem) hx hb hr hlocks (vp_updL v1.1 (slN (keyL w h mm tt)) (keyL w h mm tt), upd v1.2.1 (slN (keyL w h mm tt)) (zI f0), upd v1.2.2 (slN (keyL w h mm tt)) (zI z2)) ⟨(hm1.keep hd hpos (z1 := f0) (z2 := z2) (by omega) (by omega) (by omega) (by omega)), f0, rfl, by unfold scPost; omega, by omega, by omega⟩ hP hD hS dX3_remembered_178
      refine lv_iload hx hb dX3_remembered_166 (lv_at hl 0 rfl) ?_
      refine lv_goto (tgt := 173) hx hb dX3_remembered_168 (by decide) ?_
      refine mu_callv (wr := [(se, .inr (3, [.ref g, .ref me, .ref mi])), (mi, .inl (cJ, w, .inr (.inl (fun j => colL h (mid w j))))), (g, .inr (1, [.int (nI w), .int (nI h), .long (allL h w), .long (flrL h w), .ref st, .ref cs])), (st, .inl (cI, 4, .inl (fun j => nI (stp h j)))), (cs, .inl (cJ, w, .inr (.inl (fun j => colL h j))))]) (va_runV (As := [.long (keyL w h mm tt), .int (zI f0), .int (zI f0)]) (rest := []) ⟨hx, hb, hml, hown, hts⟩ (c_keep l D cI cJ cZ me ks le mo v1.1 v1.2.1 v1.2.2 (keyL w h mm tt) (zI f0) (zI f0) H.size) (cwV 3 hts gX3_remembered_X2_keep rfl rfl rfl (by decide +kernel) ⟨Nat.le_of_ble_eq_true rfl, Nat.le_of_ble_eq_true rfl⟩) ⟨MPc.blind, va_recv hK hP (ci := 2) (q0 := 5) rfl rfl, (MPc.at (hP.sub [5, 6, 7, 8] rfl) (hD.sub [5, 6, 7, 8] (by decide) rfl) hK hN)⟩ rfl rfl hl.1 rfl (lv_room (Nat.le_of_ble_eq_true rfl)) dX3_remembered_173 ⟨Nat.zero_le _, Nat.zero_le _⟩) hP hD hS hA [5, 6, 7, 8] [0, 1, 2, 3, 4] rfl rfl (by decide) (by decide) (fun u1 H locs hw hP hD hS => ?_)
      refine lv_iload hx hb dX3_remembered_176 (lv_at hl 0 rfl) ?_
      exact mu_iret (S := Mem) hx hb hr hlocks (vp_updL v1.1 (slN (keyL w h mm tt)) (keyL w h mm tt), upd v1.2.1 (slN (keyL w h mm tt)) (zI f0), upd v1.2.2 (slN (keyL w h mm tt)) (zI f0)) ⟨(hm1.keep hd hpos (z1 := f0) (z2 := f0) (by omega) (by omega) (by omega) (by omega)), f0, rfl, by unfold scPost; omega, by omega, by omega⟩ hP hD hS dX3_remembered_178
    refine lv_iload hx hb dX3_remembered_102 (lv_at hl 0 rfl) ?_
    exact mu_iret (S := Mem) hx hb hr hlocks u ⟨hmem, z2, rfl, by unfold scPost; omega, by omega, by omega⟩ hP hD hS dX3_remembered_104
  refine lv_iload hx hb dX3_remembered_92 (lv_at hl 1 rfl) ?_
  exact mu_iret (S := Mem) hx hb hr hlocks u ⟨hmem, z1, rfl, by unfold scPost; omega, by omega, by omega⟩ hP hD hS dX3_remembered_94

set_option maxHeartbeats 4000000 in
set_option maxRecDepth 100000 in
theorem c_score_s (l : Launch) (D : va_G) (cI cJ cZ : ClassId) (w h se mi g st cs me ks le mo d : Nat) (hd : Dm w h) (hRm : RemMet l D cI cJ cZ w h se mi g st cs me ks le mo d) : ScoreMet l D cI cJ cZ w h se mi g st cs me ks le mo (d + 1) := by
  intro u k tp M T mm tt low high sz hkd hpos hlh hlo hhi hmem
  have hd0 := hd
  obtain ⟨h3w, hw9, h3h, hh7, hwh, h64⟩ := hd0
  have hkb : k ≤ 63 := by have h1 := hpos.2.2.2.2.2.2.2; have h2 := emp_le (h := h) (tp := tp) w; omega
  refine mu_head (Qc := fun A => mQi D (fun r (v : Mem) => MemOK w h v ∧ ∃ z : Int, r = zI z ∧ scPost (Sc w h k tp M T) low high z ∧ -200 ≤ z ∧ z ≤ 200) (fun v => seU cI cJ w h se mi g st cs me ks le mo v) A) (cc := cX3_score) (maxL := 14) (ret := (some .int)) (by decide) rfl (Nat.le_of_ble_eq_true rfl) ?_
  intro p e s m below meth cd ls A hx hb hr hlocks hnm hts hown hml hA hP hK hD hN hS hl
  have hl : lv_has ls 14 [(0, .ref se), (1, .long mm), (3, .long tt), (5, .int (nI k)), (6, .int (zI low)), (7, .int (zI high))] := hl
  refine lv_iload hx hb dX3_score_0 (lv_at hl 3 rfl) ?_
  refine n_if_gt (tgt := 7) hx hb dX3_score_2 (by decide) (by omega) (fun c2_1 => ?_) (fun c2_1 => ?_)
  · skip
    obtain ⟨k1, rfl⟩ : ∃ k1, k = k1 + 1 := ⟨k - 1, by omega⟩
    have hSb := Sc_bd w h (k1 + 1) tp M T
    refine lv_lload_n hx hb dX3_score_7 rfl (lv_at hl 1 rfl) ?_
    refine lv_lload_n hx hb dX3_score_8 rfl (lv_at hl 2 rfl) ?_
    refine lv_lor hx hb dX3_score_9 ?_
    refine lv_lstore (lv' := [(8, .long (mm ||| tt)), (0, .ref se), (1, .long mm), (3, .long tt), (5, .int (nI (k1 + 1))), (6, .int (zI low)), (7, .int (zI high))]) hx hb dX3_score_10 hl (by decide) rfl (fun ls hl => ?_)
    refine lv_aload_n hx hb dX3_score_12 rfl (lv_at hl 1 rfl) ?_
    refine va_get (C := RX3) (T := TX3) (N := 3) hx hb hts (by decide +kernel) hown hK hP 0 rfl rfl 0 (by decide) (hts (.fieldLink RX3 16 RX3 "grid" "LDropFour$Grid;") (by decide +kernel)) (fun _ h9 => h9) rfl dX3_score_13 ?_
    refine lv_lload hx hb dX3_score_16 (lv_at hl 0 rfl) ?_
    refine ro_call (W.runV (As := [.long (mm ||| tt)]) (rest := []) ⟨hx, hb, hml, hown, hts⟩ (c_nextSquares l D cI cJ cZ w h g st cs (mm ||| tt)) (cwV 1 hts gX3_score_X1_nextSquares rfl rfl rfl (by decide +kernel) ⟨Nat.le_of_ble_eq_true rfl, Nat.le_of_ble_eq_true rfl⟩) ⟨RPc.blind, va_recv hK hP (ci := 1) (q0 := 2) rfl rfl, (RPc.at (hP.sub [2, 3, 4] rfl) hK hN)⟩ rfl rfl hl.1 rfl (lv_room (Nat.le_of_ble_eq_true rfl)) dX3_score_18 ⟨Nat.zero_le _, Nat.zero_le _⟩) ?_
    refine lv_lstore (lv' := [(10, .long (nxL w h (mm ||| tt))), (8, .long (mm ||| tt)), (0, .ref se), (1, .long mm), (3, .long tt), (5, .int (nI (k1 + 1))), (6, .int (zI low)), (7, .int (zI high))]) hx hb dX3_score_21 hl (by decide) rfl (fun ls hl => ?_)
    refine lv_aload_n hx hb dX3_score_23 rfl (lv_at hl 2 rfl) ?_
    refine va_get (C := RX3) (T := TX3) (N := 3) hx hb hts (by decide +kernel) hown hK hP 0 rfl rfl 0 (by decide) (hts (.fieldLink RX3 16 RX3 "grid" "LDropFour$Grid;") (by decide +kernel)) (fun _ h9 => h9) rfl dX3_score_24 ?_
    refine lv_lload_n hx hb dX3_score_27 rfl (lv_at hl 3 rfl) ?_
    refine lv_lload hx hb dX3_score_28 (lv_at hl 1 rfl) ?_
    refine ro_call (W.runV (As := [.long mm, .long (mm ||| tt)]) (rest := []) ⟨hx, hb, hml, hown, hts⟩ (c_threatSquares l D cI cJ cZ w h g st cs mm (mm ||| tt)) (cwV 2 hts gX3_score_X1_threatSquares rfl rfl rfl (by decide +kernel) ⟨Nat.le_of_ble_eq_true rfl, Nat.le_of_ble_eq_true rfl⟩) ⟨RPc.blind, va_recv hK hP (ci := 1) (q0 := 2) rfl rfl, (RPc.at (hP.sub [2, 3, 4] rfl) hK hN)⟩ rfl rfl hl.1 rfl (lv_room (Nat.le_of_ble_eq_true rfl)) dX3_score_30 ⟨Nat.zero_le _, Nat.zero_le _⟩) ?_
    refine lv_lload hx hb dX3_score_33 (lv_at hl 0 rfl) ?_
    refine lv_land hx hb dX3_score_35 ?_
    refine lv_lconst (v := 0) hx hb dX3_score_36 (by decide) ?_
    refine W.lcmp hx hb dX3_score_37 ?_
    refine l_if_eq (tgt := 44) hx hb dX3_score_38 (by decide) (fun c38_2 => ?_) (fun c38_2 => ?_)
    · skip
      have hnw : ∀ c, ¬ winsAt w h tp M c := fun c q => absurd c38_2 ((hpos.win hd).mpr ⟨c, q⟩)
      refine lv_lload hx hb dX3_score_44 (lv_at hl 0 rfl) ?_
      refine lv_aload_n hx hb dX3_score_46 rfl (lv_at hl 2 rfl) ?_
      refine va_get (C := RX3) (T := TX3) (N := 3) hx hb hts (by decide +kernel) hown hK hP 0 rfl rfl 0 (by decide) (hts (.fieldLink RX3 16 RX3 "grid" "LDropFour$Grid;") (by decide +kernel)) (fun _ h9 => h9) rfl dX3_score_47 ?_
      refine lv_lload_n hx hb dX3_score_50 rfl (lv_at hl 4 rfl) ?_
      refine lv_lload hx hb dX3_score_51 (lv_at hl 1 rfl) ?_
      refine ro_call (W.runV (As := [.long tt, .long (mm ||| tt)]) (rest := [.long (nxL w h (mm ||| tt))]) ⟨hx, hb, hml, hown, hts⟩ (c_threatSquares l D cI cJ cZ w h g st cs tt (mm ||| tt)) (cwV 2 hts gX3_score_X1_threatSquares rfl rfl rfl (by decide +kernel) ⟨Nat.le_of_ble_eq_true rfl, Nat.le_of_ble_eq_true rfl⟩) ⟨RPc.blind, va_recv hK hP (ci := 1) (q0 := 2) rfl rfl, (RPc.at (hP.sub [2, 3, 4] rfl) hK hN)⟩ rfl rfl hl.1 rfl (lv_room (Nat.le_of_ble_eq_true rfl)) dX3_score_53 ⟨Nat.zero_le _, Nat.zero_le _⟩) ?_
      refine ro_call (W.runS (As := [.long (nxL w h (mm ||| tt)), .long (thL w h tt (mm ||| tt))]) (rest := []) ⟨hx, hb, hml, hown, hts⟩ (c_safeMoves l D cI cJ cZ (nxL w h (mm ||| tt)) (thL w h tt (mm ||| tt))) (va_cwS 2 hts gX3_score_X3_safeMoves rfl rfl rfl (by decide +kernel) ⟨Nat.le_of_ble_eq_true rfl, Nat.le_of_ble_eq_true rfl⟩) ⟨RPc.blind, (RPc.at (hP.sub [] rfl) hK hN)⟩ rfl rfl hl.1 rfl (lv_room (Nat.le_of_ble_eq_true rfl)) dX3_score_56 ⟨Nat.zero_le _, Nat.zero_le _⟩) ?_
      refine rt_l (v := mvL w h mm tt) rfl ?_
      refine lv_lstore (lv' := [(12, .long (mvL w h mm tt)), (10, .long (nxL w h (mm ||| tt))), (8, .long (mm ||| tt)), (0, .ref se), (1, .long mm), (3, .long tt), (5, .int (nI (k1 + 1))), (6, .int (zI low)), (7, .int (zI high))]) hx hb dX3_score_59 hl (by decide) rfl (fun ls hl => ?_)
      refine lv_lload hx hb dX3_score_61 (lv_at hl 0 rfl) ?_
      refine lv_lconst (v := 0) hx hb dX3_score_63 (by decide) ?_
      refine W.lcmp hx hb dX3_score_64 ?_
      refine l_if_ne (tgt := 73) hx hb dX3_score_65 (by decide) (fun c65_3 => ?_) (fun c65_3 => ?_)
      · skip
        obtain ⟨c0, hc0, hr0, hs0⟩ := (hpos.mv0 hd).2 c65_3
        refine lv_iload hx hb dX3_score_73 (lv_at hl 6 rfl) ?_
        refine lv_iconst (v := nI 2) hx hb dX3_score_75 (by decide) ?_
        refine n_icmp_gt (tgt := 81) hx hb dX3_score_76 (by decide) (by omega) (by omega) (fun c76_4 => ?_) (fun c76_4 => ?_)
        · skip
          refine lv_aload_n hx hb dX3_score_81 rfl (lv_at hl 3 rfl) ?_
          refine lv_lload_n hx hb dX3_score_82 rfl (lv_at hl 4 rfl) ?_
          refine lv_lload_n hx hb dX3_score_83 rfl (lv_at hl 5 rfl) ?_
          refine lv_lload hx hb dX3_score_84 (lv_at hl 0 rfl) ?_
          refine lv_iload hx hb dX3_score_86 (lv_at hl 6 rfl) ?_
          refine lv_iload hx hb dX3_score_88 (lv_at hl 7 rfl) ?_
          refine lv_iload hx hb dX3_score_90 (lv_at hl 8 rfl) ?_
          refine mu_calli (wr := []) (va_runV (As := [.long mm, .long tt, .long (mvL w h mm tt), .int (nI (k1 + 1)), .int (zI low), .int (zI high)]) (rest := []) ⟨hx, hb, hml, hown, hts⟩ (hRm u k1 tp M T mm tt low high s.heap.size (by omega) (by omega) hpos hnw c65_3 hlh hlo hhi hmem) (cwV 6 hts gX3_score_X3_remembered rfl rfl rfl (by decide +kernel) ⟨by simp only [k2_rm]; omega, by simp only [k2_rm]; omega⟩) ⟨MPc.blind, va_recv hK hP (ci := 3) (q0 := 0) rfl rfl, (MPc.at (hP.sub [0, 1, 2, 3, 4, 5, 6, 7, 8] rfl) (hD.sub [0, 1, 2, 3, 4, 5, 6, 7, 8] (by decide) rfl) hK hN)⟩ rfl rfl hl.1 rfl (lv_room (Nat.le_of_ble_eq_true rfl)) dX3_score_92 ⟨Nat.zero_le _, Nat.zero_le _⟩) hP hD hS hA [0, 1, 2, 3, 4, 5, 6, 7, 8] [] rfl rfl (by decide) (by decide) (fun rr v1 H locs hw hP hD hS => ?_)
          obtain ⟨hm1, z, rfl, hz, hz1, hz2⟩ := hw
          exact mu_iret (S := Mem) hx hb hr hlocks v1 ⟨hm1, z, rfl, hz, hz1, hz2⟩ hP hD hS dX3_score_95
        have hSf := Sc_few hpos.2.2 hnw hc0 hr0 hs0 (by omega)
        refine lv_iconst (v := nI 0) hx hb dX3_score_79 (by decide) ?_
        exact mu_iret (S := Mem) hx hb hr hlocks u ⟨hmem, 0, rfl, by unfold scPost; omega, by omega, by omega⟩ hP hD hS dX3_score_80
      have hSl := Sc_lost hpos.2.2 hnw ((hpos.mv0 hd).1 c65_3)
      refine lv_iconst (v := nI 1) hx hb dX3_score_68 (by decide) ?_
      refine lv_iload hx hb dX3_score_69 (lv_at hl 6 rfl) ?_
      refine rt_2 (a := zI 1) (b := zI ((k1 + 1 : Nat) : Int)) rfl (zI_n _).symm ?_
      refine z_isub hx hb dX3_score_71 ?_
      exact mu_iret (S := Mem) hx hb hr hlocks u ⟨hmem, (1 - ((k1 + 1 : Nat) : Int)), rfl, by unfold scPost; omega, by omega, by omega⟩ hP hD hS dX3_score_72
    obtain ⟨c0, hw0⟩ := (hpos.win hd).mp c38_2
    have hSw := Sc_win (k := k1) (T := T) hw0
    refine lv_iload hx hb dX3_score_41 (lv_at hl 5 rfl) ?_
    exact mu_iret (S := Mem) hx hb hr hlocks u ⟨hmem, ((k1 + 1 : Nat) : Int), (zI_n _).symm, by unfold scPost; omega, by omega, by omega⟩ hP hD hS dX3_score_43
  subst c2_1
  refine lv_iconst (v := nI 0) hx hb dX3_score_5 (by decide) ?_
  exact mu_iret (S := Mem) hx hb hr hlocks u ⟨hmem, 0, rfl, Or.inl rfl, by omega, by omega⟩ hP hD hS dX3_score_6

set_option maxHeartbeats 4000000 in
set_option maxRecDepth 100000 in
theorem c_score_0 (l : Launch) (D : va_G) (cI cJ cZ : ClassId) (w h se mi g st cs me ks le mo : Nat) (hd : Dm w h) : ScoreMet l D cI cJ cZ w h se mi g st cs me ks le mo 0 := by
  intro u k tp M T mm tt low high sz hkd hpos hlh hlo hhi hmem
  refine mu_head (Qc := fun A => mQi D (fun r (v : Mem) => MemOK w h v ∧ ∃ z : Int, r = zI z ∧ scPost (Sc w h k tp M T) low high z ∧ -200 ≤ z ∧ z ≤ 200) (fun v => seU cI cJ w h se mi g st cs me ks le mo v) A) (cc := cX3_score) (maxL := 14) (ret := (some .int)) (by decide) rfl (Nat.le_of_ble_eq_true rfl) ?_
  intro p e s m below meth cd ls A hx hb hr hlocks hnm hts hown hml hA hP hK hD hN hS hl
  have hl : lv_has ls 14 [(0, .ref se), (1, .long mm), (3, .long tt), (5, .int (nI k)), (6, .int (zI low)), (7, .int (zI high))] := hl
  refine lv_iload hx hb dX3_score_0 (lv_at hl 3 rfl) ?_
  refine n_if_gt (tgt := 7) hx hb dX3_score_2 (by decide) (by omega) (fun c2_1 => ?_) (fun c2_1 => ?_)
  · skip
    omega
  subst c2_1
  refine lv_iconst (v := nI 0) hx hb dX3_score_5 (by decide) ?_
  exact mu_iret (S := Mem) hx hb hr hlocks u ⟨hmem, 0, rfl, Or.inl rfl, by omega, by omega⟩ hP hD hS dX3_score_6

theorem c_score (l : Launch) (D : va_G) (cI cJ cZ : ClassId) (w h se mi g st cs me ks le mo : Nat) (hd : Dm w h) : ∀ d, ScoreMet l D cI cJ cZ w h se mi g st cs me ks le mo d
  | 0 => c_score_0 l D cI cJ cZ w h se mi g st cs me ks le mo hd
  | d + 1 => c_score_s l D cI cJ cZ w h se mi g st cs me ks le mo d hd (c_remembered l D cI cJ cZ w h se mi g st cs me ks le mo d hd (c_tried l D cI cJ cZ w h se mi g st cs me ks le mo d hd (c_score l D cI cJ cZ w h se mi g st cs me ks le mo hd d)))
end
section
-- ===== Following: what its methods answer =====
def anyB (f : Nat → Bool) : Nat → Bool
  | 0 => false
  | n + 1 => anyB f n || f n
theorem anyB_t {f : Nat → Bool} {i : Nat} (h : f i = true) : ∀ {n : Nat}, i < n → anyB f n = true
  | 0, q => absurd q (Nat.not_lt_zero _)
  | n + 1, q => by
    unfold anyB
    by_cases e : i = n
    · subst e; rw [h]; simp
    · rw [anyB_t h (n := n) (by omega)]; rfl
theorem anyB_s {f : Nat → Bool} {n : Nat} (h1 : anyB f n = false) (h2 : f n = false) : anyB f (n + 1) = false := by unfold anyB; rw [h1, h2]; rfl
theorem anyB_iff {f : Nat → Bool} : ∀ {n : Nat}, anyB f n = true ↔ ∃ i, i < n ∧ f i = true
  | 0 => ⟨fun h => (by cases h), fun ⟨i, h, _⟩ => absurd h (Nat.not_lt_zero _)⟩
  | n + 1 => by
    constructor
    · intro h
      unfold anyB at h
      rcases Bool.or_eq_true _ _ |>.mp h with q | q
      · obtain ⟨i, h1, h2⟩ := (anyB_iff (n := n)).mp q
        exact ⟨i, by omega, h2⟩
      · exact ⟨n, by omega, q⟩
    · rintro ⟨i, h1, h2⟩
      exact anyB_t h2 h1
def rcL (h : Nat) (fl wa la : Int64) : Nat → Int64
  | 0 => 0
  | n + 1 => if wa &&& colL h n = 0 then rcL h fl wa la n else rcL h fl wa la n ||| (shlL (if wa &&& colL h n = la then wa &&& colL h n else shlL (wa &&& colL h n) 1) 1 - (colL h n &&& fl))
def cmF (w h : Nat) (wa fo fe : Int64) : Nat → Bool := fun n => !(wa &&& colL h n == 0) && !hlL h (fo ||| (fe &&& rcL h (flrL h w) wa (wa &&& colL h n) w))
def cmB (w h : Nat) (wa fo fe : Int64) : Bool := anyB (cmF w h wa fo fe) w
def leE (w h : Nat) (a b : Int64) : Nat → Int64 × Int64
  | 0 => (a, b)
  | n + 1 => ((leE w h a b n).1 ||| nxL w h ((leE w h a b n).1 ||| (leE w h a b n).2), (leE w h a b n).2 ||| nxL w h (((leE w h a b n).1 ||| nxL w h ((leE w h a b n).1 ||| (leE w h a b n).2)) ||| (leE w h a b n).2))
def waL (le starts : Int64) (d bit : Nat) : Int64 := (((starts &&& shlL 1 bit) ||| shlL (starts &&& shlL 1 bit) d) ||| shlL ((starts &&& shlL 1 bit) ||| shlL (starts &&& shlL 1 bit) d) (2 * d)) &&& (le ^^^ (-1))
def lbF (w h : Nat) (le fo fe starts : Int64) (d : Nat) : Nat → Bool := fun n => !(waL le starts d n == 0) && cmB w h (waL le starts d n) fo fe
def lsF (w h : Nat) (le fo : Int64) (p : Int64 × Int64) : Nat → Bool := fun j => anyB (lbF w h le fo p.2 (lsL p.1 (stp h j)) (stp h j)) 64
def lwB (w h : Nat) (le fo : Int64) : Bool := anyB (lsF w h le fo (leE w h le fo ((h + 1) / 2))) 4
/-- the cells of a Following, with its Grid -/
abbrev foW (cI cJ : ClassId) (w h fa g st cs : Nat) : va_W := (fa, .inr (0, [.ref g])) :: gW cI cJ w h g st cs
set_option maxHeartbeats 4000000 in
set_option maxRecDepth 100000 in
theorem c_reached (l : Launch) (D : va_G) (cI cJ cZ : ClassId) (w h fa g st cs : Nat) (wa la : Int64) (hd : Dm w h) : Met l yX0_reached wsX0_reached (k2_rm 0 0) (RPc D [.ref fa, .long wa, .long la] (foW cI cJ w h fa g st cs) (tyA cI cJ cZ)) (k2_QcV (.long (rcL h (flrL h w) wa la w))) 0 0 (fun _ => False) := by
  refine ro_head (cc := cX0_reached) (maxL := 16) (ret := (some .long)) (by decide) rfl (Nat.le_of_ble_eq_true rfl) ?_
  intro p e s m below meth cd ls hx hb hr hlocks hts hown hml hP hK hN hl
  have hl : lv_has ls 16 [(0, .ref fa), (1, .long wa), (3, .long la)] := hl
  have hd0 := hd
  obtain ⟨h3w, hw9, h3h, hh7, hwh, h64⟩ := hd0
  refine lv_lconst (v := 0) hx hb dX0_reached_0 (by decide) ?_
  refine lv_lstore (lv' := [(5, .long 0), (0, .ref fa), (1, .long wa), (3, .long la)]) hx hb dX0_reached_1 hl (by decide) rfl (fun ls hl => ?_)
  refine lv_aload_n hx hb dX0_reached_3 rfl (lv_at hl 1 rfl) ?_
  refine va_get (C := RX0) (T := TX0) (N := 1) hx hb hts (by decide +kernel) hown hK hP 0 rfl rfl 0 (by decide) (hts (.fieldLink RX0 7 RX0 "grid" "LDropFour$Grid;") (by decide +kernel)) (fun _ h9 => h9) rfl dX0_reached_4 ?_
  refine va_getN (C := RX1) (T := TX1) (N := 6) hx hb hts (by decide +kernel) hown hK hP 1 rfl rfl 5 (by decide) (hN.use 2 rfl rfl) (fun _ h9 => h9) rfl dX0_reached_7 ?_
  refine lv_astore (lv' := [(7, .ref cs), (5, .long 0), (0, .ref fa), (1, .long wa), (3, .long la)]) hx hb dX0_reached_10 hl (by decide) rfl (fun ls hl => ?_)
  refine lv_aload hx hb dX0_reached_12 (lv_at hl 0 rfl) ?_
  refine va_alen hx hb hK hP 3 1 rfl rfl (v := nI w) rfl dX0_reached_14 ?_
  refine lv_istore (lv' := [(8, .int (nI w)), (7, .ref cs), (5, .long 0), (0, .ref fa), (1, .long wa), (3, .long la)]) hx hb dX0_reached_15 hl (by decide) rfl (fun ls hl => ?_)
  refine lv_iconst (v := nI 0) hx hb dX0_reached_17 (by decide) ?_
  refine lv_istore (lv' := [(9, .int (nI 0)), (8, .int (nI w)), (7, .ref cs), (5, .long 0), (0, .ref fa), (1, .long wa), (3, .long la)]) hx hb dX0_reached_18 hl (by decide) rfl (fun ls hl => ?_)
  refine loopW (σ := Int64) (m := m) 20 16 (fun i qx => [(8, .int (nI w)), (7, .ref cs), (0, .ref fa), (1, .long wa), (3, .long la), (9, .int (nI i)), (5, .long qx)]) (fun i qx => qx = rcL h (flrL h w) wa la i) w ?_ ?_ 0 0 ls (by omega) rfl (lv_sub hl [1, 2, 4, 5, 6, 0, 3] rfl)
  · intro i qx ls hi_20 hI_20 hl ih_20
    obtain ⟨fl, rfl⟩ : ∃ z, z = qx := ⟨_, rfl⟩
    have hl : lv_has ls 16 [(8, .int (nI w)), (7, .ref cs), (0, .ref fa), (1, .long wa), (3, .long la), (9, .int (nI i)), (5, .long fl)] := hl
    have hI_20 : fl = rcL h (flrL h w) wa la i := hI_20
    refine lv_iload hx hb dX0_reached_20 (lv_at hl 5 rfl) ?_
    refine lv_iload hx hb dX0_reached_22 (lv_at hl 0 rfl) ?_
    refine n_icmp_ge (tgt := 91) hx hb dX0_reached_24 (by decide) (by omega) (by omega) (fun c24_1 => ?_) (fun c24_1 => ?_)
    · exact absurd c24_1 (by omega)
    refine lv_aload hx hb dX0_reached_27 (lv_at hl 1 rfl) ?_
    refine lv_iload hx hb dX0_reached_29 (lv_at hl 5 rfl) ?_
    refine n_lald hx hb hK hP 3 1 rfl rfl (by omega) (by omega) dX0_reached_31 ?_
    refine lv_lstore (lv' := [(10, .long (colL h i)), (8, .int (nI w)), (7, .ref cs), (0, .ref fa), (1, .long wa), (3, .long la), (9, .int (nI i)), (5, .long fl)]) hx hb dX0_reached_32 hl (by decide) rfl (fun ls hl => ?_)
    refine lv_lload_n hx hb dX0_reached_34 rfl (lv_at hl 4 rfl) ?_
    refine lv_lload hx hb dX0_reached_35 (lv_at hl 0 rfl) ?_
    refine lv_land hx hb dX0_reached_37 ?_
    refine lv_lstore (lv' := [(12, .long (wa &&& (colL h i))), (10, .long (colL h i)), (8, .int (nI w)), (7, .ref cs), (0, .ref fa), (1, .long wa), (3, .long la), (9, .int (nI i)), (5, .long fl)]) hx hb dX0_reached_38 hl (by decide) rfl (fun ls hl => ?_)
    refine lv_lload hx hb dX0_reached_40 (lv_at hl 0 rfl) ?_
    refine lv_lconst (v := 0) hx hb dX0_reached_42 (by decide) ?_
    refine W.lcmp hx hb dX0_reached_43 ?_
    refine l_if_eq (tgt := 85) hx hb dX0_reached_44 (by decide) (fun c44_2 => ?_) (fun c44_2 => ?_)
    · skip
      refine n_iinc (n := 1) (lv' := [(9, .int (nI (i + 1))), (12, .long (wa &&& (colL h i))), (10, .long (colL h i)), (8, .int (nI w)), (7, .ref cs), (0, .ref fa), (1, .long wa), (3, .long la), (5, .long fl)]) hx hb dX0_reached_85 hl (k := 7) rfl (by decide) rfl (fun ls hl => ?_)
      refine lv_goto (tgt := 20) hx hb dX0_reached_88 (by decide) ?_
      exact ih_20 fl ls (by rw [rcL, if_pos c44_2]; exact hI_20) (lv_sub hl [3, 4, 5, 6, 7, 0, 8] rfl)
    refine lv_lload hx hb dX0_reached_47 (lv_at hl 0 rfl) ?_
    refine lv_lload_n hx hb dX0_reached_49 rfl (lv_at hl 6 rfl) ?_
    refine W.lcmp hx hb dX0_reached_50 ?_
    refine l_if_ne (tgt := 59) hx hb dX0_reached_51 (by decide) (fun c51_3 => ?_) (fun c51_3 => ?_)
    · skip
      refine lv_lload hx hb dX0_reached_59 (lv_at hl 0 rfl) ?_
      refine lv_iconst (v := nI 1) hx hb dX0_reached_61 (by decide) ?_
      refine n_lshl hx hb dX0_reached_62 ?_
      refine lv_lstore (lv' := [(14, .long (shlL (wa &&& (colL h i)) 1)), (12, .long (wa &&& (colL h i))), (10, .long (colL h i)), (8, .int (nI w)), (7, .ref cs), (0, .ref fa), (1, .long wa), (3, .long la), (9, .int (nI i)), (5, .long fl)]) hx hb dX0_reached_63 hl (by decide) rfl (fun ls hl => ?_)
      refine lv_lload hx hb dX0_reached_65 (lv_at hl 9 rfl) ?_
      refine lv_lload hx hb dX0_reached_67 (lv_at hl 0 rfl) ?_
      refine lv_iconst (v := nI 1) hx hb dX0_reached_69 (by decide) ?_
      refine n_lshl hx hb dX0_reached_70 ?_
      refine lv_lload hx hb dX0_reached_71 (lv_at hl 2 rfl) ?_
      refine lv_aload_n hx hb dX0_reached_73 rfl (lv_at hl 5 rfl) ?_
      refine va_get (C := RX0) (T := TX0) (N := 1) hx hb hts (by decide +kernel) hown hK hP 0 rfl rfl 0 (by decide) (hts (.fieldLink RX0 7 RX0 "grid" "LDropFour$Grid;") (by decide +kernel)) (fun _ h9 => h9) rfl dX0_reached_74 ?_
      refine va_getN (C := RX1) (T := TX1) (N := 6) hx hb hts (by decide +kernel) hown hK hP 1 rfl rfl 3 (by decide) (hN.use 3 rfl rfl) (fun _ h9 => h9) rfl dX0_reached_77 ?_
      refine lv_land hx hb dX0_reached_80 ?_
      refine lv_lsub hx hb dX0_reached_81 ?_
      refine lv_lor hx hb dX0_reached_82 ?_
      refine lv_lstore (lv' := [(5, .long (fl ||| ((shlL (shlL (wa &&& (colL h i)) 1) 1) - ((colL h i) &&& (flrL h w))))), (14, .long (shlL (wa &&& (colL h i)) 1)), (12, .long (wa &&& (colL h i))), (10, .long (colL h i)), (8, .int (nI w)), (7, .ref cs), (0, .ref fa), (1, .long wa), (3, .long la), (9, .int (nI i))]) hx hb dX0_reached_83 hl (by decide) rfl (fun ls hl => ?_)
      refine n_iinc (n := 1) (lv' := [(9, .int (nI (i + 1))), (5, .long (fl ||| ((shlL (shlL (wa &&& (colL h i)) 1) 1) - ((colL h i) &&& (flrL h w))))), (14, .long (shlL (wa &&& (colL h i)) 1)), (12, .long (wa &&& (colL h i))), (10, .long (colL h i)), (8, .int (nI w)), (7, .ref cs), (0, .ref fa), (1, .long wa), (3, .long la)]) hx hb dX0_reached_85 hl (k := 9) rfl (by decide) rfl (fun ls hl => ?_)
      refine lv_goto (tgt := 20) hx hb dX0_reached_88 (by decide) ?_
      exact ih_20 (fl ||| ((shlL (shlL (wa &&& (colL h i)) 1) 1) - ((colL h i) &&& (flrL h w)))) ls (by rw [rcL, if_neg c44_2, if_neg c51_3, hI_20]) (lv_sub hl [5, 6, 7, 8, 9, 0, 1] rfl)
    refine lv_lload hx hb dX0_reached_54 (lv_at hl 0 rfl) ?_
    refine lv_goto (tgt := 63) hx hb dX0_reached_56 (by decide) ?_
    refine lv_lstore (lv' := [(14, .long (wa &&& (colL h i))), (12, .long (wa &&& (colL h i))), (10, .long (colL h i)), (8, .int (nI w)), (7, .ref cs), (0, .ref fa), (1, .long wa), (3, .long la), (9, .int (nI i)), (5, .long fl)]) hx hb dX0_reached_63 hl (by decide) rfl (fun ls hl => ?_)
    refine lv_lload hx hb dX0_reached_65 (lv_at hl 9 rfl) ?_
    refine lv_lload hx hb dX0_reached_67 (lv_at hl 0 rfl) ?_
    refine lv_iconst (v := nI 1) hx hb dX0_reached_69 (by decide) ?_
    refine n_lshl hx hb dX0_reached_70 ?_
    refine lv_lload hx hb dX0_reached_71 (lv_at hl 2 rfl) ?_
    refine lv_aload_n hx hb dX0_reached_73 rfl (lv_at hl 5 rfl) ?_
    refine va_get (C := RX0) (T := TX0) (N := 1) hx hb hts (by decide +kernel) hown hK hP 0 rfl rfl 0 (by decide) (hts (.fieldLink RX0 7 RX0 "grid" "LDropFour$Grid;") (by decide +kernel)) (fun _ h9 => h9) rfl dX0_reached_74 ?_
    refine va_getN (C := RX1) (T := TX1) (N := 6) hx hb hts (by decide +kernel) hown hK hP 1 rfl rfl 3 (by decide) (hN.use 3 rfl rfl) (fun _ h9 => h9) rfl dX0_reached_77 ?_
    refine lv_land hx hb dX0_reached_80 ?_
    refine lv_lsub hx hb dX0_reached_81 ?_
    refine lv_lor hx hb dX0_reached_82 ?_
    refine lv_lstore (lv' := [(5, .long (fl ||| ((shlL (wa &&& (colL h i)) 1) - ((colL h i) &&& (flrL h w))))), (14, .long (wa &&& (colL h i))), (12, .long (wa &&& (colL h i))), (10, .long (colL h i)), (8, .int (nI w)), (7, .ref cs), (0, .ref fa), (1, .long wa), (3, .long la), (9, .int (nI i))]) hx hb dX0_reached_83 hl (by decide) rfl (fun ls hl => ?_)
    refine n_iinc (n := 1) (lv' := [(9, .int (nI (i + 1))), (5, .long (fl ||| ((shlL (wa &&& (colL h i)) 1) - ((colL h i) &&& (flrL h w))))), (14, .long (wa &&& (colL h i))), (12, .long (wa &&& (colL h i))), (10, .long (colL h i)), (8, .int (nI w)), (7, .ref cs), (0, .ref fa), (1, .long wa), (3, .long la)]) hx hb dX0_reached_85 hl (k := 9) rfl (by decide) rfl (fun ls hl => ?_)
    refine lv_goto (tgt := 20) hx hb dX0_reached_88 (by decide) ?_
    exact ih_20 (fl ||| ((shlL (wa &&& (colL h i)) 1) - ((colL h i) &&& (flrL h w)))) ls (by rw [rcL, if_neg c44_2, if_pos c51_3, hI_20]) (lv_sub hl [5, 6, 7, 8, 9, 0, 1] rfl)
  · intro qx ls hI_20 hl
    obtain ⟨fl, rfl⟩ : ∃ z, z = qx := ⟨_, rfl⟩
    have hl : lv_has ls 16 [(8, .int (nI w)), (7, .ref cs), (0, .ref fa), (1, .long wa), (3, .long la), (9, .int (nI w)), (5, .long fl)] := hl
    have hI_20 : fl = rcL h (flrL h w) wa la w := hI_20
    refine lv_iload hx hb dX0_reached_20 (lv_at hl 5 rfl) ?_
    refine lv_iload hx hb dX0_reached_22 (lv_at hl 0 rfl) ?_
    refine n_icmp_ge (tgt := 91) hx hb dX0_reached_24 (by decide) (by omega) (by omega) (fun c24_4 => ?_) (fun c24_4 => ?_)
    · skip
      refine lv_lload hx hb dX0_reached_91 (lv_at hl 6 rfl) ?_
      exact ro_lret hx hb hr hlocks hI_20 dX0_reached_93
    · exact absurd c24_4 (by omega)

set_option maxHeartbeats 4000000 in
set_option maxRecDepth 100000 in
theorem c_comesFirst (l : Launch) (D : va_G) (cI cJ cZ : ClassId) (w h fa g st cs : Nat) (wa fo fe : Int64) (hd : Dm w h) : Met l yX0_comesFirst wsX0_comesFirst (k2_rm 2 51) (RPc D [.ref fa, .long wa, .long fo, .long fe] (foW cI cJ w h fa g st cs) (tyA cI cJ cZ)) (k2_QcV (.int (bI (cmB w h wa fo fe)))) 0 0 (fun _ => False) := by
  refine ro_head (cc := cX0_comesFirst) (maxL := 16) (ret := (some .boolean)) (by decide) rfl (Nat.le_of_ble_eq_true rfl) ?_
  intro p e s m below meth cd ls hx hb hr hlocks hts hown hml hP hK hN hl
  have hl : lv_has ls 16 [(0, .ref fa), (1, .long wa), (3, .long fo), (5, .long fe)] := hl
  have hd0 := hd
  obtain ⟨h3w, hw9, h3h, hh7, hwh, h64⟩ := hd0
  refine lv_aload_n hx hb dX0_comesFirst_0 rfl (lv_at hl 0 rfl) ?_
  refine va_get (C := RX0) (T := TX0) (N := 1) hx hb hts (by decide +kernel) hown hK hP 0 rfl rfl 0 (by decide) (hts (.fieldLink RX0 7 RX0 "grid" "LDropFour$Grid;") (by decide +kernel)) (fun _ h9 => h9) rfl dX0_comesFirst_1 ?_
  refine va_getN (C := RX1) (T := TX1) (N := 6) hx hb hts (by decide +kernel) hown hK hP 1 rfl rfl 5 (by decide) (hN.use 2 rfl rfl) (fun _ h9 => h9) rfl dX0_comesFirst_4 ?_
  refine lv_astore (lv' := [(7, .ref cs), (0, .ref fa), (1, .long wa), (3, .long fo), (5, .long fe)]) hx hb dX0_comesFirst_7 hl (by decide) rfl (fun ls hl => ?_)
  refine lv_aload hx hb dX0_comesFirst_9 (lv_at hl 0 rfl) ?_
  refine va_alen hx hb hK hP 3 1 rfl rfl (v := nI w) rfl dX0_comesFirst_11 ?_
  refine lv_istore (lv' := [(8, .int (nI w)), (7, .ref cs), (0, .ref fa), (1, .long wa), (3, .long fo), (5, .long fe)]) hx hb dX0_comesFirst_12 hl (by decide) rfl (fun ls hl => ?_)
  refine lv_iconst (v := nI 0) hx hb dX0_comesFirst_14 (by decide) ?_
  refine lv_istore (lv' := [(9, .int (nI 0)), (8, .int (nI w)), (7, .ref cs), (0, .ref fa), (1, .long wa), (3, .long fo), (5, .long fe)]) hx hb dX0_comesFirst_15 hl (by decide) rfl (fun ls hl => ?_)
  refine loopW (σ := Unit) (m := m) 17 16 (fun i qx => [(8, .int (nI w)), (7, .ref cs), (0, .ref fa), (1, .long wa), (3, .long fo), (5, .long fe), (9, .int (nI i))]) (fun i qx => anyB (cmF w h wa fo fe) i = false) w ?_ ?_ 0 () ls (by omega) rfl (lv_sub hl [1, 2, 3, 4, 5, 6, 0] rfl)
  · intro i qx ls hi_17 hI_17 hl ih_17
    have hl : lv_has ls 16 [(8, .int (nI w)), (7, .ref cs), (0, .ref fa), (1, .long wa), (3, .long fo), (5, .long fe), (9, .int (nI i))] := hl
    have hI_17 : anyB (cmF w h wa fo fe) i = false := hI_17
    refine lv_iload hx hb dX0_comesFirst_17 (lv_at hl 6 rfl) ?_
    refine lv_iload hx hb dX0_comesFirst_19 (lv_at hl 0 rfl) ?_
    refine n_icmp_ge (tgt := 78) hx hb dX0_comesFirst_21 (by decide) (by omega) (by omega) (fun c21_1 => ?_) (fun c21_1 => ?_)
    · exact absurd c21_1 (by omega)
    refine lv_aload hx hb dX0_comesFirst_24 (lv_at hl 1 rfl) ?_
    refine lv_iload hx hb dX0_comesFirst_26 (lv_at hl 6 rfl) ?_
    refine n_lald hx hb hK hP 3 1 rfl rfl (by omega) (by omega) dX0_comesFirst_28 ?_
    refine lv_lstore (lv' := [(10, .long (colL h i)), (8, .int (nI w)), (7, .ref cs), (0, .ref fa), (1, .long wa), (3, .long fo), (5, .long fe), (9, .int (nI i))]) hx hb dX0_comesFirst_29 hl (by decide) rfl (fun ls hl => ?_)
    refine lv_lload_n hx hb dX0_comesFirst_31 rfl (lv_at hl 4 rfl) ?_
    refine lv_lload hx hb dX0_comesFirst_32 (lv_at hl 0 rfl) ?_
    refine lv_land hx hb dX0_comesFirst_34 ?_
    refine lv_lstore (lv' := [(12, .long (wa &&& (colL h i))), (10, .long (colL h i)), (8, .int (nI w)), (7, .ref cs), (0, .ref fa), (1, .long wa), (3, .long fo), (5, .long fe), (9, .int (nI i))]) hx hb dX0_comesFirst_35 hl (by decide) rfl (fun ls hl => ?_)
    refine lv_lload hx hb dX0_comesFirst_37 (lv_at hl 0 rfl) ?_
    refine lv_lconst (v := 0) hx hb dX0_comesFirst_39 (by decide) ?_
    refine W.lcmp hx hb dX0_comesFirst_40 ?_
    refine l_if_eq (tgt := 72) hx hb dX0_comesFirst_41 (by decide) (fun c41_2 => ?_) (fun c41_2 => ?_)
    · skip
      refine n_iinc (n := 1) (lv' := [(9, .int (nI (i + 1))), (12, .long (wa &&& (colL h i))), (10, .long (colL h i)), (8, .int (nI w)), (7, .ref cs), (0, .ref fa), (1, .long wa), (3, .long fo), (5, .long fe)]) hx hb dX0_comesFirst_72 hl (k := 8) rfl (by decide) rfl (fun ls hl => ?_)
      refine lv_goto (tgt := 17) hx hb dX0_comesFirst_75 (by decide) ?_
      exact ih_17 () ls (anyB_s hI_17 (by unfold cmF; simp [c41_2])) (lv_sub hl [3, 4, 5, 6, 7, 8, 0] rfl)
    refine lv_lload hx hb dX0_comesFirst_44 (lv_at hl 7 rfl) ?_
    refine lv_aload_n hx hb dX0_comesFirst_46 rfl (lv_at hl 4 rfl) ?_
    refine lv_lload_n hx hb dX0_comesFirst_47 rfl (lv_at hl 5 rfl) ?_
    refine lv_lload hx hb dX0_comesFirst_48 (lv_at hl 0 rfl) ?_
    refine ro_call (W.runV (As := [.long wa, .long (wa &&& (colL h i))]) (rest := [.long fe]) ⟨hx, hb, hml, hown, hts⟩ (c_reached l D cI cJ cZ w h fa g st cs wa (wa &&& (colL h i)) hd) (cwV 2 hts gX0_comesFirst_X0_reached rfl rfl rfl (by decide +kernel) ⟨Nat.le_of_ble_eq_true rfl, Nat.le_of_ble_eq_true rfl⟩) ⟨RPc.blind, va_recv hK hP (ci := 0) (q0 := 0) rfl rfl, (RPc.at (hP.sub [0, 1, 2, 3] rfl) hK hN)⟩ rfl rfl hl.1 rfl (lv_room (Nat.le_of_ble_eq_true rfl)) dX0_comesFirst_50 ⟨Nat.zero_le _, Nat.zero_le _⟩) ?_
    refine lv_land hx hb dX0_comesFirst_53 ?_
    refine lv_lstore (lv' := [(14, .long (fe &&& (rcL h (flrL h w) wa (wa &&& (colL h i)) w))), (12, .long (wa &&& (colL h i))), (10, .long (colL h i)), (8, .int (nI w)), (7, .ref cs), (0, .ref fa), (1, .long wa), (3, .long fo), (5, .long fe), (9, .int (nI i))]) hx hb dX0_comesFirst_54 hl (by decide) rfl (fun ls hl => ?_)
    refine lv_aload_n hx hb dX0_comesFirst_56 rfl (lv_at hl 5 rfl) ?_
    refine va_get (C := RX0) (T := TX0) (N := 1) hx hb hts (by decide +kernel) hown hK hP 0 rfl rfl 0 (by decide) (hts (.fieldLink RX0 7 RX0 "grid" "LDropFour$Grid;") (by decide +kernel)) (fun _ h9 => h9) rfl dX0_comesFirst_57 ?_
    refine lv_lload_n hx hb dX0_comesFirst_60 rfl (lv_at hl 7 rfl) ?_
    refine lv_lload hx hb dX0_comesFirst_61 (lv_at hl 0 rfl) ?_
    refine lv_lor hx hb dX0_comesFirst_63 ?_
    refine ro_call (W.runV (As := [.long (fo ||| (fe &&& (rcL h (flrL h w) wa (wa &&& (colL h i)) w)))]) (rest := []) ⟨hx, hb, hml, hown, hts⟩ (c_hasLine l D cI cJ cZ w h g st cs (fo ||| (fe &&& (rcL h (flrL h w) wa (wa &&& (colL h i)) w)))) (cwV 1 hts gX0_comesFirst_X1_hasLine rfl rfl rfl (by decide +kernel) ⟨Nat.le_of_ble_eq_true rfl, Nat.le_of_ble_eq_true rfl⟩) ⟨RPc.blind, va_recv hK hP (ci := 1) (q0 := 1) rfl rfl, (RPc.at (hP.sub [1, 2, 3] rfl) hK hN)⟩ rfl rfl hl.1 rfl (lv_room (Nat.le_of_ble_eq_true rfl)) dX0_comesFirst_64 ⟨Nat.zero_le _, Nat.zero_le _⟩) ?_
    refine b_if_ne (tgt := 72) hx hb dX0_comesFirst_67 (by decide) (fun c67_3 => ?_) (fun c67_3 => ?_)
    · skip
      refine n_iinc (n := 1) (lv' := [(9, .int (nI (i + 1))), (14, .long (fe &&& (rcL h (flrL h w) wa (wa &&& (colL h i)) w))), (12, .long (wa &&& (colL h i))), (10, .long (colL h i)), (8, .int (nI w)), (7, .ref cs), (0, .ref fa), (1, .long wa), (3, .long fo), (5, .long fe)]) hx hb dX0_comesFirst_72 hl (k := 9) rfl (by decide) rfl (fun ls hl => ?_)
      refine lv_goto (tgt := 17) hx hb dX0_comesFirst_75 (by decide) ?_
      exact ih_17 () ls (anyB_s hI_17 (by unfold cmF; rw [c67_3]; simp)) (lv_sub hl [4, 5, 6, 7, 8, 9, 0] rfl)
    refine lv_iconst (v := nI 1) hx hb dX0_comesFirst_70 (by decide) ?_
    exact ro_zret hx hb hr hlocks (by first | rfl | exact bI_nar _) (by rw [show cmB w h wa fo fe = true from anyB_t (i := i) (by unfold cmF; rw [c67_3]; simp [c41_2]) hi_17]; rfl) dX0_comesFirst_71
  · intro qx ls hI_17 hl
    have hl : lv_has ls 16 [(8, .int (nI w)), (7, .ref cs), (0, .ref fa), (1, .long wa), (3, .long fo), (5, .long fe), (9, .int (nI w))] := hl
    have hI_17 : anyB (cmF w h wa fo fe) w = false := hI_17
    refine lv_iload hx hb dX0_comesFirst_17 (lv_at hl 6 rfl) ?_
    refine lv_iload hx hb dX0_comesFirst_19 (lv_at hl 0 rfl) ?_
    refine n_icmp_ge (tgt := 78) hx hb dX0_comesFirst_21 (by decide) (by omega) (by omega) (fun c21_4 => ?_) (fun c21_4 => ?_)
    · skip
      refine lv_iconst (v := nI 0) hx hb dX0_comesFirst_78 (by decide) ?_
      exact ro_zret hx hb hr hlocks (by first | rfl | exact bI_nar _) (by rw [show cmB w h wa fo fe = false from hI_17]; rfl) dX0_comesFirst_79
    · exact absurd c21_4 (by omega)

set_option maxHeartbeats 4000000 in
set_option maxRecDepth 100000 in
theorem c_leaderWins (l : Launch) (D : va_G) (cI cJ cZ : ClassId) (w h fa g st cs : Nat) (a0 b0 : Int64) (hd : Dm w h) : Met l yX0_leaderWins wsX0_leaderWins (k2_rm 3 86) (RPc D [.ref fa, .long a0, .long b0] (foW cI cJ w h fa g st cs) (tyA cI cJ cZ)) (k2_QcV (.int (bI (lwB w h a0 b0)))) 0 0 (fun _ => False) := by
  refine ro_head (cc := cX0_leaderWins) (maxL := 22) (ret := (some .boolean)) (by decide) rfl (Nat.le_of_ble_eq_true rfl) ?_
  intro p e s m below meth cd ls hx hb hr hlocks hts hown hml hP hK hN hl
  have hl : lv_has ls 22 [(0, .ref fa), (1, .long a0), (3, .long b0)] := hl
  have hd0 := hd
  obtain ⟨h3w, hw9, h3h, hh7, hwh, h64⟩ := hd0
  refine lv_lload_n hx hb dX0_leaderWins_0 rfl (lv_at hl 1 rfl) ?_
  refine lv_lstore (lv' := [(5, .long a0), (0, .ref fa), (1, .long a0), (3, .long b0)]) hx hb dX0_leaderWins_1 hl (by decide) rfl (fun ls hl => ?_)
  refine lv_lload_n hx hb dX0_leaderWins_3 rfl (lv_at hl 3 rfl) ?_
  refine lv_lstore (lv' := [(7, .long b0), (5, .long a0), (0, .ref fa), (1, .long a0), (3, .long b0)]) hx hb dX0_leaderWins_4 hl (by decide) rfl (fun ls hl => ?_)
  refine lv_iconst (v := nI 0) hx hb dX0_leaderWins_6 (by decide) ?_
  refine lv_istore (lv' := [(9, .int (nI 0)), (7, .long b0), (5, .long a0), (0, .ref fa), (1, .long a0), (3, .long b0)]) hx hb dX0_leaderWins_7 hl (by decide) rfl (fun ls hl => ?_)
  refine loopW (σ := Int64 × Int64) (m := m) 9 22 (fun i qx => [(0, .ref fa), (1, .long a0), (3, .long b0), (9, .int (nI i)), (5, .long qx.1), (7, .long qx.2)]) (fun i qx => (qx.1, qx.2) = leE w h a0 b0 i) ((h + 1) / 2) ?_ ?_ 0 (a0, b0) ls (by omega) rfl (lv_sub hl [3, 4, 5, 0, 2, 1] rfl)
  · intro i qx ls hi_9 hI_9 hl ih_9
    obtain ⟨a1, b1⟩ := qx
    have hl : lv_has ls 22 [(0, .ref fa), (1, .long a0), (3, .long b0), (9, .int (nI i)), (5, .long a1), (7, .long b1)] := hl
    have hI_9 : (a1, b1) = leE w h a0 b0 i := hI_9
    refine lv_iconst (v := nI 2) hx hb dX0_leaderWins_9 (by decide) ?_
    refine lv_iload hx hb dX0_leaderWins_10 (lv_at hl 3 rfl) ?_
    refine n_imul hx hb dX0_leaderWins_12 ?_
    refine lv_aload_n hx hb dX0_leaderWins_13 rfl (lv_at hl 0 rfl) ?_
    refine va_get (C := RX0) (T := TX0) (N := 1) hx hb hts (by decide +kernel) hown hK hP 0 rfl rfl 0 (by decide) (hts (.fieldLink RX0 7 RX0 "grid" "LDropFour$Grid;") (by decide +kernel)) (fun _ h9 => h9) rfl dX0_leaderWins_14 ?_
    refine va_getN (C := RX1) (T := TX1) (N := 6) hx hb hts (by decide +kernel) hown hK hP 1 rfl rfl 1 (by decide) (hN.use 0 rfl rfl) (fun _ h9 => h9) rfl dX0_leaderWins_17 ?_
    refine n_icmp_ge (tgt := 63) hx hb dX0_leaderWins_20 (by decide) (by omega) (by omega) (fun c20_1 => ?_) (fun c20_1 => ?_)
    · exact absurd c20_1 (by omega)
    refine lv_lload hx hb dX0_leaderWins_23 (lv_at hl 4 rfl) ?_
    refine lv_aload_n hx hb dX0_leaderWins_25 rfl (lv_at hl 0 rfl) ?_
    refine va_get (C := RX0) (T := TX0) (N := 1) hx hb hts (by decide +kernel) hown hK hP 0 rfl rfl 0 (by decide) (hts (.fieldLink RX0 7 RX0 "grid" "LDropFour$Grid;") (by decide +kernel)) (fun _ h9 => h9) rfl dX0_leaderWins_26 ?_
    refine lv_lload hx hb dX0_leaderWins_29 (lv_at hl 4 rfl) ?_
    refine lv_lload hx hb dX0_leaderWins_31 (lv_at hl 5 rfl) ?_
    refine lv_lor hx hb dX0_leaderWins_33 ?_
    refine ro_call (W.runV (As := [.long (a1 ||| b1)]) (rest := [.long a1]) ⟨hx, hb, hml, hown, hts⟩ (c_nextSquares l D cI cJ cZ w h g st cs (a1 ||| b1)) (cwV 1 hts gX0_leaderWins_X1_nextSquares rfl rfl rfl (by decide +kernel) ⟨Nat.le_of_ble_eq_true rfl, Nat.le_of_ble_eq_true rfl⟩) ⟨RPc.blind, va_recv hK hP (ci := 1) (q0 := 1) rfl rfl, (RPc.at (hP.sub [1, 2, 3] rfl) hK hN)⟩ rfl rfl hl.1 rfl (lv_room (Nat.le_of_ble_eq_true rfl)) dX0_leaderWins_34 ⟨Nat.zero_le _, Nat.zero_le _⟩) ?_
    refine lv_lor hx hb dX0_leaderWins_37 ?_
    refine lv_lstore (lv' := [(5, .long (a1 ||| (nxL w h (a1 ||| b1)))), (0, .ref fa), (1, .long a0), (3, .long b0), (9, .int (nI i)), (7, .long b1)]) hx hb dX0_leaderWins_38 hl (by decide) rfl (fun ls hl => ?_)
    refine lv_lload hx hb dX0_leaderWins_40 (lv_at hl 5 rfl) ?_
    refine lv_aload_n hx hb dX0_leaderWins_42 rfl (lv_at hl 1 rfl) ?_
    refine va_get (C := RX0) (T := TX0) (N := 1) hx hb hts (by decide +kernel) hown hK hP 0 rfl rfl 0 (by decide) (hts (.fieldLink RX0 7 RX0 "grid" "LDropFour$Grid;") (by decide +kernel)) (fun _ h9 => h9) rfl dX0_leaderWins_43 ?_
    refine lv_lload hx hb dX0_leaderWins_46 (lv_at hl 0 rfl) ?_
    refine lv_lload hx hb dX0_leaderWins_48 (lv_at hl 5 rfl) ?_
    refine lv_lor hx hb dX0_leaderWins_50 ?_
    refine ro_call (W.runV (As := [.long ((a1 ||| (nxL w h (a1 ||| b1))) ||| b1)]) (rest := [.long b1]) ⟨hx, hb, hml, hown, hts⟩ (c_nextSquares l D cI cJ cZ w h g st cs ((a1 ||| (nxL w h (a1 ||| b1))) ||| b1)) (cwV 1 hts gX0_leaderWins_X1_nextSquares rfl rfl rfl (by decide +kernel) ⟨Nat.le_of_ble_eq_true rfl, Nat.le_of_ble_eq_true rfl⟩) ⟨RPc.blind, va_recv hK hP (ci := 1) (q0 := 1) rfl rfl, (RPc.at (hP.sub [1, 2, 3] rfl) hK hN)⟩ rfl rfl hl.1 rfl (lv_room (Nat.le_of_ble_eq_true rfl)) dX0_leaderWins_51 ⟨Nat.zero_le _, Nat.zero_le _⟩) ?_
    refine lv_lor hx hb dX0_leaderWins_54 ?_
    refine lv_lstore (lv' := [(7, .long (b1 ||| (nxL w h ((a1 ||| (nxL w h (a1 ||| b1))) ||| b1)))), (5, .long (a1 ||| (nxL w h (a1 ||| b1)))), (0, .ref fa), (1, .long a0), (3, .long b0), (9, .int (nI i))]) hx hb dX0_leaderWins_55 hl (by decide) rfl (fun ls hl => ?_)
    refine n_iinc (n := 1) (lv' := [(9, .int (nI (i + 1))), (7, .long (b1 ||| (nxL w h ((a1 ||| (nxL w h (a1 ||| b1))) ||| b1)))), (5, .long (a1 ||| (nxL w h (a1 ||| b1)))), (0, .ref fa), (1, .long a0), (3, .long b0)]) hx hb dX0_leaderWins_57 hl (k := 5) rfl (by decide) rfl (fun ls hl => ?_)
    refine lv_goto (tgt := 9) hx hb dX0_leaderWins_60 (by decide) ?_
    exact ih_9 (a1 ||| (nxL w h (a1 ||| b1)), b1 ||| (nxL w h ((a1 ||| (nxL w h (a1 ||| b1))) ||| b1))) ls (by rw [leE, ← hI_9]) (lv_sub hl [3, 4, 5, 0, 2, 1] rfl)
  · intro qx ls hI_9 hl
    obtain ⟨a1, b1⟩ := qx
    have hl : lv_has ls 22 [(0, .ref fa), (1, .long a0), (3, .long b0), (9, .int (nI ((h + 1) / 2))), (5, .long a1), (7, .long b1)] := hl
    have hI_9 : (a1, b1) = leE w h a0 b0 ((h + 1) / 2) := hI_9
    refine lv_iconst (v := nI 2) hx hb dX0_leaderWins_9 (by decide) ?_
    refine lv_iload hx hb dX0_leaderWins_10 (lv_at hl 3 rfl) ?_
    refine n_imul hx hb dX0_leaderWins_12 ?_
    refine lv_aload_n hx hb dX0_leaderWins_13 rfl (lv_at hl 0 rfl) ?_
    refine va_get (C := RX0) (T := TX0) (N := 1) hx hb hts (by decide +kernel) hown hK hP 0 rfl rfl 0 (by decide) (hts (.fieldLink RX0 7 RX0 "grid" "LDropFour$Grid;") (by decide +kernel)) (fun _ h9 => h9) rfl dX0_leaderWins_14 ?_
    refine va_getN (C := RX1) (T := TX1) (N := 6) hx hb hts (by decide +kernel) hown hK hP 1 rfl rfl 1 (by decide) (hN.use 0 rfl rfl) (fun _ h9 => h9) rfl dX0_leaderWins_17 ?_
    refine n_icmp_ge (tgt := 63) hx hb dX0_leaderWins_20 (by decide) (by omega) (by omega) (fun c20_2 => ?_) (fun c20_2 => ?_)
    · skip
      have ea1 : a1 = (leE w h a0 b0 ((h + 1) / 2)).1 := by rw [← hI_9]
      have eb1 : b1 = (leE w h a0 b0 ((h + 1) / 2)).2 := by rw [← hI_9]
      refine lv_aload_n hx hb dX0_leaderWins_63 rfl (lv_at hl 0 rfl) ?_
      refine va_get (C := RX0) (T := TX0) (N := 1) hx hb hts (by decide +kernel) hown hK hP 0 rfl rfl 0 (by decide) (hts (.fieldLink RX0 7 RX0 "grid" "LDropFour$Grid;") (by decide +kernel)) (fun _ h9 => h9) rfl dX0_leaderWins_64 ?_
      refine va_getN (C := RX1) (T := TX1) (N := 6) hx hb hts (by decide +kernel) hown hK hP 1 rfl rfl 4 (by decide) (hN.use 1 rfl rfl) (fun _ h9 => h9) rfl dX0_leaderWins_67 ?_
      refine lv_astore (lv' := [(9, .ref st), (0, .ref fa), (1, .long a0), (3, .long b0), (5, .long a1), (7, .long b1)]) hx hb dX0_leaderWins_70 hl (by decide) rfl (fun ls hl => ?_)
      refine lv_aload hx hb dX0_leaderWins_72 (lv_at hl 0 rfl) ?_
      refine va_alen hx hb hK hP 2 0 rfl rfl (v := nI 4) rfl dX0_leaderWins_74 ?_
      refine lv_istore (lv' := [(10, .int (nI 4)), (9, .ref st), (0, .ref fa), (1, .long a0), (3, .long b0), (5, .long a1), (7, .long b1)]) hx hb dX0_leaderWins_75 hl (by decide) rfl (fun ls hl => ?_)
      refine lv_iconst (v := nI 0) hx hb dX0_leaderWins_77 (by decide) ?_
      refine lv_istore (lv' := [(11, .int (nI 0)), (10, .int (nI 4)), (9, .ref st), (0, .ref fa), (1, .long a0), (3, .long b0), (5, .long a1), (7, .long b1)]) hx hb dX0_leaderWins_78 hl (by decide) rfl (fun ls hl => ?_)
      refine loopW (σ := Unit) (m := m) 80 22 (fun i qx => [(10, .int (nI 4)), (9, .ref st), (0, .ref fa), (1, .long a0), (3, .long b0), (5, .long a1), (7, .long b1), (11, .int (nI i))]) (fun i qx => anyB (lsF w h a0 b0 (leE w h a0 b0 ((h + 1) / 2))) i = false) 4 ?_ ?_ 0 () ls (by omega) rfl (lv_sub hl [1, 2, 3, 4, 5, 6, 7, 0] rfl)
      · intro j qx ls hi_80 hI_80 hl ih_80
        have hl : lv_has ls 22 [(10, .int (nI 4)), (9, .ref st), (0, .ref fa), (1, .long a0), (3, .long b0), (5, .long a1), (7, .long b1), (11, .int (nI j))] := hl
        have hI_80 : anyB (lsF w h a0 b0 (leE w h a0 b0 ((h + 1) / 2))) j = false := hI_80
        refine lv_iload hx hb dX0_leaderWins_80 (lv_at hl 7 rfl) ?_
        refine lv_iload hx hb dX0_leaderWins_82 (lv_at hl 0 rfl) ?_
        refine n_icmp_ge (tgt := 187) hx hb dX0_leaderWins_84 (by decide) (by omega) (by omega) (fun c84_3 => ?_) (fun c84_3 => ?_)
        · exact absurd c84_3 (by omega)
        refine lv_aload hx hb dX0_leaderWins_87 (lv_at hl 1 rfl) ?_
        refine lv_iload hx hb dX0_leaderWins_89 (lv_at hl 7 rfl) ?_
        refine n_iald hx hb hK hP 2 0 rfl rfl (by omega) (by omega) dX0_leaderWins_91 ?_
        refine lv_istore (lv' := [(12, .int (nI (stp h j))), (10, .int (nI 4)), (9, .ref st), (0, .ref fa), (1, .long a0), (3, .long b0), (5, .long a1), (7, .long b1), (11, .int (nI j))]) hx hb dX0_leaderWins_92 hl (by decide) rfl (fun ls hl => ?_)
        refine lv_aload_n hx hb dX0_leaderWins_94 rfl (lv_at hl 3 rfl) ?_
        refine va_get (C := RX0) (T := TX0) (N := 1) hx hb hts (by decide +kernel) hown hK hP 0 rfl rfl 0 (by decide) (hts (.fieldLink RX0 7 RX0 "grid" "LDropFour$Grid;") (by decide +kernel)) (fun _ h9 => h9) rfl dX0_leaderWins_95 ?_
        refine lv_lload hx hb dX0_leaderWins_98 (lv_at hl 6 rfl) ?_
        refine lv_iload hx hb dX0_leaderWins_100 (lv_at hl 0 rfl) ?_
        refine ro_call (W.runV (As := [.long a1, .int (nI (stp h j))]) (rest := []) ⟨hx, hb, hml, hown, hts⟩ (c_lineStarts l D cI cJ cZ w h g st cs a1 (stp h j)) (cwV 2 hts gX0_leaderWins_X1_lineStarts rfl rfl rfl (by decide +kernel) ⟨Nat.le_of_ble_eq_true rfl, Nat.le_of_ble_eq_true rfl⟩) ⟨RPc.blind, va_recv hK hP (ci := 1) (q0 := 1) rfl rfl, (RPc.at (hP.sub [1, 2, 3] rfl) hK hN)⟩ rfl rfl hl.1 rfl (lv_room (Nat.le_of_ble_eq_true rfl)) dX0_leaderWins_102 ⟨Nat.zero_le _, Nat.zero_le _⟩) ?_
        refine lv_lstore (lv' := [(13, .long (lsL a1 (stp h j))), (12, .int (nI (stp h j))), (10, .int (nI 4)), (9, .ref st), (0, .ref fa), (1, .long a0), (3, .long b0), (5, .long a1), (7, .long b1), (11, .int (nI j))]) hx hb dX0_leaderWins_105 hl (by decide) rfl (fun ls hl => ?_)
        refine lv_iconst (v := nI 0) hx hb dX0_leaderWins_107 (by decide) ?_
        refine lv_istore (lv' := [(15, .int (nI 0)), (13, .long (lsL a1 (stp h j))), (12, .int (nI (stp h j))), (10, .int (nI 4)), (9, .ref st), (0, .ref fa), (1, .long a0), (3, .long b0), (5, .long a1), (7, .long b1), (11, .int (nI j))]) hx hb dX0_leaderWins_108 hl (by decide) rfl (fun ls hl => ?_)
        refine loopW (σ := Unit) (m := m) 110 22 (fun i qx => [(13, .long (lsL a1 (stp h j))), (12, .int (nI (stp h j))), (10, .int (nI 4)), (9, .ref st), (0, .ref fa), (1, .long a0), (3, .long b0), (5, .long a1), (7, .long b1), (11, .int (nI j)), (15, .int (nI i))]) (fun i qx => anyB (lbF w h a0 b0 b1 (lsL a1 (stp h j)) (stp h j)) i = false) 64 ?_ ?_ 0 () ls (by omega) rfl (lv_sub hl [1, 2, 3, 4, 5, 6, 7, 8, 9, 10, 0] rfl)
        · intro b qx ls hi_110 hI_110 hl ih_110
          have hl : lv_has ls 22 [(13, .long (lsL a1 (stp h j))), (12, .int (nI (stp h j))), (10, .int (nI 4)), (9, .ref st), (0, .ref fa), (1, .long a0), (3, .long b0), (5, .long a1), (7, .long b1), (11, .int (nI j)), (15, .int (nI b))] := hl
          have hI_110 : anyB (lbF w h a0 b0 b1 (lsL a1 (stp h j)) (stp h j)) b = false := hI_110
          refine lv_iload hx hb dX0_leaderWins_110 (lv_at hl 10 rfl) ?_
          refine lv_bipush (v := nI 64) hx hb dX0_leaderWins_112 (by decide) ?_
          refine n_icmp_ge (tgt := 181) hx hb dX0_leaderWins_114 (by decide) (by omega) (by omega) (fun c114_4 => ?_) (fun c114_4 => ?_)
          · exact absurd c114_4 (by omega)
          refine lv_lload hx hb dX0_leaderWins_117 (lv_at hl 0 rfl) ?_
          refine lv_lconst (v := 1) hx hb dX0_leaderWins_119 (by decide) ?_
          refine lv_iload hx hb dX0_leaderWins_120 (lv_at hl 10 rfl) ?_
          refine n_lshl hx hb dX0_leaderWins_122 ?_
          refine lv_land hx hb dX0_leaderWins_123 ?_
          refine lv_lstore (lv' := [(16, .long ((lsL a1 (stp h j)) &&& (shlL 1 b))), (13, .long (lsL a1 (stp h j))), (12, .int (nI (stp h j))), (10, .int (nI 4)), (9, .ref st), (0, .ref fa), (1, .long a0), (3, .long b0), (5, .long a1), (7, .long b1), (11, .int (nI j)), (15, .int (nI b))]) hx hb dX0_leaderWins_124 hl (by decide) rfl (fun ls hl => ?_)
          refine lv_lload hx hb dX0_leaderWins_126 (lv_at hl 0 rfl) ?_
          refine lv_lload hx hb dX0_leaderWins_128 (lv_at hl 0 rfl) ?_
          refine lv_iload hx hb dX0_leaderWins_130 (lv_at hl 2 rfl) ?_
          refine n_lshl hx hb dX0_leaderWins_132 ?_
          refine lv_lor hx hb dX0_leaderWins_133 ?_
          refine lv_lstore (lv' := [(18, .long (((lsL a1 (stp h j)) &&& (shlL 1 b)) ||| (shlL ((lsL a1 (stp h j)) &&& (shlL 1 b)) (stp h j)))), (16, .long ((lsL a1 (stp h j)) &&& (shlL 1 b))), (13, .long (lsL a1 (stp h j))), (12, .int (nI (stp h j))), (10, .int (nI 4)), (9, .ref st), (0, .ref fa), (1, .long a0), (3, .long b0), (5, .long a1), (7, .long b1), (11, .int (nI j)), (15, .int (nI b))]) hx hb dX0_leaderWins_134 hl (by decide) rfl (fun ls hl => ?_)
          refine lv_lload hx hb dX0_leaderWins_136 (lv_at hl 0 rfl) ?_
          refine lv_lload hx hb dX0_leaderWins_138 (lv_at hl 0 rfl) ?_
          refine lv_iconst (v := nI 2) hx hb dX0_leaderWins_140 (by decide) ?_
          refine lv_iload hx hb dX0_leaderWins_141 (lv_at hl 3 rfl) ?_
          refine n_imul hx hb dX0_leaderWins_143 ?_
          refine n_lshl hx hb dX0_leaderWins_144 ?_
          refine lv_lor hx hb dX0_leaderWins_145 ?_
          refine lv_lload_n hx hb dX0_leaderWins_146 rfl (lv_at hl 7 rfl) ?_
          refine lv_ldc2 (v := (-1)) hx hb hown (hts (.constantLong RX0 31 (-1)) (by decide +kernel)) dX0_leaderWins_147 ?_
          refine lv_lxor hx hb dX0_leaderWins_150 ?_
          refine lv_land hx hb dX0_leaderWins_151 ?_
          refine lv_lstore (lv' := [(20, .long (((((lsL a1 (stp h j)) &&& (shlL 1 b)) ||| (shlL ((lsL a1 (stp h j)) &&& (shlL 1 b)) (stp h j))) ||| (shlL (((lsL a1 (stp h j)) &&& (shlL 1 b)) ||| (shlL ((lsL a1 (stp h j)) &&& (shlL 1 b)) (stp h j))) (2 * (stp h j)))) &&& (a0 ^^^ (-1)))), (18, .long (((lsL a1 (stp h j)) &&& (shlL 1 b)) ||| (shlL ((lsL a1 (stp h j)) &&& (shlL 1 b)) (stp h j)))), (16, .long ((lsL a1 (stp h j)) &&& (shlL 1 b))), (13, .long (lsL a1 (stp h j))), (12, .int (nI (stp h j))), (10, .int (nI 4)), (9, .ref st), (0, .ref fa), (1, .long a0), (3, .long b0), (5, .long a1), (7, .long b1), (11, .int (nI j)), (15, .int (nI b))]) hx hb dX0_leaderWins_152 hl (by decide) rfl (fun ls hl => ?_)
          refine lv_lload hx hb dX0_leaderWins_154 (lv_at hl 0 rfl) ?_
          refine lv_lconst (v := 0) hx hb dX0_leaderWins_156 (by decide) ?_
          refine W.lcmp hx hb dX0_leaderWins_157 ?_
          refine l_if_eq (tgt := 175) hx hb dX0_leaderWins_158 (by decide) (fun c158_5 => ?_) (fun c158_5 => ?_)
          · skip
            refine n_iinc (n := 1) (lv' := [(15, .int (nI (b + 1))), (20, .long (((((lsL a1 (stp h j)) &&& (shlL 1 b)) ||| (shlL ((lsL a1 (stp h j)) &&& (shlL 1 b)) (stp h j))) ||| (shlL (((lsL a1 (stp h j)) &&& (shlL 1 b)) ||| (shlL ((lsL a1 (stp h j)) &&& (shlL 1 b)) (stp h j))) (2 * (stp h j)))) &&& (a0 ^^^ (-1)))), (18, .long (((lsL a1 (stp h j)) &&& (shlL 1 b)) ||| (shlL ((lsL a1 (stp h j)) &&& (shlL 1 b)) (stp h j)))), (16, .long ((lsL a1 (stp h j)) &&& (shlL 1 b))), (13, .long (lsL a1 (stp h j))), (12, .int (nI (stp h j))), (10, .int (nI 4)), (9, .ref st), (0, .ref fa), (1, .long a0), (3, .long b0), (5, .long a1), (7, .long b1), (11, .int (nI j))]) hx hb dX0_leaderWins_175 hl (k := 13) rfl (by decide) rfl (fun ls hl => ?_)
            refine lv_goto (tgt := 110) hx hb dX0_leaderWins_178 (by decide) ?_
            exact ih_110 () ls (anyB_s hI_110 (by unfold lbF; rw [show waL a0 (lsL a1 (stp h j)) (stp h j) b = 0 from c158_5]; rfl)) (lv_sub hl [4, 5, 6, 7, 8, 9, 10, 11, 12, 13, 0] rfl)
          refine lv_aload_n hx hb dX0_leaderWins_161 rfl (lv_at hl 7 rfl) ?_
          refine lv_lload hx hb dX0_leaderWins_162 (lv_at hl 0 rfl) ?_
          refine lv_lload_n hx hb dX0_leaderWins_164 rfl (lv_at hl 9 rfl) ?_
          refine lv_lload hx hb dX0_leaderWins_165 (lv_at hl 11 rfl) ?_
          refine ro_call (W.runV (As := [.long (((((lsL a1 (stp h j)) &&& (shlL 1 b)) ||| (shlL ((lsL a1 (stp h j)) &&& (shlL 1 b)) (stp h j))) ||| (shlL (((lsL a1 (stp h j)) &&& (shlL 1 b)) ||| (shlL ((lsL a1 (stp h j)) &&& (shlL 1 b)) (stp h j))) (2 * (stp h j)))) &&& (a0 ^^^ (-1))), .long b0, .long b1]) (rest := []) ⟨hx, hb, hml, hown, hts⟩ (c_comesFirst l D cI cJ cZ w h fa g st cs (((((lsL a1 (stp h j)) &&& (shlL 1 b)) ||| (shlL ((lsL a1 (stp h j)) &&& (shlL 1 b)) (stp h j))) ||| (shlL (((lsL a1 (stp h j)) &&& (shlL 1 b)) ||| (shlL ((lsL a1 (stp h j)) &&& (shlL 1 b)) (stp h j))) (2 * (stp h j)))) &&& (a0 ^^^ (-1))) b0 b1 hd) (cwV 3 hts gX0_leaderWins_X0_comesFirst rfl rfl rfl (by decide +kernel) ⟨Nat.le_of_ble_eq_true rfl, Nat.le_of_ble_eq_true rfl⟩) ⟨RPc.blind, va_recv hK hP (ci := 0) (q0 := 0) rfl rfl, (RPc.at (hP.sub [0, 1, 2, 3] rfl) hK hN)⟩ rfl rfl hl.1 rfl (lv_room (Nat.le_of_ble_eq_true rfl)) dX0_leaderWins_167 ⟨Nat.zero_le _, Nat.zero_le _⟩) ?_
          refine b_if_eq (tgt := 175) hx hb dX0_leaderWins_170 (by decide) (fun c170_6 => ?_) (fun c170_6 => ?_)
          · skip
            refine n_iinc (n := 1) (lv' := [(15, .int (nI (b + 1))), (20, .long (((((lsL a1 (stp h j)) &&& (shlL 1 b)) ||| (shlL ((lsL a1 (stp h j)) &&& (shlL 1 b)) (stp h j))) ||| (shlL (((lsL a1 (stp h j)) &&& (shlL 1 b)) ||| (shlL ((lsL a1 (stp h j)) &&& (shlL 1 b)) (stp h j))) (2 * (stp h j)))) &&& (a0 ^^^ (-1)))), (18, .long (((lsL a1 (stp h j)) &&& (shlL 1 b)) ||| (shlL ((lsL a1 (stp h j)) &&& (shlL 1 b)) (stp h j)))), (16, .long ((lsL a1 (stp h j)) &&& (shlL 1 b))), (13, .long (lsL a1 (stp h j))), (12, .int (nI (stp h j))), (10, .int (nI 4)), (9, .ref st), (0, .ref fa), (1, .long a0), (3, .long b0), (5, .long a1), (7, .long b1), (11, .int (nI j))]) hx hb dX0_leaderWins_175 hl (k := 13) rfl (by decide) rfl (fun ls hl => ?_)
            refine lv_goto (tgt := 110) hx hb dX0_leaderWins_178 (by decide) ?_
            exact ih_110 () ls (anyB_s hI_110 (by unfold lbF; rw [show cmB w h (waL a0 (lsL a1 (stp h j)) (stp h j) b) b0 b1 = false from c170_6]; simp)) (lv_sub hl [4, 5, 6, 7, 8, 9, 10, 11, 12, 13, 0] rfl)
          refine lv_iconst (v := nI 1) hx hb dX0_leaderWins_173 (by decide) ?_
          exact ro_zret hx hb hr hlocks (by first | rfl | exact bI_nar _) (by rw [show lwB w h a0 b0 = true from anyB_t (i := j) (by unfold lsF; rw [← ea1, ← eb1]; exact anyB_t (i := b) (by unfold lbF; rw [show cmB w h (waL a0 (lsL a1 (stp h j)) (stp h j) b) b0 b1 = true from c170_6]; simp; exact c158_5) hi_110) hi_80]; rfl) dX0_leaderWins_174
        · intro qx ls hI_110 hl
          have hl : lv_has ls 22 [(13, .long (lsL a1 (stp h j))), (12, .int (nI (stp h j))), (10, .int (nI 4)), (9, .ref st), (0, .ref fa), (1, .long a0), (3, .long b0), (5, .long a1), (7, .long b1), (11, .int (nI j)), (15, .int (nI 64))] := hl
          have hI_110 : anyB (lbF w h a0 b0 b1 (lsL a1 (stp h j)) (stp h j)) 64 = false := hI_110
          refine lv_iload hx hb dX0_leaderWins_110 (lv_at hl 10 rfl) ?_
          refine lv_bipush (v := nI 64) hx hb dX0_leaderWins_112 (by decide) ?_
          refine n_icmp_ge (tgt := 181) hx hb dX0_leaderWins_114 (by decide) (by decide) (by decide) (fun _ => ?_) (fun c114_7 => absurd c114_7 (by decide))
          refine n_iinc (n := 1) (lv' := [(11, .int (nI (j + 1))), (13, .long (lsL a1 (stp h j))), (12, .int (nI (stp h j))), (10, .int (nI 4)), (9, .ref st), (0, .ref fa), (1, .long a0), (3, .long b0), (5, .long a1), (7, .long b1), (15, .int (nI 64))]) hx hb dX0_leaderWins_181 hl (k := 9) rfl (by decide) rfl (fun ls hl => ?_)
          refine lv_goto (tgt := 80) hx hb dX0_leaderWins_184 (by decide) ?_
          exact ih_80 () ls (anyB_s hI_80 (by unfold lsF; rw [← ea1, ← eb1]; exact hI_110)) (lv_sub hl [3, 4, 5, 6, 7, 8, 9, 0] rfl)
      · intro qx ls hI_80 hl
        have hl : lv_has ls 22 [(10, .int (nI 4)), (9, .ref st), (0, .ref fa), (1, .long a0), (3, .long b0), (5, .long a1), (7, .long b1), (11, .int (nI 4))] := hl
        have hI_80 : anyB (lsF w h a0 b0 (leE w h a0 b0 ((h + 1) / 2))) 4 = false := hI_80
        refine lv_iload hx hb dX0_leaderWins_80 (lv_at hl 7 rfl) ?_
        refine lv_iload hx hb dX0_leaderWins_82 (lv_at hl 0 rfl) ?_
        refine n_icmp_ge (tgt := 187) hx hb dX0_leaderWins_84 (by decide) (by decide) (by decide) (fun _ => ?_) (fun c84_8 => absurd c84_8 (by decide))
        refine lv_iconst (v := nI 0) hx hb dX0_leaderWins_187 (by decide) ?_
        exact ro_zret hx hb hr hlocks (by first | rfl | exact bI_nar _) (by rw [show lwB w h a0 b0 = false from hI_80]; rfl) dX0_leaderWins_188
    · exact absurd c20_2 (by omega)
end
