-- ===== the law: what holds all the way, what each round keeps =====
def LwC (p : Program) (s : State) (m : MethodId) (meth : Method) (cd : Code) (b L : Nat) (xs : Nat → Int32) (D : va_G) (cI cJ cZ : ClassId) (w h : Nat) : Prop :=
  p.tables.exec = Jvm.exec ∧ cd.code = code ∧ meth.sig.returnType = ret ∧ cd.maxLocals = 7 ∧ s.vm.findClass RL = some m.cls ∧ (∀ w ∈ wsL_law, w.before #[Value.ref b] s = true) ∧ va_X b L xs s s.heap ∧ b < s.heap.size ∧ meth.locks = false ∧ va_K D vwCl (tyA cI cJ cZ) s ∧ NWa s ∧ TwA s ∧ TwZ s s.heap ∧ va_Nc eIS eIA s ∧ Dm w h ∧ L ≤ 1538
def LwI (s : State) (D : va_G) (cI cJ cZ : ClassId) (w h x ou : Nat) (ax ad : Nat → Nat) (d : List Nat) (cs : CtS) (rs : RfS) (O : Nat → Int64) (H : Heap) (locs : List Loc) : Prop :=
  gOK w h d ∧ CtOK w h d cs ∧ RfOK w h d rs ∧ va_P D vwCl (cW cI cJ w h x ax ou d cs O ++ rW cI cZ ad w h d rs) H ∧ va_D (fun q : Nat => s.heap.size ≤ q) (cW cI cJ w h x ax ou d cs O ++ rW cI cZ ad w h d rs) ∧ va_S (fun q : Nat => s.heap.size ≤ q) s.heap H locs
theorem TwZ.later {s : State} {H : Heap} {locs : List Loc} (hZ : TwZ s s.heap) (hS : va_S (fun q : Nat => s.heap.size ≤ q) s.heap H locs) : TwZ s H :=
  ⟨vx_Zq.kept hZ.1 (fun a ha _ => hS.2.1 a ha (Nat.not_le.mpr ha)), vx_Zq.kept hZ.2 (fun a ha _ => hS.2.1 a ha (Nat.not_le.mpr ha))⟩
theorem oDrop_ok {w h : Nat} {d : List Nat} (G : gOK w h d) (k : Int32) (hw : w ≤ 9 := by omega) : gOK w h (oDrop w h d k).2.1 := by
  unfold oDrop
  by_cases c1 : icB w k = false
  · rw [if_pos c1]; exact G
  · rw [if_neg c1]
    obtain ⟨c, hc, rfl, hcl, -⟩ := ic_yes hw c1
    rw [hcl]
    by_cases c2 : 0 ≤ gWn w h d ∨ h ≤ gH d c
    · rw [if_pos c2]; exact G
    · rw [if_neg c2]
      exact G.cons hc (Nat.lt_of_not_le fun z => c2 (Or.inr z)) (fun z => c2 (Or.inl z))
theorem oBack_ok {w h : Nat} {d : List Nat} (G : gOK w h d) : gOK w h (oBack d).2.1 := by
  cases d with
  | nil => exact G
  | cons c d => exact G.2.2.2.2
theorem oDrop_le (w h : Nat) (d : List Nat) (k : Int32) : (oDrop w h d k).1 ≤ 2 := by
  unfold oDrop
  split
  · exact Nat.le_of_ble_eq_true rfl
  · split
    · exact Nat.le_of_ble_eq_true rfl
    · exact Nat.le_of_ble_eq_true rfl
theorem oBack_le (d : List Nat) : (oBack d).1 ≤ 2 := by
  cases d with
  | nil => exact Nat.le_of_ble_eq_true rfl
  | cons c d => exact Nat.le_of_ble_eq_true rfl
theorem oAt_is (w h : Nat) (d : List Nat) (c r : Int32) : (oAt w h d c r).2.1 = d ∧ (oAt w h d c r).1 ≤ 2 := by
  unfold oAt; split <;> exact ⟨rfl, Nat.le_of_ble_eq_true rfl⟩
theorem oOpen_is (w h : Nat) (d : List Nat) (k : Int32) : (oOpen w h d k).2.1 = d ∧ (oOpen w h d k).1 ≤ 2 := by
  unfold oOpen; split <;> exact ⟨rfl, Nat.le_of_ble_eq_true rfl⟩
theorem oThreats_is (w h : Nat) (d : List Nat) (k : Int32) : (oThreats w h d k).2.1 = d ∧ (oThreats w h d k).1 ≤ 2 := by
  unfold oThreats; split <;> exact ⟨rfl, Nat.le_of_ble_eq_true rfl⟩
theorem oValue_is (w h : Nat) (d : List Nat) : (oValue w h d).2.1 = d ∧ (oValue w h d).1 ≤ 2 := by
  unfold oValue; split <;> exact ⟨rfl, Nat.le_of_ble_eq_true rfl⟩
theorem oBest_is (w h : Nat) (d : List Nat) : (oBest w h d).2.1 = d ∧ (oBest w h d).1 ≤ 2 := by
  unfold oBest; split <;> exact ⟨rfl, Nat.le_of_ble_eq_true rfl⟩
theorem oBeats_is (w h : Nat) (d : List Nat) : (oBeats w h d).2.1 = d ∧ (oBeats w h d).1 ≤ 2 := by
  unfold oBeats; split <;> exact ⟨rfl, Nat.le_of_ble_eq_true rfl⟩
theorem oValueOf_is (w h : Nat) (d : List Nat) (k : Int32) : (oValueOf w h d k).2.1 = d ∧ (oValueOf w h d k).1 ≤ 2 := by
  unfold oValueOf
  split
  · exact ⟨rfl, Nat.le_of_ble_eq_true rfl⟩
  · split <;> exact ⟨rfl, Nat.le_of_ble_eq_true rfl⟩
theorem oAt_le (w h : Nat) (d : List Nat) (c r : Int32) : (oAt w h d c r).1 ≤ 2 := (oAt_is w h d c r).2
theorem oOpen_le (w h : Nat) (d : List Nat) (k : Int32) : (oOpen w h d k).1 ≤ 2 := (oOpen_is w h d k).2
theorem oThreats_le (w h : Nat) (d : List Nat) (k : Int32) : (oThreats w h d k).1 ≤ 2 := (oThreats_is w h d k).2
theorem oValue_le (w h : Nat) (d : List Nat) : (oValue w h d).1 ≤ 2 := (oValue_is w h d).2
theorem oBest_le (w h : Nat) (d : List Nat) : (oBest w h d).1 ≤ 2 := (oBest_is w h d).2
theorem oBeats_le (w h : Nat) (d : List Nat) : (oBeats w h d).1 ≤ 2 := (oBeats_is w h d).2
theorem oValueOf_le (w h : Nat) (d : List Nat) (k : Int32) : (oValueOf w h d k).1 ≤ 2 := (oValueOf_is w h d k).2
theorem oAt_ok {w h : Nat} {d : List Nat} (G : gOK w h d) (c r : Int32) : gOK w h (oAt w h d c r).2.1 := by rw [(oAt_is w h d c r).1]; exact G
theorem oOpen_ok {w h : Nat} {d : List Nat} (G : gOK w h d) (k : Int32) : gOK w h (oOpen w h d k).2.1 := by rw [(oOpen_is w h d k).1]; exact G
theorem oThreats_ok {w h : Nat} {d : List Nat} (G : gOK w h d) (k : Int32) : gOK w h (oThreats w h d k).2.1 := by rw [(oThreats_is w h d k).1]; exact G
theorem oValue_ok {w h : Nat} {d : List Nat} (G : gOK w h d) : gOK w h (oValue w h d).2.1 := by rw [(oValue_is w h d).1]; exact G
theorem oBest_ok {w h : Nat} {d : List Nat} (G : gOK w h d) : gOK w h (oBest w h d).2.1 := by rw [(oBest_is w h d).1]; exact G
theorem oBeats_ok {w h : Nat} {d : List Nat} (G : gOK w h d) : gOK w h (oBeats w h d).2.1 := by rw [(oBeats_is w h d).1]; exact G
theorem oValueOf_ok {w h : Nat} {d : List Nat} (G : gOK w h d) (k : Int32) : gOK w h (oValueOf w h d k).2.1 := by rw [(oValueOf_is w h d k).1]; exact G
theorem oBeats_v {w h : Nat} {d : List Nat} (hz : (oBeats w h d).1 = 0) : (oBeats w h d).2.2 = bI (btB w h (gB d) (gH d) d.length) := by
  unfold oBeats at hz ⊢
  split
  · rename_i c1
    rw [if_pos c1] at hz
    exact absurd (show (1 : Nat) = 0 from hz) (by decide)
  · rfl
-- the script's cells
def clI (L : Nat) (xs : Nat → Int32) (k : Nat) : Int32 := if k < L then xs k else 0
def CPc (b L : Nat) (xs : Nat → Int32) (k : Nat) : Array Value → State → Prop := fun v U => v = #[Value.ref b, .int (nI k)] ∧ va_X b L xs U U.heap ∧ b < U.heap.size
theorem CPc.blind {b L : Nat} {xs : Nat → Int32} {k : Nat} : FrameBlind (CPc b L xs k) := by
  intro a U g mk q
  exact ⟨q.1, va_X.moved (u := U) (U := U.calling g mk a) (Vm.Alike.refl U.vm) q.2.1, q.2.2⟩
theorem CPc.at {b L : Nat} {xs : Nat → Int32} {k : Nat} {s : State} {H : Heap} (hX : va_X b L xs s H) (hbl : b < H.size) : ∀ U : State, U.heap = H → s.WarmedH U.vm → CPc b L xs k [Value.ref b, .int (nI k)].toArray U :=
  fun U hU hW => ⟨rfl, by rw [hU]; exact va_X.moved hW.alike hX, by rw [hU]; exact hbl⟩
theorem X.later {b L : Nat} {xs : Nat → Int32} {s : State} {H : Heap} {locs : List Loc} (hX : va_X b L xs s s.heap) (hbl : b < s.heap.size) (hS : va_S (fun q : Nat => s.heap.size ≤ q) s.heap H locs) : va_X b L xs s H ∧ b < H.size :=
  ⟨va_X.kept hX (hS.2.1 b hbl (Nat.not_le.mpr hbl)), Nat.lt_of_lt_of_le hbl hS.1⟩
theorem c_cell (l : Launch) (b L : Nat) (xs : Nat → Int32) (k : Nat) (hk : k < 2 ^ 31) (hL : L ≤ 1538) : Met l yL_cell wsL_cell (k2_rm 0 0) (CPc b L xs k) (k2_QcV (.int (clI L xs k))) 0 0 (fun _ => False) := by
  refine Met.ofW (cc := cL_cell) (maxL := 2) (ret := some .int) (by decide) rfl ?_
  intro p e s m args below meth c s₁ B hml hv
  obtain ⟨rfl, hX, hbl⟩ := hv
  have hx := B.exec
  have hb := B.bytes
  have hr := B.returns
  have hlocks := B.notSynchronized
  have hl := lv_entry ([.ref b, .int (nI k)]) (n := 2) (Nat.le_of_ble_eq_true rfl)
  show W p l e _ s m _ below meth c _ _ _ _ _ (entryFrame m ([.ref b, .int (nI k)] : List Value).toArray 2)
  rw [lg_entry_eq]
  generalize (lg_sl ([.ref b, .int (nI k)]) ++ List.replicate (2 - (lg_sl ([.ref b, .int (nI k)])).length) Slot.unset).toArray = ls at hl ⊢
  have hl : lv_has ls 2 [(0, .ref b), (1, .int (nI k))] := hl
  refine lv_iload_n hx hb dL_cell_0 rfl (lv_at hl 1 rfl) ?_
  refine lv_aload_n hx hb dL_cell_1 rfl (lv_at hl 0 rfl) ?_
  refine va_slen (A := fun _ => False) hx hb hX hbl (fun h => h) va_S.rf dL_cell_2 ?_
  refine rt_i (v := nI L) rfl ?_
  refine n_icmp_ge (tgt := 12) hx hb dL_cell_3 (by decide) hk (by omega) (fun c1 => ?_) (fun c1 => ?_)
  · refine lv_iconst (v := 0) hx hb dL_cell_12 (by decide) ?_
    exact ro_iret hx hb hr hlocks (by unfold clI; rw [if_neg (by omega)]) dL_cell_13
  · refine lv_aload_n hx hb dL_cell_6 rfl (lv_at hl 0 rfl) ?_
    refine lv_iload_n hx hb dL_cell_7 rfl (lv_at hl 1 rfl) ?_
    refine va_sld (A := fun _ => False) hx hb hX hbl (fun h => h) va_S.rf (vp_in_nI (n := k) (N := L) (by omega) (by omega)) dL_cell_8 ?_
    refine lv_goto (tgt := 13) hx hb dL_cell_9 (by decide) ?_
    exact ro_iret hx hb hr hlocks (by unfold clI; rw [if_pos (by omega), nI_clamp (by omega)]) dL_cell_13
