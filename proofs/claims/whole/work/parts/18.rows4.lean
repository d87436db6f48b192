-- ===== contracts of methods that write =====
def MPc (D : va_G) (av : List Value) (wo : va_W) (tys : List (ClassId × FieldType)) (sz : Nat) : Array Value → State → Prop := fun v U => v = av.toArray ∧ U.heap.size = sz ∧ va_P D vwCl wo U.heap ∧ va_K D vwCl tys U ∧ va_D (fun _ => True) wo ∧ NWa U
theorem MPc.blind {D : va_G} {av : List Value} {wo : va_W} {tys : List (ClassId × FieldType)} {sz : Nat} : FrameBlind (MPc D av wo tys sz) := by
  intro a U g mk q
  obtain ⟨q0, qz, qP, qK, qD, qN⟩ := q
  exact ⟨q0, qz, qP, va_K.moved (u := U) (U := U.calling g mk a) (Vm.Alike.refl U.vm) qK, qD, NWa.same (s := U) (U := U.calling g mk a) rfl qN⟩
theorem MPc.at {D : va_G} {av : List Value} {wo : va_W} {tys : List (ClassId × FieldType)} {s : State} {H : Heap} {A : Nat → Prop} (hP : va_P D vwCl wo H) (hD : va_D A wo) (hK : va_K D vwCl tys s) (hN : NWa s) : ∀ U : State, U.heap = H → s.WarmedH U.vm → MPc D av wo tys H.size av.toArray U :=
  fun U hU hW => ⟨rfl, by rw [hU], by rw [hU]; exact hP, va_K.moved hW.alike hK, hD.weaken (fun _ _ _ _ => trivial), hN.warm hW⟩
theorem mu_head {l : Launch} {y : MethodName} {ws ws' : List Cond} {rm : Room} {D : va_G} {av : List Value} {wo : va_W} {tys : List (ClassId × FieldType)} {Qc : (Nat → Prop) → Array Value → State → Outcome → State → Prop} {mc ms sz : Nat} {cc : ByteArray} {maxL : Nat} {ret : Option FieldType} (hy : plainName y.cls = true) (hw : ws = Cond.code y cc maxL ret :: ws') (hn : (lg_sl av).length ≤ maxL)
    (body : ∀ (p : Program) (e : Env) (s : State) (m : MethodId) (below : List Frame) (meth : Method) (c : Code) (ls : Array Slot) (A : Nat → Prop), p.tables.exec = Jvm.exec → c.code = cc → meth.sig.returnType = ret → meth.locks = false → meth.name = y.name → (∀ w ∈ ws, w.before av.toArray s = true) → s.vm.findClass y.cls = some m.cls → c.maxLocals = maxL → (∀ q : Nat, s.heap.size ≤ q → A q) →
      va_P D vwCl wo s.heap → va_K D vwCl tys s → va_D A wo → NWa s → va_S A s.heap s.heap [] → lv_has ls maxL (lv_args 0 av) →
      W p l e rm s m av.toArray below meth c s.heap [] 0 0 (MQ below (Qc A) av.toArray s mc ms A) (F0 m 0 ls [])) : Met l y ws rm (MPc D av wo tys sz) (Qc (va_A wo sz)) mc ms (va_A wo sz) := by
  refine Met.ofW (cc := cc) (maxL := maxL) (ret := ret) hy hw ?_
  intro p e s m args below meth c s₁ B hml hv
  obtain ⟨rfl, hsz, hP, hK, hD0, hN⟩ := hv
  rw [lg_entry_eq]
  subst hsz
  exact body p e s m below meth c _ _ B.exec B.bytes B.returns B.notSynchronized (name_of_methodNamed B.named B.method).1 (atoms_spec (ws := ws) B.pre) (findClass_of_methodNamed B.named) hml (fun q h => Or.inr h) hP hK (hD0.self (sz := s.heap.size)) hN va_S.rf (lv_entry av hn)
section Rows4
variable {p : Program} {l : Launch} {e : Env} {R : Room} {s : State} {m : MethodId} {args : Array Value} {below : List Frame} {meth : Method} {c : Code} {H : Heap} {locs : List Loc} {cells slots : Nat} {Q : State → Prop}
variable {pc : Nat} {ls : Array Slot} {rest st0 : List Value} {cc : ByteArray} {D : va_G} {A : Nat → Prop} {S : Type} {wf : S → va_W}
/-- the ends of a contract that writes: the answer, the new cells -/
abbrev mQi (D : va_G) (post : Int32 → S → Prop) (wf : S → va_W) (A : Nat → Prop) : Array Value → State → Outcome → State → Prop := va_Qi post (fun u t => va_P D vwCl (wf u) t.heap ∧ va_D A (wf u)) A
abbrev mQv (D : va_G) (post : S → Prop) (wf : S → va_W) (A : Nat → Prop) : Array Value → State → Outcome → State → Prop := va_Qv post (fun u t => va_P D vwCl (wf u) t.heap ∧ va_D A (wf u)) A
theorem mu_iret {post : Int32 → S → Prop} {v : Int32} (hx : p.tables.exec = Jvm.exec) (hb : c.code = cc) (hr : meth.sig.returnType = some .int) (hlocks : meth.locks = false) (u : S) (hp : post v u) (hP : va_P D vwCl (wf u) H) (hD : va_D A (wf u)) (hS : va_S A s.heap H locs) (hdg : decode cc pc = .ok (.ireturn, 1)) :
    W p l e R s m args below meth c H locs cells slots (MQ below (mQi D post wf A) args s cells slots A) (F0 m pc ls [.int v]) :=
  W.iret hx hb hr (fun t ht _ => ⟨⟨v, u, rfl, hp, by rw [ht]; exact hP, hD⟩, hS.F ht⟩) hS.2.2 hdg hlocks
theorem mu_zret {post : Int32 → S → Prop} {v : Int32} (hx : p.tables.exec = Jvm.exec) (hb : c.code = cc) (hr : meth.sig.returnType = some .boolean) (hlocks : meth.locks = false) (hn : narrow .boolean (.int v) = .int v) (u : S) (hp : post v u) (hP : va_P D vwCl (wf u) H) (hD : va_D A (wf u)) (hS : va_S A s.heap H locs) (hdg : decode cc pc = .ok (.ireturn, 1)) :
    W p l e R s m args below meth c H locs cells slots (MQ below (mQi D post wf A) args s cells slots A) (F0 m pc ls [.int v]) :=
  W.zret hx hb hr hn (fun t ht _ => ⟨⟨v, u, rfl, hp, by rw [ht]; exact hP, hD⟩, hS.F ht⟩) hS.2.2 hdg hlocks
theorem mu_vret {post : S → Prop} (hx : p.tables.exec = Jvm.exec) (hb : c.code = cc) (hr : meth.sig.returnType = none) (hlocks : meth.locks = false) (u : S) (hp : post u) (hP : va_P D vwCl (wf u) H) (hD : va_D A (wf u)) (hS : va_S A s.heap H locs) (hdg : decode cc pc = .ok (.return_, 1)) :
    W p l e R s m args below meth c H locs cells slots (MQ below (mQv D post wf A) args s cells slots A) (F0 m pc ls []) :=
  W.vret hx hb hr (fun t ht _ => ⟨⟨u, rfl, hp, by rw [ht]; exact hP, hD⟩, hS.F ht⟩) hS.2.2 hdg hlocks
variable {A0 : Nat → Prop} {H0 : Heap} {ws wc wr : va_W} {mc ms : Nat} {a : Array Value}
theorem mu_calli {post : Int32 → S → Prop} (hr : va_Run p l e R s m args below meth c H locs cells slots mc ms (F0 m pc ls st0) rest (mQi D post wf (va_A wc H.size) a) (va_A wc H.size)) (hP : va_P D vwCl ws H) (hD : va_D A0 ws) (hS : va_S A0 H0 H locs) (hA : ∀ q, H0.size ≤ q → A0 q) (isC isR : List Nat) (hC : isC.map (fun i => ws[i]?) = wc.map some) (hR : isR.map (fun i => ws[i]?) = wr.map some) (hn : va_nd isR = true) (hdis : ∀ i ∈ isR, i ∉ isC)
    (kk : ∀ (r : Int32) (u : S) (H1 : Heap) (locs1 : List Loc), post r u → va_P D vwCl (wr ++ wf u) H1 → va_D A0 (wr ++ wf u) → va_S A0 H0 H1 locs1 → W p l e R s m args below meth c H1 locs1 (cells + mc) (slots + ms) Q (F0 m (pc + 3) ls (.int r :: rest))) : W p l e R s m args below meth c H locs cells slots Q (F0 m pc ls st0) := by
  have hFc := va_free (wc := wc) hD hS hA isC hC
  refine va_calli hr hS (fun q _ h => hFc q h) hFc (fun r u t H1 locs1 ht hvm hw hB hz1 hk1 hS1 => ?_)
  obtain ⟨hP1, hD1⟩ := hB
  rw [ht] at hP1
  obtain ⟨hP2, hD2⟩ := va_join (wr := wr) (w1 := wf u) hP hD isC isR hC hR hn hdis hk1 hFc hP1 hD1
  exact kk r u H1 locs1 hw hP2 hD2 hS1
theorem mu_callv {post : S → Prop} (hr : va_Run p l e R s m args below meth c H locs cells slots mc ms (F0 m pc ls st0) rest (mQv D post wf (va_A wc H.size) a) (va_A wc H.size)) (hP : va_P D vwCl ws H) (hD : va_D A0 ws) (hS : va_S A0 H0 H locs) (hA : ∀ q, H0.size ≤ q → A0 q) (isC isR : List Nat) (hC : isC.map (fun i => ws[i]?) = wc.map some) (hR : isR.map (fun i => ws[i]?) = wr.map some) (hn : va_nd isR = true) (hdis : ∀ i ∈ isR, i ∉ isC)
    (kk : ∀ (u : S) (H1 : Heap) (locs1 : List Loc), post u → va_P D vwCl (wr ++ wf u) H1 → va_D A0 (wr ++ wf u) → va_S A0 H0 H1 locs1 → W p l e R s m args below meth c H1 locs1 (cells + mc) (slots + ms) Q (F0 m (pc + 3) ls rest)) : W p l e R s m args below meth c H locs cells slots Q (F0 m pc ls st0) := by
  have hFc := va_free (wc := wc) hD hS hA isC hC
  refine va_callv hr hS (fun q _ h => hFc q h) hFc (fun u t H1 locs1 ht hvm hw hB hz1 hk1 hS1 => ?_)
  obtain ⟨hP1, hD1⟩ := hB
  rw [ht] at hP1
  obtain ⟨hP2, hD2⟩ := va_join (wr := wr) (w1 := wf u) hP hD isC isR hC hR hn hdis hk1 hFc hP1 hD1
  exact kk u H1 locs1 hw hP2 hD2 hS1
theorem n_if_gt {a : Nat} {off : Int} {tgt : Nat} (hx : p.tables.exec = Jvm.exec) (hb : c.code = cc) (hdg : decode cc pc = .ok (.ifCond .gt off, 3)) (ht : (pc : Int) + off = (tgt : Int)) (ha : a < 2 ^ 31)
    (kt : 0 < a → W p l e R s m args below meth c H locs cells slots Q (F0 m tgt ls rest)) (kf : a = 0 → W p l e R s m args below meth c H locs cells slots Q (F0 m (pc + 3) ls rest)) : W p l e R s m args below meth c H locs cells slots Q (F0 m pc ls (.int (nI a) :: rest)) :=
  lv_if_gt hx hb hdg ht (fun h => kt (by
    rcases Nat.eq_zero_or_pos a with q | q
    · exact absurd (by rw [q, nI_0] at h; exact h) (Int32.lt_irrefl)
    · exact q)) (fun h => kf (by
    rcases Nat.eq_zero_or_pos a with q | q
    · exact q
    · exact absurd (by rw [← nI_0]; exact nI_lt q ha) h))
end Rows4
/-- a counted loop that writes -/
theorem loopH {σ : Type} {m : MethodId} {D : va_G} {A : Nat → Prop} {H0 : Heap} {Wf : Heap → List Loc → JFrame → Prop} (head nL : Nat) (lvf : Nat → σ → List (Nat × Value)) (wf : Nat → σ → va_W) (Inv : Nat → σ → Prop) (N : Nat)
    (step : ∀ (i : Nat) (x : σ) (ls : Array Slot) (H : Heap) (locs : List Loc), i < N → Inv i x → va_P D vwCl (wf i x) H → va_D A (wf i x) → va_S A H0 H locs → lv_has ls nL (lvf i x) →
      (∀ (x' : σ) (ls' : Array Slot) (H' : Heap) (locs' : List Loc), Inv (i + 1) x' → va_P D vwCl (wf (i + 1) x') H' → va_D A (wf (i + 1) x') → va_S A H0 H' locs' → lv_has ls' nL (lvf (i + 1) x') → Wf H' locs' (F0 m head ls' [])) → Wf H locs (F0 m head ls []))
    (exit : ∀ (x : σ) (ls : Array Slot) (H : Heap) (locs : List Loc), Inv N x → va_P D vwCl (wf N x) H → va_D A (wf N x) → va_S A H0 H locs → lv_has ls nL (lvf N x) → Wf H locs (F0 m head ls [])) :
    ∀ (i : Nat) (x : σ) (ls : Array Slot) (H : Heap) (locs : List Loc), i ≤ N → Inv i x → va_P D vwCl (wf i x) H → va_D A (wf i x) → va_S A H0 H locs → lv_has ls nL (lvf i x) → Wf H locs (F0 m head ls []) := by
  have key : ∀ (n i : Nat) (x : σ) (ls : Array Slot) (H : Heap) (locs : List Loc), N - i = n → i ≤ N → Inv i x → va_P D vwCl (wf i x) H → va_D A (wf i x) → va_S A H0 H locs → lv_has ls nL (lvf i x) → Wf H locs (F0 m head ls []) := by
    intro n
    induction n with
    | zero =>
      intro i x ls H locs h1 h2 hI hP hD hS hl
      obtain rfl : i = N := by omega
      exact exit x ls H locs hI hP hD hS hl
    | succ n ih =>
      intro i x ls H locs h1 h2 hI hP hD hS hl
      exact step i x ls H locs (by omega) hI hP hD hS hl (fun x' ls' H' locs' hI' hP' hD' hS' hl' => ih (i + 1) x' ls' H' locs' (by omega) (by omega) hI' hP' hD' hS' hl')
  exact fun i x ls H locs h hI hP hD hS hl => key _ i x ls H locs rfl h hI hP hD hS hl
/-- a loop that writes, by a measure -/
theorem loopHM {σ : Type} {m : MethodId} {D : va_G} {A : Nat → Prop} {H0 : Heap} {Wf : Heap → List Loc → JFrame → Prop} (head nL : Nat) (lvf : σ → List (Nat × Value)) (wf : σ → va_W) (Inv : σ → Prop) (μ : σ → Nat)
    (step : ∀ (x : σ) (ls : Array Slot) (H : Heap) (locs : List Loc), Inv x → va_P D vwCl (wf x) H → va_D A (wf x) → va_S A H0 H locs → lv_has ls nL (lvf x) →
      (∀ (x' : σ) (ls' : Array Slot) (H' : Heap) (locs' : List Loc), Inv x' → μ x' < μ x → va_P D vwCl (wf x') H' → va_D A (wf x') → va_S A H0 H' locs' → lv_has ls' nL (lvf x') → Wf H' locs' (F0 m head ls' [])) → Wf H locs (F0 m head ls [])) :
    ∀ (x : σ) (ls : Array Slot) (H : Heap) (locs : List Loc), Inv x → va_P D vwCl (wf x) H → va_D A (wf x) → va_S A H0 H locs → lv_has ls nL (lvf x) → Wf H locs (F0 m head ls []) := by
  have key : ∀ (n : Nat) (x : σ) (ls : Array Slot) (H : Heap) (locs : List Loc), μ x < n → Inv x → va_P D vwCl (wf x) H → va_D A (wf x) → va_S A H0 H locs → lv_has ls nL (lvf x) → Wf H locs (F0 m head ls []) := by
    intro n
    induction n with
    | zero => intro x ls H locs h; exact absurd h (Nat.not_lt_zero _)
    | succ n ih => exact fun x ls H locs h hI hP hD hS hl => step x ls H locs hI hP hD hS hl (fun x' ls' H' locs' hI' h' hP' hD' hS' hl' => ih x' ls' H' locs' (by omega) hI' hP' hD' hS' hl')
  exact fun x ls H locs hI hP hD hS hl => key _ x ls H locs (Nat.lt_succ_self _) hI hP hD hS hl
