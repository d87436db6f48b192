def R_law : String := "DropFourLaw"
def lw_P (b : Addr) (xs : List Int32) (args : Array Value) (s : State) : Prop := args = #[.ref b] ∧ s.IntsAt b xs ∧ xs.length ≤ 1538 ∧ (Jvm.Cond.and given_1 narrow_1).before args s = true
def lw_Q (_ : Array Value) (s : State) (o : Outcome) (t : State) : Prop := o = .returned (some (.int 1)) ∧ Framed s o t [] 601024 7293000
def lw_Z (below : List Frame) (a : Array Value) (s : State) : State → Prop := fun t => ∃ o, t.status = .running ∧ Ended t below o ∧ lw_Q a s o t
/-- the law's own end, with 1 on the stack, nothing written that was there before, its room as the claim has it -/
theorem lw_ret {p : Program} {l : Launch} {e : Env} {s : State} {m : MethodId} {below : List Frame} {meth : Method} {c : Code} {b : Nat} (hx : p.tables.exec = Jvm.exec) (hb : c.code = code) (hr : meth.sig.returnType = ret) (hlocks : meth.locks = false) {pc : Nat} {H : Heap} {ls : Array Slot} (hdg : decode code pc = .ok (.ireturn, 1)) : W p l e room_1 s m #[Value.ref b] below meth c H [] 601024 7293000 (lw_Z below #[Value.ref b] s) (F0 m pc ls [.int 1]) := by
  intro T hT X
  obtain ⟨fs, hret, hrun, hended, hW, hframe⟩ := X.leave (v := some (.int 1)) (hlocks := hlocks) (fun h => by rw [hr] at h; cases h)
  have hmeth' : T.vm.method? m = some meth := X.method'
  refine ⟨T.setFrames fs, ?_, .returned (some (.int 1)), hrun, hended, rfl, ⟨_, rfl⟩, hW, hframe⟩
  jvm_step X.here [X.here.top, hx, hb, hdg, hmeth', hr, ret, narrow_b1]
  (try refine ⟨rfl, ?_⟩); (try refine ⟨rfl, ?_⟩)
  first | (intro acts; rw [hret _ acts rfl rfl rfl]) | rw [hret _ _ rfl rfl rfl]
  exact Steps.refl _
/-- what holds at the law's entry: the machine, the code, the tables' words (any of lw_tbl by 'hts w (by decide +kernel)'), the script of L ints xs at the cell b, what the Statement gives of the start (any of its parts by flat_of_before) -/
def lw_At (p : Program) (s : State) (m : MethodId) (meth : Method) (c : Code) (b L : Nat) (xs : Nat → Int32) : Prop :=
  p.tables.exec = Jvm.exec ∧ c.code = code ∧ meth.sig.returnType = ret ∧ c.maxLocals = 7 ∧ s.vm.findClass R_law = some m.cls ∧ (∀ w ∈ lw_tbl, w.before #[Value.ref b] s = true) ∧ va_X b L xs s s.heap ∧ b < s.heap.size ∧ meth.locks = false ∧ (Jvm.Cond.and given_1 narrow_1).before #[Value.ref b] s = true
-- ===== the law's loop =====
theorem and15 (x : Int32) : ∃ t, t < 16 ∧ x &&& 15 = nI t := by
  refine ⟨(x &&& 15).toBitVec.toNat, ?_, ?_⟩
  · rw [Int32.toBitVec_and, BitVec.toNat_and]
    exact Nat.and_lt_two_pow (n := 4) _ (by decide)
  · apply Int32.toBitVec_inj.mp
    unfold nI
    rw [Int32.toBitVec_ofNat', BitVec.ofNat_toNat, BitVec.setWidth_eq]
set_option maxHeartbeats 4000000 in
set_option maxRecDepth 100000 in
theorem law_loop {p : Program} {e : Env} {s : State} {m : MethodId} {below : List Frame} {meth : Method} {cd : Code} (l : Launch) (hlt : l.stackTraces = false) {b L : Nat} {xs : Nat → Int32} {D : va_G} {cI cJ cZ : ClassId} {w h x ou : Nat} {ax ad : Nat → Nat} (E0 : LwC p s m meth cd b L xs D cI cJ cZ w h) :
    ∀ (n j : Nat) (d : List Nat) (cs : CtS) (rs : RfS) (O : Nat → Int64) (H : Heap) (locs : List Loc) (ls : Array Slot), L ≤ 2 + 3 * j + n → j ≤ 512 → LwI s D cI cJ cZ w h x ou ax ad d cs rs O H locs → lv_has ls 7 [(0, .ref b), (1, .ref x), (2, .ref (ad 0)), (3, .ref ou), (4, .int (nI (2 + 3 * j)))] →
      W p l e room_1 s m #[Value.ref b] below meth cd H locs (29 + j) (481613 + 6 * j) (lw_Z below #[Value.ref b] s) (F0 m 43 ls []) := by
  intro n
  induction n with
  | zero =>
    intro j d cs rs O H locs ls hn hj I0 hl
    obtain ⟨hx, hb, hr, hml, hown, hts, hX, hbl, hlocks, hK, hN, hT, hZ, hc0, hd, hL⟩ := id E0
    obtain ⟨GG, C, K, hP, hD, hS⟩ := id I0
    have hbA : ¬ (fun q : Nat => s.heap.size ≤ q) b := Nat.not_le.mpr hbl
    refine lv_iload hx hb dL_law_43 (lv_at hl 4 rfl) ?_
    refine lv_aload_n hx hb dL_law_45 rfl (lv_at hl 0 rfl) ?_
    refine va_slen hx hb hX hbl hbA hS dL_law_46 ?_
    refine rt_i (v := zI (L : Int)) (zI_n L).symm ?_
    refine lv_iconst (v := zI 3) hx hb dL_law_47 (by decide) ?_
    refine z_isub hx hb dL_law_48 ?_
    refine rt_2 (a := zI ((2 + 3 * j : Nat) : Int)) (b := zI ((L : Int) - 3)) (zI_n _).symm rfl ?_
    refine z_icmp_gt (tgt := 640) hx hb dL_law_49 (by decide) (by unfold zB; omega) (by unfold zB; omega) (fun c1 => ?_) (fun c1 => absurd c1 (by omega))
    refine va_forget (fun q hq => hS.2.2 q hq) ?_
    refine W.widen (k := 601024) (n := 7293000) (by omega) (by omega) ?_
    refine lv_iconst (v := 1) hx hb dL_law_640 (by decide) ?_
    exact lw_ret hx hb hr hlocks dL_law_641
  | succ n ih =>
    intro j d cs rs O H locs ls hn hj I0 hl
    obtain ⟨hx, hb, hr, hml, hown, hts, hX, hbl, hlocks, hK, hN, hT, hZ, hc0, hd, hL⟩ := id E0
    obtain ⟨GG, C, K, hP, hD, hS⟩ := id I0
    have hbA : ¬ (fun q : Nat => s.heap.size ≤ q) b := Nat.not_le.mpr hbl
    refine lv_iload hx hb dL_law_43 (lv_at hl 4 rfl) ?_
    refine lv_aload_n hx hb dL_law_45 rfl (lv_at hl 0 rfl) ?_
    refine va_slen hx hb hX hbl hbA hS dL_law_46 ?_
    refine rt_i (v := zI (L : Int)) (zI_n L).symm ?_
    refine lv_iconst (v := zI 3) hx hb dL_law_47 (by decide) ?_
    refine z_isub hx hb dL_law_48 ?_
    refine rt_2 (a := zI ((2 + 3 * j : Nat) : Int)) (b := zI ((L : Int) - 3)) (zI_n _).symm rfl ?_
    refine z_icmp_gt (tgt := 640) hx hb dL_law_49 (by decide) (by unfold zB; omega) (by unfold zB; omega) (fun c1 => ?_) (fun c1 => ?_)
    · refine va_forget (fun q hq => hS.2.2 q hq) ?_
      refine W.widen (k := 601024) (n := 7293000) (by omega) (by omega) ?_
      refine lv_iconst (v := 1) hx hb dL_law_640 (by decide) ?_
      exact lw_ret hx hb hr hlocks dL_law_641
    have hi : 2 + 3 * j + 2 < L := by omega
    refine lv_aload_n hx hb dL_law_52 rfl (lv_at hl 0 rfl) ?_
    refine lv_iload hx hb dL_law_53 (lv_at hl 4 rfl) ?_
    refine va_sld hx hb hX hbl hbA hS (vp_in_nI (n := 2 + 3 * j) (N := L) (by omega) (by omega)) dL_law_55 ?_
    refine lv_bipush (v := 15) hx hb dL_law_56 (by decide) ?_
    refine lv_iand hx hb dL_law_58 ?_
    have hl0 := hl
    have kk : ∀ (d : List Nat) (cs : CtS) (rs : RfS) (O : Nat → Int64) (H : Heap) (locs : List Loc) (ls : Array Slot), LwI s D cI cJ cZ w h x ou ax ad d cs rs O H locs → lv_has ls 7 [(0, .ref b), (1, .ref x), (2, .ref (ad 0)), (3, .ref ou), (4, .int (nI (2 + 3 * j)))] → W p l e room_1 s m #[Value.ref b] below meth cd H locs (29 + j + 1) (481613 + 6 * j + 6) (lw_Z below #[Value.ref b] s) (F0 m 634 ls []) := by
      intro d cs rs O H locs ls I hl
      refine n_iinc (n := 3) (lv' := [(4, .int (nI (2 + 3 * j + 3))), (0, .ref b), (1, .ref x), (2, .ref (ad 0)), (3, .ref ou)]) hx hb dL_law_634 hl (k := 4) rfl (by decide) rfl (fun ls hl => ?_)
      refine lv_goto (tgt := 43) hx hb dL_law_637 (by decide) ?_
      refine W.widen (k := 29 + (j + 1)) (n := 481613 + 6 * (j + 1)) (by omega) (by omega) ?_
      rw [show 2 + 3 * j + 3 = 2 + 3 * (j + 1) by omega] at hl
      exact ih (j + 1) d cs rs O H locs ls (by omega) (by omega) I (lv_sub hl [1, 2, 3, 4, 0] rfl)
    have hcl : 29 + j + 1 ≤ 601024 := by omega
    have hsl : 481613 + 6 * j + 6 ≤ 7293000 := by omega
    obtain ⟨t, ht16, et⟩ := and15 (xs (nI (2 + 3 * j)).toNatClampNeg)
    rw [et]
    obtain rfl | rfl | rfl | rfl | rfl | rfl | rfl | rfl | rfl | rfl | rfl | rfl | h12 : t = 0 ∨ t = 1 ∨ t = 2 ∨ t = 3 ∨ t = 4 ∨ t = 5 ∨ t = 6 ∨ t = 7 ∨ t = 8 ∨ t = 9 ∨ t = 10 ∨ t = 11 ∨ 12 ≤ t := by omega
    · exact lv_tableIn (tgt := 120) hx hb dL_law_59 (by decide) (by decide) (off := 61) (by decide) (by decide) (k_drop l hlt E0 I0 hi hcl hsl hl kk)
    · exact lv_tableIn (tgt := 176) hx hb dL_law_59 (by decide) (by decide) (off := 117) (by decide) (by decide) (k_back l hlt E0 I0 hi hcl hsl hl kk)
    · exact lv_tableIn (tgt := 220) hx hb dL_law_59 (by decide) (by decide) (off := 161) (by decide) (by decide) (k_turn l hlt E0 I0 hi hcl hsl hl kk)
    · exact lv_tableIn (tgt := 233) hx hb dL_law_59 (by decide) (by decide) (off := 174) (by decide) (by decide) (k_winner l hlt E0 I0 hi hcl hsl hl kk)
    · exact lv_tableIn (tgt := 246) hx hb dL_law_59 (by decide) (by decide) (off := 187) (by decide) (by decide) (k_at l hlt E0 I0 hi hcl hsl hl kk)
    · exact lv_tableIn (tgt := 314) hx hb dL_law_59 (by decide) (by decide) (off := 255) (by decide) (by decide) (k_empty l hlt E0 I0 hi hcl hsl hl kk)
    · exact lv_tableIn (tgt := 327) hx hb dL_law_59 (by decide) (by decide) (off := 268) (by decide) (by decide) (k_open l hlt E0 I0 hi hcl hsl hl kk)
    · exact lv_tableIn (tgt := 383) hx hb dL_law_59 (by decide) (by decide) (off := 324) (by decide) (by decide) (k_threats l hlt E0 I0 hi hcl hsl hl kk)
    · exact lv_tableIn (tgt := 439) hx hb dL_law_59 (by decide) (by decide) (off := 380) (by decide) (by decide) (k_value l hlt E0 I0 hi hcl hsl hl kk)
    · exact lv_tableIn (tgt := 483) hx hb dL_law_59 (by decide) (by decide) (off := 424) (by decide) (by decide) (k_valueOf l hlt E0 I0 hi hcl hsl hl kk)
    · exact lv_tableIn (tgt := 539) hx hb dL_law_59 (by decide) (by decide) (off := 480) (by decide) (by decide) (k_best l hlt E0 I0 hi hcl hsl hl kk)
    · exact lv_tableIn (tgt := 583) hx hb dL_law_59 (by decide) (by decide) (off := 524) (by decide) (by decide) (k_beats l hlt E0 I0 hi hcl hsl hl kk)
    · refine lv_tableOut (tgt := 634) hx hb dL_law_59 (Or.inr (by rw [nI_toInt (by omega)]; omega)) (by decide) ?_
      refine W.widen (k := 29 + j + 1) (n := 481613 + 6 * j + 6) (by omega) (by omega) ?_
      exact kk d cs rs O H locs ls I0 hl
