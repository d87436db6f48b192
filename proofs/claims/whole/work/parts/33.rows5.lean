-- ===== more rows and words for the reference's table =====
theorem or_n (a b : Nat) : nI a ||| nI b = nI (a ||| b) := by
  apply Int32.toBitVec_inj.mp
  simp [nI, BitVec.ofNat_or]
theorem sm_k : ∀ k, k < 32 → ((nI k &&& 31).toBitVec.smod 32).toNat = k := by decide +kernel
theorem shl_n {a k : Nat} (hk : k < 32) (h : a * 2 ^ k < 2 ^ 32) : nI a <<< (nI k &&& 31) = nI (a * 2 ^ k) := pk_shlN _ k (sm_k k hk) h
theorem shr_n {a k : Nat} (hk : k < 32) (h : a < 2 ^ 31) : nI a >>> (nI k &&& 31) = nI (a / 2 ^ k) := pk_shrN h _ k (sm_k k hk)
theorem and1_n {a : Nat} (h : a < 2 ^ 32) : nI a &&& nI 1 = nI (a % 2) := pk_andN h (m := nI 1) 1 (by decide)
section Rows5
variable {p : Program} {l : Launch} {e : Env} {R : Room} {s : State} {m : MethodId} {args : Array Value} {below : List Frame} {meth : Method} {c : Code} {H : Heap} {locs : List Loc} {cells slots : Nat} {Q : State → Prop}
variable {pc : Nat} {ls : Array Slot} {rest st0 : List Value} {cc : ByteArray}
theorem z_if_le {a : Int} {off : Int} {tgt : Nat} (hx : p.tables.exec = Jvm.exec) (hb : c.code = cc) (hdg : decode cc pc = .ok (.ifCond .le off, 3)) (ht : (pc : Int) + off = (tgt : Int)) (ha : zB a)
    (kt : a ≤ 0 → W p l e R s m args below meth c H locs cells slots Q (F0 m tgt ls rest)) (kf : 0 < a → W p l e R s m args below meth c H locs cells slots Q (F0 m (pc + 3) ls rest)) : W p l e R s m args below meth c H locs cells slots Q (F0 m pc ls (.int (zI a) :: rest)) :=
  have b0 : zB 0 := by unfold zB; omega
  lv_if_le hx hb hdg ht (fun h => kt ((zI_le ha b0).mp h)) (fun h => kf (Int.not_le.mp fun q => h ((zI_le ha b0).mpr q)))
theorem z_if_ge {a : Int} {off : Int} {tgt : Nat} (hx : p.tables.exec = Jvm.exec) (hb : c.code = cc) (hdg : decode cc pc = .ok (.ifCond .ge off, 3)) (ht : (pc : Int) + off = (tgt : Int)) (ha : zB a)
    (kt : 0 ≤ a → W p l e R s m args below meth c H locs cells slots Q (F0 m tgt ls rest)) (kf : a < 0 → W p l e R s m args below meth c H locs cells slots Q (F0 m (pc + 3) ls rest)) : W p l e R s m args below meth c H locs cells slots Q (F0 m pc ls (.int (zI a) :: rest)) :=
  have b0 : zB 0 := by unfold zB; omega
  lv_if_ge hx hb hdg ht (fun h => kt ((zI_le b0 ha).mp h)) (fun h => kf (Int.not_le.mp fun q => h ((zI_le b0 ha).mpr q)))
end Rows5
def tuZ (z : Int) : Int := if 0 < z then -1 - z else if z < 0 then 1 - z else 0
def rkZ (z : Int) : Int := if 0 < z then 1000 - z else if z < 0 then -1000 - z else 0
/-- probing: the first place from a on where st holds, k steps at most -/
def prb (st : Nat → Bool) : Nat → Nat → Nat
  | 0, a => a
  | k + 1, a => if st a then a else prb st k ((a + 1) % 262144)
def stB (sl wh sb : Nat → Nat) (hw b : Nat) (a : Nat) : Bool := decide (sl a = 0) || (decide (wh (sl a - 1) = hw) && decide (sb (sl a - 1) = b))
def hsN (hw b : Nat) : Nat := (hw * 4099 + b * 31) % 262144
/-- the mixed radix of the heights -/
def prN (h : Nat) (ht : Nat → Nat) : Nat → Nat
  | 0 => 1
  | c + 1 => prN h ht c * (h - ht c + 1)
def ofN (h : Nat) (ht : Nat → Nat) : Nat → Nat
  | 0 => 0
  | c + 1 => ofN h ht c + h - ht c
def dgN (h : Nat) (ht : Nat → Nat) (W0 c : Nat) : Nat := W0 / prN h ht c % (h - ht c + 1)
theorem prN_pos (h : Nat) (ht : Nat → Nat) : ∀ c, 0 < prN h ht c
  | 0 => Nat.one_pos
  | c + 1 => Nat.mul_pos (prN_pos h ht c) (Nat.succ_pos _)
theorem dgN_lt (h : Nat) (ht : Nat → Nat) (W0 c : Nat) : dgN h ht W0 c ≤ h - ht c := Nat.lt_succ_iff.mp (Nat.mod_lt _ (Nat.succ_pos _))
def cpF (B Sn : Nat → Int32) (k : Nat) : Nat → Int32 := fun j => if j < k then B j else Sn j
theorem cpF_0 (B Sn : Nat → Int32) : cpF B Sn 0 = Sn := by funext j; simp [cpF]
theorem cpF_s (B Sn : Nat → Int32) (k : Nat) : upd (cpF B Sn k) k (B k) = cpF B Sn (k + 1) := by
  funext j
  by_cases e : j = k
  · subst e; rw [pk_us]; simp [cpF]
  · rw [pk_un e]; unfold cpF
    by_cases h : j < k
    · rw [if_pos h, if_pos (by omega)]
    · rw [if_neg h, if_neg (by omega)]
/-- the board with the first c columns' further stones -/
def shS (h : Nat) (B : Nat → Int32) (ht of_ : Nat → Nat) (W0 b : Nat) (Sn : Nat → Int32) (c : Nat) : Nat → Int32 := fun j => if j / 7 < c ∧ ht (j / 7) ≤ j % 7 ∧ j % 7 < ht (j / 7) + dgN h ht W0 (j / 7) then nI (b / 2 ^ (of_ (j / 7) + (j % 7 - ht (j / 7))) % 2) else cpF B Sn 63 j
def sh2 (h : Nat) (B : Nat → Int32) (ht of_ : Nat → Nat) (W0 b : Nat) (Sn : Nat → Int32) (c i : Nat) : Nat → Int32 := fun j => if j / 7 = c ∧ ht c ≤ j % 7 ∧ j % 7 < ht c + i then nI (b / 2 ^ (of_ c + (j % 7 - ht c)) % 2) else shS h B ht of_ W0 b Sn c j
def tpS (h : Nat) (ht tp : Nat → Nat) (W0 c : Nat) : Nat → Nat := fun j => if j < c then ht j + dgN h ht W0 j else tp j
theorem shS_0 (h : Nat) (B : Nat → Int32) (ht of_ : Nat → Nat) (W0 b : Nat) (Sn : Nat → Int32) : shS h B ht of_ W0 b Sn 0 = cpF B Sn 63 := by funext j; simp [shS]
theorem tpS_0 (h : Nat) (ht tp : Nat → Nat) (W0 : Nat) : tpS h ht tp W0 0 = tp := by funext j; simp [tpS]
theorem sh2_0 (h : Nat) (B : Nat → Int32) (ht of_ : Nat → Nat) (W0 b : Nat) (Sn : Nat → Int32) (c : Nat) : sh2 h B ht of_ W0 b Sn c 0 = shS h B ht of_ W0 b Sn c := by
  funext j
  unfold sh2
  rw [if_neg (by omega)]
theorem sh2_e (h : Nat) (B : Nat → Int32) (ht of_ : Nat → Nat) (W0 b : Nat) (Sn : Nat → Int32) (c : Nat) : sh2 h B ht of_ W0 b Sn c (dgN h ht W0 c) = shS h B ht of_ W0 b Sn (c + 1) := by
  funext j
  unfold sh2 shS
  by_cases e : j / 7 = c
  · subst e
    by_cases q : ht (j / 7) ≤ j % 7 ∧ j % 7 < ht (j / 7) + dgN h ht W0 (j / 7)
    · rw [if_pos ⟨rfl, q⟩, if_pos ⟨by omega, q⟩]
    · rw [if_neg (fun z => q z.2), if_neg (fun z => q z.2), if_neg (fun z => q z.2)]
  · rw [if_neg (fun z => e z.1)]
    by_cases q : j / 7 < c
    · by_cases q2 : ht (j / 7) ≤ j % 7 ∧ j % 7 < ht (j / 7) + dgN h ht W0 (j / 7)
      · rw [if_pos ⟨q, q2⟩, if_pos ⟨by omega, q2⟩]
      · rw [if_neg (fun z => q2 z.2), if_neg (fun z => q2 z.2)]
    · rw [if_neg (fun z => q z.1), if_neg (fun z => absurd z.1 (by omega))]
theorem sh2_s {h : Nat} {B : Nat → Int32} {ht of_ : Nat → Nat} {W0 b : Nat} {Sn : Nat → Int32} {c i : Nat} (hi : ht c + i < 7) : upd (sh2 h B ht of_ W0 b Sn c i) (7 * c + ht c + i) (nI (b / 2 ^ (of_ c + i) % 2)) = sh2 h B ht of_ W0 b Sn c (i + 1) := by
  have d1 : (7 * c + ht c + i) / 7 = c := by omega
  have d2 : (7 * c + ht c + i) % 7 = ht c + i := by omega
  funext j
  by_cases e : j = 7 * c + ht c + i
  · subst e
    rw [pk_us]
    unfold sh2
    rw [d1, d2, if_pos ⟨rfl, by omega, by omega⟩, show ht c + i - ht c = i by omega]
  · rw [pk_un e]
    unfold sh2
    by_cases q : j / 7 = c ∧ ht c ≤ j % 7 ∧ j % 7 < ht c + i
    · rw [if_pos q, if_pos ⟨q.1, q.2.1, by omega⟩]
    · rw [if_neg q, if_neg (fun z => q ⟨z.1, z.2.1, by
        have := Nat.div_add_mod j 7
        omega⟩)]
theorem tpS_s (h : Nat) (ht tp : Nat → Nat) (W0 c : Nat) : va_up (tpS h ht tp W0 c) c (ht c + dgN h ht W0 c) = tpS h ht tp W0 (c + 1) := by
  funext j
  by_cases e : j = c
  · subst e; rw [va_up_self]; simp [tpS]
  · rw [va_up_ne _ _ e]; unfold tpS
    by_cases q : j < c
    · rw [if_pos q, if_pos (by omega)]
    · rw [if_neg q, if_neg (by omega)]
