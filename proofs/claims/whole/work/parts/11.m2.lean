-- ===== M2: bits of a long =====
def tb (x : Int64) (i : Nat) : Bool := x.toBitVec.getLsbD i
theorem tb_big {x : Int64} {i : Nat} (h : 64 ≤ i) : tb x i = false := BitVec.getLsbD_of_ge _ _ h
theorem tb_ext {x y : Int64} (h : ∀ i, i < 64 → tb x i = tb y i) : x = y := by
  have e : x.toBitVec = y.toBitVec := BitVec.eq_of_getLsbD_eq (fun i hi => h i hi)
  exact Int64.toBitVec_inj.mp e
theorem tb_and (x y : Int64) (i : Nat) : tb (x &&& y) i = (tb x i && tb y i) := by simp [tb]
theorem tb_or (x y : Int64) (i : Nat) : tb (x ||| y) i = (tb x i || tb y i) := by simp [tb]
theorem tb_0 (i : Nat) : tb 0 i = false := by simp [tb]
theorem tb_1 (i : Nat) : tb 1 i = decide (i = 0) := by
  show (BitVec.ofNat 64 1).getLsbD i = _
  rw [BitVec.getLsbD_ofNat]
  by_cases h : i = 0
  · subst h; decide
  · rw [decide_eq_false h]
    cases hi : decide (i < 64)
    · rfl
    · simp only [Bool.true_and]
      cases hq : Nat.testBit 1 i
      · rfl
      · exact absurd (Nat.testBit_one_eq_true_iff_self_eq_zero.mp hq) h
theorem tb_not (x : Int64) {i : Nat} (h : i < 64) : tb (x ^^^ (-1)) i = !tb x i := by
  have e : ((-1 : Int64)).toBitVec = BitVec.allOnes 64 := by decide
  simp only [tb, Int64.toBitVec_xor, e, BitVec.getLsbD_xor, BitVec.getLsbD_allOnes, h, decide_true, Bool.xor_true]
theorem sh_k : ∀ k, k < 64 → (((nI k).toInt64 &&& 63).toBitVec.smod 64).toNat = k := by decide +kernel
theorem sh_u : ∀ k, k < 64 → (((nI k).toInt64.toUInt64 &&& Int64.toUInt64 63).toBitVec % 64).toNat = k := by decide +kernel
theorem tb_shl {k : Nat} (hk : k < 64) (x : Int64) {i : Nat} (hi : i < 64) : tb (shlL x k) i = (decide (k ≤ i) && tb x (i - k)) := by
  unfold tb shlL
  rw [Int64.toBitVec_shiftLeft, BitVec.shiftLeft_eq', sh_k k hk, BitVec.getLsbD_shiftLeft]
  by_cases h : i < k
  · simp [h, hi, Nat.not_le.mpr h]
  · simp [h, hi, Nat.not_lt.mp h]
theorem tb_shr {k : Nat} (hk : k < 64) (x : Int64) (i : Nat) : tb (shrL x k) i = tb x (k + i) := by
  unfold tb shrL
  show ((x.toUInt64 >>> ((nI k).toInt64.toUInt64 &&& Int64.toUInt64 63)).toBitVec).getLsbD i = _
  rw [UInt64.toBitVec_shiftRight, BitVec.ushiftRight_eq', sh_u k hk, BitVec.getLsbD_ushiftRight]
  rfl
/-- the number of a long -/
def tN (x : Int64) : Nat := x.toBitVec.toNat
theorem tN_lt (x : Int64) : tN x < 2 ^ 64 := x.toBitVec.isLt
theorem tb_tN (x : Int64) (i : Nat) : tb x i = (tN x).testBit i := rfl
theorem tN_add (x y : Int64) : tN (x + y) = (tN x + tN y) % 2 ^ 64 := by simp [tN, Int64.toBitVec_add, BitVec.toNat_add]
theorem tN_inj {x y : Int64} (h : tN x = tN y) : x = y := Int64.toBitVec_inj.mp (BitVec.eq_of_toNat_eq h)
/-- digits: the number whose c-th digit of b bits is v c -/
def dgs (b : Nat) (v : Nat → Nat) : Nat → Nat
  | 0 => 0
  | n + 1 => 2 ^ (b * n) * v n + dgs b v n
theorem dgs_lt {b : Nat} {v : Nat → Nat} : ∀ {n : Nat}, (∀ c, c < n → v c < 2 ^ b) → dgs b v n < 2 ^ (b * n)
  | 0, _ => by simp [dgs]
  | n + 1, h => by
    have i1 := dgs_lt (n := n) (fun c hc => h c (by omega))
    have i2 := h n (by omega)
    have e : 2 ^ (b * (n + 1)) = 2 ^ (b * n) * 2 ^ b := by rw [Nat.mul_succ, Nat.pow_add]
    rw [e]
    calc dgs b v (n + 1) = 2 ^ (b * n) * v n + dgs b v n := rfl
      _ < 2 ^ (b * n) * v n + 2 ^ (b * n) := by omega
      _ = 2 ^ (b * n) * (v n + 1) := by rw [Nat.mul_succ]
      _ ≤ 2 ^ (b * n) * 2 ^ b := Nat.mul_le_mul_left _ i2
theorem dgs_bit {b : Nat} {v : Nat → Nat} (hb : 0 < b) : ∀ {n : Nat}, (∀ c, c < n → v c < 2 ^ b) → ∀ c r, r < b → (dgs b v n).testBit (b * c + r) = (decide (c < n) && (v c).testBit r)
  | 0, _, c, r, _ => by simp [dgs]
  | n + 1, h, c, r, hr => by
    have hv : ∀ c, c < n → v c < 2 ^ b := fun c hc => h c (by omega)
    show (2 ^ (b * n) * v n + dgs b v n).testBit (b * c + r) = _
    rw [Nat.testBit_two_pow_mul_add _ (dgs_lt hv)]
    by_cases h1 : c < n
    · have h2 : b * c + r < b * n := by
        have : b * (c + 1) ≤ b * n := Nat.mul_le_mul_left _ h1
        rw [Nat.mul_succ] at this; omega
      rw [if_pos h2, dgs_bit hb hv c r hr]
      simp [h1, Nat.lt_succ_of_lt h1]
    · have h2 : ¬ b * c + r < b * n := by
        have : b * n ≤ b * c := Nat.mul_le_mul_left _ (by omega)
        omega
      rw [if_neg h2]
      by_cases h3 : c = n
      · subst h3
        simp
      · have h4 : b ≤ b * c + r - b * n := by
          have : b * (n + 1) ≤ b * c := Nat.mul_le_mul_left _ (by omega)
          rw [Nat.mul_succ] at this; omega
        have h5 : v n < 2 ^ (b * c + r - b * n) := Nat.lt_of_lt_of_le (h n (by omega)) (Nat.pow_le_pow_right (by decide) h4)
        rw [Nat.testBit_lt_two_pow h5]
        simp [show ¬ c < n + 1 by omega]
theorem dgs_add (b : Nat) (u v : Nat → Nat) : ∀ n, dgs b u n + dgs b v n = dgs b (fun c => u c + v c) n
  | 0 => rfl
  | n + 1 => by
    have := dgs_add b u v n
    simp only [dgs, Nat.mul_add]
    omega
theorem dgs_congr {b : Nat} {u v : Nat → Nat} : ∀ {n : Nat}, (∀ c, c < n → u c = v c) → dgs b u n = dgs b v n
  | 0, _ => rfl
  | n + 1, h => by
    simp only [dgs]
    rw [h n (by omega), dgs_congr (n := n) (fun c hc => h c (by omega))]
theorem tN_shr {k : Nat} (hk : k < 64) (x : Int64) : tN (shrL x k) = tN x / 2 ^ k := by
  apply Nat.eq_of_testBit_eq
  intro i
  rw [← tb_tN, tb_shr hk, tb_tN, Nat.testBit_div_two_pow, Nat.add_comm]
theorem tN_toI {x : Int64} (h : tN x < 2 ^ 31) : x.toInt32 = nI (tN x) := by
  have e : x.toInt32.toBitVec = (nI (tN x)).toBitVec := by
    apply BitVec.eq_of_toNat_eq
    have e1 : x.toInt32.toBitVec.toNat = tN x % 2 ^ 32 := by
      rw [Int64.toBitVec_toInt32, BitVec.signExtend_eq_setWidth_of_le _ (by decide), BitVec.toNat_setWidth]; rfl
    rw [e1, pk_tn (by omega)]
    omega
  exact Int32.toBitVec_inj.mp e
/-- the slot of a key -/
def slN (k : Int64) : Nat := tN (k * (-7046029254386353131)) / 2 ^ 54
theorem slN_lt (k : Int64) : slN k < 1024 := by
  have := tN_lt (k * (-7046029254386353131))
  unfold slN
  omega
theorem slN_I (k : Int64) : (shrL (k * (-7046029254386353131)) 54).toInt32 = nI (slN k) := by
  have h := slN_lt k
  have e : tN (shrL (k * (-7046029254386353131)) 54) = slN k := tN_shr (by decide) _
  rw [tN_toI (by rw [e]; omega), e]
