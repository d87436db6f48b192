-- ===== M3: the number of set bits, as Long.bitCount finds it =====
/-- the number of set bits among the first k -/
def popN (x : Int64) : Nat → Nat
  | 0 => 0
  | k + 1 => popN x k + (if tb x k then 1 else 0)
theorem popN_le (x : Int64) : ∀ k, popN x k ≤ k
  | 0 => Nat.le_refl 0
  | k + 1 => by
    have := popN_le x k
    unfold popN
    split <;> omega
theorem dgs_low (b : Nat) (u : Nat → Nat) : ∀ n, dgs b u (n + 1) = u 0 + 2 ^ b * dgs b (fun c => u (c + 1)) n
  | 0 => by simp [dgs]
  | n + 1 => by
    have ih := dgs_low b u n
    have e : dgs b u (n + 2) = 2 ^ (b * (n + 1)) * u (n + 1) + dgs b u (n + 1) := rfl
    have e2 : dgs b (fun c => u (c + 1)) (n + 1) = 2 ^ (b * n) * u (n + 1) + dgs b (fun c => u (c + 1)) n := rfl
    have e3 : 2 ^ (b * (n + 1)) = 2 ^ b * 2 ^ (b * n) := by rw [Nat.mul_succ, Nat.add_comm, Nat.pow_add]
    rw [e, ih, e2, e3, Nat.mul_add, Nat.mul_assoc]
    omega
theorem dgs_shr {b : Nat} {u : Nat → Nat} {n : Nat} (h0 : u 0 < 2 ^ b) : dgs b u (n + 1) / 2 ^ b = dgs b (fun c => u (c + 1)) n := by
  rw [dgs_low, Nat.add_mul_div_left _ _ (Nat.two_pow_pos b), Nat.div_eq_of_lt h0, Nat.zero_add]
theorem dgs_last {b : Nat} {u : Nat → Nat} {n : Nat} (h : u n = 0) : dgs b u (n + 1) = dgs b u n := by
  show 2 ^ (b * n) * u n + dgs b u n = _
  rw [h]; omega
/-- every other digit, by a mask -/
theorem dgs_mask {b n M : Nat} {u : Nat → Nat} (hb : 0 < b) (hu : ∀ c, c < 2 * n → u c < 2 ^ b) (hM : ∀ i, i < 2 * b * n → M.testBit i = decide (i % (2 * b) < b)) : dgs b u (2 * n) &&& M = dgs (2 * b) (fun c => u (2 * c)) n := by
  apply Nat.eq_of_testBit_eq
  intro i
  obtain ⟨c, r, hr, rfl⟩ : ∃ c r, r < 2 * b ∧ i = 2 * b * c + r := ⟨i / (2 * b), i % (2 * b), Nat.mod_lt _ (by omega), (Nat.div_add_mod i (2 * b)).symm⟩
  have hu2 : ∀ c, c < n → (fun c => u (2 * c)) c < 2 ^ (2 * b) := fun c hc => Nat.lt_of_lt_of_le (hu (2 * c) (by omega)) (Nat.pow_le_pow_right (by decide) (by omega))
  rw [Nat.testBit_and, dgs_bit (by omega) hu2 c r hr]
  have e0 : 2 * b * c = b * (2 * c) := by rw [Nat.mul_assoc, Nat.mul_left_comm]
  by_cases hc : c < n
  · have hi : 2 * b * c + r < 2 * b * n := by
      have : 2 * b * (c + 1) ≤ 2 * b * n := Nat.mul_le_mul_left _ hc
      rw [Nat.mul_succ] at this; omega
    rw [hM _ hi, Nat.mul_add_mod, Nat.mod_eq_of_lt hr]
    by_cases h1 : r < b
    · rw [e0, dgs_bit hb hu (2 * c) r h1]
      simp [h1, hc]
    · have h2 : (u (2 * c)).testBit r = false := Nat.testBit_lt_two_pow (Nat.lt_of_lt_of_le (hu (2 * c) (by omega)) (Nat.pow_le_pow_right (by decide) (by omega)))
      simp [h1, h2]
  · have h3 : dgs b u (2 * n) < 2 ^ (2 * b * c + r) := by
      refine Nat.lt_of_lt_of_le (dgs_lt hu) (Nat.pow_le_pow_right (by decide) ?_)
      have : 2 * b * n ≤ 2 * b * c := Nat.mul_le_mul_left _ (by omega)
      have e : b * (2 * n) = 2 * b * n := by rw [Nat.mul_left_comm, Nat.mul_assoc]
      omega
    rw [Nat.testBit_lt_two_pow h3]
    simp [hc]
/-- the mask behind a shift by one digit: the odd digits -/
theorem dgs_maskS {b n M : Nat} {u : Nat → Nat} (hb : 0 < b) (hn : 0 < n) (hu : ∀ c, c < 2 * n → u c < 2 ^ b) (hM : ∀ i, i < 2 * b * n → M.testBit i = decide (i % (2 * b) < b)) : (dgs b u (2 * n) / 2 ^ b) &&& M = dgs (2 * b) (fun c => u (2 * c + 1)) n := by
  obtain ⟨k, rfl⟩ : ∃ k, n = k + 1 := ⟨n - 1, by omega⟩
  have e1 : dgs b u (2 * (k + 1)) / 2 ^ b = dgs b (fun c => u (c + 1)) (2 * k + 1) := dgs_shr (n := 2 * k + 1) (hu 0 (by omega))
  have e2 : dgs b (fun c => if c < 2 * k + 1 then u (c + 1) else 0) (2 * (k + 1)) = dgs b (fun c => u (c + 1)) (2 * k + 1) := by
    rw [show 2 * (k + 1) = (2 * k + 1) + 1 by omega, dgs_last (by simp)]
    exact dgs_congr (fun c hc => by simp [hc])
  rw [e1, ← e2, dgs_mask hb (fun c hc => by
    by_cases h : c < 2 * k + 1
    · simp only [h, if_true]; exact hu (c + 1) (by omega)
    · simp only [h, if_false]; exact Nat.two_pow_pos b) hM]
  exact dgs_congr (fun c hc => by simp [show 2 * c < 2 * k + 1 by omega])
theorem tN_and (x y : Int64) : tN (x &&& y) = tN x &&& tN y := by simp [tN]
theorem tN_sub {x y : Int64} (h : tN y ≤ tN x) : tN (x - y) = tN x - tN y := by
  have h1 := tN_lt x
  have h2 := tN_lt y
  simp only [tN, Int64.toBitVec_sub, BitVec.toNat_sub] at h ⊢
  simp only [tN] at h1 h2
  omega
theorem tN_addS {x y : Int64} (h : tN x + tN y < 2 ^ 64) : tN (x + y) = tN x + tN y := by rw [tN_add, Nat.mod_eq_of_lt h]
theorem bc_m1 : ∀ i, i < 2 * 1 * 32 → (6148914691236517205 : Nat).testBit i = decide (i % (2 * 1) < 1) := by decide +kernel
theorem bc_m2 : ∀ i, i < 2 * 2 * 16 → (3689348814741910323 : Nat).testBit i = decide (i % (2 * 2) < 2) := by decide +kernel
theorem bc_m4 : ∀ i, i < 2 * 4 * 8 → (1085102592571150095 : Nat).testBit i = decide (i % (2 * 4) < 4) := by decide +kernel
theorem bc_k1 : tN 6148914691236517205 = 6148914691236517205 := by decide +kernel
theorem bc_k2 : tN 3689348814741910323 = 3689348814741910323 := by decide +kernel
theorem bc_k4 : tN 1085102592571150095 = 1085102592571150095 := by decide +kernel
/-- the bits of a long as digits -/
def bt1 (x : Int64) (c : Nat) : Nat := if tb x c then 1 else 0
theorem bt1_le (x : Int64) (c : Nat) : bt1 x c ≤ 1 := by unfold bt1; split <;> omega
theorem bc_0 (x : Int64) : tN x = dgs 1 (bt1 x) 64 := by
  apply Nat.eq_of_testBit_eq
  intro i
  have hu : ∀ c, c < 64 → bt1 x c < 2 ^ 1 := fun c _ => by have := bt1_le x c; omega
  have e := dgs_bit (b := 1) (by decide) hu i 0 (by decide)
  rw [Nat.one_mul, Nat.add_zero] at e
  rw [e, ← tb_tN]
  unfold bt1
  by_cases h : i < 64
  · cases tb x i <;> simp [h]
  · rw [tb_big (by omega)]; simp [h]
theorem bc_1 (x : Int64) : tN (x - (shrL x 1 &&& 6148914691236517205)) = dgs 2 (fun c => bt1 x (2 * c) + bt1 x (2 * c + 1)) 32 := by
  have hu : ∀ c, c < 2 * 32 → bt1 x c < 2 ^ 1 := fun c _ => by have := bt1_le x c; omega
  have e1 : tN (shrL x 1 &&& 6148914691236517205) = dgs 2 (fun c => bt1 x (2 * c + 1)) 32 := by
    rw [tN_and, tN_shr (by decide), bc_k1, bc_0]
    exact dgs_maskS (b := 1) (n := 32) (by decide) (by decide) hu bc_m1
  have e2 : tN x = dgs 2 (fun c => bt1 x (2 * c) + 2 * bt1 x (2 * c + 1)) 32 := by
    apply Nat.eq_of_testBit_eq
    intro i
    obtain ⟨c, r, hr, rfl⟩ : ∃ c r, r < 2 ∧ i = 2 * c + r := ⟨i / 2, i % 2, Nat.mod_lt _ (by omega), (Nat.div_add_mod i 2).symm⟩
    rw [dgs_bit (by decide) (fun c _ => by have h1 := bt1_le x (2 * c); have h2 := bt1_le x (2 * c + 1); show _ < 4; omega) c r hr, ← tb_tN]
    by_cases hc : c < 32
    · simp only [hc, decide_true, Bool.true_and]
      obtain rfl | rfl : r = 0 ∨ r = 1 := by omega
      · unfold bt1
        cases h1 : tb x (2 * c) <;> cases h2 : tb x (2 * c + 1) <;> simp_all <;> decide
      · unfold bt1
        cases h1 : tb x (2 * c) <;> cases h2 : tb x (2 * c + 1) <;> simp_all <;> decide
    · rw [tb_big (by omega)]; simp [hc]
  have e3 : dgs 2 (fun c => bt1 x (2 * c) + bt1 x (2 * c + 1)) 32 + dgs 2 (fun c => bt1 x (2 * c + 1)) 32 = dgs 2 (fun c => bt1 x (2 * c) + 2 * bt1 x (2 * c + 1)) 32 := by
    rw [dgs_add]
    exact dgs_congr (fun c _ => by omega)
  rw [tN_sub (by rw [e1, e2, ← e3]; exact Nat.le_add_left _ _), e1, e2, ← e3]
  exact Nat.add_sub_cancel _ _
theorem bc_2 (a : Int64) (v : Nat → Nat) (hv : ∀ c, v c ≤ 2) (ha : tN a = dgs 2 v 32) : tN ((a &&& 3689348814741910323) + (shrL a 2 &&& 3689348814741910323)) = dgs 4 (fun c => v (2 * c) + v (2 * c + 1)) 16 := by
  have hu : ∀ c, c < 2 * 16 → v c < 2 ^ 2 := fun c _ => by have := hv c; omega
  have e1 : tN (a &&& 3689348814741910323) = dgs 4 (fun c => v (2 * c)) 16 := by
    rw [tN_and, bc_k2, ha]
    exact dgs_mask (b := 2) (n := 16) (by decide) hu bc_m2
  have e2 : tN (shrL a 2 &&& 3689348814741910323) = dgs 4 (fun c => v (2 * c + 1)) 16 := by
    rw [tN_and, tN_shr (by decide), bc_k2, ha]
    exact dgs_maskS (b := 2) (n := 16) (by decide) (by decide) hu bc_m2
  have hs : dgs 4 (fun c => v (2 * c)) 16 + dgs 4 (fun c => v (2 * c + 1)) 16 = dgs 4 (fun c => v (2 * c) + v (2 * c + 1)) 16 := dgs_add _ _ _ _
  have hl : dgs 4 (fun c => v (2 * c) + v (2 * c + 1)) 16 < 2 ^ 64 := dgs_lt (fun c _ => by have h1 := hv (2 * c); have h2 := hv (2 * c + 1); show _ < 16; omega)
  rw [tN_addS (by rw [e1, e2, hs]; exact hl), e1, e2, hs]
/-- a number of digits and itself, shifted by k digits -/
theorem bc_s {b n k : Nat} {v : Nat → Nat} (hk : k ≤ n) (hv : ∀ c, c < n → v c < 2 ^ b) : dgs b v n / 2 ^ (b * k) = dgs b (fun c => if c + k < n then v (c + k) else 0) n := by
  induction k with
  | zero =>
    rw [Nat.mul_zero, Nat.pow_zero, Nat.div_one]
    exact dgs_congr (fun c hc => by simp [hc])
  | succ k ih =>
    rw [Nat.mul_succ, Nat.pow_add, ← Nat.div_div_eq_div_mul, ih (by omega)]
    obtain ⟨j, rfl⟩ : ∃ j, n = j + 1 := ⟨n - 1, by omega⟩
    rw [dgs_shr (by split; exact hv _ (by omega); exact Nat.two_pow_pos b), dgs_last (n := j) (by simp)]
    exact dgs_congr (fun c hc => by
      have e : c + 1 + k = c + (k + 1) := by omega
      simp only [e])
theorem bc_3 (a : Int64) (v : Nat → Nat) (hv : ∀ c, v c ≤ 4) (ha : tN a = dgs 4 v 16) : tN ((a + shrL a 4) &&& 1085102592571150095) = dgs 8 (fun c => v (2 * c) + v (2 * c + 1)) 8 := by
  have hu : ∀ c, c < 16 → v c < 2 ^ 4 := fun c _ => by have := hv c; omega
  have e2 : tN (shrL a 4) = dgs 4 (fun c => if c + 1 < 16 then v (c + 1) else 0) 16 := by
    rw [tN_shr (by decide), ha]
    exact bc_s (b := 4) (n := 16) (k := 1) (by decide) hu
  have hs : dgs 4 v 16 + dgs 4 (fun c => if c + 1 < 16 then v (c + 1) else 0) 16 = dgs 4 (fun c => v c + (if c + 1 < 16 then v (c + 1) else 0)) 16 := dgs_add _ _ _ _
  have hb : ∀ c, v c + (if c + 1 < 16 then v (c + 1) else 0) < 2 ^ 4 := fun c => by
    have h1 := hv c
    have h2 := hv (c + 1)
    split <;> omega
  have hl : dgs 4 (fun c => v c + (if c + 1 < 16 then v (c + 1) else 0)) 16 < 2 ^ 64 := dgs_lt (fun c _ => hb c)
  have e3 : tN (a + shrL a 4) = dgs 4 (fun c => v c + (if c + 1 < 16 then v (c + 1) else 0)) (2 * 8) := by
    rw [tN_addS (by rw [e2, ha, hs]; exact hl), e2, ha, hs]
  rw [tN_and, bc_k4, e3, dgs_mask (b := 4) (n := 8) (by decide) (fun c _ => hb c) bc_m4]
  exact dgs_congr (fun c hc => by simp [show 2 * c + 1 < 16 by omega])
theorem bc_4 (a : Int64) (v : Nat → Nat) (k M : Nat) (hk : k ≤ 8) (hM : M ≤ 127) (hv : ∀ c, v c ≤ M) (ha : tN a = dgs 8 v 8) (h8 : 8 * k < 64) : tN (a + shrL a (8 * k)) = dgs 8 (fun c => v c + (if c + k < 8 then v (c + k) else 0)) 8 := by
  have hu : ∀ c, c < 8 → v c < 2 ^ 8 := fun c _ => by have := hv c; omega
  have e2 : tN (shrL a (8 * k)) = dgs 8 (fun c => if c + k < 8 then v (c + k) else 0) 8 := by
    rw [tN_shr h8, ha]
    exact bc_s (b := 8) (n := 8) (k := k) hk hu
  have hs : dgs 8 v 8 + dgs 8 (fun c => if c + k < 8 then v (c + k) else 0) 8 = dgs 8 (fun c => v c + (if c + k < 8 then v (c + k) else 0)) 8 := dgs_add _ _ _ _
  have hl : dgs 8 (fun c => v c + (if c + k < 8 then v (c + k) else 0)) 8 < 2 ^ 64 := dgs_lt (fun c _ => by
    have h1 := hv c
    have h2 := hv (c + k)
    show v c + (if c + k < 8 then v (c + k) else 0) < 256
    split <;> omega)
  rw [tN_addS (by rw [e2, ha, hs]; exact hl), e2, ha, hs]
theorem bc_ok {x a1 a2 a3 a4 a5 a6 : Int64} (h1 : a1 = x - (shrL x 1 &&& 6148914691236517205)) (h2 : a2 = (a1 &&& 3689348814741910323) + (shrL a1 2 &&& 3689348814741910323)) (h3 : a3 = (a2 + shrL a2 4) &&& 1085102592571150095)
    (h4 : a4 = a3 + shrL a3 8) (h5 : a5 = a4 + shrL a4 16) (h6 : a6 = a5 + shrL a5 32) : a6.toInt32 &&& nI 127 = nI (popN x 64) := by
  have q1 := bc_1 x
  rw [← h1] at q1
  have hv1 : ∀ c, (fun c => bt1 x (2 * c) + bt1 x (2 * c + 1)) c ≤ 2 := fun c => by
    have i1 := bt1_le x (2 * c); have i2 := bt1_le x (2 * c + 1); show _ + _ ≤ 2; omega
  have q2 := bc_2 a1 _ hv1 q1
  rw [← h2] at q2
  have hv2 : ∀ c, (fun c => (fun c => bt1 x (2 * c) + bt1 x (2 * c + 1)) (2 * c) + (fun c => bt1 x (2 * c) + bt1 x (2 * c + 1)) (2 * c + 1)) c ≤ 4 := fun c => by
    have i1 := hv1 (2 * c); have i2 := hv1 (2 * c + 1); show _ + _ ≤ 4; omega
  have q3 := bc_3 a2 _ hv2 q2
  rw [← h3] at q3
  generalize hg : (fun c => (fun c => (fun c => bt1 x (2 * c) + bt1 x (2 * c + 1)) (2 * c) + (fun c => bt1 x (2 * c) + bt1 x (2 * c + 1)) (2 * c + 1)) (2 * c) + (fun c => (fun c => bt1 x (2 * c) + bt1 x (2 * c + 1)) (2 * c) + (fun c => bt1 x (2 * c) + bt1 x (2 * c + 1)) (2 * c + 1)) (2 * c + 1)) = g at q3
  have hv3 : ∀ c, g c ≤ 8 := fun c => by
    rw [← hg]
    have i1 := hv2 (2 * c); have i2 := hv2 (2 * c + 1); show _ + _ ≤ 8; omega
  have q4 := bc_4 a3 g 1 8 (by decide) (by decide) hv3 q3 (by decide)
  rw [show (8 * 1 : Nat) = 8 from rfl, ← h4] at q4
  have hv4 : ∀ c, (fun c => g c + (if c + 1 < 8 then g (c + 1) else 0)) c ≤ 16 := fun c => by
    have i1 := hv3 c; have i2 := hv3 (c + 1)
    show g c + (if c + 1 < 8 then g (c + 1) else 0) ≤ 16
    split <;> omega
  have q5 := bc_4 a4 _ 2 16 (by decide) (by decide) hv4 q4 (by decide)
  rw [show (8 * 2 : Nat) = 16 from rfl, ← h5] at q5
  have hv5 : ∀ c, (fun c => (fun c => g c + (if c + 1 < 8 then g (c + 1) else 0)) c + (if c + 2 < 8 then (fun c => g c + (if c + 1 < 8 then g (c + 1) else 0)) (c + 2) else 0)) c ≤ 32 := fun c => by
    have i1 := hv4 c; have i2 := hv4 (c + 2)
    show _ + (if c + 2 < 8 then _ else 0) ≤ 32
    split <;> omega
  have q6 := bc_4 a5 _ 4 32 (by decide) (by decide) hv5 q5 (by decide)
  rw [show (8 * 4 : Nat) = 32 from rfl, ← h6] at q6
  have hz : tN a6 % 128 = popN x 64 := by
    have ez : tN a6 = (g 0 + g 1 + (g 2 + g 3) + (g 4 + g 5 + (g 6 + g 7))) + 2 ^ 8 * dgs 8 (fun c => (fun c => (fun c => (fun c => g c + (if c + 1 < 8 then g (c + 1) else 0)) c + (if c + 2 < 8 then (fun c => g c + (if c + 1 < 8 then g (c + 1) else 0)) (c + 2) else 0)) c + (if c + 4 < 8 then (fun c => (fun c => g c + (if c + 1 < 8 then g (c + 1) else 0)) c + (if c + 2 < 8 then (fun c => g c + (if c + 1 < 8 then g (c + 1) else 0)) (c + 2) else 0)) (c + 4) else 0)) (c + 1)) 7 := by
      rw [q6, dgs_low]
      rfl
    have es : g 0 + g 1 + (g 2 + g 3) + (g 4 + g 5 + (g 6 + g 7)) = popN x 64 := by
      rw [← hg]
      simp only [popN, bt1, Nat.reduceMul, Nat.reduceAdd]
      omega
    have hp := popN_le x 64
    rw [ez, es]
    omega
  have hm : (nI 127).toBitVec.toNat = 2 ^ 7 - 1 := by decide
  rw [pk_and a6.toInt32 7 hm]
  congr 1
  have e1 : a6.toInt32.toBitVec.toNat = tN a6 % 2 ^ 32 := by
    rw [Int64.toBitVec_toInt32, BitVec.signExtend_eq_setWidth_of_le _ (by decide), BitVec.toNat_setWidth]; rfl
  rw [e1, ← hz]
  omega
