-- ===== M13: the reference's table holds fewer than 70000 positions =====
theorem sumN_add (f : Nat → Nat) (a : Nat) : ∀ b, sumN f (a + b) = sumN f a + sumN (fun i => f (a + i)) b
  | 0 => rfl
  | b + 1 => by
    show sumN f (a + b) + f (a + b) = _
    rw [sumN_add f a b, Nat.add_assoc]; rfl
theorem sumN_mul (f : Nat → Nat) (a : Nat) : ∀ b, sumN f (a * b) = sumN (fun q => sumN (fun r => f (a * q + r)) a) b
  | 0 => rfl
  | b + 1 => by
    rw [Nat.mul_succ, sumN_add, sumN_mul f a b]; rfl
theorem sumN_lt1 (d : Nat) : ∀ e, sumN (fun i => if i < d then 1 else 0) e = min d e
  | 0 => by simp [sumN]
  | e + 1 => by
    unfold sumN
    rw [sumN_lt1 d e]
    by_cases q : e < d
    · rw [if_pos q]; omega
    · rw [if_neg q]; omega
theorem sumN_cmul (k : Nat) (f : Nat → Nat) : ∀ n, sumN (fun i => k * f i) n = k * sumN f n
  | 0 => rfl
  | n + 1 => by unfold sumN; rw [sumN_cmul k f n, Nat.mul_add]
theorem sumN_plus (f g : Nat → Nat) : ∀ n, sumN (fun i => f i + g i) n = sumN f n + sumN g n
  | 0 => rfl
  | n + 1 => by unfold sumN; rw [sumN_plus f g n]; omega
theorem sumN_mono {f g : Nat → Nat} : ∀ {n : Nat}, (∀ i, i < n → f i ≤ g i) → sumN f n ≤ sumN g n
  | 0, _ => Nat.le_refl _
  | n + 1, h => Nat.add_le_add (sumN_mono (fun i hi => h i (by omega))) (h n (Nat.lt_succ_self n))
def bcN : Nat → Nat → Nat
  | _, 0 => 1
  | 0, _ + 1 => 0
  | n + 1, m + 1 => bcN n m + bcN n (m + 1)
/-- the numbers below 2^i with q bits, all of them at places that are ok -/
def lbL (ok : Nat → Bool) : Nat → Nat → List Nat
  | 0, 0 => [0]
  | 0, _ + 1 => []
  | i + 1, 0 => lbL ok i 0
  | i + 1, q + 1 => lbL ok i (q + 1) ++ (if ok i then (lbL ok i q).map (fun x => x + 2 ^ i) else [])
def ctN (ok : Nat → Bool) (i : Nat) : Nat := sumN (fun j => if ok j then 1 else 0) i
theorem lb_len (ok : Nat → Bool) : ∀ i q, (lbL ok i q).length = bcN (ctN ok i) q
  | 0, 0 => rfl
  | 0, q + 1 => rfl
  | i + 1, 0 => by
    unfold lbL
    rw [lb_len ok i 0]
    unfold bcN; rfl
  | i + 1, q + 1 => by
    unfold lbL
    rw [List.length_append, lb_len ok i (q + 1)]
    have : ctN ok (i + 1) = ctN ok i + (if ok i then 1 else 0) := rfl
    rw [this]
    by_cases z : ok i = true
    · rw [if_pos z, if_pos z, List.length_map, lb_len ok i q]
      have : bcN (ctN ok i + 1) (q + 1) = bcN (ctN ok i) q + bcN (ctN ok i) (q + 1) := by rw [bcN]
      rw [this, Nat.add_comm]
    · rw [if_neg z, if_neg z]; rfl
theorem lb_mem (ok : Nat → Bool) : ∀ i q b, b < 2 ^ i → (∀ j, j < i → b.testBit j = true → ok j = true) → sumN (btN b) i = q → b ∈ lbL ok i q
  | 0, q, b, h1, _, h3 => by
    have : b = 0 := by simpa using h1
    subst this
    have : q = 0 := h3.symm
    subst this
    exact List.mem_singleton.mpr rfl
  | i + 1, q, b, h1, h2, h3 => by
    have hs : sumN (btN b) i + btN b i = q := h3
    by_cases z : b.testBit i = true
    · have e1 : btN b i = 1 := by unfold btN; rw [if_pos z]
      obtain ⟨q', rfl⟩ : ∃ q', q = q' + 1 := ⟨q - 1, by omega⟩
      have hge : 2 ^ i ≤ b := Nat.ge_two_pow_of_testBit z
      obtain ⟨b', rfl⟩ : ∃ b', b = b' + 2 ^ i := ⟨b - 2 ^ i, by omega⟩
      have hb' : b' < 2 ^ i := by rw [Nat.pow_succ] at h1; omega
      have tb : ∀ j, j < i → (b' + 2 ^ i).testBit j = b'.testBit j := fun j hj => by
        rw [Nat.add_comm]; exact Nat.testBit_two_pow_add_gt hj b'
      have := lb_mem ok i q' b' hb' (fun j hj t => h2 j (by omega) (by rw [tb j hj]; exact t)) (by
        rw [sumN_congr (g := btN (b' + 2 ^ i)) (fun j hj => by unfold btN; rw [tb j hj])]; omega)
      unfold lbL
      rw [if_pos (h2 i (by omega) z)]
      exact List.mem_append_right _ (List.mem_map.mpr ⟨b', this, rfl⟩)
    · have e1 : btN b i = 0 := by unfold btN; rw [if_neg z]
      have hb' : b < 2 ^ i := by
        refine Nat.lt_pow_two_of_testBit b (fun j hj => ?_)
        by_cases e : j = i
        · subst e; simpa using z
        · exact Nat.testBit_lt_two_pow (Nat.lt_of_lt_of_le h1 (Nat.pow_le_pow_right (by decide) (by omega)))
      have := lb_mem ok i q b hb' (fun j hj t => h2 j (by omega) t) (by omega)
      cases q with
      | zero => unfold lbL; exact this
      | succ q' => unfold lbL; exact List.mem_append_left _ this
/-- the places of an entry's stones -/
def okP (h : Nat) (ht : Nat → Nat) (W0 : Nat) : Nat → Nat → Bool
  | 0, _ => false
  | c + 1, i => if i < ofN h ht c then okP h ht W0 c i else decide (i < ofN h ht c + dgN h ht W0 c)
theorem okP_ct {h : Nat} {ht : Nat → Nat} (hht : ∀ c, ht c ≤ h) (W0 : Nat) : ∀ c, ctN (okP h ht W0 c) (ofN h ht c) = sumN (dgN h ht W0) c
  | 0 => rfl
  | c + 1 => by
    have ih := okP_ct hht W0 c
    have oe : ∀ j, okP h ht W0 (c + 1) j = if j < ofN h ht c then okP h ht W0 c j else decide (j < ofN h ht c + dgN h ht W0 c) := fun _ => rfl
    rw [of_eq hht]
    unfold ctN at ih ⊢
    rw [sumN_add]
    rw [sumN_congr (f := fun j => if okP h ht W0 (c + 1) j = true then 1 else 0) (g := fun j => if okP h ht W0 c j = true then 1 else 0) (fun i hi => by
      show (if okP h ht W0 (c + 1) i = true then 1 else 0) = _
      rw [oe, if_pos hi]), ih]
    rw [sumN_congr (f := fun i => if okP h ht W0 (c + 1) (ofN h ht c + i) = true then 1 else 0) (g := fun i => if i < dgN h ht W0 c then 1 else 0) (fun i hi => by
      show (if okP h ht W0 (c + 1) (ofN h ht c + i) = true then 1 else 0) = _
      rw [oe, if_neg (show ¬ (ofN h ht c + i < ofN h ht c) by omega)]
      by_cases z : i < dgN h ht W0 c
      · rw [if_pos z, decide_eq_true (show ofN h ht c + i < ofN h ht c + dgN h ht W0 c by omega)]; rfl
      · rw [if_neg z, decide_eq_false (show ¬ ofN h ht c + i < ofN h ht c + dgN h ht W0 c by omega)]; rfl), sumN_lt1]
    have := dgN_lt h ht W0 c
    show _ + min _ _ = sumN (dgN h ht W0) c + dgN h ht W0 c
    omega
theorem okP_of {h : Nat} {ht : Nat → Nat} (hht : ∀ c, ht c ≤ h) {W0 b : Nat} : ∀ w, bOK w h ht W0 b → ∀ j, j < ofN h ht w → b.testBit j = true → okP h ht W0 w j = true
  | 0, _, j, hj, _ => absurd hj (Nat.not_lt_zero _)
  | w + 1, H, j, hj, t => by
    unfold okP
    by_cases z : j < ofN h ht w
    · rw [if_pos z]
      exact okP_of hht w (fun c hc => H c (by omega)) j z t
    · rw [if_neg z]
      rw [of_eq hht] at hj
      by_cases y : j < ofN h ht w + dgN h ht W0 w
      · exact decide_eq_true y
      · have := H w (Nat.lt_succ_self w) (j - ofN h ht w) (by omega) (by omega)
        rw [show ofN h ht w + (j - ofN h ht w) = j by omega, t] at this; cases this
theorem par_sum (n : Nat) : ∀ k, sumN (fun i => (n + i) % 2) k = (k + n % 2) / 2
  | 0 => by show 0 = _; omega
  | k + 1 => by unfold sumN; rw [par_sum n k]; omega
/-- all that can be entries -/
def enL (w h : Nat) (ht : Nat → Nat) (n E : Nat) (N : Nat) : List (Nat × Nat) :=
  (List.range N).flatMap (fun W0 => (lbL (okP h ht W0 w) E ((sdN w h ht W0 + n % 2) / 2)).map (fun b => (W0, b)))
theorem enL_len (w h : Nat) (ht : Nat → Nat) (n E : Nat) : ∀ N, (enL w h ht n E N).length = sumN (fun W0 => bcN (ctN (okP h ht W0 w) E) ((sdN w h ht W0 + n % 2) / 2)) N
  | 0 => rfl
  | N + 1 => by
    unfold enL
    rw [List.range_succ, List.flatMap_append, List.length_append]
    have ih := enL_len w h ht n E N
    unfold enL at ih
    rw [ih, List.flatMap_singleton, List.length_map, lb_len]
    rfl
theorem ent_mem {w h : Nat} {B : Nat → Int32} {ht : Nat → Nat} {n E k W0 b : Nat} (R : RootOK w h B ht n E) (H : EntOK w h B ht n E k W0 b) : (W0, b) ∈ enL w h ht n E (prN h ht w) := by
  obtain ⟨h1, h2, h3, h4, h5, -⟩ := H
  have hE : ofN h ht w = E := by rw [of_emp R.2.1]; exact R.2.2.2.1.2.2.2.2.2.symm
  unfold enL
  refine List.mem_flatMap.mpr ⟨W0, List.mem_range.mpr h1, List.mem_map.mpr ⟨b, ?_, rfl⟩⟩
  refine lb_mem _ E _ b h4 (fun j hj t => okP_of R.2.1 w h3 j (by rw [hE]; exact hj) t) ?_
  rw [h5, par_sum, h2]
/-- the sums over all heights -/
def gsN (h : Nat) (ht : Nat → Nat) (x y c : Nat) : Nat := sumN (fun W0 => x ^ sumN (dgN h ht W0) c * y ^ (ofN h ht c - sumN (dgN h ht W0) c)) (prN h ht c)
theorem dg_low {h : Nat} {ht : Nat → Nat} {c c' q r : Nat} (hc : c' < c) : dgN h ht (prN h ht c * q + r) c' = dgN h ht r c' := by
  obtain ⟨u, hu⟩ := prN_mul h ht (show c' + 1 ≤ c by omega)
  have hp := prN_pos h ht c'
  unfold dgN
  rw [hu, prN, show prN h ht c' * (h - ht c' + 1) * u * q + r = r + prN h ht c' * ((h - ht c' + 1) * (u * q)) by rw [Nat.add_comm, Nat.mul_assoc, Nat.mul_assoc], Nat.add_mul_div_left _ _ hp, Nat.add_mul_mod_self_left]
theorem dg_top {h : Nat} {ht : Nat → Nat} {c q r : Nat} (hr : r < prN h ht c) (hq : q ≤ h - ht c) : dgN h ht (prN h ht c * q + r) c = q := by
  have hp := prN_pos h ht c
  unfold dgN
  rw [Nat.add_comm, Nat.add_mul_div_left _ _ hp, Nat.div_eq_of_lt hr, Nat.zero_add, Nat.mod_eq_of_lt (by omega)]
theorem sd_le_of {h : Nat} {ht : Nat → Nat} (hht : ∀ c, ht c ≤ h) (W0 : Nat) : ∀ c, sumN (dgN h ht W0) c ≤ ofN h ht c
  | 0 => Nat.le_refl _
  | c + 1 => by
    rw [of_eq hht]
    exact Nat.add_le_add (sd_le_of hht W0 c) (dgN_lt h ht W0 c)
theorem gs_s {h : Nat} {ht : Nat → Nat} (hht : ∀ c, ht c ≤ h) (x y c : Nat) : gsN h ht x y (c + 1) = gsN h ht x y c * sumN (fun q => x ^ q * y ^ (h - ht c - q)) (h - ht c + 1) := by
  unfold gsN
  rw [prN, sumN_mul, ← sumN_cmul]
  refine sumN_congr (fun q hq => ?_)
  rw [Nat.mul_comm (sumN _ _), ← sumN_cmul]
  refine sumN_congr (fun r hr => ?_)
  have e : sumN (dgN h ht (prN h ht c * q + r)) (c + 1) = sumN (dgN h ht r) c + q := by
    show sumN (dgN h ht (prN h ht c * q + r)) c + dgN h ht (prN h ht c * q + r) c = _
    rw [dg_top hr (by omega), sumN_congr (g := dgN h ht r) (fun i hi => dg_low hi)]
  have l1 := sd_le_of hht r c
  rw [e, of_eq hht, show ofN h ht c + (h - ht c) - (sumN (dgN h ht r) c + q) = (ofN h ht c - sumN (dgN h ht r) c) + (h - ht c - q) by omega, Nat.pow_add, Nat.pow_add]
  ac_rfl
theorem gs_bd {h : Nat} {ht : Nat → Nat} (hht : ∀ c, ht c ≤ h) {x y u v s : Nat} (hx : ∀ e, e ≤ h → sumN (fun q => x ^ q * y ^ (e - q)) (e + 1) * (u * v ^ e) ≤ s * u ^ e) : ∀ c, gsN h ht x y c * (u ^ c * v ^ ofN h ht c) ≤ s ^ c * u ^ ofN h ht c
  | 0 => by simp [gsN, prN, ofN, sumN]
  | c + 1 => by
    rw [gs_s hht, of_eq hht, Nat.pow_add u, Nat.pow_add v, Nat.pow_add u, Nat.pow_succ, Nat.pow_succ]
    have h1 := Nat.mul_le_mul (gs_bd hht hx c) (hx (h - ht c) (Nat.sub_le _ _))
    refine Nat.le_trans (Nat.le_of_eq ?_) (Nat.le_trans h1 (Nat.le_of_eq ?_))
    · ac_rfl
    · ac_rfl
theorem cnt_one : ∀ (E : Fin 13) (k : Fin 13) (y : Fin 2), k.val ≤ E.val → 1000 * 2 ^ E.val * bcN k.val ((k.val + y.val) / 2) ≤ 223 * 2 ^ E.val * (2 ^ k.val * 1 ^ (E.val - k.val)) + (504 * (3 ^ k.val * 2 ^ (E.val - k.val)) + 1000 * 2 ^ E.val * (0 ^ k.val * 1 ^ (E.val - k.val))) := by decide
theorem cnt_all : ∀ (w : Fin 10) (E : Fin 13), 223 * 2 ^ E.val * (9 ^ w.val * 7 ^ E.val / (7 ^ w.val * 3 ^ E.val)) + (504 * (25 ^ w.val * 19 ^ E.val / (19 ^ w.val * 5 ^ E.val)) + 1000 * 2 ^ E.val) < 69999 * (1000 * 2 ^ E.val) := by decide
theorem gs_0 {h : Nat} {ht : Nat → Nat} (hht : ∀ c, ht c ≤ h) : ∀ c, gsN h ht 0 1 c = 1
  | 0 => by simp [gsN, prN, sumN, ofN]
  | c + 1 => by
    rw [gs_s hht, gs_0 hht c, Nat.one_mul]
    have : ∀ e m, sumN (fun q => 0 ^ q * 1 ^ (e - q)) (m + 1) = 1 := by
      intro e m
      induction m with
      | zero => simp [sumN]
      | succ m ih => unfold sumN; rw [ih]; simp
    exact this _ _
theorem enL_few {w h : Nat} {B : Nat → Int32} {ht : Nat → Nat} {n E : Nat} (R : RootOK w h B ht n E) : (enL w h ht n E (prN h ht w)).length < 69999 := by
  have hht := R.2.1
  have hE : ofN h ht w = E := by rw [of_emp hht]; exact R.2.2.2.1.2.2.2.2.2.symm
  have hw := R.1.2.1
  have hh := R.1.2.2.2.1
  have hE12 := R.2.2.2.2
  rw [enL_len]
  have k1 : 1000 * 2 ^ E * sumN (fun W0 => bcN (ctN (okP h ht W0 w) E) ((sdN w h ht W0 + n % 2) / 2)) (prN h ht w) ≤ 223 * 2 ^ E * gsN h ht 2 1 w + (504 * gsN h ht 3 2 w + 1000 * 2 ^ E * gsN h ht 0 1 w) := by
    unfold gsN
    rw [← sumN_cmul, ← sumN_cmul, ← sumN_cmul, ← sumN_cmul, ← sumN_plus, ← sumN_plus]
    refine sumN_mono (fun W0 hW => ?_)
    have c1 : ctN (okP h ht W0 w) E = sdN w h ht W0 := by rw [← hE]; exact okP_ct hht W0 w
    have l1 := sd_le_of hht W0 w
    rw [hE] at l1 ⊢
    have := cnt_one ⟨E, by omega⟩ ⟨sdN w h ht W0, by unfold sdN; omega⟩ ⟨n % 2, by omega⟩ l1
    rw [c1]
    exact this
  have b2 : gsN h ht 2 1 w ≤ 9 ^ w * 7 ^ E / (7 ^ w * 3 ^ E) := by
    have := gs_bd (x := 2) (y := 1) (u := 7) (v := 3) (s := 9) hht (fun e he => by
      have q : ∀ e : Fin 8, sumN (fun q => 2 ^ q * 1 ^ (e.val - q)) (e.val + 1) * (7 * 3 ^ e.val) ≤ 9 * 7 ^ e.val := by decide
      exact q ⟨e, by omega⟩) w
    rw [hE] at this
    exact (Nat.le_div_iff_mul_le (Nat.mul_pos (Nat.pow_pos (by decide)) (Nat.pow_pos (by decide)))).mpr this
  have b3 : gsN h ht 3 2 w ≤ 25 ^ w * 19 ^ E / (19 ^ w * 5 ^ E) := by
    have := gs_bd (x := 3) (y := 2) (u := 19) (v := 5) (s := 25) hht (fun e he => by
      have q : ∀ e : Fin 8, sumN (fun q => 3 ^ q * 2 ^ (e.val - q)) (e.val + 1) * (19 * 5 ^ e.val) ≤ 25 * 19 ^ e.val := by decide
      exact q ⟨e, by omega⟩) w
    rw [hE] at this
    exact (Nat.le_div_iff_mul_le (Nat.mul_pos (Nat.pow_pos (by decide)) (Nat.pow_pos (by decide)))).mpr this
  have b0 := gs_0 (ht := ht) hht w
  have fin := cnt_all ⟨w, by omega⟩ ⟨E, by omega⟩
  rw [b0, Nat.mul_one] at k1
  have m1 := Nat.mul_le_mul_left (223 * 2 ^ E) b2
  have m2 := Nat.mul_le_mul_left 504 b3
  have : 1000 * 2 ^ E * sumN (fun W0 => bcN (ctN (okP h ht W0 w) E) ((sdN w h ht W0 + n % 2) / 2)) (prN h ht w) < 69999 * (1000 * 2 ^ E) := by
    refine Nat.lt_of_le_of_lt (Nat.le_trans k1 ?_) fin
    show _ ≤ 223 * 2 ^ E * (9 ^ w * 7 ^ E / (7 ^ w * 3 ^ E)) + (504 * (25 ^ w * 19 ^ E / (19 ^ w * 5 ^ E)) + 1000 * 2 ^ E)
    exact Nat.add_le_add m1 (Nat.add_le_add m2 (Nat.le_refl _))
  rw [Nat.mul_comm 69999] at this
  exact Nat.lt_of_mul_lt_mul_left this
/-- so the entries are few -/
theorem ent_few {w h : Nat} {B : Nat → Int32} {ht : Nat → Nat} {n E po : Nat} (R : RootOK w h B ht n E) {wh sb : Nat → Nat} (H : ∀ j, j < po → ∃ k, EntOK w h B ht n E k (wh j) (sb j)) (hd : ∀ j j', j < po → j' < po → wh j = wh j' → sb j = sb j' → j = j') : po < 69999 := by
  refine Nat.lt_of_le_of_lt ?_ (enL_few R)
  refine php _ po (fun j => (enL w h ht n E (prN h ht w)).idxOf (wh j, sb j)) (fun j hj => ?_) (fun i j hi hj e => ?_)
  · obtain ⟨k, hk⟩ := H j hj
    exact List.idxOf_lt_length_of_mem (ent_mem R hk)
  · obtain ⟨k, hk⟩ := H i hi
    obtain ⟨k', hk'⟩ := H j hj
    have e1 := List.getElem_idxOf (List.idxOf_lt_length_of_mem (ent_mem R hk))
    have e2 := List.getElem_idxOf (List.idxOf_lt_length_of_mem (ent_mem R hk'))
    have e : (enL w h ht n E (prN h ht w)).idxOf (wh i, sb i) = (enL w h ht n E (prN h ht w)).idxOf (wh j, sb j) := e
    simp only [e] at e1
    rw [e1] at e2
    exact hd i j hi hj (congrArg Prod.fst e2) (congrArg Prod.snd e2)
