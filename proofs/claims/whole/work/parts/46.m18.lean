-- ===== M18: pairs of drops: the reference's beats =====
section Rows8
variable {p : Program} {l : Launch} {e : Env} {R : Room} {s : State} {m : MethodId} {args : Array Value} {below : List Frame} {meth : Method} {c : Code} {H : Heap} {locs : List Loc} {cells slots : Nat} {Q : State → Prop}
variable {pc : Nat} {ls : Array Slot} {rest st0 : List Value} {cc : ByteArray} {free : Addr → Prop}
variable {D : va_G} {cl : List vw_C} {ws : va_W} {tys : List (ClassId × FieldType)} {A : Nat → Prop} {H0 : Heap} {a : Nat}
theorem n_zast (hx : p.tables.exec = Jvm.exec) (hb : c.code = cc) (hK : va_K D cl tys s) (hP : va_P D cl ws H) (hD : va_D A ws) (hS : va_S A H0 H locs) (q0 t0 : Nat) {cA : ClassId} {n : Nat} {g : Nat → Nat} (ha : ws[q0]? = some (a, .inl (cA, n, .inl (fun j => nI (g j))))) (ht : tys[t0]? = some (cA, .boolean)) {i v : Nat} (hv : v ≤ 1) (hi : i < n) (hn : n < 2 ^ 31) (hdg : decode cc pc = .ok (.bastore, 1))
    (kk : ∀ (H1 : Heap) (locs1 : List Loc), va_P D cl (ws.set q0 (a, .inl (cA, n, .inl (fun j => nI (va_up g i v j))))) H1 → va_D A (ws.set q0 (a, .inl (cA, n, .inl (fun j => nI (va_up g i v j))))) → va_S A H0 H1 locs1 → W p l e R s m args below meth c H1 locs1 cells slots Q (F0 m (pc + 1) ls rest)) : W p l e R s m args below meth c H locs cells slots Q (F0 m pc ls (.int (nI v) :: .int (nI i) :: .ref a :: rest)) := by
  refine va_zast hx hb hK hP hD hS q0 t0 ha ht (vp_in_nI hi hn) hdg (fun H1 locs1 h1 h2 h3 => ?_)
  have e : vp_nar .boolean (nI v) = nI v := by
    obtain rfl | rfl : v = 0 ∨ v = 1 := by omega
    · rfl
    · rfl
  rw [e, nI_clamp (Nat.lt_trans hi hn), n_updN] at h1 h2
  exact kk H1 locs1 h1 h2 h3
end Rows8
def hpF (h : Nat) (ht : Nat → Nat) : Nat → Nat := fun c => h - (h - ht c) / 2
theorem hp_sub (h : Nat) (ht : Nat → Nat) (c : Nat) : h - hpF h ht c = (h - ht c) / 2 := by unfold hpF; omega
theorem hp_le (h : Nat) (ht : Nat → Nat) (c : Nat) : hpF h ht c ≤ h := by unfold hpF; omega
def dgP (h : Nat) (ht : Nat → Nat) (W0 c : Nat) : Nat := dgN h (hpF h ht) W0 c
theorem dgP_le (h : Nat) (ht : Nat → Nat) (W0 c : Nat) : dgP h ht W0 c ≤ (h - ht c) / 2 := by
  have := dgN_lt h (hpF h ht) W0 c
  rw [hp_sub] at this
  exact this
def spS (h : Nat) (B : Nat → Int32) (ht : Nat → Nat) (n W0 : Nat) (Sn : Nat → Int32) (c : Nat) : Nat → Int32 := fun j => if j / 7 < c ∧ ht (j / 7) ≤ j % 7 ∧ j % 7 < ht (j / 7) + 2 * dgP h ht W0 (j / 7) then nI ((n + (j % 7 - ht (j / 7))) % 2) else cpF B Sn 63 j
def sp2 (h : Nat) (B : Nat → Int32) (ht : Nat → Nat) (n W0 : Nat) (Sn : Nat → Int32) (c i : Nat) : Nat → Int32 := fun j => if j / 7 = c ∧ ht c ≤ j % 7 ∧ j % 7 < ht c + i then nI ((n + (j % 7 - ht c)) % 2) else spS h B ht n W0 Sn c j
def tpP (h : Nat) (ht tp : Nat → Nat) (W0 c : Nat) : Nat → Nat := fun j => if j < c then ht j + 2 * dgP h ht W0 j else tp j
theorem spS_0 (h : Nat) (B : Nat → Int32) (ht : Nat → Nat) (n W0 : Nat) (Sn : Nat → Int32) : spS h B ht n W0 Sn 0 = cpF B Sn 63 := by funext j; simp [spS]
theorem tpP_0 (h : Nat) (ht tp : Nat → Nat) (W0 : Nat) : tpP h ht tp W0 0 = tp := by funext j; simp [tpP]
theorem sp2_0 (h : Nat) (B : Nat → Int32) (ht : Nat → Nat) (n W0 : Nat) (Sn : Nat → Int32) (c : Nat) : sp2 h B ht n W0 Sn c 0 = spS h B ht n W0 Sn c := by
  funext j
  unfold sp2
  rw [if_neg (by omega)]
theorem sp2_e (h : Nat) (B : Nat → Int32) (ht : Nat → Nat) (n W0 : Nat) (Sn : Nat → Int32) (c : Nat) : sp2 h B ht n W0 Sn c (2 * dgP h ht W0 c) = spS h B ht n W0 Sn (c + 1) := by
  funext j
  unfold sp2 spS
  by_cases e : j / 7 = c
  · subst e
    by_cases q : ht (j / 7) ≤ j % 7 ∧ j % 7 < ht (j / 7) + 2 * dgP h ht W0 (j / 7)
    · rw [if_pos ⟨rfl, q⟩, if_pos ⟨by omega, q⟩]
    · rw [if_neg (fun z => q z.2), if_neg (fun z => q z.2), if_neg (fun z => q z.2)]
  · rw [if_neg (fun z => e z.1)]
    by_cases q : j / 7 < c
    · by_cases q2 : ht (j / 7) ≤ j % 7 ∧ j % 7 < ht (j / 7) + 2 * dgP h ht W0 (j / 7)
      · rw [if_pos ⟨q, q2⟩, if_pos ⟨by omega, q2⟩]
      · rw [if_neg (fun z => q2 z.2), if_neg (fun z => q2 z.2)]
    · rw [if_neg (fun z => q z.1), if_neg (fun z => absurd z.1 (by omega))]
theorem sp2_s {h : Nat} {B : Nat → Int32} {ht : Nat → Nat} {n W0 : Nat} {Sn : Nat → Int32} {c i : Nat} (hi : ht c + i < 7) : upd (sp2 h B ht n W0 Sn c i) (7 * c + ht c + i) (nI ((n + i) % 2)) = sp2 h B ht n W0 Sn c (i + 1) := by
  have d1 : (7 * c + ht c + i) / 7 = c := by omega
  have d2 : (7 * c + ht c + i) % 7 = ht c + i := by omega
  funext j
  by_cases e : j = 7 * c + ht c + i
  · subst e
    rw [pk_us]
    unfold sp2
    rw [d1, d2, if_pos ⟨rfl, by omega, by omega⟩, show ht c + i - ht c = i by omega]
  · rw [pk_un e]
    unfold sp2
    by_cases q : j / 7 = c ∧ ht c ≤ j % 7 ∧ j % 7 < ht c + i
    · rw [if_pos q, if_pos ⟨q.1, q.2.1, by omega⟩]
    · rw [if_neg q, if_neg (fun z => q ⟨z.1, z.2.1, by
        have := Nat.div_add_mod j 7
        omega⟩)]
theorem tpP_s (h : Nat) (ht tp : Nat → Nat) (W0 c : Nat) : va_up (tpP h ht tp W0 c) c (ht c + 2 * dgP h ht W0 c) = tpP h ht tp W0 (c + 1) := by
  funext j
  by_cases e : j = c
  · subst e; rw [va_up_self]; simp [tpP]
  · rw [va_up_ne _ _ e]; unfold tpP
    by_cases q : j < c
    · rw [if_pos q, if_pos (by omega)]
    · rw [if_neg q, if_neg (by omega)]
def odF (h : Nat) (ht : Nat → Nat) : Nat → Bool := fun c => decide ((h - ht c) % 2 = 1)
theorem od_no {h : Nat} {ht : Nat → Nat} {w : Nat} (H : anyB (odF h ht) w = false) : ∀ c, c < w → (h - ht c) % 2 = 0 := by
  intro c hc
  rcases Nat.mod_two_eq_zero_or_one (h - ht c) with z | z
  · exact z
  · have := anyB_t (f := odF h ht) (i := c) (decide_eq_true z) hc
    rw [H] at this; cases this
/-- the pairs are few -/
theorem pairs_few {w h : Nat} {ht : Nat → Nat} (hd : Dm w h) (hht : ∀ c, ht c ≤ h) (hev : ∀ c, c < w → (h - ht c) % 2 = 0) (he : emp h ht w ≤ 30) : prN h (hpF h ht) w ≤ 5832 := by
  have hh7 := hd.2.2.2.1
  have hw9 := hd.2.1
  have key : ∀ c, prN h (hpF h ht) c * (3 ^ c * 2 ^ ofN h (hpF h ht) c) ≤ 4 ^ c * 3 ^ ofN h (hpF h ht) c := by
    intro c
    induction c with
    | zero => simp [prN, ofN]
    | succ c ih =>
      have one : ∀ q : Fin 4, (q.val + 1) * (3 * 2 ^ q.val) ≤ 4 * 3 ^ q.val := by decide
      have o : ((h - ht c) / 2 + 1) * (3 * 2 ^ ((h - ht c) / 2)) ≤ 4 * 3 ^ ((h - ht c) / 2) := one ⟨(h - ht c) / 2, by omega⟩
      have m1 := Nat.mul_le_mul ih o
      rw [prN, of_eq (hp_le h ht), hp_sub, Nat.pow_add 2, Nat.pow_add 3 (ofN _ _ _), Nat.pow_succ, Nat.pow_succ]
      refine Nat.le_trans (Nat.le_of_eq ?_) (Nat.le_trans m1 (Nat.le_of_eq ?_))
      · ac_rfl
      · ac_rfl
  have sum2 : ∀ c, c ≤ w → 2 * ofN h (hpF h ht) c = emp h ht c := by
    intro c
    induction c with
    | zero => intro _; rfl
    | succ c ih =>
      intro hc
      rw [of_eq (hp_le h ht), hp_sub]
      have e2 : emp h ht (c + 1) = emp h ht c + (h - ht c) := rfl
      have := ih (by omega)
      have := hev c (by omega)
      omega
  have k := key w
  have s2 := sum2 w (Nat.le_refl _)
  generalize ofN h (hpF h ht) w = P at k s2
  have le : prN h (hpF h ht) w ≤ 4 ^ w * 3 ^ P / (3 ^ w * 2 ^ P) := (Nat.le_div_iff_mul_le (Nat.mul_pos (Nat.pow_pos (by decide)) (Nat.pow_pos (by decide)))).mpr k
  have fin : ∀ (w : Fin 10) (P : Fin 16), 4 ^ w.val * 3 ^ P.val / (3 ^ w.val * 2 ^ P.val) ≤ 5832 := by decide
  exact Nat.le_trans le (fin ⟨w, by omega⟩ ⟨P, by omega⟩)
/-- the stones after pairs -/
def spE (w h : Nat) (B : Nat → Int32) (ht : Nat → Nat) (n W0 : Nat) : Nat → Int32 := spS h B ht n W0 B w
def PSt (w h : Nat) (B : Nat → Int32) (ht : Nat → Nat) (n p W0 : Nat) : Sq := stO w h (spE w h B ht n W0) (nI p)
def tqP (h : Nat) (ht : Nat → Nat) (W0 c : Nat) : Nat := ht c + 2 * dgP h ht W0 c
theorem sp_at {w h : Nat} (hw : w ≤ 9) {B Sn : Nat → Int32} {ht : Nat → Nat} {n W0 c r : Nat} (hc : c < w) (hr : r < 7) : spS h B ht n W0 Sn w (7 * c + r) = if ht c ≤ r ∧ r < tqP h ht W0 c then nI ((n + (r - ht c)) % 2) else B (7 * c + r) := by
  have d1 : (7 * c + r) / 7 = c := by omega
  have d2 : (7 * c + r) % 7 = r := by omega
  unfold spS tqP
  rw [d1, d2]
  by_cases q : ht c ≤ r ∧ r < ht c + 2 * dgP h ht W0 c
  · rw [if_pos ⟨hc, q⟩, if_pos q]
  · rw [if_neg (fun z => q z.2), if_neg q]
    unfold cpF
    rw [if_pos (by omega)]
theorem PSt_same {w h : Nat} (hw : w ≤ 9) (hh : h ≤ 7) {B Sn : Nat → Int32} {ht : Nat → Nat} {n W0 p : Nat} : stO w h (spS h B ht n W0 Sn w) (nI p) = PSt w h B ht n p W0 := by
  funext c r
  unfold PSt stO
  by_cases hc : c < w
  · by_cases hr : r < h
    · rw [sp_at hw hc (by omega), spE, sp_at hw hc (by omega)]
    · simp [hr]
  · simp [hc]
/-- the position from which pairs are dropped -/
def PrOK (w h : Nat) (B : Nat → Int32) (ht : Nat → Nat) (n : Nat) : Prop :=
  Dm w h ∧ (∀ c, ht c ≤ h) ∧ (∀ c, c < w → (h - ht c) % 2 = 0) ∧ (∀ c r, c < w → ht c ≤ r → r < h → B (7 * c + r) = -1) ∧ ¬ hasL w h (stO w h B (nI (n % 2))) ∧ ¬ hasL w h (stO w h B (nI (1 - n % 2)))
theorem tq_le {w h : Nat} {B : Nat → Int32} {ht : Nat → Nat} {n : Nat} (R : PrOK w h B ht n) (W0 c : Nat) : tqP h ht W0 c ≤ h := by
  have := dgP_le h ht W0 c
  have := R.2.1 c
  unfold tqP; omega
theorem tq_two {w h : Nat} {B : Nat → Int32} {ht : Nat → Nat} {n : Nat} (R : PrOK w h B ht n) {W0 c : Nat} (hc : c < w) (hr : tqP h ht W0 c < h) : tqP h ht W0 c + 1 < h ∧ dgP h ht W0 c < (h - ht c) / 2 := by
  have := dgP_le h ht W0 c
  have := R.2.1 c
  have := R.2.2.1 c hc
  unfold tqP at hr ⊢; omega
theorem tq_inc {w h : Nat} {B : Nat → Int32} {ht : Nat → Nat} {n : Nat} (R : PrOK w h B ht n) {W0 c : Nat} (hc : c < w) (hr : tqP h ht W0 c < h) (c' : Nat) : tqP h ht (W0 + prN h (hpF h ht) c) c' = if c' = c then tqP h ht W0 c + 2 else tqP h ht W0 c' := by
  have hx := (tq_two R hc hr).2
  unfold tqP dgP at *
  rw [dg_inc (by rw [hp_sub]; exact hx)]
  by_cases e : c' = c
  · subst e; rw [if_pos rfl, if_pos rfl]; omega
  · rw [if_neg e, if_neg e]
theorem sp_up {w h : Nat} {B Sn : Nat → Int32} {ht : Nat → Nat} {n W0 c r : Nat} (R : PrOK w h B ht n) (hc : c < w) (hr : r < h) (ht2 : tqP h ht W0 c ≤ r) : spS h B ht n W0 Sn w (7 * c + r) = -1 := by
  have hh := R.1.2.2.2.1
  rw [sp_at R.1.2.1 hc (by omega), if_neg (fun z => absurd z.2 (by omega))]
  exact R.2.2.2.1 c r hc (by unfold tqP at ht2; omega) hr
/-- a pair more: a stone of each -/
theorem PSt_inc {w h : Nat} {B : Nat → Int32} {ht : Nat → Nat} {n : Nat} (R : PrOK w h B ht n) {W0 c : Nat} (hc : c < w) (hr : tqP h ht W0 c < h) {p : Nat} (hp : p ≤ 1) :
    PSt w h B ht n p (W0 + prN h (hpF h ht) c) = sq_put (PSt w h B ht n p W0) c (tqP h ht W0 c + (if p = n % 2 then 0 else 1)) := by
  have hw := R.1.2.1
  have hh := R.1.2.2.2.1
  have h2 := tq_two R hc hr
  funext c' r'
  unfold sq_put
  by_cases hc' : c' < w
  · by_cases hr' : r' < h
    · unfold PSt stO spE
      rw [sp_at hw hc' (by omega), sp_at hw hc' (by omega), tq_inc R hc hr]
      by_cases e : c' = c
      · subst e
        rw [if_pos rfl]
        by_cases q : ht c' ≤ r' ∧ r' < tqP h ht W0 c'
        · rw [if_pos q, if_pos ⟨q.1, by omega⟩]
          have ne : ¬ r' = tqP h ht W0 c' + (if p = n % 2 then 0 else 1) := by split <;> omega
          simp [ne]
        · rw [if_neg q]
          by_cases q2 : ht c' ≤ r' ∧ r' < tqP h ht W0 c' + 2
          · rw [if_pos q2]
            have hB : B (7 * c' + r') = -1 := R.2.2.2.1 c' r' hc' q2.1 hr'
            rw [hB, decide_eq_false (nI_m1 hp)]
            have e0 : tqP h ht W0 c' = ht c' + 2 * dgP h ht W0 c' := rfl
            have hpar : (nI ((n + (r' - ht c')) % 2) = nI p) ↔ r' = tqP h ht W0 c' + (if p = n % 2 then 0 else 1) := by
              rw [nI01 (by omega) hp]
              constructor
              · intro z
                split <;> omega
              · intro z
                split at z <;> omega
            by_cases z : r' = tqP h ht W0 c' + (if p = n % 2 then 0 else 1)
            · rw [decide_eq_true (hpar.mpr z)]; simp [hc', hr', ← z]
            · rw [decide_eq_false (fun y => z (hpar.mp y))]; simp [z]
          · rw [if_neg q2]
            have ne : ¬ r' = tqP h ht W0 c' + (if p = n % 2 then 0 else 1) := by
              intro z
              have : ht c' ≤ tqP h ht W0 c' := Nat.le_add_right _ _
              split at z <;> omega
            simp [ne]
      · rw [if_neg e]; simp [e]
    · have ne : ¬ (c' = c ∧ r' = tqP h ht W0 c + (if p = n % 2 then 0 else 1)) := by
        intro z
        have := z.2
        split at this <;> omega
      have : (c' == c && r' == tqP h ht W0 c + (if p = n % 2 then 0 else 1)) = false := by
        rw [Bool.and_eq_false_iff]
        by_cases e : c' = c
        · exact Or.inr (by simpa using fun y => ne ⟨e, y⟩)
        · exact Or.inl (by simpa using e)
      rw [this, Bool.or_false]
      unfold PSt stO; simp [hr']
  · have : (c' == c) = false := by simpa using (fun y => hc' (by rw [y]; exact hc))
    rw [this, Bool.false_and, Bool.or_false]
    unfold PSt stO; simp [hc']
/-- some digit of a number that isn't 0 isn't 0 -/
theorem dg_some {h : Nat} {ht : Nat → Nat} : ∀ {w W0 : Nat}, W0 < prN h ht w → W0 ≠ 0 → ∃ c, c < w ∧ dgN h ht W0 c ≠ 0
  | 0, W0, h1, h2 => absurd (show W0 = 0 by simp [prN] at h1; exact h1) h2
  | w + 1, W0, h1, h2 => by
    by_cases q : dgN h ht W0 w = 0
    · have hp := prN_pos h ht w
      have : W0 < prN h ht w := by
        unfold dgN at q
        rw [prN] at h1
        have d1 : W0 / prN h ht w < h - ht w + 1 := (Nat.div_lt_iff_lt_mul hp).mpr (by rw [Nat.mul_comm]; exact h1)
        rw [Nat.mod_eq_of_lt d1] at q
        exact (Nat.div_eq_zero_iff_lt hp).mp q
      obtain ⟨c, hc, e⟩ := dg_some this h2
      exact ⟨c, by omega, e⟩
    · exact ⟨w, by omega, q⟩
theorem dg_pred {h : Nat} {ht : Nat → Nat} {W0 c : Nat} (hne : dgN h ht W0 c ≠ 0) : ∃ W1, W0 = W1 + prN h ht c ∧ dgN h ht W1 c < h - ht c := by
  have hp := prN_pos h ht c
  have hq : 1 ≤ W0 / prN h ht c := by
    rcases Nat.eq_zero_or_pos (W0 / prN h ht c) with z | z
    · unfold dgN at hne; rw [z] at hne; exact absurd (Nat.zero_mod _) hne
    · exact z
  have hge : prN h ht c ≤ W0 := (Nat.one_le_div_iff hp).mp hq
  refine ⟨W0 - prN h ht c, by omega, ?_⟩
  have hl := dgN_lt h ht W0 c
  unfold dgN at hne hl ⊢
  have e : W0 / prN h ht c = (W0 - prN h ht c) / prN h ht c + 1 := by
    have : W0 = (W0 - prN h ht c) + prN h ht c := by omega
    rw [this, Nat.add_div_right _ hp, Nat.add_sub_cancel]
  rw [e] at hne hl
  generalize (W0 - prN h ht c) / prN h ht c = x at hne hl
  have hm : x % (h - ht c + 1) ≤ h - ht c := Nat.lt_succ_iff.mp (Nat.mod_lt _ (Nat.succ_pos _))
  rcases Nat.lt_or_ge (x % (h - ht c + 1)) (h - ht c) with z | z
  · exact z
  · exfalso
    apply hne
    have ex : x % (h - ht c + 1) = h - ht c := by omega
    rw [Nat.add_mod, ex]
    rcases Nat.eq_zero_or_pos (h - ht c) with y | y
    · rw [y]
    · rw [Nat.mod_eq_of_lt (show 1 < h - ht c + 1 by omega), Nat.mod_self]
/-- the leader beats one who follows -/
def btP (w h : Nat) (B : Nat → Int32) (ht : Nat → Nat) (n : Nat) : Prop :=
  ∃ W0 c, W0 < prN h (hpF h ht) w ∧ c < w ∧ tqP h ht W0 c < h ∧ ¬ hasL w h (PSt w h B ht n (1 - n % 2) W0) ∧ hasL w h (sq_put (PSt w h B ht n (n % 2) W0) c (tqP h ht W0 c))
/-- what the search holds: the pairs below i are done, those of i in the columns below c -/
def BtI (w h : Nat) (B : Nat → Int32) (ht : Nat → Nat) (n : Nat) (re : Nat → Nat) (i c0 : Nat) : Prop :=
  (∀ q, q < prN h (hpF h ht) w → re q ≤ 1) ∧ re 0 = 1 ∧ (∀ q, q < prN h (hpF h ht) w → re q = 1 → ¬ hasL w h (PSt w h B ht n (1 - n % 2) q) ∧ ¬ hasL w h (PSt w h B ht n (n % 2) q)) ∧
  ∀ q c, q < prN h (hpF h ht) w → (q < i ∨ (q = i ∧ c < c0)) → re q = 1 → c < w → tqP h ht q c < h → ¬ hasL w h (sq_put (PSt w h B ht n (n % 2) q) c (tqP h ht q c)) ∧ (¬ hasL w h (PSt w h B ht n (1 - n % 2) (q + prN h (hpF h ht) c)) → re (q + prN h (hpF h ht) c) = 1)
theorem hasL_sub {w h : Nat} {M N0 : Sq} (h1 : ∀ c r, M c r = true → N0 c r = true) (H : hasL w h M) : hasL w h N0 := by
  obtain ⟨way, c, r, a, b, d⟩ := H
  exact ⟨way, c, r, a, b, fun i hi => h1 _ _ (d i hi)⟩
theorem BtI.none {w h : Nat} {B : Nat → Int32} {ht : Nat → Nat} {n : Nat} {re : Nat → Nat} (R : PrOK w h B ht n) (H : BtI w h B ht n re (prN h (hpF h ht) w) 0) : ¬ btP w h B ht n := by
  rintro ⟨W0, c, h1, h2, h3, h4, h5⟩
  have key : ∀ k W1, W1 ≤ k → W1 < prN h (hpF h ht) w → ¬ hasL w h (PSt w h B ht n (1 - n % 2) W1) → re W1 = 1 := by
    intro k
    induction k with
    | zero => intro W1 a _ _; rw [show W1 = 0 by omega]; exact H.2.1
    | succ k ih =>
      intro W1 a b d
      by_cases z : W1 = 0
      · rw [z]; exact H.2.1
      · obtain ⟨c', hc', hne⟩ := dg_some b z
        obtain ⟨W2, e, hlt⟩ := dg_pred hne
        have hp := prN_pos h (hpF h ht) c'
        have hr2 : tqP h ht W2 c' < h := by
          rw [hp_sub] at hlt
          have := R.2.1 c'
          unfold tqP dgP; omega
        subst e
        have sub : ¬ hasL w h (PSt w h B ht n (1 - n % 2) W2) := fun y => d (hasL_sub (fun c r t => by rw [PSt_inc R hc' hr2 (by omega)]; unfold sq_put; rw [t]; rfl) y)
        have r2 := ih W2 (by omega) (by omega) sub
        exact (H.2.2.2 W2 c' (by omega) (Or.inl (by omega)) r2 hc' hr2).2 d
  have r0 := key W0 W0 (Nat.le_refl _) h1 h4
  exact (H.2.2.2 W0 c h1 (Or.inl h1) r0 h2 h3).1 h5
theorem BtI.skip {w h : Nat} {B : Nat → Int32} {ht : Nat → Nat} {n : Nat} {re : Nat → Nat} {i : Nat} (H : BtI w h B ht n re i 0) (hz : re i = 0) : BtI w h B ht n re (i + 1) 0 := by
  refine ⟨H.1, H.2.1, H.2.2.1, fun q c h1 h2 h3 => ?_⟩
  have : ¬ q = i := fun z => by subst z; omega
  exact H.2.2.2 q c h1 (Or.inl (by omega)) h3
theorem BtI.next {w h : Nat} {B : Nat → Int32} {ht : Nat → Nat} {n : Nat} {re : Nat → Nat} {i : Nat} (H : BtI w h B ht n re i w) : BtI w h B ht n re (i + 1) 0 := by
  refine ⟨H.1, H.2.1, H.2.2.1, fun q c h1 h2 h3 h4 => ?_⟩
  refine H.2.2.2 q c h1 ?_ h3 h4
  by_cases z : q = i
  · exact Or.inr ⟨z, h4⟩
  · exact Or.inl (by omega)
theorem BtI.full {w h : Nat} {B : Nat → Int32} {ht : Nat → Nat} {n : Nat} {re : Nat → Nat} {i c : Nat} (H : BtI w h B ht n re i c) (hf : ¬ tqP h ht i c < h) : BtI w h B ht n re i (c + 1) := by
  refine ⟨H.1, H.2.1, H.2.2.1, fun q c' h1 h2 h3 h4 h5 => ?_⟩
  refine H.2.2.2 q c' h1 ?_ h3 h4 h5
  rcases h2 with z | ⟨z1, z2⟩
  · exact Or.inl z
  · refine Or.inr ⟨z1, ?_⟩
    by_cases y : c' = c
    · subst y; subst z1; exact absurd h5 hf
    · omega
/-- a column of i is done -/
theorem BtI.done {w h : Nat} {B : Nat → Int32} {ht : Nat → Nat} {n : Nat} {re : Nat → Nat} {i c : Nat} (R : PrOK w h B ht n) (H : BtI w h B ht n re i c) (hi : i < prN h (hpF h ht) w) (hri : re i = 1) (hc : c < w) (hr : tqP h ht i c < h) (hnw : ¬ hasL w h (sq_put (PSt w h B ht n (n % 2) i) c (tqP h ht i c))) {v : Nat}
    (hv1 : v = 1 → re (i + prN h (hpF h ht) c) = 1 ∨ ¬ hasL w h (PSt w h B ht n (1 - n % 2) (i + prN h (hpF h ht) c))) (hv2 : v = 0 → re (i + prN h (hpF h ht) c) = 0 ∧ hasL w h (PSt w h B ht n (1 - n % 2) (i + prN h (hpF h ht) c))) (hv : v ≤ 1) :
    BtI w h B ht n (va_up re (i + prN h (hpF h ht) c) v) i (c + 1) := by
  have hp := prN_pos h (hpF h ht) c
  have up : ∀ q, va_up re (i + prN h (hpF h ht) c) v q = if q = i + prN h (hpF h ht) c then v else re q := fun _ => rfl
  have ext : ∀ q, q < prN h (hpF h ht) w → re q = 1 → va_up re (i + prN h (hpF h ht) c) v q = 1 := by
    intro q hq z
    rw [up]; split
    · rename_i e
      rcases (show v = 0 ∨ v = 1 by omega) with y | y
      · have := (hv2 y).1; rw [← e, z] at this; omega
      · exact y
    · exact z
  have back : ∀ q, q ≠ i + prN h (hpF h ht) c → va_up re (i + prN h (hpF h ht) c) v q = re q := fun q e => by rw [up, if_neg e]
  refine ⟨fun q hq => ?_, ?_, fun q hq z => ?_, fun q c' h1 h2 h3 h4 h5 => ?_⟩
  · rw [up]; split
    · exact hv
    · exact H.1 q hq
  · rw [back 0 (by omega)]; exact H.2.1
  · by_cases e : q = i + prN h (hpF h ht) c
    · have z2 : v = 1 := by rw [up, if_pos e] at z; exact z
      rcases hv1 z2 with y | y
      · rw [e]; exact H.2.2.1 _ (by rw [← e]; exact hq) y
      · refine ⟨by rw [e]; exact y, ?_⟩
        rw [e, PSt_inc R hc hr (by omega), if_pos rfl]
        exact hnw
    · rw [back q e] at z; exact H.2.2.1 q hq z
  · have hqi : q ≤ i := by rcases h2 with z | z; exact Nat.le_of_lt z; omega
    rw [back q (by omega)] at h3
    by_cases e : q = i ∧ c' = c
    · obtain ⟨rfl, rfl⟩ := e
      refine ⟨hnw, fun y => ?_⟩
      rw [va_up_self]
      rcases (show v = 0 ∨ v = 1 by omega) with z | z
      · exact absurd (hv2 z).2 y
      · exact z
    · obtain ⟨a, b⟩ := H.2.2.2 q c' h1 (by omega) h3 h4 h5
      refine ⟨a, fun y => ?_⟩
      have hx : dgN h (hpF h ht) q c' < h - hpF h ht c' := by rw [hp_sub]; exact (tq_two R h4 h5).2
      exact ext _ (W_lt hx h4 h1) (b y)
theorem BtI.start {w h : Nat} {B : Nat → Int32} {ht : Nat → Nat} {n : Nat} {re : Nat → Nat} (R : PrOK w h B ht n) (hre : ∀ q, q < prN h (hpF h ht) w → re q = if q = 0 then 1 else 0) : BtI w h B ht n re 0 0 := by
  have hw := R.1.2.1
  have hh := R.1.2.2.2.1
  have r0 : ∀ p, PSt w h B ht n p 0 = stO w h B (nI p) := by
    intro p
    funext c r
    unfold PSt stO
    by_cases hc : c < w
    · by_cases hr : r < h
      · rw [spE, sp_at hw hc (by omega), if_neg (fun z => absurd z.2 (by unfold tqP dgP; rw [dgN_0]; omega))]
      · simp [hr]
    · simp [hc]
  refine ⟨fun q hq => by rw [hre q hq]; split <;> omega, by rw [hre 0 (prN_pos _ _ _)]; rfl, fun q hq z => ?_, fun q c h1 h2 => ?_⟩
  · rw [hre q hq] at z
    have : q = 0 := by
      by_cases y : q = 0
      · exact y
      · rw [if_neg y] at z; omega
    subst this
    rw [r0, r0]
    exact ⟨R.2.2.2.2.2, R.2.2.2.2.1⟩
  · rcases h2 with z | z
    · exact absurd z (Nat.not_lt_zero _)
    · exact absurd z.2 (Nat.not_lt_zero _)
def reS (re : Nat → Nat) (k : Nat) : Nat → Nat := fun q => if q < k then (if q = 0 then 1 else 0) else re q
theorem reS_0 (re : Nat → Nat) : reS re 0 = re := by funext j; simp [reS]
theorem reS_s (re : Nat → Nat) (k : Nat) {v : Nat} (hv : v = if k = 0 then 1 else 0) : va_up (reS re k) k v = reS re (k + 1) := by
  funext j
  show (if j = k then _ else if j < k then _ else _) = if j < k + 1 then _ else _
  by_cases e : j = k
  · subst e; rw [if_pos rfl, if_pos (by omega), hv]
  · rw [if_neg e]
    by_cases z : j < k
    · rw [if_pos z, if_pos (show j < k + 1 by omega)]
    · rw [if_neg z, if_neg (show ¬ j < k + 1 by omega)]
/-- the reference sees a leader's winning drop -/
theorem pr_win {w h : Nat} {B Sn : Nat → Int32} {ht : Nat → Nat} {n W0 c : Nat} (R : PrOK w h B ht n) (hno : ¬ hasL w h (PSt w h B ht n (n % 2) W0)) (hc : c < w) (hr : tqP h ht W0 c < h) :
    wnB w h (upd (spS h B ht n W0 Sn w) (7 * c + tqP h ht W0 c) (nI (n % 2))) c (tqP h ht W0 c) = true ↔ hasL w h (sq_put (PSt w h B ht n (n % 2) W0) c (tqP h ht W0 c)) := by
  have hw := R.1.2.1
  have hh := R.1.2.2.2.1
  rw [← PSt_same (Sn := Sn) hw hh] at hno ⊢
  refine wn_iff hw hh hc hr (fun r' h1 h2 => ?_) hno
  rw [sp_up R hc h2 h1]
  exact nI_m1 (by omega)
/-- and a follower's line -/
theorem pr_lost {w h : Nat} {B Sn : Nat → Int32} {ht : Nat → Nat} {n W0 c : Nat} (R : PrOK w h B ht n) (hno : ¬ hasL w h (PSt w h B ht n (1 - n % 2) W0)) (hc : c < w) (hr : tqP h ht W0 c < h) :
    wnB w h (upd (upd (spS h B ht n W0 Sn w) (7 * c + tqP h ht W0 c) (nI (n % 2))) (7 * c + (tqP h ht W0 c + 1)) (nI (1 - n % 2))) c (tqP h ht W0 c + 1) = true ↔ hasL w h (PSt w h B ht n (1 - n % 2) (W0 + prN h (hpF h ht) c)) := by
  have hw := R.1.2.1
  have hh := R.1.2.2.2.1
  have h2 := tq_two R hc hr
  have e : stO w h (upd (spS h B ht n W0 Sn w) (7 * c + tqP h ht W0 c) (nI (n % 2))) (nI (1 - n % 2)) = PSt w h B ht n (1 - n % 2) W0 := by
    rw [← PSt_same (Sn := Sn) hw hh]
    funext c' r'
    unfold stO
    by_cases hc' : c' < w
    · by_cases hr' : r' < h
      · by_cases z : 7 * c' + r' = 7 * c + tqP h ht W0 c
        · rw [z, pk_us, sp_up R hc hr (Nat.le_refl _)]
          rw [decide_eq_false (fun y => absurd ((nI01 (by omega) (by omega)).mp y) (by omega)), decide_eq_false (nI_m1 (by omega))]
        · rw [pk_un z]
      · simp [hr']
    · simp [hc']
  rw [PSt_inc R hc hr (by omega), if_neg (by omega), ← e]
  rw [← e] at hno
  refine wn_iff hw hh hc h2.1 (fun r' h1 h3 => ?_) hno
  rw [pk_un (by omega), sp_up R hc h3 (by omega)]
  exact nI_m1 (by omega)
theorem va_up_back {f : Nat → Nat} {i a b : Nat} (h : f i = b) : va_up (va_up f i a) i b = f := by
  funext j
  by_cases e : j = i
  · subst e; rw [va_up_self, h]
  · rw [va_up_ne _ _ e, va_up_ne _ _ e]
