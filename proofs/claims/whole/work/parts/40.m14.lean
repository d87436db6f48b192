-- ===== M14: the reference looks ahead: the table by layers =====
/-- the score of an entry, its value -/
noncomputable def evS (w h : Nat) (B : Nat → Int32) (ht : Nat → Nat) (n E W0 b : Nat) : Int :=
  Sc w h (E - sdN w h ht W0) (tpE h ht W0) (MP w h B ht ((n + sdN w h ht W0) % 2) W0 b) (MP w h B ht (1 - (n + sdN w h ht W0) % 2) W0 b)
noncomputable def evV (w h : Nat) (B : Nat → Int32) (ht : Nat → Nat) (n E W0 b : Nat) : Int := s2v (E - sdN w h ht W0) (evS w h B ht n E W0 b)
def BFA (w h : Nat) (B : Nat → Int32) (ht : Nat → Nat) (n E po : Nat) (wh sb sl : Nat → Nat) : Prop :=
  TabOK po wh sb sl ∧ (wh 0 = 0 ∧ sb 0 = 0) ∧ 1 ≤ po ∧ (∀ j, j < po → EntOK w h B ht n E (sdN w h ht (wh j)) (wh j) (sb j)) ∧ (∀ j, wh j < 8192) ∧ (∀ j, sb j < 8192) ∧ (∀ a, 262144 ≤ a → sl a = 0)
def LaOK (w h : Nat) (ht : Nat → Nat) (po : Nat) (wh la : Nat → Nat) (k : Nat) : Prop :=
  ∀ i, i ≤ k → la i ≤ po ∧ ∀ j, j < po → (j < la i ↔ sdN w h ht (wh j) < i)
def DpOK (w h : Nat) (ht : Nat → Nat) (po : Nat) (wh : Nat → Nat) (k E : Nat) : Prop := ∀ j, j < po → sdN w h ht (wh j) ≤ k ∧ sdN w h ht (wh j) < E
/-- the drops of entry j into columns below c0 have their entries -/
def DoneC (w h : Nat) (B : Nat → Int32) (ht : Nat → Nat) (n E po : Nat) (wh sb : Nat → Nat) (j c0 : Nat) : Prop :=
  ∀ c, c < c0 → c < w → tpE h ht (wh j) c < h → ¬ hasL w h (sq_put (MP w h B ht ((n + sdN w h ht (wh j)) % 2) (wh j) (sb j)) c (tpE h ht (wh j) c)) → sdN w h ht (wh j) + 1 < E →
    ∃ j', j' < po ∧ wh j' = wh j + prN h ht c ∧ sb j' = sb j ||| ((n + sdN w h ht (wh j)) % 2) * 2 ^ (ofN h ht c + dgN h ht (wh j) c)
theorem BFA.few {w h : Nat} {B : Nat → Int32} {ht : Nat → Nat} {n E po : Nat} {wh sb sl : Nat → Nat} (R : RootOK w h B ht n E) (H : BFA w h B ht n E po wh sb sl) : po < 69999 :=
  ent_few R (fun j hj => ⟨_, H.2.2.2.1 j hj⟩) H.1.2.2.2.2
theorem BFA.start {w h : Nat} {B : Nat → Int32} {ht : Nat → Nat} {n E : Nat} {wh sb : Nat → Nat} (R : RootOK w h B ht n E) (h1 : ∀ j, wh j < 8192) (h2 : ∀ j, sb j < 8192) : BFA w h B ht n E 1 (va_up wh 0 0) (va_up sb 0 0) (fun _ => 0) := by
  have r := EntOK.root R
  refine ⟨⟨fun a => Nat.zero_le _, fun a a' _ _ _ z => absurd rfl z, fun a => Nat.zero_ne_one, fun j a b => by omega, fun j j' a b _ _ => by omega⟩, ⟨va_up_self _ _ _, va_up_self _ _ _⟩, Nat.le_refl _, fun j hj => ?_, fun j => ?_, fun j => ?_, fun _ _ => rfl⟩
  · obtain rfl : j = 0 := by omega
    rw [va_up_self, va_up_self, r.2.1]; exact r
  · show (if j = 0 then 0 else wh j) < 8192
    have := h1 j
    split <;> omega
  · show (if j = 0 then 0 else sb j) < 8192
    have := h2 j
    split <;> omega
theorem ent_pow {w h : Nat} {B : Nat → Int32} {ht : Nat → Nat} {n E k W0 b : Nat} (R : RootOK w h B ht n E) (H : EntOK w h B ht n E k W0 b) : W0 < 4096 ∧ b < 4096 := by
  have hE : emp h ht w = E := R.2.2.2.1.2.2.2.2.2.symm
  have e12 := R.2.2.2.2
  have h1 := pr_le (h := h) (ht := ht) w
  rw [hE] at h1
  have p2 : 2 ^ E ≤ 2 ^ 12 := Nat.pow_le_pow_right (by decide) e12
  have a := H.1
  have b := H.2.2.2.1
  omega
/-- the entry behind a drop -/
theorem ent_next {w h : Nat} {B : Nat → Int32} {ht : Nat → Nat} {n E : Nat} (R : RootOK w h B ht n E) {W0 b c : Nat} (H : EntOK w h B ht n E (sdN w h ht W0) W0 b) (hc : c < w) (hr : tpE h ht W0 c < h) (hl : ¬ hasL w h (sq_put (MP w h B ht ((n + sdN w h ht W0) % 2) W0 b) c (tpE h ht W0 c))) :
    sdN w h ht (W0 + prN h ht c) = sdN w h ht W0 + 1 ∧ EntOK w h B ht n E (sdN w h ht (W0 + prN h ht c)) (W0 + prN h ht c) (b ||| ((n + sdN w h ht W0) % 2) * 2 ^ (ofN h ht c + dgN h ht W0 c)) := by
  have C := H.child R hc hr hl
  have e := C.2.1
  exact ⟨e, by rw [e]; exact C⟩
/-- what a drop of an entry is worth -/
noncomputable def evM (w h : Nat) (B : Nat → Int32) (ht : Nat → Nat) (n E W0 b c : Nat) : Int :=
  Mv w h (E - sdN w h ht W0 - 1) (tpE h ht W0) (MP w h B ht ((n + sdN w h ht W0) % 2) W0 b) (MP w h B ht (1 - (n + sdN w h ht W0) % 2) W0 b) c
theorem ev_child {w h : Nat} {B : Nat → Int32} {ht : Nat → Nat} {n E : Nat} (R : RootOK w h B ht n E) {W0 b c : Nat} (H : EntOK w h B ht n E (sdN w h ht W0) W0 b) (hc : c < w) (hr : tpE h ht W0 c < h) (hl : ¬ hasL w h (sq_put (MP w h B ht ((n + sdN w h ht W0) % 2) W0 b) c (tpE h ht W0 c))) :
    evM w h B ht n E W0 b c = - evS w h B ht n E (W0 + prN h ht c) (b ||| ((n + sdN w h ht W0) % 2) * 2 ^ (ofN h ht c + dgN h ht W0 c)) := by
  have hx : dgN h ht W0 c < h - ht c := by unfold tpE at hr; omega
  have e := (ent_next R H hc hr hl).1
  have hk := H.move hc hr
  have hpl : (n + sdN w h ht W0) % 2 ≤ 1 := by omega
  unfold evM evS
  rw [Mv_go hl, e]
  congr 1
  have e1 : (n + (sdN w h ht W0 + 1)) % 2 = 1 - (n + sdN w h ht W0) % 2 := by omega
  rw [e1, show 1 - (1 - (n + sdN w h ht W0) % 2) = (n + sdN w h ht W0) % 2 by omega, show E - sdN w h ht W0 - 1 = E - (sdN w h ht W0 + 1) by omega]
  rw [MP_child R H.2.2.1 hc hr hpl (show 1 - (n + sdN w h ht W0) % 2 ≤ 1 by omega), MP_child R H.2.2.1 hc hr hpl hpl, if_neg (by omega), if_pos rfl]
  exact (Sc_congr _ (fun c' _ => tpE_child (w := w) hx c')).symm
theorem ev_best {w h : Nat} {B : Nat → Int32} {ht : Nat → Nat} {n E W0 b : Nat} (hk : sdN w h ht W0 < E) : evS w h B ht n E W0 b = bestOf (fun c => decide (tpE h ht W0 c < h)) (evM w h B ht n E W0 b) (-((E - sdN w h ht W0 : Nat) : Int)) w := by
  unfold evS evM
  obtain ⟨k, ek⟩ : ∃ k, E - sdN w h ht W0 = k + 1 := ⟨E - sdN w h ht W0 - 1, by omega⟩
  rw [ek, Sc_succ, Nat.add_sub_cancel]
  rfl
theorem ev_bd (w h : Nat) (B : Nat → Int32) (ht : Nat → Nat) (n E W0 b : Nat) : -((E - sdN w h ht W0 : Nat) : Int) ≤ evS w h B ht n E W0 b ∧ evS w h B ht n E W0 b ≤ ((E - sdN w h ht W0 : Nat) : Int) := Sc_bd w h _ _ _ _
theorem evM_bd {w h : Nat} {B : Nat → Int32} {ht : Nat → Nat} {n E W0 : Nat} (hk : sdN w h ht W0 < E) (b c : Nat) : -((E - sdN w h ht W0 : Nat) : Int) ≤ evM w h B ht n E W0 b c ∧ evM w h B ht n E W0 b c ≤ ((E - sdN w h ht W0 : Nat) : Int) := by
  have := Mv_bd w h (E - sdN w h ht W0 - 1) (tpE h ht W0) (MP w h B ht ((n + sdN w h ht W0) % 2) W0 b) (MP w h B ht (1 - (n + sdN w h ht W0) % 2) W0 b) c
  unfold evM
  omega
theorem evV_bd {w h : Nat} {B : Nat → Int32} {ht : Nat → Nat} {n E W0 b : Nat} (hE : E ≤ 12) : -13 ≤ evV w h B ht n E W0 b ∧ evV w h B ht n E W0 b ≤ 13 := by
  have h1 := ev_bd w h B ht n E W0 b
  have := s2v_bd h1.1 h1.2
  unfold evV
  omega
/-- the three answers of valueBehind -/
theorem vb_win_is {w h : Nat} {B : Nat → Int32} {ht : Nat → Nat} {n E W0 b c : Nat} (hk : sdN w h ht W0 < E) (hl : hasL w h (sq_put (MP w h B ht ((n + sdN w h ht W0) % 2) W0 b) c (tpE h ht W0 c))) : (1 : Int) = s2v (E - sdN w h ht W0) (evM w h B ht n E W0 b c) := by
  unfold evM
  rw [Mv_win hl]
  unfold s2v
  rw [if_pos (by omega)]; omega
theorem vb_last_is {w h : Nat} {B : Nat → Int32} {ht : Nat → Nat} {n E W0 b c : Nat} (hk : E = sdN w h ht W0 + 1) (hl : ¬ hasL w h (sq_put (MP w h B ht ((n + sdN w h ht W0) % 2) W0 b) c (tpE h ht W0 c))) : (0 : Int) = s2v (E - sdN w h ht W0) (evM w h B ht n E W0 b c) := by
  unfold evM
  rw [Mv_go hl, show E - sdN w h ht W0 - 1 = 0 by omega]
  show (0 : Int) = s2v _ (-0)
  unfold s2v
  simp
theorem vb_go_is {w h : Nat} {B : Nat → Int32} {ht : Nat → Nat} {n E : Nat} (R : RootOK w h B ht n E) {W0 b c : Nat} (H : EntOK w h B ht n E (sdN w h ht W0) W0 b) (hc : c < w) (hr : tpE h ht W0 c < h) (hl : ¬ hasL w h (sq_put (MP w h B ht ((n + sdN w h ht W0) % 2) W0 b) c (tpE h ht W0 c))) :
    tuZ (evV w h B ht n E (W0 + prN h ht c) (b ||| ((n + sdN w h ht W0) % 2) * 2 ^ (ofN h ht c + dgN h ht W0 c))) = s2v (E - sdN w h ht W0) (evM w h B ht n E W0 b c) := by
  have hk := H.move hc hr
  have e := (ent_next R H hc hr hl).1
  have bd := ev_bd w h B ht n E (W0 + prN h ht c) (b ||| ((n + sdN w h ht W0) % 2) * 2 ^ (ofN h ht c + dgN h ht W0 c))
  unfold evV
  rw [tu_s2v bd.1 bd.2, ev_child R H hc hr hl, e, show E - (sdN w h ht W0 + 1) + 1 = E - sdN w h ht W0 by omega]
/-- a drop whose entry lies there already -/
theorem DoneC.old {w h : Nat} {B : Nat → Int32} {ht : Nat → Nat} {n E po : Nat} {wh sb sl : Nat → Nat} (H : BFA w h B ht n E po wh sb sl) {q c j0 : Nat} (D0 : DoneC w h B ht n E po wh sb q c)
    (hj0 : stB sl wh sb (wh q + prN h ht c) (sb q ||| ((n + sdN w h ht (wh q)) % 2) * 2 ^ (ofN h ht c + dgN h ht (wh q) c)) ((hsN (wh q + prN h ht c) (sb q ||| ((n + sdN w h ht (wh q)) % 2) * 2 ^ (ofN h ht c + dgN h ht (wh q) c)) + j0) % 262144) = true)
    (hnz : ¬ sl (prb (stB sl wh sb (wh q + prN h ht c) (sb q ||| ((n + sdN w h ht (wh q)) % 2) * 2 ^ (ofN h ht c + dgN h ht (wh q) c))) j0 (hsN (wh q + prN h ht c) (sb q ||| ((n + sdN w h ht (wh q)) % 2) * 2 ^ (ofN h ht c + dgN h ht (wh q) c)))) = 0) : DoneC w h B ht n E po wh sb q (c + 1) := by
  intro c' h1 h2 h3 h4 h5
  by_cases e : c' = c
  · subst e
    obtain ⟨j, -, hj, e1, e2⟩ := H.1.found hj0 hnz
    exact ⟨j, hj, e1, e2⟩
  · exact D0 c' (by omega) h2 h3 h4 h5
/-- a column that no drop's entry comes from -/
theorem DoneC.skip {w h : Nat} {B : Nat → Int32} {ht : Nat → Nat} {n E po : Nat} {wh sb : Nat → Nat} {q c : Nat} (D0 : DoneC w h B ht n E po wh sb q c) (hno : ¬ tpE h ht (wh q) c < h ∨ hasL w h (sq_put (MP w h B ht ((n + sdN w h ht (wh q)) % 2) (wh q) (sb q)) c (tpE h ht (wh q) c)) ∨ ¬ sdN w h ht (wh q) + 1 < E) : DoneC w h B ht n E po wh sb q (c + 1) := by
  intro c' h1 h2 h3 h4 h5
  by_cases e : c' = c
  · subst e
    rcases hno with z | z | z
    · exact absurd h3 z
    · exact absurd z h4
    · exact absurd h5 z
  · exact D0 c' (by omega) h2 h3 h4 h5
theorem vu_ne {f : Nat → Nat} {a v j : Nat} (e : j ≠ a) : va_up f a v j = f j := by show (if j = a then v else f j) = f j; rw [if_neg e]
/-- what the new entry leaves as it was -/
theorem DoneC.keep {w h : Nat} {B : Nat → Int32} {ht : Nat → Nat} {n E po : Nat} {wh sb : Nat → Nat} {j c hw b : Nat} (hj : j < po) (D0 : DoneC w h B ht n E po wh sb j c) : DoneC w h B ht n E (po + 1) (va_up wh po hw) (va_up sb po b) j c := by
  intro c' h1 h2 h3 h4 h5
  rw [vu_ne (show j ≠ po by omega)] at h3 h4 h5 ⊢
  rw [vu_ne (show j ≠ po by omega)] at h4 ⊢
  obtain ⟨j', a, b', d⟩ := D0 c' h1 h2 h3 h4 h5
  exact ⟨j', by omega, by rw [vu_ne (by omega)]; exact b', by rw [vu_ne (by omega)]; exact d⟩
theorem DoneC.new {w h : Nat} {B : Nat → Int32} {ht : Nat → Nat} {n E po : Nat} {wh sb : Nat → Nat} {q c : Nat} (hq : q < po) (D0 : DoneC w h B ht n E po wh sb q c) : DoneC w h B ht n E (po + 1) (va_up wh po (wh q + prN h ht c)) (va_up sb po (sb q ||| ((n + sdN w h ht (wh q)) % 2) * 2 ^ (ofN h ht c + dgN h ht (wh q) c))) q (c + 1) := by
  intro c' h1 h2 h3 h4 h5
  by_cases e : c' = c
  · subst e
    refine ⟨po, by omega, ?_, ?_⟩
    · rw [va_up_self, vu_ne (show q ≠ po by omega)]
    · rw [va_up_self, vu_ne (show q ≠ po by omega), vu_ne (show q ≠ po by omega)]
  · exact D0.keep hq c' (by omega) h2 h3 h4 h5
theorem BFA.new {w h : Nat} {B : Nat → Int32} {ht : Nat → Nat} {n E po : Nat} {wh sb sl : Nat → Nat} (R : RootOK w h B ht n E) (H : BFA w h B ht n E po wh sb sl) {q c j0 : Nat} (hq : q < po) (hc : c < w) (hr : tpE h ht (wh q) c < h) (hl : ¬ hasL w h (sq_put (MP w h B ht ((n + sdN w h ht (wh q)) % 2) (wh q) (sb q)) c (tpE h ht (wh q) c)))
    (hj0 : stB sl wh sb (wh q + prN h ht c) (sb q ||| ((n + sdN w h ht (wh q)) % 2) * 2 ^ (ofN h ht c + dgN h ht (wh q) c)) ((hsN (wh q + prN h ht c) (sb q ||| ((n + sdN w h ht (wh q)) % 2) * 2 ^ (ofN h ht c + dgN h ht (wh q) c)) + j0) % 262144) = true)
    (hz : sl (prb (stB sl wh sb (wh q + prN h ht c) (sb q ||| ((n + sdN w h ht (wh q)) % 2) * 2 ^ (ofN h ht c + dgN h ht (wh q) c))) j0 (hsN (wh q + prN h ht c) (sb q ||| ((n + sdN w h ht (wh q)) % 2) * 2 ^ (ofN h ht c + dgN h ht (wh q) c)))) = 0) :
    BFA w h B ht n E (po + 1) (va_up wh po (wh q + prN h ht c)) (va_up sb po (sb q ||| ((n + sdN w h ht (wh q)) % 2) * 2 ^ (ofN h ht c + dgN h ht (wh q) c))) (va_up sl (prb (stB sl wh sb (wh q + prN h ht c) (sb q ||| ((n + sdN w h ht (wh q)) % 2) * 2 ^ (ofN h ht c + dgN h ht (wh q) c))) j0 (hsN (wh q + prN h ht c) (sb q ||| ((n + sdN w h ht (wh q)) % 2) * 2 ^ (ofN h ht c + dgN h ht (wh q) c)))) (po + 1)) := by
  obtain ⟨h1, h2, h3, h4, h5, h6, h7⟩ := H
  have C := (ent_next R (h4 q hq) hc hr hl).2
  have pw := ent_pow R C
  have hpx : prb (stB sl wh sb (wh q + prN h ht c) (sb q ||| ((n + sdN w h ht (wh q)) % 2) * 2 ^ (ofN h ht c + dgN h ht (wh q) c))) j0 (hsN (wh q + prN h ht c) (sb q ||| ((n + sdN w h ht (wh q)) % 2) * 2 ^ (ofN h ht c + dgN h ht (wh q) c))) < 262144 := prb_lt _ _ (Nat.mod_lt _ (by decide))
  have hp := prN_pos h ht c
  refine ⟨h1.add h3 hj0 hz (fun z => by rw [h2.1] at z; omega), ⟨by rw [vu_ne (by omega)]; exact h2.1, by rw [vu_ne (by omega)]; exact h2.2⟩, by omega, fun j hj => ?_, fun j => ?_, fun j => ?_, fun a ha => ?_⟩
  · by_cases e : j = po
    · subst e; rw [va_up_self, va_up_self]; exact C
    · rw [vu_ne e, vu_ne e]; exact h4 j (by omega)
  · by_cases e : j = po
    · subst e; rw [va_up_self]; omega
    · rw [vu_ne e]; exact h5 j
  · by_cases e : j = po
    · subst e; rw [va_up_self]; omega
    · rw [vu_ne e]; exact h6 j
  · rw [vu_ne (by omega)]; exact h7 a ha
theorem LaOK.new {w h : Nat} {ht : Nat → Nat} {po : Nat} {wh la : Nat → Nat} {k hw : Nat} (L : LaOK w h ht po wh la k) (hs : sdN w h ht hw = k) : LaOK w h ht (po + 1) (va_up wh po hw) la k := by
  intro i hi
  obtain ⟨a, b⟩ := L i hi
  refine ⟨by omega, fun j hj => ?_⟩
  by_cases e : j = po
  · subst e; rw [va_up_self, hs]; omega
  · rw [vu_ne e]; exact b j (by omega)
theorem DpOK.new {w h : Nat} {ht : Nat → Nat} {po : Nat} {wh : Nat → Nat} {k E hw : Nat} (L : DpOK w h ht po wh k E) (hs : sdN w h ht hw = k) (hE : k < E) : DpOK w h ht (po + 1) (va_up wh po hw) k E := by
  intro j hj
  by_cases e : j = po
  · subst e; rw [va_up_self, hs]; omega
  · rw [vu_ne e]; exact L j (by omega)
/-- a new layer begins -/
theorem LaOK.next {w h : Nat} {ht : Nat → Nat} {po : Nat} {wh la : Nat → Nat} {k E : Nat} (L : LaOK w h ht po wh la k) (Dp : DpOK w h ht po wh k E) : LaOK w h ht po wh (va_up la (k + 1) po) (k + 1) := by
  intro i hi
  by_cases e : i = k + 1
  · subst e
    rw [va_up_self]
    refine ⟨Nat.le_refl _, fun j hj => ?_⟩
    have := (Dp j hj).1
    omega
  · rw [vu_ne e]; exact L i (by omega)
def J1 (w h : Nat) (B : Nat → Int32) (ht : Nat → Nat) (n E k po : Nat) (wh sb la sl : Nat → Nat) : Prop :=
  BFA w h B ht n E po wh sb sl ∧ LaOK w h ht po wh la k ∧ DpOK w h ht po wh k E ∧ ∀ j, j < po → sdN w h ht (wh j) < k → DoneC w h B ht n E po wh sb j w
def J2 (w h : Nat) (B : Nat → Int32) (ht : Nat → Nat) (n E k q po : Nat) (wh sb la sl : Nat → Nat) : Prop :=
  BFA w h B ht n E po wh sb sl ∧ LaOK w h ht po wh la (k + 1) ∧ DpOK w h ht po wh (k + 1) E ∧ ∀ j, j < q → j < po → DoneC w h B ht n E po wh sb j w
theorem J1.start {w h : Nat} {B : Nat → Int32} {ht : Nat → Nat} {n E : Nat} {wh sb la : Nat → Nat} (R : RootOK w h B ht n E) (hE : 1 ≤ E) (h1 : ∀ j, wh j < 8192) (h2 : ∀ j, sb j < 8192) : J1 w h B ht n E 0 1 (va_up wh 0 0) (va_up sb 0 0) (va_up la 0 0) (fun _ => 0) := by
  have r := (EntOK.root R).2.1
  refine ⟨BFA.start R h1 h2, fun i hi => ?_, fun j hj => ?_, fun j _ z => absurd z (Nat.not_lt_zero _)⟩
  · obtain rfl : i = 0 := by omega
    rw [va_up_self]
    exact ⟨by omega, fun j _ => by omega⟩
  · obtain rfl : j = 0 := by omega
    rw [va_up_self, r]; omega
theorem J1.layer {w h : Nat} {B : Nat → Int32} {ht : Nat → Nat} {n E k po : Nat} {wh sb la sl : Nat → Nat} (H : J1 w h B ht n E k po wh sb la sl) : J2 w h B ht n E k (la k) po wh sb (va_up la (k + 1) po) sl := by
  obtain ⟨h1, h2, h3, h4⟩ := H
  refine ⟨h1, h2.next h3, fun j hj => ⟨Nat.le_succ_of_le (h3 j hj).1, (h3 j hj).2⟩, fun j hj hp => h4 j hp (((h2 k (Nat.le_refl _)).2 j hp).mp hj)⟩
theorem J2.layer {w h : Nat} {B : Nat → Int32} {ht : Nat → Nat} {n E k po : Nat} {wh sb la sl : Nat → Nat} (H : J2 w h B ht n E k (la (k + 1)) po wh sb la sl) : J1 w h B ht n E (k + 1) po wh sb la sl := by
  obtain ⟨h1, h2, h3, h4⟩ := H
  exact ⟨h1, h2, h3, fun j hj z => h4 j (((h2 (k + 1) (Nat.le_refl _)).2 j hj).mpr z) hj⟩
def J3 (w h : Nat) (B : Nat → Int32) (ht : Nat → Nat) (n E k q c po : Nat) (wh sb la sl : Nat → Nat) : Prop :=
  J2 w h B ht n E k q po wh sb la sl ∧ DoneC w h B ht n E po wh sb q c
theorem J3.start {w h : Nat} {B : Nat → Int32} {ht : Nat → Nat} {n E k q po : Nat} {wh sb la sl : Nat → Nat} (H : J2 w h B ht n E k q po wh sb la sl) : J3 w h B ht n E k q 0 po wh sb la sl := ⟨H, fun c hc => absurd hc (Nat.not_lt_zero _)⟩
theorem J3.stop {w h : Nat} {B : Nat → Int32} {ht : Nat → Nat} {n E k q po : Nat} {wh sb la sl : Nat → Nat} (H : J3 w h B ht n E k q w po wh sb la sl) : J2 w h B ht n E k (q + 1) po wh sb la sl := by
  obtain ⟨⟨h1, h2, h3, h4⟩, h5⟩ := H
  refine ⟨h1, h2, h3, fun j hj hp => ?_⟩
  by_cases e : j = q
  · subst e; exact h5
  · exact h4 j (by omega) hp
theorem J3.new {w h : Nat} {B : Nat → Int32} {ht : Nat → Nat} {n E k q c po : Nat} {wh sb la sl : Nat → Nat} (R : RootOK w h B ht n E) (H : J3 w h B ht n E k q c po wh sb la sl) {j0 : Nat} (hq : q < po) (hk : sdN w h ht (wh q) = k) (hkE : k + 1 < E) (hc : c < w) (hr : tpE h ht (wh q) c < h) (hl : ¬ hasL w h (sq_put (MP w h B ht ((n + sdN w h ht (wh q)) % 2) (wh q) (sb q)) c (tpE h ht (wh q) c)))
    (hj0 : stB sl wh sb (wh q + prN h ht c) (sb q ||| ((n + sdN w h ht (wh q)) % 2) * 2 ^ (ofN h ht c + dgN h ht (wh q) c)) ((hsN (wh q + prN h ht c) (sb q ||| ((n + sdN w h ht (wh q)) % 2) * 2 ^ (ofN h ht c + dgN h ht (wh q) c)) + j0) % 262144) = true)
    (hz : sl (prb (stB sl wh sb (wh q + prN h ht c) (sb q ||| ((n + sdN w h ht (wh q)) % 2) * 2 ^ (ofN h ht c + dgN h ht (wh q) c))) j0 (hsN (wh q + prN h ht c) (sb q ||| ((n + sdN w h ht (wh q)) % 2) * 2 ^ (ofN h ht c + dgN h ht (wh q) c)))) = 0) :
    J3 w h B ht n E k q (c + 1) (po + 1) (va_up wh po (wh q + prN h ht c)) (va_up sb po (sb q ||| ((n + sdN w h ht (wh q)) % 2) * 2 ^ (ofN h ht c + dgN h ht (wh q) c))) la (va_up sl (prb (stB sl wh sb (wh q + prN h ht c) (sb q ||| ((n + sdN w h ht (wh q)) % 2) * 2 ^ (ofN h ht c + dgN h ht (wh q) c))) j0 (hsN (wh q + prN h ht c) (sb q ||| ((n + sdN w h ht (wh q)) % 2) * 2 ^ (ofN h ht c + dgN h ht (wh q) c)))) (po + 1)) := by
  obtain ⟨⟨h1, h2, h3, h4⟩, h5⟩ := H
  have hs := (ent_next R (h1.2.2.2.1 q hq) hc hr hl).1
  rw [hk] at hs
  refine ⟨⟨h1.new R hq hc hr hl hj0 hz, h2.new hs, h3.new hs hkE, fun j hj hp => ?_⟩, h5.new hq⟩
  exact (h4 j hj (by omega)).keep (by omega)
