-- ===== M20: the game that both sides hold =====
def gH : List Nat → Nat → Nat
  | [] => fun _ => 0
  | c :: d => va_up (gH d) c (gH d c + 1)
def gB : List Nat → Nat → Int32
  | [] => bdF 63
  | c :: d => upd (gB d) (7 * c + gH d c) (nI (d.length % 2))
def gO (w h : Nat) (d : List Nat) (q : Nat) : Sq := stO w h (gB d) (nI q)
/-- every drop was allowed, and none came after a line -/
def gOK (w h : Nat) : List Nat → Prop
  | [] => True
  | c :: d => c < w ∧ gH d c < h ∧ ¬ hasL w h (gO w h d 0) ∧ ¬ hasL w h (gO w h d 1) ∧ gOK w h d
def Hs (hy : Nat → Nat) : List Nat → Prop
  | [] => True
  | c :: d => hy d.length = c ∧ Hs hy d
theorem Hs.put {hy : Nat → Nat} {k c : Nat} : ∀ {d : List Nat}, d.length ≤ k → Hs hy d → Hs (va_up hy k c) d
  | [], _, _ => trivial
  | b :: d, hk, H => ⟨by rw [va_up_ne _ _ (by simp at hk; omega)]; exact H.1, Hs.put (by simp at hk; omega) H.2⟩
theorem Hs.drop {hy : Nat → Nat} {d : List Nat} {c : Nat} (H : Hs hy d) : Hs (va_up hy d.length c) (c :: d) := ⟨va_up_self _ _ _, H.put (Nat.le_refl _)⟩
theorem gH_cons (c : Nat) (d : List Nat) (j : Nat) : gH (c :: d) j = if j = c then gH d c + 1 else gH d j := rfl
theorem gH_le {w h : Nat} : ∀ {d : List Nat}, gOK w h d → ∀ c, gH d c ≤ h
  | [], _, c => Nat.zero_le _
  | b :: d, H, c => by
    rw [gH_cons]
    split
    · have := H.2.1; omega
    · exact gH_le H.2.2.2.2 c
theorem gH_inc (c : Nat) (d : List Nat) : gH (c :: d) = tp_inc (gH d) c := by
  funext j; rw [gH_cons]; unfold tp_inc; split
  · rename_i e; rw [e]
  · rfl
theorem gB_at {w h : Nat} (hd : Dm w h) : ∀ {d : List Nat}, gOK w h d → ∀ c r, c < w → r < h → (gH d c ≤ r → gB d (7 * c + r) = -1) ∧ (r < gH d c → gB d (7 * c + r) = nI 0 ∨ gB d (7 * c + r) = nI 1)
  | [], _, c, r, hc, hr => by
    have h1 := hd.2.1
    have h2 := hd.2.2.2.1
    refine ⟨fun _ => ?_, fun q => absurd q (Nat.not_lt_zero _)⟩
    show bdF 63 (7 * c + r) = -1
    unfold bdF
    rw [if_pos (by omega)]
  | b :: d, H, c, r, hc, hr => by
    have h1 := hd.2.1
    have h2 := hd.2.2.2.1
    have ih := gB_at hd H.2.2.2.2 c r hc hr
    show (gH (b :: d) c ≤ r → upd (gB d) (7 * b + gH d b) _ _ = -1) ∧ (r < gH (b :: d) c → upd (gB d) (7 * b + gH d b) _ _ = nI 0 ∨ upd (gB d) (7 * b + gH d b) _ _ = nI 1)
    rw [gH_cons]
    have hb := H.2.1
    by_cases e : 7 * c + r = 7 * b + gH d b
    · have e1 : c = b := by omega
      have e2 : r = gH d b := by omega
      subst e1
      rw [e, pk_us, if_pos rfl]
      refine ⟨fun q => absurd q (by omega), fun _ => ?_⟩
      rcases Nat.mod_two_eq_zero_or_one d.length with z | z <;> rw [z]
      · exact Or.inl rfl
      · exact Or.inr rfl
    · rw [pk_un e]
      by_cases e1 : c = b
      · subst e1
        rw [if_pos rfl]
        exact ⟨fun q => ih.1 (by omega), fun q => ih.2 (by omega)⟩
      · rw [if_neg e1]; exact ih
theorem sum_emp {h : Nat} {tp : Nat → Nat} (hh : ∀ c, tp c ≤ h) : ∀ n, sumN tp n + emp h tp n = n * h
  | 0 => by simp [sumN, emp]
  | n + 1 => by
    have := sum_emp hh n
    have := hh n
    have e : (n + 1) * h = n * h + h := by rw [Nat.succ_mul]
    show sumN tp n + tp n + (emp h tp n + (h - tp n)) = _
    omega
theorem gH_sum {w h : Nat} : ∀ {d : List Nat}, gOK w h d → sumN (gH d) w = d.length
  | [], _ => by
    show sumN (fun _ => 0) w = 0
    induction w with
    | zero => rfl
    | succ w ih => show sumN _ w + 0 = 0; rw [ih trivial]
  | b :: d, H => by
    rw [sumN_inc (f := gH d) (g := gH (b :: d)) (c := b) (by rw [gH_cons, if_pos rfl]) (fun i hi => by rw [gH_cons, if_neg hi]) H.1, gH_sum H.2.2.2.2]
    rfl
theorem g_emp {w h : Nat} {d : List Nat} (H : gOK w h d) : d.length ≤ w * h ∧ emp h (gH d) w = w * h - d.length := by
  have := sum_emp (gH_le H) w
  have := gH_sum H
  omega
theorem gO_at {w h : Nat} {d : List Nat} {q c r : Nat} : gO w h d q c r = true ↔ c < w ∧ r < h ∧ gB d (7 * c + r) = nI q := stO_at
theorem g_dis {w h : Nat} {d : List Nat} {c r : Nat} {a b : Nat} (ha : a ≤ 1) (hb : b ≤ 1) (hab : a ≠ b) (h1 : gO w h d a c r = true) : gO w h d b c r = false := by
  rw [← Bool.not_eq_true]
  intro h2
  obtain ⟨-, -, e1⟩ := gO_at.mp h1
  obtain ⟨-, -, e2⟩ := gO_at.mp h2
  rw [e1] at e2
  exact hab ((nI01 ha hb).mp e2)
theorem g_grav {w h : Nat} (hd : Dm w h) {d : List Nat} (H : gOK w h d) {a b : Nat} (ha : a ≤ 1) (hb : b = 1 - a) : grav w (gH d) (fun c r => gO w h d a c r || gO w h d b c r) := by
  intro c r
  rw [Bool.eq_iff_iff]
  simp only [Bool.or_eq_true, gO_at, Bool.and_eq_true, decide_eq_true_eq]
  constructor
  · intro z
    have hcr : c < w ∧ r < h := by rcases z with z | z <;> exact ⟨z.1, z.2.1⟩
    refine ⟨hcr.1, ?_⟩
    by_cases y : gH d c ≤ r
    · have := (gB_at hd H c r hcr.1 hcr.2).1 y
      rcases z with z | z
      · rw [z.2.2] at this; exact absurd this.symm (nI_m1 ha)
      · rw [z.2.2] at this; exact absurd this.symm (nI_m1 (by omega))
    · omega
  · rintro ⟨h1, h2⟩
    have hr : r < h := Nat.lt_of_lt_of_le h2 (gH_le H c)
    have := (gB_at hd H c r h1 hr).2 h2
    rcases (show a = 0 ∨ a = 1 by omega) with rfl | rfl
    · obtain rfl : b = 1 := by omega
      exact this.imp (fun q => ⟨h1, hr, q⟩) (fun q => ⟨h1, hr, q⟩)
    · obtain rfl : b = 0 := by omega
      exact this.symm.imp (fun q => ⟨h1, hr, q⟩) (fun q => ⟨h1, hr, q⟩)
theorem g_pos {w h : Nat} (hd : Dm w h) {d : List Nat} (H : gOK w h d) (h0 : ¬ hasL w h (gO w h d 0)) (h1 : ¬ hasL w h (gO w h d 1)) {n : Nat} (hn : n = d.length) : PosOK w h (w * h - n) (gH d) (gO w h d (n % 2)) (gO w h d (1 - n % 2)) := by
  have no : ∀ a, a ≤ 1 → ¬ hasL w h (gO w h d a) := fun a ha => by
    rcases (show a = 0 ∨ a = 1 by omega) with rfl | rfl
    · exact h0
    · exact h1
  exact ⟨fun c _ => gH_le H c, g_grav hd H (by omega) rfl, fun c r q => g_dis (by omega) (by omega) (by omega) q, no _ (by omega), no _ (by omega), by rw [(g_emp H).2, hn]⟩
/-- a stone more -/
theorem stO_us {w h : Nat} (hh : h ≤ 7) {f : Nat → Int32} {c r : Nat} {x : Int32} (hc : c < w) (hr : r < h) : stO w h (upd f (7 * c + r) x) x = sq_put (stO w h f x) c r := by
  funext c' r'
  rw [Bool.eq_iff_iff, put_at, stO_at, stO_at]
  by_cases e : 7 * c' + r' = 7 * c + r
  · rw [e, pk_us]
    constructor
    · rintro ⟨a, b, -⟩; exact Or.inr (by omega)
    · rintro (⟨a, b, -⟩ | ⟨rfl, rfl⟩)
      · exact ⟨a, b, rfl⟩
      · exact ⟨hc, hr, rfl⟩
  · rw [pk_un e]
    constructor
    · exact fun z => Or.inl z
    · rintro (z | ⟨rfl, rfl⟩)
      · exact z
      · exact absurd rfl e
theorem stO_un {w h : Nat} (hh : h ≤ 7) {f : Nat → Int32} {c r : Nat} {x y : Int32} (hx : x ≠ y) (hf : f (7 * c + r) ≠ y) : stO w h (upd f (7 * c + r) x) y = stO w h f y := by
  funext c' r'
  rw [Bool.eq_iff_iff, stO_at, stO_at]
  by_cases e : 7 * c' + r' = 7 * c + r
  · rw [e, pk_us]
    exact ⟨fun z => absurd z.2.2 hx, fun z => absurd z.2.2 hf⟩
  · rw [pk_un e]
theorem gO_mover {w h : Nat} (hd : Dm w h) {d : List Nat} {c : Nat} (H : gOK w h (c :: d)) {q : Nat} (hq : q = d.length % 2) : gO w h (c :: d) q = sq_put (gO w h d q) c (gH d c) := by
  subst hq
  exact stO_us hd.2.2.2.1 H.1 H.2.1
theorem gO_other {w h : Nat} (hd : Dm w h) {d : List Nat} {c : Nat} (H : gOK w h (c :: d)) {q : Nat} (hq : q = 1 - d.length % 2) : gO w h (c :: d) q = gO w h d q := by
  subst hq
  refine stO_un hd.2.2.2.1 (fun z => absurd ((nI01 (by omega) (by omega)).mp z) (by omega)) ?_
  rw [(gB_at hd H.2.2.2.2 c (gH d c) H.1 H.2.1).1 (Nat.le_refl _)]
  exact nI_m1 (by omega)
/-- back: the board as it was -/
theorem gB_back {w h : Nat} (hd : Dm w h) {d : List Nat} {c : Nat} (H : gOK w h (c :: d)) : upd (gB (c :: d)) (7 * c + (gH (c :: d) c - 1)) (-1) = gB d ∧ va_up (gH (c :: d)) c (gH (c :: d) c - 1) = gH d := by
  have e : gH (c :: d) c = gH d c + 1 := by rw [gH_cons, if_pos rfl]
  rw [e, Nat.add_sub_cancel]
  refine ⟨upd_back ((gB_at hd H.2.2.2.2 c (gH d c) H.1 H.2.1).1 (Nat.le_refl _)), va_up_back rfl⟩
theorem gB_new {w h : Nat} (hd : Dm w h) (q : Nat) (hq : q ≤ 1) : gO w h [] q = fun _ _ => false := by
  funext c r
  rw [← Bool.not_eq_true]
  intro z
  obtain ⟨a, b, e⟩ := gO_at.mp z
  rw [(gB_at hd (d := []) trivial c r a b).1 (Nat.zero_le _)] at e
  exact nI_m1 hq e
theorem no_line {w h : Nat} : ¬ hasL w h (fun _ _ => false) := by
  rintro ⟨way, c, r, -, -, hin⟩
  exact Bool.noConfusion (hin 0 (by omega))
/-- the class's stones are those of the game -/
def RS (w h : Nat) (S : Nat → Int64) (d : List Nat) : Prop := Rep w h (S 0) (gO w h d 0) ∧ Rep w h (S 1) (gO w h d 1)
theorem RS.at {w h : Nat} {S : Nat → Int64} {d : List Nat} (H : RS w h S d) {q : Nat} (hq : q ≤ 1) : Rep w h (S q) (gO w h d q) := by
  rcases (show q = 0 ∨ q = 1 by omega) with rfl | rfl
  · exact H.1
  · exact H.2
theorem RS.of {w h : Nat} {S : Nat → Int64} {d : List Nat} (a : Nat) (ha : a ≤ 1) (h1 : Rep w h (S a) (gO w h d a)) (h2 : Rep w h (S (1 - a)) (gO w h d (1 - a))) : RS w h S d := by
  rcases (show a = 0 ∨ a = 1 by omega) with rfl | rfl
  · exact ⟨h1, h2⟩
  · exact ⟨h2, h1⟩
theorem Rep.none {w h : Nat} : Rep w h 0 (fun _ _ => false) := ⟨fun c r _ => tb_0 _, fun c r z => by cases z⟩
theorem RS.new {w h : Nat} (hd : Dm w h) {S : Nat → Int64} (h0 : S 0 = 0) (h1 : S 1 = 0) : RS w h S [] := by
  unfold RS
  rw [gB_new hd 0 (by omega), gB_new hd 1 (by omega), h0, h1]
  exact ⟨Rep.none, Rep.none⟩
theorem RS.drop {w h : Nat} (hd : Dm w h) {S : Nat → Int64} {d : List Nat} {c : Nat} (H : RS w h S d) (G : gOK w h (c :: d)) : RS w h (vp_updL S (d.length % 2) (S (d.length % 2) ||| sqL h c (gH d c))) (c :: d) := by
  refine RS.of (d.length % 2) (by omega) ?_ ?_
  · rw [pk_uLs, gO_mover hd G rfl]
    exact (H.at (by omega)).put hd G.1 G.2.1
  · rw [pk_uLn (by omega), gO_other hd G rfl]
    exact H.at (by omega)
theorem tb_sq {w h c r : Nat} (hd : Dm w h) (hc : c < w) (hr : r < h) (i : Nat) : tb (sqL h c r) i = decide (i = ix h c r) := by
  have := ix_lt (h := h) hc (Nat.le_of_lt hr)
  exact tb_pow (by have := hd.2.2.2.2.2; show ix h c r < 64; omega) i
theorem Rep.del {w h c r : Nat} (hd : Dm w h) (hc : c < w) (hr : r < h) {x : Int64} {M : Sq} (H : Rep w h x (sq_put M c r)) (hM : M c r = false) : Rep w h (x &&& (sqL h c r ^^^ (-1))) M := by
  have off : ∀ c' r', M c' r' = true → c' < w ∧ r' < h := fun c' r' z => H.2 c' r' (put_at.mpr (Or.inl z))
  refine ⟨fun c' r' hr' => ?_, off⟩
  rw [tb_and]
  by_cases hi : ix h c' r' < 64
  · rw [tb_not _ hi, tb_sq hd hc hr, H.1 c' r' hr']
    by_cases e : ix h c' r' = ix h c r
    · obtain ⟨rfl, rfl⟩ := ix_inj hr' (Nat.le_of_lt hr) e
      rw [hM]; simp
    · rw [decide_eq_false e]
      have : ¬ (c' = c ∧ r' = r) := fun z => e (by rw [z.1, z.2])
      rw [Bool.eq_iff_iff]
      simp only [Bool.and_eq_true, put_at, Bool.not_false]
      exact ⟨fun z => z.1.resolve_right this, fun z => ⟨Or.inl z, trivial⟩⟩
  · rw [tb_big (by omega), Bool.false_and]
    symm
    rw [← Bool.not_eq_true]
    intro z
    obtain ⟨a, b⟩ := off c' r' z
    have := ix_lt (h := h) a (Nat.le_of_lt b)
    have := hd.2.2.2.2.2
    omega
theorem RS.back {w h : Nat} (hd : Dm w h) {S : Nat → Int64} {d : List Nat} {c : Nat} (H : RS w h S (c :: d)) (G : gOK w h (c :: d)) : RS w h (vp_updL S (d.length % 2) (S (d.length % 2) &&& (sqL h c (gH d c) ^^^ (-1)))) d := by
  refine RS.of (d.length % 2) (by omega) ?_ ?_
  · rw [pk_uLs]
    have a := H.at (q := d.length % 2) (by omega)
    rw [gO_mover hd G rfl] at a
    refine a.del hd G.1 G.2.1 ?_
    rw [← Bool.not_eq_true]
    intro z
    have := (gO_at.mp z).2.2
    rw [(gB_at hd G.2.2.2.2 c (gH d c) G.1 G.2.1).1 (Nat.le_refl _)] at this
    exact nI_m1 (by omega) this
  · rw [pk_uLn (by omega)]
    have a := H.at (q := 1 - d.length % 2) (by omega)
    rw [gO_other hd G rfl] at a
    exact a
