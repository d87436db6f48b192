-- ===== M24: values, the best column =====
theorem g_root {w h : Nat} (hd : Dm w h) {d : List Nat} {dr : Nat → Nat} (G : gOK w h d) (Hd : Hs dr d) (hif : ifB w h (gB d) (gH d) dr d.length = false) : RootOK w h (gB d) (gH d) d.length (w * h - d.length) ∧ 1 ≤ w * h - d.length := by
  unfold ifB at hif
  rw [wn_model hd G Hd, Bool.or_eq_false_iff, decide_eq_false_iff_not, decide_eq_false_iff_not] at hif
  obtain ⟨a, b, c⟩ := gWn_not hif.1
  have := (g_emp G).1
  exact ⟨⟨hd, gH_le G, fun c r hc h1 h2 => (gB_at hd G c r hc h2).1 h1, g_pos hd G a b rfl, by omega⟩, by omega⟩
theorem RS.pos {w h : Nat} {S : Nat → Int64} {d : List Nat} (H : RS w h S d) {k : Nat} (hP : PosOK w h k (gH d) (gO w h d (d.length % 2)) (gO w h d (1 - d.length % 2))) : Pos w h k (gH d) (gO w h d (d.length % 2)) (gO w h d (1 - d.length % 2)) (S (d.length % 2)) (S (1 - d.length % 2)) := ⟨H.at (by omega), H.at (by omega), hP⟩
theorem sd_0 {w h : Nat} {ht : Nat → Nat} : sdN w h ht 0 = 0 := by
  unfold sdN
  exact sumN_nil (fun i _ => dgN_0 h ht i)
theorem tpE_0 (h : Nat) (ht : Nat → Nat) : tpE h ht 0 = ht := by funext c; unfold tpE; rw [dgN_0]; rfl
theorem ev_0 {w h : Nat} (hd : Dm w h) {d : List Nat} {E : Nat} : evS w h (gB d) (gH d) d.length E 0 0 = Sc w h E (gH d) (gO w h d (d.length % 2)) (gO w h d (1 - d.length % 2)) := by
  unfold evS
  rw [sd_0, tpE_0, MP_root hd.2.1 hd.2.2.2.1, MP_root hd.2.1 hd.2.2.2.1]
  rfl
theorem evM_0 {w h : Nat} (hd : Dm w h) {d : List Nat} {k c : Nat} : evM w h (gB d) (gH d) d.length (k + 1) 0 0 c = Mv w h k (gH d) (gO w h d (d.length % 2)) (gO w h d (1 - d.length % 2)) c := by
  unfold evM
  rw [sd_0, tpE_0, MP_root hd.2.1 hd.2.2.2.1, MP_root hd.2.1 hd.2.2.2.1]
  rfl
theorem id_s2v {E : Nat} (hE : E ≤ 100) {z : Int} (h1 : -(E : Int) ≤ z) (h2 : z ≤ E) : idI E (zI z) = zI (s2v E z) := by
  have z0 : (0 : Int32) = zI 0 := rfl
  have b0 : zB 0 := by unfold zB; omega
  have bz : zB z := by unfold zB; omega
  unfold idI s2v
  rw [z0]
  by_cases e0 : z = 0
  · subst e0
    rw [if_pos rfl, if_neg (by omega), if_neg (by omega)]
  · rw [if_neg (fun y => e0 ((zI_eq bz b0).mp y))]
    by_cases e1 : z ≤ 0
    · rw [if_pos ((zI_le bz b0).mpr e1), if_neg (fun y => absurd ((zI_le b0 bz).mp y) (by omega)), zI_sub, if_neg (by omega), if_pos (by omega), ← zI_n, zI_sub, zI_neg]
      congr 1
      omega
    · rw [if_neg (fun y => e1 ((zI_le bz b0).mp y)), if_pos ((zI_le b0 bz).mpr (by omega)), if_pos (by omega), ← zI_n, zI_sub]
      congr 1
theorem bf_is {ok : Nat → Bool} {c0 : Nat} (h0 : ok c0 = true) (hl : ∀ c, c < c0 → ok c = false) : ∀ {n : Nat}, c0 < n → bfZ ok n = (c0 : Int)
  | 0, h => absurd h (Nat.not_lt_zero _)
  | n + 1, h => by
    unfold bfZ
    have pre : ∀ m, m ≤ c0 → bfZ ok m = -1 := by
      intro m
      induction m with
      | zero => intro _; rfl
      | succ m ih =>
        intro hm
        unfold bfZ
        rw [hl m (by omega), if_neg (fun z => by cases z.1)]
        exact ih (by omega)
    by_cases e : n = c0
    · subst e
      rw [if_pos ⟨h0, by rw [pre _ (Nat.le_refl _)]; decide⟩]
    · have ih := bf_is h0 hl (n := n) (by omega)
      rw [ih, if_neg (fun z => by have := z.2; omega)]
theorem best_class {w h : Nat} (hd : Dm w h) {d : List Nat} {k : Nat} {fz fs : Int} (hk : k + 1 = w * h - d.length) (R : RootOK w h (gB d) (gH d) d.length (k + 1)) (H : bsC h (gH d) (Mv w h k (gH d) (gO w h d (d.length % 2)) (gO w h d (1 - d.length % 2))) (-((k : Int) + 1) - 1) w fz fs) : fz = bfZ (evW w h (gB d) (gH d) d.length (k + 1) 0 0) w := by
  obtain ⟨-, -, -, hP, -⟩ := R
  obtain ⟨cm, hcm, hrm, em⟩ := Sc_is (w := w) (h := h) (k := k) (tp := gH d) (M := gO w h d (d.length % 2)) (T := gO w h d (1 - d.length % 2)) hP.move
  rcases H with ⟨-, -, z⟩ | ⟨c0, hc0, e, hr0, ev, lt, le⟩
  · exact absurd hrm (z cm hcm)
  · rw [e]
    have top : fs = Sc w h (k + 1) (gH d) (gO w h d (d.length % 2)) (gO w h d (1 - d.length % 2)) := by
      have a := le cm hcm hrm
      have b := Sc_ge (w := w) (h := h) (k := k) (tp := gH d) (M := gO w h d (d.length % 2)) (T := gO w h d (1 - d.length % 2)) hc0 hr0
      omega
    symm
    refine bf_is ?_ (fun c hc => ?_) hc0
    · rw [evW_iff, evM_0 hd, ev_0 hd, ev, top]; exact ⟨hr0, rfl⟩
    · rw [← Bool.not_eq_true, evW_iff, evM_0 hd, ev_0 hd, ← top]
      rintro ⟨a, b⟩
      have := lt c hc a
      omega
theorem value_class {w h : Nat} (hd : Dm w h) {d : List Nat} {E : Nat} (hE : E ≤ 12) : idI E (zI (Sc w h E (gH d) (gO w h d (d.length % 2)) (gO w h d (1 - d.length % 2)))) = zI (evV w h (gB d) (gH d) d.length E 0 0) := by
  have b := Sc_bd w h E (gH d) (gO w h d (d.length % 2)) (gO w h d (1 - d.length % 2))
  rw [id_s2v (by omega) b.1 b.2]
  unfold evV
  rw [sd_0, ev_0 hd]
  rfl
theorem valueOf_class {w h : Nat} (hd : Dm w h) {d : List Nat} {k c : Nat} (hE : k + 1 ≤ 12) : idI (k + 1) (zI (Mv w h k (gH d) (gO w h d (d.length % 2)) (gO w h d (1 - d.length % 2)) c)) = zI (s2v (k + 1) (evM w h (gB d) (gH d) d.length (k + 1) 0 0 c)) := by
  have b := Mv_bd w h k (gH d) (gO w h d (d.length % 2)) (gO w h d (1 - d.length % 2)) c
  rw [id_s2v (by omega) (by omega) (by omega), evM_0 hd]
