theorem far_if {w h : Nat} (hd : Dm w h) {d : List Nat} {dr : Nat → Nat} (G : gOK w h d) (Hd : Hs dr d) : ifB w h (gB d) (gH d) dr d.length = true ↔ gFar w h d := by
  unfold ifB gFar
  rw [wn_model hd G Hd, Bool.or_eq_true, decide_eq_true_eq, decide_eq_true_eq]
theorem far_cv {w h : Nat} (hd : Dm w h) {S : Nat → Int64} {d : List Nat} {dr : Nat → Nat} (G : gOK w h d) (H : RS w h S d) (Hd : Hs dr d) : cvB w h S d.length = false ↔ gFar w h d := by
  rw [cv_class hd G H Hd, ← far_if hd G Hd, Bool.not_eq_false']
theorem cv_t {w h : Nat} (hd : Dm w h) {S : Nat → Int64} {d : List Nat} {dr : Nat → Nat} (G : gOK w h d) (H : RS w h S d) (Hd : Hs dr d) (hf : ¬ gFar w h d) : cvB w h S d.length = true := by
  rw [← Bool.not_eq_false]
  exact fun z => hf ((far_cv hd G H Hd).mp z)
theorem w_drop (l : Launch) (hlt : l.stackTraces = false) (D : va_G) (cI cJ cZ : ClassId) (w h x ou : Nat) (ax : Nat → Nat) (d : List Nat) (cs : CtS) (O : Nat → Int64) (k : Int32) (sz : Nat) (hd : Dm w h) (GG : gOK w h d) (C : CtOK w h d cs) : Met l yL_drop wsL_drop (x_rm 7 113) (YPc D [.ref x, .int k, .ref ou] (cW cI cJ w h x ax ou d cs O) (tyA cI cJ cZ) sz) (wQ D cI cJ w h x ax ou (oDrop w h d k) (va_A (cW cI cJ w h x ax ou d cs O) sz)) 1 6 (va_A (cW cI cJ w h x ax ou d cs O) sz) := by
  obtain ⟨S, hy, u⟩ := cs
  by_cases c1 : icB w k = false
  · rw [show oDrop w h d k = (1, d, 0) from by unfold oDrop; rw [if_pos c1]]
    exact w_drop_bad l hlt D cI cJ cZ w h x ou ax d S hy u O k sz hd GG C c1
  · obtain ⟨c, hc, rfl, hcl, hic⟩ := ic_yes hd.2.1 c1
    by_cases c2 : 0 ≤ gWn w h d ∨ h ≤ gH d c
    · rw [show oDrop w h d (nI c) = (2, d, 0) from by unfold oDrop; rw [if_neg c1, hcl, if_pos c2]]
      exact w_drop_no l hlt D cI cJ cZ w h x ou ax d S hy u O c sz hd GG C hc hic c2
    · rw [show oDrop w h d (nI c) = (0, c :: d, nI (gH d c)) from by unfold oDrop; rw [if_neg c1, hcl, if_neg c2]]
      exact w_drop_ok l hlt D cI cJ cZ w h x ou ax d S hy u O c sz hd GG C hc hic (fun z => c2 (Or.inl z)) (Nat.lt_of_not_le fun z => c2 (Or.inr z))
theorem w_back (l : Launch) (hlt : l.stackTraces = false) (D : va_G) (cI cJ cZ : ClassId) (w h x ou : Nat) (ax : Nat → Nat) (d : List Nat) (cs : CtS) (O : Nat → Int64)  (sz : Nat) (hd : Dm w h) (GG : gOK w h d) (C : CtOK w h d cs) : Met l yL_back wsL_back (x_rm 7 103) (YPc D [.ref x, .ref ou] (cW cI cJ w h x ax ou d cs O) (tyA cI cJ cZ) sz) (wQ D cI cJ w h x ax ou (oBack d) (va_A (cW cI cJ w h x ax ou d cs O) sz)) 1 6 (va_A (cW cI cJ w h x ax ou d cs O) sz) := by
  obtain ⟨S, hy, u⟩ := cs
  cases d with
  | nil => exact w_back_no l hlt D cI cJ cZ w h x ou ax [] S hy u O sz hd GG C rfl
  | cons c d => exact w_back_ok l hlt D cI cJ cZ w h x ou ax d S hy u O c sz hd GG C
theorem w_at (l : Launch) (hlt : l.stackTraces = false) (D : va_G) (cI cJ cZ : ClassId) (w h x ou : Nat) (ax : Nat → Nat) (d : List Nat) (cs : CtS) (O : Nat → Int64) (c r : Int32) (sz : Nat) (hd : Dm w h) (GG : gOK w h d) (C : CtOK w h d cs) : Met l yL_at wsL_at (x_rm 7 106) (YPc D [.ref x, .int c, .int r, .ref ou] (cW cI cJ w h x ax ou d cs O) (tyA cI cJ cZ) sz) (wQ D cI cJ w h x ax ou (oAt w h d c r) (va_A (cW cI cJ w h x ax ou d cs O) sz)) 1 6 (va_A (cW cI cJ w h x ax ou d cs O) sz) := by
  obtain ⟨S, hy, u⟩ := cs
  by_cases c1 : isq w h c r = false
  · rw [show oAt w h d c r = (1, d, 0) from by unfold oAt; rw [if_pos c1]]
    exact w_at_no l hlt D cI cJ cZ w h x ou ax d S hy u O c r sz hd GG C c1
  · obtain ⟨a, b, ha, hb, rfl, rfl, ea, eb, -, hic⟩ := isq_yes hd.2.1 hd.2.2.2.1 c1
    rw [show oAt w h d (nI a) (nI b) = (0, d, gB d (7 * a + b)) from by unfold oAt; rw [if_neg c1, ea, eb]]
    exact w_at_ok l hlt D cI cJ cZ w h x ou ax d S hy u O a b sz hd GG C ha hb hic
theorem w_open (l : Launch) (hlt : l.stackTraces = false) (D : va_G) (cI cJ cZ : ClassId) (w h x ou : Nat) (ax : Nat → Nat) (d : List Nat) (cs : CtS) (O : Nat → Int64) (k : Int32) (sz : Nat) (hd : Dm w h) (GG : gOK w h d) (C : CtOK w h d cs) : Met l yL_open wsL_open (x_rm 7 103) (YPc D [.ref x, .int k, .ref ou] (cW cI cJ w h x ax ou d cs O) (tyA cI cJ cZ) sz) (wQ D cI cJ w h x ax ou (oOpen w h d k) (va_A (cW cI cJ w h x ax ou d cs O) sz)) 1 6 (va_A (cW cI cJ w h x ax ou d cs O) sz) := by
  obtain ⟨S, hy, u⟩ := cs
  by_cases c1 : ipB k = false
  · rw [show oOpen w h d k = (1, d, 0) from by unfold oOpen; rw [if_pos c1]]
    exact w_open_no l hlt D cI cJ cZ w h x ou ax d S hy u O k sz hd GG C c1
  · obtain ⟨q, hq, rfl, eq, hip⟩ := ip_yes c1
    rw [show oOpen w h d (nI q) = (0, d, nI (opN w h (gB d) (1 - q))) from by unfold oOpen; rw [if_neg c1, eq]]
    exact w_open_ok l hlt D cI cJ cZ w h x ou ax d S hy u O q sz hd GG C hq hip
theorem w_threats (l : Launch) (hlt : l.stackTraces = false) (D : va_G) (cI cJ cZ : ClassId) (w h x ou : Nat) (ax : Nat → Nat) (d : List Nat) (cs : CtS) (O : Nat → Int64) (k : Int32) (sz : Nat) (hd : Dm w h) (GG : gOK w h d) (C : CtOK w h d cs) : Met l yL_threats wsL_threats (x_rm 7 103) (YPc D [.ref x, .int k, .ref ou] (cW cI cJ w h x ax ou d cs O) (tyA cI cJ cZ) sz) (wQ D cI cJ w h x ax ou (oThreats w h d k) (va_A (cW cI cJ w h x ax ou d cs O) sz)) 1 6 (va_A (cW cI cJ w h x ax ou d cs O) sz) := by
  obtain ⟨S, hy, u⟩ := cs
  by_cases c1 : ipB k = false
  · rw [show oThreats w h d k = (1, d, 0) from by unfold oThreats; rw [if_pos c1]]
    exact w_threats_no l hlt D cI cJ cZ w h x ou ax d S hy u O k sz hd GG C c1
  · obtain ⟨q, hq, rfl, eq, hip⟩ := ip_yes c1
    rw [show oThreats w h d (nI q) = (0, d, nI (tsN w h (gB d) q)) from by unfold oThreats; rw [if_neg c1, eq]]
    exact w_threats_ok l hlt D cI cJ cZ w h x ou ax d S hy u O q sz hd GG C hq hip
theorem w_value (l : Launch) (hlt : l.stackTraces = false) (D : va_G) (cI cJ cZ : ClassId) (w h x ou : Nat) (ax : Nat → Nat) (d : List Nat) (cs : CtS) (O : Nat → Int64)  (sz : Nat) (hd : Dm w h) (GG : gOK w h d) (C : CtOK w h d cs) : Met l yL_value wsL_value (x_rm 45 1705) (YPc D [.ref x, .ref ou] (cW cI cJ w h x ax ou d cs O) (tyA cI cJ cZ) sz) (wQ D cI cJ w h x ax ou (oValue w h d) (va_A (cW cI cJ w h x ax ou d cs O) sz)) 1 6 (va_A (cW cI cJ w h x ax ou d cs O) sz) := by
  obtain ⟨S, hy, u⟩ := cs
  by_cases c1 : gFar w h d
  · rw [show oValue w h d = (1, d, 0) from by unfold oValue; rw [if_pos c1]]
    exact w_value_no l hlt D cI cJ cZ w h x ou ax d S hy u O sz hd GG C ((far_cv hd GG C.1 C.2.1).mpr c1)
  · rw [show oValue w h d = (0, d, zI (evV w h (gB d) (gH d) d.length (w * h - d.length) 0 0)) from by unfold oValue; rw [if_neg c1]]
    exact w_value_ok l hlt D cI cJ cZ w h x ou ax d S hy u O sz hd GG C (cv_t hd GG C.1 C.2.1 c1)
theorem w_best (l : Launch) (hlt : l.stackTraces = false) (D : va_G) (cI cJ cZ : ClassId) (w h x ou : Nat) (ax : Nat → Nat) (d : List Nat) (cs : CtS) (O : Nat → Int64)  (sz : Nat) (hd : Dm w h) (GG : gOK w h d) (C : CtOK w h d cs) : Met l yL_best wsL_best (x_rm 43 1629) (YPc D [.ref x, .ref ou] (cW cI cJ w h x ax ou d cs O) (tyA cI cJ cZ) sz) (wQ D cI cJ w h x ax ou (oBest w h d) (va_A (cW cI cJ w h x ax ou d cs O) sz)) 1 6 (va_A (cW cI cJ w h x ax ou d cs O) sz) := by
  obtain ⟨S, hy, u⟩ := cs
  by_cases c1 : gFar w h d
  · rw [show oBest w h d = (1, d, 0) from by unfold oBest; rw [if_pos c1]]
    exact w_best_no l hlt D cI cJ cZ w h x ou ax d S hy u O sz hd GG C ((far_cv hd GG C.1 C.2.1).mpr c1)
  · rw [show oBest w h d = (0, d, zI (bfZ (evW w h (gB d) (gH d) d.length (w * h - d.length) 0 0) w)) from by unfold oBest; rw [if_neg c1]]
    exact w_best_ok l hlt D cI cJ cZ w h x ou ax d S hy u O sz hd GG C (cv_t hd GG C.1 C.2.1 c1)
theorem w_valueOf (l : Launch) (hlt : l.stackTraces = false) (D : va_G) (cI cJ cZ : ClassId) (w h x ou : Nat) (ax : Nat → Nat) (d : List Nat) (cs : CtS) (O : Nat → Int64) (k : Int32) (sz : Nat) (hd : Dm w h) (GG : gOK w h d) (C : CtOK w h d cs) : Met l yL_valueOf wsL_valueOf (x_rm 43 1626) (YPc D [.ref x, .int k, .ref ou] (cW cI cJ w h x ax ou d cs O) (tyA cI cJ cZ) sz) (wQ D cI cJ w h x ax ou (oValueOf w h d k) (va_A (cW cI cJ w h x ax ou d cs O) sz)) 1 6 (va_A (cW cI cJ w h x ax ou d cs O) sz) := by
  obtain ⟨S, hy, u⟩ := cs
  by_cases c1 : icB w k = false
  · rw [show oValueOf w h d k = (1, d, 0) from by unfold oValueOf; rw [if_pos c1]]
    exact w_valueOf_bad l hlt D cI cJ cZ w h x ou ax d S hy u O k sz hd GG C c1
  · obtain ⟨c, hc, rfl, hcl, hic⟩ := ic_yes hd.2.1 c1
    by_cases c2 : gFar w h d ∨ h ≤ gH d c
    · rw [show oValueOf w h d (nI c) = (2, d, 0) from by unfold oValueOf; rw [if_neg c1, hcl, if_pos c2]]
      exact w_valueOf_no l hlt D cI cJ cZ w h x ou ax d S hy u O c sz hd GG C hc hic (c2.imp (fun z => (far_cv hd GG C.1 C.2.1).mpr z) id)
    · rw [show oValueOf w h d (nI c) = (0, d, zI (s2v (w * h - d.length) (evM w h (gB d) (gH d) d.length (w * h - d.length) 0 0 c))) from by unfold oValueOf; rw [if_neg c1, hcl, if_neg c2]]
      exact w_valueOf_ok l hlt D cI cJ cZ w h x ou ax d S hy u O c sz hd GG C (cv_t hd GG C.1 C.2.1 (fun z => c2 (Or.inl z))) hc hic (Nat.lt_of_not_le fun z => c2 (Or.inr z))
theorem w_beats (l : Launch) (hlt : l.stackTraces = false) (D : va_G) (cI cJ cZ : ClassId) (w h x ou : Nat) (ax : Nat → Nat) (d : List Nat) (cs : CtS) (O : Nat → Int64)  (sz : Nat) (hd : Dm w h) (GG : gOK w h d) (C : CtOK w h d cs) : Met l yL_beats wsL_beats (x_rm 7 147) (YPc D [.ref x, .ref ou] (cW cI cJ w h x ax ou d cs O) (tyA cI cJ cZ) sz) (wQ D cI cJ w h x ax ou (oBeats w h d) (va_A (cW cI cJ w h x ax ou d cs O) sz)) 1 6 (va_A (cW cI cJ w h x ax ou d cs O) sz) := by
  obtain ⟨S, hy, u⟩ := cs
  have hov := ov_class hd GG C.1
  by_cases c1 : 0 ≤ gWn w h d ∨ 30 < w * h - d.length ∨ evB h (gH d) w = false
  · rw [show oBeats w h d = (1, d, 0) from by unfold oBeats; rw [if_pos c1]]
    exact w_beats_no l hlt D cI cJ cZ w h x ou ax d S hy u O sz hd GG C (c1.imp (fun z => by rw [hov, decide_eq_true z]) id)
  · rw [show oBeats w h d = (0, d, bI (btB w h (gB d) (gH d) d.length)) from by unfold oBeats; rw [if_neg c1]]
    exact w_beats_ok l hlt D cI cJ cZ w h x ou ax d S hy u O sz hd GG C (fun z => c1 (Or.inl z)) (fun z => c1 (Or.inr (Or.inl z))) (by rw [← Bool.not_eq_false]; exact fun z => c1 (Or.inr (Or.inr z)))
theorem r_drop (l : Launch) (D : va_G) (cI cJ cZ : ClassId) (ad : Nat → Nat) (w h : Nat) (d : List Nat) (r : RfS) (k : Int32) (sz : Nat) (hd : Dm w h) (GG : gOK w h d) (K : RfOK w h d r) : Met l yX5_drop wsX5_drop (k2_rm 4 95) (MPc D [.ref (ad 0), .int k] (rW cI cZ ad w h d r) (tyA cI cJ cZ) sz) (rQ D cI cZ ad w h (oDrop w h d k) (va_A (rW cI cZ ad w h d r) sz)) 0 0 (va_A (rW cI cZ ad w h d r) sz) := by
  obtain ⟨⟨th, kn, dr⟩, ⟨po, wh, sb, V, la, sl, we, of_, Sn, tp⟩, re⟩ := r
  have hht := gH_le GG
  have hn := (g_emp GG).1
  have hlast := g_last GG K.1
  have hwn := wn_model hd GG K.1
  by_cases c1 : icB w k = false
  · rw [show oDrop w h d k = (1, d, 0) from by unfold oDrop; rw [if_pos c1]]
    exact rf_to (c5_drop_bad l D cI cJ cZ ad w h th d.length kn po (gB d) (gH d) dr wh sb V la sl we of_ Sn tp re k sz hd hn hlast c1) (fun _ => ((1, kn, dr), (po, wh, sb, V, la, sl, we, of_, Sn, tp), re)) (fun r9 _ e9 => ⟨⟨fun z => absurd (show (1 : Nat) = 0 from z) (by decide), rfl, K⟩, rfl⟩)
  · obtain ⟨c, hc, rfl, hcl, hic⟩ := ic_yes hd.2.1 c1
    have hhc := hht c
    by_cases c2 : 0 ≤ gWn w h d ∨ h ≤ gH d c
    · rw [show oDrop w h d (nI c) = (2, d, 0) from by unfold oDrop; rw [if_neg c1, hcl, if_pos c2]]
      exact rf_to (c5_drop_no l D cI cJ cZ ad w h th d.length kn po (gB d) (gH d) dr wh sb V la sl we of_ Sn tp re c sz hd hn hlast hc hhc (c2.imp (fun z => by rw [hwn]; exact z) (fun z => Nat.le_antisymm hhc z))) (fun _ => ((2, kn, dr), (po, wh, sb, V, la, sl, we, of_, Sn, tp), re)) (fun r9 _ e9 => ⟨⟨fun z => absurd (show (2 : Nat) = 0 from z) (by decide), rfl, K⟩, rfl⟩)
    · rw [show oDrop w h d (nI c) = (0, c :: d, nI (gH d c)) from by unfold oDrop; rw [if_neg c1, hcl, if_neg c2]]
      have ho : ¬ 0 ≤ gWn w h d := fun z => c2 (Or.inl z)
      have hnf : d.length < w * h := by have := (gWn_not ho).2.2; omega
      exact rf_to (c5_drop_ok l D cI cJ cZ ad w h th d.length kn po (gB d) (gH d) dr wh sb V la sl we of_ Sn tp re c sz hd hn hlast hc (Nat.lt_of_not_le fun z => c2 (Or.inr z)) (by rw [hwn]; exact ho) hnf) (fun _ => ((0, 0, va_up dr d.length c), (po, wh, sb, V, la, sl, we, of_, Sn, tp), re)) (fun r9 _ e9 => ⟨⟨fun _ => e9, rfl, K.1.drop, K.2.1, K.2.2.1, K.2.2.2.1, Or.inl rfl⟩, rfl⟩)
theorem r_back (l : Launch) (D : va_G) (cI cJ cZ : ClassId) (ad : Nat → Nat) (w h : Nat) (d : List Nat) (r : RfS)  (sz : Nat) (hd : Dm w h) (GG : gOK w h d) (K : RfOK w h d r) : Met l yX5_back wsX5_back (k2_rm 1 22) (MPc D [.ref (ad 0)] (rW cI cZ ad w h d r) (tyA cI cJ cZ) sz) (rQ D cI cZ ad w h (oBack d) (va_A (rW cI cZ ad w h d r) sz)) 0 0 (va_A (rW cI cZ ad w h d r) sz) := by
  obtain ⟨⟨th, kn, dr⟩, ⟨po, wh, sb, V, la, sl, we, of_, Sn, tp⟩, re⟩ := r
  have hht := gH_le GG
  have hn := (g_emp GG).1
  have hlast := g_last GG K.1
  have hwn := wn_model hd GG K.1
  cases d with
  | nil => exact rf_to (c5_back_no l D cI cJ cZ ad w h th ([] : List Nat).length kn po (gB []) (gH []) dr wh sb V la sl we of_ Sn tp re sz rfl) (fun _ => ((1, kn, dr), (po, wh, sb, V, la, sl, we, of_, Sn, tp), re)) (fun r9 _ e9 => ⟨⟨fun z => absurd z (by decide), rfl, K⟩, rfl⟩)
  | cons c d =>
    have e3 : gH (c :: d) c = gH d c + 1 := by rw [gH_cons, if_pos rfl]
    refine rf_to (c5_back_ok l D cI cJ cZ ad w h th (c :: d).length kn po (gB (c :: d)) (gH (c :: d)) dr wh sb V la sl we of_ Sn tp re c sz hd hn (by simp) K.1.1 GG.1 (hht c) (by omega)) (fun _ => ((0, 0, dr), (po, wh, sb, V, la, sl, we, of_, Sn, tp), re)) (fun r9 _ e9 => ⟨⟨fun _ => e9, rfl, K.1.2, K.2.1, K.2.2.1, K.2.2.2.1, Or.inl rfl⟩, ?_⟩)
    rw [(gB_back hd GG).1, (gB_back hd GG).2]
    rfl
theorem r_at (l : Launch) (D : va_G) (cI cJ cZ : ClassId) (ad : Nat → Nat) (w h : Nat) (d : List Nat) (rs : RfS) (c r : Int32) (sz : Nat) (hd : Dm w h) (GG : gOK w h d) (K : RfOK w h d rs) : Met l yX5_at wsX5_at (k2_rm 1 22) (MPc D [.ref (ad 0), .int c, .int r] (rW cI cZ ad w h d rs) (tyA cI cJ cZ) sz) (rQ D cI cZ ad w h (oAt w h d c r) (va_A (rW cI cZ ad w h d rs) sz)) 0 0 (va_A (rW cI cZ ad w h d rs) sz) := by
  obtain ⟨⟨th, kn, dr⟩, ⟨po, wh, sb, V, la, sl, we, of_, Sn, tp⟩, re⟩ := rs
  have hht := gH_le GG
  have hn := (g_emp GG).1
  have hlast := g_last GG K.1
  have hwn := wn_model hd GG K.1
  by_cases c1 : isq w h c r = false
  · rw [show oAt w h d c r = (1, d, 0) from by unfold oAt; rw [if_pos c1]]
    exact rf_to (c5_at_no l D cI cJ cZ ad w h th d.length kn po (gB d) (gH d) dr wh sb V la sl we of_ Sn tp re c r sz c1) (fun _ => ((1, kn, dr), (po, wh, sb, V, la, sl, we, of_, Sn, tp), re)) (fun r9 _ e9 => ⟨⟨fun z => absurd (show (1 : Nat) = 0 from z) (by decide), rfl, K⟩, rfl⟩)
  · obtain ⟨a, b, ha, hb, rfl, rfl, ea, eb, hq, -⟩ := isq_yes hd.2.1 hd.2.2.2.1 c1
    rw [show oAt w h d (nI a) (nI b) = (0, d, gB d (7 * a + b)) from by unfold oAt; rw [if_neg c1, ea, eb]]
    exact rf_to (c5_at_ok l D cI cJ cZ ad w h th d.length kn po (gB d) (gH d) dr wh sb V la sl we of_ Sn tp re a b sz hd hq ha hb) (fun _ => ((0, kn, dr), (po, wh, sb, V, la, sl, we, of_, Sn, tp), re)) (fun r9 _ e9 => ⟨⟨fun _ => e9, rfl, K⟩, rfl⟩)
theorem r_open (l : Launch) (D : va_G) (cI cJ cZ : ClassId) (ad : Nat → Nat) (w h : Nat) (d : List Nat) (r : RfS) (k : Int32) (sz : Nat) (hd : Dm w h) (GG : gOK w h d) (K : RfOK w h d r) : Met l yX5_open wsX5_open (k2_rm 3 75) (MPc D [.ref (ad 0), .int k] (rW cI cZ ad w h d r) (tyA cI cJ cZ) sz) (rQ D cI cZ ad w h (oOpen w h d k) (va_A (rW cI cZ ad w h d r) sz)) 0 0 (va_A (rW cI cZ ad w h d r) sz) := by
  obtain ⟨⟨th, kn, dr⟩, ⟨po, wh, sb, V, la, sl, we, of_, Sn, tp⟩, re⟩ := r
  have hht := gH_le GG
  have hn := (g_emp GG).1
  have hlast := g_last GG K.1
  have hwn := wn_model hd GG K.1
  by_cases c1 : ipB k = false
  · rw [show oOpen w h d k = (1, d, 0) from by unfold oOpen; rw [if_pos c1]]
    exact rf_to (c5_open_no l D cI cJ cZ ad w h th d.length kn po (gB d) (gH d) dr wh sb V la sl we of_ Sn tp re k sz c1) (fun _ => ((1, kn, dr), (po, wh, sb, V, la, sl, we, of_, Sn, tp), re)) (fun r9 _ e9 => ⟨⟨fun z => absurd (show (1 : Nat) = 0 from z) (by decide), rfl, K⟩, rfl⟩)
  · obtain ⟨q, hq, rfl, eq, hip⟩ := ip_yes c1
    rw [show oOpen w h d (nI q) = (0, d, nI (opN w h (gB d) (1 - q))) from by unfold oOpen; rw [if_neg c1, eq]]
    exact rf_to (c5_open_ok l D cI cJ cZ ad w h th d.length kn po (gB d) (gH d) dr wh sb V la sl we of_ Sn tp re q sz hd hq) (fun _ => ((0, kn, dr), (po, wh, sb, V, la, sl, we, of_, Sn, tp), re)) (fun r9 _ e9 => ⟨⟨fun _ => e9, rfl, K⟩, rfl⟩)
theorem r_threats (l : Launch) (D : va_G) (cI cJ cZ : ClassId) (ad : Nat → Nat) (w h : Nat) (d : List Nat) (r : RfS) (k : Int32) (sz : Nat) (hd : Dm w h) (GG : gOK w h d) (K : RfOK w h d r) : Met l yX5_threats wsX5_threats (k2_rm 3 75) (MPc D [.ref (ad 0), .int k] (rW cI cZ ad w h d r) (tyA cI cJ cZ) sz) (rQ D cI cZ ad w h (oThreats w h d k) (va_A (rW cI cZ ad w h d r) sz)) 0 0 (va_A (rW cI cZ ad w h d r) sz) := by
  obtain ⟨⟨th, kn, dr⟩, ⟨po, wh, sb, V, la, sl, we, of_, Sn, tp⟩, re⟩ := r
  have hht := gH_le GG
  have hn := (g_emp GG).1
  have hlast := g_last GG K.1
  have hwn := wn_model hd GG K.1
  by_cases c1 : ipB k = false
  · rw [show oThreats w h d k = (1, d, 0) from by unfold oThreats; rw [if_pos c1]]
    exact rf_to (c5_threats_no l D cI cJ cZ ad w h th d.length kn po (gB d) (gH d) dr wh sb V la sl we of_ Sn tp re k sz c1) (fun _ => ((1, kn, dr), (po, wh, sb, V, la, sl, we, of_, Sn, tp), re)) (fun r9 _ e9 => ⟨⟨fun z => absurd (show (1 : Nat) = 0 from z) (by decide), rfl, K⟩, rfl⟩)
  · obtain ⟨q, hq, rfl, eq, hip⟩ := ip_yes c1
    rw [show oThreats w h d (nI q) = (0, d, nI (tsN w h (gB d) q)) from by unfold oThreats; rw [if_neg c1, eq]]
    exact rf_to (c5_threats_ok l D cI cJ cZ ad w h th d.length kn po (gB d) (gH d) dr wh sb V la sl we of_ Sn tp re q sz hd hq) (fun _ => ((0, kn, dr), (po, wh, sb, V, la, sl, we, of_, Sn, tp), re)) (fun r9 _ e9 => ⟨⟨fun _ => e9, rfl, K⟩, rfl⟩)
theorem r_value (l : Launch) (D : va_G) (cI cJ cZ : ClassId) (ad : Nat → Nat) (w h : Nat) (d : List Nat) (r : RfS)  (sz : Nat) (hd : Dm w h) (GG : gOK w h d) (K : RfOK w h d r) : Met l yX5_value wsX5_value (k2_rm 6 150) (MPc D [.ref (ad 0)] (rW cI cZ ad w h d r) (tyA cI cJ cZ) sz) (rQ D cI cZ ad w h (oValue w h d) (va_A (rW cI cZ ad w h d r) sz)) 0 0 (va_A (rW cI cZ ad w h d r) sz) := by
  obtain ⟨⟨th, kn, dr⟩, ⟨po, wh, sb, V, la, sl, we, of_, Sn, tp⟩, re⟩ := r
  have hht := gH_le GG
  have hn := (g_emp GG).1
  have hlast := g_last GG K.1
  have hwn := wn_model hd GG K.1
  by_cases c1 : gFar w h d
  · rw [show oValue w h d = (1, d, 0) from by unfold oValue; rw [if_pos c1]]
    exact rf_to (c5_value_no l D cI cJ cZ ad w h th d.length kn po (gB d) (gH d) dr wh sb V la sl we of_ Sn tp re sz hd hn hlast ((far_if hd GG K.1).mpr c1)) (fun _ => ((1, kn, dr), (po, wh, sb, V, la, sl, we, of_, Sn, tp), re)) (fun r9 _ e9 => ⟨⟨fun z => absurd (show (1 : Nat) = 0 from z) (by decide), rfl, K⟩, rfl⟩)
  · rw [show oValue w h d = (0, d, zI (evV w h (gB d) (gH d) d.length (w * h - d.length) 0 0)) from by unfold oValue; rw [if_neg c1]]
    have hif : ifB w h (gB d) (gH d) dr d.length = false := by rw [← Bool.not_eq_true]; exact fun z => c1 ((far_if hd GG K.1).mp z)
    obtain ⟨R0, hE1⟩ := g_root hd GG K.1 hif
    exact rf_to (c5_value_ok l D cI cJ cZ ad w h th d.length kn po (gB d) (gH d) dr wh sb V la sl we of_ Sn tp re (w * h - d.length) sz hd hn hlast rfl hE1 R0 K.2.1 K.2.2.1 K.2.2.2.1 K.2.2.2.2 hif) (fun u => ((0, 1, dr), u, re)) (fun r9 u e9 => ⟨⟨fun _ => e9.2, rfl, K.1, e9.1.1.2.2.2.2.1, e9.1.1.2.2.2.2.2.1, e9.1.1.2.2.2.2.2.2, Or.inr ⟨rfl, e9.1⟩⟩, rfl⟩)
theorem r_best (l : Launch) (D : va_G) (cI cJ cZ : ClassId) (ad : Nat → Nat) (w h : Nat) (d : List Nat) (r : RfS)  (sz : Nat) (hd : Dm w h) (GG : gOK w h d) (K : RfOK w h d r) : Met l yX5_best wsX5_best (k2_rm 6 150) (MPc D [.ref (ad 0)] (rW cI cZ ad w h d r) (tyA cI cJ cZ) sz) (rQ D cI cZ ad w h (oBest w h d) (va_A (rW cI cZ ad w h d r) sz)) 0 0 (va_A (rW cI cZ ad w h d r) sz) := by
  obtain ⟨⟨th, kn, dr⟩, ⟨po, wh, sb, V, la, sl, we, of_, Sn, tp⟩, re⟩ := r
  have hht := gH_le GG
  have hn := (g_emp GG).1
  have hlast := g_last GG K.1
  have hwn := wn_model hd GG K.1
  by_cases c1 : gFar w h d
  · rw [show oBest w h d = (1, d, 0) from by unfold oBest; rw [if_pos c1]]
    exact rf_to (c5_best_no l D cI cJ cZ ad w h th d.length kn po (gB d) (gH d) dr wh sb V la sl we of_ Sn tp re sz hd hn hlast ((far_if hd GG K.1).mpr c1)) (fun _ => ((1, kn, dr), (po, wh, sb, V, la, sl, we, of_, Sn, tp), re)) (fun r9 _ e9 => ⟨⟨fun z => absurd (show (1 : Nat) = 0 from z) (by decide), rfl, K⟩, rfl⟩)
  · rw [show oBest w h d = (0, d, zI (bfZ (evW w h (gB d) (gH d) d.length (w * h - d.length) 0 0) w)) from by unfold oBest; rw [if_neg c1]]
    have hif : ifB w h (gB d) (gH d) dr d.length = false := by rw [← Bool.not_eq_true]; exact fun z => c1 ((far_if hd GG K.1).mp z)
    obtain ⟨R0, hE1⟩ := g_root hd GG K.1 hif
    exact rf_to (c5_best_ok l D cI cJ cZ ad w h th d.length kn po (gB d) (gH d) dr wh sb V la sl we of_ Sn tp re (w * h - d.length) sz hd hn hlast rfl hE1 R0 K.2.1 K.2.2.1 K.2.2.2.1 K.2.2.2.2 hif) (fun u => ((0, 1, dr), u, re)) (fun r9 u e9 => ⟨⟨fun _ => e9.2, rfl, K.1, e9.1.1.2.2.2.2.1, e9.1.1.2.2.2.2.2.1, e9.1.1.2.2.2.2.2.2, Or.inr ⟨rfl, e9.1⟩⟩, rfl⟩)
theorem r_valueOf (l : Launch) (D : va_G) (cI cJ cZ : ClassId) (ad : Nat → Nat) (w h : Nat) (d : List Nat) (r : RfS) (k : Int32) (sz : Nat) (hd : Dm w h) (GG : gOK w h d) (K : RfOK w h d r) : Met l yX5_valueOf wsX5_valueOf (k2_rm 6 150) (MPc D [.ref (ad 0), .int k] (rW cI cZ ad w h d r) (tyA cI cJ cZ) sz) (rQ D cI cZ ad w h (oValueOf w h d k) (va_A (rW cI cZ ad w h d r) sz)) 0 0 (va_A (rW cI cZ ad w h d r) sz) := by
  obtain ⟨⟨th, kn, dr⟩, ⟨po, wh, sb, V, la, sl, we, of_, Sn, tp⟩, re⟩ := r
  have hht := gH_le GG
  have hn := (g_emp GG).1
  have hlast := g_last GG K.1
  have hwn := wn_model hd GG K.1
  by_cases c1 : icB w k = false
  · rw [show oValueOf w h d k = (1, d, 0) from by unfold oValueOf; rw [if_pos c1]]
    exact rf_to (c5_valueOf_bad l D cI cJ cZ ad w h th d.length kn po (gB d) (gH d) dr wh sb V la sl we of_ Sn tp re k sz hd hn hlast c1) (fun _ => ((1, kn, dr), (po, wh, sb, V, la, sl, we, of_, Sn, tp), re)) (fun r9 _ e9 => ⟨⟨fun z => absurd (show (1 : Nat) = 0 from z) (by decide), rfl, K⟩, rfl⟩)
  · obtain ⟨c, hc, rfl, hcl, hic⟩ := ic_yes hd.2.1 c1
    have hhc := hht c
    by_cases c2 : gFar w h d ∨ h ≤ gH d c
    · rw [show oValueOf w h d (nI c) = (2, d, 0) from by unfold oValueOf; rw [if_neg c1, hcl, if_pos c2]]
      exact rf_to (c5_valueOf_no l D cI cJ cZ ad w h th d.length kn po (gB d) (gH d) dr wh sb V la sl we of_ Sn tp re c sz hd hn hlast hc hhc (c2.imp (fun z => (far_if hd GG K.1).mpr z) (fun z => Nat.le_antisymm hhc z))) (fun _ => ((2, kn, dr), (po, wh, sb, V, la, sl, we, of_, Sn, tp), re)) (fun r9 _ e9 => ⟨⟨fun z => absurd (show (2 : Nat) = 0 from z) (by decide), rfl, K⟩, rfl⟩)
    · rw [show oValueOf w h d (nI c) = (0, d, zI (s2v (w * h - d.length) (evM w h (gB d) (gH d) d.length (w * h - d.length) 0 0 c))) from by unfold oValueOf; rw [if_neg c1, hcl, if_neg c2]]
      have hif : ifB w h (gB d) (gH d) dr d.length = false := by rw [← Bool.not_eq_true]; exact fun z => c2 (Or.inl ((far_if hd GG K.1).mp z))
      obtain ⟨R0, hE1⟩ := g_root hd GG K.1 hif
      exact rf_to (c5_valueOf_ok l D cI cJ cZ ad w h th d.length kn po (gB d) (gH d) dr wh sb V la sl we of_ Sn tp re c (w * h - d.length) sz hd hn hlast rfl hE1 R0 K.2.1 K.2.2.1 K.2.2.2.1 K.2.2.2.2 hif hc (Nat.lt_of_not_le fun z => c2 (Or.inr z))) (fun u => ((0, 1, dr), u, re)) (fun r9 u e9 => ⟨⟨fun _ => e9.2, rfl, K.1, e9.1.1.2.2.2.2.1, e9.1.1.2.2.2.2.2.1, e9.1.1.2.2.2.2.2.2, Or.inr ⟨rfl, e9.1⟩⟩, rfl⟩)
theorem r_beats (l : Launch) (D : va_G) (cI cJ cZ : ClassId) (ad : Nat → Nat) (w h : Nat) (d : List Nat) (r : RfS)  (sz : Nat) (hd : Dm w h) (GG : gOK w h d) (K : RfOK w h d r) : Met l yX5_beats wsX5_beats (k2_rm 4 97) (MPc D [.ref (ad 0)] (rW cI cZ ad w h d r) (tyA cI cJ cZ) sz) (rQ D cI cZ ad w h (oBeats w h d) (va_A (rW cI cZ ad w h d r) sz)) 0 0 (va_A (rW cI cZ ad w h d r) sz) := by
  obtain ⟨⟨th, kn, dr⟩, ⟨po, wh, sb, V, la, sl, we, of_, Sn, tp⟩, re⟩ := r
  have hht := gH_le GG
  have hn := (g_emp GG).1
  have hlast := g_last GG K.1
  have hwn := wn_model hd GG K.1
  by_cases c1 : 0 ≤ gWn w h d ∨ 30 < w * h - d.length ∨ evB h (gH d) w = false
  · rw [show oBeats w h d = (1, d, 0) from by unfold oBeats; rw [if_pos c1]]
    exact rf_to (c5_beats_no l D cI cJ cZ ad w h th d.length kn po (gB d) (gH d) dr wh sb V la sl we of_ Sn tp re sz hd hn hlast hht (c1.imp (fun z => by rw [hwn]; exact z) (fun z => z.imp id (fun z => by rw [ev_od, z]; rfl)))) (fun _ => ((1, kn, dr), (po, wh, sb, V, la, sl, we, of_, Sn, tp), re)) (fun r9 _ e9 => ⟨⟨fun z => absurd (show (1 : Nat) = 0 from z) (by decide), rfl, K⟩, rfl⟩)
  · rw [show oBeats w h d = (0, d, bI (btB w h (gB d) (gH d) d.length)) from by unfold oBeats; rw [if_neg c1]]
    have ho : ¬ 0 ≤ gWn w h d := fun z => c1 (Or.inl z)
    have h30 : ¬ 30 < w * h - d.length := fun z => c1 (Or.inr (Or.inl z))
    have hev : evB h (gH d) w = true := by rw [← Bool.not_eq_false]; exact fun z => c1 (Or.inr (Or.inr z))
    exact rf_to (c5_beats_ok l D cI cJ cZ ad w h th d.length kn po (gB d) (gH d) dr wh sb V la sl we of_ Sn tp re sz hd hn hlast (g_pr hd GG ho (ev_iff.mp hev)) (by rw [hwn]; exact ho) h30 (by rw [(g_emp GG).2]; omega) (by rw [ev_od, hev]; rfl)) (fun u => ((0, 0, dr), (po, wh, sb, V, la, sl, u.1, of_, u.2.1, u.2.2.1), u.2.2.2)) (fun r9 u e9 => ⟨⟨fun _ => e9, rfl, K.1, K.2.1, K.2.2.1, K.2.2.2.1, Or.inl rfl⟩, rfl⟩)
theorem r_turn (l : Launch) (D : va_G) (cI cJ cZ : ClassId) (ad : Nat → Nat) (w h : Nat) (d : List Nat) (r : RfS)  (sz : Nat) (hd : Dm w h) (GG : gOK w h d) (K : RfOK w h d r) : Met l yX5_turn wsX5_turn (k2_rm 0 0) (MPc D [.ref (ad 0)] (rW cI cZ ad w h d r) (tyA cI cJ cZ) sz) (rQ D cI cZ ad w h (0, d, nI (d.length % 2)) (va_A (rW cI cZ ad w h d r) sz)) 0 0 (va_A (rW cI cZ ad w h d r) sz) := by
  obtain ⟨⟨th, kn, dr⟩, ⟨po, wh, sb, V, la, sl, we, of_, Sn, tp⟩, re⟩ := r
  have hht := gH_le GG
  have hn := (g_emp GG).1
  have hlast := g_last GG K.1
  have hwn := wn_model hd GG K.1
  exact rf_to (c5_turn l D cI cJ cZ ad w h th d.length kn po (gB d) (gH d) dr wh sb V la sl we of_ Sn tp re sz hd hn) (fun _ => ((0, kn, dr), (po, wh, sb, V, la, sl, we, of_, Sn, tp), re)) (fun r9 _ e9 => ⟨⟨fun _ => e9, rfl, K⟩, rfl⟩)
theorem r_empty (l : Launch) (D : va_G) (cI cJ cZ : ClassId) (ad : Nat → Nat) (w h : Nat) (d : List Nat) (r : RfS)  (sz : Nat) (hd : Dm w h) (GG : gOK w h d) (K : RfOK w h d r) : Met l yX5_empty wsX5_empty (k2_rm 0 0) (MPc D [.ref (ad 0)] (rW cI cZ ad w h d r) (tyA cI cJ cZ) sz) (rQ D cI cZ ad w h (0, d, nI (w * h - d.length)) (va_A (rW cI cZ ad w h d r) sz)) 0 0 (va_A (rW cI cZ ad w h d r) sz) := by
  obtain ⟨⟨th, kn, dr⟩, ⟨po, wh, sb, V, la, sl, we, of_, Sn, tp⟩, re⟩ := r
  have hht := gH_le GG
  have hn := (g_emp GG).1
  have hlast := g_last GG K.1
  have hwn := wn_model hd GG K.1
  exact rf_to (c5_empty l D cI cJ cZ ad w h th d.length kn po (gB d) (gH d) dr wh sb V la sl we of_ Sn tp re sz hd hn) (fun _ => ((0, kn, dr), (po, wh, sb, V, la, sl, we, of_, Sn, tp), re)) (fun r9 _ e9 => ⟨⟨fun _ => e9, rfl, K⟩, rfl⟩)
theorem r_winner (l : Launch) (D : va_G) (cI cJ cZ : ClassId) (ad : Nat → Nat) (w h : Nat) (d : List Nat) (r : RfS)  (sz : Nat) (hd : Dm w h) (GG : gOK w h d) (K : RfOK w h d r) : Met l yX5_winner wsX5_winner (k2_rm 4 95) (MPc D [.ref (ad 0)] (rW cI cZ ad w h d r) (tyA cI cJ cZ) sz) (rQ D cI cZ ad w h (0, d, gWn w h d) (va_A (rW cI cZ ad w h d r) sz)) 0 0 (va_A (rW cI cZ ad w h d r) sz) := by
  obtain ⟨⟨th, kn, dr⟩, ⟨po, wh, sb, V, la, sl, we, of_, Sn, tp⟩, re⟩ := r
  have hht := gH_le GG
  have hn := (g_emp GG).1
  have hlast := g_last GG K.1
  have hwn := wn_model hd GG K.1
  exact rf_to (c5_winner l D cI cJ cZ ad w h th d.length kn po (gB d) (gH d) dr wh sb V la sl we of_ Sn tp re sz hd hn hlast) (fun _ => ((0, kn, dr), (po, wh, sb, V, la, sl, we, of_, Sn, tp), re)) (fun r9 _ e9 => ⟨⟨fun _ => by rw [← hwn]; exact e9, rfl, K⟩, rfl⟩)
theorem r_thrown (l : Launch) (D : va_G) (cI cJ cZ : ClassId) (ad : Nat → Nat) (w h : Nat) (d : List Nat) (r : RfS) (sz : Nat) : Met l yX5_thrown wsX5_thrown (k2_rm 0 0) (MPc D [.ref (ad 0)] (rW cI cZ ad w h d r) (tyA cI cJ cZ) sz) (mQi D (fun r9 (u : RfS) => u = r ∧ r9 = nI r.1.1) (fun u => rW cI cZ ad w h d u) (va_A (rW cI cZ ad w h d r) sz)) 0 0 (va_A (rW cI cZ ad w h d r) sz) := by
  obtain ⟨⟨th, kn, dr⟩, ⟨po, wh, sb, V, la, sl, we, of_, Sn, tp⟩, re⟩ := r
  exact rf_to (c5_thrown l D cI cJ cZ ad w h th d.length kn po (gB d) (gH d) dr wh sb V la sl we of_ Sn tp re sz) (fun _ => ((th, kn, dr), (po, wh, sb, V, la, sl, we, of_, Sn, tp), re)) (fun r9 _ e9 => ⟨⟨rfl, e9⟩, rfl⟩)
