-- ===== Following: what its methods answer =====
def anyB (f : Nat → Bool) : Nat → Bool
  | 0 => false
  | n + 1 => anyB f n || f n
theorem anyB_t {f : Nat → Bool} {i : Nat} (h : f i = true) : ∀ {n : Nat}, i < n → anyB f n = true
  | 0, q => absurd q (Nat.not_lt_zero _)
  | n + 1, q => by
    unfold anyB
    by_cases e : i = n
    · subst e; rw [h]; simp
    · rw [anyB_t h (n := n) (by omega)]; rfl
theorem anyB_s {f : Nat → Bool} {n : Nat} (h1 : anyB f n = false) (h2 : f n = false) : anyB f (n + 1) = false := by unfold anyB; rw [h1, h2]; rfl
theorem anyB_iff {f : Nat → Bool} : ∀ {n : Nat}, anyB f n = true ↔ ∃ i, i < n ∧ f i = true
  | 0 => ⟨fun h => (by cases h), fun ⟨i, h, _⟩ => absurd h (Nat.not_lt_zero _)⟩
  | n + 1 => by
    constructor
    · intro h
      unfold anyB at h
      rcases Bool.or_eq_true _ _ |>.mp h with q | q
      · obtain ⟨i, h1, h2⟩ := (anyB_iff (n := n)).mp q
        exact ⟨i, by omega, h2⟩
      · exact ⟨n, by omega, q⟩
    · rintro ⟨i, h1, h2⟩
      exact anyB_t h2 h1
def rcL (h : Nat) (fl wa la : Int64) : Nat → Int64
  | 0 => 0
  | n + 1 => if wa &&& colL h n = 0 then rcL h fl wa la n else rcL h fl wa la n ||| (shlL (if wa &&& colL h n = la then wa &&& colL h n else shlL (wa &&& colL h n) 1) 1 - (colL h n &&& fl))
def cmF (w h : Nat) (wa fo fe : Int64) : Nat → Bool := fun n => !(wa &&& colL h n == 0) && !hlL h (fo ||| (fe &&& rcL h (flrL h w) wa (wa &&& colL h n) w))
def cmB (w h : Nat) (wa fo fe : Int64) : Bool := anyB (cmF w h wa fo fe) w
def leE (w h : Nat) (a b : Int64) : Nat → Int64 × Int64
  | 0 => (a, b)
  | n + 1 => ((leE w h a b n).1 ||| nxL w h ((leE w h a b n).1 ||| (leE w h a b n).2), (leE w h a b n).2 ||| nxL w h (((leE w h a b n).1 ||| nxL w h ((leE w h a b n).1 ||| (leE w h a b n).2)) ||| (leE w h a b n).2))
def waL (le starts : Int64) (d bit : Nat) : Int64 := (((starts &&& shlL 1 bit) ||| shlL (starts &&& shlL 1 bit) d) ||| shlL ((starts &&& shlL 1 bit) ||| shlL (starts &&& shlL 1 bit) d) (2 * d)) &&& (le ^^^ (-1))
def lbF (w h : Nat) (le fo fe starts : Int64) (d : Nat) : Nat → Bool := fun n => !(waL le starts d n == 0) && cmB w h (waL le starts d n) fo fe
def lsF (w h : Nat) (le fo : Int64) (p : Int64 × Int64) : Nat → Bool := fun j => anyB (lbF w h le fo p.2 (lsL p.1 (stp h j)) (stp h j)) 64
def lwB (w h : Nat) (le fo : Int64) : Bool := anyB (lsF w h le fo (leE w h le fo ((h + 1) / 2))) 4
/-- the cells of a Following, with its Grid -/
abbrev foW (cI cJ : ClassId) (w h fa g st cs : Nat) : va_W := (fa, .inr (0, [.ref g])) :: gW cI cJ w h g st cs
set_option maxHeartbeats 4000000 in
set_option maxRecDepth 100000 in
theorem c_reached (l : Launch) (D : va_G) (cI cJ cZ : ClassId) (w h fa g st cs : Nat) (wa la : Int64) (hd : Dm w h) : Met l yX0_reached wsX0_reached (k2_rm 0 0) (RPc D [.ref fa, .long wa, .long la] (foW cI cJ w h fa g st cs) (tyA cI cJ cZ)) (k2_QcV (.long (rcL h (flrL h w) wa la w))) 0 0 (fun _ => False) := by
  refine ro_head (cc := cX0_reached) (maxL := 16) (ret := (some .long)) (by decide) rfl (Nat.le_of_ble_eq_true rfl) ?_
  intro p e s m below meth cd ls hx hb hr hlocks hts hown hml hP hK hN hl
  have hl : lv_has ls 16 [(0, .ref fa), (1, .long wa), (3, .long la)] := hl
  have hd0 := hd
  obtain ⟨h3w, hw9, h3h, hh7, hwh, h64⟩ := hd0
  refine lv_lconst (v := 0) hx hb dX0_reached_0 (by decide) ?_
  refine lv_lstore (lv' := [(5, .long 0), (0, .ref fa), (1, .long wa), (3, .long la)]) hx hb dX0_reached_1 hl (by decide) rfl (fun ls hl => ?_)
  refine lv_aload_n hx hb dX0_reached_3 rfl (lv_at hl 1 rfl) ?_
  refine va_get (C := RX0) (T := TX0) (N := 1) hx hb hts (by decide +kernel) hown hK hP 0 rfl rfl 0 (by decide) (hts (.fieldLink RX0 7 RX0 "grid" "LDropFour$Grid;") (by decide +kernel)) (fun _ h9 => h9) rfl dX0_reached_4 ?_
  refine va_getN (C := RX1) (T := TX1) (N := 6) hx hb hts (by decide +kernel) hown hK hP 1 rfl rfl 5 (by decide) (hN.use 2 rfl rfl) (fun _ h9 => h9) rfl dX0_reached_7 ?_
  refine lv_astore (lv' := [(7, .ref cs), (5, .long 0), (0, .ref fa), (1, .long wa), (3, .long la)]) hx hb dX0_reached_10 hl (by decide) rfl (fun ls hl => ?_)
  refine lv_aload hx hb dX0_reached_12 (lv_at hl 0 rfl) ?_
  refine va_alen hx hb hK hP 3 1 rfl rfl (v := nI w) rfl dX0_reached_14 ?_
  refine lv_istore (lv' := [(8, .int (nI w)), (7, .ref cs), (5, .long 0), (0, .ref fa), (1, .long wa), (3, .long la)]) hx hb dX0_reached_15 hl (by decide) rfl (fun ls hl => ?_)
  refine lv_iconst (v := nI 0) hx hb dX0_reached_17 (by decide) ?_
  refine lv_istore (lv' := [(9, .int (nI 0)), (8, .int (nI w)), (7, .ref cs), (5, .long 0), (0, .ref fa), (1, .long wa), (3, .long la)]) hx hb dX0_reached_18 hl (by decide) rfl (fun ls hl => ?_)
  refine loopW (σ := Int64) (m := m) 20 16 (fun i qx => [(8, .int (nI w)), (7, .ref cs), (0, .ref fa), (1, .long wa), (3, .long la), (9, .int (nI i)), (5, .long qx)]) (fun i qx => qx = rcL h (flrL h w) wa la i) w ?_ ?_ 0 0 ls (by omega) rfl (lv_sub hl [1, 2, 4, 5, 6, 0, 3] rfl)
  · intro i qx ls hi_20 hI_20 hl ih_20
    obtain ⟨fl, rfl⟩ : ∃ z, z = qx := ⟨_, rfl⟩
    have hl : lv_has ls 16 [(8, .int (nI w)), (7, .ref cs), (0, .ref fa), (1, .long wa), (3, .long la), (9, .int (nI i)), (5, .long fl)] := hl
    have hI_20 : fl = rcL h (flrL h w) wa la i := hI_20
    refine lv_iload hx hb dX0_reached_20 (lv_at hl 5 rfl) ?_
    refine lv_iload hx hb dX0_reached_22 (lv_at hl 0 rfl) ?_
    refine n_icmp_ge (tgt := 91) hx hb dX0_reached_24 (by decide) (by omega) (by omega) (fun c24_1 => ?_) (fun c24_1 => ?_)
    · exact absurd c24_1 (by omega)
    refine lv_aload hx hb dX0_reached_27 (lv_at hl 1 rfl) ?_
    refine lv_iload hx hb dX0_reached_29 (lv_at hl 5 rfl) ?_
    refine n_lald hx hb hK hP 3 1 rfl rfl (by omega) (by omega) dX0_reached_31 ?_
    refine lv_lstore (lv' := [(10, .long (colL h i)), (8, .int (nI w)), (7, .ref cs), (0, .ref fa), (1, .long wa), (3, .long la), (9, .int (nI i)), (5, .long fl)]) hx hb dX0_reached_32 hl (by decide) rfl (fun ls hl => ?_)
    refine lv_lload_n hx hb dX0_reached_34 rfl (lv_at hl 4 rfl) ?_
    refine lv_lload hx hb dX0_reached_35 (lv_at hl 0 rfl) ?_
    refine lv_land hx hb dX0_reached_37 ?_
    refine lv_lstore (lv' := [(12, .long (wa &&& (colL h i))), (10, .long (colL h i)), (8, .int (nI w)), (7, .ref cs), (0, .ref fa), (1, .long wa), (3, .long la), (9, .int (nI i)), (5, .long fl)]) hx hb dX0_reached_38 hl (by decide) rfl (fun ls hl => ?_)
    refine lv_lload hx hb dX0_reached_40 (lv_at hl 0 rfl) ?_
    refine lv_lconst (v := 0) hx hb dX0_reached_42 (by decide) ?_
    refine W.lcmp hx hb dX0_reached_43 ?_
    refine l_if_eq (tgt := 85) hx hb dX0_reached_44 (by decide) (fun c44_2 => ?_) (fun c44_2 => ?_)
    · skip
      refine n_iinc (n := 1) (lv' := [(9, .int (nI (i + 1))), (12, .long (wa &&& (colL h i))), (10, .long (colL h i)), (8, .int (nI w)), (7, .ref cs), (0, .ref fa), (1, .long wa), (3, .long la), (5, .long fl)]) hx hb dX0_reached_85 hl (k := 7) rfl (by decide) rfl (fun ls hl => ?_)
      refine lv_goto (tgt := 20) hx hb dX0_reached_88 (by decide) ?_
      exact ih_20 fl ls (by rw [rcL, if_pos c44_2]; exact hI_20) (lv_sub hl [3, 4, 5, 6, 7, 0, 8] rfl)
    refine lv_lload hx hb dX0_reached_47 (lv_at hl 0 rfl) ?_
    refine lv_lload_n hx hb dX0_reached_49 rfl (lv_at hl 6 rfl) ?_
    refine W.lcmp hx hb dX0_reached_50 ?_
    refine l_if_ne (tgt := 59) hx hb dX0_reached_51 (by decide) (fun c51_3 => ?_) (fun c51_3 => ?_)
    · skip
      refine lv_lload hx hb dX0_reached_59 (lv_at hl 0 rfl) ?_
      refine lv_iconst (v := nI 1) hx hb dX0_reached_61 (by decide) ?_
      refine n_lshl hx hb dX0_reached_62 ?_
      refine lv_lstore (lv' := [(14, .long (shlL (wa &&& (colL h i)) 1)), (12, .long (wa &&& (colL h i))), (10, .long (colL h i)), (8, .int (nI w)), (7, .ref cs), (0, .ref fa), (1, .long wa), (3, .long la), (9, .int (nI i)), (5, .long fl)]) hx hb dX0_reached_63 hl (by decide) rfl (fun ls hl => ?_)
      refine lv_lload hx hb dX0_reached_65 (lv_at hl 9 rfl) ?_
      refine lv_lload hx hb dX0_reached_67 (lv_at hl 0 rfl) ?_
      refine lv_iconst (v := nI 1) hx hb dX0_reached_69 (by decide) ?_
      refine n_lshl hx hb dX0_reached_70 ?_
      refine lv_lload hx hb dX0_reached_71 (lv_at hl 2 rfl) ?_
      refine lv_aload_n hx hb dX0_reached_73 rfl (lv_at hl 5 rfl) ?_
      refine va_get (C := RX0) (T := TX0) (N := 1) hx hb hts (by decide +kernel) hown hK hP 0 rfl rfl 0 (by decide) (hts (.fieldLink RX0 7 RX0 "grid" "LDropFour$Grid;") (by decide +kernel)) (fun _ h9 => h9) rfl dX0_reached_74 ?_
      refine va_getN (C := RX1) (T := TX1) (N := 6) hx hb hts (by decide +kernel) hown hK hP 1 rfl rfl 3 (by decide) (hN.use 3 rfl rfl) (fun _ h9 => h9) rfl dX0_reached_77 ?_
      refine lv_land hx hb dX0_reached_80 ?_
      refine lv_lsub hx hb dX0_reached_81 ?_
      refine lv_lor hx hb dX0_reached_82 ?_
      refine lv_lstore (lv' := [(5, .long (fl ||| ((shlL (shlL (wa &&& (colL h i)) 1) 1) - ((colL h i) &&& (flrL h w))))), (14, .long (shlL (wa &&& (colL h i)) 1)), (12, .long (wa &&& (colL h i))), (10, .long (colL h i)), (8, .int (nI w)), (7, .ref cs), (0, .ref fa), (1, .long wa), (3, .long la), (9, .int (nI i))]) hx hb dX0_reached_83 hl (by decide) rfl (fun ls hl => ?_)
      refine n_iinc (n := 1) (lv' := [(9, .int (nI (i + 1))), (5, .long (fl ||| ((shlL (shlL (wa &&& (colL h i)) 1) 1) - ((colL h i) &&& (flrL h w))))), (14, .long (shlL (wa &&& (colL h i)) 1)), (12, .long (wa &&& (colL h i))), (10, .long (colL h i)), (8, .int (nI w)), (7, .ref cs), (0, .ref fa), (1, .long wa), (3, .long la)]) hx hb dX0_reached_85 hl (k := 9) rfl (by decide) rfl (fun ls hl => ?_)
      refine lv_goto (tgt := 20) hx hb dX0_reached_88 (by decide) ?_
      exact ih_20 (fl ||| ((shlL (shlL (wa &&& (colL h i)) 1) 1) - ((colL h i) &&& (flrL h w)))) ls (by rw [rcL, if_neg c44_2, if_neg c51_3, hI_20]) (lv_sub hl [5, 6, 7, 8, 9, 0, 1] rfl)
    refine lv_lload hx hb dX0_reached_54 (lv_at hl 0 rfl) ?_
    refine lv_goto (tgt := 63) hx hb dX0_reached_56 (by decide) ?_
    refine lv_lstore (lv' := [(14, .long (wa &&& (colL h i))), (12, .long (wa &&& (colL h i))), (10, .long (colL h i)), (8, .int (nI w)), (7, .ref cs), (0, .ref fa), (1, .long wa), (3, .long la), (9, .int (nI i)), (5, .long fl)]) hx hb dX0_reached_63 hl (by decide) rfl (fun ls hl => ?_)
    refine lv_lload hx hb dX0_reached_65 (lv_at hl 9 rfl) ?_
    refine lv_lload hx hb dX0_reached_67 (lv_at hl 0 rfl) ?_
    refine lv_iconst (v := nI 1) hx hb dX0_reached_69 (by decide) ?_
    refine n_lshl hx hb dX0_reached_70 ?_
    refine lv_lload hx hb dX0_reached_71 (lv_at hl 2 rfl) ?_
    refine lv_aload_n hx hb dX0_reached_73 rfl (lv_at hl 5 rfl) ?_
    refine va_get (C := RX0) (T := TX0) (N := 1) hx hb hts (by decide +kernel) hown hK hP 0 rfl rfl 0 (by decide) (hts (.fieldLink RX0 7 RX0 "grid" "LDropFour$Grid;") (by decide +kernel)) (fun _ h9 => h9) rfl dX0_reached_74 ?_
    refine va_getN (C := RX1) (T := TX1) (N := 6) hx hb hts (by decide +kernel) hown hK hP 1 rfl rfl 3 (by decide) (hN.use 3 rfl rfl) (fun _ h9 => h9) rfl dX0_reached_77 ?_
    refine lv_land hx hb dX0_reached_80 ?_
    refine lv_lsub hx hb dX0_reached_81 ?_
    refine lv_lor hx hb dX0_reached_82 ?_
    refine lv_lstore (lv' := [(5, .long (fl ||| ((shlL (wa &&& (colL h i)) 1) - ((colL h i) &&& (flrL h w))))), (14, .long (wa &&& (colL h i))), (12, .long (wa &&& (colL h i))), (10, .long (colL h i)), (8, .int (nI w)), (7, .ref cs), (0, .ref fa), (1, .long wa), (3, .long la), (9, .int (nI i))]) hx hb dX0_reached_83 hl (by decide) rfl (fun ls hl => ?_)
    refine n_iinc (n := 1) (lv' := [(9, .int (nI (i + 1))), (5, .long (fl ||| ((shlL (wa &&& (colL h i)) 1) - ((colL h i) &&& (flrL h w))))), (14, .long (wa &&& (colL h i))), (12, .long (wa &&& (colL h i))), (10, .long (colL h i)), (8, .int (nI w)), (7, .ref cs), (0, .ref fa), (1, .long wa), (3, .long la)]) hx hb dX0_reached_85 hl (k := 9) rfl (by decide) rfl (fun ls hl => ?_)
    refine lv_goto (tgt := 20) hx hb dX0_reached_88 (by decide) ?_
    exact ih_20 (fl ||| ((shlL (wa &&& (colL h i)) 1) - ((colL h i) &&& (flrL h w)))) ls (by rw [rcL, if_neg c44_2, if_pos c51_3, hI_20]) (lv_sub hl [5, 6, 7, 8, 9, 0, 1] rfl)
  · intro qx ls hI_20 hl
    obtain ⟨fl, rfl⟩ : ∃ z, z = qx := ⟨_, rfl⟩
    have hl : lv_has ls 16 [(8, .int (nI w)), (7, .ref cs), (0, .ref fa), (1, .long wa), (3, .long la), (9, .int (nI w)), (5, .long fl)] := hl
    have hI_20 : fl = rcL h (flrL h w) wa la w := hI_20
    refine lv_iload hx hb dX0_reached_20 (lv_at hl 5 rfl) ?_
    refine lv_iload hx hb dX0_reached_22 (lv_at hl 0 rfl) ?_
    refine n_icmp_ge (tgt := 91) hx hb dX0_reached_24 (by decide) (by omega) (by omega) (fun c24_4 => ?_) (fun c24_4 => ?_)
    · skip
      refine lv_lload hx hb dX0_reached_91 (lv_at hl 6 rfl) ?_
      exact ro_lret hx hb hr hlocks hI_20 dX0_reached_93
    · exact absurd c24_4 (by omega)

set_option maxHeartbeats 4000000 in
set_option maxRecDepth 100000 in
theorem c_comesFirst (l : Launch) (D : va_G) (cI cJ cZ : ClassId) (w h fa g st cs : Nat) (wa fo fe : Int64) (hd : Dm w h) : Met l yX0_comesFirst wsX0_comesFirst (k2_rm 2 51) (RPc D [.ref fa, .long wa, .long fo, .long fe] (foW cI cJ w h fa g st cs) (tyA cI cJ cZ)) (k2_QcV (.int (bI (cmB w h wa fo fe)))) 0 0 (fun _ => False) := by
  refine ro_head (cc := cX0_comesFirst) (maxL := 16) (ret := (some .boolean)) (by decide) rfl (Nat.le_of_ble_eq_true rfl) ?_
  intro p e s m below meth cd ls hx hb hr hlocks hts hown hml hP hK hN hl
  have hl : lv_has ls 16 [(0, .ref fa), (1, .long wa), (3, .long fo), (5, .long fe)] := hl
  have hd0 := hd
  obtain ⟨h3w, hw9, h3h, hh7, hwh, h64⟩ := hd0
  refine lv_aload_n hx hb dX0_comesFirst_0 rfl (lv_at hl 0 rfl) ?_
  refine va_get (C := RX0) (T := TX0) (N := 1) hx hb hts (by decide +kernel) hown hK hP 0 rfl rfl 0 (by decide) (hts (.fieldLink RX0 7 RX0 "grid" "LDropFour$Grid;") (by decide +kernel)) (fun _ h9 => h9) rfl dX0_comesFirst_1 ?_
  refine va_getN (C := RX1) (T := TX1) (N := 6) hx hb hts (by decide +kernel) hown hK hP 1 rfl rfl 5 (by decide) (hN.use 2 rfl rfl) (fun _ h9 => h9) rfl dX0_comesFirst_4 ?_
  refine lv_astore (lv' := [(7, .ref cs), (0, .ref fa), (1, .long wa), (3, .long fo), (5, .long fe)]) hx hb dX0_comesFirst_7 hl (by decide) rfl (fun ls hl => ?_)
  refine lv_aload hx hb dX0_comesFirst_9 (lv_at hl 0 rfl) ?_
  refine va_alen hx hb hK hP 3 1 rfl rfl (v := nI w) rfl dX0_comesFirst_11 ?_
  refine lv_istore (lv' := [(8, .int (nI w)), (7, .ref cs), (0, .ref fa), (1, .long wa), (3, .long fo), (5, .long fe)]) hx hb dX0_comesFirst_12 hl (by decide) rfl (fun ls hl => ?_)
  refine lv_iconst (v := nI 0) hx hb dX0_comesFirst_14 (by decide) ?_
  refine lv_istore (lv' := [(9, .int (nI 0)), (8, .int (nI w)), (7, .ref cs), (0, .ref fa), (1, .long wa), (3, .long fo), (5, .long fe)]) hx hb dX0_comesFirst_15 hl (by decide) rfl (fun ls hl => ?_)
  refine loopW (σ := Unit) (m := m) 17 16 (fun i qx => [(8, .int (nI w)), (7, .ref cs), (0, .ref fa), (1, .long wa), (3, .long fo), (5, .long fe), (9, .int (nI i))]) (fun i qx => anyB (cmF w h wa fo fe) i = false) w ?_ ?_ 0 () ls (by omega) rfl (lv_sub hl [1, 2, 3, 4, 5, 6, 0] rfl)
  · intro i qx ls hi_17 hI_17 hl ih_17
    have hl : lv_has ls 16 [(8, .int (nI w)), (7, .ref cs), (0, .ref fa), (1, .long wa), (3, .long fo), (5, .long fe), (9, .int (nI i))] := hl
    have hI_17 : anyB (cmF w h wa fo fe) i = false := hI_17
    refine lv_iload hx hb dX0_comesFirst_17 (lv_at hl 6 rfl) ?_
    refine lv_iload hx hb dX0_comesFirst_19 (lv_at hl 0 rfl) ?_
    refine n_icmp_ge (tgt := 78) hx hb dX0_comesFirst_21 (by decide) (by omega) (by omega) (fun c21_1 => ?_) (fun c21_1 => ?_)
    · exact absurd c21_1 (by omega)
    refine lv_aload hx hb dX0_comesFirst_24 (lv_at hl 1 rfl) ?_
    refine lv_iload hx hb dX0_comesFirst_26 (lv_at hl 6 rfl) ?_
    refine n_lald hx hb hK hP 3 1 rfl rfl (by omega) (by omega) dX0_comesFirst_28 ?_
    refine lv_lstore (lv' := [(10, .long (colL h i)), (8, .int (nI w)), (7, .ref cs), (0, .ref fa), (1, .long wa), (3, .long fo), (5, .long fe), (9, .int (nI i))]) hx hb dX0_comesFirst_29 hl (by decide) rfl (fun ls hl => ?_)
    refine lv_lload_n hx hb dX0_comesFirst_31 rfl (lv_at hl 4 rfl) ?_
    refine lv_lload hx hb dX0_comesFirst_32 (lv_at hl 0 rfl) ?_
    refine lv_land hx hb dX0_comesFirst_34 ?_
    refine lv_lstore (lv' := [(12, .long (wa &&& (colL h i))), (10, .long (colL h i)), (8, .int (nI w)), (7, .ref cs), (0, .ref fa), (1, .long wa), (3, .long fo), (5, .long fe), (9, .int (nI i))]) hx hb dX0_comesFirst_35 hl (by decide) rfl (fun ls hl => ?_)
    refine lv_lload hx hb dX0_comesFirst_37 (lv_at hl 0 rfl) ?_
    refine lv_lconst (v := 0) hx hb dX0_comesFirst_39 (by decide) ?_
    refine W.lcmp hx hb dX0_comesFirst_40 ?_
    refine l_if_eq (tgt := 72) hx hb dX0_comesFirst_41 (by decide) (fun c41_2 => ?_) (fun c41_2 => ?_)
    · skip
      refine n_iinc (n := 1) (lv' := [(9, .int (nI (i + 1))), (12, .long (wa &&& (colL h i))), (10, .long (colL h i)), (8, .int (nI w)), (7, .ref cs), (0, .ref fa), (1, .long wa), (3, .long fo), (5, .long fe)]) hx hb dX0_comesFirst_72 hl (k := 8) rfl (by decide) rfl (fun ls hl => ?_)
      refine lv_goto (tgt := 17) hx hb dX0_comesFirst_75 (by decide) ?_
      exact ih_17 () ls (anyB_s hI_17 (by unfold cmF; simp [c41_2])) (lv_sub hl [3, 4, 5, 6, 7, 8, 0] rfl)
    refine lv_lload hx hb dX0_comesFirst_44 (lv_at hl 7 rfl) ?_
    refine lv_aload_n hx hb dX0_comesFirst_46 rfl (lv_at hl 4 rfl) ?_
    refine lv_lload_n hx hb dX0_comesFirst_47 rfl (lv_at hl 5 rfl) ?_
    refine lv_lload hx hb dX0_comesFirst_48 (lv_at hl 0 rfl) ?_
    refine ro_call (W.runV (As := [.long wa, .long (wa &&& (colL h i))]) (rest := [.long fe]) ⟨hx, hb, hml, hown, hts⟩ (c_reached l D cI cJ cZ w h fa g st cs wa (wa &&& (colL h i)) hd) (cwV 2 hts gX0_comesFirst_X0_reached rfl rfl rfl (by decide +kernel) ⟨Nat.le_of_ble_eq_true rfl, Nat.le_of_ble_eq_true rfl⟩) ⟨RPc.blind, va_recv hK hP (ci := 0) (q0 := 0) rfl rfl, (RPc.at (hP.sub [0, 1, 2, 3] rfl) hK hN)⟩ rfl rfl hl.1 rfl (lv_room (Nat.le_of_ble_eq_true rfl)) dX0_comesFirst_50 ⟨Nat.zero_le _, Nat.zero_le _⟩) ?_
    refine lv_land hx hb dX0_comesFirst_53 ?_
    refine lv_lstore (lv' := [(14, .long (fe &&& (rcL h (flrL h w) wa (wa &&& (colL h i)) w))), (12, .long (wa &&& (colL h i))), (10, .long (colL h i)), (8, .int (nI w)), (7, .ref cs), (0, .ref fa), (1, .long wa), (3, .long fo), (5, .long fe), (9, .int (nI i))]) hx hb dX0_comesFirst_54 hl (by decide) rfl (fun ls hl => ?_)
    refine lv_aload_n hx hb dX0_comesFirst_56 rfl (lv_at hl 5 rfl) ?_
    refine va_get (C := RX0) (T := TX0) (N := 1) hx hb hts (by decide +kernel) hown hK hP 0 rfl rfl 0 (by decide) (hts (.fieldLink RX0 7 RX0 "grid" "LDropFour$Grid;") (by decide +kernel)) (fun _ h9 => h9) rfl dX0_comesFirst_57 ?_
    refine lv_lload_n hx hb dX0_comesFirst_60 rfl (lv_at hl 7 rfl) ?_
    refine lv_lload hx hb dX0_comesFirst_61 (lv_at hl 0 rfl) ?_
    refine lv_lor hx hb dX0_comesFirst_63 ?_
    refine ro_call (W.runV (As := [.long (fo ||| (fe &&& (rcL h (flrL h w) wa (wa &&& (colL h i)) w)))]) (rest := []) ⟨hx, hb, hml, hown, hts⟩ (c_hasLine l D cI cJ cZ w h g st cs (fo ||| (fe &&& (rcL h (flrL h w) wa (wa &&& (colL h i)) w)))) (cwV 1 hts gX0_comesFirst_X1_hasLine rfl rfl rfl (by decide +kernel) ⟨Nat.le_of_ble_eq_true rfl, Nat.le_of_ble_eq_true rfl⟩) ⟨RPc.blind, va_recv hK hP (ci := 1) (q0 := 1) rfl rfl, (RPc.at (hP.sub [1, 2, 3] rfl) hK hN)⟩ rfl rfl hl.1 rfl (lv_room (Nat.le_of_ble_eq_true rfl)) dX0_comesFirst_64 ⟨Nat.zero_le _, Nat.zero_le _⟩) ?_
    refine b_if_ne (tgt := 72) hx hb dX0_comesFirst_67 (by decide) (fun c67_3 => ?_) (fun c67_3 => ?_)
    · skip
      refine n_iinc (n := 1) (lv' := [(9, .int (nI (i + 1))), (14, .long (fe &&& (rcL h (flrL h w) wa (wa &&& (colL h i)) w))), (12, .long (wa &&& (colL h i))), (10, .long (colL h i)), (8, .int (nI w)), (7, .ref cs), (0, .ref fa), (1, .long wa), (3, .long fo), (5, .long fe)]) hx hb dX0_comesFirst_72 hl (k := 9) rfl (by decide) rfl (fun ls hl => ?_)
      refine lv_goto (tgt := 17) hx hb dX0_comesFirst_75 (by decide) ?_
      exact ih_17 () ls (anyB_s hI_17 (by unfold cmF; rw [c67_3]; simp)) (lv_sub hl [4, 5, 6, 7, 8, 9, 0] rfl)
    refine lv_iconst (v := nI 1) hx hb dX0_comesFirst_70 (by decide) ?_
    exact ro_zret hx hb hr hlocks (by first | rfl | exact bI_nar _) (by rw [show cmB w h wa fo fe = true from anyB_t (i := i) (by unfold cmF; rw [c67_3]; simp [c41_2]) hi_17]; rfl) dX0_comesFirst_71
  · intro qx ls hI_17 hl
    have hl : lv_has ls 16 [(8, .int (nI w)), (7, .ref cs), (0, .ref fa), (1, .long wa), (3, .long fo), (5, .long fe), (9, .int (nI w))] := hl
    have hI_17 : anyB (cmF w h wa fo fe) w = false := hI_17
    refine lv_iload hx hb dX0_comesFirst_17 (lv_at hl 6 rfl) ?_
    refine lv_iload hx hb dX0_comesFirst_19 (lv_at hl 0 rfl) ?_
    refine n_icmp_ge (tgt := 78) hx hb dX0_comesFirst_21 (by decide) (by omega) (by omega) (fun c21_4 => ?_) (fun c21_4 => ?_)
    · skip
      refine lv_iconst (v := nI 0) hx hb dX0_comesFirst_78 (by decide) ?_
      exact ro_zret hx hb hr hlocks (by first | rfl | exact bI_nar _) (by rw [show cmB w h wa fo fe = false from hI_17]; rfl) dX0_comesFirst_79
    · exact absurd c21_4 (by omega)

set_option maxHeartbeats 4000000 in
set_option maxRecDepth 100000 in
theorem c_leaderWins (l : Launch) (D : va_G) (cI cJ cZ : ClassId) (w h fa g st cs : Nat) (a0 b0 : Int64) (hd : Dm w h) : Met l yX0_leaderWins wsX0_leaderWins (k2_rm 3 86) (RPc D [.ref fa, .long a0, .long b0] (foW cI cJ w h fa g st cs) (tyA cI cJ cZ)) (k2_QcV (.int (bI (lwB w h a0 b0)))) 0 0 (fun _ => False) := by
  refine ro_head (cc := cX0_leaderWins) (maxL := 22) (ret := (some .boolean)) (by decide) rfl (Nat.le_of_ble_eq_true rfl) ?_
  intro p e s m below meth cd ls hx hb hr hlocks hts hown hml hP hK hN hl
  have hl : lv_has ls 22 [(0, .ref fa), (1, .long a0), (3, .long b0)] := hl
  have hd0 := hd
  obtain ⟨h3w, hw9, h3h, hh7, hwh, h64⟩ := hd0
  refine lv_lload_n hx hb dX0_leaderWins_0 rfl (lv_at hl 1 rfl) ?_
  refine lv_lstore (lv' := [(5, .long a0), (0, .ref fa), (1, .long a0), (3, .long b0)]) hx hb dX0_leaderWins_1 hl (by decide) rfl (fun ls hl => ?_)
  refine lv_lload_n hx hb dX0_leaderWins_3 rfl (lv_at hl 3 rfl) ?_
  refine lv_lstore (lv' := [(7, .long b0), (5, .long a0), (0, .ref fa), (1, .long a0), (3, .long b0)]) hx hb dX0_leaderWins_4 hl (by decide) rfl (fun ls hl => ?_)
  refine lv_iconst (v := nI 0) hx hb dX0_leaderWins_6 (by decide) ?_
  refine lv_istore (lv' := [(9, .int (nI 0)), (7, .long b0), (5, .long a0), (0, .ref fa), (1, .long a0), (3, .long b0)]) hx hb dX0_leaderWins_7 hl (by decide) rfl (fun ls hl => ?_)
  refine loopW (σ := Int64 × Int64) (m := m) 9 22 (fun i qx => [(0, .ref fa), (1, .long a0), (3, .long b0), (9, .int (nI i)), (5, .long qx.1), (7, .long qx.2)]) (fun i qx => (qx.1, qx.2) = leE w h a0 b0 i) ((h + 1) / 2) ?_ ?_ 0 (a0, b0) ls (by omega) rfl (lv_sub hl [3, 4, 5, 0, 2, 1] rfl)
  · intro i qx ls hi_9 hI_9 hl ih_9
    obtain ⟨a1, b1⟩ := qx
    have hl : lv_has ls 22 [(0, .ref fa), (1, .long a0), (3, .long b0), (9, .int (nI i)), (5, .long a1), (7, .long b1)] := hl
    have hI_9 : (a1, b1) = leE w h a0 b0 i := hI_9
    refine lv_iconst (v := nI 2) hx hb dX0_leaderWins_9 (by decide) ?_
    refine lv_iload hx hb dX0_leaderWins_10 (lv_at hl 3 rfl) ?_
    refine n_imul hx hb dX0_leaderWins_12 ?_
    refine lv_aload_n hx hb dX0_leaderWins_13 rfl (lv_at hl 0 rfl) ?_
    refine va_get (C := RX0) (T := TX0) (N := 1) hx hb hts (by decide +kernel) hown hK hP 0 rfl rfl 0 (by decide) (hts (.fieldLink RX0 7 RX0 "grid" "LDropFour$Grid;") (by decide +kernel)) (fun _ h9 => h9) rfl dX0_leaderWins_14 ?_
    refine va_getN (C := RX1) (T := TX1) (N := 6) hx hb hts (by decide +kernel) hown hK hP 1 rfl rfl 1 (by decide) (hN.use 0 rfl rfl) (fun _ h9 => h9) rfl dX0_leaderWins_17 ?_
    refine n_icmp_ge (tgt := 63) hx hb dX0_leaderWins_20 (by decide) (by omega) (by omega) (fun c20_1 => ?_) (fun c20_1 => ?_)
    · exact absurd c20_1 (by omega)
    refine lv_lload hx hb dX0_leaderWins_23 (lv_at hl 4 rfl) ?_
    refine lv_aload_n hx hb dX0_leaderWins_25 rfl (lv_at hl 0 rfl) ?_
    refine va_get (C := RX0) (T := TX0) (N := 1) hx hb hts (by decide +kernel) hown hK hP 0 rfl rfl 0 (by decide) (hts (.fieldLink RX0 7 RX0 "grid" "LDropFour$Grid;") (by decide +kernel)) (fun _ h9 => h9) rfl dX0_leaderWins_26 ?_
    refine lv_lload hx hb dX0_leaderWins_29 (lv_at hl 4 rfl) ?_
    refine lv_lload hx hb dX0_leaderWins_31 (lv_at hl 5 rfl) ?_
    refine lv_lor hx hb dX0_leaderWins_33 ?_
    refine ro_call (W.runV (As := [.long (a1 ||| b1)]) (rest := [.long a1]) ⟨hx, hb, hml, hown, hts⟩ (c_nextSquares l D cI cJ cZ w h g st cs (a1 ||| b1)) (cwV 1 hts gX0_leaderWins_X1_nextSquares rfl rfl rfl (by decide +kernel) ⟨Nat.le_of_ble_eq_true rfl, Nat.le_of_ble_eq_true rfl⟩) ⟨RPc.blind, va_recv hK hP (ci := 1) (q0 := 1) rfl rfl, (RPc.at (hP.sub [1, 2, 3] rfl) hK hN)⟩ rfl rfl hl.1 rfl (lv_room (Nat.le_of_ble_eq_true rfl)) dX0_leaderWins_34 ⟨Nat.zero_le _, Nat.zero_le _⟩) ?_
    refine lv_lor hx hb dX0_leaderWins_37 ?_
    refine lv_lstore (lv' := [(5, .long (a1 ||| (nxL w h (a1 ||| b1)))), (0, .ref fa), (1, .long a0), (3, .long b0), (9, .int (nI i)), (7, .long b1)]) hx hb dX0_leaderWins_38 hl (by decide) rfl (fun ls hl => ?_)
    refine lv_lload hx hb dX0_leaderWins_40 (lv_at hl 5 rfl) ?_
    refine lv_aload_n hx hb dX0_leaderWins_42 rfl (lv_at hl 1 rfl) ?_
    refine va_get (C := RX0) (T := TX0) (N := 1) hx hb hts (by decide +kernel) hown hK hP 0 rfl rfl 0 (by decide) (hts (.fieldLink RX0 7 RX0 "grid" "LDropFour$Grid;") (by decide +kernel)) (fun _ h9 => h9) rfl dX0_leaderWins_43 ?_
    refine lv_lload hx hb dX0_leaderWins_46 (lv_at hl 0 rfl) ?_
    refine lv_lload hx hb dX0_leaderWins_48 (lv_at hl 5 rfl) ?_
    refine lv_lor hx hb dX0_leaderWins_50 ?_
    refine ro_call (W.runV (As := [.long ((a1 ||| (nxL w h (a1 ||| b1))) ||| b1)]) (rest := [.long b1]) ⟨hx, hb, hml, hown, hts⟩ (c_nextSquares l D cI cJ cZ w h g st cs ((a1 ||| (nxL w h (a1 ||| b1))) ||| b1)) (cwV 1 hts gX0_leaderWins_X1_nextSquares rfl rfl rfl (by decide +kernel) ⟨Nat.le_of_ble_eq_true rfl, Nat.le_of_ble_eq_true rfl⟩) ⟨RPc.blind, va_recv hK hP (ci := 1) (q0 := 1) rfl rfl, (RPc.at (hP.sub [1, 2, 3] rfl) hK hN)⟩ rfl rfl hl.1 rfl (lv_room (Nat.le_of_ble_eq_true rfl)) dX0_leaderWins_51 ⟨Nat.zero_le _, Nat.zero_le _⟩) ?_
    refine lv_lor hx hb dX0_leaderWins_54 ?_
    refine lv_lstore (lv' := [(7, .long (b1 ||| (nxL w h ((a1 ||| (nxL w h (a1 ||| b1))) ||| b1)))), (5, .long (a1 ||| (nxL w h (a1 ||| b1)))), (0, .ref fa), (1, .long a0), (3, .long b0), (9, .int (nI i))]) hx hb dX0_leaderWins_55 hl (by decide) rfl (fun ls hl => ?_)
    refine n_iinc (n := 1) (lv' := [(9, .int (nI (i + 1))), (7, .long (b1 ||| (nxL w h ((a1 ||| (nxL w h (a1 ||| b1))) ||| b1)))), (5, .long (a1 ||| (nxL w h (a1 ||| b1)))), (0, .ref fa), (1, .long a0), (3, .long b0)]) hx hb dX0_leaderWins_57 hl (k := 5) rfl (by decide) rfl (fun ls hl => ?_)
    refine lv_goto (tgt := 9) hx hb dX0_leaderWins_60 (by decide) ?_
    exact ih_9 (a1 ||| (nxL w h (a1 ||| b1)), b1 ||| (nxL w h ((a1 ||| (nxL w h (a1 ||| b1))) ||| b1))) ls (by rw [leE, ← hI_9]) (lv_sub hl [3, 4, 5, 0, 2, 1] rfl)
  · intro qx ls hI_9 hl
    obtain ⟨a1, b1⟩ := qx
    have hl : lv_has ls 22 [(0, .ref fa), (1, .long a0), (3, .long b0), (9, .int (nI ((h + 1) / 2))), (5, .long a1), (7, .long b1)] := hl
    have hI_9 : (a1, b1) = leE w h a0 b0 ((h + 1) / 2) := hI_9
    refine lv_iconst (v := nI 2) hx hb dX0_leaderWins_9 (by decide) ?_
    refine lv_iload hx hb dX0_leaderWins_10 (lv_at hl 3 rfl) ?_
    refine n_imul hx hb dX0_leaderWins_12 ?_
    refine lv_aload_n hx hb dX0_leaderWins_13 rfl (lv_at hl 0 rfl) ?_
    refine va_get (C := RX0) (T := TX0) (N := 1) hx hb hts (by decide +kernel) hown hK hP 0 rfl rfl 0 (by decide) (hts (.fieldLink RX0 7 RX0 "grid" "LDropFour$Grid;") (by decide +kernel)) (fun _ h9 => h9) rfl dX0_leaderWins_14 ?_
    refine va_getN (C := RX1) (T := TX1) (N := 6) hx hb hts (by decide +kernel) hown hK hP 1 rfl rfl 1 (by decide) (hN.use 0 rfl rfl) (fun _ h9 => h9) rfl dX0_leaderWins_17 ?_
    refine n_icmp_ge (tgt := 63) hx hb dX0_leaderWins_20 (by decide) (by omega) (by omega) (fun c20_2 => ?_) (fun c20_2 => ?_)
    · skip
      have ea1 : a1 = (leE w h a0 b0 ((h + 1) / 2)).1 := by rw [← hI_9]
      have eb1 : b1 = (leE w h a0 b0 ((h + 1) / 2)).2 := by rw [← hI_9]
      refine lv_aload_n hx hb dX0_leaderWins_63 rfl (lv_at hl 0 rfl) ?_
      refine va_get (C := RX0) (T := TX0) (N := 1) hx hb hts (by decide +kernel) hown hK hP 0 rfl rfl 0 (by decide) (hts (.fieldLink RX0 7 RX0 "grid" "LDropFour$Grid;") (by decide +kernel)) (fun _ h9 => h9) rfl dX0_leaderWins_64 ?_
      refine va_getN (C := RX1) (T := TX1) (N := 6) hx hb hts (by decide +kernel) hown hK hP 1 rfl rfl 4 (by decide) (hN.use 1 rfl rfl) (fun _ h9 => h9) rfl dX0_leaderWins_67 ?_
      refine lv_astore (lv' := [(9, .ref st), (0, .ref fa), (1, .long a0), (3, .long b0), (5, .long a1), (7, .long b1)]) hx hb dX0_leaderWins_70 hl (by decide) rfl (fun ls hl => ?_)
      refine lv_aload hx hb dX0_leaderWins_72 (lv_at hl 0 rfl) ?_
      refine va_alen hx hb hK hP 2 0 rfl rfl (v := nI 4) rfl dX0_leaderWins_74 ?_
      refine lv_istore (lv' := [(10, .int (nI 4)), (9, .ref st), (0, .ref fa), (1, .long a0), (3, .long b0), (5, .long a1), (7, .long b1)]) hx hb dX0_leaderWins_75 hl (by decide) rfl (fun ls hl => ?_)
      refine lv_iconst (v := nI 0) hx hb dX0_leaderWins_77 (by decide) ?_
      refine lv_istore (lv' := [(11, .int (nI 0)), (10, .int (nI 4)), (9, .ref st), (0, .ref fa), (1, .long a0), (3, .long b0), (5, .long a1), (7, .long b1)]) hx hb dX0_leaderWins_78 hl (by decide) rfl (fun ls hl => ?_)
      refine loopW (σ := Unit) (m := m) 80 22 (fun i qx => [(10, .int (nI 4)), (9, .ref st), (0, .ref fa), (1, .long a0), (3, .long b0), (5, .long a1), (7, .long b1), (11, .int (nI i))]) (fun i qx => anyB (lsF w h a0 b0 (leE w h a0 b0 ((h + 1) / 2))) i = false) 4 ?_ ?_ 0 () ls (by omega) rfl (lv_sub hl [1, 2, 3, 4, 5, 6, 7, 0] rfl)
      · intro j qx ls hi_80 hI_80 hl ih_80
        have hl : lv_has ls 22 [(10, .int (nI 4)), (9, .ref st), (0, .ref fa), (1, .long a0), (3, .long b0), (5, .long a1), (7, .long b1), (11, .int (nI j))] := hl
        have hI_80 : anyB (lsF w h a0 b0 (leE w h a0 b0 ((h + 1) / 2))) j = false := hI_80
        refine lv_iload hx hb dX0_leaderWins_80 (lv_at hl 7 rfl) ?_
        refine lv_iload hx hb dX0_leaderWins_82 (lv_at hl 0 rfl) ?_
        refine n_icmp_ge (tgt := 187) hx hb dX0_leaderWins_84 (by decide) (by omega) (by omega) (fun c84_3 => ?_) (fun c84_3 => ?_)
        · exact absurd c84_3 (by omega)
        refine lv_aload hx hb dX0_leaderWins_87 (lv_at hl 1 rfl) ?_
        refine lv_iload hx hb dX0_leaderWins_89 (lv_at hl 7 rfl) ?_
        refine n_iald hx hb hK hP 2 0 rfl rfl (by omega) (by omega) dX0_leaderWins_91 ?_
        refine lv_istore (lv' := [(12, .int (nI (stp h j))), (10, .int (nI 4)), (9, .ref st), (0, .ref fa), (1, .long a0), (3, .long b0), (5, .long a1), (7, .long b1), (11, .int (nI j))]) hx hb dX0_leaderWins_92 hl (by decide) rfl (fun ls hl => ?_)
        refine lv_aload_n hx hb dX0_leaderWins_94 rfl (lv_at hl 3 rfl) ?_
        refine va_get (C := RX0) (T := TX0) (N := 1) hx hb hts (by decide +kernel) hown hK hP 0 rfl rfl 0 (by decide) (hts (.fieldLink RX0 7 RX0 "grid" "LDropFour$Grid;") (by decide +kernel)) (fun _ h9 => h9) rfl dX0_leaderWins_95 ?_
        refine lv_lload hx hb dX0_leaderWins_98 (lv_at hl 6 rfl) ?_
        refine lv_iload hx hb dX0_leaderWins_100 (lv_at hl 0 rfl) ?_
        refine ro_call (W.runV (As := [.long a1, .int (nI (stp h j))]) (rest := []) ⟨hx, hb, hml, hown, hts⟩ (c_lineStarts l D cI cJ cZ w h g st cs a1 (stp h j)) (cwV 2 hts gX0_leaderWins_X1_lineStarts rfl rfl rfl (by decide +kernel) ⟨Nat.le_of_ble_eq_true rfl, Nat.le_of_ble_eq_true rfl⟩) ⟨RPc.blind, va_recv hK hP (ci := 1) (q0 := 1) rfl rfl, (RPc.at (hP.sub [1, 2, 3] rfl) hK hN)⟩ rfl rfl hl.1 rfl (lv_room (Nat.le_of_ble_eq_true rfl)) dX0_leaderWins_102 ⟨Nat.zero_le _, Nat.zero_le _⟩) ?_
        refine lv_lstore (lv' := [(13, .long (lsL a1 (stp h j))), (12, .int (nI (stp h j))), (10, .int (nI 4)), (9, .ref st), (0, .ref fa), (1, .long a0), (3, .long b0), (5, .long a1), (7, .long b1), (11, .int (nI j))]) hx hb dX0_leaderWins_105 hl (by decide) rfl (fun ls hl => ?_)
        refine lv_iconst (v := nI 0) hx hb dX0_leaderWins_107 (by decide) ?_
        refine lv_istore (lv' := [(15, .int (nI 0)), (13, .long (lsL a1 (stp h j))), (12, .int (nI (stp h j))), (10, .int (nI 4)), (9, .ref st), (0, .ref fa), (1, .long a0), (3, .long b0), (5, .long a1), (7, .long b1), (11, .int (nI j))]) hx hb dX0_leaderWins_108 hl (by decide) rfl (fun ls hl => ?_)
        refine loopW (σ := Unit) (m := m) 110 22 (fun i qx => [(13, .long (lsL a1 (stp h j))), (12, .int (nI (stp h j))), (10, .int (nI 4)), (9, .ref st), (0, .ref fa), (1, .long a0), (3, .long b0), (5, .long a1), (7, .long b1), (11, .int (nI j)), (15, .int (nI i))]) (fun i qx => anyB (lbF w h a0 b0 b1 (lsL a1 (stp h j)) (stp h j)) i = false) 64 ?_ ?_ 0 () ls (by omega) rfl (lv_sub hl [1, 2, 3, 4, 5, 6, 7, 8, 9, 10, 0] rfl)
        · intro b qx ls hi_110 hI_110 hl ih_110
          have hl : lv_has ls 22 [(13, .long (lsL a1 (stp h j))), (12, .int (nI (stp h j))), (10, .int (nI 4)), (9, .ref st), (0, .ref fa), (1, .long a0), (3, .long b0), (5, .long a1), (7, .long b1), (11, .int (nI j)), (15, .int (nI b))] := hl
          have hI_110 : anyB (lbF w h a0 b0 b1 (lsL a1 (stp h j)) (stp h j)) b = false := hI_110
          refine lv_iload hx hb dX0_leaderWins_110 (lv_at hl 10 rfl) ?_
          refine lv_bipush (v := nI 64) hx hb dX0_leaderWins_112 (by decide) ?_
          refine n_icmp_ge (tgt := 181) hx hb dX0_leaderWins_114 (by decide) (by omega) (by omega) (fun c114_4 => ?_) (fun c114_4 => ?_)
          · exact absurd c114_4 (by omega)
          refine lv_lload hx hb dX0_leaderWins_117 (lv_at hl 0 rfl) ?_
          refine lv_lconst (v := 1) hx hb dX0_leaderWins_119 (by decide) ?_
          refine lv_iload hx hb dX0_leaderWins_120 (lv_at hl 10 rfl) ?_
          refine n_lshl hx hb dX0_leaderWins_122 ?_
          refine lv_land hx hb dX0_leaderWins_123 ?_
          refine lv_lstore (lv' := [(16, .long ((lsL a1 (stp h j)) &&& (shlL 1 b))), (13, .long (lsL a1 (stp h j))), (12, .int (nI (stp h j))), (10, .int (nI 4)), (9, .ref st), (0, .ref fa), (1, .long a0), (3, .long b0), (5, .long a1), (7, .long b1), (11, .int (nI j)), (15, .int (nI b))]) hx hb dX0_leaderWins_124 hl (by decide) rfl (fun ls hl => ?_)
          refine lv_lload hx hb dX0_leaderWins_126 (lv_at hl 0 rfl) ?_
          refine lv_lload hx hb dX0_leaderWins_128 (lv_at hl 0 rfl) ?_
          refine lv_iload hx hb dX0_leaderWins_130 (lv_at hl 2 rfl) ?_
          refine n_lshl hx hb dX0_leaderWins_132 ?_
          refine lv_lor hx hb dX0_leaderWins_133 ?_
          refine lv_lstore (lv' := [(18, .long (((lsL a1 (stp h j)) &&& (shlL 1 b)) ||| (shlL ((lsL a1 (stp h j)) &&& (shlL 1 b)) (stp h j)))), (16, .long ((lsL a1 (stp h j)) &&& (shlL 1 b))), (13, .long (lsL a1 (stp h j))), (12, .int (nI (stp h j))), (10, .int (nI 4)), (9, .ref st), (0, .ref fa), (1, .long a0), (3, .long b0), (5, .long a1), (7, .long b1), (11, .int (nI j)), (15, .int (nI b))]) hx hb dX0_leaderWins_134 hl (by decide) rfl (fun ls hl => ?_)
          refine lv_lload hx hb dX0_leaderWins_136 (lv_at hl 0 rfl) ?_
          refine lv_lload hx hb dX0_leaderWins_138 (lv_at hl 0 rfl) ?_
          refine lv_iconst (v := nI 2) hx hb dX0_leaderWins_140 (by decide) ?_
          refine lv_iload hx hb dX0_leaderWins_141 (lv_at hl 3 rfl) ?_
          refine n_imul hx hb dX0_leaderWins_143 ?_
          refine n_lshl hx hb dX0_leaderWins_144 ?_
          refine lv_lor hx hb dX0_leaderWins_145 ?_
          refine lv_lload_n hx hb dX0_leaderWins_146 rfl (lv_at hl 7 rfl) ?_
          refine lv_ldc2 (v := (-1)) hx hb hown (hts (.constantLong RX0 31 (-1)) (by decide +kernel)) dX0_leaderWins_147 ?_
          refine lv_lxor hx hb dX0_leaderWins_150 ?_
          refine lv_land hx hb dX0_leaderWins_151 ?_
          refine lv_lstore (lv' := [(20, .long (((((lsL a1 (stp h j)) &&& (shlL 1 b)) ||| (shlL ((lsL a1 (stp h j)) &&& (shlL 1 b)) (stp h j))) ||| (shlL (((lsL a1 (stp h j)) &&& (shlL 1 b)) ||| (shlL ((lsL a1 (stp h j)) &&& (shlL 1 b)) (stp h j))) (2 * (stp h j)))) &&& (a0 ^^^ (-1)))), (18, .long (((lsL a1 (stp h j)) &&& (shlL 1 b)) ||| (shlL ((lsL a1 (stp h j)) &&& (shlL 1 b)) (stp h j)))), (16, .long ((lsL a1 (stp h j)) &&& (shlL 1 b))), (13, .long (lsL a1 (stp h j))), (12, .int (nI (stp h j))), (10, .int (nI 4)), (9, .ref st), (0, .ref fa), (1, .long a0), (3, .long b0), (5, .long a1), (7, .long b1), (11, .int (nI j)), (15, .int (nI b))]) hx hb dX0_leaderWins_152 hl (by decide) rfl (fun ls hl => ?_)
          refine lv_lload hx hb dX0_leaderWins_154 (lv_at hl 0 rfl) ?_
          refine lv_lconst (v := 0) hx hb dX0_leaderWins_156 (by decide) ?_
          refine W.lcmp hx hb dX0_leaderWins_157 ?_
          refine l_if_eq (tgt := 175) hx hb dX0_leaderWins_158 (by decide) (fun c158_5 => ?_) (fun c158_5 => ?_)
          · skip
            refine n_iinc (n := 1) (lv' := [(15, .int (nI (b + 1))), (20, .long (((((lsL a1 (stp h j)) &&& (shlL 1 b)) ||| (shlL ((lsL a1 (stp h j)) &&& (shlL 1 b)) (stp h j))) ||| (shlL (((lsL a1 (stp h j)) &&& (shlL 1 b)) ||| (shlL ((lsL a1 (stp h j)) &&& (shlL 1 b)) (stp h j))) (2 * (stp h j)))) &&& (a0 ^^^ (-1)))), (18, .long (((lsL a1 (stp h j)) &&& (shlL 1 b)) ||| (shlL ((lsL a1 (stp h j)) &&& (shlL 1 b)) (stp h j)))), (16, .long ((lsL a1 (stp h j)) &&& (shlL 1 b))), (13, .long (lsL a1 (stp h j))), (12, .int (nI (stp h j))), (10, .int (nI 4)), (9, .ref st), (0, .ref fa), (1, .long a0), (3, .long b0), (5, .long a1), (7, .long b1), (11, .int (nI j))]) hx hb dX0_leaderWins_175 hl (k := 13) rfl (by decide) rfl (fun ls hl => ?_)
            refine lv_goto (tgt := 110) hx hb dX0_leaderWins_178 (by decide) ?_
            exact ih_110 () ls (anyB_s hI_110 (by unfold lbF; rw [show waL a0 (lsL a1 (stp h j)) (stp h j) b = 0 from c158_5]; rfl)) (lv_sub hl [4, 5, 6, 7, 8, 9, 10, 11, 12, 13, 0] rfl)
          refine lv_aload_n hx hb dX0_leaderWins_161 rfl (lv_at hl 7 rfl) ?_
          refine lv_lload hx hb dX0_leaderWins_162 (lv_at hl 0 rfl) ?_
          refine lv_lload_n hx hb dX0_leaderWins_164 rfl (lv_at hl 9 rfl) ?_
          refine lv_lload hx hb dX0_leaderWins_165 (lv_at hl 11 rfl) ?_
          refine ro_call (W.runV (As := [.long (((((lsL a1 (stp h j)) &&& (shlL 1 b)) ||| (shlL ((lsL a1 (stp h j)) &&& (shlL 1 b)) (stp h j))) ||| (shlL (((lsL a1 (stp h j)) &&& (shlL 1 b)) ||| (shlL ((lsL a1 (stp h j)) &&& (shlL 1 b)) (stp h j))) (2 * (stp h j)))) &&& (a0 ^^^ (-1))), .long b0, .long b1]) (rest := []) ⟨hx, hb, hml, hown, hts⟩ (c_comesFirst l D cI cJ cZ w h fa g st cs (((((lsL a1 (stp h j)) &&& (shlL 1 b)) ||| (shlL ((lsL a1 (stp h j)) &&& (shlL 1 b)) (stp h j))) ||| (shlL (((lsL a1 (stp h j)) &&& (shlL 1 b)) ||| (shlL ((lsL a1 (stp h j)) &&& (shlL 1 b)) (stp h j))) (2 * (stp h j)))) &&& (a0 ^^^ (-1))) b0 b1 hd) (cwV 3 hts gX0_leaderWins_X0_comesFirst rfl rfl rfl (by decide +kernel) ⟨Nat.le_of_ble_eq_true rfl, Nat.le_of_ble_eq_true rfl⟩) ⟨RPc.blind, va_recv hK hP (ci := 0) (q0 := 0) rfl rfl, (RPc.at (hP.sub [0, 1, 2, 3] rfl) hK hN)⟩ rfl rfl hl.1 rfl (lv_room (Nat.le_of_ble_eq_true rfl)) dX0_leaderWins_167 ⟨Nat.zero_le _, Nat.zero_le _⟩) ?_
          refine b_if_eq (tgt := 175) hx hb dX0_leaderWins_170 (by decide) (fun c170_6 => ?_) (fun c170_6 => ?_)
          · skip
            refine n_iinc (n := 1) (lv' := [(15, .int (nI (b + 1))), (20, .long (((((lsL a1 (stp h j)) &&& (shlL 1 b)) ||| (shlL ((lsL a1 (stp h j)) &&& (shlL 1 b)) (stp h j))) ||| (shlL (((lsL a1 (stp h j)) &&& (shlL 1 b)) ||| (shlL ((lsL a1 (stp h j)) &&& (shlL 1 b)) (stp h j))) (2 * (stp h j)))) &&& (a0 ^^^ (-1)))), (18, .long (((lsL a1 (stp h j)) &&& (shlL 1 b)) ||| (shlL ((lsL a1 (stp h j)) &&& (shlL 1 b)) (stp h j)))), (16, .long ((lsL a1 (stp h j)) &&& (shlL 1 b))), (13, .long (lsL a1 (stp h j))), (12, .int (nI (stp h j))), (10, .int (nI 4)), (9, .ref st), (0, .ref fa), (1, .long a0), (3, .long b0), (5, .long a1), (7, .long b1), (11, .int (nI j))]) hx hb dX0_leaderWins_175 hl (k := 13) rfl (by decide) rfl (fun ls hl => ?_)
            refine lv_goto (tgt := 110) hx hb dX0_leaderWins_178 (by decide) ?_
            exact ih_110 () ls (anyB_s hI_110 (by unfold lbF; rw [show cmB w h (waL a0 (lsL a1 (stp h j)) (stp h j) b) b0 b1 = false from c170_6]; simp)) (lv_sub hl [4, 5, 6, 7, 8, 9, 10, 11, 12, 13, 0] rfl)
          refine lv_iconst (v := nI 1) hx hb dX0_leaderWins_173 (by decide) ?_
          exact ro_zret hx hb hr hlocks (by first | rfl | exact bI_nar _) (by rw [show lwB w h a0 b0 = true from anyB_t (i := j) (by unfold lsF; rw [← ea1, ← eb1]; exact anyB_t (i := b) (by unfold lbF; rw [show cmB w h (waL a0 (lsL a1 (stp h j)) (stp h j) b) b0 b1 = true from c170_6]; simp; exact c158_5) hi_110) hi_80]; rfl) dX0_leaderWins_174
        · intro qx ls hI_110 hl
          have hl : lv_has ls 22 [(13, .long (lsL a1 (stp h j))), (12, .int (nI (stp h j))), (10, .int (nI 4)), (9, .ref st), (0, .ref fa), (1, .long a0), (3, .long b0), (5, .long a1), (7, .long b1), (11, .int (nI j)), (15, .int (nI 64))] := hl
          have hI_110 : anyB (lbF w h a0 b0 b1 (lsL a1 (stp h j)) (stp h j)) 64 = false := hI_110
          refine lv_iload hx hb dX0_leaderWins_110 (lv_at hl 10 rfl) ?_
          refine lv_bipush (v := nI 64) hx hb dX0_leaderWins_112 (by decide) ?_
          refine n_icmp_ge (tgt := 181) hx hb dX0_leaderWins_114 (by decide) (by decide) (by decide) (fun _ => ?_) (fun c114_7 => absurd c114_7 (by decide))
          refine n_iinc (n := 1) (lv' := [(11, .int (nI (j + 1))), (13, .long (lsL a1 (stp h j))), (12, .int (nI (stp h j))), (10, .int (nI 4)), (9, .ref st), (0, .ref fa), (1, .long a0), (3, .long b0), (5, .long a1), (7, .long b1), (15, .int (nI 64))]) hx hb dX0_leaderWins_181 hl (k := 9) rfl (by decide) rfl (fun ls hl => ?_)
          refine lv_goto (tgt := 80) hx hb dX0_leaderWins_184 (by decide) ?_
          exact ih_80 () ls (anyB_s hI_80 (by unfold lsF; rw [← ea1, ← eb1]; exact hI_110)) (lv_sub hl [3, 4, 5, 6, 7, 8, 9, 0] rfl)
      · intro qx ls hI_80 hl
        have hl : lv_has ls 22 [(10, .int (nI 4)), (9, .ref st), (0, .ref fa), (1, .long a0), (3, .long b0), (5, .long a1), (7, .long b1), (11, .int (nI 4))] := hl
        have hI_80 : anyB (lsF w h a0 b0 (leE w h a0 b0 ((h + 1) / 2))) 4 = false := hI_80
        refine lv_iload hx hb dX0_leaderWins_80 (lv_at hl 7 rfl) ?_
        refine lv_iload hx hb dX0_leaderWins_82 (lv_at hl 0 rfl) ?_
        refine n_icmp_ge (tgt := 187) hx hb dX0_leaderWins_84 (by decide) (by decide) (by decide) (fun _ => ?_) (fun c84_8 => absurd c84_8 (by decide))
        refine lv_iconst (v := nI 0) hx hb dX0_leaderWins_187 (by decide) ?_
        exact ro_zret hx hb hr hlocks (by first | rfl | exact bI_nar _) (by rw [show lwB w h a0 b0 = false from hI_80]; rfl) dX0_leaderWins_188
    · exact absurd c20_2 (by omega)
