abbrev rm_X1_isAt : Room := { frames := 0, cells := 0, slots := 0, locals := 0 }
set_option maxHeartbeats 1000000 in
set_option maxRecDepth 100000 in
/-- isAt -/
theorem c_X1_isAt (l : Launch) (D : va_G) (cy : Nat → ClassId) (ta : Nat → Nat) (bs : Nat → Int32) (ln : Nat) (pl : Nat) (c9 : Nat) (hln : ln ≤ 100) (hpl : pl ≤ 150) (sz : Nat) : Met l yX1_isAt wsX1_isAt rm_X1_isAt (va_Pc [.ref (ta 0), .int (nI c9)] (kPre D (kT cy) [tW cy ta (bs, ln, pl)] sz)) (va_Qi (fun r_ (u_ : Unit) => r_ = if kIs bs ln pl c9 then nI 1 else nI 0) (kFr D (kT cy) [tW cy ta (bs, ln, pl)] sz (fun u_ : Unit => [tW cy ta (bs, ln, pl)])) (va_A (bkF [tW cy ta (bs, ln, pl)]) sz)) 0 0 (va_A (bkF [tW cy ta (bs, ln, pl)]) sz) := by
  refine kOpen (y := yX1_isAt) (ws := wsX1_isAt) (cc := cX1_isAt) (maxL := 2) (ret := (some .boolean)) (av := [.ref (ta 0), .int (nI c9)]) (Bs := [tW cy ta (bs, ln, pl)]) (Qc := fun A => (va_Qi (fun r_ (u_ : Unit) => r_ = if kIs bs ln pl c9 then nI 1 else nI 0) (fun (u_ : Unit) t9 => kEnd D (kT cy) A [tW cy ta (bs, ln, pl)] t9) A)) (by decide) rfl (Nat.le_of_ble_eq_true rfl) ?_
  intro p e s m args below meth c A Q ls hQ hx hb hml hr hlocks hin hts hown hN hK hP hD hS hA hsz hAe hl
  clear hAe
  have hl : lv_has ls 2 [(0, .ref (ta 0)), (1, .int (nI c9))] := hl
  suffices K9 : ∀ (H : Heap) (locs : List Loc), va_P D vwCl (bkF [tW cy ta (bs, ln, pl)]) H → va_S A s.heap H locs → W p l e (headSpec wsX1_isAt rm_X1_isAt).room s m args below meth c H locs 0 0 Q (F0 m 0 ls []) from K9 _ _ hP hS
  clear hP hS
  intro H locs hP hS
  refine lv_aload_n hx hb dX1_isAt_0 rfl (lv_at hl 0 rfl) ?_
  refine va_get (D := D) (ci := 1) (v := .int (nI pl)) (C := RX1) (T := TX1) (N := 3) hx hb hts (by decide +kernel) hown hK hP 0 rfl rfl 2 (by decide) (hts (.fieldLink RX1 24 "DanceHall$GuestList" "at" "I") (by decide +kernel)) (fun _ h9 => h9) rfl dX1_isAt_1 ?_
  refine lv_aload_n hx hb dX1_isAt_4 rfl (lv_at hl 0 rfl) ?_
  refine va_get (D := D) (ci := 1) (v := .int (nI ln)) (C := RX1) (T := TX1) (N := 3) hx hb hts (by decide +kernel) hown hK hP 0 rfl rfl 1 (by decide) (hts (.fieldLink RX1 15 "DanceHall$GuestList" "length" "I") (by decide +kernel)) (fun _ h9 => h9) rfl dX1_isAt_5 ?_
  refine lv_icmp_ge (tgt := 28) hx hb dX1_isAt_8 (by decide) (fun c_8 => ?_) (fun c_8 => ?_)
  · skip
    have c_8 : ln ≤ pl := (nI_leI (a := ln) (b := pl) (by omega) (by omega)).mp c_8
    refine lv_iconst (v := nI 0) hx hb dX1_isAt_28 (by decide) ?_
    exact kr_i (post := fun r_ (u_ : Unit) => r_ = if kIs bs ln pl c9 then nI 1 else nI 0) (Bs := fun u_ : Unit => [tW cy ta (bs, ln, pl)]) hx hb hr hlocks rfl () hP hK hD hS (if_neg (fun h => h.1 c_8)).symm dX1_isAt_29 hQ
  · skip
    have c_8 : ¬ (ln ≤ pl) := fun h => c_8 ((nI_leI (a := ln) (b := pl) (by omega) (by omega)).mpr h)
    refine lv_aload_n hx hb dX1_isAt_11 rfl (lv_at hl 0 rfl) ?_
    refine va_get (D := D) (ci := 1) (v := .ref (ta 1)) (C := RX1) (T := TX1) (N := 3) hx hb hts (by decide +kernel) hown hK hP 0 rfl rfl 0 (by decide) (hts (.fieldLink RX1 9 "DanceHall$GuestList" "bytes" "[B") (by decide +kernel)) (fun _ h9 => h9) rfl dX1_isAt_12 ?_
    refine lv_aload_n hx hb dX1_isAt_15 rfl (lv_at hl 0 rfl) ?_
    refine va_get (D := D) (ci := 1) (v := .int (nI pl)) (C := RX1) (T := TX1) (N := 3) hx hb hts (by decide +kernel) hown hK hP 0 rfl rfl 2 (by decide) (hts (.fieldLink RX1 24 "DanceHall$GuestList" "at" "I") (by decide +kernel)) (fun _ h9 => h9) rfl dX1_isAt_16 ?_
    refine va_bald hx hb hK hP 1 2 rfl rfl (vp_in_nI (n := pl) (N := 100) (by omega) (by omega)) dX1_isAt_19 ?_
    refine kv_i (y := bs pl) (congrArg bs (nI_clamp (n := pl) (by omega))) ?_
    refine lv_iload_n hx hb dX1_isAt_20 rfl (lv_at hl 1 rfl) ?_
    refine lv_icmp_ne (tgt := 28) hx hb dX1_isAt_21 (by decide) (fun c_21 => ?_) (fun c_21 => ?_)
    · skip
      refine lv_iconst (v := nI 0) hx hb dX1_isAt_28 (by decide) ?_
      exact kr_i (post := fun r_ (u_ : Unit) => r_ = if kIs bs ln pl c9 then nI 1 else nI 0) (Bs := fun u_ : Unit => [tW cy ta (bs, ln, pl)]) hx hb hr hlocks rfl () hP hK hD hS (if_neg (fun h => c_21 h.2)).symm dX1_isAt_29 hQ
    · skip
      refine lv_iconst (v := nI 1) hx hb dX1_isAt_24 (by decide) ?_
      refine lv_goto (tgt := 29) hx hb dX1_isAt_25 (by decide) ?_
      exact kr_i (post := fun r_ (u_ : Unit) => r_ = if kIs bs ln pl c9 then nI 1 else nI 0) (Bs := fun u_ : Unit => [tW cy ta (bs, ln, pl)]) hx hb hr hlocks rfl () hP hK hD hS (if_pos ⟨c_8, c_21⟩).symm dX1_isAt_29 hQ
abbrev rm_X1_skip_y : Room := { frames := 1, cells := 0, slots := 0, locals := 21 }
set_option maxHeartbeats 1000000 in
set_option maxRecDepth 100000 in
/-- skip, there -/
theorem c_X1_skip_y (l : Launch) (D : va_G) (cy : Nat → ClassId) (ta : Nat → Nat) (bs : Nat → Int32) (ln : Nat) (pl : Nat) (c9 : Nat) (hln : ln ≤ 100) (hpl : pl ≤ 150) (hk : kIs bs ln pl c9) (sz : Nat) : Met l yX1_skip wsX1_skip rm_X1_skip_y (va_Pc [.ref (ta 0), .int (nI c9)] (kPre D (kT cy) [tW cy ta (bs, ln, pl)] sz)) (va_Qi (fun r_ (u_ : Unit) => r_ = nI 1) (kFr D (kT cy) [tW cy ta (bs, ln, pl)] sz (fun u_ : Unit => [tW cy ta (bs, ln, pl + 1)])) (va_A (bkF [tW cy ta (bs, ln, pl)]) sz)) 0 0 (va_A (bkF [tW cy ta (bs, ln, pl)]) sz) := by
  refine kOpen (y := yX1_skip) (ws := wsX1_skip) (cc := cX1_skip) (maxL := 2) (ret := (some .boolean)) (av := [.ref (ta 0), .int (nI c9)]) (Bs := [tW cy ta (bs, ln, pl)]) (Qc := fun A => (va_Qi (fun r_ (u_ : Unit) => r_ = nI 1) (fun (u_ : Unit) t9 => kEnd D (kT cy) A [tW cy ta (bs, ln, pl + 1)] t9) A)) (by decide) rfl (Nat.le_of_ble_eq_true rfl) ?_
  intro p e s m args below meth c A Q ls hQ hx hb hml hr hlocks hin hts hown hN hK hP hD hS hA hsz hAe hl
  clear hAe
  have hl : lv_has ls 2 [(0, .ref (ta 0)), (1, .int (nI c9))] := hl
  suffices K9 : ∀ (H : Heap) (locs : List Loc), va_P D vwCl (bkF [tW cy ta (bs, ln, pl)]) H → va_S A s.heap H locs → W p l e (headSpec wsX1_skip rm_X1_skip_y).room s m args below meth c H locs 0 0 Q (F0 m 0 ls []) from K9 _ _ hP hS
  clear hP hS
  intro H locs hP hS
  refine lv_aload_n hx hb dX1_skip_0 rfl (lv_at hl 0 rfl) ?_
  refine lv_iload_n hx hb dX1_skip_1 rfl (lv_at hl 1 rfl) ?_
  refine kc_i (Cs := [tW cy ta (bs, ln, pl)]) (Rs := []) (Bs := [tW cy ta (bs, ln, pl)]) (Cs' := fun u_ : Unit => [tW cy ta (bs, ln, pl)]) (Fs := fun u_ : Unit => [tW cy ta (bs, ln, pl)]) hP hD hS hA [0] [] [0] rfl rfl (by decide) (by decide) (fun _ => rfl) (va_runV (As := [.int (nI c9)]) (rest := []) ⟨hx, hb, hml, hown, hts⟩ (c_X1_isAt l D cy ta bs ln pl c9 (by first | assumption | omega | decide) (by first | assumption | omega | decide) H.size) (cwV 1 hts gX1_skip_X1_isAt rfl rfl rfl (by decide +kernel) ⟨Nat.le_of_ble_eq_true rfl, Nat.le_of_ble_eq_true rfl⟩) (kPre_V (ci := 1) hK hN hP hD [0] (by decide) rfl 0 rfl rfl) rfl rfl hl.1 rfl (lv_room (Nat.le_of_ble_eq_true rfl)) dX1_skip_2 ⟨Nat.le_of_ble_eq_true rfl, Nat.le_of_ble_eq_true rfl⟩) (fun r_ u_ H locs hw hP hD hS => ?_)
  have hw : r_ = if kIs bs ln pl c9 then nI 1 else nI 0 := hw
  subst hw
  refine kv_i (y := nI 1) (if_pos hk) ?_
  refine lv_if_ne (tgt := 10) hx hb dX1_skip_5 (by decide) (fun _ => ?_) (fun h => absurd h (by decide))
  refine lv_aload_n hx hb dX1_skip_10 rfl (lv_at hl 0 rfl) ?_
  refine lv_dup hx hb dX1_skip_11 rfl ?_
  refine va_get (D := D) (ci := 1) (v := .int (nI pl)) (C := RX1) (T := TX1) (N := 3) hx hb hts (by decide +kernel) hown hK hP 0 rfl rfl 2 (by decide) (hts (.fieldLink RX1 24 "DanceHall$GuestList" "at" "I") (by decide +kernel)) (fun _ h9 => h9) rfl dX1_skip_12 ?_
  refine lv_iconst (v := nI 1) hx hb dX1_skip_15 (by decide) ?_
  refine lv_iadd hx hb dX1_skip_16 ?_
  refine kv_i (y := nI (pl + 1)) (nI_add pl 1) ?_
  refine va_put (D := D) (ci := 1) (v := .int (nI (pl + 1))) (ty := .int) (C := RX1) (T := TX1) (N := 3) hx hb hts (by decide +kernel) tyX1 tyX1_ok nmX1 hown hK hP hD hS 0 rfl rfl 2 (by decide) (hts (.fieldLink RX1 24 "DanceHall$GuestList" "at" "I") (by decide +kernel)) (fun _ h9 => h9) rfl (by decide +kernel) rfl rfl (Nat.le_of_ble_eq_true rfl) dX1_skip_17 (fun H locs hP hD hS => ?_)
  have hP : va_P D vwCl (bkF [tW cy ta (bs, ln, pl + 1)]) H := hP
  have hD : va_D A (bkF [tW cy ta (bs, ln, pl + 1)]) := hD
  refine lv_iconst (v := nI 1) hx hb dX1_skip_20 (by decide) ?_
  exact kr_i (post := fun r_ (u_ : Unit) => r_ = nI 1) (Bs := fun u_ : Unit => [tW cy ta (bs, ln, pl + 1)]) hx hb hr hlocks rfl () hP hK hD hS rfl dX1_skip_21 hQ
abbrev rm_X1_skip_n : Room := { frames := 1, cells := 0, slots := 0, locals := 21 }
set_option maxHeartbeats 1000000 in
set_option maxRecDepth 100000 in
/-- skip, not there -/
theorem c_X1_skip_n (l : Launch) (D : va_G) (cy : Nat → ClassId) (ta : Nat → Nat) (bs : Nat → Int32) (ln : Nat) (pl : Nat) (c9 : Nat) (hln : ln ≤ 100) (hpl : pl ≤ 150) (hk : ¬ kIs bs ln pl c9) (sz : Nat) : Met l yX1_skip wsX1_skip rm_X1_skip_n (va_Pc [.ref (ta 0), .int (nI c9)] (kPre D (kT cy) [tW cy ta (bs, ln, pl)] sz)) (va_Qi (fun r_ (u_ : Unit) => r_ = nI 0) (kFr D (kT cy) [tW cy ta (bs, ln, pl)] sz (fun u_ : Unit => [tW cy ta (bs, ln, pl)])) (va_A (bkF [tW cy ta (bs, ln, pl)]) sz)) 0 0 (va_A (bkF [tW cy ta (bs, ln, pl)]) sz) := by
  refine kOpen (y := yX1_skip) (ws := wsX1_skip) (cc := cX1_skip) (maxL := 2) (ret := (some .boolean)) (av := [.ref (ta 0), .int (nI c9)]) (Bs := [tW cy ta (bs, ln, pl)]) (Qc := fun A => (va_Qi (fun r_ (u_ : Unit) => r_ = nI 0) (fun (u_ : Unit) t9 => kEnd D (kT cy) A [tW cy ta (bs, ln, pl)] t9) A)) (by decide) rfl (Nat.le_of_ble_eq_true rfl) ?_
  intro p e s m args below meth c A Q ls hQ hx hb hml hr hlocks hin hts hown hN hK hP hD hS hA hsz hAe hl
  clear hAe
  have hl : lv_has ls 2 [(0, .ref (ta 0)), (1, .int (nI c9))] := hl
  suffices K9 : ∀ (H : Heap) (locs : List Loc), va_P D vwCl (bkF [tW cy ta (bs, ln, pl)]) H → va_S A s.heap H locs → W p l e (headSpec wsX1_skip rm_X1_skip_n).room s m args below meth c H locs 0 0 Q (F0 m 0 ls []) from K9 _ _ hP hS
  clear hP hS
  intro H locs hP hS
  refine lv_aload_n hx hb dX1_skip_0 rfl (lv_at hl 0 rfl) ?_
  refine lv_iload_n hx hb dX1_skip_1 rfl (lv_at hl 1 rfl) ?_
  refine kc_i (Cs := [tW cy ta (bs, ln, pl)]) (Rs := []) (Bs := [tW cy ta (bs, ln, pl)]) (Cs' := fun u_ : Unit => [tW cy ta (bs, ln, pl)]) (Fs := fun u_ : Unit => [tW cy ta (bs, ln, pl)]) hP hD hS hA [0] [] [0] rfl rfl (by decide) (by decide) (fun _ => rfl) (va_runV (As := [.int (nI c9)]) (rest := []) ⟨hx, hb, hml, hown, hts⟩ (c_X1_isAt l D cy ta bs ln pl c9 (by first | assumption | omega | decide) (by first | assumption | omega | decide) H.size) (cwV 1 hts gX1_skip_X1_isAt rfl rfl rfl (by decide +kernel) ⟨Nat.le_of_ble_eq_true rfl, Nat.le_of_ble_eq_true rfl⟩) (kPre_V (ci := 1) hK hN hP hD [0] (by decide) rfl 0 rfl rfl) rfl rfl hl.1 rfl (lv_room (Nat.le_of_ble_eq_true rfl)) dX1_skip_2 ⟨Nat.le_of_ble_eq_true rfl, Nat.le_of_ble_eq_true rfl⟩) (fun r_ u_ H locs hw hP hD hS => ?_)
  have hw : r_ = if kIs bs ln pl c9 then nI 1 else nI 0 := hw
  subst hw
  refine kv_i (y := nI 0) (if_neg hk) ?_
  refine lv_if_ne (tgt := 10) hx hb dX1_skip_5 (by decide) (fun h => absurd h (by decide)) (fun _ => ?_)
  refine lv_iconst (v := nI 0) hx hb dX1_skip_8 (by decide) ?_
  exact kr_i (post := fun r_ (u_ : Unit) => r_ = nI 0) (Bs := fun u_ : Unit => [tW cy ta (bs, ln, pl)]) hx hb hr hlocks rfl () hP hK hD hS rfl dX1_skip_9 hQ
abbrev rm_X1_readDigit_y : Room := { frames := 0, cells := 0, slots := 0, locals := 0 }
set_option maxHeartbeats 1000000 in
set_option maxRecDepth 100000 in
/-- readDigit, one there -/
theorem c_X1_readDigit_y (l : Launch) (D : va_G) (cy : Nat → ClassId) (ta : Nat → Nat) (bs : Nat → Int32) (ln : Nat) (pl : Nat) (le : Nat) (hby : kBy bs) (hln : ln ≤ 100) (hpl : pl ≤ 145) (hle : le < 2) (hk : kDig bs ln pl le) (sz : Nat) : Met l yX1_readDigit wsX1_readDigit rm_X1_readDigit_y (va_Pc [.ref (ta 0), .int (nI le)] (kPre D (kT cy) [tW cy ta (bs, ln, pl)] sz)) (va_Qi (fun r_ (u_ : Unit) => r_ = nI (kb9 bs pl - 48)) (kFr D (kT cy) [tW cy ta (bs, ln, pl)] sz (fun u_ : Unit => [tW cy ta (bs, ln, pl + 1)])) (va_A (bkF [tW cy ta (bs, ln, pl)]) sz)) 0 0 (va_A (bkF [tW cy ta (bs, ln, pl)]) sz) := by
  refine kOpen (y := yX1_readDigit) (ws := wsX1_readDigit) (cc := cX1_readDigit) (maxL := 3) (ret := (some .int)) (av := [.ref (ta 0), .int (nI le)]) (Bs := [tW cy ta (bs, ln, pl)]) (Qc := fun A => (va_Qi (fun r_ (u_ : Unit) => r_ = nI (kb9 bs pl - 48)) (fun (u_ : Unit) t9 => kEnd D (kT cy) A [tW cy ta (bs, ln, pl + 1)] t9) A)) (by decide) rfl (Nat.le_of_ble_eq_true rfl) ?_
  intro p e s m args below meth c A Q ls hQ hx hb hml hr hlocks hin hts hown hN hK hP hD hS hA hsz hAe hl
  clear hAe
  have hl : lv_has ls 3 [(0, .ref (ta 0)), (1, .int (nI le))] := hl
  suffices K9 : ∀ (H : Heap) (locs : List Loc), va_P D vwCl (bkF [tW cy ta (bs, ln, pl)]) H → va_S A s.heap H locs → W p l e (headSpec wsX1_readDigit rm_X1_readDigit_y).room s m args below meth c H locs 0 0 Q (F0 m 0 ls []) from K9 _ _ hP hS
  clear hP hS
  intro H locs hP hS
  obtain ⟨hk1, hk2, hk3⟩ := hk
  refine lv_aload_n hx hb dX1_readDigit_0 rfl (lv_at hl 0 rfl) ?_
  refine va_get (D := D) (ci := 1) (v := .int (nI pl)) (C := RX1) (T := TX1) (N := 3) hx hb hts (by decide +kernel) hown hK hP 0 rfl rfl 2 (by decide) (hts (.fieldLink RX1 24 "DanceHall$GuestList" "at" "I") (by decide +kernel)) (fun _ h9 => h9) rfl dX1_readDigit_1 ?_
  refine lv_aload_n hx hb dX1_readDigit_4 rfl (lv_at hl 0 rfl) ?_
  refine va_get (D := D) (ci := 1) (v := .int (nI ln)) (C := RX1) (T := TX1) (N := 3) hx hb hts (by decide +kernel) hown hK hP 0 rfl rfl 1 (by decide) (hts (.fieldLink RX1 15 "DanceHall$GuestList" "length" "I") (by decide +kernel)) (fun _ h9 => h9) rfl dX1_readDigit_5 ?_
  refine lv_icmp_ge (tgt := 26) hx hb dX1_readDigit_8 (by decide) (fun c_8 => False.elim ?_) (fun c_8 => ?_)
  · skip
    have c_8 : ln ≤ pl := (nI_leI (a := ln) (b := pl) (by omega) (by omega)).mp c_8
    exact hk1 c_8
  · skip
    have c_8 : ¬ (ln ≤ pl) := fun h => c_8 ((nI_leI (a := ln) (b := pl) (by omega) (by omega)).mpr h)
    refine lv_aload_n hx hb dX1_readDigit_11 rfl (lv_at hl 0 rfl) ?_
    refine va_get (D := D) (ci := 1) (v := .ref (ta 1)) (C := RX1) (T := TX1) (N := 3) hx hb hts (by decide +kernel) hown hK hP 0 rfl rfl 0 (by decide) (hts (.fieldLink RX1 9 "DanceHall$GuestList" "bytes" "[B") (by decide +kernel)) (fun _ h9 => h9) rfl dX1_readDigit_12 ?_
    refine lv_aload_n hx hb dX1_readDigit_15 rfl (lv_at hl 0 rfl) ?_
    refine va_get (D := D) (ci := 1) (v := .int (nI pl)) (C := RX1) (T := TX1) (N := 3) hx hb hts (by decide +kernel) hown hK hP 0 rfl rfl 2 (by decide) (hts (.fieldLink RX1 24 "DanceHall$GuestList" "at" "I") (by decide +kernel)) (fun _ h9 => h9) rfl dX1_readDigit_16 ?_
    refine va_bald hx hb hK hP 1 2 rfl rfl (vp_in_nI (n := pl) (N := 100) (by omega) (by omega)) dX1_readDigit_19 ?_
    refine kv_i (y := nI (kb9 bs pl)) (by rw [nI_clamp (n := pl) (by omega)]; exact (hby pl (by omega)).1) ?_
    refine lv_bipush (v := nI 48) hx hb dX1_readDigit_20 (by decide) ?_
    refine lv_isub hx hb dX1_readDigit_22 ?_
    refine kv_i (y := nI ((kb9 bs pl) - 48)) (pk_sub (a := kb9 bs pl) (b := 48) (by omega)) ?_
    refine lv_goto (tgt := 27) hx hb dX1_readDigit_23 (by decide) ?_
    refine lv_istore_n (lv' := [(2, .int (nI ((kb9 bs pl) - 48))), (0, .ref (ta 0)), (1, .int (nI le))]) hx hb dX1_readDigit_27 rfl hl (by decide) rfl (fun ls hl => ?_)
    refine lv_iload_n hx hb dX1_readDigit_28 rfl (lv_at hl 0 rfl) ?_
    refine lv_iload_n hx hb dX1_readDigit_29 rfl (lv_at hl 2 rfl) ?_
    refine lv_icmp_lt (tgt := 39) hx hb dX1_readDigit_30 (by decide) (fun c_30 => False.elim ?_) (fun c_30 => ?_)
    · skip
      have c_30 : ((kb9 bs pl) - 48) < le := (nI_ltI (a := (kb9 bs pl) - 48) (b := le) (by omega) (by omega)).mp c_30
      omega
    · skip
      have c_30 : ¬ (((kb9 bs pl) - 48) < le) := fun h => c_30 ((nI_ltI (a := (kb9 bs pl) - 48) (b := le) (by omega) (by omega)).mpr h)
      refine lv_iload_n hx hb dX1_readDigit_33 rfl (lv_at hl 0 rfl) ?_
      refine lv_bipush (v := nI 9) hx hb dX1_readDigit_34 (by decide) ?_
      refine lv_icmp_le (tgt := 41) hx hb dX1_readDigit_36 (by decide) (fun c_36 => ?_) (fun c_36 => False.elim ?_)
      · skip
        have c_36 : ((kb9 bs pl) - 48) ≤ 9 := (nI_leI (a := (kb9 bs pl) - 48) (b := 9) (by omega) (by omega)).mp c_36
        refine lv_aload_n hx hb dX1_readDigit_41 rfl (lv_at hl 1 rfl) ?_
        refine lv_dup hx hb dX1_readDigit_42 rfl ?_
        refine va_get (D := D) (ci := 1) (v := .int (nI pl)) (C := RX1) (T := TX1) (N := 3) hx hb hts (by decide +kernel) hown hK hP 0 rfl rfl 2 (by decide) (hts (.fieldLink RX1 24 "DanceHall$GuestList" "at" "I") (by decide +kernel)) (fun _ h9 => h9) rfl dX1_readDigit_43 ?_
        refine lv_iconst (v := nI 1) hx hb dX1_readDigit_46 (by decide) ?_
        refine lv_iadd hx hb dX1_readDigit_47 ?_
        refine kv_i (y := nI (pl + 1)) (nI_add pl 1) ?_
        refine va_put (D := D) (ci := 1) (v := .int (nI (pl + 1))) (ty := .int) (C := RX1) (T := TX1) (N := 3) hx hb hts (by decide +kernel) tyX1 tyX1_ok nmX1 hown hK hP hD hS 0 rfl rfl 2 (by decide) (hts (.fieldLink RX1 24 "DanceHall$GuestList" "at" "I") (by decide +kernel)) (fun _ h9 => h9) rfl (by decide +kernel) rfl rfl (Nat.le_of_ble_eq_true rfl) dX1_readDigit_48 (fun H locs hP hD hS => ?_)
        have hP : va_P D vwCl (bkF [tW cy ta (bs, ln, pl + 1)]) H := hP
        have hD : va_D A (bkF [tW cy ta (bs, ln, pl + 1)]) := hD
        refine lv_iload_n hx hb dX1_readDigit_51 rfl (lv_at hl 0 rfl) ?_
        exact kr_i (post := fun r_ (u_ : Unit) => r_ = nI (kb9 bs pl - 48)) (Bs := fun u_ : Unit => [tW cy ta (bs, ln, pl + 1)]) hx hb hr hlocks rfl () hP hK hD hS rfl dX1_readDigit_52 hQ
      · skip
        have c_36 : ¬ (((kb9 bs pl) - 48) ≤ 9) := fun h => c_36 ((nI_leI (a := (kb9 bs pl) - 48) (b := 9) (by omega) (by omega)).mpr h)
        omega
abbrev rm_X1_readDigit_n : Room := { frames := 0, cells := 0, slots := 0, locals := 0 }
set_option maxHeartbeats 1000000 in
set_option maxRecDepth 100000 in
/-- readDigit, none there -/
theorem c_X1_readDigit_n (l : Launch) (D : va_G) (cy : Nat → ClassId) (ta : Nat → Nat) (bs : Nat → Int32) (ln : Nat) (pl : Nat) (le : Nat) (hby : kBy bs) (hln : ln ≤ 100) (hpl : pl ≤ 145) (hle : le < 2) (hk : ¬ kDig bs ln pl le) (sz : Nat) : Met l yX1_readDigit wsX1_readDigit rm_X1_readDigit_n (va_Pc [.ref (ta 0), .int (nI le)] (kPre D (kT cy) [tW cy ta (bs, ln, pl)] sz)) (va_Qi (fun r_ (u_ : Unit) => r_ = (-1 : Int32)) (kFr D (kT cy) [tW cy ta (bs, ln, pl)] sz (fun u_ : Unit => [tW cy ta (bs, ln, pl)])) (va_A (bkF [tW cy ta (bs, ln, pl)]) sz)) 0 0 (va_A (bkF [tW cy ta (bs, ln, pl)]) sz) := by
  refine kOpen (y := yX1_readDigit) (ws := wsX1_readDigit) (cc := cX1_readDigit) (maxL := 3) (ret := (some .int)) (av := [.ref (ta 0), .int (nI le)]) (Bs := [tW cy ta (bs, ln, pl)]) (Qc := fun A => (va_Qi (fun r_ (u_ : Unit) => r_ = (-1 : Int32)) (fun (u_ : Unit) t9 => kEnd D (kT cy) A [tW cy ta (bs, ln, pl)] t9) A)) (by decide) rfl (Nat.le_of_ble_eq_true rfl) ?_
  intro p e s m args below meth c A Q ls hQ hx hb hml hr hlocks hin hts hown hN hK hP hD hS hA hsz hAe hl
  clear hAe
  have hl : lv_has ls 3 [(0, .ref (ta 0)), (1, .int (nI le))] := hl
  suffices K9 : ∀ (H : Heap) (locs : List Loc), va_P D vwCl (bkF [tW cy ta (bs, ln, pl)]) H → va_S A s.heap H locs → W p l e (headSpec wsX1_readDigit rm_X1_readDigit_n).room s m args below meth c H locs 0 0 Q (F0 m 0 ls []) from K9 _ _ hP hS
  clear hP hS
  intro H locs hP hS
  refine lv_aload_n hx hb dX1_readDigit_0 rfl (lv_at hl 0 rfl) ?_
  refine va_get (D := D) (ci := 1) (v := .int (nI pl)) (C := RX1) (T := TX1) (N := 3) hx hb hts (by decide +kernel) hown hK hP 0 rfl rfl 2 (by decide) (hts (.fieldLink RX1 24 "DanceHall$GuestList" "at" "I") (by decide +kernel)) (fun _ h9 => h9) rfl dX1_readDigit_1 ?_
  refine lv_aload_n hx hb dX1_readDigit_4 rfl (lv_at hl 0 rfl) ?_
  refine va_get (D := D) (ci := 1) (v := .int (nI ln)) (C := RX1) (T := TX1) (N := 3) hx hb hts (by decide +kernel) hown hK hP 0 rfl rfl 1 (by decide) (hts (.fieldLink RX1 15 "DanceHall$GuestList" "length" "I") (by decide +kernel)) (fun _ h9 => h9) rfl dX1_readDigit_5 ?_
  refine lv_icmp_ge (tgt := 26) hx hb dX1_readDigit_8 (by decide) (fun c_8 => ?_) (fun c_8 => ?_)
  · skip
    have c_8 : ln ≤ pl := (nI_leI (a := ln) (b := pl) (by omega) (by omega)).mp c_8
    refine lv_iconst (v := (-1 : Int32)) hx hb dX1_readDigit_26 (by decide) ?_
    refine lv_istore_n (lv' := [(2, .int (-1)), (0, .ref (ta 0)), (1, .int (nI le))]) hx hb dX1_readDigit_27 rfl hl (by decide) rfl (fun ls hl => ?_)
    refine lv_iload_n hx hb dX1_readDigit_28 rfl (lv_at hl 0 rfl) ?_
    refine lv_iload_n hx hb dX1_readDigit_29 rfl (lv_at hl 2 rfl) ?_
    refine lv_icmp_lt (tgt := 39) hx hb dX1_readDigit_30 (by decide) (fun c_30 => ?_) (fun c_30 => False.elim ?_)
    · skip
      refine lv_iconst (v := (-1 : Int32)) hx hb dX1_readDigit_39 (by decide) ?_
      exact kr_i (post := fun r_ (u_ : Unit) => r_ = (-1 : Int32)) (Bs := fun u_ : Unit => [tW cy ta (bs, ln, pl)]) hx hb hr hlocks rfl () hP hK hD hS rfl dX1_readDigit_40 hQ
    · skip
      exact c_30 (kdm1 hle)
  · skip
    have c_8 : ¬ (ln ≤ pl) := fun h => c_8 ((nI_leI (a := ln) (b := pl) (by omega) (by omega)).mpr h)
    refine lv_aload_n hx hb dX1_readDigit_11 rfl (lv_at hl 0 rfl) ?_
    refine va_get (D := D) (ci := 1) (v := .ref (ta 1)) (C := RX1) (T := TX1) (N := 3) hx hb hts (by decide +kernel) hown hK hP 0 rfl rfl 0 (by decide) (hts (.fieldLink RX1 9 "DanceHall$GuestList" "bytes" "[B") (by decide +kernel)) (fun _ h9 => h9) rfl dX1_readDigit_12 ?_
    refine lv_aload_n hx hb dX1_readDigit_15 rfl (lv_at hl 0 rfl) ?_
    refine va_get (D := D) (ci := 1) (v := .int (nI pl)) (C := RX1) (T := TX1) (N := 3) hx hb hts (by decide +kernel) hown hK hP 0 rfl rfl 2 (by decide) (hts (.fieldLink RX1 24 "DanceHall$GuestList" "at" "I") (by decide +kernel)) (fun _ h9 => h9) rfl dX1_readDigit_16 ?_
    refine va_bald hx hb hK hP 1 2 rfl rfl (vp_in_nI (n := pl) (N := 100) (by omega) (by omega)) dX1_readDigit_19 ?_
    refine kv_i (y := nI (kb9 bs pl)) (by rw [nI_clamp (n := pl) (by omega)]; exact (hby pl (by omega)).1) ?_
    refine lv_bipush (v := nI 48) hx hb dX1_readDigit_20 (by decide) ?_
    refine lv_isub hx hb dX1_readDigit_22 ?_
    refine lv_goto (tgt := 27) hx hb dX1_readDigit_23 (by decide) ?_
    refine lv_istore_n (lv' := [(2, .int ((nI (kb9 bs pl)) - (nI 48))), (0, .ref (ta 0)), (1, .int (nI le))]) hx hb dX1_readDigit_27 rfl hl (by decide) rfl (fun ls hl => ?_)
    refine lv_iload_n hx hb dX1_readDigit_28 rfl (lv_at hl 0 rfl) ?_
    refine lv_iload_n hx hb dX1_readDigit_29 rfl (lv_at hl 2 rfl) ?_
    refine lv_icmp_lt (tgt := 39) hx hb dX1_readDigit_30 (by decide) (fun c_30 => ?_) (fun c_30 => ?_)
    · skip
      refine lv_iconst (v := (-1 : Int32)) hx hb dX1_readDigit_39 (by decide) ?_
      exact kr_i (post := fun r_ (u_ : Unit) => r_ = (-1 : Int32)) (Bs := fun u_ : Unit => [tW cy ta (bs, ln, pl)]) hx hb hr hlocks rfl () hP hK hD hS rfl dX1_readDigit_40 hQ
    · skip
      refine lv_iload_n hx hb dX1_readDigit_33 rfl (lv_at hl 0 rfl) ?_
      refine lv_bipush (v := nI 9) hx hb dX1_readDigit_34 (by decide) ?_
      refine lv_icmp_le (tgt := 41) hx hb dX1_readDigit_36 (by decide) (fun c_36 => False.elim ?_) (fun c_36 => ?_)
      · skip
        exact hk ⟨c_8, by have h8 : ¬ (bs pl).toNatClampNeg < 48 + le := fun h => c_30 ((kdig (hby pl (by omega)).2 hle).1.mpr h); unfold kb9; omega, by unfold kb9; exact (kdig (hby pl (by omega)).2 hle).2.mp c_36⟩
      · skip
        refine lv_iconst (v := (-1 : Int32)) hx hb dX1_readDigit_39 (by decide) ?_
        exact kr_i (post := fun r_ (u_ : Unit) => r_ = (-1 : Int32)) (Bs := fun u_ : Unit => [tW cy ta (bs, ln, pl)]) hx hb hr hlocks rfl () hP hK hD hS rfl dX1_readDigit_40 hQ
abbrev rm_X1_readTokens_n : Room := { frames := 1, cells := 0, slots := 0, locals := 22 }
set_option maxHeartbeats 1000000 in
set_option maxRecDepth 100000 in
/-- readTokens, none -/
theorem c_X1_readTokens_n (l : Launch) (D : va_G) (cy : Nat → ClassId) (ta : Nat → Nat) (bs : Nat → Int32) (ln : Nat) (pl : Nat) (hby : kBy bs) (hln : ln ≤ 100) (hpl : pl ≤ 140) (hk : ¬ kDig bs ln pl 0) (sz : Nat) : Met l yX1_readTokens wsX1_readTokens rm_X1_readTokens_n (va_Pc [.ref (ta 0)] (kPre D (kT cy) [tW cy ta (bs, ln, pl)] sz)) (va_Qi (fun r_ (u_ : Unit) => r_ = (-1 : Int32)) (kFr D (kT cy) [tW cy ta (bs, ln, pl)] sz (fun u_ : Unit => [tW cy ta (bs, ln, pl)])) (va_A (bkF [tW cy ta (bs, ln, pl)]) sz)) 0 0 (va_A (bkF [tW cy ta (bs, ln, pl)]) sz) := by
  refine kOpen (y := yX1_readTokens) (ws := wsX1_readTokens) (cc := cX1_readTokens) (maxL := 3) (ret := (some .int)) (av := [.ref (ta 0)]) (Bs := [tW cy ta (bs, ln, pl)]) (Qc := fun A => (va_Qi (fun r_ (u_ : Unit) => r_ = (-1 : Int32)) (fun (u_ : Unit) t9 => kEnd D (kT cy) A [tW cy ta (bs, ln, pl)] t9) A)) (by decide) rfl (Nat.le_of_ble_eq_true rfl) ?_
  intro p e s m args below meth c A Q ls hQ hx hb hml hr hlocks hin hts hown hN hK hP hD hS hA hsz hAe hl
  clear hAe
  have hl : lv_has ls 3 [(0, .ref (ta 0))] := hl
  suffices K9 : ∀ (H : Heap) (locs : List Loc), va_P D vwCl (bkF [tW cy ta (bs, ln, pl)]) H → va_S A s.heap H locs → W p l e (headSpec wsX1_readTokens rm_X1_readTokens_n).room s m args below meth c H locs 0 0 Q (F0 m 0 ls []) from K9 _ _ hP hS
  clear hP hS
  intro H locs hP hS
  refine lv_aload_n hx hb dX1_readTokens_0 rfl (lv_at hl 0 rfl) ?_
  refine lv_iconst (v := nI 0) hx hb dX1_readTokens_1 (by decide) ?_
  refine kc_i (Cs := [tW cy ta (bs, ln, pl)]) (Rs := []) (Bs := [tW cy ta (bs, ln, pl)]) (Cs' := fun u_ : Unit => [tW cy ta (bs, ln, pl)]) (Fs := fun u_ : Unit => [tW cy ta (bs, ln, pl)]) hP hD hS hA [0] [] [0] rfl rfl (by decide) (by decide) (fun _ => rfl) (va_runV (As := [.int (nI 0)]) (rest := []) ⟨hx, hb, hml, hown, hts⟩ (c_X1_readDigit_n l D cy ta bs ln pl 0 hby (by first | assumption | omega | decide) (by first | assumption | omega | decide) (by first | assumption | omega | decide) hk H.size) (cwV 1 hts gX1_readTokens_X1_readDigit rfl rfl rfl (by decide +kernel) ⟨Nat.le_of_ble_eq_true rfl, Nat.le_of_ble_eq_true rfl⟩) (kPre_V (ci := 1) hK hN hP hD [0] (by decide) rfl 0 rfl rfl) rfl rfl hl.1 rfl (lv_room (Nat.le_of_ble_eq_true rfl)) dX1_readTokens_2 ⟨Nat.le_of_ble_eq_true rfl, Nat.le_of_ble_eq_true rfl⟩) (fun r_ u_ H locs hw hP hD hS => ?_)
  have hw : r_ = (-1 : Int32) := hw
  subst hw
  refine lv_istore_n (lv' := [(1, .int (-1 : Int32)), (0, .ref (ta 0))]) hx hb dX1_readTokens_5 rfl hl (by decide) rfl (fun ls hl => ?_)
  refine lv_iload_n hx hb dX1_readTokens_6 rfl (lv_at hl 0 rfl) ?_
  refine lv_iconst (v := (-1 : Int32)) hx hb dX1_readTokens_7 (by decide) ?_
  refine lv_icmp_ne (tgt := 13) hx hb dX1_readTokens_8 (by decide) (fun h => absurd h (by decide)) (fun _ => ?_)
  refine lv_iconst (v := (-1 : Int32)) hx hb dX1_readTokens_11 (by decide) ?_
  exact kr_i (post := fun r_ (u_ : Unit) => r_ = (-1 : Int32)) (Bs := fun u_ : Unit => [tW cy ta (bs, ln, pl)]) hx hb hr hlocks rfl () hP hK hD hS rfl dX1_readTokens_12 hQ
abbrev rm_X1_readTokens_1 : Room := { frames := 1, cells := 0, slots := 0, locals := 22 }
set_option maxHeartbeats 1000000 in
set_option maxRecDepth 100000 in
/-- readTokens, one digit -/
theorem c_X1_readTokens_1 (l : Launch) (D : va_G) (cy : Nat → ClassId) (ta : Nat → Nat) (bs : Nat → Int32) (ln : Nat) (pl : Nat) (hby : kBy bs) (hln : ln ≤ 100) (hpl : pl ≤ 140) (hk : kDig bs ln pl 0) (hk2 : ¬ kDig bs ln (pl + 1) 0) (sz : Nat) : Met l yX1_readTokens wsX1_readTokens rm_X1_readTokens_1 (va_Pc [.ref (ta 0)] (kPre D (kT cy) [tW cy ta (bs, ln, pl)] sz)) (va_Qi (fun r_ (u_ : Unit) => r_ = nI (kb9 bs pl - 48)) (kFr D (kT cy) [tW cy ta (bs, ln, pl)] sz (fun u_ : Unit => [tW cy ta (bs, ln, pl + 1)])) (va_A (bkF [tW cy ta (bs, ln, pl)]) sz)) 0 0 (va_A (bkF [tW cy ta (bs, ln, pl)]) sz) := by
  refine kOpen (y := yX1_readTokens) (ws := wsX1_readTokens) (cc := cX1_readTokens) (maxL := 3) (ret := (some .int)) (av := [.ref (ta 0)]) (Bs := [tW cy ta (bs, ln, pl)]) (Qc := fun A => (va_Qi (fun r_ (u_ : Unit) => r_ = nI (kb9 bs pl - 48)) (fun (u_ : Unit) t9 => kEnd D (kT cy) A [tW cy ta (bs, ln, pl + 1)] t9) A)) (by decide) rfl (Nat.le_of_ble_eq_true rfl) ?_
  intro p e s m args below meth c A Q ls hQ hx hb hml hr hlocks hin hts hown hN hK hP hD hS hA hsz hAe hl
  clear hAe
  have hl : lv_has ls 3 [(0, .ref (ta 0))] := hl
  suffices K9 : ∀ (H : Heap) (locs : List Loc), va_P D vwCl (bkF [tW cy ta (bs, ln, pl)]) H → va_S A s.heap H locs → W p l e (headSpec wsX1_readTokens rm_X1_readTokens_1).room s m args below meth c H locs 0 0 Q (F0 m 0 ls []) from K9 _ _ hP hS
  clear hP hS
  intro H locs hP hS
  refine lv_aload_n hx hb dX1_readTokens_0 rfl (lv_at hl 0 rfl) ?_
  refine lv_iconst (v := nI 0) hx hb dX1_readTokens_1 (by decide) ?_
  refine kc_i (Cs := [tW cy ta (bs, ln, pl)]) (Rs := []) (Bs := [tW cy ta (bs, ln, pl)]) (Cs' := fun u_ : Unit => [tW cy ta (bs, ln, pl + 1)]) (Fs := fun u_ : Unit => [tW cy ta (bs, ln, pl + 1)]) hP hD hS hA [0] [] [0] rfl rfl (by decide) (by decide) (fun _ => rfl) (va_runV (As := [.int (nI 0)]) (rest := []) ⟨hx, hb, hml, hown, hts⟩ (c_X1_readDigit_y l D cy ta bs ln pl 0 hby (by first | assumption | omega | decide) (by first | assumption | omega | decide) (by first | assumption | omega | decide) hk H.size) (cwV 1 hts gX1_readTokens_X1_readDigit rfl rfl rfl (by decide +kernel) ⟨Nat.le_of_ble_eq_true rfl, Nat.le_of_ble_eq_true rfl⟩) (kPre_V (ci := 1) hK hN hP hD [0] (by decide) rfl 0 rfl rfl) rfl rfl hl.1 rfl (lv_room (Nat.le_of_ble_eq_true rfl)) dX1_readTokens_2 ⟨Nat.le_of_ble_eq_true rfl, Nat.le_of_ble_eq_true rfl⟩) (fun r_ u_ H locs hw hP hD hS => ?_)
  have hw : r_ = nI (kb9 bs pl - 48) := hw
  subst hw
  refine lv_istore_n (lv' := [(1, .int (nI (kb9 bs pl - 48))), (0, .ref (ta 0))]) hx hb dX1_readTokens_5 rfl hl (by decide) rfl (fun ls hl => ?_)
  refine lv_iload_n hx hb dX1_readTokens_6 rfl (lv_at hl 0 rfl) ?_
  refine lv_iconst (v := (-1 : Int32)) hx hb dX1_readTokens_7 (by decide) ?_
  refine lv_icmp_ne (tgt := 13) hx hb dX1_readTokens_8 (by decide) (fun c_8 => ?_) (fun c_8 => False.elim ?_)
  · skip
    refine lv_aload_n hx hb dX1_readTokens_13 rfl (lv_at hl 1 rfl) ?_
    refine lv_iconst (v := nI 0) hx hb dX1_readTokens_14 (by decide) ?_
    refine kc_i (Cs := [tW cy ta (bs, ln, pl + 1)]) (Rs := []) (Bs := [tW cy ta (bs, ln, pl + 1)]) (Cs' := fun u_ : Unit => [tW cy ta (bs, ln, pl + 1)]) (Fs := fun u_ : Unit => [tW cy ta (bs, ln, pl + 1)]) hP hD hS hA [0] [] [0] rfl rfl (by decide) (by decide) (fun _ => rfl) (va_runV (As := [.int (nI 0)]) (rest := []) ⟨hx, hb, hml, hown, hts⟩ (c_X1_readDigit_n l D cy ta bs ln (pl + 1) 0 hby (by first | assumption | omega | decide) (by first | assumption | omega | decide) (by first | assumption | omega | decide) hk2 H.size) (cwV 1 hts gX1_readTokens_X1_readDigit rfl rfl rfl (by decide +kernel) ⟨Nat.le_of_ble_eq_true rfl, Nat.le_of_ble_eq_true rfl⟩) (kPre_V (ci := 1) hK hN hP hD [0] (by decide) rfl 0 rfl rfl) rfl rfl hl.1 rfl (lv_room (Nat.le_of_ble_eq_true rfl)) dX1_readTokens_15 ⟨Nat.le_of_ble_eq_true rfl, Nat.le_of_ble_eq_true rfl⟩) (fun r_ u_ H locs hw hP hD hS => ?_)
    have hw : r_ = (-1 : Int32) := hw
    subst hw
    refine lv_istore_n (lv' := [(2, .int (-1 : Int32)), (1, .int (nI (kb9 bs pl - 48))), (0, .ref (ta 0))]) hx hb dX1_readTokens_18 rfl hl (by decide) rfl (fun ls hl => ?_)
    refine lv_iload_n hx hb dX1_readTokens_19 rfl (lv_at hl 0 rfl) ?_
    refine lv_iconst (v := (-1 : Int32)) hx hb dX1_readTokens_20 (by decide) ?_
    refine lv_icmp_ne (tgt := 28) hx hb dX1_readTokens_21 (by decide) (fun h => absurd h (by decide)) (fun _ => ?_)
    refine lv_iload_n hx hb dX1_readTokens_24 rfl (lv_at hl 1 rfl) ?_
    refine lv_goto (tgt := 34) hx hb dX1_readTokens_25 (by decide) ?_
    exact kr_i (post := fun r_ (u_ : Unit) => r_ = nI (kb9 bs pl - 48)) (Bs := fun u_ : Unit => [tW cy ta (bs, ln, pl + 1)]) hx hb hr hlocks rfl () hP hK hD hS rfl dX1_readTokens_34 hQ
  · skip
    exact nI_ne1 (by have := hk.2.2; omega) c_8
abbrev rm_X1_readTokens_2 : Room := { frames := 1, cells := 0, slots := 0, locals := 22 }
set_option maxHeartbeats 1000000 in
set_option maxRecDepth 100000 in
/-- readTokens, two digits -/
theorem c_X1_readTokens_2 (l : Launch) (D : va_G) (cy : Nat → ClassId) (ta : Nat → Nat) (bs : Nat → Int32) (ln : Nat) (pl : Nat) (hby : kBy bs) (hln : ln ≤ 100) (hpl : pl ≤ 140) (hk : kDig bs ln pl 0) (hk2 : kDig bs ln (pl + 1) 0) (sz : Nat) : Met l yX1_readTokens wsX1_readTokens rm_X1_readTokens_2 (va_Pc [.ref (ta 0)] (kPre D (kT cy) [tW cy ta (bs, ln, pl)] sz)) (va_Qi (fun r_ (u_ : Unit) => r_ = nI (10 * (kb9 bs pl - 48) + (kb9 bs (pl + 1) - 48))) (kFr D (kT cy) [tW cy ta (bs, ln, pl)] sz (fun u_ : Unit => [tW cy ta (bs, ln, pl + 1 + 1)])) (va_A (bkF [tW cy ta (bs, ln, pl)]) sz)) 0 0 (va_A (bkF [tW cy ta (bs, ln, pl)]) sz) := by
  refine kOpen (y := yX1_readTokens) (ws := wsX1_readTokens) (cc := cX1_readTokens) (maxL := 3) (ret := (some .int)) (av := [.ref (ta 0)]) (Bs := [tW cy ta (bs, ln, pl)]) (Qc := fun A => (va_Qi (fun r_ (u_ : Unit) => r_ = nI (10 * (kb9 bs pl - 48) + (kb9 bs (pl + 1) - 48))) (fun (u_ : Unit) t9 => kEnd D (kT cy) A [tW cy ta (bs, ln, pl + 1 + 1)] t9) A)) (by decide) rfl (Nat.le_of_ble_eq_true rfl) ?_
  intro p e s m args below meth c A Q ls hQ hx hb hml hr hlocks hin hts hown hN hK hP hD hS hA hsz hAe hl
  clear hAe
  have hl : lv_has ls 3 [(0, .ref (ta 0))] := hl
  suffices K9 : ∀ (H : Heap) (locs : List Loc), va_P D vwCl (bkF [tW cy ta (bs, ln, pl)]) H → va_S A s.heap H locs → W p l e (headSpec wsX1_readTokens rm_X1_readTokens_2).room s m args below meth c H locs 0 0 Q (F0 m 0 ls []) from K9 _ _ hP hS
  clear hP hS
  intro H locs hP hS
  refine lv_aload_n hx hb dX1_readTokens_0 rfl (lv_at hl 0 rfl) ?_
  refine lv_iconst (v := nI 0) hx hb dX1_readTokens_1 (by decide) ?_
  refine kc_i (Cs := [tW cy ta (bs, ln, pl)]) (Rs := []) (Bs := [tW cy ta (bs, ln, pl)]) (Cs' := fun u_ : Unit => [tW cy ta (bs, ln, pl + 1)]) (Fs := fun u_ : Unit => [tW cy ta (bs, ln, pl + 1)]) hP hD hS hA [0] [] [0] rfl rfl (by decide) (by decide) (fun _ => rfl) (va_runV (As := [.int (nI 0)]) (rest := []) ⟨hx, hb, hml, hown, hts⟩ (c_X1_readDigit_y l D cy ta bs ln pl 0 hby (by first | assumption | omega | decide) (by first | assumption | omega | decide) (by first | assumption | omega | decide) hk H.size) (cwV 1 hts gX1_readTokens_X1_readDigit rfl rfl rfl (by decide +kernel) ⟨Nat.le_of_ble_eq_true rfl, Nat.le_of_ble_eq_true rfl⟩) (kPre_V (ci := 1) hK hN hP hD [0] (by decide) rfl 0 rfl rfl) rfl rfl hl.1 rfl (lv_room (Nat.le_of_ble_eq_true rfl)) dX1_readTokens_2 ⟨Nat.le_of_ble_eq_true rfl, Nat.le_of_ble_eq_true rfl⟩) (fun r_ u_ H locs hw hP hD hS => ?_)
  have hw : r_ = nI (kb9 bs pl - 48) := hw
  subst hw
  refine lv_istore_n (lv' := [(1, .int (nI (kb9 bs pl - 48))), (0, .ref (ta 0))]) hx hb dX1_readTokens_5 rfl hl (by decide) rfl (fun ls hl => ?_)
  refine lv_iload_n hx hb dX1_readTokens_6 rfl (lv_at hl 0 rfl) ?_
  refine lv_iconst (v := (-1 : Int32)) hx hb dX1_readTokens_7 (by decide) ?_
  refine lv_icmp_ne (tgt := 13) hx hb dX1_readTokens_8 (by decide) (fun c_8 => ?_) (fun c_8 => False.elim ?_)
  · skip
    refine lv_aload_n hx hb dX1_readTokens_13 rfl (lv_at hl 1 rfl) ?_
    refine lv_iconst (v := nI 0) hx hb dX1_readTokens_14 (by decide) ?_
    refine kc_i (Cs := [tW cy ta (bs, ln, pl + 1)]) (Rs := []) (Bs := [tW cy ta (bs, ln, pl + 1)]) (Cs' := fun u_ : Unit => [tW cy ta (bs, ln, pl + 1 + 1)]) (Fs := fun u_ : Unit => [tW cy ta (bs, ln, pl + 1 + 1)]) hP hD hS hA [0] [] [0] rfl rfl (by decide) (by decide) (fun _ => rfl) (va_runV (As := [.int (nI 0)]) (rest := []) ⟨hx, hb, hml, hown, hts⟩ (c_X1_readDigit_y l D cy ta bs ln (pl + 1) 0 hby (by first | assumption | omega | decide) (by first | assumption | omega | decide) (by first | assumption | omega | decide) hk2 H.size) (cwV 1 hts gX1_readTokens_X1_readDigit rfl rfl rfl (by decide +kernel) ⟨Nat.le_of_ble_eq_true rfl, Nat.le_of_ble_eq_true rfl⟩) (kPre_V (ci := 1) hK hN hP hD [0] (by decide) rfl 0 rfl rfl) rfl rfl hl.1 rfl (lv_room (Nat.le_of_ble_eq_true rfl)) dX1_readTokens_15 ⟨Nat.le_of_ble_eq_true rfl, Nat.le_of_ble_eq_true rfl⟩) (fun r_ u_ H locs hw hP hD hS => ?_)
    have hw : r_ = nI (kb9 bs (pl + 1) - 48) := hw
    subst hw
    refine lv_istore_n (lv' := [(2, .int (nI (kb9 bs (pl + 1) - 48))), (1, .int (nI (kb9 bs pl - 48))), (0, .ref (ta 0))]) hx hb dX1_readTokens_18 rfl hl (by decide) rfl (fun ls hl => ?_)
    refine lv_iload_n hx hb dX1_readTokens_19 rfl (lv_at hl 0 rfl) ?_
    refine lv_iconst (v := (-1 : Int32)) hx hb dX1_readTokens_20 (by decide) ?_
    refine lv_icmp_ne (tgt := 28) hx hb dX1_readTokens_21 (by decide) (fun c_21 => ?_) (fun c_21 => False.elim ?_)
    · skip
      refine lv_bipush (v := nI 10) hx hb dX1_readTokens_28 (by decide) ?_
      refine lv_iload_n hx hb dX1_readTokens_30 rfl (lv_at hl 1 rfl) ?_
      refine lv_imul hx hb dX1_readTokens_31 ?_
      refine kv_i (y := nI (10 * (kb9 bs pl - 48))) (pk_mul 10 (kb9 bs pl - 48)) ?_
      refine lv_iload_n hx hb dX1_readTokens_32 rfl (lv_at hl 0 rfl) ?_
      refine lv_iadd hx hb dX1_readTokens_33 ?_
      refine kv_i (y := nI ((10 * (kb9 bs pl - 48)) + (kb9 bs (pl + 1) - 48))) (nI_add (10 * (kb9 bs pl - 48)) (kb9 bs (pl + 1) - 48)) ?_
      exact kr_i (post := fun r_ (u_ : Unit) => r_ = nI (10 * (kb9 bs pl - 48) + (kb9 bs (pl + 1) - 48))) (Bs := fun u_ : Unit => [tW cy ta (bs, ln, pl + 1 + 1)]) hx hb hr hlocks rfl () hP hK hD hS rfl dX1_readTokens_34 hQ
    · skip
      exact nI_ne1 (by have := hk2.2.2; omega) c_21
  · skip
    exact nI_ne1 (by have := hk.2.2; omega) c_8
abbrev rm_X1_readGuest : Room := { frames := 2, cells := 0, slots := 0, locals := 44 }
set_option maxHeartbeats 1000000 in
set_option maxRecDepth 100000 in
/-- readGuest -/
theorem c_X1_readGuest (l : Launch) (D : va_G) (cy : Nat → ClassId) (ta : Nat → Nat) (bs : Nat → Int32) (ln : Nat) (pl : Nat) (a : Nat → Nat) (k : Nat) (L : rG) (b : Nat → Nat) (k2 : Nat) (F : rG) (hby : kBy bs) (hln : ln ≤ 100) (hpl : pl ≤ 100) (hnl : L.2.2.2.2.2 ≤ 8) (hnf : F.2.2.2.2.2 ≤ 8) (sz : Nat) : Met l yX1_readGuest wsX1_readGuest rm_X1_readGuest (va_Pc [.ref (ta 0), .ref (a k), .ref (b k2)] (kPre D (kT cy) [tW cy ta (bs, ln, pl), gW cy a k L, gW cy b k2 F] sz)) (va_Qi (fun r_ (u_ : Unit) => r_ = if (kRG bs ln pl L F).1 = true then nI 1 else nI 0) (kFr D (kT cy) [tW cy ta (bs, ln, pl), gW cy a k L, gW cy b k2 F] sz (fun u_ : Unit => [tW cy ta (bs, ln, (kRG bs ln pl L F).2.1), gW cy a k (kRG bs ln pl L F).2.2.1, gW cy b k2 (kRG bs ln pl L F).2.2.2])) (va_A (bkF [tW cy ta (bs, ln, pl), gW cy a k L, gW cy b k2 F]) sz)) 0 0 (va_A (bkF [tW cy ta (bs, ln, pl), gW cy a k L, gW cy b k2 F]) sz) := by
  refine kOpen (y := yX1_readGuest) (ws := wsX1_readGuest) (cc := cX1_readGuest) (maxL := 7) (ret := (some .boolean)) (av := [.ref (ta 0), .ref (a k), .ref (b k2)]) (Bs := [tW cy ta (bs, ln, pl), gW cy a k L, gW cy b k2 F]) (Qc := fun A => (va_Qi (fun r_ (u_ : Unit) => r_ = if (kRG bs ln pl L F).1 = true then nI 1 else nI 0) (fun (u_ : Unit) t9 => kEnd D (kT cy) A [tW cy ta (bs, ln, (kRG bs ln pl L F).2.1), gW cy a k (kRG bs ln pl L F).2.2.1, gW cy b k2 (kRG bs ln pl L F).2.2.2] t9) A)) (by decide) rfl (Nat.le_of_ble_eq_true rfl) ?_
  intro p e s m args below meth c A Q ls hQ hx hb hml hr hlocks hin hts hown hN hK hP hD hS hA hsz hAe hl
  clear hAe
  have hl : lv_has ls 7 [(0, .ref (ta 0)), (1, .ref (a k)), (2, .ref (b k2))] := hl
  suffices K9 : ∀ (H : Heap) (locs : List Loc), va_P D vwCl (bkF [tW cy ta (bs, ln, pl), gW cy a k L, gW cy b k2 F]) H → va_S A s.heap H locs → W p l e (headSpec wsX1_readGuest rm_X1_readGuest).room s m args below meth c H locs 0 0 Q (F0 m 0 ls []) from K9 _ _ hP hS
  clear hP hS
  intro H locs hP hS
  refine lv_aload_n hx hb dX1_readGuest_0 rfl (lv_at hl 0 rfl) ?_
  refine lv_bipush (v := nI 108) hx hb dX1_readGuest_1 (by decide) ?_
  refine kc_i (Cs := [tW cy ta (bs, ln, pl)]) (Rs := [gW cy a k L, gW cy b k2 F]) (Bs := [tW cy ta (bs, ln, pl), gW cy a k L, gW cy b k2 F]) (Cs' := fun u_ : Unit => [tW cy ta (bs, ln, pl)]) (Fs := fun u_ : Unit => [tW cy ta (bs, ln, pl), gW cy a k L, gW cy b k2 F]) hP hD hS hA [0] [1, 2] [2, 0, 1] rfl rfl (by decide) (by decide) (fun _ => rfl) (va_runV (As := [.int (nI 108)]) (rest := []) ⟨hx, hb, hml, hown, hts⟩ (c_X1_isAt l D cy ta bs ln pl 108 (by first | assumption | omega | decide) (by first | assumption | omega | decide) H.size) (cwV 1 hts gX1_readGuest_X1_isAt rfl rfl rfl (by decide +kernel) ⟨Nat.le_of_ble_eq_true rfl, Nat.le_of_ble_eq_true rfl⟩) (kPre_V (ci := 1) hK hN hP hD [0] (by decide) rfl 0 rfl rfl) rfl rfl hl.1 rfl (lv_room (Nat.le_of_ble_eq_true rfl)) dX1_readGuest_3 ⟨Nat.le_of_ble_eq_true rfl, Nat.le_of_ble_eq_true rfl⟩) (fun r_ u_ H locs hw hP hD hS => ?_)
  have hw : r_ = if kIs bs ln pl 108 then nI 1 else nI 0 := hw
  subst hw
  by_cases b_3 : kIs bs ln pl 108
  · refine kv_i (y := nI 1) (if_pos b_3) ?_
    refine lv_if_eq (tgt := 13) hx hb dX1_readGuest_6 (by decide) (fun h => absurd h (by decide)) (fun _ => ?_)
    refine lv_aload_n hx hb dX1_readGuest_9 rfl (lv_at hl 1 rfl) ?_
    refine lv_goto (tgt := 14) hx hb dX1_readGuest_10 (by decide) ?_
    refine lv_astore_n (lv' := [(3, .ref (a k)), (0, .ref (ta 0)), (1, .ref (a k)), (2, .ref (b k2))]) hx hb dX1_readGuest_14 rfl hl (by decide) rfl (fun ls hl => ?_)
    refine lv_aload_n hx hb dX1_readGuest_15 rfl (lv_at hl 0 rfl) ?_
    refine kc_i (Cs := [gW cy a k L]) (Rs := [tW cy ta (bs, ln, pl), gW cy b k2 F]) (Bs := [tW cy ta (bs, ln, pl), gW cy a k L, gW cy b k2 F]) (Cs' := fun u_ : Unit => [gW cy a k L]) (Fs := fun u_ : Unit => [tW cy ta (bs, ln, pl), gW cy a k L, gW cy b k2 F]) hP hD hS hA [1] [0, 2] [0, 2, 1] rfl rfl (by decide) (by decide) (fun _ => rfl) (va_runV (As := []) (rest := []) ⟨hx, hb, hml, hown, hts⟩ (c_X2_isFull l D cy a k L (by omega) H.size) (cwV 0 hts gX1_readGuest_X2_isFull rfl rfl rfl (by decide +kernel) ⟨Nat.le_of_ble_eq_true rfl, Nat.le_of_ble_eq_true rfl⟩) (kPre_V (ci := 2) hK hN hP hD [1] (by decide) rfl 0 rfl rfl) rfl rfl hl.1 rfl (lv_room (Nat.le_of_ble_eq_true rfl)) dX1_readGuest_16 ⟨Nat.le_of_ble_eq_true rfl, Nat.le_of_ble_eq_true rfl⟩) (fun r_ u_ H locs hw hP hD hS => ?_)
    have hw : r_ = if 8 ≤ L.2.2.2.2.2 then nI 1 else nI 0 := hw
    subst hw
    by_cases b_16 : 8 ≤ L.2.2.2.2.2
    · refine kv_i (y := nI 1) (if_pos b_16) ?_
      refine lv_if_ne (tgt := 40) hx hb dX1_readGuest_19 (by decide) (fun _ => ?_) (fun h => absurd h (by decide))
      refine lv_iconst (v := nI 0) hx hb dX1_readGuest_40 (by decide) ?_
      have E : kRG bs ln pl L F = (false, pl, L, F) := kRG_x1 b_3 b_16
      have hP : va_P D vwCl (bkF [tW cy ta (bs, ln, (kRG bs ln pl L F).2.1), gW cy a k (kRG bs ln pl L F).2.2.1, gW cy b k2 (kRG bs ln pl L F).2.2.2]) H := by rw [E]; exact hP
      have hD : va_D A (bkF [tW cy ta (bs, ln, (kRG bs ln pl L F).2.1), gW cy a k (kRG bs ln pl L F).2.2.1, gW cy b k2 (kRG bs ln pl L F).2.2.2]) := by rw [E]; exact hD
      exact kr_i (post := fun r_ (u_ : Unit) => r_ = if (kRG bs ln pl L F).1 = true then nI 1 else nI 0) (Bs := fun u_ : Unit => [tW cy ta (bs, ln, (kRG bs ln pl L F).2.1), gW cy a k (kRG bs ln pl L F).2.2.1, gW cy b k2 (kRG bs ln pl L F).2.2.2]) hx hb hr hlocks rfl () hP hK hD hS (by rw [E]; rfl) dX1_readGuest_41 hQ
    · refine kv_i (y := nI 0) (if_neg b_16) ?_
      refine lv_if_ne (tgt := 40) hx hb dX1_readGuest_19 (by decide) (fun h => absurd h (by decide)) (fun _ => ?_)
      refine lv_aload_n hx hb dX1_readGuest_22 rfl (lv_at hl 1 rfl) ?_
      refine lv_bipush (v := nI 108) hx hb dX1_readGuest_23 (by decide) ?_
      refine kc_i (Cs := [tW cy ta (bs, ln, pl)]) (Rs := [gW cy a k L, gW cy b k2 F]) (Bs := [tW cy ta (bs, ln, pl), gW cy a k L, gW cy b k2 F]) (Cs' := fun u_ : Unit => [tW cy ta (bs, ln, pl + 1)]) (Fs := fun u_ : Unit => [tW cy ta (bs, ln, pl + 1), gW cy a k L, gW cy b k2 F]) hP hD hS hA [0] [1, 2] [2, 0, 1] rfl rfl (by decide) (by decide) (fun _ => rfl) (va_runV (As := [.int (nI 108)]) (rest := []) ⟨hx, hb, hml, hown, hts⟩ (c_X1_skip_y l D cy ta bs ln pl 108 (by first | assumption | omega | decide) (by first | assumption | omega | decide) b_3 H.size) (cwV 1 hts gX1_readGuest_X1_skip rfl rfl rfl (by decide +kernel) ⟨Nat.le_of_ble_eq_true rfl, Nat.le_of_ble_eq_true rfl⟩) (kPre_V (ci := 1) hK hN hP hD [0] (by decide) rfl 0 rfl rfl) rfl rfl hl.1 rfl (lv_room (Nat.le_of_ble_eq_true rfl)) dX1_readGuest_25 ⟨Nat.le_of_ble_eq_true rfl, Nat.le_of_ble_eq_true rfl⟩) (fun r_ u_ H locs hw hP hD hS => ?_)
      have hw : r_ = nI 1 := hw
      subst hw
      refine lv_if_ne (tgt := 42) hx hb dX1_readGuest_28 (by decide) (fun _ => ?_) (fun h => absurd h (by decide))
      refine lv_aload_n hx hb dX1_readGuest_42 rfl (lv_at hl 1 rfl) ?_
      rcases (show ¬ (kDig bs ln (pl + 1) 0) ∨ ((kDig bs ln (pl + 1) 0) ∧ ¬ (kDig bs ln (pl + 1 + 1) 0)) ∨ ((kDig bs ln (pl + 1) 0) ∧ (kDig bs ln (pl + 1 + 1) 0)) from (Classical.em (kDig bs ln (pl + 1) 0)).elim (fun h1 => (Classical.em (kDig bs ln (pl + 1 + 1) 0)).elim (fun h2 => Or.inr (Or.inr ⟨h1, h2⟩)) (fun h2 => Or.inr (Or.inl ⟨h1, h2⟩))) (fun h1 => Or.inl h1)) with k_43 | ⟨k_43, k_43b⟩ | ⟨k_43, k_43b⟩
      · skip
        refine kc_i (Cs := [tW cy ta (bs, ln, pl + 1)]) (Rs := [gW cy a k L, gW cy b k2 F]) (Bs := [tW cy ta (bs, ln, pl + 1), gW cy a k L, gW cy b k2 F]) (Cs' := fun u_ : Unit => [tW cy ta (bs, ln, pl + 1)]) (Fs := fun u_ : Unit => [tW cy ta (bs, ln, pl + 1), gW cy a k L, gW cy b k2 F]) hP hD hS hA [0] [1, 2] [2, 0, 1] rfl rfl (by decide) (by decide) (fun _ => rfl) (va_runV (As := []) (rest := []) ⟨hx, hb, hml, hown, hts⟩ (c_X1_readTokens_n l D cy ta bs ln (pl + 1) hby (by first | assumption | omega | decide) (by first | assumption | omega | decide) k_43 H.size) (cwV 0 hts gX1_readGuest_X1_readTokens rfl rfl rfl (by decide +kernel) ⟨Nat.le_of_ble_eq_true rfl, Nat.le_of_ble_eq_true rfl⟩) (kPre_V (ci := 1) hK hN hP hD [0] (by decide) rfl 0 rfl rfl) rfl rfl hl.1 rfl (lv_room (Nat.le_of_ble_eq_true rfl)) dX1_readGuest_43 ⟨Nat.le_of_ble_eq_true rfl, Nat.le_of_ble_eq_true rfl⟩) (fun r_ u_ H locs hw hP hD hS => ?_)
        have hw : r_ = (-1 : Int32) := hw
        subst hw
        refine lv_istore (lv' := [(4, .int (-1 : Int32)), (3, .ref (a k)), (0, .ref (ta 0)), (1, .ref (a k)), (2, .ref (b k2))]) hx hb dX1_readGuest_46 hl (by decide) rfl (fun ls hl => ?_)
        refine lv_iload hx hb dX1_readGuest_48 (lv_at hl 0 rfl) ?_
        refine lv_iconst (v := (-1 : Int32)) hx hb dX1_readGuest_50 (by decide) ?_
        refine lv_icmp_eq (tgt := 63) hx hb dX1_readGuest_51 (by decide) (fun _ => ?_) (fun h => absurd h (by decide))
        refine lv_iconst (v := nI 0) hx hb dX1_readGuest_63 (by decide) ?_
        have E : kRG bs ln pl L F = (false, pl + 1, L, F) := (kRG_l b_3 b_16 (show kRT bs ln (pl + 1) = (false, pl + 1, 0, 0, 0) from (by unfold kRT; rw [if_neg k_43]))).trans (if_neg (by decide))
        have hP : va_P D vwCl (bkF [tW cy ta (bs, ln, (kRG bs ln pl L F).2.1), gW cy a k (kRG bs ln pl L F).2.2.1, gW cy b k2 (kRG bs ln pl L F).2.2.2]) H := by rw [E]; exact hP
        have hD : va_D A (bkF [tW cy ta (bs, ln, (kRG bs ln pl L F).2.1), gW cy a k (kRG bs ln pl L F).2.2.1, gW cy b k2 (kRG bs ln pl L F).2.2.2]) := by rw [E]; exact hD
        exact kr_i (post := fun r_ (u_ : Unit) => r_ = if (kRG bs ln pl L F).1 = true then nI 1 else nI 0) (Bs := fun u_ : Unit => [tW cy ta (bs, ln, (kRG bs ln pl L F).2.1), gW cy a k (kRG bs ln pl L F).2.2.1, gW cy b k2 (kRG bs ln pl L F).2.2.2]) hx hb hr hlocks rfl () hP hK hD hS (by rw [E]; rfl) dX1_readGuest_64 hQ
      · skip
        refine kc_i (Cs := [tW cy ta (bs, ln, pl + 1)]) (Rs := [gW cy a k L, gW cy b k2 F]) (Bs := [tW cy ta (bs, ln, pl + 1), gW cy a k L, gW cy b k2 F]) (Cs' := fun u_ : Unit => [tW cy ta (bs, ln, pl + 1 + 1)]) (Fs := fun u_ : Unit => [tW cy ta (bs, ln, pl + 1 + 1), gW cy a k L, gW cy b k2 F]) hP hD hS hA [0] [1, 2] [2, 0, 1] rfl rfl (by decide) (by decide) (fun _ => rfl) (va_runV (As := []) (rest := []) ⟨hx, hb, hml, hown, hts⟩ (c_X1_readTokens_1 l D cy ta bs ln (pl + 1) hby (by first | assumption | omega | decide) (by first | assumption | omega | decide) k_43 k_43b H.size) (cwV 0 hts gX1_readGuest_X1_readTokens rfl rfl rfl (by decide +kernel) ⟨Nat.le_of_ble_eq_true rfl, Nat.le_of_ble_eq_true rfl⟩) (kPre_V (ci := 1) hK hN hP hD [0] (by decide) rfl 0 rfl rfl) rfl rfl hl.1 rfl (lv_room (Nat.le_of_ble_eq_true rfl)) dX1_readGuest_43 ⟨Nat.le_of_ble_eq_true rfl, Nat.le_of_ble_eq_true rfl⟩) (fun r_ u_ H locs hw hP hD hS => ?_)
        have hw : r_ = nI (kb9 bs (pl + 1) - 48) := hw
        subst hw
        refine lv_istore (lv' := [(4, .int (nI (kb9 bs (pl + 1) - 48))), (3, .ref (a k)), (0, .ref (ta 0)), (1, .ref (a k)), (2, .ref (b k2))]) hx hb dX1_readGuest_46 hl (by decide) rfl (fun ls hl => ?_)
        refine lv_iload hx hb dX1_readGuest_48 (lv_at hl 0 rfl) ?_
        refine lv_iconst (v := (-1 : Int32)) hx hb dX1_readGuest_50 (by decide) ?_
        refine lv_icmp_eq (tgt := 63) hx hb dX1_readGuest_51 (by decide) (fun c_51 => False.elim ?_) (fun c_51 => ?_)
        · skip
          exact nI_ne1 (by have := k_43.2.2; omega) c_51
        · skip
          refine lv_aload_n hx hb dX1_readGuest_54 rfl (lv_at hl 2 rfl) ?_
          refine lv_bipush (v := nI 44) hx hb dX1_readGuest_55 (by decide) ?_
          by_cases k_57 : kIs bs ln (pl + 1 + 1) 44
          · skip
            refine kc_i (Cs := [tW cy ta (bs, ln, pl + 1 + 1)]) (Rs := [gW cy a k L, gW cy b k2 F]) (Bs := [tW cy ta (bs, ln, pl + 1 + 1), gW cy a k L, gW cy b k2 F]) (Cs' := fun u_ : Unit => [tW cy ta (bs, ln, pl + 1 + 1 + 1)]) (Fs := fun u_ : Unit => [tW cy ta (bs, ln, pl + 1 + 1 + 1), gW cy a k L, gW cy b k2 F]) hP hD hS hA [0] [1, 2] [2, 0, 1] rfl rfl (by decide) (by decide) (fun _ => rfl) (va_runV (As := [.int (nI 44)]) (rest := []) ⟨hx, hb, hml, hown, hts⟩ (c_X1_skip_y l D cy ta bs ln (pl + 1 + 1) 44 (by first | assumption | omega | decide) (by first | assumption | omega | decide) k_57 H.size) (cwV 1 hts gX1_readGuest_X1_skip rfl rfl rfl (by decide +kernel) ⟨Nat.le_of_ble_eq_true rfl, Nat.le_of_ble_eq_true rfl⟩) (kPre_V (ci := 1) hK hN hP hD [0] (by decide) rfl 0 rfl rfl) rfl rfl hl.1 rfl (lv_room (Nat.le_of_ble_eq_true rfl)) dX1_readGuest_57 ⟨Nat.le_of_ble_eq_true rfl, Nat.le_of_ble_eq_true rfl⟩) (fun r_ u_ H locs hw hP hD hS => ?_)
            have hw : r_ = nI 1 := hw
            subst hw
            refine lv_if_ne (tgt := 65) hx hb dX1_readGuest_60 (by decide) (fun _ => ?_) (fun h => absurd h (by decide))
            refine lv_aload_n hx hb dX1_readGuest_65 rfl (lv_at hl 2 rfl) ?_
            refine lv_iconst (v := nI 1) hx hb dX1_readGuest_66 (by decide) ?_
            by_cases k_67 : kDig bs ln (pl + 1 + 1 + 1) 1
            · skip
              refine kc_i (Cs := [tW cy ta (bs, ln, pl + 1 + 1 + 1)]) (Rs := [gW cy a k L, gW cy b k2 F]) (Bs := [tW cy ta (bs, ln, pl + 1 + 1 + 1), gW cy a k L, gW cy b k2 F]) (Cs' := fun u_ : Unit => [tW cy ta (bs, ln, pl + 1 + 1 + 1 + 1)]) (Fs := fun u_ : Unit => [tW cy ta (bs, ln, pl + 1 + 1 + 1 + 1), gW cy a k L, gW cy b k2 F]) hP hD hS hA [0] [1, 2] [2, 0, 1] rfl rfl (by decide) (by decide) (fun _ => rfl) (va_runV (As := [.int (nI 1)]) (rest := []) ⟨hx, hb, hml, hown, hts⟩ (c_X1_readDigit_y l D cy ta bs ln (pl + 1 + 1 + 1) 1 hby (by first | assumption | omega | decide) (by first | assumption | omega | decide) (by first | assumption | omega | decide) k_67 H.size) (cwV 1 hts gX1_readGuest_X1_readDigit rfl rfl rfl (by decide +kernel) ⟨Nat.le_of_ble_eq_true rfl, Nat.le_of_ble_eq_true rfl⟩) (kPre_V (ci := 1) hK hN hP hD [0] (by decide) rfl 0 rfl rfl) rfl rfl hl.1 rfl (lv_room (Nat.le_of_ble_eq_true rfl)) dX1_readGuest_67 ⟨Nat.le_of_ble_eq_true rfl, Nat.le_of_ble_eq_true rfl⟩) (fun r_ u_ H locs hw hP hD hS => ?_)
              have hw : r_ = nI (kb9 bs (pl + 1 + 1 + 1) - 48) := hw
              subst hw
              refine lv_istore (lv' := [(5, .int (nI (kb9 bs (pl + 1 + 1 + 1) - 48))), (4, .int (nI (kb9 bs (pl + 1) - 48))), (3, .ref (a k)), (0, .ref (ta 0)), (1, .ref (a k)), (2, .ref (b k2))]) hx hb dX1_readGuest_70 hl (by decide) rfl (fun ls hl => ?_)
              refine lv_iload hx hb dX1_readGuest_72 (lv_at hl 0 rfl) ?_
              refine lv_iconst (v := (-1 : Int32)) hx hb dX1_readGuest_74 (by decide) ?_
              refine lv_icmp_ne (tgt := 80) hx hb dX1_readGuest_75 (by decide) (fun c_75 => ?_) (fun c_75 => False.elim ?_)
              · skip
                refine lv_aload_n hx hb dX1_readGuest_80 rfl (lv_at hl 3 rfl) ?_
                refine lv_bipush (v := nI 45) hx hb dX1_readGuest_81 (by decide) ?_
                by_cases k_83 : kIs bs ln (pl + 1 + 1 + 1 + 1) 45
                · skip
                  refine kc_i (Cs := [tW cy ta (bs, ln, pl + 1 + 1 + 1 + 1)]) (Rs := [gW cy a k L, gW cy b k2 F]) (Bs := [tW cy ta (bs, ln, pl + 1 + 1 + 1 + 1), gW cy a k L, gW cy b k2 F]) (Cs' := fun u_ : Unit => [tW cy ta (bs, ln, pl + 1 + 1 + 1 + 1 + 1)]) (Fs := fun u_ : Unit => [tW cy ta (bs, ln, pl + 1 + 1 + 1 + 1 + 1), gW cy a k L, gW cy b k2 F]) hP hD hS hA [0] [1, 2] [2, 0, 1] rfl rfl (by decide) (by decide) (fun _ => rfl) (va_runV (As := [.int (nI 45)]) (rest := []) ⟨hx, hb, hml, hown, hts⟩ (c_X1_skip_y l D cy ta bs ln (pl + 1 + 1 + 1 + 1) 45 (by first | assumption | omega | decide) (by first | assumption | omega | decide) k_83 H.size) (cwV 1 hts gX1_readGuest_X1_skip rfl rfl rfl (by decide +kernel) ⟨Nat.le_of_ble_eq_true rfl, Nat.le_of_ble_eq_true rfl⟩) (kPre_V (ci := 1) hK hN hP hD [0] (by decide) rfl 0 rfl rfl) rfl rfl hl.1 rfl (lv_room (Nat.le_of_ble_eq_true rfl)) dX1_readGuest_83 ⟨Nat.le_of_ble_eq_true rfl, Nat.le_of_ble_eq_true rfl⟩) (fun r_ u_ H locs hw hP hD hS => ?_)
                  have hw : r_ = nI 1 := hw
                  subst hw
                  refine lv_if_ne (tgt := 93) hx hb dX1_readGuest_86 (by decide) (fun _ => ?_) (fun h => absurd h (by decide))
                  refine lv_iconst (v := nI 0) hx hb dX1_readGuest_93 (by decide) ?_
                  refine lv_istore (lv' := [(6, .int (nI 0)), (5, .int (nI (kb9 bs (pl + 1 + 1 + 1) - 48))), (4, .int (nI (kb9 bs (pl + 1) - 48))), (3, .ref (a k)), (0, .ref (ta 0)), (1, .ref (a k)), (2, .ref (b k2))]) hx hb dX1_readGuest_94 hl (by decide) rfl (fun ls hl => ?_)
                  refine lv_aload_n hx hb dX1_readGuest_96 rfl (lv_at hl 4 rfl) ?_
                  refine lv_bipush (v := nI 59) hx hb dX1_readGuest_97 (by decide) ?_
                  by_cases k_99 : kIs bs ln (pl + 1 + 1 + 1 + 1 + 1) 59
                  · skip
                    refine kc_i (Cs := [tW cy ta (bs, ln, pl + 1 + 1 + 1 + 1 + 1)]) (Rs := [gW cy a k L, gW cy b k2 F]) (Bs := [tW cy ta (bs, ln, pl + 1 + 1 + 1 + 1 + 1), gW cy a k L, gW cy b k2 F]) (Cs' := fun u_ : Unit => [tW cy ta (bs, ln, pl + 1 + 1 + 1 + 1 + 1 + 1)]) (Fs := fun u_ : Unit => [tW cy ta (bs, ln, pl + 1 + 1 + 1 + 1 + 1 + 1), gW cy a k L, gW cy b k2 F]) hP hD hS hA [0] [1, 2] [2, 0, 1] rfl rfl (by decide) (by decide) (fun _ => rfl) (va_runV (As := [.int (nI 59)]) (rest := []) ⟨hx, hb, hml, hown, hts⟩ (c_X1_skip_y l D cy ta bs ln (pl + 1 + 1 + 1 + 1 + 1) 59 (by first | assumption | omega | decide) (by first | assumption | omega | decide) k_99 H.size) (cwV 1 hts gX1_readGuest_X1_skip rfl rfl rfl (by decide +kernel) ⟨Nat.le_of_ble_eq_true rfl, Nat.le_of_ble_eq_true rfl⟩) (kPre_V (ci := 1) hK hN hP hD [0] (by decide) rfl 0 rfl rfl) rfl rfl hl.1 rfl (lv_room (Nat.le_of_ble_eq_true rfl)) dX1_readGuest_99 ⟨Nat.le_of_ble_eq_true rfl, Nat.le_of_ble_eq_true rfl⟩) (fun r_ u_ H locs hw hP hD hS => ?_)
                    have hw : r_ = nI 1 := hw
                    subst hw
                    refine lv_if_ne (tgt := 107) hx hb dX1_readGuest_102 (by decide) (fun _ => ?_) (fun h => absurd h (by decide))
                    refine lv_aload_n hx hb dX1_readGuest_107 rfl (lv_at hl 3 rfl) ?_
                    refine lv_iload hx hb dX1_readGuest_108 (lv_at hl 2 rfl) ?_
                    refine lv_iload hx hb dX1_readGuest_110 (lv_at hl 1 rfl) ?_
                    refine lv_iload hx hb dX1_readGuest_112 (lv_at hl 0 rfl) ?_
                    refine kc_i (Cs := [gW cy a k L]) (Rs := [tW cy ta (bs, ln, pl + 1 + 1 + 1 + 1 + 1 + 1), gW cy b k2 F]) (Bs := [tW cy ta (bs, ln, pl + 1 + 1 + 1 + 1 + 1 + 1), gW cy a k L, gW cy b k2 F]) (Cs' := fun u_ : Unit => [gW cy a k (upd L.1 L.2.2.2.2.2 (nI (kb9 bs (pl + 1) - 48)), upd L.2.1 L.2.2.2.2.2 (nI (kb9 bs (pl + 1 + 1 + 1) - 48)), upd L.2.2.1 L.2.2.2.2.2 (nI 0), upd L.2.2.2.1 L.2.2.2.2.2 (nI 1), upd L.2.2.2.2.1 L.2.2.2.2.2 (nI 0), L.2.2.2.2.2 + 1)]) (Fs := fun u_ : Unit => [tW cy ta (bs, ln, pl + 1 + 1 + 1 + 1 + 1 + 1), gW cy a k (upd L.1 L.2.2.2.2.2 (nI (kb9 bs (pl + 1) - 48)), upd L.2.1 L.2.2.2.2.2 (nI (kb9 bs (pl + 1 + 1 + 1) - 48)), upd L.2.2.1 L.2.2.2.2.2 (nI 0), upd L.2.2.2.1 L.2.2.2.2.2 (nI 1), upd L.2.2.2.2.1 L.2.2.2.2.2 (nI 0), L.2.2.2.2.2 + 1), gW cy b k2 F]) hP hD hS hA [1] [0, 2] [0, 2, 1] rfl rfl (by decide) (by decide) (fun _ => rfl) (va_runV (As := [.int (nI (kb9 bs (pl + 1) - 48)), .int (nI (kb9 bs (pl + 1 + 1 + 1) - 48)), .int (nI 0)]) (rest := []) ⟨hx, hb, hml, hown, hts⟩ (c_X2_add l D cy a k L (nI (kb9 bs (pl + 1) - 48)) (nI (kb9 bs (pl + 1 + 1 + 1) - 48)) (nI 0) (by first | assumption | omega | decide) (by first | assumption | omega | decide) H.size) (cwV 3 hts gX1_readGuest_X2_add rfl rfl rfl (by decide +kernel) ⟨Nat.le_of_ble_eq_true rfl, Nat.le_of_ble_eq_true rfl⟩) (kPre_V (ci := 2) hK hN hP hD [1] (by decide) rfl 0 rfl rfl) rfl rfl hl.1 rfl (lv_room (Nat.le_of_ble_eq_true rfl)) dX1_readGuest_114 ⟨Nat.le_of_ble_eq_true rfl, Nat.le_of_ble_eq_true rfl⟩) (fun r_ u_ H locs hw hP hD hS => ?_)
                    have hw : r_ = nI L.2.2.2.2.2 := hw
                    subst hw
                    refine lv_pop hx hb dX1_readGuest_117 rfl ?_
                    refine lv_iconst (v := nI 1) hx hb dX1_readGuest_118 (by decide) ?_
                    have E : kRG bs ln pl L F = (true, pl + 1 + 1 + 1 + 1 + 1 + 1, kAdd L (kb9 bs (pl + 1) - 48) (kb9 bs (pl + 1 + 1 + 1) - 48) 0, F) := (kRG_l b_3 b_16 (show kRT bs ln (pl + 1) = (true, pl + 1 + 1 + 1 + 1 + 1 + 1, kb9 bs (pl + 1) - 48, kb9 bs (pl + 1 + 1 + 1) - 48, 0) from (by unfold kRT; rw [if_pos k_43, if_neg k_43b]; unfold kRT2; rw [if_pos k_57, if_pos k_67, if_pos k_83, if_pos k_99]))).trans (if_pos rfl)
                    have hP : va_P D vwCl (bkF [tW cy ta (bs, ln, (kRG bs ln pl L F).2.1), gW cy a k (kRG bs ln pl L F).2.2.1, gW cy b k2 (kRG bs ln pl L F).2.2.2]) H := by rw [E]; exact hP
                    have hD : va_D A (bkF [tW cy ta (bs, ln, (kRG bs ln pl L F).2.1), gW cy a k (kRG bs ln pl L F).2.2.1, gW cy b k2 (kRG bs ln pl L F).2.2.2]) := by rw [E]; exact hD
                    exact kr_i (post := fun r_ (u_ : Unit) => r_ = if (kRG bs ln pl L F).1 = true then nI 1 else nI 0) (Bs := fun u_ : Unit => [tW cy ta (bs, ln, (kRG bs ln pl L F).2.1), gW cy a k (kRG bs ln pl L F).2.2.1, gW cy b k2 (kRG bs ln pl L F).2.2.2]) hx hb hr hlocks rfl () hP hK hD hS (by rw [E]; rfl) dX1_readGuest_119 hQ
                  · skip
                    refine kc_i (Cs := [tW cy ta (bs, ln, pl + 1 + 1 + 1 + 1 + 1)]) (Rs := [gW cy a k L, gW cy b k2 F]) (Bs := [tW cy ta (bs, ln, pl + 1 + 1 + 1 + 1 + 1), gW cy a k L, gW cy b k2 F]) (Cs' := fun u_ : Unit => [tW cy ta (bs, ln, pl + 1 + 1 + 1 + 1 + 1)]) (Fs := fun u_ : Unit => [tW cy ta (bs, ln, pl + 1 + 1 + 1 + 1 + 1), gW cy a k L, gW cy b k2 F]) hP hD hS hA [0] [1, 2] [2, 0, 1] rfl rfl (by decide) (by decide) (fun _ => rfl) (va_runV (As := [.int (nI 59)]) (rest := []) ⟨hx, hb, hml, hown, hts⟩ (c_X1_skip_n l D cy ta bs ln (pl + 1 + 1 + 1 + 1 + 1) 59 (by first | assumption | omega | decide) (by first | assumption | omega | decide) k_99 H.size) (cwV 1 hts gX1_readGuest_X1_skip rfl rfl rfl (by decide +kernel) ⟨Nat.le_of_ble_eq_true rfl, Nat.le_of_ble_eq_true rfl⟩) (kPre_V (ci := 1) hK hN hP hD [0] (by decide) rfl 0 rfl rfl) rfl rfl hl.1 rfl (lv_room (Nat.le_of_ble_eq_true rfl)) dX1_readGuest_99 ⟨Nat.le_of_ble_eq_true rfl, Nat.le_of_ble_eq_true rfl⟩) (fun r_ u_ H locs hw hP hD hS => ?_)
                    have hw : r_ = nI 0 := hw
                    subst hw
                    refine lv_if_ne (tgt := 107) hx hb dX1_readGuest_102 (by decide) (fun h => absurd h (by decide)) (fun _ => ?_)
                    refine lv_iconst (v := nI 0) hx hb dX1_readGuest_105 (by decide) ?_
                    have E : kRG bs ln pl L F = (false, pl + 1 + 1 + 1 + 1 + 1, L, F) := (kRG_l b_3 b_16 (show kRT bs ln (pl + 1) = (false, pl + 1 + 1 + 1 + 1 + 1, kb9 bs (pl + 1) - 48, kb9 bs (pl + 1 + 1 + 1) - 48, 0) from (by unfold kRT; rw [if_pos k_43, if_neg k_43b]; unfold kRT2; rw [if_pos k_57, if_pos k_67, if_pos k_83, if_neg k_99]))).trans (if_neg (by decide))
                    have hP : va_P D vwCl (bkF [tW cy ta (bs, ln, (kRG bs ln pl L F).2.1), gW cy a k (kRG bs ln pl L F).2.2.1, gW cy b k2 (kRG bs ln pl L F).2.2.2]) H := by rw [E]; exact hP
                    have hD : va_D A (bkF [tW cy ta (bs, ln, (kRG bs ln pl L F).2.1), gW cy a k (kRG bs ln pl L F).2.2.1, gW cy b k2 (kRG bs ln pl L F).2.2.2]) := by rw [E]; exact hD
                    exact kr_i (post := fun r_ (u_ : Unit) => r_ = if (kRG bs ln pl L F).1 = true then nI 1 else nI 0) (Bs := fun u_ : Unit => [tW cy ta (bs, ln, (kRG bs ln pl L F).2.1), gW cy a k (kRG bs ln pl L F).2.2.1, gW cy b k2 (kRG bs ln pl L F).2.2.2]) hx hb hr hlocks rfl () hP hK hD hS (by rw [E]; rfl) dX1_readGuest_106 hQ
                · skip
                  refine kc_i (Cs := [tW cy ta (bs, ln, pl + 1 + 1 + 1 + 1)]) (Rs := [gW cy a k L, gW cy b k2 F]) (Bs := [tW cy ta (bs, ln, pl + 1 + 1 + 1 + 1), gW cy a k L, gW cy b k2 F]) (Cs' := fun u_ : Unit => [tW cy ta (bs, ln, pl + 1 + 1 + 1 + 1)]) (Fs := fun u_ : Unit => [tW cy ta (bs, ln, pl + 1 + 1 + 1 + 1), gW cy a k L, gW cy b k2 F]) hP hD hS hA [0] [1, 2] [2, 0, 1] rfl rfl (by decide) (by decide) (fun _ => rfl) (va_runV (As := [.int (nI 45)]) (rest := []) ⟨hx, hb, hml, hown, hts⟩ (c_X1_skip_n l D cy ta bs ln (pl + 1 + 1 + 1 + 1) 45 (by first | assumption | omega | decide) (by first | assumption | omega | decide) k_83 H.size) (cwV 1 hts gX1_readGuest_X1_skip rfl rfl rfl (by decide +kernel) ⟨Nat.le_of_ble_eq_true rfl, Nat.le_of_ble_eq_true rfl⟩) (kPre_V (ci := 1) hK hN hP hD [0] (by decide) rfl 0 rfl rfl) rfl rfl hl.1 rfl (lv_room (Nat.le_of_ble_eq_true rfl)) dX1_readGuest_83 ⟨Nat.le_of_ble_eq_true rfl, Nat.le_of_ble_eq_true rfl⟩) (fun r_ u_ H locs hw hP hD hS => ?_)
                  have hw : r_ = nI 0 := hw
                  subst hw
                  refine lv_if_ne (tgt := 93) hx hb dX1_readGuest_86 (by decide) (fun h => absurd h (by decide)) (fun _ => ?_)
                  refine lv_iconst (v := nI 1) hx hb dX1_readGuest_89 (by decide) ?_
                  refine lv_goto (tgt := 94) hx hb dX1_readGuest_90 (by decide) ?_
                  refine lv_istore (lv' := [(6, .int (nI 1)), (5, .int (nI (kb9 bs (pl + 1 + 1 + 1) - 48))), (4, .int (nI (kb9 bs (pl + 1) - 48))), (3, .ref (a k)), (0, .ref (ta 0)), (1, .ref (a k)), (2, .ref (b k2))]) hx hb dX1_readGuest_94 hl (by decide) rfl (fun ls hl => ?_)
                  refine lv_aload_n hx hb dX1_readGuest_96 rfl (lv_at hl 4 rfl) ?_
                  refine lv_bipush (v := nI 59) hx hb dX1_readGuest_97 (by decide) ?_
                  by_cases k_99 : kIs bs ln (pl + 1 + 1 + 1 + 1) 59
                  · skip
                    refine kc_i (Cs := [tW cy ta (bs, ln, pl + 1 + 1 + 1 + 1)]) (Rs := [gW cy a k L, gW cy b k2 F]) (Bs := [tW cy ta (bs, ln, pl + 1 + 1 + 1 + 1), gW cy a k L, gW cy b k2 F]) (Cs' := fun u_ : Unit => [tW cy ta (bs, ln, pl + 1 + 1 + 1 + 1 + 1)]) (Fs := fun u_ : Unit => [tW cy ta (bs, ln, pl + 1 + 1 + 1 + 1 + 1), gW cy a k L, gW cy b k2 F]) hP hD hS hA [0] [1, 2] [2, 0, 1] rfl rfl (by decide) (by decide) (fun _ => rfl) (va_runV (As := [.int (nI 59)]) (rest := []) ⟨hx, hb, hml, hown, hts⟩ (c_X1_skip_y l D cy ta bs ln (pl + 1 + 1 + 1 + 1) 59 (by first | assumption | omega | decide) (by first | assumption | omega | decide) k_99 H.size) (cwV 1 hts gX1_readGuest_X1_skip rfl rfl rfl (by decide +kernel) ⟨Nat.le_of_ble_eq_true rfl, Nat.le_of_ble_eq_true rfl⟩) (kPre_V (ci := 1) hK hN hP hD [0] (by decide) rfl 0 rfl rfl) rfl rfl hl.1 rfl (lv_room (Nat.le_of_ble_eq_true rfl)) dX1_readGuest_99 ⟨Nat.le_of_ble_eq_true rfl, Nat.le_of_ble_eq_true rfl⟩) (fun r_ u_ H locs hw hP hD hS => ?_)
                    have hw : r_ = nI 1 := hw
                    subst hw
                    refine lv_if_ne (tgt := 107) hx hb dX1_readGuest_102 (by decide) (fun _ => ?_) (fun h => absurd h (by decide))
                    refine lv_aload_n hx hb dX1_readGuest_107 rfl (lv_at hl 3 rfl) ?_
                    refine lv_iload hx hb dX1_readGuest_108 (lv_at hl 2 rfl) ?_
                    refine lv_iload hx hb dX1_readGuest_110 (lv_at hl 1 rfl) ?_
                    refine lv_iload hx hb dX1_readGuest_112 (lv_at hl 0 rfl) ?_
                    refine kc_i (Cs := [gW cy a k L]) (Rs := [tW cy ta (bs, ln, pl + 1 + 1 + 1 + 1 + 1), gW cy b k2 F]) (Bs := [tW cy ta (bs, ln, pl + 1 + 1 + 1 + 1 + 1), gW cy a k L, gW cy b k2 F]) (Cs' := fun u_ : Unit => [gW cy a k (upd L.1 L.2.2.2.2.2 (nI (kb9 bs (pl + 1) - 48)), upd L.2.1 L.2.2.2.2.2 (nI (kb9 bs (pl + 1 + 1 + 1) - 48)), upd L.2.2.1 L.2.2.2.2.2 (nI 1), upd L.2.2.2.1 L.2.2.2.2.2 (nI 1), upd L.2.2.2.2.1 L.2.2.2.2.2 (nI 0), L.2.2.2.2.2 + 1)]) (Fs := fun u_ : Unit => [tW cy ta (bs, ln, pl + 1 + 1 + 1 + 1 + 1), gW cy a k (upd L.1 L.2.2.2.2.2 (nI (kb9 bs (pl + 1) - 48)), upd L.2.1 L.2.2.2.2.2 (nI (kb9 bs (pl + 1 + 1 + 1) - 48)), upd L.2.2.1 L.2.2.2.2.2 (nI 1), upd L.2.2.2.1 L.2.2.2.2.2 (nI 1), upd L.2.2.2.2.1 L.2.2.2.2.2 (nI 0), L.2.2.2.2.2 + 1), gW cy b k2 F]) hP hD hS hA [1] [0, 2] [0, 2, 1] rfl rfl (by decide) (by decide) (fun _ => rfl) (va_runV (As := [.int (nI (kb9 bs (pl + 1) - 48)), .int (nI (kb9 bs (pl + 1 + 1 + 1) - 48)), .int (nI 1)]) (rest := []) ⟨hx, hb, hml, hown, hts⟩ (c_X2_add l D cy a k L (nI (kb9 bs (pl + 1) - 48)) (nI (kb9 bs (pl + 1 + 1 + 1) - 48)) (nI 1) (by first | assumption | omega | decide) (by first | assumption | omega | decide) H.size) (cwV 3 hts gX1_readGuest_X2_add rfl rfl rfl (by decide +kernel) ⟨Nat.le_of_ble_eq_true rfl, Nat.le_of_ble_eq_true rfl⟩) (kPre_V (ci := 2) hK hN hP hD [1] (by decide) rfl 0 rfl rfl) rfl rfl hl.1 rfl (lv_room (Nat.le_of_ble_eq_true rfl)) dX1_readGuest_114 ⟨Nat.le_of_ble_eq_true rfl, Nat.le_of_ble_eq_true rfl⟩) (fun r_ u_ H locs hw hP hD hS => ?_)
                    have hw : r_ = nI L.2.2.2.2.2 := hw
                    subst hw
                    refine lv_pop hx hb dX1_readGuest_117 rfl ?_
                    refine lv_iconst (v := nI 1) hx hb dX1_readGuest_118 (by decide) ?_
                    have E : kRG bs ln pl L F = (true, pl + 1 + 1 + 1 + 1 + 1, kAdd L (kb9 bs (pl + 1) - 48) (kb9 bs (pl + 1 + 1 + 1) - 48) 1, F) := (kRG_l b_3 b_16 (show kRT bs ln (pl + 1) = (true, pl + 1 + 1 + 1 + 1 + 1, kb9 bs (pl + 1) - 48, kb9 bs (pl + 1 + 1 + 1) - 48, 1) from (by unfold kRT; rw [if_pos k_43, if_neg k_43b]; unfold kRT2; rw [if_pos k_57, if_pos k_67, if_neg k_83, if_pos k_99]))).trans (if_pos rfl)
                    have hP : va_P D vwCl (bkF [tW cy ta (bs, ln, (kRG bs ln pl L F).2.1), gW cy a k (kRG bs ln pl L F).2.2.1, gW cy b k2 (kRG bs ln pl L F).2.2.2]) H := by rw [E]; exact hP
                    have hD : va_D A (bkF [tW cy ta (bs, ln, (kRG bs ln pl L F).2.1), gW cy a k (kRG bs ln pl L F).2.2.1, gW cy b k2 (kRG bs ln pl L F).2.2.2]) := by rw [E]; exact hD
                    exact kr_i (post := fun r_ (u_ : Unit) => r_ = if (kRG bs ln pl L F).1 = true then nI 1 else nI 0) (Bs := fun u_ : Unit => [tW cy ta (bs, ln, (kRG bs ln pl L F).2.1), gW cy a k (kRG bs ln pl L F).2.2.1, gW cy b k2 (kRG bs ln pl L F).2.2.2]) hx hb hr hlocks rfl () hP hK hD hS (by rw [E]; rfl) dX1_readGuest_119 hQ
                  · skip
                    refine kc_i (Cs := [tW cy ta (bs, ln, pl + 1 + 1 + 1 + 1)]) (Rs := [gW cy a k L, gW cy b k2 F]) (Bs := [tW cy ta (bs, ln, pl + 1 + 1 + 1 + 1), gW cy a k L, gW cy b k2 F]) (Cs' := fun u_ : Unit => [tW cy ta (bs, ln, pl + 1 + 1 + 1 + 1)]) (Fs := fun u_ : Unit => [tW cy ta (bs, ln, pl + 1 + 1 + 1 + 1), gW cy a k L, gW cy b k2 F]) hP hD hS hA [0] [1, 2] [2, 0, 1] rfl rfl (by decide) (by decide) (fun _ => rfl) (va_runV (As := [.int (nI 59)]) (rest := []) ⟨hx, hb, hml, hown, hts⟩ (c_X1_skip_n l D cy ta bs ln (pl + 1 + 1 + 1 + 1) 59 (by first | assumption | omega | decide) (by first | assumption | omega | decide) k_99 H.size) (cwV 1 hts gX1_readGuest_X1_skip rfl rfl rfl (by decide +kernel) ⟨Nat.le_of_ble_eq_true rfl, Nat.le_of_ble_eq_true rfl⟩) (kPre_V (ci := 1) hK hN hP hD [0] (by decide) rfl 0 rfl rfl) rfl rfl hl.1 rfl (lv_room (Nat.le_of_ble_eq_true rfl)) dX1_readGuest_99 ⟨Nat.le_of_ble_eq_true rfl, Nat.le_of_ble_eq_true rfl⟩) (fun r_ u_ H locs hw hP hD hS => ?_)
                    have hw : r_ = nI 0 := hw
                    subst hw
                    refine lv_if_ne (tgt := 107) hx hb dX1_readGuest_102 (by decide) (fun h => absurd h (by decide)) (fun _ => ?_)
                    refine lv_iconst (v := nI 0) hx hb dX1_readGuest_105 (by decide) ?_
                    have E : kRG bs ln pl L F = (false, pl + 1 + 1 + 1 + 1, L, F) := (kRG_l b_3 b_16 (show kRT bs ln (pl + 1) = (false, pl + 1 + 1 + 1 + 1, kb9 bs (pl + 1) - 48, kb9 bs (pl + 1 + 1 + 1) - 48, 1) from (by unfold kRT; rw [if_pos k_43, if_neg k_43b]; unfold kRT2; rw [if_pos k_57, if_pos k_67, if_neg k_83, if_neg k_99]))).trans (if_neg (by decide))
                    have hP : va_P D vwCl (bkF [tW cy ta (bs, ln, (kRG bs ln pl L F).2.1), gW cy a k (kRG bs ln pl L F).2.2.1, gW cy b k2 (kRG bs ln pl L F).2.2.2]) H := by rw [E]; exact hP
                    have hD : va_D A (bkF [tW cy ta (bs, ln, (kRG bs ln pl L F).2.1), gW cy a k (kRG bs ln pl L F).2.2.1, gW cy b k2 (kRG bs ln pl L F).2.2.2]) := by rw [E]; exact hD
                    exact kr_i (post := fun r_ (u_ : Unit) => r_ = if (kRG bs ln pl L F).1 = true then nI 1 else nI 0) (Bs := fun u_ : Unit => [tW cy ta (bs, ln, (kRG bs ln pl L F).2.1), gW cy a k (kRG bs ln pl L F).2.2.1, gW cy b k2 (kRG bs ln pl L F).2.2.2]) hx hb hr hlocks rfl () hP hK hD hS (by rw [E]; rfl) dX1_readGuest_106 hQ
              · skip
                exact nI_ne1 (by have := k_67.2.2; omega) c_75
            · skip
              refine kc_i (Cs := [tW cy ta (bs, ln, pl + 1 + 1 + 1)]) (Rs := [gW cy a k L, gW cy b k2 F]) (Bs := [tW cy ta (bs, ln, pl + 1 + 1 + 1), gW cy a k L, gW cy b k2 F]) (Cs' := fun u_ : Unit => [tW cy ta (bs, ln, pl + 1 + 1 + 1)]) (Fs := fun u_ : Unit => [tW cy ta (bs, ln, pl + 1 + 1 + 1), gW cy a k L, gW cy b k2 F]) hP hD hS hA [0] [1, 2] [2, 0, 1] rfl rfl (by decide) (by decide) (fun _ => rfl) (va_runV (As := [.int (nI 1)]) (rest := []) ⟨hx, hb, hml, hown, hts⟩ (c_X1_readDigit_n l D cy ta bs ln (pl + 1 + 1 + 1) 1 hby (by first | assumption | omega | decide) (by first | assumption | omega | decide) (by first | assumption | omega | decide) k_67 H.size) (cwV 1 hts gX1_readGuest_X1_readDigit rfl rfl rfl (by decide +kernel) ⟨Nat.le_of_ble_eq_true rfl, Nat.le_of_ble_eq_true rfl⟩) (kPre_V (ci := 1) hK hN hP hD [0] (by decide) rfl 0 rfl rfl) rfl rfl hl.1 rfl (lv_room (Nat.le_of_ble_eq_true rfl)) dX1_readGuest_67 ⟨Nat.le_of_ble_eq_true rfl, Nat.le_of_ble_eq_true rfl⟩) (fun r_ u_ H locs hw hP hD hS => ?_)
              have hw : r_ = (-1 : Int32) := hw
              subst hw
              refine lv_istore (lv' := [(5, .int (-1 : Int32)), (4, .int (nI (kb9 bs (pl + 1) - 48))), (3, .ref (a k)), (0, .ref (ta 0)), (1, .ref (a k)), (2, .ref (b k2))]) hx hb dX1_readGuest_70 hl (by decide) rfl (fun ls hl => ?_)
              refine lv_iload hx hb dX1_readGuest_72 (lv_at hl 0 rfl) ?_
              refine lv_iconst (v := (-1 : Int32)) hx hb dX1_readGuest_74 (by decide) ?_
              refine lv_icmp_ne (tgt := 80) hx hb dX1_readGuest_75 (by decide) (fun h => absurd h (by decide)) (fun _ => ?_)
              refine lv_iconst (v := nI 0) hx hb dX1_readGuest_78 (by decide) ?_
              have E : kRG bs ln pl L F = (false, pl + 1 + 1 + 1, L, F) := (kRG_l b_3 b_16 (show kRT bs ln (pl + 1) = (false, pl + 1 + 1 + 1, kb9 bs (pl + 1) - 48, 0, 0) from (by unfold kRT; rw [if_pos k_43, if_neg k_43b]; unfold kRT2; rw [if_pos k_57, if_neg k_67]))).trans (if_neg (by decide))
              have hP : va_P D vwCl (bkF [tW cy ta (bs, ln, (kRG bs ln pl L F).2.1), gW cy a k (kRG bs ln pl L F).2.2.1, gW cy b k2 (kRG bs ln pl L F).2.2.2]) H := by rw [E]; exact hP
              have hD : va_D A (bkF [tW cy ta (bs, ln, (kRG bs ln pl L F).2.1), gW cy a k (kRG bs ln pl L F).2.2.1, gW cy b k2 (kRG bs ln pl L F).2.2.2]) := by rw [E]; exact hD
              exact kr_i (post := fun r_ (u_ : Unit) => r_ = if (kRG bs ln pl L F).1 = true then nI 1 else nI 0) (Bs := fun u_ : Unit => [tW cy ta (bs, ln, (kRG bs ln pl L F).2.1), gW cy a k (kRG bs ln pl L F).2.2.1, gW cy b k2 (kRG bs ln pl L F).2.2.2]) hx hb hr hlocks rfl () hP hK hD hS (by rw [E]; rfl) dX1_readGuest_79 hQ
          · skip
            refine kc_i (Cs := [tW cy ta (bs, ln, pl + 1 + 1)]) (Rs := [gW cy a k L, gW cy b k2 F]) (Bs := [tW cy ta (bs, ln, pl + 1 + 1), gW cy a k L, gW cy b k2 F]) (Cs' := fun u_ : Unit => [tW cy ta (bs, ln, pl + 1 + 1)]) (Fs := fun u_ : Unit => [tW cy ta (bs, ln, pl + 1 + 1), gW cy a k L, gW cy b k2 F]) hP hD hS hA [0] [1, 2] [2, 0, 1] rfl rfl (by decide) (by decide) (fun _ => rfl) (va_runV (As := [.int (nI 44)]) (rest := []) ⟨hx, hb, hml, hown, hts⟩ (c_X1_skip_n l D cy ta bs ln (pl + 1 + 1) 44 (by first | assumption | omega | decide) (by first | assumption | omega | decide) k_57 H.size) (cwV 1 hts gX1_readGuest_X1_skip rfl rfl rfl (by decide +kernel) ⟨Nat.le_of_ble_eq_true rfl, Nat.le_of_ble_eq_true rfl⟩) (kPre_V (ci := 1) hK hN hP hD [0] (by decide) rfl 0 rfl rfl) rfl rfl hl.1 rfl (lv_room (Nat.le_of_ble_eq_true rfl)) dX1_readGuest_57 ⟨Nat.le_of_ble_eq_true rfl, Nat.le_of_ble_eq_true rfl⟩) (fun r_ u_ H locs hw hP hD hS => ?_)
            have hw : r_ = nI 0 := hw
            subst hw
            refine lv_if_ne (tgt := 65) hx hb dX1_readGuest_60 (by decide) (fun h => absurd h (by decide)) (fun _ => ?_)
            refine lv_iconst (v := nI 0) hx hb dX1_readGuest_63 (by decide) ?_
            have E : kRG bs ln pl L F = (false, pl + 1 + 1, L, F) := (kRG_l b_3 b_16 (show kRT bs ln (pl + 1) = (false, pl + 1 + 1, kb9 bs (pl + 1) - 48, 0, 0) from (by unfold kRT; rw [if_pos k_43, if_neg k_43b]; unfold kRT2; rw [if_neg k_57]))).trans (if_neg (by decide))
            have hP : va_P D vwCl (bkF [tW cy ta (bs, ln, (kRG bs ln pl L F).2.1), gW cy a k (kRG bs ln pl L F).2.2.1, gW cy b k2 (kRG bs ln pl L F).2.2.2]) H := by rw [E]; exact hP
            have hD : va_D A (bkF [tW cy ta (bs, ln, (kRG bs ln pl L F).2.1), gW cy a k (kRG bs ln pl L F).2.2.1, gW cy b k2 (kRG bs ln pl L F).2.2.2]) := by rw [E]; exact hD
            exact kr_i (post := fun r_ (u_ : Unit) => r_ = if (kRG bs ln pl L F).1 = true then nI 1 else nI 0) (Bs := fun u_ : Unit => [tW cy ta (bs, ln, (kRG bs ln pl L F).2.1), gW cy a k (kRG bs ln pl L F).2.2.1, gW cy b k2 (kRG bs ln pl L F).2.2.2]) hx hb hr hlocks rfl () hP hK hD hS (by rw [E]; rfl) dX1_readGuest_64 hQ
      · skip
        refine kc_i (Cs := [tW cy ta (bs, ln, pl + 1)]) (Rs := [gW cy a k L, gW cy b k2 F]) (Bs := [tW cy ta (bs, ln, pl + 1), gW cy a k L, gW cy b k2 F]) (Cs' := fun u_ : Unit => [tW cy ta (bs, ln, pl + 1 + 1 + 1)]) (Fs := fun u_ : Unit => [tW cy ta (bs, ln, pl + 1 + 1 + 1), gW cy a k L, gW cy b k2 F]) hP hD hS hA [0] [1, 2] [2, 0, 1] rfl rfl (by decide) (by decide) (fun _ => rfl) (va_runV (As := []) (rest := []) ⟨hx, hb, hml, hown, hts⟩ (c_X1_readTokens_2 l D cy ta bs ln (pl + 1) hby (by first | assumption | omega | decide) (by first | assumption | omega | decide) k_43 k_43b H.size) (cwV 0 hts gX1_readGuest_X1_readTokens rfl rfl rfl (by decide +kernel) ⟨Nat.le_of_ble_eq_true rfl, Nat.le_of_ble_eq_true rfl⟩) (kPre_V (ci := 1) hK hN hP hD [0] (by decide) rfl 0 rfl rfl) rfl rfl hl.1 rfl (lv_room (Nat.le_of_ble_eq_true rfl)) dX1_readGuest_43 ⟨Nat.le_of_ble_eq_true rfl, Nat.le_of_ble_eq_true rfl⟩) (fun r_ u_ H locs hw hP hD hS => ?_)
        have hw : r_ = nI (10 * (kb9 bs (pl + 1) - 48) + (kb9 bs (pl + 1 + 1) - 48)) := hw
        subst hw
        refine lv_istore (lv' := [(4, .int (nI (10 * (kb9 bs (pl + 1) - 48) + (kb9 bs (pl + 1 + 1) - 48)))), (3, .ref (a k)), (0, .ref (ta 0)), (1, .ref (a k)), (2, .ref (b k2))]) hx hb dX1_readGuest_46 hl (by decide) rfl (fun ls hl => ?_)
        refine lv_iload hx hb dX1_readGuest_48 (lv_at hl 0 rfl) ?_
        refine lv_iconst (v := (-1 : Int32)) hx hb dX1_readGuest_50 (by decide) ?_
        refine lv_icmp_eq (tgt := 63) hx hb dX1_readGuest_51 (by decide) (fun c_51 => False.elim ?_) (fun c_51 => ?_)
        · skip
          exact nI_ne1 (by have := k_43.2.2; have := k_43b.2.2; omega) c_51
        · skip
          refine lv_aload_n hx hb dX1_readGuest_54 rfl (lv_at hl 2 rfl) ?_
          refine lv_bipush (v := nI 44) hx hb dX1_readGuest_55 (by decide) ?_
          by_cases k_57 : kIs bs ln (pl + 1 + 1 + 1) 44
          · skip
            refine kc_i (Cs := [tW cy ta (bs, ln, pl + 1 + 1 + 1)]) (Rs := [gW cy a k L, gW cy b k2 F]) (Bs := [tW cy ta (bs, ln, pl + 1 + 1 + 1), gW cy a k L, gW cy b k2 F]) (Cs' := fun u_ : Unit => [tW cy ta (bs, ln, pl + 1 + 1 + 1 + 1)]) (Fs := fun u_ : Unit => [tW cy ta (bs, ln, pl + 1 + 1 + 1 + 1), gW cy a k L, gW cy b k2 F]) hP hD hS hA [0] [1, 2] [2, 0, 1] rfl rfl (by decide) (by decide) (fun _ => rfl) (va_runV (As := [.int (nI 44)]) (rest := []) ⟨hx, hb, hml, hown, hts⟩ (c_X1_skip_y l D cy ta bs ln (pl + 1 + 1 + 1) 44 (by first | assumption | omega | decide) (by first | assumption | omega | decide) k_57 H.size) (cwV 1 hts gX1_readGuest_X1_skip rfl rfl rfl (by decide +kernel) ⟨Nat.le_of_ble_eq_true rfl, Nat.le_of_ble_eq_true rfl⟩) (kPre_V (ci := 1) hK hN hP hD [0] (by decide) rfl 0 rfl rfl) rfl rfl hl.1 rfl (lv_room (Nat.le_of_ble_eq_true rfl)) dX1_readGuest_57 ⟨Nat.le_of_ble_eq_true rfl, Nat.le_of_ble_eq_true rfl⟩) (fun r_ u_ H locs hw hP hD hS => ?_)
            have hw : r_ = nI 1 := hw
            subst hw
            refine lv_if_ne (tgt := 65) hx hb dX1_readGuest_60 (by decide) (fun _ => ?_) (fun h => absurd h (by decide))
            refine lv_aload_n hx hb dX1_readGuest_65 rfl (lv_at hl 2 rfl) ?_
            refine lv_iconst (v := nI 1) hx hb dX1_readGuest_66 (by decide) ?_
            by_cases k_67 : kDig bs ln (pl + 1 + 1 + 1 + 1) 1
            · skip
              refine kc_i (Cs := [tW cy ta (bs, ln, pl + 1 + 1 + 1 + 1)]) (Rs := [gW cy a k L, gW cy b k2 F]) (Bs := [tW cy ta (bs, ln, pl + 1 + 1 + 1 + 1), gW cy a k L, gW cy b k2 F]) (Cs' := fun u_ : Unit => [tW cy ta (bs, ln, pl + 1 + 1 + 1 + 1 + 1)]) (Fs := fun u_ : Unit => [tW cy ta (bs, ln, pl + 1 + 1 + 1 + 1 + 1), gW cy a k L, gW cy b k2 F]) hP hD hS hA [0] [1, 2] [2, 0, 1] rfl rfl (by decide) (by decide) (fun _ => rfl) (va_runV (As := [.int (nI 1)]) (rest := []) ⟨hx, hb, hml, hown, hts⟩ (c_X1_readDigit_y l D cy ta bs ln (pl + 1 + 1 + 1 + 1) 1 hby (by first | assumption | omega | decide) (by first | assumption | omega | decide) (by first | assumption | omega | decide) k_67 H.size) (cwV 1 hts gX1_readGuest_X1_readDigit rfl rfl rfl (by decide +kernel) ⟨Nat.le_of_ble_eq_true rfl, Nat.le_of_ble_eq_true rfl⟩) (kPre_V (ci := 1) hK hN hP hD [0] (by decide) rfl 0 rfl rfl) rfl rfl hl.1 rfl (lv_room (Nat.le_of_ble_eq_true rfl)) dX1_readGuest_67 ⟨Nat.le_of_ble_eq_true rfl, Nat.le_of_ble_eq_true rfl⟩) (fun r_ u_ H locs hw hP hD hS => ?_)
              have hw : r_ = nI (kb9 bs (pl + 1 + 1 + 1 + 1) - 48) := hw
              subst hw
              refine lv_istore (lv' := [(5, .int (nI (kb9 bs (pl + 1 + 1 + 1 + 1) - 48))), (4, .int (nI (10 * (kb9 bs (pl + 1) - 48) + (kb9 bs (pl + 1 + 1) - 48)))), (3, .ref (a k)), (0, .ref (ta 0)), (1, .ref (a k)), (2, .ref (b k2))]) hx hb dX1_readGuest_70 hl (by decide) rfl (fun ls hl => ?_)
              refine lv_iload hx hb dX1_readGuest_72 (lv_at hl 0 rfl) ?_
              refine lv_iconst (v := (-1 : Int32)) hx hb dX1_readGuest_74 (by decide) ?_
              refine lv_icmp_ne (tgt := 80) hx hb dX1_readGuest_75 (by decide) (fun c_75 => ?_) (fun c_75 => False.elim ?_)
              · skip
                refine lv_aload_n hx hb dX1_readGuest_80 rfl (lv_at hl 3 rfl) ?_
                refine lv_bipush (v := nI 45) hx hb dX1_readGuest_81 (by decide) ?_
                by_cases k_83 : kIs bs ln (pl + 1 + 1 + 1 + 1 + 1) 45
                · skip
                  refine kc_i (Cs := [tW cy ta (bs, ln, pl + 1 + 1 + 1 + 1 + 1)]) (Rs := [gW cy a k L, gW cy b k2 F]) (Bs := [tW cy ta (bs, ln, pl + 1 + 1 + 1 + 1 + 1), gW cy a k L, gW cy b k2 F]) (Cs' := fun u_ : Unit => [tW cy ta (bs, ln, pl + 1 + 1 + 1 + 1 + 1 + 1)]) (Fs := fun u_ : Unit => [tW cy ta (bs, ln, pl + 1 + 1 + 1 + 1 + 1 + 1), gW cy a k L, gW cy b k2 F]) hP hD hS hA [0] [1, 2] [2, 0, 1] rfl rfl (by decide) (by decide) (fun _ => rfl) (va_runV (As := [.int (nI 45)]) (rest := []) ⟨hx, hb, hml, hown, hts⟩ (c_X1_skip_y l D cy ta bs ln (pl + 1 + 1 + 1 + 1 + 1) 45 (by first | assumption | omega | decide) (by first | assumption | omega | decide) k_83 H.size) (cwV 1 hts gX1_readGuest_X1_skip rfl rfl rfl (by decide +kernel) ⟨Nat.le_of_ble_eq_true rfl, Nat.le_of_ble_eq_true rfl⟩) (kPre_V (ci := 1) hK hN hP hD [0] (by decide) rfl 0 rfl rfl) rfl rfl hl.1 rfl (lv_room (Nat.le_of_ble_eq_true rfl)) dX1_readGuest_83 ⟨Nat.le_of_ble_eq_true rfl, Nat.le_of_ble_eq_true rfl⟩) (fun r_ u_ H locs hw hP hD hS => ?_)
                  have hw : r_ = nI 1 := hw
                  subst hw
                  refine lv_if_ne (tgt := 93) hx hb dX1_readGuest_86 (by decide) (fun _ => ?_) (fun h => absurd h (by decide))
                  refine lv_iconst (v := nI 0) hx hb dX1_readGuest_93 (by decide) ?_
                  refine lv_istore (lv' := [(6, .int (nI 0)), (5, .int (nI (kb9 bs (pl + 1 + 1 + 1 + 1) - 48))), (4, .int (nI (10 * (kb9 bs (pl + 1) - 48) + (kb9 bs (pl + 1 + 1) - 48)))), (3, .ref (a k)), (0, .ref (ta 0)), (1, .ref (a k)), (2, .ref (b k2))]) hx hb dX1_readGuest_94 hl (by decide) rfl (fun ls hl => ?_)
                  refine lv_aload_n hx hb dX1_readGuest_96 rfl (lv_at hl 4 rfl) ?_
                  refine lv_bipush (v := nI 59) hx hb dX1_readGuest_97 (by decide) ?_
                  by_cases k_99 : kIs bs ln (pl + 1 + 1 + 1 + 1 + 1 + 1) 59
                  · skip
                    refine kc_i (Cs := [tW cy ta (bs, ln, pl + 1 + 1 + 1 + 1 + 1 + 1)]) (Rs := [gW cy a k L, gW cy b k2 F]) (Bs := [tW cy ta (bs, ln, pl + 1 + 1 + 1 + 1 + 1 + 1), gW cy a k L, gW cy b k2 F]) (Cs' := fun u_ : Unit => [tW cy ta (bs, ln, pl + 1 + 1 + 1 + 1 + 1 + 1 + 1)]) (Fs := fun u_ : Unit => [tW cy ta (bs, ln, pl + 1 + 1 + 1 + 1 + 1 + 1 + 1), gW cy a k L, gW cy b k2 F]) hP hD hS hA [0] [1, 2] [2, 0, 1] rfl rfl (by decide) (by decide) (fun _ => rfl) (va_runV (As := [.int (nI 59)]) (rest := []) ⟨hx, hb, hml, hown, hts⟩ (c_X1_skip_y l D cy ta bs ln (pl + 1 + 1 + 1 + 1 + 1 + 1) 59 (by first | assumption | omega | decide) (by first | assumption | omega | decide) k_99 H.size) (cwV 1 hts gX1_readGuest_X1_skip rfl rfl rfl (by decide +kernel) ⟨Nat.le_of_ble_eq_true rfl, Nat.le_of_ble_eq_true rfl⟩) (kPre_V (ci := 1) hK hN hP hD [0] (by decide) rfl 0 rfl rfl) rfl rfl hl.1 rfl (lv_room (Nat.le_of_ble_eq_true rfl)) dX1_readGuest_99 ⟨Nat.le_of_ble_eq_true rfl, Nat.le_of_ble_eq_true rfl⟩) (fun r_ u_ H locs hw hP hD hS => ?_)
                    have hw : r_ = nI 1 := hw
                    subst hw
                    refine lv_if_ne (tgt := 107) hx hb dX1_readGuest_102 (by decide) (fun _ => ?_) (fun h => absurd h (by decide))
                    refine lv_aload_n hx hb dX1_readGuest_107 rfl (lv_at hl 3 rfl) ?_
                    refine lv_iload hx hb dX1_readGuest_108 (lv_at hl 2 rfl) ?_
                    refine lv_iload hx hb dX1_readGuest_110 (lv_at hl 1 rfl) ?_
                    refine lv_iload hx hb dX1_readGuest_112 (lv_at hl 0 rfl) ?_
                    refine kc_i (Cs := [gW cy a k L]) (Rs := [tW cy ta (bs, ln, pl + 1 + 1 + 1 + 1 + 1 + 1 + 1), gW cy b k2 F]) (Bs := [tW cy ta (bs, ln, pl + 1 + 1 + 1 + 1 + 1 + 1 + 1), gW cy a k L, gW cy b k2 F]) (Cs' := fun u_ : Unit => [gW cy a k (upd L.1 L.2.2.2.2.2 (nI (10 * (kb9 bs (pl + 1) - 48) + (kb9 bs (pl + 1 + 1) - 48))), upd L.2.1 L.2.2.2.2.2 (nI (kb9 bs (pl + 1 + 1 + 1 + 1) - 48)), upd L.2.2.1 L.2.2.2.2.2 (nI 0), upd L.2.2.2.1 L.2.2.2.2.2 (nI 1), upd L.2.2.2.2.1 L.2.2.2.2.2 (nI 0), L.2.2.2.2.2 + 1)]) (Fs := fun u_ : Unit => [tW cy ta (bs, ln, pl + 1 + 1 + 1 + 1 + 1 + 1 + 1), gW cy a k (upd L.1 L.2.2.2.2.2 (nI (10 * (kb9 bs (pl + 1) - 48) + (kb9 bs (pl + 1 + 1) - 48))), upd L.2.1 L.2.2.2.2.2 (nI (kb9 bs (pl + 1 + 1 + 1 + 1) - 48)), upd L.2.2.1 L.2.2.2.2.2 (nI 0), upd L.2.2.2.1 L.2.2.2.2.2 (nI 1), upd L.2.2.2.2.1 L.2.2.2.2.2 (nI 0), L.2.2.2.2.2 + 1), gW cy b k2 F]) hP hD hS hA [1] [0, 2] [0, 2, 1] rfl rfl (by decide) (by decide) (fun _ => rfl) (va_runV (As := [.int (nI (10 * (kb9 bs (pl + 1) - 48) + (kb9 bs (pl + 1 + 1) - 48))), .int (nI (kb9 bs (pl + 1 + 1 + 1 + 1) - 48)), .int (nI 0)]) (rest := []) ⟨hx, hb, hml, hown, hts⟩ (c_X2_add l D cy a k L (nI (10 * (kb9 bs (pl + 1) - 48) + (kb9 bs (pl + 1 + 1) - 48))) (nI (kb9 bs (pl + 1 + 1 + 1 + 1) - 48)) (nI 0) (by first | assumption | omega | decide) (by first | assumption | omega | decide) H.size) (cwV 3 hts gX1_readGuest_X2_add rfl rfl rfl (by decide +kernel) ⟨Nat.le_of_ble_eq_true rfl, Nat.le_of_ble_eq_true rfl⟩) (kPre_V (ci := 2) hK hN hP hD [1] (by decide) rfl 0 rfl rfl) rfl rfl hl.1 rfl (lv_room (Nat.le_of_ble_eq_true rfl)) dX1_readGuest_114 ⟨Nat.le_of_ble_eq_true rfl, Nat.le_of_ble_eq_true rfl⟩) (fun r_ u_ H locs hw hP hD hS => ?_)
                    have hw : r_ = nI L.2.2.2.2.2 := hw
                    subst hw
                    refine lv_pop hx hb dX1_readGuest_117 rfl ?_
                    refine lv_iconst (v := nI 1) hx hb dX1_readGuest_118 (by decide) ?_
                    have E : kRG bs ln pl L F = (true, pl + 1 + 1 + 1 + 1 + 1 + 1 + 1, kAdd L (10 * (kb9 bs (pl + 1) - 48) + (kb9 bs (pl + 1 + 1) - 48)) (kb9 bs (pl + 1 + 1 + 1 + 1) - 48) 0, F) := (kRG_l b_3 b_16 (show kRT bs ln (pl + 1) = (true, pl + 1 + 1 + 1 + 1 + 1 + 1 + 1, 10 * (kb9 bs (pl + 1) - 48) + (kb9 bs (pl + 1 + 1) - 48), kb9 bs (pl + 1 + 1 + 1 + 1) - 48, 0) from (by unfold kRT; rw [if_pos k_43, if_pos k_43b]; unfold kRT2; rw [if_pos k_57, if_pos k_67, if_pos k_83, if_pos k_99]))).trans (if_pos rfl)
                    have hP : va_P D vwCl (bkF [tW cy ta (bs, ln, (kRG bs ln pl L F).2.1), gW cy a k (kRG bs ln pl L F).2.2.1, gW cy b k2 (kRG bs ln pl L F).2.2.2]) H := by rw [E]; exact hP
                    have hD : va_D A (bkF [tW cy ta (bs, ln, (kRG bs ln pl L F).2.1), gW cy a k (kRG bs ln pl L F).2.2.1, gW cy b k2 (kRG bs ln pl L F).2.2.2]) := by rw [E]; exact hD
                    exact kr_i (post := fun r_ (u_ : Unit) => r_ = if (kRG bs ln pl L F).1 = true then nI 1 else nI 0) (Bs := fun u_ : Unit => [tW cy ta (bs, ln, (kRG bs ln pl L F).2.1), gW cy a k (kRG bs ln pl L F).2.2.1, gW cy b k2 (kRG bs ln pl L F).2.2.2]) hx hb hr hlocks rfl () hP hK hD hS (by rw [E]; rfl) dX1_readGuest_119 hQ
                  · skip
                    refine kc_i (Cs := [tW cy ta (bs, ln, pl + 1 + 1 + 1 + 1 + 1 + 1)]) (Rs := [gW cy a k L, gW cy b k2 F]) (Bs := [tW cy ta (bs, ln, pl + 1 + 1 + 1 + 1 + 1 + 1), gW cy a k L, gW cy b k2 F]) (Cs' := fun u_ : Unit => [tW cy ta (bs, ln, pl + 1 + 1 + 1 + 1 + 1 + 1)]) (Fs := fun u_ : Unit => [tW cy ta (bs, ln, pl + 1 + 1 + 1 + 1 + 1 + 1), gW cy a k L, gW cy b k2 F]) hP hD hS hA [0] [1, 2] [2, 0, 1] rfl rfl (by decide) (by decide) (fun _ => rfl) (va_runV (As := [.int (nI 59)]) (rest := []) ⟨hx, hb, hml, hown, hts⟩ (c_X1_skip_n l D cy ta bs ln (pl + 1 + 1 + 1 + 1 + 1 + 1) 59 (by first | assumption | omega | decide) (by first | assumption | omega | decide) k_99 H.size) (cwV 1 hts gX1_readGuest_X1_skip rfl rfl rfl (by decide +kernel) ⟨Nat.le_of_ble_eq_true rfl, Nat.le_of_ble_eq_true rfl⟩) (kPre_V (ci := 1) hK hN hP hD [0] (by decide) rfl 0 rfl rfl) rfl rfl hl.1 rfl (lv_room (Nat.le_of_ble_eq_true rfl)) dX1_readGuest_99 ⟨Nat.le_of_ble_eq_true rfl, Nat.le_of_ble_eq_true rfl⟩) (fun r_ u_ H locs hw hP hD hS => ?_)
                    have hw : r_ = nI 0 := hw
                    subst hw
                    refine lv_if_ne (tgt := 107) hx hb dX1_readGuest_102 (by decide) (fun h => absurd h (by decide)) (fun _ => ?_)
                    refine lv_iconst (v := nI 0) hx hb dX1_readGuest_105 (by decide) ?_
                    have E : kRG bs ln pl L F = (false, pl + 1 + 1 + 1 + 1 + 1 + 1, L, F) := (kRG_l b_3 b_16 (show kRT bs ln (pl + 1) = (false, pl + 1 + 1 + 1 + 1 + 1 + 1, 10 * (kb9 bs (pl + 1) - 48) + (kb9 bs (pl + 1 + 1) - 48), kb9 bs (pl + 1 + 1 + 1 + 1) - 48, 0) from (by unfold kRT; rw [if_pos k_43, if_pos k_43b]; unfold kRT2; rw [if_pos k_57, if_pos k_67, if_pos k_83, if_neg k_99]))).trans (if_neg (by decide))
                    have hP : va_P D vwCl (bkF [tW cy ta (bs, ln, (kRG bs ln pl L F).2.1), gW cy a k (kRG bs ln pl L F).2.2.1, gW cy b k2 (kRG bs ln pl L F).2.2.2]) H := by rw [E]; exact hP
                    have hD : va_D A (bkF [tW cy ta (bs, ln, (kRG bs ln pl L F).2.1), gW cy a k (kRG bs ln pl L F).2.2.1, gW cy b k2 (kRG bs ln pl L F).2.2.2]) := by rw [E]; exact hD
                    exact kr_i (post := fun r_ (u_ : Unit) => r_ = if (kRG bs ln pl L F).1 = true then nI 1 else nI 0) (Bs := fun u_ : Unit => [tW cy ta (bs, ln, (kRG bs ln pl L F).2.1), gW cy a k (kRG bs ln pl L F).2.2.1, gW cy b k2 (kRG bs ln pl L F).2.2.2]) hx hb hr hlocks rfl () hP hK hD hS (by rw [E]; rfl) dX1_readGuest_106 hQ
                · skip
                  refine kc_i (Cs := [tW cy ta (bs, ln, pl + 1 + 1 + 1 + 1 + 1)]) (Rs := [gW cy a k L, gW cy b k2 F]) (Bs := [tW cy ta (bs, ln, pl + 1 + 1 + 1 + 1 + 1), gW cy a k L, gW cy b k2 F]) (Cs' := fun u_ : Unit => [tW cy ta (bs, ln, pl + 1 + 1 + 1 + 1 + 1)]) (Fs := fun u_ : Unit => [tW cy ta (bs, ln, pl + 1 + 1 + 1 + 1 + 1), gW cy a k L, gW cy b k2 F]) hP hD hS hA [0] [1, 2] [2, 0, 1] rfl rfl (by decide) (by decide) (fun _ => rfl) (va_runV (As := [.int (nI 45)]) (rest := []) ⟨hx, hb, hml, hown, hts⟩ (c_X1_skip_n l D cy ta bs ln (pl + 1 + 1 + 1 + 1 + 1) 45 (by first | assumption | omega | decide) (by first | assumption | omega | decide) k_83 H.size) (cwV 1 hts gX1_readGuest_X1_skip rfl rfl rfl (by decide +kernel) ⟨Nat.le_of_ble_eq_true rfl, Nat.le_of_ble_eq_true rfl⟩) (kPre_V (ci := 1) hK hN hP hD [0] (by decide) rfl 0 rfl rfl) rfl rfl hl.1 rfl (lv_room (Nat.le_of_ble_eq_true rfl)) dX1_readGuest_83 ⟨Nat.le_of_ble_eq_true rfl, Nat.le_of_ble_eq_true rfl⟩) (fun r_ u_ H locs hw hP hD hS => ?_)
                  have hw : r_ = nI 0 := hw
                  subst hw
                  refine lv_if_ne (tgt := 93) hx hb dX1_readGuest_86 (by decide) (fun h => absurd h (by decide)) (fun _ => ?_)
                  refine lv_iconst (v := nI 1) hx hb dX1_readGuest_89 (by decide) ?_
                  refine lv_goto (tgt := 94) hx hb dX1_readGuest_90 (by decide) ?_
                  refine lv_istore (lv' := [(6, .int (nI 1)), (5, .int (nI (kb9 bs (pl + 1 + 1 + 1 + 1) - 48))), (4, .int (nI (10 * (kb9 bs (pl + 1) - 48) + (kb9 bs (pl + 1 + 1) - 48)))), (3, .ref (a k)), (0, .ref (ta 0)), (1, .ref (a k)), (2, .ref (b k2))]) hx hb dX1_readGuest_94 hl (by decide) rfl (fun ls hl => ?_)
                  refine lv_aload_n hx hb dX1_readGuest_96 rfl (lv_at hl 4 rfl) ?_
                  refine lv_bipush (v := nI 59) hx hb dX1_readGuest_97 (by decide) ?_
                  by_cases k_99 : kIs bs ln (pl + 1 + 1 + 1 + 1 + 1) 59
                  · skip
                    refine kc_i (Cs := [tW cy ta (bs, ln, pl + 1 + 1 + 1 + 1 + 1)]) (Rs := [gW cy a k L, gW cy b k2 F]) (Bs := [tW cy ta (bs, ln, pl + 1 + 1 + 1 + 1 + 1), gW cy a k L, gW cy b k2 F]) (Cs' := fun u_ : Unit => [tW cy ta (bs, ln, pl + 1 + 1 + 1 + 1 + 1 + 1)]) (Fs := fun u_ : Unit => [tW cy ta (bs, ln, pl + 1 + 1 + 1 + 1 + 1 + 1), gW cy a k L, gW cy b k2 F]) hP hD hS hA [0] [1, 2] [2, 0, 1] rfl rfl (by decide) (by decide) (fun _ => rfl) (va_runV (As := [.int (nI 59)]) (rest := []) ⟨hx, hb, hml, hown, hts⟩ (c_X1_skip_y l D cy ta bs ln (pl + 1 + 1 + 1 + 1 + 1) 59 (by first | assumption | omega | decide) (by first | assumption | omega | decide) k_99 H.size) (cwV 1 hts gX1_readGuest_X1_skip rfl rfl rfl (by decide +kernel) ⟨Nat.le_of_ble_eq_true rfl, Nat.le_of_ble_eq_true rfl⟩) (kPre_V (ci := 1) hK hN hP hD [0] (by decide) rfl 0 rfl rfl) rfl rfl hl.1 rfl (lv_room (Nat.le_of_ble_eq_true rfl)) dX1_readGuest_99 ⟨Nat.le_of_ble_eq_true rfl, Nat.le_of_ble_eq_true rfl⟩) (fun r_ u_ H locs hw hP hD hS => ?_)
                    have hw : r_ = nI 1 := hw
                    subst hw
                    refine lv_if_ne (tgt := 107) hx hb dX1_readGuest_102 (by decide) (fun _ => ?_) (fun h => absurd h (by decide))
                    refine lv_aload_n hx hb dX1_readGuest_107 rfl (lv_at hl 3 rfl) ?_
                    refine lv_iload hx hb dX1_readGuest_108 (lv_at hl 2 rfl) ?_
                    refine lv_iload hx hb dX1_readGuest_110 (lv_at hl 1 rfl) ?_
                    refine lv_iload hx hb dX1_readGuest_112 (lv_at hl 0 rfl) ?_
                    refine kc_i (Cs := [gW cy a k L]) (Rs := [tW cy ta (bs, ln, pl + 1 + 1 + 1 + 1 + 1 + 1), gW cy b k2 F]) (Bs := [tW cy ta (bs, ln, pl + 1 + 1 + 1 + 1 + 1 + 1), gW cy a k L, gW cy b k2 F]) (Cs' := fun u_ : Unit => [gW cy a k (upd L.1 L.2.2.2.2.2 (nI (10 * (kb9 bs (pl + 1) - 48) + (kb9 bs (pl + 1 + 1) - 48))), upd L.2.1 L.2.2.2.2.2 (nI (kb9 bs (pl + 1 + 1 + 1 + 1) - 48)), upd L.2.2.1 L.2.2.2.2.2 (nI 1), upd L.2.2.2.1 L.2.2.2.2.2 (nI 1), upd L.2.2.2.2.1 L.2.2.2.2.2 (nI 0), L.2.2.2.2.2 + 1)]) (Fs := fun u_ : Unit => [tW cy ta (bs, ln, pl + 1 + 1 + 1 + 1 + 1 + 1), gW cy a k (upd L.1 L.2.2.2.2.2 (nI (10 * (kb9 bs (pl + 1) - 48) + (kb9 bs (pl + 1 + 1) - 48))), upd L.2.1 L.2.2.2.2.2 (nI (kb9 bs (pl + 1 + 1 + 1 + 1) - 48)), upd L.2.2.1 L.2.2.2.2.2 (nI 1), upd L.2.2.2.1 L.2.2.2.2.2 (nI 1), upd L.2.2.2.2.1 L.2.2.2.2.2 (nI 0), L.2.2.2.2.2 + 1), gW cy b k2 F]) hP hD hS hA [1] [0, 2] [0, 2, 1] rfl rfl (by decide) (by decide) (fun _ => rfl) (va_runV (As := [.int (nI (10 * (kb9 bs (pl + 1) - 48) + (kb9 bs (pl + 1 + 1) - 48))), .int (nI (kb9 bs (pl + 1 + 1 + 1 + 1) - 48)), .int (nI 1)]) (rest := []) ⟨hx, hb, hml, hown, hts⟩ (c_X2_add l D cy a k L (nI (10 * (kb9 bs (pl + 1) - 48) + (kb9 bs (pl + 1 + 1) - 48))) (nI (kb9 bs (pl + 1 + 1 + 1 + 1) - 48)) (nI 1) (by first | assumption | omega | decide) (by first | assumption | omega | decide) H.size) (cwV 3 hts gX1_readGuest_X2_add rfl rfl rfl (by decide +kernel) ⟨Nat.le_of_ble_eq_true rfl, Nat.le_of_ble_eq_true rfl⟩) (kPre_V (ci := 2) hK hN hP hD [1] (by decide) rfl 0 rfl rfl) rfl rfl hl.1 rfl (lv_room (Nat.le_of_ble_eq_true rfl)) dX1_readGuest_114 ⟨Nat.le_of_ble_eq_true rfl, Nat.le_of_ble_eq_true rfl⟩) (fun r_ u_ H locs hw hP hD hS => ?_)
                    have hw : r_ = nI L.2.2.2.2.2 := hw
                    subst hw
                    refine lv_pop hx hb dX1_readGuest_117 rfl ?_
                    refine lv_iconst (v := nI 1) hx hb dX1_readGuest_118 (by decide) ?_
                    have E : kRG bs ln pl L F = (true, pl + 1 + 1 + 1 + 1 + 1 + 1, kAdd L (10 * (kb9 bs (pl + 1) - 48) + (kb9 bs (pl + 1 + 1) - 48)) (kb9 bs (pl + 1 + 1 + 1 + 1) - 48) 1, F) := (kRG_l b_3 b_16 (show kRT bs ln (pl + 1) = (true, pl + 1 + 1 + 1 + 1 + 1 + 1, 10 * (kb9 bs (pl + 1) - 48) + (kb9 bs (pl + 1 + 1) - 48), kb9 bs (pl + 1 + 1 + 1 + 1) - 48, 1) from (by unfold kRT; rw [if_pos k_43, if_pos k_43b]; unfold kRT2; rw [if_pos k_57, if_pos k_67, if_neg k_83, if_pos k_99]))).trans (if_pos rfl)
                    have hP : va_P D vwCl (bkF [tW cy ta (bs, ln, (kRG bs ln pl L F).2.1), gW cy a k (kRG bs ln pl L F).2.2.1, gW cy b k2 (kRG bs ln pl L F).2.2.2]) H := by rw [E]; exact hP
                    have hD : va_D A (bkF [tW cy ta (bs, ln, (kRG bs ln pl L F).2.1), gW cy a k (kRG bs ln pl L F).2.2.1, gW cy b k2 (kRG bs ln pl L F).2.2.2]) := by rw [E]; exact hD
                    exact kr_i (post := fun r_ (u_ : Unit) => r_ = if (kRG bs ln pl L F).1 = true then nI 1 else nI 0) (Bs := fun u_ : Unit => [tW cy ta (bs, ln, (kRG bs ln pl L F).2.1), gW cy a k (kRG bs ln pl L F).2.2.1, gW cy b k2 (kRG bs ln pl L F).2.2.2]) hx hb hr hlocks rfl () hP hK hD hS (by rw [E]; rfl) dX1_readGuest_119 hQ
                  · skip
                    refine kc_i (Cs := [tW cy ta (bs, ln, pl + 1 + 1 + 1 + 1 + 1)]) (Rs := [gW cy a k L, gW cy b k2 F]) (Bs := [tW cy ta (bs, ln, pl + 1 + 1 + 1 + 1 + 1), gW cy a k L, gW cy b k2 F]) (Cs' := fun u_ : Unit => [tW cy ta (bs, ln, pl + 1 + 1 + 1 + 1 + 1)]) (Fs := fun u_ : Unit => [tW cy ta (bs, ln, pl + 1 + 1 + 1 + 1 + 1), gW cy a k L, gW cy b k2 F]) hP hD hS hA [0] [1, 2] [2, 0, 1] rfl rfl (by decide) (by decide) (fun _ => rfl) (va_runV (As := [.int (nI 59)]) (rest := []) ⟨hx, hb, hml, hown, hts⟩ (c_X1_skip_n l D cy ta bs ln (pl + 1 + 1 + 1 + 1 + 1) 59 (by first | assumption | omega | decide) (by first | assumption | omega | decide) k_99 H.size) (cwV 1 hts gX1_readGuest_X1_skip rfl rfl rfl (by decide +kernel) ⟨Nat.le_of_ble_eq_true rfl, Nat.le_of_ble_eq_true rfl⟩) (kPre_V (ci := 1) hK hN hP hD [0] (by decide) rfl 0 rfl rfl) rfl rfl hl.1 rfl (lv_room (Nat.le_of_ble_eq_true rfl)) dX1_readGuest_99 ⟨Nat.le_of_ble_eq_true rfl, Nat.le_of_ble_eq_true rfl⟩) (fun r_ u_ H locs hw hP hD hS => ?_)
                    have hw : r_ = nI 0 := hw
                    subst hw
                    refine lv_if_ne (tgt := 107) hx hb dX1_readGuest_102 (by decide) (fun h => absurd h (by decide)) (fun _ => ?_)
                    refine lv_iconst (v := nI 0) hx hb dX1_readGuest_105 (by decide) ?_
                    have E : kRG bs ln pl L F = (false, pl + 1 + 1 + 1 + 1 + 1, L, F) := (kRG_l b_3 b_16 (show kRT bs ln (pl + 1) = (false, pl + 1 + 1 + 1 + 1 + 1, 10 * (kb9 bs (pl + 1) - 48) + (kb9 bs (pl + 1 + 1) - 48), kb9 bs (pl + 1 + 1 + 1 + 1) - 48, 1) from (by unfold kRT; rw [if_pos k_43, if_pos k_43b]; unfold kRT2; rw [if_pos k_57, if_pos k_67, if_neg k_83, if_neg k_99]))).trans (if_neg (by decide))
                    have hP : va_P D vwCl (bkF [tW cy ta (bs, ln, (kRG bs ln pl L F).2.1), gW cy a k (kRG bs ln pl L F).2.2.1, gW cy b k2 (kRG bs ln pl L F).2.2.2]) H := by rw [E]; exact hP
                    have hD : va_D A (bkF [tW cy ta (bs, ln, (kRG bs ln pl L F).2.1), gW cy a k (kRG bs ln pl L F).2.2.1, gW cy b k2 (kRG bs ln pl L F).2.2.2]) := by rw [E]; exact hD
                    exact kr_i (post := fun r_ (u_ : Unit) => r_ = if (kRG bs ln pl L F).1 = true then nI 1 else nI 0) (Bs := fun u_ : Unit => [tW cy ta (bs, ln, (kRG bs ln pl L F).2.1), gW cy a k (kRG bs ln pl L F).2.2.1, gW cy b k2 (kRG bs ln pl L F).2.2.2]) hx hb hr hlocks rfl () hP hK hD hS (by rw [E]; rfl) dX1_readGuest_106 hQ
              · skip
                exact nI_ne1 (by have := k_67.2.2; omega) c_75
            · skip
              refine kc_i (Cs := [tW cy ta (bs, ln, pl + 1 + 1 + 1 + 1)]) (Rs := [gW cy a k L, gW cy b k2 F]) (Bs := [tW cy ta (bs, ln, pl + 1 + 1 + 1 + 1), gW cy a k L, gW cy b k2 F]) (Cs' := fun u_ : Unit => [tW cy ta (bs, ln, pl + 1 + 1 + 1 + 1)]) (Fs := fun u_ : Unit => [tW cy ta (bs, ln, pl + 1 + 1 + 1 + 1), gW cy a k L, gW cy b k2 F]) hP hD hS hA [0] [1, 2] [2, 0, 1] rfl rfl (by decide) (by decide) (fun _ => rfl) (va_runV (As := [.int (nI 1)]) (rest := []) ⟨hx, hb, hml, hown, hts⟩ (c_X1_readDigit_n l D cy ta bs ln (pl + 1 + 1 + 1 + 1) 1 hby (by first | assumption | omega | decide) (by first | assumption | omega | decide) (by first | assumption | omega | decide) k_67 H.size) (cwV 1 hts gX1_readGuest_X1_readDigit rfl rfl rfl (by decide +kernel) ⟨Nat.le_of_ble_eq_true rfl, Nat.le_of_ble_eq_true rfl⟩) (kPre_V (ci := 1) hK hN hP hD [0] (by decide) rfl 0 rfl rfl) rfl rfl hl.1 rfl (lv_room (Nat.le_of_ble_eq_true rfl)) dX1_readGuest_67 ⟨Nat.le_of_ble_eq_true rfl, Nat.le_of_ble_eq_true rfl⟩) (fun r_ u_ H locs hw hP hD hS => ?_)
              have hw : r_ = (-1 : Int32) := hw
              subst hw
              refine lv_istore (lv' := [(5, .int (-1 : Int32)), (4, .int (nI (10 * (kb9 bs (pl + 1) - 48) + (kb9 bs (pl + 1 + 1) - 48)))), (3, .ref (a k)), (0, .ref (ta 0)), (1, .ref (a k)), (2, .ref (b k2))]) hx hb dX1_readGuest_70 hl (by decide) rfl (fun ls hl => ?_)
              refine lv_iload hx hb dX1_readGuest_72 (lv_at hl 0 rfl) ?_
              refine lv_iconst (v := (-1 : Int32)) hx hb dX1_readGuest_74 (by decide) ?_
              refine lv_icmp_ne (tgt := 80) hx hb dX1_readGuest_75 (by decide) (fun h => absurd h (by decide)) (fun _ => ?_)
              refine lv_iconst (v := nI 0) hx hb dX1_readGuest_78 (by decide) ?_
              have E : kRG bs ln pl L F = (false, pl + 1 + 1 + 1 + 1, L, F) := (kRG_l b_3 b_16 (show kRT bs ln (pl + 1) = (false, pl + 1 + 1 + 1 + 1, 10 * (kb9 bs (pl + 1) - 48) + (kb9 bs (pl + 1 + 1) - 48), 0, 0) from (by unfold kRT; rw [if_pos k_43, if_pos k_43b]; unfold kRT2; rw [if_pos k_57, if_neg k_67]))).trans (if_neg (by decide))
              have hP : va_P D vwCl (bkF [tW cy ta (bs, ln, (kRG bs ln pl L F).2.1), gW cy a k (kRG bs ln pl L F).2.2.1, gW cy b k2 (kRG bs ln pl L F).2.2.2]) H := by rw [E]; exact hP
              have hD : va_D A (bkF [tW cy ta (bs, ln, (kRG bs ln pl L F).2.1), gW cy a k (kRG bs ln pl L F).2.2.1, gW cy b k2 (kRG bs ln pl L F).2.2.2]) := by rw [E]; exact hD
              exact kr_i (post := fun r_ (u_ : Unit) => r_ = if (kRG bs ln pl L F).1 = true then nI 1 else nI 0) (Bs := fun u_ : Unit => [tW cy ta (bs, ln, (kRG bs ln pl L F).2.1), gW cy a k (kRG bs ln pl L F).2.2.1, gW cy b k2 (kRG bs ln pl L F).2.2.2]) hx hb hr hlocks rfl () hP hK hD hS (by rw [E]; rfl) dX1_readGuest_79 hQ
          · skip
            refine kc_i (Cs := [tW cy ta (bs, ln, pl + 1 + 1 + 1)]) (Rs := [gW cy a k L, gW cy b k2 F]) (Bs := [tW cy ta (bs, ln, pl + 1 + 1 + 1), gW cy a k L, gW cy b k2 F]) (Cs' := fun u_ : Unit => [tW cy ta (bs, ln, pl + 1 + 1 + 1)]) (Fs := fun u_ : Unit => [tW cy ta (bs, ln, pl + 1 + 1 + 1), gW cy a k L, gW cy b k2 F]) hP hD hS hA [0] [1, 2] [2, 0, 1] rfl rfl (by decide) (by decide) (fun _ => rfl) (va_runV (As := [.int (nI 44)]) (rest := []) ⟨hx, hb, hml, hown, hts⟩ (c_X1_skip_n l D cy ta bs ln (pl + 1 + 1 + 1) 44 (by first | assumption | omega | decide) (by first | assumption | omega | decide) k_57 H.size) (cwV 1 hts gX1_readGuest_X1_skip rfl rfl rfl (by decide +kernel) ⟨Nat.le_of_ble_eq_true rfl, Nat.le_of_ble_eq_true rfl⟩) (kPre_V (ci := 1) hK hN hP hD [0] (by decide) rfl 0 rfl rfl) rfl rfl hl.1 rfl (lv_room (Nat.le_of_ble_eq_true rfl)) dX1_readGuest_57 ⟨Nat.le_of_ble_eq_true rfl, Nat.le_of_ble_eq_true rfl⟩) (fun r_ u_ H locs hw hP hD hS => ?_)
            have hw : r_ = nI 0 := hw
            subst hw
            refine lv_if_ne (tgt := 65) hx hb dX1_readGuest_60 (by decide) (fun h => absurd h (by decide)) (fun _ => ?_)
            refine lv_iconst (v := nI 0) hx hb dX1_readGuest_63 (by decide) ?_
            have E : kRG bs ln pl L F = (false, pl + 1 + 1 + 1, L, F) := (kRG_l b_3 b_16 (show kRT bs ln (pl + 1) = (false, pl + 1 + 1 + 1, 10 * (kb9 bs (pl + 1) - 48) + (kb9 bs (pl + 1 + 1) - 48), 0, 0) from (by unfold kRT; rw [if_pos k_43, if_pos k_43b]; unfold kRT2; rw [if_neg k_57]))).trans (if_neg (by decide))
            have hP : va_P D vwCl (bkF [tW cy ta (bs, ln, (kRG bs ln pl L F).2.1), gW cy a k (kRG bs ln pl L F).2.2.1, gW cy b k2 (kRG bs ln pl L F).2.2.2]) H := by rw [E]; exact hP
            have hD : va_D A (bkF [tW cy ta (bs, ln, (kRG bs ln pl L F).2.1), gW cy a k (kRG bs ln pl L F).2.2.1, gW cy b k2 (kRG bs ln pl L F).2.2.2]) := by rw [E]; exact hD
            exact kr_i (post := fun r_ (u_ : Unit) => r_ = if (kRG bs ln pl L F).1 = true then nI 1 else nI 0) (Bs := fun u_ : Unit => [tW cy ta (bs, ln, (kRG bs ln pl L F).2.1), gW cy a k (kRG bs ln pl L F).2.2.1, gW cy b k2 (kRG bs ln pl L F).2.2.2]) hx hb hr hlocks rfl () hP hK hD hS (by rw [E]; rfl) dX1_readGuest_64 hQ
  · refine kv_i (y := nI 0) (if_neg b_3) ?_
    refine lv_if_eq (tgt := 13) hx hb dX1_readGuest_6 (by decide) (fun _ => ?_) (fun h => absurd h (by decide))
    refine lv_aload_n hx hb dX1_readGuest_13 rfl (lv_at hl 2 rfl) ?_
    refine lv_astore_n (lv' := [(3, .ref (b k2)), (0, .ref (ta 0)), (1, .ref (a k)), (2, .ref (b k2))]) hx hb dX1_readGuest_14 rfl hl (by decide) rfl (fun ls hl => ?_)
    refine lv_aload_n hx hb dX1_readGuest_15 rfl (lv_at hl 0 rfl) ?_
    refine kc_i (Cs := [gW cy b k2 F]) (Rs := [tW cy ta (bs, ln, pl), gW cy a k L]) (Bs := [tW cy ta (bs, ln, pl), gW cy a k L, gW cy b k2 F]) (Cs' := fun u_ : Unit => [gW cy b k2 F]) (Fs := fun u_ : Unit => [tW cy ta (bs, ln, pl), gW cy a k L, gW cy b k2 F]) hP hD hS hA [2] [0, 1] [0, 1, 2] rfl rfl (by decide) (by decide) (fun _ => rfl) (va_runV (As := []) (rest := []) ⟨hx, hb, hml, hown, hts⟩ (c_X2_isFull l D cy b k2 F (by omega) H.size) (cwV 0 hts gX1_readGuest_X2_isFull rfl rfl rfl (by decide +kernel) ⟨Nat.le_of_ble_eq_true rfl, Nat.le_of_ble_eq_true rfl⟩) (kPre_V (ci := 2) hK hN hP hD [2] (by decide) rfl 0 rfl rfl) rfl rfl hl.1 rfl (lv_room (Nat.le_of_ble_eq_true rfl)) dX1_readGuest_16 ⟨Nat.le_of_ble_eq_true rfl, Nat.le_of_ble_eq_true rfl⟩) (fun r_ u_ H locs hw hP hD hS => ?_)
    have hw : r_ = if 8 ≤ F.2.2.2.2.2 then nI 1 else nI 0 := hw
    subst hw
    by_cases b_16 : 8 ≤ F.2.2.2.2.2
    · refine kv_i (y := nI 1) (if_pos b_16) ?_
      refine lv_if_ne (tgt := 40) hx hb dX1_readGuest_19 (by decide) (fun _ => ?_) (fun h => absurd h (by decide))
      refine lv_iconst (v := nI 0) hx hb dX1_readGuest_40 (by decide) ?_
      have E : kRG bs ln pl L F = (false, pl, L, F) := kRG_x2 b_3 b_16
      have hP : va_P D vwCl (bkF [tW cy ta (bs, ln, (kRG bs ln pl L F).2.1), gW cy a k (kRG bs ln pl L F).2.2.1, gW cy b k2 (kRG bs ln pl L F).2.2.2]) H := by rw [E]; exact hP
      have hD : va_D A (bkF [tW cy ta (bs, ln, (kRG bs ln pl L F).2.1), gW cy a k (kRG bs ln pl L F).2.2.1, gW cy b k2 (kRG bs ln pl L F).2.2.2]) := by rw [E]; exact hD
      exact kr_i (post := fun r_ (u_ : Unit) => r_ = if (kRG bs ln pl L F).1 = true then nI 1 else nI 0) (Bs := fun u_ : Unit => [tW cy ta (bs, ln, (kRG bs ln pl L F).2.1), gW cy a k (kRG bs ln pl L F).2.2.1, gW cy b k2 (kRG bs ln pl L F).2.2.2]) hx hb hr hlocks rfl () hP hK hD hS (by rw [E]; rfl) dX1_readGuest_41 hQ
    · refine kv_i (y := nI 0) (if_neg b_16) ?_
      refine lv_if_ne (tgt := 40) hx hb dX1_readGuest_19 (by decide) (fun h => absurd h (by decide)) (fun _ => ?_)
      refine lv_aload_n hx hb dX1_readGuest_22 rfl (lv_at hl 1 rfl) ?_
      refine lv_bipush (v := nI 108) hx hb dX1_readGuest_23 (by decide) ?_
      refine kc_i (Cs := [tW cy ta (bs, ln, pl)]) (Rs := [gW cy a k L, gW cy b k2 F]) (Bs := [tW cy ta (bs, ln, pl), gW cy a k L, gW cy b k2 F]) (Cs' := fun u_ : Unit => [tW cy ta (bs, ln, pl)]) (Fs := fun u_ : Unit => [tW cy ta (bs, ln, pl), gW cy a k L, gW cy b k2 F]) hP hD hS hA [0] [1, 2] [2, 0, 1] rfl rfl (by decide) (by decide) (fun _ => rfl) (va_runV (As := [.int (nI 108)]) (rest := []) ⟨hx, hb, hml, hown, hts⟩ (c_X1_skip_n l D cy ta bs ln pl 108 (by first | assumption | omega | decide) (by first | assumption | omega | decide) b_3 H.size) (cwV 1 hts gX1_readGuest_X1_skip rfl rfl rfl (by decide +kernel) ⟨Nat.le_of_ble_eq_true rfl, Nat.le_of_ble_eq_true rfl⟩) (kPre_V (ci := 1) hK hN hP hD [0] (by decide) rfl 0 rfl rfl) rfl rfl hl.1 rfl (lv_room (Nat.le_of_ble_eq_true rfl)) dX1_readGuest_25 ⟨Nat.le_of_ble_eq_true rfl, Nat.le_of_ble_eq_true rfl⟩) (fun r_ u_ H locs hw hP hD hS => ?_)
      have hw : r_ = nI 0 := hw
      subst hw
      refine lv_if_ne (tgt := 42) hx hb dX1_readGuest_28 (by decide) (fun h => absurd h (by decide)) (fun _ => ?_)
      refine lv_aload_n hx hb dX1_readGuest_31 rfl (lv_at hl 1 rfl) ?_
      refine lv_bipush (v := nI 102) hx hb dX1_readGuest_32 (by decide) ?_
      by_cases k_34 : kIs bs ln pl 102
      · skip
        refine kc_i (Cs := [tW cy ta (bs, ln, pl)]) (Rs := [gW cy a k L, gW cy b k2 F]) (Bs := [tW cy ta (bs, ln, pl), gW cy a k L, gW cy b k2 F]) (Cs' := fun u_ : Unit => [tW cy ta (bs, ln, pl + 1)]) (Fs := fun u_ : Unit => [tW cy ta (bs, ln, pl + 1), gW cy a k L, gW cy b k2 F]) hP hD hS hA [0] [1, 2] [2, 0, 1] rfl rfl (by decide) (by decide) (fun _ => rfl) (va_runV (As := [.int (nI 102)]) (rest := []) ⟨hx, hb, hml, hown, hts⟩ (c_X1_skip_y l D cy ta bs ln pl 102 (by first | assumption | omega | decide) (by first | assumption | omega | decide) k_34 H.size) (cwV 1 hts gX1_readGuest_X1_skip rfl rfl rfl (by decide +kernel) ⟨Nat.le_of_ble_eq_true rfl, Nat.le_of_ble_eq_true rfl⟩) (kPre_V (ci := 1) hK hN hP hD [0] (by decide) rfl 0 rfl rfl) rfl rfl hl.1 rfl (lv_room (Nat.le_of_ble_eq_true rfl)) dX1_readGuest_34 ⟨Nat.le_of_ble_eq_true rfl, Nat.le_of_ble_eq_true rfl⟩) (fun r_ u_ H locs hw hP hD hS => ?_)
        have hw : r_ = nI 1 := hw
        subst hw
        refine lv_if_ne (tgt := 42) hx hb dX1_readGuest_37 (by decide) (fun _ => ?_) (fun h => absurd h (by decide))
        refine lv_aload_n hx hb dX1_readGuest_42 rfl (lv_at hl 1 rfl) ?_
        rcases (show ¬ (kDig bs ln (pl + 1) 0) ∨ ((kDig bs ln (pl + 1) 0) ∧ ¬ (kDig bs ln (pl + 1 + 1) 0)) ∨ ((kDig bs ln (pl + 1) 0) ∧ (kDig bs ln (pl + 1 + 1) 0)) from (Classical.em (kDig bs ln (pl + 1) 0)).elim (fun h1 => (Classical.em (kDig bs ln (pl + 1 + 1) 0)).elim (fun h2 => Or.inr (Or.inr ⟨h1, h2⟩)) (fun h2 => Or.inr (Or.inl ⟨h1, h2⟩))) (fun h1 => Or.inl h1)) with k_43 | ⟨k_43, k_43b⟩ | ⟨k_43, k_43b⟩
        · skip
          refine kc_i (Cs := [tW cy ta (bs, ln, pl + 1)]) (Rs := [gW cy a k L, gW cy b k2 F]) (Bs := [tW cy ta (bs, ln, pl + 1), gW cy a k L, gW cy b k2 F]) (Cs' := fun u_ : Unit => [tW cy ta (bs, ln, pl + 1)]) (Fs := fun u_ : Unit => [tW cy ta (bs, ln, pl + 1), gW cy a k L, gW cy b k2 F]) hP hD hS hA [0] [1, 2] [2, 0, 1] rfl rfl (by decide) (by decide) (fun _ => rfl) (va_runV (As := []) (rest := []) ⟨hx, hb, hml, hown, hts⟩ (c_X1_readTokens_n l D cy ta bs ln (pl + 1) hby (by first | assumption | omega | decide) (by first | assumption | omega | decide) k_43 H.size) (cwV 0 hts gX1_readGuest_X1_readTokens rfl rfl rfl (by decide +kernel) ⟨Nat.le_of_ble_eq_true rfl, Nat.le_of_ble_eq_true rfl⟩) (kPre_V (ci := 1) hK hN hP hD [0] (by decide) rfl 0 rfl rfl) rfl rfl hl.1 rfl (lv_room (Nat.le_of_ble_eq_true rfl)) dX1_readGuest_43 ⟨Nat.le_of_ble_eq_true rfl, Nat.le_of_ble_eq_true rfl⟩) (fun r_ u_ H locs hw hP hD hS => ?_)
          have hw : r_ = (-1 : Int32) := hw
          subst hw
          refine lv_istore (lv' := [(4, .int (-1 : Int32)), (3, .ref (b k2)), (0, .ref (ta 0)), (1, .ref (a k)), (2, .ref (b k2))]) hx hb dX1_readGuest_46 hl (by decide) rfl (fun ls hl => ?_)
          refine lv_iload hx hb dX1_readGuest_48 (lv_at hl 0 rfl) ?_
          refine lv_iconst (v := (-1 : Int32)) hx hb dX1_readGuest_50 (by decide) ?_
          refine lv_icmp_eq (tgt := 63) hx hb dX1_readGuest_51 (by decide) (fun _ => ?_) (fun h => absurd h (by decide))
          refine lv_iconst (v := nI 0) hx hb dX1_readGuest_63 (by decide) ?_
          have E : kRG bs ln pl L F = (false, pl + 1, L, F) := (kRG_f b_3 b_16 k_34 (show kRT bs ln (pl + 1) = (false, pl + 1, 0, 0, 0) from (by unfold kRT; rw [if_neg k_43]))).trans (if_neg (by decide))
          have hP : va_P D vwCl (bkF [tW cy ta (bs, ln, (kRG bs ln pl L F).2.1), gW cy a k (kRG bs ln pl L F).2.2.1, gW cy b k2 (kRG bs ln pl L F).2.2.2]) H := by rw [E]; exact hP
          have hD : va_D A (bkF [tW cy ta (bs, ln, (kRG bs ln pl L F).2.1), gW cy a k (kRG bs ln pl L F).2.2.1, gW cy b k2 (kRG bs ln pl L F).2.2.2]) := by rw [E]; exact hD
          exact kr_i (post := fun r_ (u_ : Unit) => r_ = if (kRG bs ln pl L F).1 = true then nI 1 else nI 0) (Bs := fun u_ : Unit => [tW cy ta (bs, ln, (kRG bs ln pl L F).2.1), gW cy a k (kRG bs ln pl L F).2.2.1, gW cy b k2 (kRG bs ln pl L F).2.2.2]) hx hb hr hlocks rfl () hP hK hD hS (by rw [E]; rfl) dX1_readGuest_64 hQ
        · skip
          refine kc_i (Cs := [tW cy ta (bs, ln, pl + 1)]) (Rs := [gW cy a k L, gW cy b k2 F]) (Bs := [tW cy ta (bs, ln, pl + 1), gW cy a k L, gW cy b k2 F]) (Cs' := fun u_ : Unit => [tW cy ta (bs, ln, pl + 1 + 1)]) (Fs := fun u_ : Unit => [tW cy ta (bs, ln, pl + 1 + 1), gW cy a k L, gW cy b k2 F]) hP hD hS hA [0] [1, 2] [2, 0, 1] rfl rfl (by decide) (by decide) (fun _ => rfl) (va_runV (As := []) (rest := []) ⟨hx, hb, hml, hown, hts⟩ (c_X1_readTokens_1 l D cy ta bs ln (pl + 1) hby (by first | assumption | omega | decide) (by first | assumption | omega | decide) k_43 k_43b H.size) (cwV 0 hts gX1_readGuest_X1_readTokens rfl rfl rfl (by decide +kernel) ⟨Nat.le_of_ble_eq_true rfl, Nat.le_of_ble_eq_true rfl⟩) (kPre_V (ci := 1) hK hN hP hD [0] (by decide) rfl 0 rfl rfl) rfl rfl hl.1 rfl (lv_room (Nat.le_of_ble_eq_true rfl)) dX1_readGuest_43 ⟨Nat.le_of_ble_eq_true rfl, Nat.le_of_ble_eq_true rfl⟩) (fun r_ u_ H locs hw hP hD hS => ?_)
          have hw : r_ = nI (kb9 bs (pl + 1) - 48) := hw
          subst hw
          refine lv_istore (lv' := [(4, .int (nI (kb9 bs (pl + 1) - 48))), (3, .ref (b k2)), (0, .ref (ta 0)), (1, .ref (a k)), (2, .ref (b k2))]) hx hb dX1_readGuest_46 hl (by decide) rfl (fun ls hl => ?_)
          refine lv_iload hx hb dX1_readGuest_48 (lv_at hl 0 rfl) ?_
          refine lv_iconst (v := (-1 : Int32)) hx hb dX1_readGuest_50 (by decide) ?_
          refine lv_icmp_eq (tgt := 63) hx hb dX1_readGuest_51 (by decide) (fun c_51 => False.elim ?_) (fun c_51 => ?_)
          · skip
            exact nI_ne1 (by have := k_43.2.2; omega) c_51
          · skip
            refine lv_aload_n hx hb dX1_readGuest_54 rfl (lv_at hl 2 rfl) ?_
            refine lv_bipush (v := nI 44) hx hb dX1_readGuest_55 (by decide) ?_
            by_cases k_57 : kIs bs ln (pl + 1 + 1) 44
            · skip
              refine kc_i (Cs := [tW cy ta (bs, ln, pl + 1 + 1)]) (Rs := [gW cy a k L, gW cy b k2 F]) (Bs := [tW cy ta (bs, ln, pl + 1 + 1), gW cy a k L, gW cy b k2 F]) (Cs' := fun u_ : Unit => [tW cy ta (bs, ln, pl + 1 + 1 + 1)]) (Fs := fun u_ : Unit => [tW cy ta (bs, ln, pl + 1 + 1 + 1), gW cy a k L, gW cy b k2 F]) hP hD hS hA [0] [1, 2] [2, 0, 1] rfl rfl (by decide) (by decide) (fun _ => rfl) (va_runV (As := [.int (nI 44)]) (rest := []) ⟨hx, hb, hml, hown, hts⟩ (c_X1_skip_y l D cy ta bs ln (pl + 1 + 1) 44 (by first | assumption | omega | decide) (by first | assumption | omega | decide) k_57 H.size) (cwV 1 hts gX1_readGuest_X1_skip rfl rfl rfl (by decide +kernel) ⟨Nat.le_of_ble_eq_true rfl, Nat.le_of_ble_eq_true rfl⟩) (kPre_V (ci := 1) hK hN hP hD [0] (by decide) rfl 0 rfl rfl) rfl rfl hl.1 rfl (lv_room (Nat.le_of_ble_eq_true rfl)) dX1_readGuest_57 ⟨Nat.le_of_ble_eq_true rfl, Nat.le_of_ble_eq_true rfl⟩) (fun r_ u_ H locs hw hP hD hS => ?_)
              have hw : r_ = nI 1 := hw
              subst hw
              refine lv_if_ne (tgt := 65) hx hb dX1_readGuest_60 (by decide) (fun _ => ?_) (fun h => absurd h (by decide))
              refine lv_aload_n hx hb dX1_readGuest_65 rfl (lv_at hl 2 rfl) ?_
              refine lv_iconst (v := nI 1) hx hb dX1_readGuest_66 (by decide) ?_
              by_cases k_67 : kDig bs ln (pl + 1 + 1 + 1) 1
              · skip
                refine kc_i (Cs := [tW cy ta (bs, ln, pl + 1 + 1 + 1)]) (Rs := [gW cy a k L, gW cy b k2 F]) (Bs := [tW cy ta (bs, ln, pl + 1 + 1 + 1), gW cy a k L, gW cy b k2 F]) (Cs' := fun u_ : Unit => [tW cy ta (bs, ln, pl + 1 + 1 + 1 + 1)]) (Fs := fun u_ : Unit => [tW cy ta (bs, ln, pl + 1 + 1 + 1 + 1), gW cy a k L, gW cy b k2 F]) hP hD hS hA [0] [1, 2] [2, 0, 1] rfl rfl (by decide) (by decide) (fun _ => rfl) (va_runV (As := [.int (nI 1)]) (rest := []) ⟨hx, hb, hml, hown, hts⟩ (c_X1_readDigit_y l D cy ta bs ln (pl + 1 + 1 + 1) 1 hby (by first | assumption | omega | decide) (by first | assumption | omega | decide) (by first | assumption | omega | decide) k_67 H.size) (cwV 1 hts gX1_readGuest_X1_readDigit rfl rfl rfl (by decide +kernel) ⟨Nat.le_of_ble_eq_true rfl, Nat.le_of_ble_eq_true rfl⟩) (kPre_V (ci := 1) hK hN hP hD [0] (by decide) rfl 0 rfl rfl) rfl rfl hl.1 rfl (lv_room (Nat.le_of_ble_eq_true rfl)) dX1_readGuest_67 ⟨Nat.le_of_ble_eq_true rfl, Nat.le_of_ble_eq_true rfl⟩) (fun r_ u_ H locs hw hP hD hS => ?_)
                have hw : r_ = nI (kb9 bs (pl + 1 + 1 + 1) - 48) := hw
                subst hw
                refine lv_istore (lv' := [(5, .int (nI (kb9 bs (pl + 1 + 1 + 1) - 48))), (4, .int (nI (kb9 bs (pl + 1) - 48))), (3, .ref (b k2)), (0, .ref (ta 0)), (1, .ref (a k)), (2, .ref (b k2))]) hx hb dX1_readGuest_70 hl (by decide) rfl (fun ls hl => ?_)
                refine lv_iload hx hb dX1_readGuest_72 (lv_at hl 0 rfl) ?_
                refine lv_iconst (v := (-1 : Int32)) hx hb dX1_readGuest_74 (by decide) ?_
                refine lv_icmp_ne (tgt := 80) hx hb dX1_readGuest_75 (by decide) (fun c_75 => ?_) (fun c_75 => False.elim ?_)
                · skip
                  refine lv_aload_n hx hb dX1_readGuest_80 rfl (lv_at hl 3 rfl) ?_
                  refine lv_bipush (v := nI 45) hx hb dX1_readGuest_81 (by decide) ?_
                  by_cases k_83 : kIs bs ln (pl + 1 + 1 + 1 + 1) 45
                  · skip
                    refine kc_i (Cs := [tW cy ta (bs, ln, pl + 1 + 1 + 1 + 1)]) (Rs := [gW cy a k L, gW cy b k2 F]) (Bs := [tW cy ta (bs, ln, pl + 1 + 1 + 1 + 1), gW cy a k L, gW cy b k2 F]) (Cs' := fun u_ : Unit => [tW cy ta (bs, ln, pl + 1 + 1 + 1 + 1 + 1)]) (Fs := fun u_ : Unit => [tW cy ta (bs, ln, pl + 1 + 1 + 1 + 1 + 1), gW cy a k L, gW cy b k2 F]) hP hD hS hA [0] [1, 2] [2, 0, 1] rfl rfl (by decide) (by decide) (fun _ => rfl) (va_runV (As := [.int (nI 45)]) (rest := []) ⟨hx, hb, hml, hown, hts⟩ (c_X1_skip_y l D cy ta bs ln (pl + 1 + 1 + 1 + 1) 45 (by first | assumption | omega | decide) (by first | assumption | omega | decide) k_83 H.size) (cwV 1 hts gX1_readGuest_X1_skip rfl rfl rfl (by decide +kernel) ⟨Nat.le_of_ble_eq_true rfl, Nat.le_of_ble_eq_true rfl⟩) (kPre_V (ci := 1) hK hN hP hD [0] (by decide) rfl 0 rfl rfl) rfl rfl hl.1 rfl (lv_room (Nat.le_of_ble_eq_true rfl)) dX1_readGuest_83 ⟨Nat.le_of_ble_eq_true rfl, Nat.le_of_ble_eq_true rfl⟩) (fun r_ u_ H locs hw hP hD hS => ?_)
                    have hw : r_ = nI 1 := hw
                    subst hw
                    refine lv_if_ne (tgt := 93) hx hb dX1_readGuest_86 (by decide) (fun _ => ?_) (fun h => absurd h (by decide))
                    refine lv_iconst (v := nI 0) hx hb dX1_readGuest_93 (by decide) ?_
                    refine lv_istore (lv' := [(6, .int (nI 0)), (5, .int (nI (kb9 bs (pl + 1 + 1 + 1) - 48))), (4, .int (nI (kb9 bs (pl + 1) - 48))), (3, .ref (b k2)), (0, .ref (ta 0)), (1, .ref (a k)), (2, .ref (b k2))]) hx hb dX1_readGuest_94 hl (by decide) rfl (fun ls hl => ?_)
                    refine lv_aload_n hx hb dX1_readGuest_96 rfl (lv_at hl 4 rfl) ?_
                    refine lv_bipush (v := nI 59) hx hb dX1_readGuest_97 (by decide) ?_
                    by_cases k_99 : kIs bs ln (pl + 1 + 1 + 1 + 1 + 1) 59
                    · skip
                      refine kc_i (Cs := [tW cy ta (bs, ln, pl + 1 + 1 + 1 + 1 + 1)]) (Rs := [gW cy a k L, gW cy b k2 F]) (Bs := [tW cy ta (bs, ln, pl + 1 + 1 + 1 + 1 + 1), gW cy a k L, gW cy b k2 F]) (Cs' := fun u_ : Unit => [tW cy ta (bs, ln, pl + 1 + 1 + 1 + 1 + 1 + 1)]) (Fs := fun u_ : Unit => [tW cy ta (bs, ln, pl + 1 + 1 + 1 + 1 + 1 + 1), gW cy a k L, gW cy b k2 F]) hP hD hS hA [0] [1, 2] [2, 0, 1] rfl rfl (by decide) (by decide) (fun _ => rfl) (va_runV (As := [.int (nI 59)]) (rest := []) ⟨hx, hb, hml, hown, hts⟩ (c_X1_skip_y l D cy ta bs ln (pl + 1 + 1 + 1 + 1 + 1) 59 (by first | assumption | omega | decide) (by first | assumption | omega | decide) k_99 H.size) (cwV 1 hts gX1_readGuest_X1_skip rfl rfl rfl (by decide +kernel) ⟨Nat.le_of_ble_eq_true rfl, Nat.le_of_ble_eq_true rfl⟩) (kPre_V (ci := 1) hK hN hP hD [0] (by decide) rfl 0 rfl rfl) rfl rfl hl.1 rfl (lv_room (Nat.le_of_ble_eq_true rfl)) dX1_readGuest_99 ⟨Nat.le_of_ble_eq_true rfl, Nat.le_of_ble_eq_true rfl⟩) (fun r_ u_ H locs hw hP hD hS => ?_)
                      have hw : r_ = nI 1 := hw
                      subst hw
                      refine lv_if_ne (tgt := 107) hx hb dX1_readGuest_102 (by decide) (fun _ => ?_) (fun h => absurd h (by decide))
                      refine lv_aload_n hx hb dX1_readGuest_107 rfl (lv_at hl 3 rfl) ?_
                      refine lv_iload hx hb dX1_readGuest_108 (lv_at hl 2 rfl) ?_
                      refine lv_iload hx hb dX1_readGuest_110 (lv_at hl 1 rfl) ?_
                      refine lv_iload hx hb dX1_readGuest_112 (lv_at hl 0 rfl) ?_
                      refine kc_i (Cs := [gW cy b k2 F]) (Rs := [tW cy ta (bs, ln, pl + 1 + 1 + 1 + 1 + 1 + 1), gW cy a k L]) (Bs := [tW cy ta (bs, ln, pl + 1 + 1 + 1 + 1 + 1 + 1), gW cy a k L, gW cy b k2 F]) (Cs' := fun u_ : Unit => [gW cy b k2 (upd F.1 F.2.2.2.2.2 (nI (kb9 bs (pl + 1) - 48)), upd F.2.1 F.2.2.2.2.2 (nI (kb9 bs (pl + 1 + 1 + 1) - 48)), upd F.2.2.1 F.2.2.2.2.2 (nI 0), upd F.2.2.2.1 F.2.2.2.2.2 (nI 1), upd F.2.2.2.2.1 F.2.2.2.2.2 (nI 0), F.2.2.2.2.2 + 1)]) (Fs := fun u_ : Unit => [tW cy ta (bs, ln, pl + 1 + 1 + 1 + 1 + 1 + 1), gW cy a k L, gW cy b k2 (upd F.1 F.2.2.2.2.2 (nI (kb9 bs (pl + 1) - 48)), upd F.2.1 F.2.2.2.2.2 (nI (kb9 bs (pl + 1 + 1 + 1) - 48)), upd F.2.2.1 F.2.2.2.2.2 (nI 0), upd F.2.2.2.1 F.2.2.2.2.2 (nI 1), upd F.2.2.2.2.1 F.2.2.2.2.2 (nI 0), F.2.2.2.2.2 + 1)]) hP hD hS hA [2] [0, 1] [0, 1, 2] rfl rfl (by decide) (by decide) (fun _ => rfl) (va_runV (As := [.int (nI (kb9 bs (pl + 1) - 48)), .int (nI (kb9 bs (pl + 1 + 1 + 1) - 48)), .int (nI 0)]) (rest := []) ⟨hx, hb, hml, hown, hts⟩ (c_X2_add l D cy b k2 F (nI (kb9 bs (pl + 1) - 48)) (nI (kb9 bs (pl + 1 + 1 + 1) - 48)) (nI 0) (by first | assumption | omega | decide) (by first | assumption | omega | decide) H.size) (cwV 3 hts gX1_readGuest_X2_add rfl rfl rfl (by decide +kernel) ⟨Nat.le_of_ble_eq_true rfl, Nat.le_of_ble_eq_true rfl⟩) (kPre_V (ci := 2) hK hN hP hD [2] (by decide) rfl 0 rfl rfl) rfl rfl hl.1 rfl (lv_room (Nat.le_of_ble_eq_true rfl)) dX1_readGuest_114 ⟨Nat.le_of_ble_eq_true rfl, Nat.le_of_ble_eq_true rfl⟩) (fun r_ u_ H locs hw hP hD hS => ?_)
                      have hw : r_ = nI F.2.2.2.2.2 := hw
                      subst hw
                      refine lv_pop hx hb dX1_readGuest_117 rfl ?_
                      refine lv_iconst (v := nI 1) hx hb dX1_readGuest_118 (by decide) ?_
                      have E : kRG bs ln pl L F = (true, pl + 1 + 1 + 1 + 1 + 1 + 1, L, kAdd F (kb9 bs (pl + 1) - 48) (kb9 bs (pl + 1 + 1 + 1) - 48) 0) := (kRG_f b_3 b_16 k_34 (show kRT bs ln (pl + 1) = (true, pl + 1 + 1 + 1 + 1 + 1 + 1, kb9 bs (pl + 1) - 48, kb9 bs (pl + 1 + 1 + 1) - 48, 0) from (by unfold kRT; rw [if_pos k_43, if_neg k_43b]; unfold kRT2; rw [if_pos k_57, if_pos k_67, if_pos k_83, if_pos k_99]))).trans (if_pos rfl)
                      have hP : va_P D vwCl (bkF [tW cy ta (bs, ln, (kRG bs ln pl L F).2.1), gW cy a k (kRG bs ln pl L F).2.2.1, gW cy b k2 (kRG bs ln pl L F).2.2.2]) H := by rw [E]; exact hP
                      have hD : va_D A (bkF [tW cy ta (bs, ln, (kRG bs ln pl L F).2.1), gW cy a k (kRG bs ln pl L F).2.2.1, gW cy b k2 (kRG bs ln pl L F).2.2.2]) := by rw [E]; exact hD
                      exact kr_i (post := fun r_ (u_ : Unit) => r_ = if (kRG bs ln pl L F).1 = true then nI 1 else nI 0) (Bs := fun u_ : Unit => [tW cy ta (bs, ln, (kRG bs ln pl L F).2.1), gW cy a k (kRG bs ln pl L F).2.2.1, gW cy b k2 (kRG bs ln pl L F).2.2.2]) hx hb hr hlocks rfl () hP hK hD hS (by rw [E]; rfl) dX1_readGuest_119 hQ
                    · skip
                      refine kc_i (Cs := [tW cy ta (bs, ln, pl + 1 + 1 + 1 + 1 + 1)]) (Rs := [gW cy a k L, gW cy b k2 F]) (Bs := [tW cy ta (bs, ln, pl + 1 + 1 + 1 + 1 + 1), gW cy a k L, gW cy b k2 F]) (Cs' := fun u_ : Unit => [tW cy ta (bs, ln, pl + 1 + 1 + 1 + 1 + 1)]) (Fs := fun u_ : Unit => [tW cy ta (bs, ln, pl + 1 + 1 + 1 + 1 + 1), gW cy a k L, gW cy b k2 F]) hP hD hS hA [0] [1, 2] [2, 0, 1] rfl rfl (by decide) (by decide) (fun _ => rfl) (va_runV (As := [.int (nI 59)]) (rest := []) ⟨hx, hb, hml, hown, hts⟩ (c_X1_skip_n l D cy ta bs ln (pl + 1 + 1 + 1 + 1 + 1) 59 (by first | assumption | omega | decide) (by first | assumption | omega | decide) k_99 H.size) (cwV 1 hts gX1_readGuest_X1_skip rfl rfl rfl (by decide +kernel) ⟨Nat.le_of_ble_eq_true rfl, Nat.le_of_ble_eq_true rfl⟩) (kPre_V (ci := 1) hK hN hP hD [0] (by decide) rfl 0 rfl rfl) rfl rfl hl.1 rfl (lv_room (Nat.le_of_ble_eq_true rfl)) dX1_readGuest_99 ⟨Nat.le_of_ble_eq_true rfl, Nat.le_of_ble_eq_true rfl⟩) (fun r_ u_ H locs hw hP hD hS => ?_)
                      have hw : r_ = nI 0 := hw
                      subst hw
                      refine lv_if_ne (tgt := 107) hx hb dX1_readGuest_102 (by decide) (fun h => absurd h (by decide)) (fun _ => ?_)
                      refine lv_iconst (v := nI 0) hx hb dX1_readGuest_105 (by decide) ?_
                      have E : kRG bs ln pl L F = (false, pl + 1 + 1 + 1 + 1 + 1, L, F) := (kRG_f b_3 b_16 k_34 (show kRT bs ln (pl + 1) = (false, pl + 1 + 1 + 1 + 1 + 1, kb9 bs (pl + 1) - 48, kb9 bs (pl + 1 + 1 + 1) - 48, 0) from (by unfold kRT; rw [if_pos k_43, if_neg k_43b]; unfold kRT2; rw [if_pos k_57, if_pos k_67, if_pos k_83, if_neg k_99]))).trans (if_neg (by decide))
                      have hP : va_P D vwCl (bkF [tW cy ta (bs, ln, (kRG bs ln pl L F).2.1), gW cy a k (kRG bs ln pl L F).2.2.1, gW cy b k2 (kRG bs ln pl L F).2.2.2]) H := by rw [E]; exact hP
                      have hD : va_D A (bkF [tW cy ta (bs, ln, (kRG bs ln pl L F).2.1), gW cy a k (kRG bs ln pl L F).2.2.1, gW cy b k2 (kRG bs ln pl L F).2.2.2]) := by rw [E]; exact hD
                      exact kr_i (post := fun r_ (u_ : Unit) => r_ = if (kRG bs ln pl L F).1 = true then nI 1 else nI 0) (Bs := fun u_ : Unit => [tW cy ta (bs, ln, (kRG bs ln pl L F).2.1), gW cy a k (kRG bs ln pl L F).2.2.1, gW cy b k2 (kRG bs ln pl L F).2.2.2]) hx hb hr hlocks rfl () hP hK hD hS (by rw [E]; rfl) dX1_readGuest_106 hQ
                  · skip
                    refine kc_i (Cs := [tW cy ta (bs, ln, pl + 1 + 1 + 1 + 1)]) (Rs := [gW cy a k L, gW cy b k2 F]) (Bs := [tW cy ta (bs, ln, pl + 1 + 1 + 1 + 1), gW cy a k L, gW cy b k2 F]) (Cs' := fun u_ : Unit => [tW cy ta (bs, ln, pl + 1 + 1 + 1 + 1)]) (Fs := fun u_ : Unit => [tW cy ta (bs, ln, pl + 1 + 1 + 1 + 1), gW cy a k L, gW cy b k2 F]) hP hD hS hA [0] [1, 2] [2, 0, 1] rfl rfl (by decide) (by decide) (fun _ => rfl) (va_runV (As := [.int (nI 45)]) (rest := []) ⟨hx, hb, hml, hown, hts⟩ (c_X1_skip_n l D cy ta bs ln (pl + 1 + 1 + 1 + 1) 45 (by first | assumption | omega | decide) (by first | assumption | omega | decide) k_83 H.size) (cwV 1 hts gX1_readGuest_X1_skip rfl rfl rfl (by decide +kernel) ⟨Nat.le_of_ble_eq_true rfl, Nat.le_of_ble_eq_true rfl⟩) (kPre_V (ci := 1) hK hN hP hD [0] (by decide) rfl 0 rfl rfl) rfl rfl hl.1 rfl (lv_room (Nat.le_of_ble_eq_true rfl)) dX1_readGuest_83 ⟨Nat.le_of_ble_eq_true rfl, Nat.le_of_ble_eq_true rfl⟩) (fun r_ u_ H locs hw hP hD hS => ?_)
                    have hw : r_ = nI 0 := hw
                    subst hw
                    refine lv_if_ne (tgt := 93) hx hb dX1_readGuest_86 (by decide) (fun h => absurd h (by decide)) (fun _ => ?_)
                    refine lv_iconst (v := nI 1) hx hb dX1_readGuest_89 (by decide) ?_
                    refine lv_goto (tgt := 94) hx hb dX1_readGuest_90 (by decide) ?_
                    refine lv_istore (lv' := [(6, .int (nI 1)), (5, .int (nI (kb9 bs (pl + 1 + 1 + 1) - 48))), (4, .int (nI (kb9 bs (pl + 1) - 48))), (3, .ref (b k2)), (0, .ref (ta 0)), (1, .ref (a k)), (2, .ref (b k2))]) hx hb dX1_readGuest_94 hl (by decide) rfl (fun ls hl => ?_)
                    refine lv_aload_n hx hb dX1_readGuest_96 rfl (lv_at hl 4 rfl) ?_
                    refine lv_bipush (v := nI 59) hx hb dX1_readGuest_97 (by decide) ?_
                    by_cases k_99 : kIs bs ln (pl + 1 + 1 + 1 + 1) 59
                    · skip
                      refine kc_i (Cs := [tW cy ta (bs, ln, pl + 1 + 1 + 1 + 1)]) (Rs := [gW cy a k L, gW cy b k2 F]) (Bs := [tW cy ta (bs, ln, pl + 1 + 1 + 1 + 1), gW cy a k L, gW cy b k2 F]) (Cs' := fun u_ : Unit => [tW cy ta (bs, ln, pl + 1 + 1 + 1 + 1 + 1)]) (Fs := fun u_ : Unit => [tW cy ta (bs, ln, pl + 1 + 1 + 1 + 1 + 1), gW cy a k L, gW cy b k2 F]) hP hD hS hA [0] [1, 2] [2, 0, 1] rfl rfl (by decide) (by decide) (fun _ => rfl) (va_runV (As := [.int (nI 59)]) (rest := []) ⟨hx, hb, hml, hown, hts⟩ (c_X1_skip_y l D cy ta bs ln (pl + 1 + 1 + 1 + 1) 59 (by first | assumption | omega | decide) (by first | assumption | omega | decide) k_99 H.size) (cwV 1 hts gX1_readGuest_X1_skip rfl rfl rfl (by decide +kernel) ⟨Nat.le_of_ble_eq_true rfl, Nat.le_of_ble_eq_true rfl⟩) (kPre_V (ci := 1) hK hN hP hD [0] (by decide) rfl 0 rfl rfl) rfl rfl hl.1 rfl (lv_room (Nat.le_of_ble_eq_true rfl)) dX1_readGuest_99 ⟨Nat.le_of_ble_eq_true rfl, Nat.le_of_ble_eq_true rfl⟩) (fun r_ u_ H locs hw hP hD hS => ?_)
                      have hw : r_ = nI 1 := hw
                      subst hw
                      refine lv_if_ne (tgt := 107) hx hb dX1_readGuest_102 (by decide) (fun _ => ?_) (fun h => absurd h (by decide))
                      refine lv_aload_n hx hb dX1_readGuest_107 rfl (lv_at hl 3 rfl) ?_
                      refine lv_iload hx hb dX1_readGuest_108 (lv_at hl 2 rfl) ?_
                      refine lv_iload hx hb dX1_readGuest_110 (lv_at hl 1 rfl) ?_
                      refine lv_iload hx hb dX1_readGuest_112 (lv_at hl 0 rfl) ?_
                      refine kc_i (Cs := [gW cy b k2 F]) (Rs := [tW cy ta (bs, ln, pl + 1 + 1 + 1 + 1 + 1), gW cy a k L]) (Bs := [tW cy ta (bs, ln, pl + 1 + 1 + 1 + 1 + 1), gW cy a k L, gW cy b k2 F]) (Cs' := fun u_ : Unit => [gW cy b k2 (upd F.1 F.2.2.2.2.2 (nI (kb9 bs (pl + 1) - 48)), upd F.2.1 F.2.2.2.2.2 (nI (kb9 bs (pl + 1 + 1 + 1) - 48)), upd F.2.2.1 F.2.2.2.2.2 (nI 1), upd F.2.2.2.1 F.2.2.2.2.2 (nI 1), upd F.2.2.2.2.1 F.2.2.2.2.2 (nI 0), F.2.2.2.2.2 + 1)]) (Fs := fun u_ : Unit => [tW cy ta (bs, ln, pl + 1 + 1 + 1 + 1 + 1), gW cy a k L, gW cy b k2 (upd F.1 F.2.2.2.2.2 (nI (kb9 bs (pl + 1) - 48)), upd F.2.1 F.2.2.2.2.2 (nI (kb9 bs (pl + 1 + 1 + 1) - 48)), upd F.2.2.1 F.2.2.2.2.2 (nI 1), upd F.2.2.2.1 F.2.2.2.2.2 (nI 1), upd F.2.2.2.2.1 F.2.2.2.2.2 (nI 0), F.2.2.2.2.2 + 1)]) hP hD hS hA [2] [0, 1] [0, 1, 2] rfl rfl (by decide) (by decide) (fun _ => rfl) (va_runV (As := [.int (nI (kb9 bs (pl + 1) - 48)), .int (nI (kb9 bs (pl + 1 + 1 + 1) - 48)), .int (nI 1)]) (rest := []) ⟨hx, hb, hml, hown, hts⟩ (c_X2_add l D cy b k2 F (nI (kb9 bs (pl + 1) - 48)) (nI (kb9 bs (pl + 1 + 1 + 1) - 48)) (nI 1) (by first | assumption | omega | decide) (by first | assumption | omega | decide) H.size) (cwV 3 hts gX1_readGuest_X2_add rfl rfl rfl (by decide +kernel) ⟨Nat.le_of_ble_eq_true rfl, Nat.le_of_ble_eq_true rfl⟩) (kPre_V (ci := 2) hK hN hP hD [2] (by decide) rfl 0 rfl rfl) rfl rfl hl.1 rfl (lv_room (Nat.le_of_ble_eq_true rfl)) dX1_readGuest_114 ⟨Nat.le_of_ble_eq_true rfl, Nat.le_of_ble_eq_true rfl⟩) (fun r_ u_ H locs hw hP hD hS => ?_)
                      have hw : r_ = nI F.2.2.2.2.2 := hw
                      subst hw
                      refine lv_pop hx hb dX1_readGuest_117 rfl ?_
                      refine lv_iconst (v := nI 1) hx hb dX1_readGuest_118 (by decide) ?_
                      have E : kRG bs ln pl L F = (true, pl + 1 + 1 + 1 + 1 + 1, L, kAdd F (kb9 bs (pl + 1) - 48) (kb9 bs (pl + 1 + 1 + 1) - 48) 1) := (kRG_f b_3 b_16 k_34 (show kRT bs ln (pl + 1) = (true, pl + 1 + 1 + 1 + 1 + 1, kb9 bs (pl + 1) - 48, kb9 bs (pl + 1 + 1 + 1) - 48, 1) from (by unfold kRT; rw [if_pos k_43, if_neg k_43b]; unfold kRT2; rw [if_pos k_57, if_pos k_67, if_neg k_83, if_pos k_99]))).trans (if_pos rfl)
                      have hP : va_P D vwCl (bkF [tW cy ta (bs, ln, (kRG bs ln pl L F).2.1), gW cy a k (kRG bs ln pl L F).2.2.1, gW cy b k2 (kRG bs ln pl L F).2.2.2]) H := by rw [E]; exact hP
                      have hD : va_D A (bkF [tW cy ta (bs, ln, (kRG bs ln pl L F).2.1), gW cy a k (kRG bs ln pl L F).2.2.1, gW cy b k2 (kRG bs ln pl L F).2.2.2]) := by rw [E]; exact hD
                      exact kr_i (post := fun r_ (u_ : Unit) => r_ = if (kRG bs ln pl L F).1 = true then nI 1 else nI 0) (Bs := fun u_ : Unit => [tW cy ta (bs, ln, (kRG bs ln pl L F).2.1), gW cy a k (kRG bs ln pl L F).2.2.1, gW cy b k2 (kRG bs ln pl L F).2.2.2]) hx hb hr hlocks rfl () hP hK hD hS (by rw [E]; rfl) dX1_readGuest_119 hQ
                    · skip
                      refine kc_i (Cs := [tW cy ta (bs, ln, pl + 1 + 1 + 1 + 1)]) (Rs := [gW cy a k L, gW cy b k2 F]) (Bs := [tW cy ta (bs, ln, pl + 1 + 1 + 1 + 1), gW cy a k L, gW cy b k2 F]) (Cs' := fun u_ : Unit => [tW cy ta (bs, ln, pl + 1 + 1 + 1 + 1)]) (Fs := fun u_ : Unit => [tW cy ta (bs, ln, pl + 1 + 1 + 1 + 1), gW cy a k L, gW cy b k2 F]) hP hD hS hA [0] [1, 2] [2, 0, 1] rfl rfl (by decide) (by decide) (fun _ => rfl) (va_runV (As := [.int (nI 59)]) (rest := []) ⟨hx, hb, hml, hown, hts⟩ (c_X1_skip_n l D cy ta bs ln (pl + 1 + 1 + 1 + 1) 59 (by first | assumption | omega | decide) (by first | assumption | omega | decide) k_99 H.size) (cwV 1 hts gX1_readGuest_X1_skip rfl rfl rfl (by decide +kernel) ⟨Nat.le_of_ble_eq_true rfl, Nat.le_of_ble_eq_true rfl⟩) (kPre_V (ci := 1) hK hN hP hD [0] (by decide) rfl 0 rfl rfl) rfl rfl hl.1 rfl (lv_room (Nat.le_of_ble_eq_true rfl)) dX1_readGuest_99 ⟨Nat.le_of_ble_eq_true rfl, Nat.le_of_ble_eq_true rfl⟩) (fun r_ u_ H locs hw hP hD hS => ?_)
                      have hw : r_ = nI 0 := hw
                      subst hw
                      refine lv_if_ne (tgt := 107) hx hb dX1_readGuest_102 (by decide) (fun h => absurd h (by decide)) (fun _ => ?_)
                      refine lv_iconst (v := nI 0) hx hb dX1_readGuest_105 (by decide) ?_
                      have E : kRG bs ln pl L F = (false, pl + 1 + 1 + 1 + 1, L, F) := (kRG_f b_3 b_16 k_34 (show kRT bs ln (pl + 1) = (false, pl + 1 + 1 + 1 + 1, kb9 bs (pl + 1) - 48, kb9 bs (pl + 1 + 1 + 1) - 48, 1) from (by unfold kRT; rw [if_pos k_43, if_neg k_43b]; unfold kRT2; rw [if_pos k_57, if_pos k_67, if_neg k_83, if_neg k_99]))).trans (if_neg (by decide))
                      have hP : va_P D vwCl (bkF [tW cy ta (bs, ln, (kRG bs ln pl L F).2.1), gW cy a k (kRG bs ln pl L F).2.2.1, gW cy b k2 (kRG bs ln pl L F).2.2.2]) H := by rw [E]; exact hP
                      have hD : va_D A (bkF [tW cy ta (bs, ln, (kRG bs ln pl L F).2.1), gW cy a k (kRG bs ln pl L F).2.2.1, gW cy b k2 (kRG bs ln pl L F).2.2.2]) := by rw [E]; exact hD
                      exact kr_i (post := fun r_ (u_ : Unit) => r_ = if (kRG bs ln pl L F).1 = true then nI 1 else nI 0) (Bs := fun u_ : Unit => [tW cy ta (bs, ln, (kRG bs ln pl L F).2.1), gW cy a k (kRG bs ln pl L F).2.2.1, gW cy b k2 (kRG bs ln pl L F).2.2.2]) hx hb hr hlocks rfl () hP hK hD hS (by rw [E]; rfl) dX1_readGuest_106 hQ
                · skip
                  exact nI_ne1 (by have := k_67.2.2; omega) c_75
              · skip
                refine kc_i (Cs := [tW cy ta (bs, ln, pl + 1 + 1 + 1)]) (Rs := [gW cy a k L, gW cy b k2 F]) (Bs := [tW cy ta (bs, ln, pl + 1 + 1 + 1), gW cy a k L, gW cy b k2 F]) (Cs' := fun u_ : Unit => [tW cy ta (bs, ln, pl + 1 + 1 + 1)]) (Fs := fun u_ : Unit => [tW cy ta (bs, ln, pl + 1 + 1 + 1), gW cy a k L, gW cy b k2 F]) hP hD hS hA [0] [1, 2] [2, 0, 1] rfl rfl (by decide) (by decide) (fun _ => rfl) (va_runV (As := [.int (nI 1)]) (rest := []) ⟨hx, hb, hml, hown, hts⟩ (c_X1_readDigit_n l D cy ta bs ln (pl + 1 + 1 + 1) 1 hby (by first | assumption | omega | decide) (by first | assumption | omega | decide) (by first | assumption | omega | decide) k_67 H.size) (cwV 1 hts gX1_readGuest_X1_readDigit rfl rfl rfl (by decide +kernel) ⟨Nat.le_of_ble_eq_true rfl, Nat.le_of_ble_eq_true rfl⟩) (kPre_V (ci := 1) hK hN hP hD [0] (by decide) rfl 0 rfl rfl) rfl rfl hl.1 rfl (lv_room (Nat.le_of_ble_eq_true rfl)) dX1_readGuest_67 ⟨Nat.le_of_ble_eq_true rfl, Nat.le_of_ble_eq_true rfl⟩) (fun r_ u_ H locs hw hP hD hS => ?_)
                have hw : r_ = (-1 : Int32) := hw
                subst hw
                refine lv_istore (lv' := [(5, .int (-1 : Int32)), (4, .int (nI (kb9 bs (pl + 1) - 48))), (3, .ref (b k2)), (0, .ref (ta 0)), (1, .ref (a k)), (2, .ref (b k2))]) hx hb dX1_readGuest_70 hl (by decide) rfl (fun ls hl => ?_)
                refine lv_iload hx hb dX1_readGuest_72 (lv_at hl 0 rfl) ?_
                refine lv_iconst (v := (-1 : Int32)) hx hb dX1_readGuest_74 (by decide) ?_
                refine lv_icmp_ne (tgt := 80) hx hb dX1_readGuest_75 (by decide) (fun h => absurd h (by decide)) (fun _ => ?_)
                refine lv_iconst (v := nI 0) hx hb dX1_readGuest_78 (by decide) ?_
                have E : kRG bs ln pl L F = (false, pl + 1 + 1 + 1, L, F) := (kRG_f b_3 b_16 k_34 (show kRT bs ln (pl + 1) = (false, pl + 1 + 1 + 1, kb9 bs (pl + 1) - 48, 0, 0) from (by unfold kRT; rw [if_pos k_43, if_neg k_43b]; unfold kRT2; rw [if_pos k_57, if_neg k_67]))).trans (if_neg (by decide))
                have hP : va_P D vwCl (bkF [tW cy ta (bs, ln, (kRG bs ln pl L F).2.1), gW cy a k (kRG bs ln pl L F).2.2.1, gW cy b k2 (kRG bs ln pl L F).2.2.2]) H := by rw [E]; exact hP
                have hD : va_D A (bkF [tW cy ta (bs, ln, (kRG bs ln pl L F).2.1), gW cy a k (kRG bs ln pl L F).2.2.1, gW cy b k2 (kRG bs ln pl L F).2.2.2]) := by rw [E]; exact hD
                exact kr_i (post := fun r_ (u_ : Unit) => r_ = if (kRG bs ln pl L F).1 = true then nI 1 else nI 0) (Bs := fun u_ : Unit => [tW cy ta (bs, ln, (kRG bs ln pl L F).2.1), gW cy a k (kRG bs ln pl L F).2.2.1, gW cy b k2 (kRG bs ln pl L F).2.2.2]) hx hb hr hlocks rfl () hP hK hD hS (by rw [E]; rfl) dX1_readGuest_79 hQ
            · skip
              refine kc_i (Cs := [tW cy ta (bs, ln, pl + 1 + 1)]) (Rs := [gW cy a k L, gW cy b k2 F]) (Bs := [tW cy ta (bs, ln, pl + 1 + 1), gW cy a k L, gW cy b k2 F]) (Cs' := fun u_ : Unit => [tW cy ta (bs, ln, pl + 1 + 1)]) (Fs := fun u_ : Unit => [tW cy ta (bs, ln, pl + 1 + 1), gW cy a k L, gW cy b k2 F]) hP hD hS hA [0] [1, 2] [2, 0, 1] rfl rfl (by decide) (by decide) (fun _ => rfl) (va_runV (As := [.int (nI 44)]) (rest := []) ⟨hx, hb, hml, hown, hts⟩ (c_X1_skip_n l D cy ta bs ln (pl + 1 + 1) 44 (by first | assumption | omega | decide) (by first | assumption | omega | decide) k_57 H.size) (cwV 1 hts gX1_readGuest_X1_skip rfl rfl rfl (by decide +kernel) ⟨Nat.le_of_ble_eq_true rfl, Nat.le_of_ble_eq_true rfl⟩) (kPre_V (ci := 1) hK hN hP hD [0] (by decide) rfl 0 rfl rfl) rfl rfl hl.1 rfl (lv_room (Nat.le_of_ble_eq_true rfl)) dX1_readGuest_57 ⟨Nat.le_of_ble_eq_true rfl, Nat.le_of_ble_eq_true rfl⟩) (fun r_ u_ H locs hw hP hD hS => ?_)
              have hw : r_ = nI 0 := hw
              subst hw
              refine lv_if_ne (tgt := 65) hx hb dX1_readGuest_60 (by decide) (fun h => absurd h (by decide)) (fun _ => ?_)
              refine lv_iconst (v := nI 0) hx hb dX1_readGuest_63 (by decide) ?_
              have E : kRG bs ln pl L F = (false, pl + 1 + 1, L, F) := (kRG_f b_3 b_16 k_34 (show kRT bs ln (pl + 1) = (false, pl + 1 + 1, kb9 bs (pl + 1) - 48, 0, 0) from (by unfold kRT; rw [if_pos k_43, if_neg k_43b]; unfold kRT2; rw [if_neg k_57]))).trans (if_neg (by decide))
              have hP : va_P D vwCl (bkF [tW cy ta (bs, ln, (kRG bs ln pl L F).2.1), gW cy a k (kRG bs ln pl L F).2.2.1, gW cy b k2 (kRG bs ln pl L F).2.2.2]) H := by rw [E]; exact hP
              have hD : va_D A (bkF [tW cy ta (bs, ln, (kRG bs ln pl L F).2.1), gW cy a k (kRG bs ln pl L F).2.2.1, gW cy b k2 (kRG bs ln pl L F).2.2.2]) := by rw [E]; exact hD
              exact kr_i (post := fun r_ (u_ : Unit) => r_ = if (kRG bs ln pl L F).1 = true then nI 1 else nI 0) (Bs := fun u_ : Unit => [tW cy ta (bs, ln, (kRG bs ln pl L F).2.1), gW cy a k (kRG bs ln pl L F).2.2.1, gW cy b k2 (kRG bs ln pl L F).2.2.2]) hx hb hr hlocks rfl () hP hK hD hS (by rw [E]; rfl) dX1_readGuest_64 hQ
        · skip
          refine kc_i (Cs := [tW cy ta (bs, ln, pl + 1)]) (Rs := [gW cy a k L, gW cy b k2 F]) (Bs := [tW cy ta (bs, ln, pl + 1), gW cy a k L, gW cy b k2 F]) (Cs' := fun u_ : Unit => [tW cy ta (bs, ln, pl + 1 + 1 + 1)]) (Fs := fun u_ : Unit => [tW cy ta (bs, ln, pl + 1 + 1 + 1), gW cy a k L, gW cy b k2 F]) hP hD hS hA [0] [1, 2] [2, 0, 1] rfl rfl (by decide) (by decide) (fun _ => rfl) (va_runV (As := []) (rest := []) ⟨hx, hb, hml, hown, hts⟩ (c_X1_readTokens_2 l D cy ta bs ln (pl + 1) hby (by first | assumption | omega | decide) (by first | assumption | omega | decide) k_43 k_43b H.size) (cwV 0 hts gX1_readGuest_X1_readTokens rfl rfl rfl (by decide +kernel) ⟨Nat.le_of_ble_eq_true rfl, Nat.le_of_ble_eq_true rfl⟩) (kPre_V (ci := 1) hK hN hP hD [0] (by decide) rfl 0 rfl rfl) rfl rfl hl.1 rfl (lv_room (Nat.le_of_ble_eq_true rfl)) dX1_readGuest_43 ⟨Nat.le_of_ble_eq_true rfl, Nat.le_of_ble_eq_true rfl⟩) (fun r_ u_ H locs hw hP hD hS => ?_)
          have hw : r_ = nI (10 * (kb9 bs (pl + 1) - 48) + (kb9 bs (pl + 1 + 1) - 48)) := hw
          subst hw
          refine lv_istore (lv' := [(4, .int (nI (10 * (kb9 bs (pl + 1) - 48) + (kb9 bs (pl + 1 + 1) - 48)))), (3, .ref (b k2)), (0, .ref (ta 0)), (1, .ref (a k)), (2, .ref (b k2))]) hx hb dX1_readGuest_46 hl (by decide) rfl (fun ls hl => ?_)
          refine lv_iload hx hb dX1_readGuest_48 (lv_at hl 0 rfl) ?_
          refine lv_iconst (v := (-1 : Int32)) hx hb dX1_readGuest_50 (by decide) ?_
          refine lv_icmp_eq (tgt := 63) hx hb dX1_readGuest_51 (by decide) (fun c_51 => False.elim ?_) (fun c_51 => ?_)
          · skip
            exact nI_ne1 (by have := k_43.2.2; have := k_43b.2.2; omega) c_51
          · skip
            refine lv_aload_n hx hb dX1_readGuest_54 rfl (lv_at hl 2 rfl) ?_
            refine lv_bipush (v := nI 44) hx hb dX1_readGuest_55 (by decide) ?_
            by_cases k_57 : kIs bs ln (pl + 1 + 1 + 1) 44
            · skip
              refine kc_i (Cs := [tW cy ta (bs, ln, pl + 1 + 1 + 1)]) (Rs := [gW cy a k L, gW cy b k2 F]) (Bs := [tW cy ta (bs, ln, pl + 1 + 1 + 1), gW cy a k L, gW cy b k2 F]) (Cs' := fun u_ : Unit => [tW cy ta (bs, ln, pl + 1 + 1 + 1 + 1)]) (Fs := fun u_ : Unit => [tW cy ta (bs, ln, pl + 1 + 1 + 1 + 1), gW cy a k L, gW cy b k2 F]) hP hD hS hA [0] [1, 2] [2, 0, 1] rfl rfl (by decide) (by decide) (fun _ => rfl) (va_runV (As := [.int (nI 44)]) (rest := []) ⟨hx, hb, hml, hown, hts⟩ (c_X1_skip_y l D cy ta bs ln (pl + 1 + 1 + 1) 44 (by first | assumption | omega | decide) (by first | assumption | omega | decide) k_57 H.size) (cwV 1 hts gX1_readGuest_X1_skip rfl rfl rfl (by decide +kernel) ⟨Nat.le_of_ble_eq_true rfl, Nat.le_of_ble_eq_true rfl⟩) (kPre_V (ci := 1) hK hN hP hD [0] (by decide) rfl 0 rfl rfl) rfl rfl hl.1 rfl (lv_room (Nat.le_of_ble_eq_true rfl)) dX1_readGuest_57 ⟨Nat.le_of_ble_eq_true rfl, Nat.le_of_ble_eq_true rfl⟩) (fun r_ u_ H locs hw hP hD hS => ?_)
              have hw : r_ = nI 1 := hw
              subst hw
              refine lv_if_ne (tgt := 65) hx hb dX1_readGuest_60 (by decide) (fun _ => ?_) (fun h => absurd h (by decide))
              refine lv_aload_n hx hb dX1_readGuest_65 rfl (lv_at hl 2 rfl) ?_
              refine lv_iconst (v := nI 1) hx hb dX1_readGuest_66 (by decide) ?_
              by_cases k_67 : kDig bs ln (pl + 1 + 1 + 1 + 1) 1
              · skip
                refine kc_i (Cs := [tW cy ta (bs, ln, pl + 1 + 1 + 1 + 1)]) (Rs := [gW cy a k L, gW cy b k2 F]) (Bs := [tW cy ta (bs, ln, pl + 1 + 1 + 1 + 1), gW cy a k L, gW cy b k2 F]) (Cs' := fun u_ : Unit => [tW cy ta (bs, ln, pl + 1 + 1 + 1 + 1 + 1)]) (Fs := fun u_ : Unit => [tW cy ta (bs, ln, pl + 1 + 1 + 1 + 1 + 1), gW cy a k L, gW cy b k2 F]) hP hD hS hA [0] [1, 2] [2, 0, 1] rfl rfl (by decide) (by decide) (fun _ => rfl) (va_runV (As := [.int (nI 1)]) (rest := []) ⟨hx, hb, hml, hown, hts⟩ (c_X1_readDigit_y l D cy ta bs ln (pl + 1 + 1 + 1 + 1) 1 hby (by first | assumption | omega | decide) (by first | assumption | omega | decide) (by first | assumption | omega | decide) k_67 H.size) (cwV 1 hts gX1_readGuest_X1_readDigit rfl rfl rfl (by decide +kernel) ⟨Nat.le_of_ble_eq_true rfl, Nat.le_of_ble_eq_true rfl⟩) (kPre_V (ci := 1) hK hN hP hD [0] (by decide) rfl 0 rfl rfl) rfl rfl hl.1 rfl (lv_room (Nat.le_of_ble_eq_true rfl)) dX1_readGuest_67 ⟨Nat.le_of_ble_eq_true rfl, Nat.le_of_ble_eq_true rfl⟩) (fun r_ u_ H locs hw hP hD hS => ?_)
                have hw : r_ = nI (kb9 bs (pl + 1 + 1 + 1 + 1) - 48) := hw
                subst hw
                refine lv_istore (lv' := [(5, .int (nI (kb9 bs (pl + 1 + 1 + 1 + 1) - 48))), (4, .int (nI (10 * (kb9 bs (pl + 1) - 48) + (kb9 bs (pl + 1 + 1) - 48)))), (3, .ref (b k2)), (0, .ref (ta 0)), (1, .ref (a k)), (2, .ref (b k2))]) hx hb dX1_readGuest_70 hl (by decide) rfl (fun ls hl => ?_)
                refine lv_iload hx hb dX1_readGuest_72 (lv_at hl 0 rfl) ?_
                refine lv_iconst (v := (-1 : Int32)) hx hb dX1_readGuest_74 (by decide) ?_
                refine lv_icmp_ne (tgt := 80) hx hb dX1_readGuest_75 (by decide) (fun c_75 => ?_) (fun c_75 => False.elim ?_)
                · skip
                  refine lv_aload_n hx hb dX1_readGuest_80 rfl (lv_at hl 3 rfl) ?_
                  refine lv_bipush (v := nI 45) hx hb dX1_readGuest_81 (by decide) ?_
                  by_cases k_83 : kIs bs ln (pl + 1 + 1 + 1 + 1 + 1) 45
                  · skip
                    refine kc_i (Cs := [tW cy ta (bs, ln, pl + 1 + 1 + 1 + 1 + 1)]) (Rs := [gW cy a k L, gW cy b k2 F]) (Bs := [tW cy ta (bs, ln, pl + 1 + 1 + 1 + 1 + 1), gW cy a k L, gW cy b k2 F]) (Cs' := fun u_ : Unit => [tW cy ta (bs, ln, pl + 1 + 1 + 1 + 1 + 1 + 1)]) (Fs := fun u_ : Unit => [tW cy ta (bs, ln, pl + 1 + 1 + 1 + 1 + 1 + 1), gW cy a k L, gW cy b k2 F]) hP hD hS hA [0] [1, 2] [2, 0, 1] rfl rfl (by decide) (by decide) (fun _ => rfl) (va_runV (As := [.int (nI 45)]) (rest := []) ⟨hx, hb, hml, hown, hts⟩ (c_X1_skip_y l D cy ta bs ln (pl + 1 + 1 + 1 + 1 + 1) 45 (by first | assumption | omega | decide) (by first | assumption | omega | decide) k_83 H.size) (cwV 1 hts gX1_readGuest_X1_skip rfl rfl rfl (by decide +kernel) ⟨Nat.le_of_ble_eq_true rfl, Nat.le_of_ble_eq_true rfl⟩) (kPre_V (ci := 1) hK hN hP hD [0] (by decide) rfl 0 rfl rfl) rfl rfl hl.1 rfl (lv_room (Nat.le_of_ble_eq_true rfl)) dX1_readGuest_83 ⟨Nat.le_of_ble_eq_true rfl, Nat.le_of_ble_eq_true rfl⟩) (fun r_ u_ H locs hw hP hD hS => ?_)
                    have hw : r_ = nI 1 := hw
                    subst hw
                    refine lv_if_ne (tgt := 93) hx hb dX1_readGuest_86 (by decide) (fun _ => ?_) (fun h => absurd h (by decide))
                    refine lv_iconst (v := nI 0) hx hb dX1_readGuest_93 (by decide) ?_
                    refine lv_istore (lv' := [(6, .int (nI 0)), (5, .int (nI (kb9 bs (pl + 1 + 1 + 1 + 1) - 48))), (4, .int (nI (10 * (kb9 bs (pl + 1) - 48) + (kb9 bs (pl + 1 + 1) - 48)))), (3, .ref (b k2)), (0, .ref (ta 0)), (1, .ref (a k)), (2, .ref (b k2))]) hx hb dX1_readGuest_94 hl (by decide) rfl (fun ls hl => ?_)
                    refine lv_aload_n hx hb dX1_readGuest_96 rfl (lv_at hl 4 rfl) ?_
                    refine lv_bipush (v := nI 59) hx hb dX1_readGuest_97 (by decide) ?_
                    by_cases k_99 : kIs bs ln (pl + 1 + 1 + 1 + 1 + 1 + 1) 59
                    · skip
                      refine kc_i (Cs := [tW cy ta (bs, ln, pl + 1 + 1 + 1 + 1 + 1 + 1)]) (Rs := [gW cy a k L, gW cy b k2 F]) (Bs := [tW cy ta (bs, ln, pl + 1 + 1 + 1 + 1 + 1 + 1), gW cy a k L, gW cy b k2 F]) (Cs' := fun u_ : Unit => [tW cy ta (bs, ln, pl + 1 + 1 + 1 + 1 + 1 + 1 + 1)]) (Fs := fun u_ : Unit => [tW cy ta (bs, ln, pl + 1 + 1 + 1 + 1 + 1 + 1 + 1), gW cy a k L, gW cy b k2 F]) hP hD hS hA [0] [1, 2] [2, 0, 1] rfl rfl (by decide) (by decide) (fun _ => rfl) (va_runV (As := [.int (nI 59)]) (rest := []) ⟨hx, hb, hml, hown, hts⟩ (c_X1_skip_y l D cy ta bs ln (pl + 1 + 1 + 1 + 1 + 1 + 1) 59 (by first | assumption | omega | decide) (by first | assumption | omega | decide) k_99 H.size) (cwV 1 hts gX1_readGuest_X1_skip rfl rfl rfl (by decide +kernel) ⟨Nat.le_of_ble_eq_true rfl, Nat.le_of_ble_eq_true rfl⟩) (kPre_V (ci := 1) hK hN hP hD [0] (by decide) rfl 0 rfl rfl) rfl rfl hl.1 rfl (lv_room (Nat.le_of_ble_eq_true rfl)) dX1_readGuest_99 ⟨Nat.le_of_ble_eq_true rfl, Nat.le_of_ble_eq_true rfl⟩) (fun r_ u_ H locs hw hP hD hS => ?_)
                      have hw : r_ = nI 1 := hw
                      subst hw
                      refine lv_if_ne (tgt := 107) hx hb dX1_readGuest_102 (by decide) (fun _ => ?_) (fun h => absurd h (by decide))
                      refine lv_aload_n hx hb dX1_readGuest_107 rfl (lv_at hl 3 rfl) ?_
                      refine lv_iload hx hb dX1_readGuest_108 (lv_at hl 2 rfl) ?_
                      refine lv_iload hx hb dX1_readGuest_110 (lv_at hl 1 rfl) ?_
                      refine lv_iload hx hb dX1_readGuest_112 (lv_at hl 0 rfl) ?_
                      refine kc_i (Cs := [gW cy b k2 F]) (Rs := [tW cy ta (bs, ln, pl + 1 + 1 + 1 + 1 + 1 + 1 + 1), gW cy a k L]) (Bs := [tW cy ta (bs, ln, pl + 1 + 1 + 1 + 1 + 1 + 1 + 1), gW cy a k L, gW cy b k2 F]) (Cs' := fun u_ : Unit => [gW cy b k2 (upd F.1 F.2.2.2.2.2 (nI (10 * (kb9 bs (pl + 1) - 48) + (kb9 bs (pl + 1 + 1) - 48))), upd F.2.1 F.2.2.2.2.2 (nI (kb9 bs (pl + 1 + 1 + 1 + 1) - 48)), upd F.2.2.1 F.2.2.2.2.2 (nI 0), upd F.2.2.2.1 F.2.2.2.2.2 (nI 1), upd F.2.2.2.2.1 F.2.2.2.2.2 (nI 0), F.2.2.2.2.2 + 1)]) (Fs := fun u_ : Unit => [tW cy ta (bs, ln, pl + 1 + 1 + 1 + 1 + 1 + 1 + 1), gW cy a k L, gW cy b k2 (upd F.1 F.2.2.2.2.2 (nI (10 * (kb9 bs (pl + 1) - 48) + (kb9 bs (pl + 1 + 1) - 48))), upd F.2.1 F.2.2.2.2.2 (nI (kb9 bs (pl + 1 + 1 + 1 + 1) - 48)), upd F.2.2.1 F.2.2.2.2.2 (nI 0), upd F.2.2.2.1 F.2.2.2.2.2 (nI 1), upd F.2.2.2.2.1 F.2.2.2.2.2 (nI 0), F.2.2.2.2.2 + 1)]) hP hD hS hA [2] [0, 1] [0, 1, 2] rfl rfl (by decide) (by decide) (fun _ => rfl) (va_runV (As := [.int (nI (10 * (kb9 bs (pl + 1) - 48) + (kb9 bs (pl + 1 + 1) - 48))), .int (nI (kb9 bs (pl + 1 + 1 + 1 + 1) - 48)), .int (nI 0)]) (rest := []) ⟨hx, hb, hml, hown, hts⟩ (c_X2_add l D cy b k2 F (nI (10 * (kb9 bs (pl + 1) - 48) + (kb9 bs (pl + 1 + 1) - 48))) (nI (kb9 bs (pl + 1 + 1 + 1 + 1) - 48)) (nI 0) (by first | assumption | omega | decide) (by first | assumption | omega | decide) H.size) (cwV 3 hts gX1_readGuest_X2_add rfl rfl rfl (by decide +kernel) ⟨Nat.le_of_ble_eq_true rfl, Nat.le_of_ble_eq_true rfl⟩) (kPre_V (ci := 2) hK hN hP hD [2] (by decide) rfl 0 rfl rfl) rfl rfl hl.1 rfl (lv_room (Nat.le_of_ble_eq_true rfl)) dX1_readGuest_114 ⟨Nat.le_of_ble_eq_true rfl, Nat.le_of_ble_eq_true rfl⟩) (fun r_ u_ H locs hw hP hD hS => ?_)
                      have hw : r_ = nI F.2.2.2.2.2 := hw
                      subst hw
                      refine lv_pop hx hb dX1_readGuest_117 rfl ?_
                      refine lv_iconst (v := nI 1) hx hb dX1_readGuest_118 (by decide) ?_
                      have E : kRG bs ln pl L F = (true, pl + 1 + 1 + 1 + 1 + 1 + 1 + 1, L, kAdd F (10 * (kb9 bs (pl + 1) - 48) + (kb9 bs (pl + 1 + 1) - 48)) (kb9 bs (pl + 1 + 1 + 1 + 1) - 48) 0) := (kRG_f b_3 b_16 k_34 (show kRT bs ln (pl + 1) = (true, pl + 1 + 1 + 1 + 1 + 1 + 1 + 1, 10 * (kb9 bs (pl + 1) - 48) + (kb9 bs (pl + 1 + 1) - 48), kb9 bs (pl + 1 + 1 + 1 + 1) - 48, 0) from (by unfold kRT; rw [if_pos k_43, if_pos k_43b]; unfold kRT2; rw [if_pos k_57, if_pos k_67, if_pos k_83, if_pos k_99]))).trans (if_pos rfl)
                      have hP : va_P D vwCl (bkF [tW cy ta (bs, ln, (kRG bs ln pl L F).2.1), gW cy a k (kRG bs ln pl L F).2.2.1, gW cy b k2 (kRG bs ln pl L F).2.2.2]) H := by rw [E]; exact hP
                      have hD : va_D A (bkF [tW cy ta (bs, ln, (kRG bs ln pl L F).2.1), gW cy a k (kRG bs ln pl L F).2.2.1, gW cy b k2 (kRG bs ln pl L F).2.2.2]) := by rw [E]; exact hD
                      exact kr_i (post := fun r_ (u_ : Unit) => r_ = if (kRG bs ln pl L F).1 = true then nI 1 else nI 0) (Bs := fun u_ : Unit => [tW cy ta (bs, ln, (kRG bs ln pl L F).2.1), gW cy a k (kRG bs ln pl L F).2.2.1, gW cy b k2 (kRG bs ln pl L F).2.2.2]) hx hb hr hlocks rfl () hP hK hD hS (by rw [E]; rfl) dX1_readGuest_119 hQ
                    · skip
                      refine kc_i (Cs := [tW cy ta (bs, ln, pl + 1 + 1 + 1 + 1 + 1 + 1)]) (Rs := [gW cy a k L, gW cy b k2 F]) (Bs := [tW cy ta (bs, ln, pl + 1 + 1 + 1 + 1 + 1 + 1), gW cy a k L, gW cy b k2 F]) (Cs' := fun u_ : Unit => [tW cy ta (bs, ln, pl + 1 + 1 + 1 + 1 + 1 + 1)]) (Fs := fun u_ : Unit => [tW cy ta (bs, ln, pl + 1 + 1 + 1 + 1 + 1 + 1), gW cy a k L, gW cy b k2 F]) hP hD hS hA [0] [1, 2] [2, 0, 1] rfl rfl (by decide) (by decide) (fun _ => rfl) (va_runV (As := [.int (nI 59)]) (rest := []) ⟨hx, hb, hml, hown, hts⟩ (c_X1_skip_n l D cy ta bs ln (pl + 1 + 1 + 1 + 1 + 1 + 1) 59 (by first | assumption | omega | decide) (by first | assumption | omega | decide) k_99 H.size) (cwV 1 hts gX1_readGuest_X1_skip rfl rfl rfl (by decide +kernel) ⟨Nat.le_of_ble_eq_true rfl, Nat.le_of_ble_eq_true rfl⟩) (kPre_V (ci := 1) hK hN hP hD [0] (by decide) rfl 0 rfl rfl) rfl rfl hl.1 rfl (lv_room (Nat.le_of_ble_eq_true rfl)) dX1_readGuest_99 ⟨Nat.le_of_ble_eq_true rfl, Nat.le_of_ble_eq_true rfl⟩) (fun r_ u_ H locs hw hP hD hS => ?_)
                      have hw : r_ = nI 0 := hw
                      subst hw
                      refine lv_if_ne (tgt := 107) hx hb dX1_readGuest_102 (by decide) (fun h => absurd h (by decide)) (fun _ => ?_)
                      refine lv_iconst (v := nI 0) hx hb dX1_readGuest_105 (by decide) ?_
                      have E : kRG bs ln pl L F = (false, pl + 1 + 1 + 1 + 1 + 1 + 1, L, F) := (kRG_f b_3 b_16 k_34 (show kRT bs ln (pl + 1) = (false, pl + 1 + 1 + 1 + 1 + 1 + 1, 10 * (kb9 bs (pl + 1) - 48) + (kb9 bs (pl + 1 + 1) - 48), kb9 bs (pl + 1 + 1 + 1 + 1) - 48, 0) from (by unfold kRT; rw [if_pos k_43, if_pos k_43b]; unfold kRT2; rw [if_pos k_57, if_pos k_67, if_pos k_83, if_neg k_99]))).trans (if_neg (by decide))
                      have hP : va_P D vwCl (bkF [tW cy ta (bs, ln, (kRG bs ln pl L F).2.1), gW cy a k (kRG bs ln pl L F).2.2.1, gW cy b k2 (kRG bs ln pl L F).2.2.2]) H := by rw [E]; exact hP
                      have hD : va_D A (bkF [tW cy ta (bs, ln, (kRG bs ln pl L F).2.1), gW cy a k (kRG bs ln pl L F).2.2.1, gW cy b k2 (kRG bs ln pl L F).2.2.2]) := by rw [E]; exact hD
                      exact kr_i (post := fun r_ (u_ : Unit) => r_ = if (kRG bs ln pl L F).1 = true then nI 1 else nI 0) (Bs := fun u_ : Unit => [tW cy ta (bs, ln, (kRG bs ln pl L F).2.1), gW cy a k (kRG bs ln pl L F).2.2.1, gW cy b k2 (kRG bs ln pl L F).2.2.2]) hx hb hr hlocks rfl () hP hK hD hS (by rw [E]; rfl) dX1_readGuest_106 hQ
                  · skip
                    refine kc_i (Cs := [tW cy ta (bs, ln, pl + 1 + 1 + 1 + 1 + 1)]) (Rs := [gW cy a k L, gW cy b k2 F]) (Bs := [tW cy ta (bs, ln, pl + 1 + 1 + 1 + 1 + 1), gW cy a k L, gW cy b k2 F]) (Cs' := fun u_ : Unit => [tW cy ta (bs, ln, pl + 1 + 1 + 1 + 1 + 1)]) (Fs := fun u_ : Unit => [tW cy ta (bs, ln, pl + 1 + 1 + 1 + 1 + 1), gW cy a k L, gW cy b k2 F]) hP hD hS hA [0] [1, 2] [2, 0, 1] rfl rfl (by decide) (by decide) (fun _ => rfl) (va_runV (As := [.int (nI 45)]) (rest := []) ⟨hx, hb, hml, hown, hts⟩ (c_X1_skip_n l D cy ta bs ln (pl + 1 + 1 + 1 + 1 + 1) 45 (by first | assumption | omega | decide) (by first | assumption | omega | decide) k_83 H.size) (cwV 1 hts gX1_readGuest_X1_skip rfl rfl rfl (by decide +kernel) ⟨Nat.le_of_ble_eq_true rfl, Nat.le_of_ble_eq_true rfl⟩) (kPre_V (ci := 1) hK hN hP hD [0] (by decide) rfl 0 rfl rfl) rfl rfl hl.1 rfl (lv_room (Nat.le_of_ble_eq_true rfl)) dX1_readGuest_83 ⟨Nat.le_of_ble_eq_true rfl, Nat.le_of_ble_eq_true rfl⟩) (fun r_ u_ H locs hw hP hD hS => ?_)
                    have hw : r_ = nI 0 := hw
                    subst hw
                    refine lv_if_ne (tgt := 93) hx hb dX1_readGuest_86 (by decide) (fun h => absurd h (by decide)) (fun _ => ?_)
                    refine lv_iconst (v := nI 1) hx hb dX1_readGuest_89 (by decide) ?_
                    refine lv_goto (tgt := 94) hx hb dX1_readGuest_90 (by decide) ?_
                    refine lv_istore (lv' := [(6, .int (nI 1)), (5, .int (nI (kb9 bs (pl + 1 + 1 + 1 + 1) - 48))), (4, .int (nI (10 * (kb9 bs (pl + 1) - 48) + (kb9 bs (pl + 1 + 1) - 48)))), (3, .ref (b k2)), (0, .ref (ta 0)), (1, .ref (a k)), (2, .ref (b k2))]) hx hb dX1_readGuest_94 hl (by decide) rfl (fun ls hl => ?_)
                    refine lv_aload_n hx hb dX1_readGuest_96 rfl (lv_at hl 4 rfl) ?_
                    refine lv_bipush (v := nI 59) hx hb dX1_readGuest_97 (by decide) ?_
                    by_cases k_99 : kIs bs ln (pl + 1 + 1 + 1 + 1 + 1) 59
                    · skip
                      refine kc_i (Cs := [tW cy ta (bs, ln, pl + 1 + 1 + 1 + 1 + 1)]) (Rs := [gW cy a k L, gW cy b k2 F]) (Bs := [tW cy ta (bs, ln, pl + 1 + 1 + 1 + 1 + 1), gW cy a k L, gW cy b k2 F]) (Cs' := fun u_ : Unit => [tW cy ta (bs, ln, pl + 1 + 1 + 1 + 1 + 1 + 1)]) (Fs := fun u_ : Unit => [tW cy ta (bs, ln, pl + 1 + 1 + 1 + 1 + 1 + 1), gW cy a k L, gW cy b k2 F]) hP hD hS hA [0] [1, 2] [2, 0, 1] rfl rfl (by decide) (by decide) (fun _ => rfl) (va_runV (As := [.int (nI 59)]) (rest := []) ⟨hx, hb, hml, hown, hts⟩ (c_X1_skip_y l D cy ta bs ln (pl + 1 + 1 + 1 + 1 + 1) 59 (by first | assumption | omega | decide) (by first | assumption | omega | decide) k_99 H.size) (cwV 1 hts gX1_readGuest_X1_skip rfl rfl rfl (by decide +kernel) ⟨Nat.le_of_ble_eq_true rfl, Nat.le_of_ble_eq_true rfl⟩) (kPre_V (ci := 1) hK hN hP hD [0] (by decide) rfl 0 rfl rfl) rfl rfl hl.1 rfl (lv_room (Nat.le_of_ble_eq_true rfl)) dX1_readGuest_99 ⟨Nat.le_of_ble_eq_true rfl, Nat.le_of_ble_eq_true rfl⟩) (fun r_ u_ H locs hw hP hD hS => ?_)
                      have hw : r_ = nI 1 := hw
                      subst hw
                      refine lv_if_ne (tgt := 107) hx hb dX1_readGuest_102 (by decide) (fun _ => ?_) (fun h => absurd h (by decide))
                      refine lv_aload_n hx hb dX1_readGuest_107 rfl (lv_at hl 3 rfl) ?_
                      refine lv_iload hx hb dX1_readGuest_108 (lv_at hl 2 rfl) ?_
                      refine lv_iload hx hb dX1_readGuest_110 (lv_at hl 1 rfl) ?_
                      refine lv_iload hx hb dX1_readGuest_112 (lv_at hl 0 rfl) ?_
                      refine kc_i (Cs := [gW cy b k2 F]) (Rs := [tW cy ta (bs, ln, pl + 1 + 1 + 1 + 1 + 1 + 1), gW cy a k L]) (Bs := [tW cy ta (bs, ln, pl + 1 + 1 + 1 + 1 + 1 + 1), gW cy a k L, gW cy b k2 F]) (Cs' := fun u_ : Unit => [gW cy b k2 (upd F.1 F.2.2.2.2.2 (nI (10 * (kb9 bs (pl + 1) - 48) + (kb9 bs (pl + 1 + 1) - 48))), upd F.2.1 F.2.2.2.2.2 (nI (kb9 bs (pl + 1 + 1 + 1 + 1) - 48)), upd F.2.2.1 F.2.2.2.2.2 (nI 1), upd F.2.2.2.1 F.2.2.2.2.2 (nI 1), upd F.2.2.2.2.1 F.2.2.2.2.2 (nI 0), F.2.2.2.2.2 + 1)]) (Fs := fun u_ : Unit => [tW cy ta (bs, ln, pl + 1 + 1 + 1 + 1 + 1 + 1), gW cy a k L, gW cy b k2 (upd F.1 F.2.2.2.2.2 (nI (10 * (kb9 bs (pl + 1) - 48) + (kb9 bs (pl + 1 + 1) - 48))), upd F.2.1 F.2.2.2.2.2 (nI (kb9 bs (pl + 1 + 1 + 1 + 1) - 48)), upd F.2.2.1 F.2.2.2.2.2 (nI 1), upd F.2.2.2.1 F.2.2.2.2.2 (nI 1), upd F.2.2.2.2.1 F.2.2.2.2.2 (nI 0), F.2.2.2.2.2 + 1)]) hP hD hS hA [2] [0, 1] [0, 1, 2] rfl rfl (by decide) (by decide) (fun _ => rfl) (va_runV (As := [.int (nI (10 * (kb9 bs (pl + 1) - 48) + (kb9 bs (pl + 1 + 1) - 48))), .int (nI (kb9 bs (pl + 1 + 1 + 1 + 1) - 48)), .int (nI 1)]) (rest := []) ⟨hx, hb, hml, hown, hts⟩ (c_X2_add l D cy b k2 F (nI (10 * (kb9 bs (pl + 1) - 48) + (kb9 bs (pl + 1 + 1) - 48))) (nI (kb9 bs (pl + 1 + 1 + 1 + 1) - 48)) (nI 1) (by first | assumption | omega | decide) (by first | assumption | omega | decide) H.size) (cwV 3 hts gX1_readGuest_X2_add rfl rfl rfl (by decide +kernel) ⟨Nat.le_of_ble_eq_true rfl, Nat.le_of_ble_eq_true rfl⟩) (kPre_V (ci := 2) hK hN hP hD [2] (by decide) rfl 0 rfl rfl) rfl rfl hl.1 rfl (lv_room (Nat.le_of_ble_eq_true rfl)) dX1_readGuest_114 ⟨Nat.le_of_ble_eq_true rfl, Nat.le_of_ble_eq_true rfl⟩) (fun r_ u_ H locs hw hP hD hS => ?_)
                      have hw : r_ = nI F.2.2.2.2.2 := hw
                      subst hw
                      refine lv_pop hx hb dX1_readGuest_117 rfl ?_
                      refine lv_iconst (v := nI 1) hx hb dX1_readGuest_118 (by decide) ?_
                      have E : kRG bs ln pl L F = (true, pl + 1 + 1 + 1 + 1 + 1 + 1, L, kAdd F (10 * (kb9 bs (pl + 1) - 48) + (kb9 bs (pl + 1 + 1) - 48)) (kb9 bs (pl + 1 + 1 + 1 + 1) - 48) 1) := (kRG_f b_3 b_16 k_34 (show kRT bs ln (pl + 1) = (true, pl + 1 + 1 + 1 + 1 + 1 + 1, 10 * (kb9 bs (pl + 1) - 48) + (kb9 bs (pl + 1 + 1) - 48), kb9 bs (pl + 1 + 1 + 1 + 1) - 48, 1) from (by unfold kRT; rw [if_pos k_43, if_pos k_43b]; unfold kRT2; rw [if_pos k_57, if_pos k_67, if_neg k_83, if_pos k_99]))).trans (if_pos rfl)
                      have hP : va_P D vwCl (bkF [tW cy ta (bs, ln, (kRG bs ln pl L F).2.1), gW cy a k (kRG bs ln pl L F).2.2.1, gW cy b k2 (kRG bs ln pl L F).2.2.2]) H := by rw [E]; exact hP
                      have hD : va_D A (bkF [tW cy ta (bs, ln, (kRG bs ln pl L F).2.1), gW cy a k (kRG bs ln pl L F).2.2.1, gW cy b k2 (kRG bs ln pl L F).2.2.2]) := by rw [E]; exact hD
                      exact kr_i (post := fun r_ (u_ : Unit) => r_ = if (kRG bs ln pl L F).1 = true then nI 1 else nI 0) (Bs := fun u_ : Unit => [tW cy ta (bs, ln, (kRG bs ln pl L F).2.1), gW cy a k (kRG bs ln pl L F).2.2.1, gW cy b k2 (kRG bs ln pl L F).2.2.2]) hx hb hr hlocks rfl () hP hK hD hS (by rw [E]; rfl) dX1_readGuest_119 hQ
                    · skip
                      refine kc_i (Cs := [tW cy ta (bs, ln, pl + 1 + 1 + 1 + 1 + 1)]) (Rs := [gW cy a k L, gW cy b k2 F]) (Bs := [tW cy ta (bs, ln, pl + 1 + 1 + 1 + 1 + 1), gW cy a k L, gW cy b k2 F]) (Cs' := fun u_ : Unit => [tW cy ta (bs, ln, pl + 1 + 1 + 1 + 1 + 1)]) (Fs := fun u_ : Unit => [tW cy ta (bs, ln, pl + 1 + 1 + 1 + 1 + 1), gW cy a k L, gW cy b k2 F]) hP hD hS hA [0] [1, 2] [2, 0, 1] rfl rfl (by decide) (by decide) (fun _ => rfl) (va_runV (As := [.int (nI 59)]) (rest := []) ⟨hx, hb, hml, hown, hts⟩ (c_X1_skip_n l D cy ta bs ln (pl + 1 + 1 + 1 + 1 + 1) 59 (by first | assumption | omega | decide) (by first | assumption | omega | decide) k_99 H.size) (cwV 1 hts gX1_readGuest_X1_skip rfl rfl rfl (by decide +kernel) ⟨Nat.le_of_ble_eq_true rfl, Nat.le_of_ble_eq_true rfl⟩) (kPre_V (ci := 1) hK hN hP hD [0] (by decide) rfl 0 rfl rfl) rfl rfl hl.1 rfl (lv_room (Nat.le_of_ble_eq_true rfl)) dX1_readGuest_99 ⟨Nat.le_of_ble_eq_true rfl, Nat.le_of_ble_eq_true rfl⟩) (fun r_ u_ H locs hw hP hD hS => ?_)
                      have hw : r_ = nI 0 := hw
                      subst hw
                      refine lv_if_ne (tgt := 107) hx hb dX1_readGuest_102 (by decide) (fun h => absurd h (by decide)) (fun _ => ?_)
                      refine lv_iconst (v := nI 0) hx hb dX1_readGuest_105 (by decide) ?_
                      have E : kRG bs ln pl L F = (false, pl + 1 + 1 + 1 + 1 + 1, L, F) := (kRG_f b_3 b_16 k_34 (show kRT bs ln (pl + 1) = (false, pl + 1 + 1 + 1 + 1 + 1, 10 * (kb9 bs (pl + 1) - 48) + (kb9 bs (pl + 1 + 1) - 48), kb9 bs (pl + 1 + 1 + 1 + 1) - 48, 1) from (by unfold kRT; rw [if_pos k_43, if_pos k_43b]; unfold kRT2; rw [if_pos k_57, if_pos k_67, if_neg k_83, if_neg k_99]))).trans (if_neg (by decide))
                      have hP : va_P D vwCl (bkF [tW cy ta (bs, ln, (kRG bs ln pl L F).2.1), gW cy a k (kRG bs ln pl L F).2.2.1, gW cy b k2 (kRG bs ln pl L F).2.2.2]) H := by rw [E]; exact hP
                      have hD : va_D A (bkF [tW cy ta (bs, ln, (kRG bs ln pl L F).2.1), gW cy a k (kRG bs ln pl L F).2.2.1, gW cy b k2 (kRG bs ln pl L F).2.2.2]) := by rw [E]; exact hD
                      exact kr_i (post := fun r_ (u_ : Unit) => r_ = if (kRG bs ln pl L F).1 = true then nI 1 else nI 0) (Bs := fun u_ : Unit => [tW cy ta (bs, ln, (kRG bs ln pl L F).2.1), gW cy a k (kRG bs ln pl L F).2.2.1, gW cy b k2 (kRG bs ln pl L F).2.2.2]) hx hb hr hlocks rfl () hP hK hD hS (by rw [E]; rfl) dX1_readGuest_106 hQ
                · skip
                  exact nI_ne1 (by have := k_67.2.2; omega) c_75
              · skip
                refine kc_i (Cs := [tW cy ta (bs, ln, pl + 1 + 1 + 1 + 1)]) (Rs := [gW cy a k L, gW cy b k2 F]) (Bs := [tW cy ta (bs, ln, pl + 1 + 1 + 1 + 1), gW cy a k L, gW cy b k2 F]) (Cs' := fun u_ : Unit => [tW cy ta (bs, ln, pl + 1 + 1 + 1 + 1)]) (Fs := fun u_ : Unit => [tW cy ta (bs, ln, pl + 1 + 1 + 1 + 1), gW cy a k L, gW cy b k2 F]) hP hD hS hA [0] [1, 2] [2, 0, 1] rfl rfl (by decide) (by decide) (fun _ => rfl) (va_runV (As := [.int (nI 1)]) (rest := []) ⟨hx, hb, hml, hown, hts⟩ (c_X1_readDigit_n l D cy ta bs ln (pl + 1 + 1 + 1 + 1) 1 hby (by first | assumption | omega | decide) (by first | assumption | omega | decide) (by first | assumption | omega | decide) k_67 H.size) (cwV 1 hts gX1_readGuest_X1_readDigit rfl rfl rfl (by decide +kernel) ⟨Nat.le_of_ble_eq_true rfl, Nat.le_of_ble_eq_true rfl⟩) (kPre_V (ci := 1) hK hN hP hD [0] (by decide) rfl 0 rfl rfl) rfl rfl hl.1 rfl (lv_room (Nat.le_of_ble_eq_true rfl)) dX1_readGuest_67 ⟨Nat.le_of_ble_eq_true rfl, Nat.le_of_ble_eq_true rfl⟩) (fun r_ u_ H locs hw hP hD hS => ?_)
                have hw : r_ = (-1 : Int32) := hw
                subst hw
                refine lv_istore (lv' := [(5, .int (-1 : Int32)), (4, .int (nI (10 * (kb9 bs (pl + 1) - 48) + (kb9 bs (pl + 1 + 1) - 48)))), (3, .ref (b k2)), (0, .ref (ta 0)), (1, .ref (a k)), (2, .ref (b k2))]) hx hb dX1_readGuest_70 hl (by decide) rfl (fun ls hl => ?_)
                refine lv_iload hx hb dX1_readGuest_72 (lv_at hl 0 rfl) ?_
                refine lv_iconst (v := (-1 : Int32)) hx hb dX1_readGuest_74 (by decide) ?_
                refine lv_icmp_ne (tgt := 80) hx hb dX1_readGuest_75 (by decide) (fun h => absurd h (by decide)) (fun _ => ?_)
                refine lv_iconst (v := nI 0) hx hb dX1_readGuest_78 (by decide) ?_
                have E : kRG bs ln pl L F = (false, pl + 1 + 1 + 1 + 1, L, F) := (kRG_f b_3 b_16 k_34 (show kRT bs ln (pl + 1) = (false, pl + 1 + 1 + 1 + 1, 10 * (kb9 bs (pl + 1) - 48) + (kb9 bs (pl + 1 + 1) - 48), 0, 0) from (by unfold kRT; rw [if_pos k_43, if_pos k_43b]; unfold kRT2; rw [if_pos k_57, if_neg k_67]))).trans (if_neg (by decide))
                have hP : va_P D vwCl (bkF [tW cy ta (bs, ln, (kRG bs ln pl L F).2.1), gW cy a k (kRG bs ln pl L F).2.2.1, gW cy b k2 (kRG bs ln pl L F).2.2.2]) H := by rw [E]; exact hP
                have hD : va_D A (bkF [tW cy ta (bs, ln, (kRG bs ln pl L F).2.1), gW cy a k (kRG bs ln pl L F).2.2.1, gW cy b k2 (kRG bs ln pl L F).2.2.2]) := by rw [E]; exact hD
                exact kr_i (post := fun r_ (u_ : Unit) => r_ = if (kRG bs ln pl L F).1 = true then nI 1 else nI 0) (Bs := fun u_ : Unit => [tW cy ta (bs, ln, (kRG bs ln pl L F).2.1), gW cy a k (kRG bs ln pl L F).2.2.1, gW cy b k2 (kRG bs ln pl L F).2.2.2]) hx hb hr hlocks rfl () hP hK hD hS (by rw [E]; rfl) dX1_readGuest_79 hQ
            · skip
              refine kc_i (Cs := [tW cy ta (bs, ln, pl + 1 + 1 + 1)]) (Rs := [gW cy a k L, gW cy b k2 F]) (Bs := [tW cy ta (bs, ln, pl + 1 + 1 + 1), gW cy a k L, gW cy b k2 F]) (Cs' := fun u_ : Unit => [tW cy ta (bs, ln, pl + 1 + 1 + 1)]) (Fs := fun u_ : Unit => [tW cy ta (bs, ln, pl + 1 + 1 + 1), gW cy a k L, gW cy b k2 F]) hP hD hS hA [0] [1, 2] [2, 0, 1] rfl rfl (by decide) (by decide) (fun _ => rfl) (va_runV (As := [.int (nI 44)]) (rest := []) ⟨hx, hb, hml, hown, hts⟩ (c_X1_skip_n l D cy ta bs ln (pl + 1 + 1 + 1) 44 (by first | assumption | omega | decide) (by first | assumption | omega | decide) k_57 H.size) (cwV 1 hts gX1_readGuest_X1_skip rfl rfl rfl (by decide +kernel) ⟨Nat.le_of_ble_eq_true rfl, Nat.le_of_ble_eq_true rfl⟩) (kPre_V (ci := 1) hK hN hP hD [0] (by decide) rfl 0 rfl rfl) rfl rfl hl.1 rfl (lv_room (Nat.le_of_ble_eq_true rfl)) dX1_readGuest_57 ⟨Nat.le_of_ble_eq_true rfl, Nat.le_of_ble_eq_true rfl⟩) (fun r_ u_ H locs hw hP hD hS => ?_)
              have hw : r_ = nI 0 := hw
              subst hw
              refine lv_if_ne (tgt := 65) hx hb dX1_readGuest_60 (by decide) (fun h => absurd h (by decide)) (fun _ => ?_)
              refine lv_iconst (v := nI 0) hx hb dX1_readGuest_63 (by decide) ?_
              have E : kRG bs ln pl L F = (false, pl + 1 + 1 + 1, L, F) := (kRG_f b_3 b_16 k_34 (show kRT bs ln (pl + 1) = (false, pl + 1 + 1 + 1, 10 * (kb9 bs (pl + 1) - 48) + (kb9 bs (pl + 1 + 1) - 48), 0, 0) from (by unfold kRT; rw [if_pos k_43, if_pos k_43b]; unfold kRT2; rw [if_neg k_57]))).trans (if_neg (by decide))
              have hP : va_P D vwCl (bkF [tW cy ta (bs, ln, (kRG bs ln pl L F).2.1), gW cy a k (kRG bs ln pl L F).2.2.1, gW cy b k2 (kRG bs ln pl L F).2.2.2]) H := by rw [E]; exact hP
              have hD : va_D A (bkF [tW cy ta (bs, ln, (kRG bs ln pl L F).2.1), gW cy a k (kRG bs ln pl L F).2.2.1, gW cy b k2 (kRG bs ln pl L F).2.2.2]) := by rw [E]; exact hD
              exact kr_i (post := fun r_ (u_ : Unit) => r_ = if (kRG bs ln pl L F).1 = true then nI 1 else nI 0) (Bs := fun u_ : Unit => [tW cy ta (bs, ln, (kRG bs ln pl L F).2.1), gW cy a k (kRG bs ln pl L F).2.2.1, gW cy b k2 (kRG bs ln pl L F).2.2.2]) hx hb hr hlocks rfl () hP hK hD hS (by rw [E]; rfl) dX1_readGuest_64 hQ
      · skip
        refine kc_i (Cs := [tW cy ta (bs, ln, pl)]) (Rs := [gW cy a k L, gW cy b k2 F]) (Bs := [tW cy ta (bs, ln, pl), gW cy a k L, gW cy b k2 F]) (Cs' := fun u_ : Unit => [tW cy ta (bs, ln, pl)]) (Fs := fun u_ : Unit => [tW cy ta (bs, ln, pl), gW cy a k L, gW cy b k2 F]) hP hD hS hA [0] [1, 2] [2, 0, 1] rfl rfl (by decide) (by decide) (fun _ => rfl) (va_runV (As := [.int (nI 102)]) (rest := []) ⟨hx, hb, hml, hown, hts⟩ (c_X1_skip_n l D cy ta bs ln pl 102 (by first | assumption | omega | decide) (by first | assumption | omega | decide) k_34 H.size) (cwV 1 hts gX1_readGuest_X1_skip rfl rfl rfl (by decide +kernel) ⟨Nat.le_of_ble_eq_true rfl, Nat.le_of_ble_eq_true rfl⟩) (kPre_V (ci := 1) hK hN hP hD [0] (by decide) rfl 0 rfl rfl) rfl rfl hl.1 rfl (lv_room (Nat.le_of_ble_eq_true rfl)) dX1_readGuest_34 ⟨Nat.le_of_ble_eq_true rfl, Nat.le_of_ble_eq_true rfl⟩) (fun r_ u_ H locs hw hP hD hS => ?_)
        have hw : r_ = nI 0 := hw
        subst hw
        refine lv_if_ne (tgt := 42) hx hb dX1_readGuest_37 (by decide) (fun h => absurd h (by decide)) (fun _ => ?_)
        refine lv_iconst (v := nI 0) hx hb dX1_readGuest_40 (by decide) ?_
        have E : kRG bs ln pl L F = (false, pl, L, F) := kRG_x3 b_3 b_16 k_34
        have hP : va_P D vwCl (bkF [tW cy ta (bs, ln, (kRG bs ln pl L F).2.1), gW cy a k (kRG bs ln pl L F).2.2.1, gW cy b k2 (kRG bs ln pl L F).2.2.2]) H := by rw [E]; exact hP
        have hD : va_D A (bkF [tW cy ta (bs, ln, (kRG bs ln pl L F).2.1), gW cy a k (kRG bs ln pl L F).2.2.1, gW cy b k2 (kRG bs ln pl L F).2.2.2]) := by rw [E]; exact hD
        exact kr_i (post := fun r_ (u_ : Unit) => r_ = if (kRG bs ln pl L F).1 = true then nI 1 else nI 0) (Bs := fun u_ : Unit => [tW cy ta (bs, ln, (kRG bs ln pl L F).2.1), gW cy a k (kRG bs ln pl L F).2.2.1, gW cy b k2 (kRG bs ln pl L F).2.2.2]) hx hb hr hlocks rfl () hP hK hD hS (by rw [E]; rfl) dX1_readGuest_41 hQ
abbrev rm_X1_readGuests : Room := { frames := 3, cells := 0, slots := 0, locals := 70 }
set_option maxHeartbeats 1000000 in
set_option maxRecDepth 100000 in
/-- readGuests -/
theorem c_X1_readGuests (l : Launch) (D : va_G) (cy : Nat → ClassId) (ta : Nat → Nat) (bs : Nat → Int32) (ln : Nat) (pl : Nat) (a : Nat → Nat) (k : Nat) (L : rG) (b : Nat → Nat) (k2 : Nat) (F : rG) (hby : kBy bs) (hln : ln ≤ 100) (sz : Nat) : Met l yX1_readGuests wsX1_readGuests rm_X1_readGuests (va_Pc [.ref (ta 0), .ref (a k), .ref (b k2)] (kPre D (kT cy) [tW cy ta (bs, ln, pl), gW cy a k L, gW cy b k2 F] sz)) (va_Qi (fun r_ (u_ : Unit) => r_ = if (kRsE bs ln L F).1 = true then (-1 : Int32) else nI (kRsE bs ln L F).2.1) (kFr D (kT cy) [tW cy ta (bs, ln, pl), gW cy a k L, gW cy b k2 F] sz (fun u_ : Unit => [tW cy ta (bs, ln, (kRsE bs ln L F).2.1), gW cy a k (kRsE bs ln L F).2.2.1, gW cy b k2 (kRsE bs ln L F).2.2.2])) (va_A (bkF [tW cy ta (bs, ln, pl), gW cy a k L, gW cy b k2 F]) sz)) 0 0 (va_A (bkF [tW cy ta (bs, ln, pl), gW cy a k L, gW cy b k2 F]) sz) := by
  refine kOpen (y := yX1_readGuests) (ws := wsX1_readGuests) (cc := cX1_readGuests) (maxL := 4) (ret := (some .int)) (av := [.ref (ta 0), .ref (a k), .ref (b k2)]) (Bs := [tW cy ta (bs, ln, pl), gW cy a k L, gW cy b k2 F]) (Qc := fun A => (va_Qi (fun r_ (u_ : Unit) => r_ = if (kRsE bs ln L F).1 = true then (-1 : Int32) else nI (kRsE bs ln L F).2.1) (fun (u_ : Unit) t9 => kEnd D (kT cy) A [tW cy ta (bs, ln, (kRsE bs ln L F).2.1), gW cy a k (kRsE bs ln L F).2.2.1, gW cy b k2 (kRsE bs ln L F).2.2.2] t9) A)) (by decide) rfl (Nat.le_of_ble_eq_true rfl) ?_
  intro p e s m args below meth c A Q ls hQ hx hb hml hr hlocks hin hts hown hN hK hP hD hS hA hsz hAe hl
  clear hAe
  have hl : lv_has ls 4 [(0, .ref (ta 0)), (1, .ref (a k)), (2, .ref (b k2))] := hl
  suffices K9 : ∀ (H : Heap) (locs : List Loc), va_P D vwCl (bkF [tW cy ta (bs, ln, pl), gW cy a k L, gW cy b k2 F]) H → va_S A s.heap H locs → W p l e (headSpec wsX1_readGuests rm_X1_readGuests).room s m args below meth c H locs 0 0 Q (F0 m 0 ls []) from K9 _ _ hP hS
  clear hP hS
  intro H locs hP hS
  refine lv_aload_n hx hb dX1_readGuests_0 rfl (lv_at hl 1 rfl) ?_
  refine lv_iconst (v := nI 0) hx hb dX1_readGuests_1 (by decide) ?_
  refine va_put (D := D) (ci := 2) (v := .int (nI 0)) (ty := .int) (C := RX2) (T := TX2) (N := 6) hx hb hts (by decide +kernel) tyX2 tyX2_ok nmX2 hown hK hP hD hS 2 rfl rfl 5 (by decide) (hts (.fieldLink RX1 19 "DanceHall$Guests" "count" "I") (by decide +kernel)) (fun _ h9 => h9) rfl (by decide +kernel) rfl rfl (Nat.le_of_ble_eq_true rfl) dX1_readGuests_2 (fun H locs hP hD hS => ?_)
  have hP : va_P D vwCl (bkF [tW cy ta (bs, ln, pl), gW cy a k (L.1, L.2.1, L.2.2.1, L.2.2.2.1, L.2.2.2.2.1, 0), gW cy b k2 F]) H := hP
  have hD : va_D A (bkF [tW cy ta (bs, ln, pl), gW cy a k (L.1, L.2.1, L.2.2.1, L.2.2.2.1, L.2.2.2.2.1, 0), gW cy b k2 F]) := hD
  refine lv_aload_n hx hb dX1_readGuests_5 rfl (lv_at hl 2 rfl) ?_
  refine lv_iconst (v := nI 0) hx hb dX1_readGuests_6 (by decide) ?_
  refine va_put (D := D) (ci := 2) (v := .int (nI 0)) (ty := .int) (C := RX2) (T := TX2) (N := 6) hx hb hts (by decide +kernel) tyX2 tyX2_ok nmX2 hown hK hP hD hS 8 rfl rfl 5 (by decide) (hts (.fieldLink RX1 19 "DanceHall$Guests" "count" "I") (by decide +kernel)) (fun _ h9 => h9) rfl (by decide +kernel) rfl rfl (Nat.le_of_ble_eq_true rfl) dX1_readGuests_7 (fun H locs hP hD hS => ?_)
  have hP : va_P D vwCl (bkF [tW cy ta (bs, ln, pl), gW cy a k (L.1, L.2.1, L.2.2.1, L.2.2.2.1, L.2.2.2.2.1, 0), gW cy b k2 (F.1, F.2.1, F.2.2.1, F.2.2.2.1, F.2.2.2.2.1, 0)]) H := hP
  have hD : va_D A (bkF [tW cy ta (bs, ln, pl), gW cy a k (L.1, L.2.1, L.2.2.1, L.2.2.2.1, L.2.2.2.2.1, 0), gW cy b k2 (F.1, F.2.1, F.2.2.1, F.2.2.2.1, F.2.2.2.2.1, 0)]) := hD
  refine lv_aload_n hx hb dX1_readGuests_10 rfl (lv_at hl 0 rfl) ?_
  refine lv_iconst (v := nI 0) hx hb dX1_readGuests_11 (by decide) ?_
  refine va_put (D := D) (ci := 1) (v := .int (nI 0)) (ty := .int) (C := RX1) (T := TX1) (N := 3) hx hb hts (by decide +kernel) tyX1 tyX1_ok nmX1 hown hK hP hD hS 0 rfl rfl 2 (by decide) (hts (.fieldLink RX1 24 "DanceHall$GuestList" "at" "I") (by decide +kernel)) (fun _ h9 => h9) rfl (by decide +kernel) rfl rfl (Nat.le_of_ble_eq_true rfl) dX1_readGuests_12 (fun H locs hP hD hS => ?_)
  have hP : va_P D vwCl (bkF [tW cy ta (bs, ln, 0), gW cy a k (L.1, L.2.1, L.2.2.1, L.2.2.2.1, L.2.2.2.2.1, 0), gW cy b k2 (F.1, F.2.1, F.2.2.1, F.2.2.2.1, F.2.2.2.2.1, 0)]) H := hP
  have hD : va_D A (bkF [tW cy ta (bs, ln, 0), gW cy a k (L.1, L.2.1, L.2.2.1, L.2.2.2.1, L.2.2.2.2.1, 0), gW cy b k2 (F.1, F.2.1, F.2.2.1, F.2.2.2.1, F.2.2.2.2.1, 0)]) := hD
  refine lv_iconst (v := nI 0) hx hb dX1_readGuests_15 (by decide) ?_
  refine lv_istore_n (lv' := [(3, .int (nI 0)), (0, .ref (ta 0)), (1, .ref (a k)), (2, .ref (b k2))]) hx hb dX1_readGuests_16 rfl hl (by decide) rfl (fun ls hl => ?_)
  have L_17 : ∀ (n9 : Nat) (q : Nat), 101 - q = n9 → (q ≤ 100) → ((kRs bs ln L F q).1 = true) → ∀ (ls : Array Slot) (H : Heap) (locs : List Loc), va_P D vwCl (bkF [tW cy ta (bs, ln, (kRs bs ln L F q).2.1), gW cy a k (kRs bs ln L F q).2.2.1, gW cy b k2 (kRs bs ln L F q).2.2.2]) H → va_D A (bkF [tW cy ta (bs, ln, (kRs bs ln L F q).2.1), gW cy a k (kRs bs ln L F q).2.2.1, gW cy b k2 (kRs bs ln L F q).2.2.2]) → va_S A s.heap H locs → lv_has ls 4 [(0, .ref (ta 0)), (1, .ref (a k)), (2, .ref (b k2)), (3, .int (nI q))] → W p l e (headSpec wsX1_readGuests rm_X1_readGuests).room s m args below meth c H locs 0 0 Q (F0 m 17 ls []) := by
    intro n9
    induction n9 using Nat.strongRecOn with
    | _ n9 ih_17 =>
    intro q hm_17 h17_0 h17_1 ls H locs hP hD hS hl
    refine lv_iload_n hx hb dX1_readGuests_17 rfl (lv_at hl 3 rfl) ?_
    refine lv_bipush (v := nI 100) hx hb dX1_readGuests_18 (by decide) ?_
    have hq9 := kRs_ok bs ln L F q
    refine lv_icmp_ge (tgt := 54) hx hb dX1_readGuests_20 (by decide) (fun c_20 => ?_) (fun c_20 => ?_)
    · skip
      have c_20 : 100 ≤ q := (nI_leI (a := 100) (b := q) (by omega) (by omega)).mp c_20
      refine lv_iconst (v := (-1 : Int32)) hx hb dX1_readGuests_54 (by decide) ?_
      have E : kRsE bs ln L F = (kRs bs ln L F q) := (by rw [show q = 100 from by omega]; rfl)
      have hP : va_P D vwCl (bkF [tW cy ta (bs, ln, (kRsE bs ln L F).2.1), gW cy a k (kRsE bs ln L F).2.2.1, gW cy b k2 (kRsE bs ln L F).2.2.2]) H := by rw [E]; exact hP
      have hD : va_D A (bkF [tW cy ta (bs, ln, (kRsE bs ln L F).2.1), gW cy a k (kRsE bs ln L F).2.2.1, gW cy b k2 (kRsE bs ln L F).2.2.2]) := by rw [E]; exact hD
      exact kr_i (post := fun r_ (u_ : Unit) => r_ = if (kRsE bs ln L F).1 = true then (-1 : Int32) else nI (kRsE bs ln L F).2.1) (Bs := fun u_ : Unit => [tW cy ta (bs, ln, (kRsE bs ln L F).2.1), gW cy a k (kRsE bs ln L F).2.2.1, gW cy b k2 (kRsE bs ln L F).2.2.2]) hx hb hr hlocks rfl () hP hK hD hS (by rw [E, if_pos h17_1]) dX1_readGuests_55 hQ
    · skip
      have c_20 : ¬ (100 ≤ q) := fun h => c_20 ((nI_leI (a := 100) (b := q) (by omega) (by omega)).mpr h)
      refine lv_aload_n hx hb dX1_readGuests_23 rfl (lv_at hl 0 rfl) ?_
      refine va_get (D := D) (ci := 1) (v := .int (nI (kRs bs ln L F q).2.1)) (C := RX1) (T := TX1) (N := 3) hx hb hts (by decide +kernel) hown hK hP 0 rfl rfl 2 (by decide) (hts (.fieldLink RX1 24 "DanceHall$GuestList" "at" "I") (by decide +kernel)) (fun _ h9 => h9) rfl dX1_readGuests_24 ?_
      refine lv_aload_n hx hb dX1_readGuests_27 rfl (lv_at hl 0 rfl) ?_
      refine va_get (D := D) (ci := 1) (v := .int (nI ln)) (C := RX1) (T := TX1) (N := 3) hx hb hts (by decide +kernel) hown hK hP 0 rfl rfl 1 (by decide) (hts (.fieldLink RX1 15 "DanceHall$GuestList" "length" "I") (by decide +kernel)) (fun _ h9 => h9) rfl dX1_readGuests_28 ?_
      refine lv_icmp_ge (tgt := 54) hx hb dX1_readGuests_31 (by decide) (fun c_31 => ?_) (fun c_31 => ?_)
      · skip
        have c_31 : ln ≤ (kRs bs ln L F q).2.1 := (nI_leI (a := ln) (b := (kRs bs ln L F q).2.1) (by omega) (by omega)).mp c_31
        refine lv_iconst (v := (-1 : Int32)) hx hb dX1_readGuests_54 (by decide) ?_
        have E : kRsE bs ln L F = (kRs bs ln L F q) := (kRsE_of (k := q) (by omega) (fun h => absurd h.2 (by omega)))
        have hP : va_P D vwCl (bkF [tW cy ta (bs, ln, (kRsE bs ln L F).2.1), gW cy a k (kRsE bs ln L F).2.2.1, gW cy b k2 (kRsE bs ln L F).2.2.2]) H := by rw [E]; exact hP
        have hD : va_D A (bkF [tW cy ta (bs, ln, (kRsE bs ln L F).2.1), gW cy a k (kRsE bs ln L F).2.2.1, gW cy b k2 (kRsE bs ln L F).2.2.2]) := by rw [E]; exact hD
        exact kr_i (post := fun r_ (u_ : Unit) => r_ = if (kRsE bs ln L F).1 = true then (-1 : Int32) else nI (kRsE bs ln L F).2.1) (Bs := fun u_ : Unit => [tW cy ta (bs, ln, (kRsE bs ln L F).2.1), gW cy a k (kRsE bs ln L F).2.2.1, gW cy b k2 (kRsE bs ln L F).2.2.2]) hx hb hr hlocks rfl () hP hK hD hS (by rw [E, if_pos h17_1]) dX1_readGuests_55 hQ
      · skip
        have c_31 : ¬ (ln ≤ (kRs bs ln L F q).2.1) := fun h => c_31 ((nI_leI (a := ln) (b := (kRs bs ln L F q).2.1) (by omega) (by omega)).mpr h)
        refine lv_aload_n hx hb dX1_readGuests_34 rfl (lv_at hl 0 rfl) ?_
        refine lv_aload_n hx hb dX1_readGuests_35 rfl (lv_at hl 1 rfl) ?_
        refine lv_aload_n hx hb dX1_readGuests_36 rfl (lv_at hl 2 rfl) ?_
        refine kc_i (Cs := [tW cy ta (bs, ln, (kRs bs ln L F q).2.1), gW cy a k (kRs bs ln L F q).2.2.1, gW cy b k2 (kRs bs ln L F q).2.2.2]) (Rs := []) (Bs := [tW cy ta (bs, ln, (kRs bs ln L F q).2.1), gW cy a k (kRs bs ln L F q).2.2.1, gW cy b k2 (kRs bs ln L F q).2.2.2]) (Cs' := fun u_ : Unit => [tW cy ta (bs, ln, (kRG bs ln (kRs bs ln L F q).2.1 (kRs bs ln L F q).2.2.1 (kRs bs ln L F q).2.2.2).2.1), gW cy a k (kRG bs ln (kRs bs ln L F q).2.1 (kRs bs ln L F q).2.2.1 (kRs bs ln L F q).2.2.2).2.2.1, gW cy b k2 (kRG bs ln (kRs bs ln L F q).2.1 (kRs bs ln L F q).2.2.1 (kRs bs ln L F q).2.2.2).2.2.2]) (Fs := fun u_ : Unit => [tW cy ta (bs, ln, (kRG bs ln (kRs bs ln L F q).2.1 (kRs bs ln L F q).2.2.1 (kRs bs ln L F q).2.2.2).2.1), gW cy a k (kRG bs ln (kRs bs ln L F q).2.1 (kRs bs ln L F q).2.2.1 (kRs bs ln L F q).2.2.2).2.2.1, gW cy b k2 (kRG bs ln (kRs bs ln L F q).2.1 (kRs bs ln L F q).2.2.1 (kRs bs ln L F q).2.2.2).2.2.2]) hP hD hS hA [0, 1, 2] [] [0, 1, 2] rfl rfl (by decide) (by decide) (fun _ => rfl) (va_runV (As := [.ref (a k), .ref (b k2)]) (rest := []) ⟨hx, hb, hml, hown, hts⟩ (c_X1_readGuest l D cy ta bs ln (kRs bs ln L F q).2.1 a k (kRs bs ln L F q).2.2.1 b k2 (kRs bs ln L F q).2.2.2 hby (by first | assumption | omega | decide) (by first | assumption | omega | decide) (by first | assumption | omega | decide) (by first | assumption | omega | decide) H.size) (cwV 2 hts gX1_readGuests_X1_readGuest rfl rfl rfl (by decide +kernel) ⟨Nat.le_of_ble_eq_true rfl, Nat.le_of_ble_eq_true rfl⟩) (kPre_V (ci := 1) hK hN hP hD [0, 1, 2] (by decide) rfl 0 rfl rfl) rfl rfl hl.1 rfl (lv_room (Nat.le_of_ble_eq_true rfl)) dX1_readGuests_37 ⟨Nat.le_of_ble_eq_true rfl, Nat.le_of_ble_eq_true rfl⟩) (fun r_ u_ H locs hw hP hD hS => ?_)
        have hw : r_ = if (kRG bs ln (kRs bs ln L F q).2.1 (kRs bs ln L F q).2.2.1 (kRs bs ln L F q).2.2.2).1 = true then nI 1 else nI 0 := hw
        subst hw
        by_cases b_37 : (kRG bs ln (kRs bs ln L F q).2.1 (kRs bs ln L F q).2.2.1 (kRs bs ln L F q).2.2.2).1 = true
        · refine kv_i (y := nI 1) (if_pos b_37) ?_
          refine lv_if_ne (tgt := 48) hx hb dX1_readGuests_40 (by decide) (fun _ => ?_) (fun h => absurd h (by decide))
          refine lv_iinc (v := nI (q + 1)) (lv' := [(3, .int (nI (q + 1))), (0, .ref (ta 0)), (1, .ref (a k)), (2, .ref (b k2))]) hx hb dX1_readGuests_48 hl (k := 3) rfl (nI_add q 1) (by decide) rfl (fun ls hl => ?_)
          refine lv_goto (tgt := 17) hx hb dX1_readGuests_51 (by decide) ?_
          have e9 := kRs_y (L := L) (F := F) h17_1 (by omega)
          rw [← e9] at hP hD
          exact ih_17 _ (by omega) (q + 1) rfl (by omega) (by rw [e9]; exact b_37) ls H locs hP hD hS (lv_sub hl [1, 2, 3, 0] rfl)
        · refine kv_i (y := nI 0) (if_neg b_37) ?_
          refine lv_if_ne (tgt := 48) hx hb dX1_readGuests_40 (by decide) (fun h => absurd h (by decide)) (fun _ => ?_)
          refine lv_aload_n hx hb dX1_readGuests_43 rfl (lv_at hl 0 rfl) ?_
          refine va_get (D := D) (ci := 1) (v := .int (nI (kRG bs ln (kRs bs ln L F q).2.1 (kRs bs ln L F q).2.2.1 (kRs bs ln L F q).2.2.2).2.1)) (C := RX1) (T := TX1) (N := 3) hx hb hts (by decide +kernel) hown hK hP 0 rfl rfl 2 (by decide) (hts (.fieldLink RX1 24 "DanceHall$GuestList" "at" "I") (by decide +kernel)) (fun _ h9 => h9) rfl dX1_readGuests_44 ?_
          have E : kRsE bs ln L F = (kRG bs ln (kRs bs ln L F q).2.1 (kRs bs ln L F q).2.2.1 (kRs bs ln L F q).2.2.2) := ((kRsE_of (k := q + 1) (by omega) (fun h => b_37 (by rw [kRs_y (L := L) (F := F) h17_1 (by omega)] at h; exact h.1))).trans (kRs_y (L := L) (F := F) h17_1 (by omega)))
          have hP : va_P D vwCl (bkF [tW cy ta (bs, ln, (kRsE bs ln L F).2.1), gW cy a k (kRsE bs ln L F).2.2.1, gW cy b k2 (kRsE bs ln L F).2.2.2]) H := by rw [E]; exact hP
          have hD : va_D A (bkF [tW cy ta (bs, ln, (kRsE bs ln L F).2.1), gW cy a k (kRsE bs ln L F).2.2.1, gW cy b k2 (kRsE bs ln L F).2.2.2]) := by rw [E]; exact hD
          exact kr_i (post := fun r_ (u_ : Unit) => r_ = if (kRsE bs ln L F).1 = true then (-1 : Int32) else nI (kRsE bs ln L F).2.1) (Bs := fun u_ : Unit => [tW cy ta (bs, ln, (kRsE bs ln L F).2.1), gW cy a k (kRsE bs ln L F).2.2.1, gW cy b k2 (kRsE bs ln L F).2.2.2]) hx hb hr hlocks rfl () hP hK hD hS (by rw [E, if_neg b_37]) dX1_readGuests_47 hQ
  exact L_17 _ 0  rfl (by omega) rfl ls H locs hP hD hS (lv_sub hl [1, 2, 3, 0] rfl)
abbrev rm_X1_put : Room := { frames := 0, cells := 0, slots := 0, locals := 0 }
set_option maxHeartbeats 1000000 in
set_option maxRecDepth 100000 in
/-- put -/
theorem c_X1_put (l : Launch) (D : va_G) (cy : Nat → ClassId) (ta : Nat → Nat) (bs : Nat → Int32) (ln : Nat) (pl : Nat) (v : Nat) (hln : ln < 100) (hv : v < 128) (sz : Nat) : Met l yX1_put wsX1_put rm_X1_put (va_Pc [.ref (ta 0), .int (nI v)] (kPre D (kT cy) [tW cy ta (bs, ln, pl)] sz)) (va_Qi (fun r_ (u_ : Unit) => r_ = nI (ln + 1)) (kFr D (kT cy) [tW cy ta (bs, ln, pl)] sz (fun u_ : Unit => [tW cy ta ((upd bs ln (nI v)), ln + 1, pl)])) (va_A (bkF [tW cy ta (bs, ln, pl)]) sz)) 0 0 (va_A (bkF [tW cy ta (bs, ln, pl)]) sz) := by
  refine kOpen (y := yX1_put) (ws := wsX1_put) (cc := cX1_put) (maxL := 2) (ret := (some .int)) (av := [.ref (ta 0), .int (nI v)]) (Bs := [tW cy ta (bs, ln, pl)]) (Qc := fun A => (va_Qi (fun r_ (u_ : Unit) => r_ = nI (ln + 1)) (fun (u_ : Unit) t9 => kEnd D (kT cy) A [tW cy ta ((upd bs ln (nI v)), ln + 1, pl)] t9) A)) (by decide) rfl (Nat.le_of_ble_eq_true rfl) ?_
  intro p e s m args below meth c A Q ls hQ hx hb hml hr hlocks hin hts hown hN hK hP hD hS hA hsz hAe hl
  clear hAe
  have hl : lv_has ls 2 [(0, .ref (ta 0)), (1, .int (nI v))] := hl
  suffices K9 : ∀ (H : Heap) (locs : List Loc), va_P D vwCl (bkF [tW cy ta (bs, ln, pl)]) H → va_S A s.heap H locs → W p l e (headSpec wsX1_put rm_X1_put).room s m args below meth c H locs 0 0 Q (F0 m 0 ls []) from K9 _ _ hP hS
  clear hP hS
  intro H locs hP hS
  refine lv_aload_n hx hb dX1_put_0 rfl (lv_at hl 0 rfl) ?_
  refine va_get (D := D) (ci := 1) (v := .int (nI ln)) (C := RX1) (T := TX1) (N := 3) hx hb hts (by decide +kernel) hown hK hP 0 rfl rfl 1 (by decide) (hts (.fieldLink RX1 15 "DanceHall$GuestList" "length" "I") (by decide +kernel)) (fun _ h9 => h9) rfl dX1_put_1 ?_
  refine lv_bipush (v := nI 100) hx hb dX1_put_4 (by decide) ?_
  refine lv_icmp_ge (tgt := 30) hx hb dX1_put_6 (by decide) (fun c_6 => False.elim ?_) (fun c_6 => ?_)
  · skip
    have c_6 : 100 ≤ ln := (nI_leI (a := 100) (b := ln) (by omega) (by omega)).mp c_6
    omega
  · skip
    have c_6 : ¬ (100 ≤ ln) := fun h => c_6 ((nI_leI (a := 100) (b := ln) (by omega) (by omega)).mpr h)
    refine lv_aload_n hx hb dX1_put_9 rfl (lv_at hl 0 rfl) ?_
    refine va_get (D := D) (ci := 1) (v := .ref (ta 1)) (C := RX1) (T := TX1) (N := 3) hx hb hts (by decide +kernel) hown hK hP 0 rfl rfl 0 (by decide) (hts (.fieldLink RX1 9 "DanceHall$GuestList" "bytes" "[B") (by decide +kernel)) (fun _ h9 => h9) rfl dX1_put_10 ?_
    refine lv_aload_n hx hb dX1_put_13 rfl (lv_at hl 0 rfl) ?_
    refine va_get (D := D) (ci := 1) (v := .int (nI ln)) (C := RX1) (T := TX1) (N := 3) hx hb hts (by decide +kernel) hown hK hP 0 rfl rfl 1 (by decide) (hts (.fieldLink RX1 15 "DanceHall$GuestList" "length" "I") (by decide +kernel)) (fun _ h9 => h9) rfl dX1_put_14 ?_
    refine lv_iload_n hx hb dX1_put_17 rfl (lv_at hl 1 rfl) ?_
    refine lv_i2b (v := nI v) hx hb dX1_put_18 (kby_small hv) ?_
    refine va_bast hx hb hK hP hD hS 1 2 rfl rfl (vp_in_nI (n := ln) (N := 100) (by omega) (by omega)) dX1_put_19 (fun H locs hP hD hS => ?_)
    rw [nI_clamp (n := ln) (by omega)] at hP hD
    rw [kby_nar hv] at hP hD
    have hP : va_P D vwCl (bkF [tW cy ta (upd bs ln (nI v), ln, pl)]) H := hP
    have hD : va_D A (bkF [tW cy ta (upd bs ln (nI v), ln, pl)]) := hD
    refine lv_aload_n hx hb dX1_put_20 rfl (lv_at hl 0 rfl) ?_
    refine lv_dup hx hb dX1_put_21 rfl ?_
    refine va_get (D := D) (ci := 1) (v := .int (nI ln)) (C := RX1) (T := TX1) (N := 3) hx hb hts (by decide +kernel) hown hK hP 0 rfl rfl 1 (by decide) (hts (.fieldLink RX1 15 "DanceHall$GuestList" "length" "I") (by decide +kernel)) (fun _ h9 => h9) rfl dX1_put_22 ?_
    refine lv_iconst (v := nI 1) hx hb dX1_put_25 (by decide) ?_
    refine lv_iadd hx hb dX1_put_26 ?_
    refine kv_i (y := nI (ln + 1)) (nI_add ln 1) ?_
    refine va_put (D := D) (ci := 1) (v := .int (nI (ln + 1))) (ty := .int) (C := RX1) (T := TX1) (N := 3) hx hb hts (by decide +kernel) tyX1 tyX1_ok nmX1 hown hK hP hD hS 0 rfl rfl 1 (by decide) (hts (.fieldLink RX1 15 "DanceHall$GuestList" "length" "I") (by decide +kernel)) (fun _ h9 => h9) rfl (by decide +kernel) rfl rfl (Nat.le_of_ble_eq_true rfl) dX1_put_27 (fun H locs hP hD hS => ?_)
    have hP : va_P D vwCl (bkF [tW cy ta (upd bs ln (nI v), ln + 1, pl)]) H := hP
    have hD : va_D A (bkF [tW cy ta (upd bs ln (nI v), ln + 1, pl)]) := hD
    refine lv_aload_n hx hb dX1_put_30 rfl (lv_at hl 0 rfl) ?_
    refine va_get (D := D) (ci := 1) (v := .int (nI (ln + 1))) (C := RX1) (T := TX1) (N := 3) hx hb hts (by decide +kernel) hown hK hP 0 rfl rfl 1 (by decide) (hts (.fieldLink RX1 15 "DanceHall$GuestList" "length" "I") (by decide +kernel)) (fun _ h9 => h9) rfl dX1_put_31 ?_
    exact kr_i (post := fun r_ (u_ : Unit) => r_ = nI (ln + 1)) (Bs := fun u_ : Unit => [tW cy ta ((upd bs ln (nI v)), ln + 1, pl)]) hx hb hr hlocks rfl () hP hK hD hS rfl dX1_put_34 hQ
