abbrev rm_X4_addGuest_a : Room := { frames := 7, cells := 1, slots := 6, locals := 102 }
set_option maxHeartbeats 1000000 in
set_option maxRecDepth 100000 in
theorem x_X4_addGuest_a (l : Launch) (hst : l.stackTraces = false) (D : va_G) (cy : Nat → ClassId) (S : Nat × Nat × Nat) (x : Int32) (tk : Int32) (z : Int32) (sh : Int32) (o : Nat → Nat) (a : Nat → Nat) (b : Nat → Nat) (fa : Nat → Nat) (ta : Nat → Nat) (sc : Nat) (hbad : ¬ ((¬ tk < nI 0 ∧ ¬ nI 99 < tk) ∧ (¬ z < nI 1 ∧ ¬ nI 9 < z))) (sz : Nat) : vx_Met l yX4_addGuest wsX4_addGuest rm_X4_addGuest_a (va_Pc [.ref (o 0), .int x, .int tk, .int z, .int sh] (kPreX D (kT cy) S [jO o (a, b, fa, ta, sc)] sz)) kNo (kXC D [jO o (a, b, fa, ta, sc)] (va_A (bkF [jO o (a, b, fa, ta, sc)]) sz) nIA) 1 6 (va_A (bkF [jO o (a, b, fa, ta, sc)]) sz) := by
  refine kOpenX (y := yX4_addGuest) (ws := wsX4_addGuest) (cc := cX4_addGuest) (maxL := 5) (ret := (some .int)) (av := [.ref (o 0), .int x, .int tk, .int z, .int sh]) (Bs := [jO o (a, b, fa, ta, sc)]) (XC := fun A => kXC D [jO o (a, b, fa, ta, sc)] A nIA) (by decide) rfl (Nat.le_of_ble_eq_true rfl) ?_
  intro p e s m args below meth c A Q ls hQ hx hb hml hlocks htb hts hown hN hX hK hP hD hS hA hl
  have hl : lv_has ls 5 [(0, .ref (o 0)), (1, .int x), (2, .int tk), (3, .int z), (4, .int sh)] := hl
  suffices K9 : ∀ (H : Heap) (locs : List Loc), va_P D vwCl (bkF [jO o (a, b, fa, ta, sc)]) H → va_S A s.heap H locs → W p l e (headSpec wsX4_addGuest rm_X4_addGuest_a).room s m args below meth c H locs 0 0 Q (F0 m 0 ls []) from K9 _ _ hP hS
  clear hP hS
  intro H locs hP hS
  refine lv_iload_n hx hb dX4_addGuest_0 rfl (lv_at hl 2 rfl) ?_
  refine lv_iconst (v := nI 0) hx hb dX4_addGuest_1 (by decide) ?_
  refine lv_bipush (v := nI 99) hx hb dX4_addGuest_2 (by decide) ?_
  refine kc_i (Cs := []) (Rs := [jO o (a, b, fa, ta, sc)]) (Bs := [jO o (a, b, fa, ta, sc)]) (Cs' := fun u_ : Unit => []) (Fs := fun u_ : Unit => [jO o (a, b, fa, ta, sc)]) hP hD hS hA [] [0] [0] rfl rfl (by decide) (by decide) (fun _ => rfl) (va_runS (As := [.int tk, .int (nI 0), .int (nI 99)]) (rest := []) ⟨hx, hb, hml, hown, hts⟩ (c_X4_isWithin l D cy tk (nI 0) (nI 99) H.size) (va_cwS 3 hts gX4_addGuest_X4_isWithin rfl rfl rfl (by decide +kernel) ⟨Nat.le_of_ble_eq_true rfl, Nat.le_of_ble_eq_true rfl⟩) (kPre_S hK hN hP hD [] (by decide) rfl) rfl rfl hl.1 rfl (lv_room (Nat.le_of_ble_eq_true rfl)) dX4_addGuest_4 ⟨Nat.le_of_ble_eq_true rfl, Nat.le_of_ble_eq_true rfl⟩) (fun r_ u_ H locs hw hP hD hS => ?_)
  have hw : r_ = if ¬ tk < (nI 0) ∧ ¬ (nI 99) < tk then nI 1 else nI 0 := hw
  subst hw
  by_cases b_4 : ¬ tk < (nI 0) ∧ ¬ (nI 99) < tk
  · refine kv_i (y := nI 1) (if_pos b_4) ?_
    refine lv_if_eq (tgt := 24) hx hb dX4_addGuest_7 (by decide) (fun h => absurd h (by decide)) (fun _ => ?_)
    refine lv_iload_n hx hb dX4_addGuest_10 rfl (lv_at hl 3 rfl) ?_
    refine lv_iconst (v := nI 1) hx hb dX4_addGuest_11 (by decide) ?_
    refine lv_bipush (v := nI 9) hx hb dX4_addGuest_12 (by decide) ?_
    refine kc_i (Cs := []) (Rs := [jO o (a, b, fa, ta, sc)]) (Bs := [jO o (a, b, fa, ta, sc)]) (Cs' := fun u_ : Unit => []) (Fs := fun u_ : Unit => [jO o (a, b, fa, ta, sc)]) hP hD hS hA [] [0] [0] rfl rfl (by decide) (by decide) (fun _ => rfl) (va_runS (As := [.int z, .int (nI 1), .int (nI 9)]) (rest := []) ⟨hx, hb, hml, hown, hts⟩ (c_X4_isWithin l D cy z (nI 1) (nI 9) H.size) (va_cwS 3 hts gX4_addGuest_X4_isWithin rfl rfl rfl (by decide +kernel) ⟨Nat.le_of_ble_eq_true rfl, Nat.le_of_ble_eq_true rfl⟩) (kPre_S hK hN hP hD [] (by decide) rfl) rfl rfl hl.1 rfl (lv_room (Nat.le_of_ble_eq_true rfl)) dX4_addGuest_14 ⟨Nat.le_of_ble_eq_true rfl, Nat.le_of_ble_eq_true rfl⟩) (fun r_ u_ H locs hw hP hD hS => ?_)
    have hw : r_ = if ¬ z < (nI 1) ∧ ¬ (nI 9) < z then nI 1 else nI 0 := hw
    subst hw
    by_cases b_14 : ¬ z < (nI 1) ∧ ¬ (nI 9) < z
    · refine kv_i (y := nI 1) (if_pos b_14) ?_
      refine lv_if_eq (tgt := 24) hx hb dX4_addGuest_17 (by decide) (fun h => absurd h (by decide)) (fun _ => ?_)
      refine lv_iconst (v := nI 1) hx hb dX4_addGuest_20 (by decide) ?_
      refine lv_goto (tgt := 25) hx hb dX4_addGuest_21 (by decide) ?_
      exact absurd ⟨b_4, b_14⟩ hbad
    · refine kv_i (y := nI 0) (if_neg b_14) ?_
      refine lv_if_eq (tgt := 24) hx hb dX4_addGuest_17 (by decide) (fun _ => ?_) (fun h => absurd h (by decide))
      refine lv_iconst (v := nI 0) hx hb dX4_addGuest_24 (by decide) ?_
      subst hQ
      exact kx_call ((vx_runS (As := [.int (nI 0)]) (rest := []) ⟨hx, hb, hml, hown, hts⟩ (x_X4_needArgument l hst D cy S H.size) (va_cwS 1 hts gX4_addGuest_X4_needArgument rfl rfl rfl (by decide +kernel) ⟨Nat.le_of_ble_eq_true rfl, Nat.le_of_ble_eq_true rfl⟩) (kPreX_S hK hN hX hP hD hS hA [] (by decide) rfl) rfl rfl hl.1 rfl (lv_room (Nat.le_of_ble_eq_true rfl)) dX4_addGuest_25 ⟨Nat.le_of_ble_eq_true rfl, Nat.le_of_ble_eq_true rfl⟩)) hS hA hP htb hlocks (by decide) (by decide)
  · refine kv_i (y := nI 0) (if_neg b_4) ?_
    refine lv_if_eq (tgt := 24) hx hb dX4_addGuest_7 (by decide) (fun _ => ?_) (fun h => absurd h (by decide))
    refine lv_iconst (v := nI 0) hx hb dX4_addGuest_24 (by decide) ?_
    subst hQ
    exact kx_call ((vx_runS (As := [.int (nI 0)]) (rest := []) ⟨hx, hb, hml, hown, hts⟩ (x_X4_needArgument l hst D cy S H.size) (va_cwS 1 hts gX4_addGuest_X4_needArgument rfl rfl rfl (by decide +kernel) ⟨Nat.le_of_ble_eq_true rfl, Nat.le_of_ble_eq_true rfl⟩) (kPreX_S hK hN hX hP hD hS hA [] (by decide) rfl) rfl rfl hl.1 rfl (lv_room (Nat.le_of_ble_eq_true rfl)) dX4_addGuest_25 ⟨Nat.le_of_ble_eq_true rfl, Nat.le_of_ble_eq_true rfl⟩)) hS hA hP htb hlocks (by decide) (by decide)
abbrev rm_X4_addGuest_st : Room := { frames := 7, cells := 1, slots := 6, locals := 102 }
set_option maxHeartbeats 1000000 in
set_option maxRecDepth 100000 in
theorem x_X4_addGuest_st (l : Launch) (hst : l.stackTraces = false) (D : va_G) (cy : Nat → ClassId) (S : Nat × Nat × Nat) (x : Int32) (tk : Nat) (z : Nat) (sh : Int32) (o : Nat → Nat) (a : Nat → Nat) (b : Nat → Nat) (fa : Nat → Nat) (ta : Nat → Nat) (sc : Nat) (C : rC) (L : rG) (F : rG) (Ar : rA) (d : Nat → Nat → Int32) (hx0 : ¬ x = 0) (htk : tk ≤ 99) (hz1 : 1 ≤ z) (hz : z ≤ 9) (hn : L.2.2.2.2.2 = 8) (sz : Nat) : vx_Met l yX4_addGuest wsX4_addGuest rm_X4_addGuest_st (va_Pc [.ref (o 0), .int x, .int (nI tk), .int (nI z), .int sh] (kPreX D (kT cy) S [jO o (a, b, fa, ta, sc), sO a C, gW cy a 1 L, gW cy a 7 F, sA cy a Ar, rW cy a d] sz)) kNo (kXC D [jO o (a, b, fa, ta, sc), sO a C, gW cy a 1 L, gW cy a 7 F, sA cy a Ar, rW cy a d] (va_A (bkF [jO o (a, b, fa, ta, sc), sO a C, gW cy a 1 L, gW cy a 7 F, sA cy a Ar, rW cy a d]) sz) nIS) 1 6 (va_A (bkF [jO o (a, b, fa, ta, sc), sO a C, gW cy a 1 L, gW cy a 7 F, sA cy a Ar, rW cy a d]) sz) := by
  refine kOpenX (y := yX4_addGuest) (ws := wsX4_addGuest) (cc := cX4_addGuest) (maxL := 5) (ret := (some .int)) (av := [.ref (o 0), .int x, .int (nI tk), .int (nI z), .int sh]) (Bs := [jO o (a, b, fa, ta, sc), sO a C, gW cy a 1 L, gW cy a 7 F, sA cy a Ar, rW cy a d]) (XC := fun A => kXC D [jO o (a, b, fa, ta, sc), sO a C, gW cy a 1 L, gW cy a 7 F, sA cy a Ar, rW cy a d] A nIS) (by decide) rfl (Nat.le_of_ble_eq_true rfl) ?_
  intro p e s m args below meth c A Q ls hQ hx hb hml hlocks htb hts hown hN hX hK hP hD hS hA hl
  have hl : lv_has ls 5 [(0, .ref (o 0)), (1, .int x), (2, .int (nI tk)), (3, .int (nI z)), (4, .int sh)] := hl
  suffices K9 : ∀ (H : Heap) (locs : List Loc), va_P D vwCl (bkF [jO o (a, b, fa, ta, sc), sO a C, gW cy a 1 L, gW cy a 7 F, sA cy a Ar, rW cy a d]) H → va_S A s.heap H locs → W p l e (headSpec wsX4_addGuest rm_X4_addGuest_st).room s m args below meth c H locs 0 0 Q (F0 m 0 ls []) from K9 _ _ hP hS
  clear hP hS
  intro H locs hP hS
  refine lv_iload_n hx hb dX4_addGuest_0 rfl (lv_at hl 2 rfl) ?_
  refine lv_iconst (v := nI 0) hx hb dX4_addGuest_1 (by decide) ?_
  refine lv_bipush (v := nI 99) hx hb dX4_addGuest_2 (by decide) ?_
  refine kc_i (Cs := []) (Rs := [jO o (a, b, fa, ta, sc), sO a C, gW cy a 1 L, gW cy a 7 F, sA cy a Ar, rW cy a d]) (Bs := [jO o (a, b, fa, ta, sc), sO a C, gW cy a 1 L, gW cy a 7 F, sA cy a Ar, rW cy a d]) (Cs' := fun u_ : Unit => []) (Fs := fun u_ : Unit => [jO o (a, b, fa, ta, sc), sO a C, gW cy a 1 L, gW cy a 7 F, sA cy a Ar, rW cy a d]) hP hD hS hA [] [0, 1, 2, 3, 4, 5] [0, 1, 2, 3, 4, 5] rfl rfl (by decide) (by decide) (fun _ => rfl) (va_runS (As := [.int (nI tk), .int (nI 0), .int (nI 99)]) (rest := []) ⟨hx, hb, hml, hown, hts⟩ (c_X4_isWithin l D cy (nI tk) (nI 0) (nI 99) H.size) (va_cwS 3 hts gX4_addGuest_X4_isWithin rfl rfl rfl (by decide +kernel) ⟨Nat.le_of_ble_eq_true rfl, Nat.le_of_ble_eq_true rfl⟩) (kPre_S hK hN hP hD [] (by decide) rfl) rfl rfl hl.1 rfl (lv_room (Nat.le_of_ble_eq_true rfl)) dX4_addGuest_4 ⟨Nat.le_of_ble_eq_true rfl, Nat.le_of_ble_eq_true rfl⟩) (fun r_ u_ H locs hw hP hD hS => ?_)
  have hw : r_ = if ¬ (nI tk) < (nI 0) ∧ ¬ (nI 99) < (nI tk) then nI 1 else nI 0 := hw
  subst hw
  refine kv_i (y := nI 1) (if_pos (kwin (by omega) (by omega) (by decide))) ?_
  refine lv_if_eq (tgt := 24) hx hb dX4_addGuest_7 (by decide) (fun h => absurd h (by decide)) (fun _ => ?_)
  refine lv_iload_n hx hb dX4_addGuest_10 rfl (lv_at hl 3 rfl) ?_
  refine lv_iconst (v := nI 1) hx hb dX4_addGuest_11 (by decide) ?_
  refine lv_bipush (v := nI 9) hx hb dX4_addGuest_12 (by decide) ?_
  refine kc_i (Cs := []) (Rs := [jO o (a, b, fa, ta, sc), sO a C, gW cy a 1 L, gW cy a 7 F, sA cy a Ar, rW cy a d]) (Bs := [jO o (a, b, fa, ta, sc), sO a C, gW cy a 1 L, gW cy a 7 F, sA cy a Ar, rW cy a d]) (Cs' := fun u_ : Unit => []) (Fs := fun u_ : Unit => [jO o (a, b, fa, ta, sc), sO a C, gW cy a 1 L, gW cy a 7 F, sA cy a Ar, rW cy a d]) hP hD hS hA [] [0, 1, 2, 3, 4, 5] [0, 1, 2, 3, 4, 5] rfl rfl (by decide) (by decide) (fun _ => rfl) (va_runS (As := [.int (nI z), .int (nI 1), .int (nI 9)]) (rest := []) ⟨hx, hb, hml, hown, hts⟩ (c_X4_isWithin l D cy (nI z) (nI 1) (nI 9) H.size) (va_cwS 3 hts gX4_addGuest_X4_isWithin rfl rfl rfl (by decide +kernel) ⟨Nat.le_of_ble_eq_true rfl, Nat.le_of_ble_eq_true rfl⟩) (kPre_S hK hN hP hD [] (by decide) rfl) rfl rfl hl.1 rfl (lv_room (Nat.le_of_ble_eq_true rfl)) dX4_addGuest_14 ⟨Nat.le_of_ble_eq_true rfl, Nat.le_of_ble_eq_true rfl⟩) (fun r_ u_ H locs hw hP hD hS => ?_)
  have hw : r_ = if ¬ (nI z) < (nI 1) ∧ ¬ (nI 9) < (nI z) then nI 1 else nI 0 := hw
  subst hw
  refine kv_i (y := nI 1) (if_pos (kwin (by omega) (by omega) (by decide))) ?_
  refine lv_if_eq (tgt := 24) hx hb dX4_addGuest_17 (by decide) (fun h => absurd h (by decide)) (fun _ => ?_)
  refine lv_iconst (v := nI 1) hx hb dX4_addGuest_20 (by decide) ?_
  refine lv_goto (tgt := 25) hx hb dX4_addGuest_21 (by decide) ?_
  refine kc_v (Cs := []) (Rs := [jO o (a, b, fa, ta, sc), sO a C, gW cy a 1 L, gW cy a 7 F, sA cy a Ar, rW cy a d]) (Bs := [jO o (a, b, fa, ta, sc), sO a C, gW cy a 1 L, gW cy a 7 F, sA cy a Ar, rW cy a d]) (Cs' := fun u_ : Unit => []) (Fs := fun u_ : Unit => [jO o (a, b, fa, ta, sc), sO a C, gW cy a 1 L, gW cy a 7 F, sA cy a Ar, rW cy a d]) hP hD hS hA [] [0, 1, 2, 3, 4, 5] [0, 1, 2, 3, 4, 5] rfl rfl (by decide) (by decide) (fun _ => rfl) (va_runS (As := [.int (nI 1)]) (rest := []) ⟨hx, hb, hml, hown, hts⟩ (c_X4_needArgument_y l D cy (nI 1) (by first | assumption | omega | decide) H.size) (va_cwS 1 hts gX4_addGuest_X4_needArgument rfl rfl rfl (by decide +kernel) ⟨Nat.le_of_ble_eq_true rfl, Nat.le_of_ble_eq_true rfl⟩) (kPre_S hK hN hP hD [] (by decide) rfl) rfl rfl hl.1 rfl (lv_room (Nat.le_of_ble_eq_true rfl)) dX4_addGuest_25 ⟨Nat.le_of_ble_eq_true rfl, Nat.le_of_ble_eq_true rfl⟩) (fun u_ H locs hw hP hD hS => ?_)
  refine lv_aload_n hx hb dX4_addGuest_28 rfl (lv_at hl 0 rfl) ?_
  refine va_get (D := D) (ci := 4) (v := .ref (a 0)) (C := RX4) (T := TX4) (N := 6) hx hb hts (by decide +kernel) hown hK hP 0 rfl rfl 0 (by decide) (hts (.fieldLink RX4 12 "DanceHall" "hall" "LDanceHall$State;") (by decide +kernel)) (fun _ h9 => h9) rfl dX4_addGuest_29 ?_
  refine lv_iload_n hx hb dX4_addGuest_32 rfl (lv_at hl 1 rfl) ?_
  refine kc_r (Cs := [sO a C]) (Rs := [jO o (a, b, fa, ta, sc), gW cy a 1 L, gW cy a 7 F, sA cy a Ar, rW cy a d]) (Bs := [jO o (a, b, fa, ta, sc), sO a C, gW cy a 1 L, gW cy a 7 F, sA cy a Ar, rW cy a d]) (Cs' := fun u_ : Unit => [sO a C]) (Fs := fun u_ : Unit => [jO o (a, b, fa, ta, sc), sO a C, gW cy a 1 L, gW cy a 7 F, sA cy a Ar, rW cy a d]) hP hD hS hA [1] [0, 2, 3, 4, 5] [0, 5, 1, 2, 3, 4] rfl rfl (by decide) (by decide) (fun _ => rfl) (va_runV (As := [.int x]) (rest := []) ⟨hx, hb, hml, hown, hts⟩ (c_X3_side_t l D cy a C x hx0 H.size) (cwV 1 hts gX4_addGuest_X3_side rfl rfl rfl (by decide +kernel) ⟨Nat.le_of_ble_eq_true rfl, Nat.le_of_ble_eq_true rfl⟩) (kPre_V (ci := 3) hK hN hP hD [1] (by decide) rfl 0 rfl rfl) rfl rfl hl.1 rfl (lv_room (Nat.le_of_ble_eq_true rfl)) dX4_addGuest_33 ⟨Nat.le_of_ble_eq_true rfl, Nat.le_of_ble_eq_true rfl⟩) (fun u_ H locs hw hP hD hS => ?_)
  refine kc_i (Cs := [gW cy a 1 L]) (Rs := [jO o (a, b, fa, ta, sc), sO a C, gW cy a 7 F, sA cy a Ar, rW cy a d]) (Bs := [jO o (a, b, fa, ta, sc), sO a C, gW cy a 1 L, gW cy a 7 F, sA cy a Ar, rW cy a d]) (Cs' := fun u_ : Unit => [gW cy a 1 L]) (Fs := fun u_ : Unit => [jO o (a, b, fa, ta, sc), sO a C, gW cy a 1 L, gW cy a 7 F, sA cy a Ar, rW cy a d]) hP hD hS hA [2] [0, 1, 3, 4, 5] [0, 1, 5, 2, 3, 4] rfl rfl (by decide) (by decide) (fun _ => rfl) (va_runV (As := []) (rest := []) ⟨hx, hb, hml, hown, hts⟩ (c_X2_isFull l D cy a 1 L (by omega) H.size) (cwV 0 hts gX4_addGuest_X2_isFull rfl rfl rfl (by decide +kernel) ⟨Nat.le_of_ble_eq_true rfl, Nat.le_of_ble_eq_true rfl⟩) (kPre_V (ci := 2) hK hN hP hD [2] (by decide) rfl 0 rfl rfl) rfl rfl hl.1 rfl (lv_room (Nat.le_of_ble_eq_true rfl)) dX4_addGuest_36 ⟨Nat.le_of_ble_eq_true rfl, Nat.le_of_ble_eq_true rfl⟩) (fun r_ u_ H locs hw hP hD hS => ?_)
  have hw : r_ = if 8 ≤ L.2.2.2.2.2 then nI 1 else nI 0 := hw
  subst hw
  refine kv_i (y := nI 1) (if_pos (by omega)) ?_
  refine lv_if_ne (tgt := 46) hx hb dX4_addGuest_39 (by decide) (fun _ => ?_) (fun h => absurd h (by decide))
  refine lv_iconst (v := nI 0) hx hb dX4_addGuest_46 (by decide) ?_
  subst hQ
  exact kx_call ((vx_runS (As := [.int (nI 0)]) (rest := []) ⟨hx, hb, hml, hown, hts⟩ (x_X4_needState l hst D cy S H.size) (va_cwS 1 hts gX4_addGuest_X4_needState rfl rfl rfl (by decide +kernel) ⟨Nat.le_of_ble_eq_true rfl, Nat.le_of_ble_eq_true rfl⟩) (kPreX_S hK hN hX hP hD hS hA [] (by decide) rfl) rfl rfl hl.1 rfl (lv_room (Nat.le_of_ble_eq_true rfl)) dX4_addGuest_47 ⟨Nat.le_of_ble_eq_true rfl, Nat.le_of_ble_eq_true rfl⟩)) hS hA hP htb hlocks (by decide) (by decide)
abbrev rm_X4_giveTokens_it : Room := { frames := 7, cells := 1, slots := 6, locals := 102 }
set_option maxHeartbeats 1000000 in
set_option maxRecDepth 100000 in
theorem x_X4_giveTokens_it (l : Launch) (hst : l.stackTraces = false) (D : va_G) (cy : Nat → ClassId) (S : Nat × Nat × Nat) (x : Int32) (i : Int32) (v : Int32) (o : Nat → Nat) (a : Nat → Nat) (b : Nat → Nat) (fa : Nat → Nat) (ta : Nat → Nat) (sc : Nat) (C : rC) (L : rG) (F : rG) (Ar : rA) (d : Nat → Nat → Int32) (hx0 : ¬ x = 0) (hbad : ¬ (¬ i < nI 0 ∧ ¬ nI L.2.2.2.2.2 ≤ i)) (sz : Nat) : vx_Met l yX4_giveTokens wsX4_giveTokens rm_X4_giveTokens_it (va_Pc [.ref (o 0), .int x, .int i, .int v] (kPreX D (kT cy) S [jO o (a, b, fa, ta, sc), sO a C, gW cy a 1 L, gW cy a 7 F, sA cy a Ar, rW cy a d] sz)) kNo (kXC D [jO o (a, b, fa, ta, sc), sO a C, gW cy a 1 L, gW cy a 7 F, sA cy a Ar, rW cy a d] (va_A (bkF [jO o (a, b, fa, ta, sc), sO a C, gW cy a 1 L, gW cy a 7 F, sA cy a Ar, rW cy a d]) sz) nIO) 1 6 (va_A (bkF [jO o (a, b, fa, ta, sc), sO a C, gW cy a 1 L, gW cy a 7 F, sA cy a Ar, rW cy a d]) sz) := by
  refine kOpenX (y := yX4_giveTokens) (ws := wsX4_giveTokens) (cc := cX4_giveTokens) (maxL := 6) (ret := (some .int)) (av := [.ref (o 0), .int x, .int i, .int v]) (Bs := [jO o (a, b, fa, ta, sc), sO a C, gW cy a 1 L, gW cy a 7 F, sA cy a Ar, rW cy a d]) (XC := fun A => kXC D [jO o (a, b, fa, ta, sc), sO a C, gW cy a 1 L, gW cy a 7 F, sA cy a Ar, rW cy a d] A nIO) (by decide) rfl (Nat.le_of_ble_eq_true rfl) ?_
  intro p e s m args below meth c A Q ls hQ hx hb hml hlocks htb hts hown hN hX hK hP hD hS hA hl
  have hl : lv_has ls 6 [(0, .ref (o 0)), (1, .int x), (2, .int i), (3, .int v)] := hl
  suffices K9 : ∀ (H : Heap) (locs : List Loc), va_P D vwCl (bkF [jO o (a, b, fa, ta, sc), sO a C, gW cy a 1 L, gW cy a 7 F, sA cy a Ar, rW cy a d]) H → va_S A s.heap H locs → W p l e (headSpec wsX4_giveTokens rm_X4_giveTokens_it).room s m args below meth c H locs 0 0 Q (F0 m 0 ls []) from K9 _ _ hP hS
  clear hP hS
  intro H locs hP hS
  refine lv_aload_n hx hb dX4_giveTokens_0 rfl (lv_at hl 0 rfl) ?_
  refine va_get (D := D) (ci := 4) (v := .ref (a 0)) (C := RX4) (T := TX4) (N := 6) hx hb hts (by decide +kernel) hown hK hP 0 rfl rfl 0 (by decide) (hts (.fieldLink RX4 12 "DanceHall" "hall" "LDanceHall$State;") (by decide +kernel)) (fun _ h9 => h9) rfl dX4_giveTokens_1 ?_
  refine lv_iload_n hx hb dX4_giveTokens_4 rfl (lv_at hl 1 rfl) ?_
  refine kc_r (Cs := [sO a C]) (Rs := [jO o (a, b, fa, ta, sc), gW cy a 1 L, gW cy a 7 F, sA cy a Ar, rW cy a d]) (Bs := [jO o (a, b, fa, ta, sc), sO a C, gW cy a 1 L, gW cy a 7 F, sA cy a Ar, rW cy a d]) (Cs' := fun u_ : Unit => [sO a C]) (Fs := fun u_ : Unit => [jO o (a, b, fa, ta, sc), sO a C, gW cy a 1 L, gW cy a 7 F, sA cy a Ar, rW cy a d]) hP hD hS hA [1] [0, 2, 3, 4, 5] [0, 5, 1, 2, 3, 4] rfl rfl (by decide) (by decide) (fun _ => rfl) (va_runV (As := [.int x]) (rest := []) ⟨hx, hb, hml, hown, hts⟩ (c_X3_side_t l D cy a C x hx0 H.size) (cwV 1 hts gX4_giveTokens_X3_side rfl rfl rfl (by decide +kernel) ⟨Nat.le_of_ble_eq_true rfl, Nat.le_of_ble_eq_true rfl⟩) (kPre_V (ci := 3) hK hN hP hD [1] (by decide) rfl 0 rfl rfl) rfl rfl hl.1 rfl (lv_room (Nat.le_of_ble_eq_true rfl)) dX4_giveTokens_5 ⟨Nat.le_of_ble_eq_true rfl, Nat.le_of_ble_eq_true rfl⟩) (fun u_ H locs hw hP hD hS => ?_)
  refine lv_astore (lv' := [(4, .ref (a 1)), (0, .ref (o 0)), (1, .int x), (2, .int i), (3, .int v)]) hx hb dX4_giveTokens_8 hl (by decide) rfl (fun ls hl => ?_)
  refine lv_aload hx hb dX4_giveTokens_10 (lv_at hl 0 rfl) ?_
  refine lv_iload_n hx hb dX4_giveTokens_12 rfl (lv_at hl 3 rfl) ?_
  refine kc_i (Cs := [gW cy a 1 L]) (Rs := [jO o (a, b, fa, ta, sc), sO a C, gW cy a 7 F, sA cy a Ar, rW cy a d]) (Bs := [jO o (a, b, fa, ta, sc), sO a C, gW cy a 1 L, gW cy a 7 F, sA cy a Ar, rW cy a d]) (Cs' := fun u_ : Unit => [gW cy a 1 L]) (Fs := fun u_ : Unit => [jO o (a, b, fa, ta, sc), sO a C, gW cy a 1 L, gW cy a 7 F, sA cy a Ar, rW cy a d]) hP hD hS hA [2] [0, 1, 3, 4, 5] [0, 1, 5, 2, 3, 4] rfl rfl (by decide) (by decide) (fun _ => rfl) (va_runV (As := [.int i]) (rest := []) ⟨hx, hb, hml, hown, hts⟩ (c_X2_has l D cy a 1 L i H.size) (cwV 1 hts gX4_giveTokens_X2_has rfl rfl rfl (by decide +kernel) ⟨Nat.le_of_ble_eq_true rfl, Nat.le_of_ble_eq_true rfl⟩) (kPre_V (ci := 2) hK hN hP hD [2] (by decide) rfl 0 rfl rfl) rfl rfl hl.1 rfl (lv_room (Nat.le_of_ble_eq_true rfl)) dX4_giveTokens_13 ⟨Nat.le_of_ble_eq_true rfl, Nat.le_of_ble_eq_true rfl⟩) (fun r_ u_ H locs hw hP hD hS => ?_)
  have hw : r_ = if ¬ i < nI 0 ∧ ¬ nI L.2.2.2.2.2 ≤ i then nI 1 else nI 0 := hw
  subst hw
  refine kv_i (y := nI 0) (if_neg hbad) ?_
  subst hQ
  exact kx_call ((vx_runS (As := [.int (nI 0)]) (rest := []) ⟨hx, hb, hml, hown, hts⟩ (x_X4_needIndex l hst D cy S H.size) (va_cwS 1 hts gX4_giveTokens_X4_needIndex rfl rfl rfl (by decide +kernel) ⟨Nat.le_of_ble_eq_true rfl, Nat.le_of_ble_eq_true rfl⟩) (kPreX_S hK hN hX hP hD hS hA [] (by decide) rfl) rfl rfl hl.1 rfl (lv_room (Nat.le_of_ble_eq_true rfl)) dX4_giveTokens_16 ⟨Nat.le_of_ble_eq_true rfl, Nat.le_of_ble_eq_true rfl⟩)) hS hA hP htb hlocks (by decide) (by decide)
abbrev rm_X4_giveTokens_at : Room := { frames := 7, cells := 1, slots := 6, locals := 102 }
set_option maxHeartbeats 1000000 in
set_option maxRecDepth 100000 in
theorem x_X4_giveTokens_at (l : Launch) (hst : l.stackTraces = false) (D : va_G) (cy : Nat → ClassId) (S : Nat × Nat × Nat) (x : Int32) (i : Nat) (v : Int32) (o : Nat → Nat) (a : Nat → Nat) (b : Nat → Nat) (fa : Nat → Nat) (ta : Nat → Nat) (sc : Nat) (C : rC) (L : rG) (F : rG) (Ar : rA) (d : Nat → Nat → Int32) (hx0 : ¬ x = 0) (hn : L.2.2.2.2.2 ≤ 8) (hi : i < L.2.2.2.2.2) (hbad : ¬ (¬ v < (-99) ∧ ¬ nI 99 < v)) (sz : Nat) : vx_Met l yX4_giveTokens wsX4_giveTokens rm_X4_giveTokens_at (va_Pc [.ref (o 0), .int x, .int (nI i), .int v] (kPreX D (kT cy) S [jO o (a, b, fa, ta, sc), sO a C, gW cy a 1 L, gW cy a 7 F, sA cy a Ar, rW cy a d] sz)) kNo (kXC D [jO o (a, b, fa, ta, sc), sO a C, gW cy a 1 L, gW cy a 7 F, sA cy a Ar, rW cy a d] (va_A (bkF [jO o (a, b, fa, ta, sc), sO a C, gW cy a 1 L, gW cy a 7 F, sA cy a Ar, rW cy a d]) sz) nIA) 1 6 (va_A (bkF [jO o (a, b, fa, ta, sc), sO a C, gW cy a 1 L, gW cy a 7 F, sA cy a Ar, rW cy a d]) sz) := by
  refine kOpenX (y := yX4_giveTokens) (ws := wsX4_giveTokens) (cc := cX4_giveTokens) (maxL := 6) (ret := (some .int)) (av := [.ref (o 0), .int x, .int (nI i), .int v]) (Bs := [jO o (a, b, fa, ta, sc), sO a C, gW cy a 1 L, gW cy a 7 F, sA cy a Ar, rW cy a d]) (XC := fun A => kXC D [jO o (a, b, fa, ta, sc), sO a C, gW cy a 1 L, gW cy a 7 F, sA cy a Ar, rW cy a d] A nIA) (by decide) rfl (Nat.le_of_ble_eq_true rfl) ?_
  intro p e s m args below meth c A Q ls hQ hx hb hml hlocks htb hts hown hN hX hK hP hD hS hA hl
  have hl : lv_has ls 6 [(0, .ref (o 0)), (1, .int x), (2, .int (nI i)), (3, .int v)] := hl
  suffices K9 : ∀ (H : Heap) (locs : List Loc), va_P D vwCl (bkF [jO o (a, b, fa, ta, sc), sO a C, gW cy a 1 L, gW cy a 7 F, sA cy a Ar, rW cy a d]) H → va_S A s.heap H locs → W p l e (headSpec wsX4_giveTokens rm_X4_giveTokens_at).room s m args below meth c H locs 0 0 Q (F0 m 0 ls []) from K9 _ _ hP hS
  clear hP hS
  intro H locs hP hS
  refine lv_aload_n hx hb dX4_giveTokens_0 rfl (lv_at hl 0 rfl) ?_
  refine va_get (D := D) (ci := 4) (v := .ref (a 0)) (C := RX4) (T := TX4) (N := 6) hx hb hts (by decide +kernel) hown hK hP 0 rfl rfl 0 (by decide) (hts (.fieldLink RX4 12 "DanceHall" "hall" "LDanceHall$State;") (by decide +kernel)) (fun _ h9 => h9) rfl dX4_giveTokens_1 ?_
  refine lv_iload_n hx hb dX4_giveTokens_4 rfl (lv_at hl 1 rfl) ?_
  refine kc_r (Cs := [sO a C]) (Rs := [jO o (a, b, fa, ta, sc), gW cy a 1 L, gW cy a 7 F, sA cy a Ar, rW cy a d]) (Bs := [jO o (a, b, fa, ta, sc), sO a C, gW cy a 1 L, gW cy a 7 F, sA cy a Ar, rW cy a d]) (Cs' := fun u_ : Unit => [sO a C]) (Fs := fun u_ : Unit => [jO o (a, b, fa, ta, sc), sO a C, gW cy a 1 L, gW cy a 7 F, sA cy a Ar, rW cy a d]) hP hD hS hA [1] [0, 2, 3, 4, 5] [0, 5, 1, 2, 3, 4] rfl rfl (by decide) (by decide) (fun _ => rfl) (va_runV (As := [.int x]) (rest := []) ⟨hx, hb, hml, hown, hts⟩ (c_X3_side_t l D cy a C x hx0 H.size) (cwV 1 hts gX4_giveTokens_X3_side rfl rfl rfl (by decide +kernel) ⟨Nat.le_of_ble_eq_true rfl, Nat.le_of_ble_eq_true rfl⟩) (kPre_V (ci := 3) hK hN hP hD [1] (by decide) rfl 0 rfl rfl) rfl rfl hl.1 rfl (lv_room (Nat.le_of_ble_eq_true rfl)) dX4_giveTokens_5 ⟨Nat.le_of_ble_eq_true rfl, Nat.le_of_ble_eq_true rfl⟩) (fun u_ H locs hw hP hD hS => ?_)
  refine lv_astore (lv' := [(4, .ref (a 1)), (0, .ref (o 0)), (1, .int x), (2, .int (nI i)), (3, .int v)]) hx hb dX4_giveTokens_8 hl (by decide) rfl (fun ls hl => ?_)
  refine lv_aload hx hb dX4_giveTokens_10 (lv_at hl 0 rfl) ?_
  refine lv_iload_n hx hb dX4_giveTokens_12 rfl (lv_at hl 3 rfl) ?_
  refine kc_i (Cs := [gW cy a 1 L]) (Rs := [jO o (a, b, fa, ta, sc), sO a C, gW cy a 7 F, sA cy a Ar, rW cy a d]) (Bs := [jO o (a, b, fa, ta, sc), sO a C, gW cy a 1 L, gW cy a 7 F, sA cy a Ar, rW cy a d]) (Cs' := fun u_ : Unit => [gW cy a 1 L]) (Fs := fun u_ : Unit => [jO o (a, b, fa, ta, sc), sO a C, gW cy a 1 L, gW cy a 7 F, sA cy a Ar, rW cy a d]) hP hD hS hA [2] [0, 1, 3, 4, 5] [0, 1, 5, 2, 3, 4] rfl rfl (by decide) (by decide) (fun _ => rfl) (va_runV (As := [.int (nI i)]) (rest := []) ⟨hx, hb, hml, hown, hts⟩ (c_X2_has l D cy a 1 L (nI i) H.size) (cwV 1 hts gX4_giveTokens_X2_has rfl rfl rfl (by decide +kernel) ⟨Nat.le_of_ble_eq_true rfl, Nat.le_of_ble_eq_true rfl⟩) (kPre_V (ci := 2) hK hN hP hD [2] (by decide) rfl 0 rfl rfl) rfl rfl hl.1 rfl (lv_room (Nat.le_of_ble_eq_true rfl)) dX4_giveTokens_13 ⟨Nat.le_of_ble_eq_true rfl, Nat.le_of_ble_eq_true rfl⟩) (fun r_ u_ H locs hw hP hD hS => ?_)
  have hw : r_ = if ¬ (nI i) < nI 0 ∧ ¬ nI L.2.2.2.2.2 ≤ (nI i) then nI 1 else nI 0 := hw
  subst hw
  refine kv_i (y := nI 1) (if_pos (khas (by omega) (by omega))) ?_
  refine kc_v (Cs := []) (Rs := [jO o (a, b, fa, ta, sc), sO a C, gW cy a 1 L, gW cy a 7 F, sA cy a Ar, rW cy a d]) (Bs := [jO o (a, b, fa, ta, sc), sO a C, gW cy a 1 L, gW cy a 7 F, sA cy a Ar, rW cy a d]) (Cs' := fun u_ : Unit => []) (Fs := fun u_ : Unit => [jO o (a, b, fa, ta, sc), sO a C, gW cy a 1 L, gW cy a 7 F, sA cy a Ar, rW cy a d]) hP hD hS hA [] [0, 1, 2, 3, 4, 5] [0, 1, 2, 3, 4, 5] rfl rfl (by decide) (by decide) (fun _ => rfl) (va_runS (As := [.int (nI 1)]) (rest := []) ⟨hx, hb, hml, hown, hts⟩ (c_X4_needIndex_y l D cy (nI 1) (by first | assumption | omega | decide) H.size) (va_cwS 1 hts gX4_giveTokens_X4_needIndex rfl rfl rfl (by decide +kernel) ⟨Nat.le_of_ble_eq_true rfl, Nat.le_of_ble_eq_true rfl⟩) (kPre_S hK hN hP hD [] (by decide) rfl) rfl rfl hl.1 rfl (lv_room (Nat.le_of_ble_eq_true rfl)) dX4_giveTokens_16 ⟨Nat.le_of_ble_eq_true rfl, Nat.le_of_ble_eq_true rfl⟩) (fun u_ H locs hw hP hD hS => ?_)
  refine lv_iload_n hx hb dX4_giveTokens_19 rfl (lv_at hl 4 rfl) ?_
  refine lv_bipush (v := (-99 : Int32)) hx hb dX4_giveTokens_20 (by decide) ?_
  refine lv_bipush (v := nI 99) hx hb dX4_giveTokens_22 (by decide) ?_
  refine kc_i (Cs := []) (Rs := [jO o (a, b, fa, ta, sc), sO a C, gW cy a 1 L, gW cy a 7 F, sA cy a Ar, rW cy a d]) (Bs := [jO o (a, b, fa, ta, sc), sO a C, gW cy a 1 L, gW cy a 7 F, sA cy a Ar, rW cy a d]) (Cs' := fun u_ : Unit => []) (Fs := fun u_ : Unit => [jO o (a, b, fa, ta, sc), sO a C, gW cy a 1 L, gW cy a 7 F, sA cy a Ar, rW cy a d]) hP hD hS hA [] [0, 1, 2, 3, 4, 5] [0, 1, 2, 3, 4, 5] rfl rfl (by decide) (by decide) (fun _ => rfl) (va_runS (As := [.int v, .int (-99), .int (nI 99)]) (rest := []) ⟨hx, hb, hml, hown, hts⟩ (c_X4_isWithin l D cy v (-99) (nI 99) H.size) (va_cwS 3 hts gX4_giveTokens_X4_isWithin rfl rfl rfl (by decide +kernel) ⟨Nat.le_of_ble_eq_true rfl, Nat.le_of_ble_eq_true rfl⟩) (kPre_S hK hN hP hD [] (by decide) rfl) rfl rfl hl.1 rfl (lv_room (Nat.le_of_ble_eq_true rfl)) dX4_giveTokens_24 ⟨Nat.le_of_ble_eq_true rfl, Nat.le_of_ble_eq_true rfl⟩) (fun r_ u_ H locs hw hP hD hS => ?_)
  have hw : r_ = if ¬ v < (-99) ∧ ¬ (nI 99) < v then nI 1 else nI 0 := hw
  subst hw
  refine kv_i (y := nI 0) (if_neg hbad) ?_
  subst hQ
  exact kx_call ((vx_runS (As := [.int (nI 0)]) (rest := []) ⟨hx, hb, hml, hown, hts⟩ (x_X4_needArgument l hst D cy S H.size) (va_cwS 1 hts gX4_giveTokens_X4_needArgument rfl rfl rfl (by decide +kernel) ⟨Nat.le_of_ble_eq_true rfl, Nat.le_of_ble_eq_true rfl⟩) (kPreX_S hK hN hX hP hD hS hA [] (by decide) rfl) rfl rfl hl.1 rfl (lv_room (Nat.le_of_ble_eq_true rfl)) dX4_giveTokens_27 ⟨Nat.le_of_ble_eq_true rfl, Nat.le_of_ble_eq_true rfl⟩)) hS hA hP htb hlocks (by decide) (by decide)
abbrev rm_X4_giveTokens_st : Room := { frames := 7, cells := 1, slots := 6, locals := 102 }
set_option maxHeartbeats 1000000 in
set_option maxRecDepth 100000 in
theorem x_X4_giveTokens_st (l : Launch) (hst : l.stackTraces = false) (D : va_G) (cy : Nat → ClassId) (S : Nat × Nat × Nat) (x : Int32) (i : Nat) (v : Int32) (o : Nat → Nat) (a : Nat → Nat) (b : Nat → Nat) (fa : Nat → Nat) (ta : Nat → Nat) (sc : Nat) (C : rC) (L : rG) (F : rG) (Ar : rA) (d : Nat → Nat → Int32) (hx0 : ¬ x = 0) (hn : L.2.2.2.2.2 ≤ 8) (hi : i < L.2.2.2.2.2) (hv : (¬ v < (-99) ∧ ¬ nI 99 < v)) (hbad : ¬ (¬ (L.1 i + v) < nI 0 ∧ ¬ nI 99 < (L.1 i + v))) (sz : Nat) : vx_Met l yX4_giveTokens wsX4_giveTokens rm_X4_giveTokens_st (va_Pc [.ref (o 0), .int x, .int (nI i), .int v] (kPreX D (kT cy) S [jO o (a, b, fa, ta, sc), sO a C, gW cy a 1 L, gW cy a 7 F, sA cy a Ar, rW cy a d] sz)) kNo (kXC D [jO o (a, b, fa, ta, sc), sO a C, gW cy a 1 L, gW cy a 7 F, sA cy a Ar, rW cy a d] (va_A (bkF [jO o (a, b, fa, ta, sc), sO a C, gW cy a 1 L, gW cy a 7 F, sA cy a Ar, rW cy a d]) sz) nIS) 1 6 (va_A (bkF [jO o (a, b, fa, ta, sc), sO a C, gW cy a 1 L, gW cy a 7 F, sA cy a Ar, rW cy a d]) sz) := by
  refine kOpenX (y := yX4_giveTokens) (ws := wsX4_giveTokens) (cc := cX4_giveTokens) (maxL := 6) (ret := (some .int)) (av := [.ref (o 0), .int x, .int (nI i), .int v]) (Bs := [jO o (a, b, fa, ta, sc), sO a C, gW cy a 1 L, gW cy a 7 F, sA cy a Ar, rW cy a d]) (XC := fun A => kXC D [jO o (a, b, fa, ta, sc), sO a C, gW cy a 1 L, gW cy a 7 F, sA cy a Ar, rW cy a d] A nIS) (by decide) rfl (Nat.le_of_ble_eq_true rfl) ?_
  intro p e s m args below meth c A Q ls hQ hx hb hml hlocks htb hts hown hN hX hK hP hD hS hA hl
  have hl : lv_has ls 6 [(0, .ref (o 0)), (1, .int x), (2, .int (nI i)), (3, .int v)] := hl
  suffices K9 : ∀ (H : Heap) (locs : List Loc), va_P D vwCl (bkF [jO o (a, b, fa, ta, sc), sO a C, gW cy a 1 L, gW cy a 7 F, sA cy a Ar, rW cy a d]) H → va_S A s.heap H locs → W p l e (headSpec wsX4_giveTokens rm_X4_giveTokens_st).room s m args below meth c H locs 0 0 Q (F0 m 0 ls []) from K9 _ _ hP hS
  clear hP hS
  intro H locs hP hS
  refine lv_aload_n hx hb dX4_giveTokens_0 rfl (lv_at hl 0 rfl) ?_
  refine va_get (D := D) (ci := 4) (v := .ref (a 0)) (C := RX4) (T := TX4) (N := 6) hx hb hts (by decide +kernel) hown hK hP 0 rfl rfl 0 (by decide) (hts (.fieldLink RX4 12 "DanceHall" "hall" "LDanceHall$State;") (by decide +kernel)) (fun _ h9 => h9) rfl dX4_giveTokens_1 ?_
  refine lv_iload_n hx hb dX4_giveTokens_4 rfl (lv_at hl 1 rfl) ?_
  refine kc_r (Cs := [sO a C]) (Rs := [jO o (a, b, fa, ta, sc), gW cy a 1 L, gW cy a 7 F, sA cy a Ar, rW cy a d]) (Bs := [jO o (a, b, fa, ta, sc), sO a C, gW cy a 1 L, gW cy a 7 F, sA cy a Ar, rW cy a d]) (Cs' := fun u_ : Unit => [sO a C]) (Fs := fun u_ : Unit => [jO o (a, b, fa, ta, sc), sO a C, gW cy a 1 L, gW cy a 7 F, sA cy a Ar, rW cy a d]) hP hD hS hA [1] [0, 2, 3, 4, 5] [0, 5, 1, 2, 3, 4] rfl rfl (by decide) (by decide) (fun _ => rfl) (va_runV (As := [.int x]) (rest := []) ⟨hx, hb, hml, hown, hts⟩ (c_X3_side_t l D cy a C x hx0 H.size) (cwV 1 hts gX4_giveTokens_X3_side rfl rfl rfl (by decide +kernel) ⟨Nat.le_of_ble_eq_true rfl, Nat.le_of_ble_eq_true rfl⟩) (kPre_V (ci := 3) hK hN hP hD [1] (by decide) rfl 0 rfl rfl) rfl rfl hl.1 rfl (lv_room (Nat.le_of_ble_eq_true rfl)) dX4_giveTokens_5 ⟨Nat.le_of_ble_eq_true rfl, Nat.le_of_ble_eq_true rfl⟩) (fun u_ H locs hw hP hD hS => ?_)
  refine lv_astore (lv' := [(4, .ref (a 1)), (0, .ref (o 0)), (1, .int x), (2, .int (nI i)), (3, .int v)]) hx hb dX4_giveTokens_8 hl (by decide) rfl (fun ls hl => ?_)
  refine lv_aload hx hb dX4_giveTokens_10 (lv_at hl 0 rfl) ?_
  refine lv_iload_n hx hb dX4_giveTokens_12 rfl (lv_at hl 3 rfl) ?_
  refine kc_i (Cs := [gW cy a 1 L]) (Rs := [jO o (a, b, fa, ta, sc), sO a C, gW cy a 7 F, sA cy a Ar, rW cy a d]) (Bs := [jO o (a, b, fa, ta, sc), sO a C, gW cy a 1 L, gW cy a 7 F, sA cy a Ar, rW cy a d]) (Cs' := fun u_ : Unit => [gW cy a 1 L]) (Fs := fun u_ : Unit => [jO o (a, b, fa, ta, sc), sO a C, gW cy a 1 L, gW cy a 7 F, sA cy a Ar, rW cy a d]) hP hD hS hA [2] [0, 1, 3, 4, 5] [0, 1, 5, 2, 3, 4] rfl rfl (by decide) (by decide) (fun _ => rfl) (va_runV (As := [.int (nI i)]) (rest := []) ⟨hx, hb, hml, hown, hts⟩ (c_X2_has l D cy a 1 L (nI i) H.size) (cwV 1 hts gX4_giveTokens_X2_has rfl rfl rfl (by decide +kernel) ⟨Nat.le_of_ble_eq_true rfl, Nat.le_of_ble_eq_true rfl⟩) (kPre_V (ci := 2) hK hN hP hD [2] (by decide) rfl 0 rfl rfl) rfl rfl hl.1 rfl (lv_room (Nat.le_of_ble_eq_true rfl)) dX4_giveTokens_13 ⟨Nat.le_of_ble_eq_true rfl, Nat.le_of_ble_eq_true rfl⟩) (fun r_ u_ H locs hw hP hD hS => ?_)
  have hw : r_ = if ¬ (nI i) < nI 0 ∧ ¬ nI L.2.2.2.2.2 ≤ (nI i) then nI 1 else nI 0 := hw
  subst hw
  refine kv_i (y := nI 1) (if_pos (khas (by omega) (by omega))) ?_
  refine kc_v (Cs := []) (Rs := [jO o (a, b, fa, ta, sc), sO a C, gW cy a 1 L, gW cy a 7 F, sA cy a Ar, rW cy a d]) (Bs := [jO o (a, b, fa, ta, sc), sO a C, gW cy a 1 L, gW cy a 7 F, sA cy a Ar, rW cy a d]) (Cs' := fun u_ : Unit => []) (Fs := fun u_ : Unit => [jO o (a, b, fa, ta, sc), sO a C, gW cy a 1 L, gW cy a 7 F, sA cy a Ar, rW cy a d]) hP hD hS hA [] [0, 1, 2, 3, 4, 5] [0, 1, 2, 3, 4, 5] rfl rfl (by decide) (by decide) (fun _ => rfl) (va_runS (As := [.int (nI 1)]) (rest := []) ⟨hx, hb, hml, hown, hts⟩ (c_X4_needIndex_y l D cy (nI 1) (by first | assumption | omega | decide) H.size) (va_cwS 1 hts gX4_giveTokens_X4_needIndex rfl rfl rfl (by decide +kernel) ⟨Nat.le_of_ble_eq_true rfl, Nat.le_of_ble_eq_true rfl⟩) (kPre_S hK hN hP hD [] (by decide) rfl) rfl rfl hl.1 rfl (lv_room (Nat.le_of_ble_eq_true rfl)) dX4_giveTokens_16 ⟨Nat.le_of_ble_eq_true rfl, Nat.le_of_ble_eq_true rfl⟩) (fun u_ H locs hw hP hD hS => ?_)
  refine lv_iload_n hx hb dX4_giveTokens_19 rfl (lv_at hl 4 rfl) ?_
  refine lv_bipush (v := (-99 : Int32)) hx hb dX4_giveTokens_20 (by decide) ?_
  refine lv_bipush (v := nI 99) hx hb dX4_giveTokens_22 (by decide) ?_
  refine kc_i (Cs := []) (Rs := [jO o (a, b, fa, ta, sc), sO a C, gW cy a 1 L, gW cy a 7 F, sA cy a Ar, rW cy a d]) (Bs := [jO o (a, b, fa, ta, sc), sO a C, gW cy a 1 L, gW cy a 7 F, sA cy a Ar, rW cy a d]) (Cs' := fun u_ : Unit => []) (Fs := fun u_ : Unit => [jO o (a, b, fa, ta, sc), sO a C, gW cy a 1 L, gW cy a 7 F, sA cy a Ar, rW cy a d]) hP hD hS hA [] [0, 1, 2, 3, 4, 5] [0, 1, 2, 3, 4, 5] rfl rfl (by decide) (by decide) (fun _ => rfl) (va_runS (As := [.int v, .int (-99), .int (nI 99)]) (rest := []) ⟨hx, hb, hml, hown, hts⟩ (c_X4_isWithin l D cy v (-99) (nI 99) H.size) (va_cwS 3 hts gX4_giveTokens_X4_isWithin rfl rfl rfl (by decide +kernel) ⟨Nat.le_of_ble_eq_true rfl, Nat.le_of_ble_eq_true rfl⟩) (kPre_S hK hN hP hD [] (by decide) rfl) rfl rfl hl.1 rfl (lv_room (Nat.le_of_ble_eq_true rfl)) dX4_giveTokens_24 ⟨Nat.le_of_ble_eq_true rfl, Nat.le_of_ble_eq_true rfl⟩) (fun r_ u_ H locs hw hP hD hS => ?_)
  have hw : r_ = if ¬ v < (-99) ∧ ¬ (nI 99) < v then nI 1 else nI 0 := hw
  subst hw
  refine kv_i (y := nI 1) (if_pos hv) ?_
  refine kc_v (Cs := []) (Rs := [jO o (a, b, fa, ta, sc), sO a C, gW cy a 1 L, gW cy a 7 F, sA cy a Ar, rW cy a d]) (Bs := [jO o (a, b, fa, ta, sc), sO a C, gW cy a 1 L, gW cy a 7 F, sA cy a Ar, rW cy a d]) (Cs' := fun u_ : Unit => []) (Fs := fun u_ : Unit => [jO o (a, b, fa, ta, sc), sO a C, gW cy a 1 L, gW cy a 7 F, sA cy a Ar, rW cy a d]) hP hD hS hA [] [0, 1, 2, 3, 4, 5] [0, 1, 2, 3, 4, 5] rfl rfl (by decide) (by decide) (fun _ => rfl) (va_runS (As := [.int (nI 1)]) (rest := []) ⟨hx, hb, hml, hown, hts⟩ (c_X4_needArgument_y l D cy (nI 1) (by first | assumption | omega | decide) H.size) (va_cwS 1 hts gX4_giveTokens_X4_needArgument rfl rfl rfl (by decide +kernel) ⟨Nat.le_of_ble_eq_true rfl, Nat.le_of_ble_eq_true rfl⟩) (kPre_S hK hN hP hD [] (by decide) rfl) rfl rfl hl.1 rfl (lv_room (Nat.le_of_ble_eq_true rfl)) dX4_giveTokens_27 ⟨Nat.le_of_ble_eq_true rfl, Nat.le_of_ble_eq_true rfl⟩) (fun u_ H locs hw hP hD hS => ?_)
  refine lv_aload hx hb dX4_giveTokens_30 (lv_at hl 0 rfl) ?_
  refine va_get (D := D) (ci := 2) (v := .ref (a 2)) (C := RX2) (T := TX2) (N := 6) hx hb hts (by decide +kernel) hown hK hP 2 rfl rfl 0 (by decide) (hts (.fieldLink RX4 72 "DanceHall$Guests" "tokens" "[I") (by decide +kernel)) (fun _ h9 => h9) rfl dX4_giveTokens_32 ?_
  refine lv_iload_n hx hb dX4_giveTokens_35 rfl (lv_at hl 3 rfl) ?_
  refine va_iald hx hb hK hP 3 0 rfl rfl (vp_in_nI (n := i) (N := 8) (by omega) (by omega)) dX4_giveTokens_36 ?_
  refine kv_i (y := L.1 i) (congrArg L.1 (nI_clamp (n := i) (by omega))) ?_
  refine lv_iload_n hx hb dX4_giveTokens_37 rfl (lv_at hl 4 rfl) ?_
  refine lv_iadd hx hb dX4_giveTokens_38 ?_
  refine lv_istore (lv' := [(5, .int ((L.1 i) + v)), (4, .ref (a 1)), (0, .ref (o 0)), (1, .int x), (2, .int (nI i)), (3, .int v)]) hx hb dX4_giveTokens_39 hl (by decide) rfl (fun ls hl => ?_)
  refine lv_iload hx hb dX4_giveTokens_41 (lv_at hl 0 rfl) ?_
  refine lv_iconst (v := nI 0) hx hb dX4_giveTokens_43 (by decide) ?_
  refine lv_bipush (v := nI 99) hx hb dX4_giveTokens_44 (by decide) ?_
  refine kc_i (Cs := []) (Rs := [jO o (a, b, fa, ta, sc), sO a C, gW cy a 1 L, gW cy a 7 F, sA cy a Ar, rW cy a d]) (Bs := [jO o (a, b, fa, ta, sc), sO a C, gW cy a 1 L, gW cy a 7 F, sA cy a Ar, rW cy a d]) (Cs' := fun u_ : Unit => []) (Fs := fun u_ : Unit => [jO o (a, b, fa, ta, sc), sO a C, gW cy a 1 L, gW cy a 7 F, sA cy a Ar, rW cy a d]) hP hD hS hA [] [0, 1, 2, 3, 4, 5] [0, 1, 2, 3, 4, 5] rfl rfl (by decide) (by decide) (fun _ => rfl) (va_runS (As := [.int ((L.1 i) + v), .int (nI 0), .int (nI 99)]) (rest := []) ⟨hx, hb, hml, hown, hts⟩ (c_X4_isWithin l D cy ((L.1 i) + v) (nI 0) (nI 99) H.size) (va_cwS 3 hts gX4_giveTokens_X4_isWithin rfl rfl rfl (by decide +kernel) ⟨Nat.le_of_ble_eq_true rfl, Nat.le_of_ble_eq_true rfl⟩) (kPre_S hK hN hP hD [] (by decide) rfl) rfl rfl hl.1 rfl (lv_room (Nat.le_of_ble_eq_true rfl)) dX4_giveTokens_46 ⟨Nat.le_of_ble_eq_true rfl, Nat.le_of_ble_eq_true rfl⟩) (fun r_ u_ H locs hw hP hD hS => ?_)
  have hw : r_ = if ¬ ((L.1 i) + v) < (nI 0) ∧ ¬ (nI 99) < ((L.1 i) + v) then nI 1 else nI 0 := hw
  subst hw
  refine kv_i (y := nI 0) (if_neg hbad) ?_
  subst hQ
  exact kx_call ((vx_runS (As := [.int (nI 0)]) (rest := []) ⟨hx, hb, hml, hown, hts⟩ (x_X4_needState l hst D cy S H.size) (va_cwS 1 hts gX4_giveTokens_X4_needState rfl rfl rfl (by decide +kernel) ⟨Nat.le_of_ble_eq_true rfl, Nat.le_of_ble_eq_true rfl⟩) (kPreX_S hK hN hX hP hD hS hA [] (by decide) rfl) rfl rfl hl.1 rfl (lv_room (Nat.le_of_ble_eq_true rfl)) dX4_giveTokens_49 ⟨Nat.le_of_ble_eq_true rfl, Nat.le_of_ble_eq_true rfl⟩)) hS hA hP htb hlocks (by decide) (by decide)
abbrev rm_X4_setHere_it : Room := { frames := 7, cells := 1, slots := 6, locals := 102 }
set_option maxHeartbeats 1000000 in
set_option maxRecDepth 100000 in
theorem x_X4_setHere_it (l : Launch) (hst : l.stackTraces = false) (D : va_G) (cy : Nat → ClassId) (S : Nat × Nat × Nat) (x : Int32) (i : Int32) (y : Int32) (o : Nat → Nat) (a : Nat → Nat) (b : Nat → Nat) (fa : Nat → Nat) (ta : Nat → Nat) (sc : Nat) (C : rC) (L : rG) (F : rG) (Ar : rA) (d : Nat → Nat → Int32) (hx0 : ¬ x = 0) (hbad : ¬ (¬ i < nI 0 ∧ ¬ nI L.2.2.2.2.2 ≤ i)) (sz : Nat) : vx_Met l yX4_setHere wsX4_setHere rm_X4_setHere_it (va_Pc [.ref (o 0), .int x, .int i, .int y] (kPreX D (kT cy) S [jO o (a, b, fa, ta, sc), sO a C, gW cy a 1 L, gW cy a 7 F, sA cy a Ar, rW cy a d] sz)) kNo (kXC D [jO o (a, b, fa, ta, sc), sO a C, gW cy a 1 L, gW cy a 7 F, sA cy a Ar, rW cy a d] (va_A (bkF [jO o (a, b, fa, ta, sc), sO a C, gW cy a 1 L, gW cy a 7 F, sA cy a Ar, rW cy a d]) sz) nIO) 1 6 (va_A (bkF [jO o (a, b, fa, ta, sc), sO a C, gW cy a 1 L, gW cy a 7 F, sA cy a Ar, rW cy a d]) sz) := by
  refine kOpenX (y := yX4_setHere) (ws := wsX4_setHere) (cc := cX4_setHere) (maxL := 6) (ret := (some .int)) (av := [.ref (o 0), .int x, .int i, .int y]) (Bs := [jO o (a, b, fa, ta, sc), sO a C, gW cy a 1 L, gW cy a 7 F, sA cy a Ar, rW cy a d]) (XC := fun A => kXC D [jO o (a, b, fa, ta, sc), sO a C, gW cy a 1 L, gW cy a 7 F, sA cy a Ar, rW cy a d] A nIO) (by decide) rfl (Nat.le_of_ble_eq_true rfl) ?_
  intro p e s m args below meth c A Q ls hQ hx hb hml hlocks htb hts hown hN hX hK hP hD hS hA hl
  have hl : lv_has ls 6 [(0, .ref (o 0)), (1, .int x), (2, .int i), (3, .int y)] := hl
  suffices K9 : ∀ (H : Heap) (locs : List Loc), va_P D vwCl (bkF [jO o (a, b, fa, ta, sc), sO a C, gW cy a 1 L, gW cy a 7 F, sA cy a Ar, rW cy a d]) H → va_S A s.heap H locs → W p l e (headSpec wsX4_setHere rm_X4_setHere_it).room s m args below meth c H locs 0 0 Q (F0 m 0 ls []) from K9 _ _ hP hS
  clear hP hS
  intro H locs hP hS
  refine lv_aload_n hx hb dX4_setHere_0 rfl (lv_at hl 0 rfl) ?_
  refine va_get (D := D) (ci := 4) (v := .ref (a 0)) (C := RX4) (T := TX4) (N := 6) hx hb hts (by decide +kernel) hown hK hP 0 rfl rfl 0 (by decide) (hts (.fieldLink RX4 12 "DanceHall" "hall" "LDanceHall$State;") (by decide +kernel)) (fun _ h9 => h9) rfl dX4_setHere_1 ?_
  refine lv_iload_n hx hb dX4_setHere_4 rfl (lv_at hl 1 rfl) ?_
  refine kc_r (Cs := [sO a C]) (Rs := [jO o (a, b, fa, ta, sc), gW cy a 1 L, gW cy a 7 F, sA cy a Ar, rW cy a d]) (Bs := [jO o (a, b, fa, ta, sc), sO a C, gW cy a 1 L, gW cy a 7 F, sA cy a Ar, rW cy a d]) (Cs' := fun u_ : Unit => [sO a C]) (Fs := fun u_ : Unit => [jO o (a, b, fa, ta, sc), sO a C, gW cy a 1 L, gW cy a 7 F, sA cy a Ar, rW cy a d]) hP hD hS hA [1] [0, 2, 3, 4, 5] [0, 5, 1, 2, 3, 4] rfl rfl (by decide) (by decide) (fun _ => rfl) (va_runV (As := [.int x]) (rest := []) ⟨hx, hb, hml, hown, hts⟩ (c_X3_side_t l D cy a C x hx0 H.size) (cwV 1 hts gX4_setHere_X3_side rfl rfl rfl (by decide +kernel) ⟨Nat.le_of_ble_eq_true rfl, Nat.le_of_ble_eq_true rfl⟩) (kPre_V (ci := 3) hK hN hP hD [1] (by decide) rfl 0 rfl rfl) rfl rfl hl.1 rfl (lv_room (Nat.le_of_ble_eq_true rfl)) dX4_setHere_5 ⟨Nat.le_of_ble_eq_true rfl, Nat.le_of_ble_eq_true rfl⟩) (fun u_ H locs hw hP hD hS => ?_)
  refine lv_astore (lv' := [(4, .ref (a 1)), (0, .ref (o 0)), (1, .int x), (2, .int i), (3, .int y)]) hx hb dX4_setHere_8 hl (by decide) rfl (fun ls hl => ?_)
  refine lv_aload hx hb dX4_setHere_10 (lv_at hl 0 rfl) ?_
  refine lv_iload_n hx hb dX4_setHere_12 rfl (lv_at hl 3 rfl) ?_
  refine kc_i (Cs := [gW cy a 1 L]) (Rs := [jO o (a, b, fa, ta, sc), sO a C, gW cy a 7 F, sA cy a Ar, rW cy a d]) (Bs := [jO o (a, b, fa, ta, sc), sO a C, gW cy a 1 L, gW cy a 7 F, sA cy a Ar, rW cy a d]) (Cs' := fun u_ : Unit => [gW cy a 1 L]) (Fs := fun u_ : Unit => [jO o (a, b, fa, ta, sc), sO a C, gW cy a 1 L, gW cy a 7 F, sA cy a Ar, rW cy a d]) hP hD hS hA [2] [0, 1, 3, 4, 5] [0, 1, 5, 2, 3, 4] rfl rfl (by decide) (by decide) (fun _ => rfl) (va_runV (As := [.int i]) (rest := []) ⟨hx, hb, hml, hown, hts⟩ (c_X2_has l D cy a 1 L i H.size) (cwV 1 hts gX4_setHere_X2_has rfl rfl rfl (by decide +kernel) ⟨Nat.le_of_ble_eq_true rfl, Nat.le_of_ble_eq_true rfl⟩) (kPre_V (ci := 2) hK hN hP hD [2] (by decide) rfl 0 rfl rfl) rfl rfl hl.1 rfl (lv_room (Nat.le_of_ble_eq_true rfl)) dX4_setHere_13 ⟨Nat.le_of_ble_eq_true rfl, Nat.le_of_ble_eq_true rfl⟩) (fun r_ u_ H locs hw hP hD hS => ?_)
  have hw : r_ = if ¬ i < nI 0 ∧ ¬ nI L.2.2.2.2.2 ≤ i then nI 1 else nI 0 := hw
  subst hw
  refine kv_i (y := nI 0) (if_neg hbad) ?_
  subst hQ
  exact kx_call ((vx_runS (As := [.int (nI 0)]) (rest := []) ⟨hx, hb, hml, hown, hts⟩ (x_X4_needIndex l hst D cy S H.size) (va_cwS 1 hts gX4_setHere_X4_needIndex rfl rfl rfl (by decide +kernel) ⟨Nat.le_of_ble_eq_true rfl, Nat.le_of_ble_eq_true rfl⟩) (kPreX_S hK hN hX hP hD hS hA [] (by decide) rfl) rfl rfl hl.1 rfl (lv_room (Nat.le_of_ble_eq_true rfl)) dX4_setHere_16 ⟨Nat.le_of_ble_eq_true rfl, Nat.le_of_ble_eq_true rfl⟩)) hS hA hP htb hlocks (by decide) (by decide)
abbrev rm_X4_guest_it : Room := { frames := 7, cells := 1, slots := 6, locals := 102 }
set_option maxHeartbeats 1000000 in
set_option maxRecDepth 100000 in
theorem x_X4_guest_it (l : Launch) (hst : l.stackTraces = false) (D : va_G) (cy : Nat → ClassId) (S : Nat × Nat × Nat) (x : Int32) (i : Int32) (w : Int32) (o : Nat → Nat) (a : Nat → Nat) (b : Nat → Nat) (fa : Nat → Nat) (ta : Nat → Nat) (sc : Nat) (C : rC) (L : rG) (F : rG) (Ar : rA) (d : Nat → Nat → Int32) (hx0 : ¬ x = 0) (hbad : ¬ (¬ i < nI 0 ∧ ¬ nI L.2.2.2.2.2 ≤ i)) (sz : Nat) : vx_Met l yX4_guest wsX4_guest rm_X4_guest_it (va_Pc [.ref (o 0), .int x, .int i, .int w] (kPreX D (kT cy) S [jO o (a, b, fa, ta, sc), sO a C, gW cy a 1 L, gW cy a 7 F, sA cy a Ar, rW cy a d] sz)) kNo (kXC D [jO o (a, b, fa, ta, sc), sO a C, gW cy a 1 L, gW cy a 7 F, sA cy a Ar, rW cy a d] (va_A (bkF [jO o (a, b, fa, ta, sc), sO a C, gW cy a 1 L, gW cy a 7 F, sA cy a Ar, rW cy a d]) sz) nIO) 1 6 (va_A (bkF [jO o (a, b, fa, ta, sc), sO a C, gW cy a 1 L, gW cy a 7 F, sA cy a Ar, rW cy a d]) sz) := by
  refine kOpenX (y := yX4_guest) (ws := wsX4_guest) (cc := cX4_guest) (maxL := 4) (ret := (some .int)) (av := [.ref (o 0), .int x, .int i, .int w]) (Bs := [jO o (a, b, fa, ta, sc), sO a C, gW cy a 1 L, gW cy a 7 F, sA cy a Ar, rW cy a d]) (XC := fun A => kXC D [jO o (a, b, fa, ta, sc), sO a C, gW cy a 1 L, gW cy a 7 F, sA cy a Ar, rW cy a d] A nIO) (by decide) rfl (Nat.le_of_ble_eq_true rfl) ?_
  intro p e s m args below meth c A Q ls hQ hx hb hml hlocks htb hts hown hN hX hK hP hD hS hA hl
  have hl : lv_has ls 4 [(0, .ref (o 0)), (1, .int x), (2, .int i), (3, .int w)] := hl
  suffices K9 : ∀ (H : Heap) (locs : List Loc), va_P D vwCl (bkF [jO o (a, b, fa, ta, sc), sO a C, gW cy a 1 L, gW cy a 7 F, sA cy a Ar, rW cy a d]) H → va_S A s.heap H locs → W p l e (headSpec wsX4_guest rm_X4_guest_it).room s m args below meth c H locs 0 0 Q (F0 m 0 ls []) from K9 _ _ hP hS
  clear hP hS
  intro H locs hP hS
  refine lv_aload_n hx hb dX4_guest_0 rfl (lv_at hl 0 rfl) ?_
  refine va_get (D := D) (ci := 4) (v := .ref (a 0)) (C := RX4) (T := TX4) (N := 6) hx hb hts (by decide +kernel) hown hK hP 0 rfl rfl 0 (by decide) (hts (.fieldLink RX4 12 "DanceHall" "hall" "LDanceHall$State;") (by decide +kernel)) (fun _ h9 => h9) rfl dX4_guest_1 ?_
  refine lv_iload_n hx hb dX4_guest_4 rfl (lv_at hl 1 rfl) ?_
  refine kc_r (Cs := [sO a C]) (Rs := [jO o (a, b, fa, ta, sc), gW cy a 1 L, gW cy a 7 F, sA cy a Ar, rW cy a d]) (Bs := [jO o (a, b, fa, ta, sc), sO a C, gW cy a 1 L, gW cy a 7 F, sA cy a Ar, rW cy a d]) (Cs' := fun u_ : Unit => [sO a C]) (Fs := fun u_ : Unit => [jO o (a, b, fa, ta, sc), sO a C, gW cy a 1 L, gW cy a 7 F, sA cy a Ar, rW cy a d]) hP hD hS hA [1] [0, 2, 3, 4, 5] [0, 5, 1, 2, 3, 4] rfl rfl (by decide) (by decide) (fun _ => rfl) (va_runV (As := [.int x]) (rest := []) ⟨hx, hb, hml, hown, hts⟩ (c_X3_side_t l D cy a C x hx0 H.size) (cwV 1 hts gX4_guest_X3_side rfl rfl rfl (by decide +kernel) ⟨Nat.le_of_ble_eq_true rfl, Nat.le_of_ble_eq_true rfl⟩) (kPre_V (ci := 3) hK hN hP hD [1] (by decide) rfl 0 rfl rfl) rfl rfl hl.1 rfl (lv_room (Nat.le_of_ble_eq_true rfl)) dX4_guest_5 ⟨Nat.le_of_ble_eq_true rfl, Nat.le_of_ble_eq_true rfl⟩) (fun u_ H locs hw hP hD hS => ?_)
  refine lv_iload_n hx hb dX4_guest_8 rfl (lv_at hl 2 rfl) ?_
  refine kc_i (Cs := [gW cy a 1 L]) (Rs := [jO o (a, b, fa, ta, sc), sO a C, gW cy a 7 F, sA cy a Ar, rW cy a d]) (Bs := [jO o (a, b, fa, ta, sc), sO a C, gW cy a 1 L, gW cy a 7 F, sA cy a Ar, rW cy a d]) (Cs' := fun u_ : Unit => [gW cy a 1 L]) (Fs := fun u_ : Unit => [jO o (a, b, fa, ta, sc), sO a C, gW cy a 1 L, gW cy a 7 F, sA cy a Ar, rW cy a d]) hP hD hS hA [2] [0, 1, 3, 4, 5] [0, 1, 5, 2, 3, 4] rfl rfl (by decide) (by decide) (fun _ => rfl) (va_runV (As := [.int i]) (rest := []) ⟨hx, hb, hml, hown, hts⟩ (c_X2_has l D cy a 1 L i H.size) (cwV 1 hts gX4_guest_X2_has rfl rfl rfl (by decide +kernel) ⟨Nat.le_of_ble_eq_true rfl, Nat.le_of_ble_eq_true rfl⟩) (kPre_V (ci := 2) hK hN hP hD [2] (by decide) rfl 0 rfl rfl) rfl rfl hl.1 rfl (lv_room (Nat.le_of_ble_eq_true rfl)) dX4_guest_9 ⟨Nat.le_of_ble_eq_true rfl, Nat.le_of_ble_eq_true rfl⟩) (fun r_ u_ H locs hw hP hD hS => ?_)
  have hw : r_ = if ¬ i < nI 0 ∧ ¬ nI L.2.2.2.2.2 ≤ i then nI 1 else nI 0 := hw
  subst hw
  refine kv_i (y := nI 0) (if_neg hbad) ?_
  subst hQ
  exact kx_call ((vx_runS (As := [.int (nI 0)]) (rest := []) ⟨hx, hb, hml, hown, hts⟩ (x_X4_needIndex l hst D cy S H.size) (va_cwS 1 hts gX4_guest_X4_needIndex rfl rfl rfl (by decide +kernel) ⟨Nat.le_of_ble_eq_true rfl, Nat.le_of_ble_eq_true rfl⟩) (kPreX_S hK hN hX hP hD hS hA [] (by decide) rfl) rfl rfl hl.1 rfl (lv_room (Nat.le_of_ble_eq_true rfl)) dX4_guest_12 ⟨Nat.le_of_ble_eq_true rfl, Nat.le_of_ble_eq_true rfl⟩)) hS hA hP htb hlocks (by decide) (by decide)
abbrev rm_X4_guest_at : Room := { frames := 7, cells := 1, slots := 6, locals := 102 }
set_option maxHeartbeats 1000000 in
set_option maxRecDepth 100000 in
theorem x_X4_guest_at (l : Launch) (hst : l.stackTraces = false) (D : va_G) (cy : Nat → ClassId) (S : Nat × Nat × Nat) (x : Int32) (i : Nat) (w : Int32) (o : Nat → Nat) (a : Nat → Nat) (b : Nat → Nat) (fa : Nat → Nat) (ta : Nat → Nat) (sc : Nat) (C : rC) (L : rG) (F : rG) (Ar : rA) (d : Nat → Nat → Int32) (hx0 : ¬ x = 0) (hn : L.2.2.2.2.2 ≤ 8) (hi : i < L.2.2.2.2.2) (hbad : ¬ (¬ w < nI 0 ∧ ¬ nI 7 < w)) (sz : Nat) : vx_Met l yX4_guest wsX4_guest rm_X4_guest_at (va_Pc [.ref (o 0), .int x, .int (nI i), .int w] (kPreX D (kT cy) S [jO o (a, b, fa, ta, sc), sO a C, gW cy a 1 L, gW cy a 7 F, sA cy a Ar, rW cy a d] sz)) kNo (kXC D [jO o (a, b, fa, ta, sc), sO a C, gW cy a 1 L, gW cy a 7 F, sA cy a Ar, rW cy a d] (va_A (bkF [jO o (a, b, fa, ta, sc), sO a C, gW cy a 1 L, gW cy a 7 F, sA cy a Ar, rW cy a d]) sz) nIA) 1 6 (va_A (bkF [jO o (a, b, fa, ta, sc), sO a C, gW cy a 1 L, gW cy a 7 F, sA cy a Ar, rW cy a d]) sz) := by
  refine kOpenX (y := yX4_guest) (ws := wsX4_guest) (cc := cX4_guest) (maxL := 4) (ret := (some .int)) (av := [.ref (o 0), .int x, .int (nI i), .int w]) (Bs := [jO o (a, b, fa, ta, sc), sO a C, gW cy a 1 L, gW cy a 7 F, sA cy a Ar, rW cy a d]) (XC := fun A => kXC D [jO o (a, b, fa, ta, sc), sO a C, gW cy a 1 L, gW cy a 7 F, sA cy a Ar, rW cy a d] A nIA) (by decide) rfl (Nat.le_of_ble_eq_true rfl) ?_
  intro p e s m args below meth c A Q ls hQ hx hb hml hlocks htb hts hown hN hX hK hP hD hS hA hl
  have hl : lv_has ls 4 [(0, .ref (o 0)), (1, .int x), (2, .int (nI i)), (3, .int w)] := hl
  suffices K9 : ∀ (H : Heap) (locs : List Loc), va_P D vwCl (bkF [jO o (a, b, fa, ta, sc), sO a C, gW cy a 1 L, gW cy a 7 F, sA cy a Ar, rW cy a d]) H → va_S A s.heap H locs → W p l e (headSpec wsX4_guest rm_X4_guest_at).room s m args below meth c H locs 0 0 Q (F0 m 0 ls []) from K9 _ _ hP hS
  clear hP hS
  intro H locs hP hS
  refine lv_aload_n hx hb dX4_guest_0 rfl (lv_at hl 0 rfl) ?_
  refine va_get (D := D) (ci := 4) (v := .ref (a 0)) (C := RX4) (T := TX4) (N := 6) hx hb hts (by decide +kernel) hown hK hP 0 rfl rfl 0 (by decide) (hts (.fieldLink RX4 12 "DanceHall" "hall" "LDanceHall$State;") (by decide +kernel)) (fun _ h9 => h9) rfl dX4_guest_1 ?_
  refine lv_iload_n hx hb dX4_guest_4 rfl (lv_at hl 1 rfl) ?_
  refine kc_r (Cs := [sO a C]) (Rs := [jO o (a, b, fa, ta, sc), gW cy a 1 L, gW cy a 7 F, sA cy a Ar, rW cy a d]) (Bs := [jO o (a, b, fa, ta, sc), sO a C, gW cy a 1 L, gW cy a 7 F, sA cy a Ar, rW cy a d]) (Cs' := fun u_ : Unit => [sO a C]) (Fs := fun u_ : Unit => [jO o (a, b, fa, ta, sc), sO a C, gW cy a 1 L, gW cy a 7 F, sA cy a Ar, rW cy a d]) hP hD hS hA [1] [0, 2, 3, 4, 5] [0, 5, 1, 2, 3, 4] rfl rfl (by decide) (by decide) (fun _ => rfl) (va_runV (As := [.int x]) (rest := []) ⟨hx, hb, hml, hown, hts⟩ (c_X3_side_t l D cy a C x hx0 H.size) (cwV 1 hts gX4_guest_X3_side rfl rfl rfl (by decide +kernel) ⟨Nat.le_of_ble_eq_true rfl, Nat.le_of_ble_eq_true rfl⟩) (kPre_V (ci := 3) hK hN hP hD [1] (by decide) rfl 0 rfl rfl) rfl rfl hl.1 rfl (lv_room (Nat.le_of_ble_eq_true rfl)) dX4_guest_5 ⟨Nat.le_of_ble_eq_true rfl, Nat.le_of_ble_eq_true rfl⟩) (fun u_ H locs hw hP hD hS => ?_)
  refine lv_iload_n hx hb dX4_guest_8 rfl (lv_at hl 2 rfl) ?_
  refine kc_i (Cs := [gW cy a 1 L]) (Rs := [jO o (a, b, fa, ta, sc), sO a C, gW cy a 7 F, sA cy a Ar, rW cy a d]) (Bs := [jO o (a, b, fa, ta, sc), sO a C, gW cy a 1 L, gW cy a 7 F, sA cy a Ar, rW cy a d]) (Cs' := fun u_ : Unit => [gW cy a 1 L]) (Fs := fun u_ : Unit => [jO o (a, b, fa, ta, sc), sO a C, gW cy a 1 L, gW cy a 7 F, sA cy a Ar, rW cy a d]) hP hD hS hA [2] [0, 1, 3, 4, 5] [0, 1, 5, 2, 3, 4] rfl rfl (by decide) (by decide) (fun _ => rfl) (va_runV (As := [.int (nI i)]) (rest := []) ⟨hx, hb, hml, hown, hts⟩ (c_X2_has l D cy a 1 L (nI i) H.size) (cwV 1 hts gX4_guest_X2_has rfl rfl rfl (by decide +kernel) ⟨Nat.le_of_ble_eq_true rfl, Nat.le_of_ble_eq_true rfl⟩) (kPre_V (ci := 2) hK hN hP hD [2] (by decide) rfl 0 rfl rfl) rfl rfl hl.1 rfl (lv_room (Nat.le_of_ble_eq_true rfl)) dX4_guest_9 ⟨Nat.le_of_ble_eq_true rfl, Nat.le_of_ble_eq_true rfl⟩) (fun r_ u_ H locs hw hP hD hS => ?_)
  have hw : r_ = if ¬ (nI i) < nI 0 ∧ ¬ nI L.2.2.2.2.2 ≤ (nI i) then nI 1 else nI 0 := hw
  subst hw
  refine kv_i (y := nI 1) (if_pos (khas (by omega) (by omega))) ?_
  refine kc_v (Cs := []) (Rs := [jO o (a, b, fa, ta, sc), sO a C, gW cy a 1 L, gW cy a 7 F, sA cy a Ar, rW cy a d]) (Bs := [jO o (a, b, fa, ta, sc), sO a C, gW cy a 1 L, gW cy a 7 F, sA cy a Ar, rW cy a d]) (Cs' := fun u_ : Unit => []) (Fs := fun u_ : Unit => [jO o (a, b, fa, ta, sc), sO a C, gW cy a 1 L, gW cy a 7 F, sA cy a Ar, rW cy a d]) hP hD hS hA [] [0, 1, 2, 3, 4, 5] [0, 1, 2, 3, 4, 5] rfl rfl (by decide) (by decide) (fun _ => rfl) (va_runS (As := [.int (nI 1)]) (rest := []) ⟨hx, hb, hml, hown, hts⟩ (c_X4_needIndex_y l D cy (nI 1) (by first | assumption | omega | decide) H.size) (va_cwS 1 hts gX4_guest_X4_needIndex rfl rfl rfl (by decide +kernel) ⟨Nat.le_of_ble_eq_true rfl, Nat.le_of_ble_eq_true rfl⟩) (kPre_S hK hN hP hD [] (by decide) rfl) rfl rfl hl.1 rfl (lv_room (Nat.le_of_ble_eq_true rfl)) dX4_guest_12 ⟨Nat.le_of_ble_eq_true rfl, Nat.le_of_ble_eq_true rfl⟩) (fun u_ H locs hw hP hD hS => ?_)
  refine lv_iload_n hx hb dX4_guest_15 rfl (lv_at hl 3 rfl) ?_
  refine lv_iconst (v := nI 0) hx hb dX4_guest_16 (by decide) ?_
  refine lv_bipush (v := nI 7) hx hb dX4_guest_17 (by decide) ?_
  refine kc_i (Cs := []) (Rs := [jO o (a, b, fa, ta, sc), sO a C, gW cy a 1 L, gW cy a 7 F, sA cy a Ar, rW cy a d]) (Bs := [jO o (a, b, fa, ta, sc), sO a C, gW cy a 1 L, gW cy a 7 F, sA cy a Ar, rW cy a d]) (Cs' := fun u_ : Unit => []) (Fs := fun u_ : Unit => [jO o (a, b, fa, ta, sc), sO a C, gW cy a 1 L, gW cy a 7 F, sA cy a Ar, rW cy a d]) hP hD hS hA [] [0, 1, 2, 3, 4, 5] [0, 1, 2, 3, 4, 5] rfl rfl (by decide) (by decide) (fun _ => rfl) (va_runS (As := [.int w, .int (nI 0), .int (nI 7)]) (rest := []) ⟨hx, hb, hml, hown, hts⟩ (c_X4_isWithin l D cy w (nI 0) (nI 7) H.size) (va_cwS 3 hts gX4_guest_X4_isWithin rfl rfl rfl (by decide +kernel) ⟨Nat.le_of_ble_eq_true rfl, Nat.le_of_ble_eq_true rfl⟩) (kPre_S hK hN hP hD [] (by decide) rfl) rfl rfl hl.1 rfl (lv_room (Nat.le_of_ble_eq_true rfl)) dX4_guest_19 ⟨Nat.le_of_ble_eq_true rfl, Nat.le_of_ble_eq_true rfl⟩) (fun r_ u_ H locs hw hP hD hS => ?_)
  have hw : r_ = if ¬ w < (nI 0) ∧ ¬ (nI 7) < w then nI 1 else nI 0 := hw
  subst hw
  refine kv_i (y := nI 0) (if_neg hbad) ?_
  subst hQ
  exact kx_call ((vx_runS (As := [.int (nI 0)]) (rest := []) ⟨hx, hb, hml, hown, hts⟩ (x_X4_needArgument l hst D cy S H.size) (va_cwS 1 hts gX4_guest_X4_needArgument rfl rfl rfl (by decide +kernel) ⟨Nat.le_of_ble_eq_true rfl, Nat.le_of_ble_eq_true rfl⟩) (kPreX_S hK hN hX hP hD hS hA [] (by decide) rfl) rfl rfl hl.1 rfl (lv_room (Nat.le_of_ble_eq_true rfl)) dX4_guest_22 ⟨Nat.le_of_ble_eq_true rfl, Nat.le_of_ble_eq_true rfl⟩)) hS hA hP htb hlocks (by decide) (by decide)
abbrev rm_X4_addGuest_sf : Room := { frames := 7, cells := 1, slots := 6, locals := 102 }
set_option maxHeartbeats 1000000 in
set_option maxRecDepth 100000 in
theorem x_X4_addGuest_sf (l : Launch) (hst : l.stackTraces = false) (D : va_G) (cy : Nat → ClassId) (S : Nat × Nat × Nat) (x : Int32) (tk : Nat) (z : Nat) (sh : Int32) (o : Nat → Nat) (a : Nat → Nat) (b : Nat → Nat) (fa : Nat → Nat) (ta : Nat → Nat) (sc : Nat) (C : rC) (L : rG) (F : rG) (Ar : rA) (d : Nat → Nat → Int32) (hx0 : x = 0) (htk : tk ≤ 99) (hz1 : 1 ≤ z) (hz : z ≤ 9) (hn : F.2.2.2.2.2 = 8) (sz : Nat) : vx_Met l yX4_addGuest wsX4_addGuest rm_X4_addGuest_sf (va_Pc [.ref (o 0), .int x, .int (nI tk), .int (nI z), .int sh] (kPreX D (kT cy) S [jO o (a, b, fa, ta, sc), sO a C, gW cy a 1 L, gW cy a 7 F, sA cy a Ar, rW cy a d] sz)) kNo (kXC D [jO o (a, b, fa, ta, sc), sO a C, gW cy a 1 L, gW cy a 7 F, sA cy a Ar, rW cy a d] (va_A (bkF [jO o (a, b, fa, ta, sc), sO a C, gW cy a 1 L, gW cy a 7 F, sA cy a Ar, rW cy a d]) sz) nIS) 1 6 (va_A (bkF [jO o (a, b, fa, ta, sc), sO a C, gW cy a 1 L, gW cy a 7 F, sA cy a Ar, rW cy a d]) sz) := by
  refine kOpenX (y := yX4_addGuest) (ws := wsX4_addGuest) (cc := cX4_addGuest) (maxL := 5) (ret := (some .int)) (av := [.ref (o 0), .int x, .int (nI tk), .int (nI z), .int sh]) (Bs := [jO o (a, b, fa, ta, sc), sO a C, gW cy a 1 L, gW cy a 7 F, sA cy a Ar, rW cy a d]) (XC := fun A => kXC D [jO o (a, b, fa, ta, sc), sO a C, gW cy a 1 L, gW cy a 7 F, sA cy a Ar, rW cy a d] A nIS) (by decide) rfl (Nat.le_of_ble_eq_true rfl) ?_
  intro p e s m args below meth c A Q ls hQ hx hb hml hlocks htb hts hown hN hX hK hP hD hS hA hl
  have hl : lv_has ls 5 [(0, .ref (o 0)), (1, .int x), (2, .int (nI tk)), (3, .int (nI z)), (4, .int sh)] := hl
  suffices K9 : ∀ (H : Heap) (locs : List Loc), va_P D vwCl (bkF [jO o (a, b, fa, ta, sc), sO a C, gW cy a 1 L, gW cy a 7 F, sA cy a Ar, rW cy a d]) H → va_S A s.heap H locs → W p l e (headSpec wsX4_addGuest rm_X4_addGuest_sf).room s m args below meth c H locs 0 0 Q (F0 m 0 ls []) from K9 _ _ hP hS
  clear hP hS
  intro H locs hP hS
  refine lv_iload_n hx hb dX4_addGuest_0 rfl (lv_at hl 2 rfl) ?_
  refine lv_iconst (v := nI 0) hx hb dX4_addGuest_1 (by decide) ?_
  refine lv_bipush (v := nI 99) hx hb dX4_addGuest_2 (by decide) ?_
  refine kc_i (Cs := []) (Rs := [jO o (a, b, fa, ta, sc), sO a C, gW cy a 1 L, gW cy a 7 F, sA cy a Ar, rW cy a d]) (Bs := [jO o (a, b, fa, ta, sc), sO a C, gW cy a 1 L, gW cy a 7 F, sA cy a Ar, rW cy a d]) (Cs' := fun u_ : Unit => []) (Fs := fun u_ : Unit => [jO o (a, b, fa, ta, sc), sO a C, gW cy a 1 L, gW cy a 7 F, sA cy a Ar, rW cy a d]) hP hD hS hA [] [0, 1, 2, 3, 4, 5] [0, 1, 2, 3, 4, 5] rfl rfl (by decide) (by decide) (fun _ => rfl) (va_runS (As := [.int (nI tk), .int (nI 0), .int (nI 99)]) (rest := []) ⟨hx, hb, hml, hown, hts⟩ (c_X4_isWithin l D cy (nI tk) (nI 0) (nI 99) H.size) (va_cwS 3 hts gX4_addGuest_X4_isWithin rfl rfl rfl (by decide +kernel) ⟨Nat.le_of_ble_eq_true rfl, Nat.le_of_ble_eq_true rfl⟩) (kPre_S hK hN hP hD [] (by decide) rfl) rfl rfl hl.1 rfl (lv_room (Nat.le_of_ble_eq_true rfl)) dX4_addGuest_4 ⟨Nat.le_of_ble_eq_true rfl, Nat.le_of_ble_eq_true rfl⟩) (fun r_ u_ H locs hw hP hD hS => ?_)
  have hw : r_ = if ¬ (nI tk) < (nI 0) ∧ ¬ (nI 99) < (nI tk) then nI 1 else nI 0 := hw
  subst hw
  refine kv_i (y := nI 1) (if_pos (kwin (by omega) (by omega) (by decide))) ?_
  refine lv_if_eq (tgt := 24) hx hb dX4_addGuest_7 (by decide) (fun h => absurd h (by decide)) (fun _ => ?_)
  refine lv_iload_n hx hb dX4_addGuest_10 rfl (lv_at hl 3 rfl) ?_
  refine lv_iconst (v := nI 1) hx hb dX4_addGuest_11 (by decide) ?_
  refine lv_bipush (v := nI 9) hx hb dX4_addGuest_12 (by decide) ?_
  refine kc_i (Cs := []) (Rs := [jO o (a, b, fa, ta, sc), sO a C, gW cy a 1 L, gW cy a 7 F, sA cy a Ar, rW cy a d]) (Bs := [jO o (a, b, fa, ta, sc), sO a C, gW cy a 1 L, gW cy a 7 F, sA cy a Ar, rW cy a d]) (Cs' := fun u_ : Unit => []) (Fs := fun u_ : Unit => [jO o (a, b, fa, ta, sc), sO a C, gW cy a 1 L, gW cy a 7 F, sA cy a Ar, rW cy a d]) hP hD hS hA [] [0, 1, 2, 3, 4, 5] [0, 1, 2, 3, 4, 5] rfl rfl (by decide) (by decide) (fun _ => rfl) (va_runS (As := [.int (nI z), .int (nI 1), .int (nI 9)]) (rest := []) ⟨hx, hb, hml, hown, hts⟩ (c_X4_isWithin l D cy (nI z) (nI 1) (nI 9) H.size) (va_cwS 3 hts gX4_addGuest_X4_isWithin rfl rfl rfl (by decide +kernel) ⟨Nat.le_of_ble_eq_true rfl, Nat.le_of_ble_eq_true rfl⟩) (kPre_S hK hN hP hD [] (by decide) rfl) rfl rfl hl.1 rfl (lv_room (Nat.le_of_ble_eq_true rfl)) dX4_addGuest_14 ⟨Nat.le_of_ble_eq_true rfl, Nat.le_of_ble_eq_true rfl⟩) (fun r_ u_ H locs hw hP hD hS => ?_)
  have hw : r_ = if ¬ (nI z) < (nI 1) ∧ ¬ (nI 9) < (nI z) then nI 1 else nI 0 := hw
  subst hw
  refine kv_i (y := nI 1) (if_pos (kwin (by omega) (by omega) (by decide))) ?_
  refine lv_if_eq (tgt := 24) hx hb dX4_addGuest_17 (by decide) (fun h => absurd h (by decide)) (fun _ => ?_)
  refine lv_iconst (v := nI 1) hx hb dX4_addGuest_20 (by decide) ?_
  refine lv_goto (tgt := 25) hx hb dX4_addGuest_21 (by decide) ?_
  refine kc_v (Cs := []) (Rs := [jO o (a, b, fa, ta, sc), sO a C, gW cy a 1 L, gW cy a 7 F, sA cy a Ar, rW cy a d]) (Bs := [jO o (a, b, fa, ta, sc), sO a C, gW cy a 1 L, gW cy a 7 F, sA cy a Ar, rW cy a d]) (Cs' := fun u_ : Unit => []) (Fs := fun u_ : Unit => [jO o (a, b, fa, ta, sc), sO a C, gW cy a 1 L, gW cy a 7 F, sA cy a Ar, rW cy a d]) hP hD hS hA [] [0, 1, 2, 3, 4, 5] [0, 1, 2, 3, 4, 5] rfl rfl (by decide) (by decide) (fun _ => rfl) (va_runS (As := [.int (nI 1)]) (rest := []) ⟨hx, hb, hml, hown, hts⟩ (c_X4_needArgument_y l D cy (nI 1) (by first | assumption | omega | decide) H.size) (va_cwS 1 hts gX4_addGuest_X4_needArgument rfl rfl rfl (by decide +kernel) ⟨Nat.le_of_ble_eq_true rfl, Nat.le_of_ble_eq_true rfl⟩) (kPre_S hK hN hP hD [] (by decide) rfl) rfl rfl hl.1 rfl (lv_room (Nat.le_of_ble_eq_true rfl)) dX4_addGuest_25 ⟨Nat.le_of_ble_eq_true rfl, Nat.le_of_ble_eq_true rfl⟩) (fun u_ H locs hw hP hD hS => ?_)
  refine lv_aload_n hx hb dX4_addGuest_28 rfl (lv_at hl 0 rfl) ?_
  refine va_get (D := D) (ci := 4) (v := .ref (a 0)) (C := RX4) (T := TX4) (N := 6) hx hb hts (by decide +kernel) hown hK hP 0 rfl rfl 0 (by decide) (hts (.fieldLink RX4 12 "DanceHall" "hall" "LDanceHall$State;") (by decide +kernel)) (fun _ h9 => h9) rfl dX4_addGuest_29 ?_
  refine lv_iload_n hx hb dX4_addGuest_32 rfl (lv_at hl 1 rfl) ?_
  refine kc_r (Cs := [sO a C]) (Rs := [jO o (a, b, fa, ta, sc), gW cy a 1 L, gW cy a 7 F, sA cy a Ar, rW cy a d]) (Bs := [jO o (a, b, fa, ta, sc), sO a C, gW cy a 1 L, gW cy a 7 F, sA cy a Ar, rW cy a d]) (Cs' := fun u_ : Unit => [sO a C]) (Fs := fun u_ : Unit => [jO o (a, b, fa, ta, sc), sO a C, gW cy a 1 L, gW cy a 7 F, sA cy a Ar, rW cy a d]) hP hD hS hA [1] [0, 2, 3, 4, 5] [0, 5, 1, 2, 3, 4] rfl rfl (by decide) (by decide) (fun _ => rfl) (va_runV (As := [.int x]) (rest := []) ⟨hx, hb, hml, hown, hts⟩ (c_X3_side_f l D cy a C x hx0 H.size) (cwV 1 hts gX4_addGuest_X3_side rfl rfl rfl (by decide +kernel) ⟨Nat.le_of_ble_eq_true rfl, Nat.le_of_ble_eq_true rfl⟩) (kPre_V (ci := 3) hK hN hP hD [1] (by decide) rfl 0 rfl rfl) rfl rfl hl.1 rfl (lv_room (Nat.le_of_ble_eq_true rfl)) dX4_addGuest_33 ⟨Nat.le_of_ble_eq_true rfl, Nat.le_of_ble_eq_true rfl⟩) (fun u_ H locs hw hP hD hS => ?_)
  refine kc_i (Cs := [gW cy a 7 F]) (Rs := [jO o (a, b, fa, ta, sc), sO a C, gW cy a 1 L, sA cy a Ar, rW cy a d]) (Bs := [jO o (a, b, fa, ta, sc), sO a C, gW cy a 1 L, gW cy a 7 F, sA cy a Ar, rW cy a d]) (Cs' := fun u_ : Unit => [gW cy a 7 F]) (Fs := fun u_ : Unit => [jO o (a, b, fa, ta, sc), sO a C, gW cy a 1 L, gW cy a 7 F, sA cy a Ar, rW cy a d]) hP hD hS hA [3] [0, 1, 2, 4, 5] [0, 1, 2, 5, 3, 4] rfl rfl (by decide) (by decide) (fun _ => rfl) (va_runV (As := []) (rest := []) ⟨hx, hb, hml, hown, hts⟩ (c_X2_isFull l D cy a 7 F (by omega) H.size) (cwV 0 hts gX4_addGuest_X2_isFull rfl rfl rfl (by decide +kernel) ⟨Nat.le_of_ble_eq_true rfl, Nat.le_of_ble_eq_true rfl⟩) (kPre_V (ci := 2) hK hN hP hD [3] (by decide) rfl 0 rfl rfl) rfl rfl hl.1 rfl (lv_room (Nat.le_of_ble_eq_true rfl)) dX4_addGuest_36 ⟨Nat.le_of_ble_eq_true rfl, Nat.le_of_ble_eq_true rfl⟩) (fun r_ u_ H locs hw hP hD hS => ?_)
  have hw : r_ = if 8 ≤ F.2.2.2.2.2 then nI 1 else nI 0 := hw
  subst hw
  refine kv_i (y := nI 1) (if_pos (by omega)) ?_
  refine lv_if_ne (tgt := 46) hx hb dX4_addGuest_39 (by decide) (fun _ => ?_) (fun h => absurd h (by decide))
  refine lv_iconst (v := nI 0) hx hb dX4_addGuest_46 (by decide) ?_
  subst hQ
  exact kx_call ((vx_runS (As := [.int (nI 0)]) (rest := []) ⟨hx, hb, hml, hown, hts⟩ (x_X4_needState l hst D cy S H.size) (va_cwS 1 hts gX4_addGuest_X4_needState rfl rfl rfl (by decide +kernel) ⟨Nat.le_of_ble_eq_true rfl, Nat.le_of_ble_eq_true rfl⟩) (kPreX_S hK hN hX hP hD hS hA [] (by decide) rfl) rfl rfl hl.1 rfl (lv_room (Nat.le_of_ble_eq_true rfl)) dX4_addGuest_47 ⟨Nat.le_of_ble_eq_true rfl, Nat.le_of_ble_eq_true rfl⟩)) hS hA hP htb hlocks (by decide) (by decide)
abbrev rm_X4_giveTokens_if : Room := { frames := 7, cells := 1, slots := 6, locals := 102 }
set_option maxHeartbeats 1000000 in
set_option maxRecDepth 100000 in
theorem x_X4_giveTokens_if (l : Launch) (hst : l.stackTraces = false) (D : va_G) (cy : Nat → ClassId) (S : Nat × Nat × Nat) (x : Int32) (i : Int32) (v : Int32) (o : Nat → Nat) (a : Nat → Nat) (b : Nat → Nat) (fa : Nat → Nat) (ta : Nat → Nat) (sc : Nat) (C : rC) (L : rG) (F : rG) (Ar : rA) (d : Nat → Nat → Int32) (hx0 : x = 0) (hbad : ¬ (¬ i < nI 0 ∧ ¬ nI F.2.2.2.2.2 ≤ i)) (sz : Nat) : vx_Met l yX4_giveTokens wsX4_giveTokens rm_X4_giveTokens_if (va_Pc [.ref (o 0), .int x, .int i, .int v] (kPreX D (kT cy) S [jO o (a, b, fa, ta, sc), sO a C, gW cy a 1 L, gW cy a 7 F, sA cy a Ar, rW cy a d] sz)) kNo (kXC D [jO o (a, b, fa, ta, sc), sO a C, gW cy a 1 L, gW cy a 7 F, sA cy a Ar, rW cy a d] (va_A (bkF [jO o (a, b, fa, ta, sc), sO a C, gW cy a 1 L, gW cy a 7 F, sA cy a Ar, rW cy a d]) sz) nIO) 1 6 (va_A (bkF [jO o (a, b, fa, ta, sc), sO a C, gW cy a 1 L, gW cy a 7 F, sA cy a Ar, rW cy a d]) sz) := by
  refine kOpenX (y := yX4_giveTokens) (ws := wsX4_giveTokens) (cc := cX4_giveTokens) (maxL := 6) (ret := (some .int)) (av := [.ref (o 0), .int x, .int i, .int v]) (Bs := [jO o (a, b, fa, ta, sc), sO a C, gW cy a 1 L, gW cy a 7 F, sA cy a Ar, rW cy a d]) (XC := fun A => kXC D [jO o (a, b, fa, ta, sc), sO a C, gW cy a 1 L, gW cy a 7 F, sA cy a Ar, rW cy a d] A nIO) (by decide) rfl (Nat.le_of_ble_eq_true rfl) ?_
  intro p e s m args below meth c A Q ls hQ hx hb hml hlocks htb hts hown hN hX hK hP hD hS hA hl
  have hl : lv_has ls 6 [(0, .ref (o 0)), (1, .int x), (2, .int i), (3, .int v)] := hl
  suffices K9 : ∀ (H : Heap) (locs : List Loc), va_P D vwCl (bkF [jO o (a, b, fa, ta, sc), sO a C, gW cy a 1 L, gW cy a 7 F, sA cy a Ar, rW cy a d]) H → va_S A s.heap H locs → W p l e (headSpec wsX4_giveTokens rm_X4_giveTokens_if).room s m args below meth c H locs 0 0 Q (F0 m 0 ls []) from K9 _ _ hP hS
  clear hP hS
  intro H locs hP hS
  refine lv_aload_n hx hb dX4_giveTokens_0 rfl (lv_at hl 0 rfl) ?_
  refine va_get (D := D) (ci := 4) (v := .ref (a 0)) (C := RX4) (T := TX4) (N := 6) hx hb hts (by decide +kernel) hown hK hP 0 rfl rfl 0 (by decide) (hts (.fieldLink RX4 12 "DanceHall" "hall" "LDanceHall$State;") (by decide +kernel)) (fun _ h9 => h9) rfl dX4_giveTokens_1 ?_
  refine lv_iload_n hx hb dX4_giveTokens_4 rfl (lv_at hl 1 rfl) ?_
  refine kc_r (Cs := [sO a C]) (Rs := [jO o (a, b, fa, ta, sc), gW cy a 1 L, gW cy a 7 F, sA cy a Ar, rW cy a d]) (Bs := [jO o (a, b, fa, ta, sc), sO a C, gW cy a 1 L, gW cy a 7 F, sA cy a Ar, rW cy a d]) (Cs' := fun u_ : Unit => [sO a C]) (Fs := fun u_ : Unit => [jO o (a, b, fa, ta, sc), sO a C, gW cy a 1 L, gW cy a 7 F, sA cy a Ar, rW cy a d]) hP hD hS hA [1] [0, 2, 3, 4, 5] [0, 5, 1, 2, 3, 4] rfl rfl (by decide) (by decide) (fun _ => rfl) (va_runV (As := [.int x]) (rest := []) ⟨hx, hb, hml, hown, hts⟩ (c_X3_side_f l D cy a C x hx0 H.size) (cwV 1 hts gX4_giveTokens_X3_side rfl rfl rfl (by decide +kernel) ⟨Nat.le_of_ble_eq_true rfl, Nat.le_of_ble_eq_true rfl⟩) (kPre_V (ci := 3) hK hN hP hD [1] (by decide) rfl 0 rfl rfl) rfl rfl hl.1 rfl (lv_room (Nat.le_of_ble_eq_true rfl)) dX4_giveTokens_5 ⟨Nat.le_of_ble_eq_true rfl, Nat.le_of_ble_eq_true rfl⟩) (fun u_ H locs hw hP hD hS => ?_)
  refine lv_astore (lv' := [(4, .ref (a 7)), (0, .ref (o 0)), (1, .int x), (2, .int i), (3, .int v)]) hx hb dX4_giveTokens_8 hl (by decide) rfl (fun ls hl => ?_)
  refine lv_aload hx hb dX4_giveTokens_10 (lv_at hl 0 rfl) ?_
  refine lv_iload_n hx hb dX4_giveTokens_12 rfl (lv_at hl 3 rfl) ?_
  refine kc_i (Cs := [gW cy a 7 F]) (Rs := [jO o (a, b, fa, ta, sc), sO a C, gW cy a 1 L, sA cy a Ar, rW cy a d]) (Bs := [jO o (a, b, fa, ta, sc), sO a C, gW cy a 1 L, gW cy a 7 F, sA cy a Ar, rW cy a d]) (Cs' := fun u_ : Unit => [gW cy a 7 F]) (Fs := fun u_ : Unit => [jO o (a, b, fa, ta, sc), sO a C, gW cy a 1 L, gW cy a 7 F, sA cy a Ar, rW cy a d]) hP hD hS hA [3] [0, 1, 2, 4, 5] [0, 1, 2, 5, 3, 4] rfl rfl (by decide) (by decide) (fun _ => rfl) (va_runV (As := [.int i]) (rest := []) ⟨hx, hb, hml, hown, hts⟩ (c_X2_has l D cy a 7 F i H.size) (cwV 1 hts gX4_giveTokens_X2_has rfl rfl rfl (by decide +kernel) ⟨Nat.le_of_ble_eq_true rfl, Nat.le_of_ble_eq_true rfl⟩) (kPre_V (ci := 2) hK hN hP hD [3] (by decide) rfl 0 rfl rfl) rfl rfl hl.1 rfl (lv_room (Nat.le_of_ble_eq_true rfl)) dX4_giveTokens_13 ⟨Nat.le_of_ble_eq_true rfl, Nat.le_of_ble_eq_true rfl⟩) (fun r_ u_ H locs hw hP hD hS => ?_)
  have hw : r_ = if ¬ i < nI 0 ∧ ¬ nI F.2.2.2.2.2 ≤ i then nI 1 else nI 0 := hw
  subst hw
  refine kv_i (y := nI 0) (if_neg hbad) ?_
  subst hQ
  exact kx_call ((vx_runS (As := [.int (nI 0)]) (rest := []) ⟨hx, hb, hml, hown, hts⟩ (x_X4_needIndex l hst D cy S H.size) (va_cwS 1 hts gX4_giveTokens_X4_needIndex rfl rfl rfl (by decide +kernel) ⟨Nat.le_of_ble_eq_true rfl, Nat.le_of_ble_eq_true rfl⟩) (kPreX_S hK hN hX hP hD hS hA [] (by decide) rfl) rfl rfl hl.1 rfl (lv_room (Nat.le_of_ble_eq_true rfl)) dX4_giveTokens_16 ⟨Nat.le_of_ble_eq_true rfl, Nat.le_of_ble_eq_true rfl⟩)) hS hA hP htb hlocks (by decide) (by decide)
abbrev rm_X4_giveTokens_af : Room := { frames := 7, cells := 1, slots := 6, locals := 102 }
set_option maxHeartbeats 1000000 in
set_option maxRecDepth 100000 in
theorem x_X4_giveTokens_af (l : Launch) (hst : l.stackTraces = false) (D : va_G) (cy : Nat → ClassId) (S : Nat × Nat × Nat) (x : Int32) (i : Nat) (v : Int32) (o : Nat → Nat) (a : Nat → Nat) (b : Nat → Nat) (fa : Nat → Nat) (ta : Nat → Nat) (sc : Nat) (C : rC) (L : rG) (F : rG) (Ar : rA) (d : Nat → Nat → Int32) (hx0 : x = 0) (hn : F.2.2.2.2.2 ≤ 8) (hi : i < F.2.2.2.2.2) (hbad : ¬ (¬ v < (-99) ∧ ¬ nI 99 < v)) (sz : Nat) : vx_Met l yX4_giveTokens wsX4_giveTokens rm_X4_giveTokens_af (va_Pc [.ref (o 0), .int x, .int (nI i), .int v] (kPreX D (kT cy) S [jO o (a, b, fa, ta, sc), sO a C, gW cy a 1 L, gW cy a 7 F, sA cy a Ar, rW cy a d] sz)) kNo (kXC D [jO o (a, b, fa, ta, sc), sO a C, gW cy a 1 L, gW cy a 7 F, sA cy a Ar, rW cy a d] (va_A (bkF [jO o (a, b, fa, ta, sc), sO a C, gW cy a 1 L, gW cy a 7 F, sA cy a Ar, rW cy a d]) sz) nIA) 1 6 (va_A (bkF [jO o (a, b, fa, ta, sc), sO a C, gW cy a 1 L, gW cy a 7 F, sA cy a Ar, rW cy a d]) sz) := by
  refine kOpenX (y := yX4_giveTokens) (ws := wsX4_giveTokens) (cc := cX4_giveTokens) (maxL := 6) (ret := (some .int)) (av := [.ref (o 0), .int x, .int (nI i), .int v]) (Bs := [jO o (a, b, fa, ta, sc), sO a C, gW cy a 1 L, gW cy a 7 F, sA cy a Ar, rW cy a d]) (XC := fun A => kXC D [jO o (a, b, fa, ta, sc), sO a C, gW cy a 1 L, gW cy a 7 F, sA cy a Ar, rW cy a d] A nIA) (by decide) rfl (Nat.le_of_ble_eq_true rfl) ?_
  intro p e s m args below meth c A Q ls hQ hx hb hml hlocks htb hts hown hN hX hK hP hD hS hA hl
  have hl : lv_has ls 6 [(0, .ref (o 0)), (1, .int x), (2, .int (nI i)), (3, .int v)] := hl
  suffices K9 : ∀ (H : Heap) (locs : List Loc), va_P D vwCl (bkF [jO o (a, b, fa, ta, sc), sO a C, gW cy a 1 L, gW cy a 7 F, sA cy a Ar, rW cy a d]) H → va_S A s.heap H locs → W p l e (headSpec wsX4_giveTokens rm_X4_giveTokens_af).room s m args below meth c H locs 0 0 Q (F0 m 0 ls []) from K9 _ _ hP hS
  clear hP hS
  intro H locs hP hS
  refine lv_aload_n hx hb dX4_giveTokens_0 rfl (lv_at hl 0 rfl) ?_
  refine va_get (D := D) (ci := 4) (v := .ref (a 0)) (C := RX4) (T := TX4) (N := 6) hx hb hts (by decide +kernel) hown hK hP 0 rfl rfl 0 (by decide) (hts (.fieldLink RX4 12 "DanceHall" "hall" "LDanceHall$State;") (by decide +kernel)) (fun _ h9 => h9) rfl dX4_giveTokens_1 ?_
  refine lv_iload_n hx hb dX4_giveTokens_4 rfl (lv_at hl 1 rfl) ?_
  refine kc_r (Cs := [sO a C]) (Rs := [jO o (a, b, fa, ta, sc), gW cy a 1 L, gW cy a 7 F, sA cy a Ar, rW cy a d]) (Bs := [jO o (a, b, fa, ta, sc), sO a C, gW cy a 1 L, gW cy a 7 F, sA cy a Ar, rW cy a d]) (Cs' := fun u_ : Unit => [sO a C]) (Fs := fun u_ : Unit => [jO o (a, b, fa, ta, sc), sO a C, gW cy a 1 L, gW cy a 7 F, sA cy a Ar, rW cy a d]) hP hD hS hA [1] [0, 2, 3, 4, 5] [0, 5, 1, 2, 3, 4] rfl rfl (by decide) (by decide) (fun _ => rfl) (va_runV (As := [.int x]) (rest := []) ⟨hx, hb, hml, hown, hts⟩ (c_X3_side_f l D cy a C x hx0 H.size) (cwV 1 hts gX4_giveTokens_X3_side rfl rfl rfl (by decide +kernel) ⟨Nat.le_of_ble_eq_true rfl, Nat.le_of_ble_eq_true rfl⟩) (kPre_V (ci := 3) hK hN hP hD [1] (by decide) rfl 0 rfl rfl) rfl rfl hl.1 rfl (lv_room (Nat.le_of_ble_eq_true rfl)) dX4_giveTokens_5 ⟨Nat.le_of_ble_eq_true rfl, Nat.le_of_ble_eq_true rfl⟩) (fun u_ H locs hw hP hD hS => ?_)
  refine lv_astore (lv' := [(4, .ref (a 7)), (0, .ref (o 0)), (1, .int x), (2, .int (nI i)), (3, .int v)]) hx hb dX4_giveTokens_8 hl (by decide) rfl (fun ls hl => ?_)
  refine lv_aload hx hb dX4_giveTokens_10 (lv_at hl 0 rfl) ?_
  refine lv_iload_n hx hb dX4_giveTokens_12 rfl (lv_at hl 3 rfl) ?_
  refine kc_i (Cs := [gW cy a 7 F]) (Rs := [jO o (a, b, fa, ta, sc), sO a C, gW cy a 1 L, sA cy a Ar, rW cy a d]) (Bs := [jO o (a, b, fa, ta, sc), sO a C, gW cy a 1 L, gW cy a 7 F, sA cy a Ar, rW cy a d]) (Cs' := fun u_ : Unit => [gW cy a 7 F]) (Fs := fun u_ : Unit => [jO o (a, b, fa, ta, sc), sO a C, gW cy a 1 L, gW cy a 7 F, sA cy a Ar, rW cy a d]) hP hD hS hA [3] [0, 1, 2, 4, 5] [0, 1, 2, 5, 3, 4] rfl rfl (by decide) (by decide) (fun _ => rfl) (va_runV (As := [.int (nI i)]) (rest := []) ⟨hx, hb, hml, hown, hts⟩ (c_X2_has l D cy a 7 F (nI i) H.size) (cwV 1 hts gX4_giveTokens_X2_has rfl rfl rfl (by decide +kernel) ⟨Nat.le_of_ble_eq_true rfl, Nat.le_of_ble_eq_true rfl⟩) (kPre_V (ci := 2) hK hN hP hD [3] (by decide) rfl 0 rfl rfl) rfl rfl hl.1 rfl (lv_room (Nat.le_of_ble_eq_true rfl)) dX4_giveTokens_13 ⟨Nat.le_of_ble_eq_true rfl, Nat.le_of_ble_eq_true rfl⟩) (fun r_ u_ H locs hw hP hD hS => ?_)
  have hw : r_ = if ¬ (nI i) < nI 0 ∧ ¬ nI F.2.2.2.2.2 ≤ (nI i) then nI 1 else nI 0 := hw
  subst hw
  refine kv_i (y := nI 1) (if_pos (khas (by omega) (by omega))) ?_
  refine kc_v (Cs := []) (Rs := [jO o (a, b, fa, ta, sc), sO a C, gW cy a 1 L, gW cy a 7 F, sA cy a Ar, rW cy a d]) (Bs := [jO o (a, b, fa, ta, sc), sO a C, gW cy a 1 L, gW cy a 7 F, sA cy a Ar, rW cy a d]) (Cs' := fun u_ : Unit => []) (Fs := fun u_ : Unit => [jO o (a, b, fa, ta, sc), sO a C, gW cy a 1 L, gW cy a 7 F, sA cy a Ar, rW cy a d]) hP hD hS hA [] [0, 1, 2, 3, 4, 5] [0, 1, 2, 3, 4, 5] rfl rfl (by decide) (by decide) (fun _ => rfl) (va_runS (As := [.int (nI 1)]) (rest := []) ⟨hx, hb, hml, hown, hts⟩ (c_X4_needIndex_y l D cy (nI 1) (by first | assumption | omega | decide) H.size) (va_cwS 1 hts gX4_giveTokens_X4_needIndex rfl rfl rfl (by decide +kernel) ⟨Nat.le_of_ble_eq_true rfl, Nat.le_of_ble_eq_true rfl⟩) (kPre_S hK hN hP hD [] (by decide) rfl) rfl rfl hl.1 rfl (lv_room (Nat.le_of_ble_eq_true rfl)) dX4_giveTokens_16 ⟨Nat.le_of_ble_eq_true rfl, Nat.le_of_ble_eq_true rfl⟩) (fun u_ H locs hw hP hD hS => ?_)
  refine lv_iload_n hx hb dX4_giveTokens_19 rfl (lv_at hl 4 rfl) ?_
  refine lv_bipush (v := (-99 : Int32)) hx hb dX4_giveTokens_20 (by decide) ?_
  refine lv_bipush (v := nI 99) hx hb dX4_giveTokens_22 (by decide) ?_
  refine kc_i (Cs := []) (Rs := [jO o (a, b, fa, ta, sc), sO a C, gW cy a 1 L, gW cy a 7 F, sA cy a Ar, rW cy a d]) (Bs := [jO o (a, b, fa, ta, sc), sO a C, gW cy a 1 L, gW cy a 7 F, sA cy a Ar, rW cy a d]) (Cs' := fun u_ : Unit => []) (Fs := fun u_ : Unit => [jO o (a, b, fa, ta, sc), sO a C, gW cy a 1 L, gW cy a 7 F, sA cy a Ar, rW cy a d]) hP hD hS hA [] [0, 1, 2, 3, 4, 5] [0, 1, 2, 3, 4, 5] rfl rfl (by decide) (by decide) (fun _ => rfl) (va_runS (As := [.int v, .int (-99), .int (nI 99)]) (rest := []) ⟨hx, hb, hml, hown, hts⟩ (c_X4_isWithin l D cy v (-99) (nI 99) H.size) (va_cwS 3 hts gX4_giveTokens_X4_isWithin rfl rfl rfl (by decide +kernel) ⟨Nat.le_of_ble_eq_true rfl, Nat.le_of_ble_eq_true rfl⟩) (kPre_S hK hN hP hD [] (by decide) rfl) rfl rfl hl.1 rfl (lv_room (Nat.le_of_ble_eq_true rfl)) dX4_giveTokens_24 ⟨Nat.le_of_ble_eq_true rfl, Nat.le_of_ble_eq_true rfl⟩) (fun r_ u_ H locs hw hP hD hS => ?_)
  have hw : r_ = if ¬ v < (-99) ∧ ¬ (nI 99) < v then nI 1 else nI 0 := hw
  subst hw
  refine kv_i (y := nI 0) (if_neg hbad) ?_
  subst hQ
  exact kx_call ((vx_runS (As := [.int (nI 0)]) (rest := []) ⟨hx, hb, hml, hown, hts⟩ (x_X4_needArgument l hst D cy S H.size) (va_cwS 1 hts gX4_giveTokens_X4_needArgument rfl rfl rfl (by decide +kernel) ⟨Nat.le_of_ble_eq_true rfl, Nat.le_of_ble_eq_true rfl⟩) (kPreX_S hK hN hX hP hD hS hA [] (by decide) rfl) rfl rfl hl.1 rfl (lv_room (Nat.le_of_ble_eq_true rfl)) dX4_giveTokens_27 ⟨Nat.le_of_ble_eq_true rfl, Nat.le_of_ble_eq_true rfl⟩)) hS hA hP htb hlocks (by decide) (by decide)
abbrev rm_X4_giveTokens_sf : Room := { frames := 7, cells := 1, slots := 6, locals := 102 }
set_option maxHeartbeats 1000000 in
set_option maxRecDepth 100000 in
theorem x_X4_giveTokens_sf (l : Launch) (hst : l.stackTraces = false) (D : va_G) (cy : Nat → ClassId) (S : Nat × Nat × Nat) (x : Int32) (i : Nat) (v : Int32) (o : Nat → Nat) (a : Nat → Nat) (b : Nat → Nat) (fa : Nat → Nat) (ta : Nat → Nat) (sc : Nat) (C : rC) (L : rG) (F : rG) (Ar : rA) (d : Nat → Nat → Int32) (hx0 : x = 0) (hn : F.2.2.2.2.2 ≤ 8) (hi : i < F.2.2.2.2.2) (hv : (¬ v < (-99) ∧ ¬ nI 99 < v)) (hbad : ¬ (¬ (F.1 i + v) < nI 0 ∧ ¬ nI 99 < (F.1 i + v))) (sz : Nat) : vx_Met l yX4_giveTokens wsX4_giveTokens rm_X4_giveTokens_sf (va_Pc [.ref (o 0), .int x, .int (nI i), .int v] (kPreX D (kT cy) S [jO o (a, b, fa, ta, sc), sO a C, gW cy a 1 L, gW cy a 7 F, sA cy a Ar, rW cy a d] sz)) kNo (kXC D [jO o (a, b, fa, ta, sc), sO a C, gW cy a 1 L, gW cy a 7 F, sA cy a Ar, rW cy a d] (va_A (bkF [jO o (a, b, fa, ta, sc), sO a C, gW cy a 1 L, gW cy a 7 F, sA cy a Ar, rW cy a d]) sz) nIS) 1 6 (va_A (bkF [jO o (a, b, fa, ta, sc), sO a C, gW cy a 1 L, gW cy a 7 F, sA cy a Ar, rW cy a d]) sz) := by
  refine kOpenX (y := yX4_giveTokens) (ws := wsX4_giveTokens) (cc := cX4_giveTokens) (maxL := 6) (ret := (some .int)) (av := [.ref (o 0), .int x, .int (nI i), .int v]) (Bs := [jO o (a, b, fa, ta, sc), sO a C, gW cy a 1 L, gW cy a 7 F, sA cy a Ar, rW cy a d]) (XC := fun A => kXC D [jO o (a, b, fa, ta, sc), sO a C, gW cy a 1 L, gW cy a 7 F, sA cy a Ar, rW cy a d] A nIS) (by decide) rfl (Nat.le_of_ble_eq_true rfl) ?_
  intro p e s m args below meth c A Q ls hQ hx hb hml hlocks htb hts hown hN hX hK hP hD hS hA hl
  have hl : lv_has ls 6 [(0, .ref (o 0)), (1, .int x), (2, .int (nI i)), (3, .int v)] := hl
  suffices K9 : ∀ (H : Heap) (locs : List Loc), va_P D vwCl (bkF [jO o (a, b, fa, ta, sc), sO a C, gW cy a 1 L, gW cy a 7 F, sA cy a Ar, rW cy a d]) H → va_S A s.heap H locs → W p l e (headSpec wsX4_giveTokens rm_X4_giveTokens_sf).room s m args below meth c H locs 0 0 Q (F0 m 0 ls []) from K9 _ _ hP hS
  clear hP hS
  intro H locs hP hS
  refine lv_aload_n hx hb dX4_giveTokens_0 rfl (lv_at hl 0 rfl) ?_
  refine va_get (D := D) (ci := 4) (v := .ref (a 0)) (C := RX4) (T := TX4) (N := 6) hx hb hts (by decide +kernel) hown hK hP 0 rfl rfl 0 (by decide) (hts (.fieldLink RX4 12 "DanceHall" "hall" "LDanceHall$State;") (by decide +kernel)) (fun _ h9 => h9) rfl dX4_giveTokens_1 ?_
  refine lv_iload_n hx hb dX4_giveTokens_4 rfl (lv_at hl 1 rfl) ?_
  refine kc_r (Cs := [sO a C]) (Rs := [jO o (a, b, fa, ta, sc), gW cy a 1 L, gW cy a 7 F, sA cy a Ar, rW cy a d]) (Bs := [jO o (a, b, fa, ta, sc), sO a C, gW cy a 1 L, gW cy a 7 F, sA cy a Ar, rW cy a d]) (Cs' := fun u_ : Unit => [sO a C]) (Fs := fun u_ : Unit => [jO o (a, b, fa, ta, sc), sO a C, gW cy a 1 L, gW cy a 7 F, sA cy a Ar, rW cy a d]) hP hD hS hA [1] [0, 2, 3, 4, 5] [0, 5, 1, 2, 3, 4] rfl rfl (by decide) (by decide) (fun _ => rfl) (va_runV (As := [.int x]) (rest := []) ⟨hx, hb, hml, hown, hts⟩ (c_X3_side_f l D cy a C x hx0 H.size) (cwV 1 hts gX4_giveTokens_X3_side rfl rfl rfl (by decide +kernel) ⟨Nat.le_of_ble_eq_true rfl, Nat.le_of_ble_eq_true rfl⟩) (kPre_V (ci := 3) hK hN hP hD [1] (by decide) rfl 0 rfl rfl) rfl rfl hl.1 rfl (lv_room (Nat.le_of_ble_eq_true rfl)) dX4_giveTokens_5 ⟨Nat.le_of_ble_eq_true rfl, Nat.le_of_ble_eq_true rfl⟩) (fun u_ H locs hw hP hD hS => ?_)
  refine lv_astore (lv' := [(4, .ref (a 7)), (0, .ref (o 0)), (1, .int x), (2, .int (nI i)), (3, .int v)]) hx hb dX4_giveTokens_8 hl (by decide) rfl (fun ls hl => ?_)
  refine lv_aload hx hb dX4_giveTokens_10 (lv_at hl 0 rfl) ?_
  refine lv_iload_n hx hb dX4_giveTokens_12 rfl (lv_at hl 3 rfl) ?_
  refine kc_i (Cs := [gW cy a 7 F]) (Rs := [jO o (a, b, fa, ta, sc), sO a C, gW cy a 1 L, sA cy a Ar, rW cy a d]) (Bs := [jO o (a, b, fa, ta, sc), sO a C, gW cy a 1 L, gW cy a 7 F, sA cy a Ar, rW cy a d]) (Cs' := fun u_ : Unit => [gW cy a 7 F]) (Fs := fun u_ : Unit => [jO o (a, b, fa, ta, sc), sO a C, gW cy a 1 L, gW cy a 7 F, sA cy a Ar, rW cy a d]) hP hD hS hA [3] [0, 1, 2, 4, 5] [0, 1, 2, 5, 3, 4] rfl rfl (by decide) (by decide) (fun _ => rfl) (va_runV (As := [.int (nI i)]) (rest := []) ⟨hx, hb, hml, hown, hts⟩ (c_X2_has l D cy a 7 F (nI i) H.size) (cwV 1 hts gX4_giveTokens_X2_has rfl rfl rfl (by decide +kernel) ⟨Nat.le_of_ble_eq_true rfl, Nat.le_of_ble_eq_true rfl⟩) (kPre_V (ci := 2) hK hN hP hD [3] (by decide) rfl 0 rfl rfl) rfl rfl hl.1 rfl (lv_room (Nat.le_of_ble_eq_true rfl)) dX4_giveTokens_13 ⟨Nat.le_of_ble_eq_true rfl, Nat.le_of_ble_eq_true rfl⟩) (fun r_ u_ H locs hw hP hD hS => ?_)
  have hw : r_ = if ¬ (nI i) < nI 0 ∧ ¬ nI F.2.2.2.2.2 ≤ (nI i) then nI 1 else nI 0 := hw
  subst hw
  refine kv_i (y := nI 1) (if_pos (khas (by omega) (by omega))) ?_
  refine kc_v (Cs := []) (Rs := [jO o (a, b, fa, ta, sc), sO a C, gW cy a 1 L, gW cy a 7 F, sA cy a Ar, rW cy a d]) (Bs := [jO o (a, b, fa, ta, sc), sO a C, gW cy a 1 L, gW cy a 7 F, sA cy a Ar, rW cy a d]) (Cs' := fun u_ : Unit => []) (Fs := fun u_ : Unit => [jO o (a, b, fa, ta, sc), sO a C, gW cy a 1 L, gW cy a 7 F, sA cy a Ar, rW cy a d]) hP hD hS hA [] [0, 1, 2, 3, 4, 5] [0, 1, 2, 3, 4, 5] rfl rfl (by decide) (by decide) (fun _ => rfl) (va_runS (As := [.int (nI 1)]) (rest := []) ⟨hx, hb, hml, hown, hts⟩ (c_X4_needIndex_y l D cy (nI 1) (by first | assumption | omega | decide) H.size) (va_cwS 1 hts gX4_giveTokens_X4_needIndex rfl rfl rfl (by decide +kernel) ⟨Nat.le_of_ble_eq_true rfl, Nat.le_of_ble_eq_true rfl⟩) (kPre_S hK hN hP hD [] (by decide) rfl) rfl rfl hl.1 rfl (lv_room (Nat.le_of_ble_eq_true rfl)) dX4_giveTokens_16 ⟨Nat.le_of_ble_eq_true rfl, Nat.le_of_ble_eq_true rfl⟩) (fun u_ H locs hw hP hD hS => ?_)
  refine lv_iload_n hx hb dX4_giveTokens_19 rfl (lv_at hl 4 rfl) ?_
  refine lv_bipush (v := (-99 : Int32)) hx hb dX4_giveTokens_20 (by decide) ?_
  refine lv_bipush (v := nI 99) hx hb dX4_giveTokens_22 (by decide) ?_
  refine kc_i (Cs := []) (Rs := [jO o (a, b, fa, ta, sc), sO a C, gW cy a 1 L, gW cy a 7 F, sA cy a Ar, rW cy a d]) (Bs := [jO o (a, b, fa, ta, sc), sO a C, gW cy a 1 L, gW cy a 7 F, sA cy a Ar, rW cy a d]) (Cs' := fun u_ : Unit => []) (Fs := fun u_ : Unit => [jO o (a, b, fa, ta, sc), sO a C, gW cy a 1 L, gW cy a 7 F, sA cy a Ar, rW cy a d]) hP hD hS hA [] [0, 1, 2, 3, 4, 5] [0, 1, 2, 3, 4, 5] rfl rfl (by decide) (by decide) (fun _ => rfl) (va_runS (As := [.int v, .int (-99), .int (nI 99)]) (rest := []) ⟨hx, hb, hml, hown, hts⟩ (c_X4_isWithin l D cy v (-99) (nI 99) H.size) (va_cwS 3 hts gX4_giveTokens_X4_isWithin rfl rfl rfl (by decide +kernel) ⟨Nat.le_of_ble_eq_true rfl, Nat.le_of_ble_eq_true rfl⟩) (kPre_S hK hN hP hD [] (by decide) rfl) rfl rfl hl.1 rfl (lv_room (Nat.le_of_ble_eq_true rfl)) dX4_giveTokens_24 ⟨Nat.le_of_ble_eq_true rfl, Nat.le_of_ble_eq_true rfl⟩) (fun r_ u_ H locs hw hP hD hS => ?_)
  have hw : r_ = if ¬ v < (-99) ∧ ¬ (nI 99) < v then nI 1 else nI 0 := hw
  subst hw
  refine kv_i (y := nI 1) (if_pos hv) ?_
  refine kc_v (Cs := []) (Rs := [jO o (a, b, fa, ta, sc), sO a C, gW cy a 1 L, gW cy a 7 F, sA cy a Ar, rW cy a d]) (Bs := [jO o (a, b, fa, ta, sc), sO a C, gW cy a 1 L, gW cy a 7 F, sA cy a Ar, rW cy a d]) (Cs' := fun u_ : Unit => []) (Fs := fun u_ : Unit => [jO o (a, b, fa, ta, sc), sO a C, gW cy a 1 L, gW cy a 7 F, sA cy a Ar, rW cy a d]) hP hD hS hA [] [0, 1, 2, 3, 4, 5] [0, 1, 2, 3, 4, 5] rfl rfl (by decide) (by decide) (fun _ => rfl) (va_runS (As := [.int (nI 1)]) (rest := []) ⟨hx, hb, hml, hown, hts⟩ (c_X4_needArgument_y l D cy (nI 1) (by first | assumption | omega | decide) H.size) (va_cwS 1 hts gX4_giveTokens_X4_needArgument rfl rfl rfl (by decide +kernel) ⟨Nat.le_of_ble_eq_true rfl, Nat.le_of_ble_eq_true rfl⟩) (kPre_S hK hN hP hD [] (by decide) rfl) rfl rfl hl.1 rfl (lv_room (Nat.le_of_ble_eq_true rfl)) dX4_giveTokens_27 ⟨Nat.le_of_ble_eq_true rfl, Nat.le_of_ble_eq_true rfl⟩) (fun u_ H locs hw hP hD hS => ?_)
  refine lv_aload hx hb dX4_giveTokens_30 (lv_at hl 0 rfl) ?_
  refine va_get (D := D) (ci := 2) (v := .ref (a 8)) (C := RX2) (T := TX2) (N := 6) hx hb hts (by decide +kernel) hown hK hP 8 rfl rfl 0 (by decide) (hts (.fieldLink RX4 72 "DanceHall$Guests" "tokens" "[I") (by decide +kernel)) (fun _ h9 => h9) rfl dX4_giveTokens_32 ?_
  refine lv_iload_n hx hb dX4_giveTokens_35 rfl (lv_at hl 3 rfl) ?_
  refine va_iald hx hb hK hP 9 0 rfl rfl (vp_in_nI (n := i) (N := 8) (by omega) (by omega)) dX4_giveTokens_36 ?_
  refine kv_i (y := F.1 i) (congrArg F.1 (nI_clamp (n := i) (by omega))) ?_
  refine lv_iload_n hx hb dX4_giveTokens_37 rfl (lv_at hl 4 rfl) ?_
  refine lv_iadd hx hb dX4_giveTokens_38 ?_
  refine lv_istore (lv' := [(5, .int ((F.1 i) + v)), (4, .ref (a 7)), (0, .ref (o 0)), (1, .int x), (2, .int (nI i)), (3, .int v)]) hx hb dX4_giveTokens_39 hl (by decide) rfl (fun ls hl => ?_)
  refine lv_iload hx hb dX4_giveTokens_41 (lv_at hl 0 rfl) ?_
  refine lv_iconst (v := nI 0) hx hb dX4_giveTokens_43 (by decide) ?_
  refine lv_bipush (v := nI 99) hx hb dX4_giveTokens_44 (by decide) ?_
  refine kc_i (Cs := []) (Rs := [jO o (a, b, fa, ta, sc), sO a C, gW cy a 1 L, gW cy a 7 F, sA cy a Ar, rW cy a d]) (Bs := [jO o (a, b, fa, ta, sc), sO a C, gW cy a 1 L, gW cy a 7 F, sA cy a Ar, rW cy a d]) (Cs' := fun u_ : Unit => []) (Fs := fun u_ : Unit => [jO o (a, b, fa, ta, sc), sO a C, gW cy a 1 L, gW cy a 7 F, sA cy a Ar, rW cy a d]) hP hD hS hA [] [0, 1, 2, 3, 4, 5] [0, 1, 2, 3, 4, 5] rfl rfl (by decide) (by decide) (fun _ => rfl) (va_runS (As := [.int ((F.1 i) + v), .int (nI 0), .int (nI 99)]) (rest := []) ⟨hx, hb, hml, hown, hts⟩ (c_X4_isWithin l D cy ((F.1 i) + v) (nI 0) (nI 99) H.size) (va_cwS 3 hts gX4_giveTokens_X4_isWithin rfl rfl rfl (by decide +kernel) ⟨Nat.le_of_ble_eq_true rfl, Nat.le_of_ble_eq_true rfl⟩) (kPre_S hK hN hP hD [] (by decide) rfl) rfl rfl hl.1 rfl (lv_room (Nat.le_of_ble_eq_true rfl)) dX4_giveTokens_46 ⟨Nat.le_of_ble_eq_true rfl, Nat.le_of_ble_eq_true rfl⟩) (fun r_ u_ H locs hw hP hD hS => ?_)
  have hw : r_ = if ¬ ((F.1 i) + v) < (nI 0) ∧ ¬ (nI 99) < ((F.1 i) + v) then nI 1 else nI 0 := hw
  subst hw
  refine kv_i (y := nI 0) (if_neg hbad) ?_
  subst hQ
  exact kx_call ((vx_runS (As := [.int (nI 0)]) (rest := []) ⟨hx, hb, hml, hown, hts⟩ (x_X4_needState l hst D cy S H.size) (va_cwS 1 hts gX4_giveTokens_X4_needState rfl rfl rfl (by decide +kernel) ⟨Nat.le_of_ble_eq_true rfl, Nat.le_of_ble_eq_true rfl⟩) (kPreX_S hK hN hX hP hD hS hA [] (by decide) rfl) rfl rfl hl.1 rfl (lv_room (Nat.le_of_ble_eq_true rfl)) dX4_giveTokens_49 ⟨Nat.le_of_ble_eq_true rfl, Nat.le_of_ble_eq_true rfl⟩)) hS hA hP htb hlocks (by decide) (by decide)
abbrev rm_X4_setHere_if : Room := { frames := 7, cells := 1, slots := 6, locals := 102 }
set_option maxHeartbeats 1000000 in
set_option maxRecDepth 100000 in
theorem x_X4_setHere_if (l : Launch) (hst : l.stackTraces = false) (D : va_G) (cy : Nat → ClassId) (S : Nat × Nat × Nat) (x : Int32) (i : Int32) (y : Int32) (o : Nat → Nat) (a : Nat → Nat) (b : Nat → Nat) (fa : Nat → Nat) (ta : Nat → Nat) (sc : Nat) (C : rC) (L : rG) (F : rG) (Ar : rA) (d : Nat → Nat → Int32) (hx0 : x = 0) (hbad : ¬ (¬ i < nI 0 ∧ ¬ nI F.2.2.2.2.2 ≤ i)) (sz : Nat) : vx_Met l yX4_setHere wsX4_setHere rm_X4_setHere_if (va_Pc [.ref (o 0), .int x, .int i, .int y] (kPreX D (kT cy) S [jO o (a, b, fa, ta, sc), sO a C, gW cy a 1 L, gW cy a 7 F, sA cy a Ar, rW cy a d] sz)) kNo (kXC D [jO o (a, b, fa, ta, sc), sO a C, gW cy a 1 L, gW cy a 7 F, sA cy a Ar, rW cy a d] (va_A (bkF [jO o (a, b, fa, ta, sc), sO a C, gW cy a 1 L, gW cy a 7 F, sA cy a Ar, rW cy a d]) sz) nIO) 1 6 (va_A (bkF [jO o (a, b, fa, ta, sc), sO a C, gW cy a 1 L, gW cy a 7 F, sA cy a Ar, rW cy a d]) sz) := by
  refine kOpenX (y := yX4_setHere) (ws := wsX4_setHere) (cc := cX4_setHere) (maxL := 6) (ret := (some .int)) (av := [.ref (o 0), .int x, .int i, .int y]) (Bs := [jO o (a, b, fa, ta, sc), sO a C, gW cy a 1 L, gW cy a 7 F, sA cy a Ar, rW cy a d]) (XC := fun A => kXC D [jO o (a, b, fa, ta, sc), sO a C, gW cy a 1 L, gW cy a 7 F, sA cy a Ar, rW cy a d] A nIO) (by decide) rfl (Nat.le_of_ble_eq_true rfl) ?_
  intro p e s m args below meth c A Q ls hQ hx hb hml hlocks htb hts hown hN hX hK hP hD hS hA hl
  have hl : lv_has ls 6 [(0, .ref (o 0)), (1, .int x), (2, .int i), (3, .int y)] := hl
  suffices K9 : ∀ (H : Heap) (locs : List Loc), va_P D vwCl (bkF [jO o (a, b, fa, ta, sc), sO a C, gW cy a 1 L, gW cy a 7 F, sA cy a Ar, rW cy a d]) H → va_S A s.heap H locs → W p l e (headSpec wsX4_setHere rm_X4_setHere_if).room s m args below meth c H locs 0 0 Q (F0 m 0 ls []) from K9 _ _ hP hS
  clear hP hS
  intro H locs hP hS
  refine lv_aload_n hx hb dX4_setHere_0 rfl (lv_at hl 0 rfl) ?_
  refine va_get (D := D) (ci := 4) (v := .ref (a 0)) (C := RX4) (T := TX4) (N := 6) hx hb hts (by decide +kernel) hown hK hP 0 rfl rfl 0 (by decide) (hts (.fieldLink RX4 12 "DanceHall" "hall" "LDanceHall$State;") (by decide +kernel)) (fun _ h9 => h9) rfl dX4_setHere_1 ?_
  refine lv_iload_n hx hb dX4_setHere_4 rfl (lv_at hl 1 rfl) ?_
  refine kc_r (Cs := [sO a C]) (Rs := [jO o (a, b, fa, ta, sc), gW cy a 1 L, gW cy a 7 F, sA cy a Ar, rW cy a d]) (Bs := [jO o (a, b, fa, ta, sc), sO a C, gW cy a 1 L, gW cy a 7 F, sA cy a Ar, rW cy a d]) (Cs' := fun u_ : Unit => [sO a C]) (Fs := fun u_ : Unit => [jO o (a, b, fa, ta, sc), sO a C, gW cy a 1 L, gW cy a 7 F, sA cy a Ar, rW cy a d]) hP hD hS hA [1] [0, 2, 3, 4, 5] [0, 5, 1, 2, 3, 4] rfl rfl (by decide) (by decide) (fun _ => rfl) (va_runV (As := [.int x]) (rest := []) ⟨hx, hb, hml, hown, hts⟩ (c_X3_side_f l D cy a C x hx0 H.size) (cwV 1 hts gX4_setHere_X3_side rfl rfl rfl (by decide +kernel) ⟨Nat.le_of_ble_eq_true rfl, Nat.le_of_ble_eq_true rfl⟩) (kPre_V (ci := 3) hK hN hP hD [1] (by decide) rfl 0 rfl rfl) rfl rfl hl.1 rfl (lv_room (Nat.le_of_ble_eq_true rfl)) dX4_setHere_5 ⟨Nat.le_of_ble_eq_true rfl, Nat.le_of_ble_eq_true rfl⟩) (fun u_ H locs hw hP hD hS => ?_)
  refine lv_astore (lv' := [(4, .ref (a 7)), (0, .ref (o 0)), (1, .int x), (2, .int i), (3, .int y)]) hx hb dX4_setHere_8 hl (by decide) rfl (fun ls hl => ?_)
  refine lv_aload hx hb dX4_setHere_10 (lv_at hl 0 rfl) ?_
  refine lv_iload_n hx hb dX4_setHere_12 rfl (lv_at hl 3 rfl) ?_
  refine kc_i (Cs := [gW cy a 7 F]) (Rs := [jO o (a, b, fa, ta, sc), sO a C, gW cy a 1 L, sA cy a Ar, rW cy a d]) (Bs := [jO o (a, b, fa, ta, sc), sO a C, gW cy a 1 L, gW cy a 7 F, sA cy a Ar, rW cy a d]) (Cs' := fun u_ : Unit => [gW cy a 7 F]) (Fs := fun u_ : Unit => [jO o (a, b, fa, ta, sc), sO a C, gW cy a 1 L, gW cy a 7 F, sA cy a Ar, rW cy a d]) hP hD hS hA [3] [0, 1, 2, 4, 5] [0, 1, 2, 5, 3, 4] rfl rfl (by decide) (by decide) (fun _ => rfl) (va_runV (As := [.int i]) (rest := []) ⟨hx, hb, hml, hown, hts⟩ (c_X2_has l D cy a 7 F i H.size) (cwV 1 hts gX4_setHere_X2_has rfl rfl rfl (by decide +kernel) ⟨Nat.le_of_ble_eq_true rfl, Nat.le_of_ble_eq_true rfl⟩) (kPre_V (ci := 2) hK hN hP hD [3] (by decide) rfl 0 rfl rfl) rfl rfl hl.1 rfl (lv_room (Nat.le_of_ble_eq_true rfl)) dX4_setHere_13 ⟨Nat.le_of_ble_eq_true rfl, Nat.le_of_ble_eq_true rfl⟩) (fun r_ u_ H locs hw hP hD hS => ?_)
  have hw : r_ = if ¬ i < nI 0 ∧ ¬ nI F.2.2.2.2.2 ≤ i then nI 1 else nI 0 := hw
  subst hw
  refine kv_i (y := nI 0) (if_neg hbad) ?_
  subst hQ
  exact kx_call ((vx_runS (As := [.int (nI 0)]) (rest := []) ⟨hx, hb, hml, hown, hts⟩ (x_X4_needIndex l hst D cy S H.size) (va_cwS 1 hts gX4_setHere_X4_needIndex rfl rfl rfl (by decide +kernel) ⟨Nat.le_of_ble_eq_true rfl, Nat.le_of_ble_eq_true rfl⟩) (kPreX_S hK hN hX hP hD hS hA [] (by decide) rfl) rfl rfl hl.1 rfl (lv_room (Nat.le_of_ble_eq_true rfl)) dX4_setHere_16 ⟨Nat.le_of_ble_eq_true rfl, Nat.le_of_ble_eq_true rfl⟩)) hS hA hP htb hlocks (by decide) (by decide)
abbrev rm_X4_guest_if : Room := { frames := 7, cells := 1, slots := 6, locals := 102 }
set_option maxHeartbeats 1000000 in
set_option maxRecDepth 100000 in
theorem x_X4_guest_if (l : Launch) (hst : l.stackTraces = false) (D : va_G) (cy : Nat → ClassId) (S : Nat × Nat × Nat) (x : Int32) (i : Int32) (w : Int32) (o : Nat → Nat) (a : Nat → Nat) (b : Nat → Nat) (fa : Nat → Nat) (ta : Nat → Nat) (sc : Nat) (C : rC) (L : rG) (F : rG) (Ar : rA) (d : Nat → Nat → Int32) (hx0 : x = 0) (hbad : ¬ (¬ i < nI 0 ∧ ¬ nI F.2.2.2.2.2 ≤ i)) (sz : Nat) : vx_Met l yX4_guest wsX4_guest rm_X4_guest_if (va_Pc [.ref (o 0), .int x, .int i, .int w] (kPreX D (kT cy) S [jO o (a, b, fa, ta, sc), sO a C, gW cy a 1 L, gW cy a 7 F, sA cy a Ar, rW cy a d] sz)) kNo (kXC D [jO o (a, b, fa, ta, sc), sO a C, gW cy a 1 L, gW cy a 7 F, sA cy a Ar, rW cy a d] (va_A (bkF [jO o (a, b, fa, ta, sc), sO a C, gW cy a 1 L, gW cy a 7 F, sA cy a Ar, rW cy a d]) sz) nIO) 1 6 (va_A (bkF [jO o (a, b, fa, ta, sc), sO a C, gW cy a 1 L, gW cy a 7 F, sA cy a Ar, rW cy a d]) sz) := by
  refine kOpenX (y := yX4_guest) (ws := wsX4_guest) (cc := cX4_guest) (maxL := 4) (ret := (some .int)) (av := [.ref (o 0), .int x, .int i, .int w]) (Bs := [jO o (a, b, fa, ta, sc), sO a C, gW cy a 1 L, gW cy a 7 F, sA cy a Ar, rW cy a d]) (XC := fun A => kXC D [jO o (a, b, fa, ta, sc), sO a C, gW cy a 1 L, gW cy a 7 F, sA cy a Ar, rW cy a d] A nIO) (by decide) rfl (Nat.le_of_ble_eq_true rfl) ?_
  intro p e s m args below meth c A Q ls hQ hx hb hml hlocks htb hts hown hN hX hK hP hD hS hA hl
  have hl : lv_has ls 4 [(0, .ref (o 0)), (1, .int x), (2, .int i), (3, .int w)] := hl
  suffices K9 : ∀ (H : Heap) (locs : List Loc), va_P D vwCl (bkF [jO o (a, b, fa, ta, sc), sO a C, gW cy a 1 L, gW cy a 7 F, sA cy a Ar, rW cy a d]) H → va_S A s.heap H locs → W p l e (headSpec wsX4_guest rm_X4_guest_if).room s m args below meth c H locs 0 0 Q (F0 m 0 ls []) from K9 _ _ hP hS
  clear hP hS
  intro H locs hP hS
  refine lv_aload_n hx hb dX4_guest_0 rfl (lv_at hl 0 rfl) ?_
  refine va_get (D := D) (ci := 4) (v := .ref (a 0)) (C := RX4) (T := TX4) (N := 6) hx hb hts (by decide +kernel) hown hK hP 0 rfl rfl 0 (by decide) (hts (.fieldLink RX4 12 "DanceHall" "hall" "LDanceHall$State;") (by decide +kernel)) (fun _ h9 => h9) rfl dX4_guest_1 ?_
  refine lv_iload_n hx hb dX4_guest_4 rfl (lv_at hl 1 rfl) ?_
  refine kc_r (Cs := [sO a C]) (Rs := [jO o (a, b, fa, ta, sc), gW cy a 1 L, gW cy a 7 F, sA cy a Ar, rW cy a d]) (Bs := [jO o (a, b, fa, ta, sc), sO a C, gW cy a 1 L, gW cy a 7 F, sA cy a Ar, rW cy a d]) (Cs' := fun u_ : Unit => [sO a C]) (Fs := fun u_ : Unit => [jO o (a, b, fa, ta, sc), sO a C, gW cy a 1 L, gW cy a 7 F, sA cy a Ar, rW cy a d]) hP hD hS hA [1] [0, 2, 3, 4, 5] [0, 5, 1, 2, 3, 4] rfl rfl (by decide) (by decide) (fun _ => rfl) (va_runV (As := [.int x]) (rest := []) ⟨hx, hb, hml, hown, hts⟩ (c_X3_side_f l D cy a C x hx0 H.size) (cwV 1 hts gX4_guest_X3_side rfl rfl rfl (by decide +kernel) ⟨Nat.le_of_ble_eq_true rfl, Nat.le_of_ble_eq_true rfl⟩) (kPre_V (ci := 3) hK hN hP hD [1] (by decide) rfl 0 rfl rfl) rfl rfl hl.1 rfl (lv_room (Nat.le_of_ble_eq_true rfl)) dX4_guest_5 ⟨Nat.le_of_ble_eq_true rfl, Nat.le_of_ble_eq_true rfl⟩) (fun u_ H locs hw hP hD hS => ?_)
  refine lv_iload_n hx hb dX4_guest_8 rfl (lv_at hl 2 rfl) ?_
  refine kc_i (Cs := [gW cy a 7 F]) (Rs := [jO o (a, b, fa, ta, sc), sO a C, gW cy a 1 L, sA cy a Ar, rW cy a d]) (Bs := [jO o (a, b, fa, ta, sc), sO a C, gW cy a 1 L, gW cy a 7 F, sA cy a Ar, rW cy a d]) (Cs' := fun u_ : Unit => [gW cy a 7 F]) (Fs := fun u_ : Unit => [jO o (a, b, fa, ta, sc), sO a C, gW cy a 1 L, gW cy a 7 F, sA cy a Ar, rW cy a d]) hP hD hS hA [3] [0, 1, 2, 4, 5] [0, 1, 2, 5, 3, 4] rfl rfl (by decide) (by decide) (fun _ => rfl) (va_runV (As := [.int i]) (rest := []) ⟨hx, hb, hml, hown, hts⟩ (c_X2_has l D cy a 7 F i H.size) (cwV 1 hts gX4_guest_X2_has rfl rfl rfl (by decide +kernel) ⟨Nat.le_of_ble_eq_true rfl, Nat.le_of_ble_eq_true rfl⟩) (kPre_V (ci := 2) hK hN hP hD [3] (by decide) rfl 0 rfl rfl) rfl rfl hl.1 rfl (lv_room (Nat.le_of_ble_eq_true rfl)) dX4_guest_9 ⟨Nat.le_of_ble_eq_true rfl, Nat.le_of_ble_eq_true rfl⟩) (fun r_ u_ H locs hw hP hD hS => ?_)
  have hw : r_ = if ¬ i < nI 0 ∧ ¬ nI F.2.2.2.2.2 ≤ i then nI 1 else nI 0 := hw
  subst hw
  refine kv_i (y := nI 0) (if_neg hbad) ?_
  subst hQ
  exact kx_call ((vx_runS (As := [.int (nI 0)]) (rest := []) ⟨hx, hb, hml, hown, hts⟩ (x_X4_needIndex l hst D cy S H.size) (va_cwS 1 hts gX4_guest_X4_needIndex rfl rfl rfl (by decide +kernel) ⟨Nat.le_of_ble_eq_true rfl, Nat.le_of_ble_eq_true rfl⟩) (kPreX_S hK hN hX hP hD hS hA [] (by decide) rfl) rfl rfl hl.1 rfl (lv_room (Nat.le_of_ble_eq_true rfl)) dX4_guest_12 ⟨Nat.le_of_ble_eq_true rfl, Nat.le_of_ble_eq_true rfl⟩)) hS hA hP htb hlocks (by decide) (by decide)
abbrev rm_X4_guest_af : Room := { frames := 7, cells := 1, slots := 6, locals := 102 }
set_option maxHeartbeats 1000000 in
set_option maxRecDepth 100000 in
theorem x_X4_guest_af (l : Launch) (hst : l.stackTraces = false) (D : va_G) (cy : Nat → ClassId) (S : Nat × Nat × Nat) (x : Int32) (i : Nat) (w : Int32) (o : Nat → Nat) (a : Nat → Nat) (b : Nat → Nat) (fa : Nat → Nat) (ta : Nat → Nat) (sc : Nat) (C : rC) (L : rG) (F : rG) (Ar : rA) (d : Nat → Nat → Int32) (hx0 : x = 0) (hn : F.2.2.2.2.2 ≤ 8) (hi : i < F.2.2.2.2.2) (hbad : ¬ (¬ w < nI 0 ∧ ¬ nI 7 < w)) (sz : Nat) : vx_Met l yX4_guest wsX4_guest rm_X4_guest_af (va_Pc [.ref (o 0), .int x, .int (nI i), .int w] (kPreX D (kT cy) S [jO o (a, b, fa, ta, sc), sO a C, gW cy a 1 L, gW cy a 7 F, sA cy a Ar, rW cy a d] sz)) kNo (kXC D [jO o (a, b, fa, ta, sc), sO a C, gW cy a 1 L, gW cy a 7 F, sA cy a Ar, rW cy a d] (va_A (bkF [jO o (a, b, fa, ta, sc), sO a C, gW cy a 1 L, gW cy a 7 F, sA cy a Ar, rW cy a d]) sz) nIA) 1 6 (va_A (bkF [jO o (a, b, fa, ta, sc), sO a C, gW cy a 1 L, gW cy a 7 F, sA cy a Ar, rW cy a d]) sz) := by
  refine kOpenX (y := yX4_guest) (ws := wsX4_guest) (cc := cX4_guest) (maxL := 4) (ret := (some .int)) (av := [.ref (o 0), .int x, .int (nI i), .int w]) (Bs := [jO o (a, b, fa, ta, sc), sO a C, gW cy a 1 L, gW cy a 7 F, sA cy a Ar, rW cy a d]) (XC := fun A => kXC D [jO o (a, b, fa, ta, sc), sO a C, gW cy a 1 L, gW cy a 7 F, sA cy a Ar, rW cy a d] A nIA) (by decide) rfl (Nat.le_of_ble_eq_true rfl) ?_
  intro p e s m args below meth c A Q ls hQ hx hb hml hlocks htb hts hown hN hX hK hP hD hS hA hl
  have hl : lv_has ls 4 [(0, .ref (o 0)), (1, .int x), (2, .int (nI i)), (3, .int w)] := hl
  suffices K9 : ∀ (H : Heap) (locs : List Loc), va_P D vwCl (bkF [jO o (a, b, fa, ta, sc), sO a C, gW cy a 1 L, gW cy a 7 F, sA cy a Ar, rW cy a d]) H → va_S A s.heap H locs → W p l e (headSpec wsX4_guest rm_X4_guest_af).room s m args below meth c H locs 0 0 Q (F0 m 0 ls []) from K9 _ _ hP hS
  clear hP hS
  intro H locs hP hS
  refine lv_aload_n hx hb dX4_guest_0 rfl (lv_at hl 0 rfl) ?_
  refine va_get (D := D) (ci := 4) (v := .ref (a 0)) (C := RX4) (T := TX4) (N := 6) hx hb hts (by decide +kernel) hown hK hP 0 rfl rfl 0 (by decide) (hts (.fieldLink RX4 12 "DanceHall" "hall" "LDanceHall$State;") (by decide +kernel)) (fun _ h9 => h9) rfl dX4_guest_1 ?_
  refine lv_iload_n hx hb dX4_guest_4 rfl (lv_at hl 1 rfl) ?_
  refine kc_r (Cs := [sO a C]) (Rs := [jO o (a, b, fa, ta, sc), gW cy a 1 L, gW cy a 7 F, sA cy a Ar, rW cy a d]) (Bs := [jO o (a, b, fa, ta, sc), sO a C, gW cy a 1 L, gW cy a 7 F, sA cy a Ar, rW cy a d]) (Cs' := fun u_ : Unit => [sO a C]) (Fs := fun u_ : Unit => [jO o (a, b, fa, ta, sc), sO a C, gW cy a 1 L, gW cy a 7 F, sA cy a Ar, rW cy a d]) hP hD hS hA [1] [0, 2, 3, 4, 5] [0, 5, 1, 2, 3, 4] rfl rfl (by decide) (by decide) (fun _ => rfl) (va_runV (As := [.int x]) (rest := []) ⟨hx, hb, hml, hown, hts⟩ (c_X3_side_f l D cy a C x hx0 H.size) (cwV 1 hts gX4_guest_X3_side rfl rfl rfl (by decide +kernel) ⟨Nat.le_of_ble_eq_true rfl, Nat.le_of_ble_eq_true rfl⟩) (kPre_V (ci := 3) hK hN hP hD [1] (by decide) rfl 0 rfl rfl) rfl rfl hl.1 rfl (lv_room (Nat.le_of_ble_eq_true rfl)) dX4_guest_5 ⟨Nat.le_of_ble_eq_true rfl, Nat.le_of_ble_eq_true rfl⟩) (fun u_ H locs hw hP hD hS => ?_)
  refine lv_iload_n hx hb dX4_guest_8 rfl (lv_at hl 2 rfl) ?_
  refine kc_i (Cs := [gW cy a 7 F]) (Rs := [jO o (a, b, fa, ta, sc), sO a C, gW cy a 1 L, sA cy a Ar, rW cy a d]) (Bs := [jO o (a, b, fa, ta, sc), sO a C, gW cy a 1 L, gW cy a 7 F, sA cy a Ar, rW cy a d]) (Cs' := fun u_ : Unit => [gW cy a 7 F]) (Fs := fun u_ : Unit => [jO o (a, b, fa, ta, sc), sO a C, gW cy a 1 L, gW cy a 7 F, sA cy a Ar, rW cy a d]) hP hD hS hA [3] [0, 1, 2, 4, 5] [0, 1, 2, 5, 3, 4] rfl rfl (by decide) (by decide) (fun _ => rfl) (va_runV (As := [.int (nI i)]) (rest := []) ⟨hx, hb, hml, hown, hts⟩ (c_X2_has l D cy a 7 F (nI i) H.size) (cwV 1 hts gX4_guest_X2_has rfl rfl rfl (by decide +kernel) ⟨Nat.le_of_ble_eq_true rfl, Nat.le_of_ble_eq_true rfl⟩) (kPre_V (ci := 2) hK hN hP hD [3] (by decide) rfl 0 rfl rfl) rfl rfl hl.1 rfl (lv_room (Nat.le_of_ble_eq_true rfl)) dX4_guest_9 ⟨Nat.le_of_ble_eq_true rfl, Nat.le_of_ble_eq_true rfl⟩) (fun r_ u_ H locs hw hP hD hS => ?_)
  have hw : r_ = if ¬ (nI i) < nI 0 ∧ ¬ nI F.2.2.2.2.2 ≤ (nI i) then nI 1 else nI 0 := hw
  subst hw
  refine kv_i (y := nI 1) (if_pos (khas (by omega) (by omega))) ?_
  refine kc_v (Cs := []) (Rs := [jO o (a, b, fa, ta, sc), sO a C, gW cy a 1 L, gW cy a 7 F, sA cy a Ar, rW cy a d]) (Bs := [jO o (a, b, fa, ta, sc), sO a C, gW cy a 1 L, gW cy a 7 F, sA cy a Ar, rW cy a d]) (Cs' := fun u_ : Unit => []) (Fs := fun u_ : Unit => [jO o (a, b, fa, ta, sc), sO a C, gW cy a 1 L, gW cy a 7 F, sA cy a Ar, rW cy a d]) hP hD hS hA [] [0, 1, 2, 3, 4, 5] [0, 1, 2, 3, 4, 5] rfl rfl (by decide) (by decide) (fun _ => rfl) (va_runS (As := [.int (nI 1)]) (rest := []) ⟨hx, hb, hml, hown, hts⟩ (c_X4_needIndex_y l D cy (nI 1) (by first | assumption | omega | decide) H.size) (va_cwS 1 hts gX4_guest_X4_needIndex rfl rfl rfl (by decide +kernel) ⟨Nat.le_of_ble_eq_true rfl, Nat.le_of_ble_eq_true rfl⟩) (kPre_S hK hN hP hD [] (by decide) rfl) rfl rfl hl.1 rfl (lv_room (Nat.le_of_ble_eq_true rfl)) dX4_guest_12 ⟨Nat.le_of_ble_eq_true rfl, Nat.le_of_ble_eq_true rfl⟩) (fun u_ H locs hw hP hD hS => ?_)
  refine lv_iload_n hx hb dX4_guest_15 rfl (lv_at hl 3 rfl) ?_
  refine lv_iconst (v := nI 0) hx hb dX4_guest_16 (by decide) ?_
  refine lv_bipush (v := nI 7) hx hb dX4_guest_17 (by decide) ?_
  refine kc_i (Cs := []) (Rs := [jO o (a, b, fa, ta, sc), sO a C, gW cy a 1 L, gW cy a 7 F, sA cy a Ar, rW cy a d]) (Bs := [jO o (a, b, fa, ta, sc), sO a C, gW cy a 1 L, gW cy a 7 F, sA cy a Ar, rW cy a d]) (Cs' := fun u_ : Unit => []) (Fs := fun u_ : Unit => [jO o (a, b, fa, ta, sc), sO a C, gW cy a 1 L, gW cy a 7 F, sA cy a Ar, rW cy a d]) hP hD hS hA [] [0, 1, 2, 3, 4, 5] [0, 1, 2, 3, 4, 5] rfl rfl (by decide) (by decide) (fun _ => rfl) (va_runS (As := [.int w, .int (nI 0), .int (nI 7)]) (rest := []) ⟨hx, hb, hml, hown, hts⟩ (c_X4_isWithin l D cy w (nI 0) (nI 7) H.size) (va_cwS 3 hts gX4_guest_X4_isWithin rfl rfl rfl (by decide +kernel) ⟨Nat.le_of_ble_eq_true rfl, Nat.le_of_ble_eq_true rfl⟩) (kPre_S hK hN hP hD [] (by decide) rfl) rfl rfl hl.1 rfl (lv_room (Nat.le_of_ble_eq_true rfl)) dX4_guest_19 ⟨Nat.le_of_ble_eq_true rfl, Nat.le_of_ble_eq_true rfl⟩) (fun r_ u_ H locs hw hP hD hS => ?_)
  have hw : r_ = if ¬ w < (nI 0) ∧ ¬ (nI 7) < w then nI 1 else nI 0 := hw
  subst hw
  refine kv_i (y := nI 0) (if_neg hbad) ?_
  subst hQ
  exact kx_call ((vx_runS (As := [.int (nI 0)]) (rest := []) ⟨hx, hb, hml, hown, hts⟩ (x_X4_needArgument l hst D cy S H.size) (va_cwS 1 hts gX4_guest_X4_needArgument rfl rfl rfl (by decide +kernel) ⟨Nat.le_of_ble_eq_true rfl, Nat.le_of_ble_eq_true rfl⟩) (kPreX_S hK hN hX hP hD hS hA [] (by decide) rfl) rfl rfl hl.1 rfl (lv_room (Nat.le_of_ble_eq_true rfl)) dX4_guest_22 ⟨Nat.le_of_ble_eq_true rfl, Nat.le_of_ble_eq_true rfl⟩)) hS hA hP htb hlocks (by decide) (by decide)
abbrev rm_X4_setShoes_i : Room := { frames := 7, cells := 1, slots := 6, locals := 102 }
set_option maxHeartbeats 1000000 in
set_option maxRecDepth 100000 in
theorem x_X4_setShoes_i (l : Launch) (hst : l.stackTraces = false) (D : va_G) (cy : Nat → ClassId) (S : Nat × Nat × Nat) (z : Int32) (pr : Int32) (o : Nat → Nat) (a : Nat → Nat) (b : Nat → Nat) (fa : Nat → Nat) (ta : Nat → Nat) (sc : Nat) (hbad : ¬ (¬ z < nI 1 ∧ ¬ nI 9 < z)) (sz : Nat) : vx_Met l yX4_setShoes wsX4_setShoes rm_X4_setShoes_i (va_Pc [.ref (o 0), .int z, .int pr] (kPreX D (kT cy) S [jO o (a, b, fa, ta, sc)] sz)) kNo (kXC D [jO o (a, b, fa, ta, sc)] (va_A (bkF [jO o (a, b, fa, ta, sc)]) sz) nIO) 1 6 (va_A (bkF [jO o (a, b, fa, ta, sc)]) sz) := by
  refine kOpenX (y := yX4_setShoes) (ws := wsX4_setShoes) (cc := cX4_setShoes) (maxL := 4) (ret := (some .int)) (av := [.ref (o 0), .int z, .int pr]) (Bs := [jO o (a, b, fa, ta, sc)]) (XC := fun A => kXC D [jO o (a, b, fa, ta, sc)] A nIO) (by decide) rfl (Nat.le_of_ble_eq_true rfl) ?_
  intro p e s m args below meth c A Q ls hQ hx hb hml hlocks htb hts hown hN hX hK hP hD hS hA hl
  have hl : lv_has ls 4 [(0, .ref (o 0)), (1, .int z), (2, .int pr)] := hl
  suffices K9 : ∀ (H : Heap) (locs : List Loc), va_P D vwCl (bkF [jO o (a, b, fa, ta, sc)]) H → va_S A s.heap H locs → W p l e (headSpec wsX4_setShoes rm_X4_setShoes_i).room s m args below meth c H locs 0 0 Q (F0 m 0 ls []) from K9 _ _ hP hS
  clear hP hS
  intro H locs hP hS
  refine lv_iload_n hx hb dX4_setShoes_0 rfl (lv_at hl 1 rfl) ?_
  refine lv_iconst (v := nI 1) hx hb dX4_setShoes_1 (by decide) ?_
  refine lv_bipush (v := nI 9) hx hb dX4_setShoes_2 (by decide) ?_
  refine kc_i (Cs := []) (Rs := [jO o (a, b, fa, ta, sc)]) (Bs := [jO o (a, b, fa, ta, sc)]) (Cs' := fun u_ : Unit => []) (Fs := fun u_ : Unit => [jO o (a, b, fa, ta, sc)]) hP hD hS hA [] [0] [0] rfl rfl (by decide) (by decide) (fun _ => rfl) (va_runS (As := [.int z, .int (nI 1), .int (nI 9)]) (rest := []) ⟨hx, hb, hml, hown, hts⟩ (c_X4_isWithin l D cy z (nI 1) (nI 9) H.size) (va_cwS 3 hts gX4_setShoes_X4_isWithin rfl rfl rfl (by decide +kernel) ⟨Nat.le_of_ble_eq_true rfl, Nat.le_of_ble_eq_true rfl⟩) (kPre_S hK hN hP hD [] (by decide) rfl) rfl rfl hl.1 rfl (lv_room (Nat.le_of_ble_eq_true rfl)) dX4_setShoes_4 ⟨Nat.le_of_ble_eq_true rfl, Nat.le_of_ble_eq_true rfl⟩) (fun r_ u_ H locs hw hP hD hS => ?_)
  have hw : r_ = if ¬ z < (nI 1) ∧ ¬ (nI 9) < z then nI 1 else nI 0 := hw
  subst hw
  refine kv_i (y := nI 0) (if_neg hbad) ?_
  subst hQ
  exact kx_call ((vx_runS (As := [.int (nI 0)]) (rest := []) ⟨hx, hb, hml, hown, hts⟩ (x_X4_needIndex l hst D cy S H.size) (va_cwS 1 hts gX4_setShoes_X4_needIndex rfl rfl rfl (by decide +kernel) ⟨Nat.le_of_ble_eq_true rfl, Nat.le_of_ble_eq_true rfl⟩) (kPreX_S hK hN hX hP hD hS hA [] (by decide) rfl) rfl rfl hl.1 rfl (lv_room (Nat.le_of_ble_eq_true rfl)) dX4_setShoes_7 ⟨Nat.le_of_ble_eq_true rfl, Nat.le_of_ble_eq_true rfl⟩)) hS hA hP htb hlocks (by decide) (by decide)
abbrev rm_X4_setShoes_a : Room := { frames := 7, cells := 1, slots := 6, locals := 102 }
set_option maxHeartbeats 1000000 in
set_option maxRecDepth 100000 in
theorem x_X4_setShoes_a (l : Launch) (hst : l.stackTraces = false) (D : va_G) (cy : Nat → ClassId) (S : Nat × Nat × Nat) (z : Nat) (pr : Int32) (o : Nat → Nat) (a : Nat → Nat) (b : Nat → Nat) (fa : Nat → Nat) (ta : Nat → Nat) (sc : Nat) (hz1 : 1 ≤ z) (hz : z ≤ 9) (hbad : ¬ (¬ pr < nI 0 ∧ ¬ nI 9 < pr)) (sz : Nat) : vx_Met l yX4_setShoes wsX4_setShoes rm_X4_setShoes_a (va_Pc [.ref (o 0), .int (nI z), .int pr] (kPreX D (kT cy) S [jO o (a, b, fa, ta, sc)] sz)) kNo (kXC D [jO o (a, b, fa, ta, sc)] (va_A (bkF [jO o (a, b, fa, ta, sc)]) sz) nIA) 1 6 (va_A (bkF [jO o (a, b, fa, ta, sc)]) sz) := by
  refine kOpenX (y := yX4_setShoes) (ws := wsX4_setShoes) (cc := cX4_setShoes) (maxL := 4) (ret := (some .int)) (av := [.ref (o 0), .int (nI z), .int pr]) (Bs := [jO o (a, b, fa, ta, sc)]) (XC := fun A => kXC D [jO o (a, b, fa, ta, sc)] A nIA) (by decide) rfl (Nat.le_of_ble_eq_true rfl) ?_
  intro p e s m args below meth c A Q ls hQ hx hb hml hlocks htb hts hown hN hX hK hP hD hS hA hl
  have hl : lv_has ls 4 [(0, .ref (o 0)), (1, .int (nI z)), (2, .int pr)] := hl
  suffices K9 : ∀ (H : Heap) (locs : List Loc), va_P D vwCl (bkF [jO o (a, b, fa, ta, sc)]) H → va_S A s.heap H locs → W p l e (headSpec wsX4_setShoes rm_X4_setShoes_a).room s m args below meth c H locs 0 0 Q (F0 m 0 ls []) from K9 _ _ hP hS
  clear hP hS
  intro H locs hP hS
  refine lv_iload_n hx hb dX4_setShoes_0 rfl (lv_at hl 1 rfl) ?_
  refine lv_iconst (v := nI 1) hx hb dX4_setShoes_1 (by decide) ?_
  refine lv_bipush (v := nI 9) hx hb dX4_setShoes_2 (by decide) ?_
  refine kc_i (Cs := []) (Rs := [jO o (a, b, fa, ta, sc)]) (Bs := [jO o (a, b, fa, ta, sc)]) (Cs' := fun u_ : Unit => []) (Fs := fun u_ : Unit => [jO o (a, b, fa, ta, sc)]) hP hD hS hA [] [0] [0] rfl rfl (by decide) (by decide) (fun _ => rfl) (va_runS (As := [.int (nI z), .int (nI 1), .int (nI 9)]) (rest := []) ⟨hx, hb, hml, hown, hts⟩ (c_X4_isWithin l D cy (nI z) (nI 1) (nI 9) H.size) (va_cwS 3 hts gX4_setShoes_X4_isWithin rfl rfl rfl (by decide +kernel) ⟨Nat.le_of_ble_eq_true rfl, Nat.le_of_ble_eq_true rfl⟩) (kPre_S hK hN hP hD [] (by decide) rfl) rfl rfl hl.1 rfl (lv_room (Nat.le_of_ble_eq_true rfl)) dX4_setShoes_4 ⟨Nat.le_of_ble_eq_true rfl, Nat.le_of_ble_eq_true rfl⟩) (fun r_ u_ H locs hw hP hD hS => ?_)
  have hw : r_ = if ¬ (nI z) < (nI 1) ∧ ¬ (nI 9) < (nI z) then nI 1 else nI 0 := hw
  subst hw
  refine kv_i (y := nI 1) (if_pos (kwin (by omega) (by omega) (by decide))) ?_
  refine kc_v (Cs := []) (Rs := [jO o (a, b, fa, ta, sc)]) (Bs := [jO o (a, b, fa, ta, sc)]) (Cs' := fun u_ : Unit => []) (Fs := fun u_ : Unit => [jO o (a, b, fa, ta, sc)]) hP hD hS hA [] [0] [0] rfl rfl (by decide) (by decide) (fun _ => rfl) (va_runS (As := [.int (nI 1)]) (rest := []) ⟨hx, hb, hml, hown, hts⟩ (c_X4_needIndex_y l D cy (nI 1) (by first | assumption | omega | decide) H.size) (va_cwS 1 hts gX4_setShoes_X4_needIndex rfl rfl rfl (by decide +kernel) ⟨Nat.le_of_ble_eq_true rfl, Nat.le_of_ble_eq_true rfl⟩) (kPre_S hK hN hP hD [] (by decide) rfl) rfl rfl hl.1 rfl (lv_room (Nat.le_of_ble_eq_true rfl)) dX4_setShoes_7 ⟨Nat.le_of_ble_eq_true rfl, Nat.le_of_ble_eq_true rfl⟩) (fun u_ H locs hw hP hD hS => ?_)
  refine lv_iload_n hx hb dX4_setShoes_10 rfl (lv_at hl 2 rfl) ?_
  refine lv_iconst (v := nI 0) hx hb dX4_setShoes_11 (by decide) ?_
  refine lv_bipush (v := nI 9) hx hb dX4_setShoes_12 (by decide) ?_
  refine kc_i (Cs := []) (Rs := [jO o (a, b, fa, ta, sc)]) (Bs := [jO o (a, b, fa, ta, sc)]) (Cs' := fun u_ : Unit => []) (Fs := fun u_ : Unit => [jO o (a, b, fa, ta, sc)]) hP hD hS hA [] [0] [0] rfl rfl (by decide) (by decide) (fun _ => rfl) (va_runS (As := [.int pr, .int (nI 0), .int (nI 9)]) (rest := []) ⟨hx, hb, hml, hown, hts⟩ (c_X4_isWithin l D cy pr (nI 0) (nI 9) H.size) (va_cwS 3 hts gX4_setShoes_X4_isWithin rfl rfl rfl (by decide +kernel) ⟨Nat.le_of_ble_eq_true rfl, Nat.le_of_ble_eq_true rfl⟩) (kPre_S hK hN hP hD [] (by decide) rfl) rfl rfl hl.1 rfl (lv_room (Nat.le_of_ble_eq_true rfl)) dX4_setShoes_14 ⟨Nat.le_of_ble_eq_true rfl, Nat.le_of_ble_eq_true rfl⟩) (fun r_ u_ H locs hw hP hD hS => ?_)
  have hw : r_ = if ¬ pr < (nI 0) ∧ ¬ (nI 9) < pr then nI 1 else nI 0 := hw
  subst hw
  refine kv_i (y := nI 0) (if_neg hbad) ?_
  subst hQ
  exact kx_call ((vx_runS (As := [.int (nI 0)]) (rest := []) ⟨hx, hb, hml, hown, hts⟩ (x_X4_needArgument l hst D cy S H.size) (va_cwS 1 hts gX4_setShoes_X4_needArgument rfl rfl rfl (by decide +kernel) ⟨Nat.le_of_ble_eq_true rfl, Nat.le_of_ble_eq_true rfl⟩) (kPreX_S hK hN hX hP hD hS hA [] (by decide) rfl) rfl rfl hl.1 rfl (lv_room (Nat.le_of_ble_eq_true rfl)) dX4_setShoes_17 ⟨Nat.le_of_ble_eq_true rfl, Nat.le_of_ble_eq_true rfl⟩)) hS hA hP htb hlocks (by decide) (by decide)
abbrev rm_X4_setLamps_a : Room := { frames := 7, cells := 1, slots := 6, locals := 102 }
set_option maxHeartbeats 1000000 in
set_option maxRecDepth 100000 in
theorem x_X4_setLamps_a (l : Launch) (hst : l.stackTraces = false) (D : va_G) (cy : Nat → ClassId) (S : Nat × Nat × Nat) (lm : Int32) (oi : Int32) (o : Nat → Nat) (a : Nat → Nat) (b : Nat → Nat) (fa : Nat → Nat) (ta : Nat → Nat) (sc : Nat) (hbad : ¬ ((¬ lm < nI 1 ∧ ¬ nI 6 < lm) ∧ (¬ oi < nI 0 ∧ ¬ nI 999 < oi))) (sz : Nat) : vx_Met l yX4_setLamps wsX4_setLamps rm_X4_setLamps_a (va_Pc [.ref (o 0), .int lm, .int oi] (kPreX D (kT cy) S [jO o (a, b, fa, ta, sc)] sz)) kNo (kXC D [jO o (a, b, fa, ta, sc)] (va_A (bkF [jO o (a, b, fa, ta, sc)]) sz) nIA) 1 6 (va_A (bkF [jO o (a, b, fa, ta, sc)]) sz) := by
  refine kOpenX (y := yX4_setLamps) (ws := wsX4_setLamps) (cc := cX4_setLamps) (maxL := 4) (ret := (some .int)) (av := [.ref (o 0), .int lm, .int oi]) (Bs := [jO o (a, b, fa, ta, sc)]) (XC := fun A => kXC D [jO o (a, b, fa, ta, sc)] A nIA) (by decide) rfl (Nat.le_of_ble_eq_true rfl) ?_
  intro p e s m args below meth c A Q ls hQ hx hb hml hlocks htb hts hown hN hX hK hP hD hS hA hl
  have hl : lv_has ls 4 [(0, .ref (o 0)), (1, .int lm), (2, .int oi)] := hl
  suffices K9 : ∀ (H : Heap) (locs : List Loc), va_P D vwCl (bkF [jO o (a, b, fa, ta, sc)]) H → va_S A s.heap H locs → W p l e (headSpec wsX4_setLamps rm_X4_setLamps_a).room s m args below meth c H locs 0 0 Q (F0 m 0 ls []) from K9 _ _ hP hS
  clear hP hS
  intro H locs hP hS
  refine lv_iload_n hx hb dX4_setLamps_0 rfl (lv_at hl 1 rfl) ?_
  refine lv_iconst (v := nI 1) hx hb dX4_setLamps_1 (by decide) ?_
  refine lv_bipush (v := nI 6) hx hb dX4_setLamps_2 (by decide) ?_
  refine kc_i (Cs := []) (Rs := [jO o (a, b, fa, ta, sc)]) (Bs := [jO o (a, b, fa, ta, sc)]) (Cs' := fun u_ : Unit => []) (Fs := fun u_ : Unit => [jO o (a, b, fa, ta, sc)]) hP hD hS hA [] [0] [0] rfl rfl (by decide) (by decide) (fun _ => rfl) (va_runS (As := [.int lm, .int (nI 1), .int (nI 6)]) (rest := []) ⟨hx, hb, hml, hown, hts⟩ (c_X4_isWithin l D cy lm (nI 1) (nI 6) H.size) (va_cwS 3 hts gX4_setLamps_X4_isWithin rfl rfl rfl (by decide +kernel) ⟨Nat.le_of_ble_eq_true rfl, Nat.le_of_ble_eq_true rfl⟩) (kPre_S hK hN hP hD [] (by decide) rfl) rfl rfl hl.1 rfl (lv_room (Nat.le_of_ble_eq_true rfl)) dX4_setLamps_4 ⟨Nat.le_of_ble_eq_true rfl, Nat.le_of_ble_eq_true rfl⟩) (fun r_ u_ H locs hw hP hD hS => ?_)
  have hw : r_ = if ¬ lm < (nI 1) ∧ ¬ (nI 6) < lm then nI 1 else nI 0 := hw
  subst hw
  by_cases b_4 : ¬ lm < (nI 1) ∧ ¬ (nI 6) < lm
  · refine kv_i (y := nI 1) (if_pos b_4) ?_
    refine lv_if_eq (tgt := 25) hx hb dX4_setLamps_7 (by decide) (fun h => absurd h (by decide)) (fun _ => ?_)
    refine lv_iload_n hx hb dX4_setLamps_10 rfl (lv_at hl 2 rfl) ?_
    refine lv_iconst (v := nI 0) hx hb dX4_setLamps_11 (by decide) ?_
    refine lv_sipush (v := nI 999) hx hb dX4_setLamps_12 (by decide) ?_
    refine kc_i (Cs := []) (Rs := [jO o (a, b, fa, ta, sc)]) (Bs := [jO o (a, b, fa, ta, sc)]) (Cs' := fun u_ : Unit => []) (Fs := fun u_ : Unit => [jO o (a, b, fa, ta, sc)]) hP hD hS hA [] [0] [0] rfl rfl (by decide) (by decide) (fun _ => rfl) (va_runS (As := [.int oi, .int (nI 0), .int (nI 999)]) (rest := []) ⟨hx, hb, hml, hown, hts⟩ (c_X4_isWithin l D cy oi (nI 0) (nI 999) H.size) (va_cwS 3 hts gX4_setLamps_X4_isWithin rfl rfl rfl (by decide +kernel) ⟨Nat.le_of_ble_eq_true rfl, Nat.le_of_ble_eq_true rfl⟩) (kPre_S hK hN hP hD [] (by decide) rfl) rfl rfl hl.1 rfl (lv_room (Nat.le_of_ble_eq_true rfl)) dX4_setLamps_15 ⟨Nat.le_of_ble_eq_true rfl, Nat.le_of_ble_eq_true rfl⟩) (fun r_ u_ H locs hw hP hD hS => ?_)
    have hw : r_ = if ¬ oi < (nI 0) ∧ ¬ (nI 999) < oi then nI 1 else nI 0 := hw
    subst hw
    by_cases b_15 : ¬ oi < (nI 0) ∧ ¬ (nI 999) < oi
    · refine kv_i (y := nI 1) (if_pos b_15) ?_
      refine lv_if_eq (tgt := 25) hx hb dX4_setLamps_18 (by decide) (fun h => absurd h (by decide)) (fun _ => ?_)
      refine lv_iconst (v := nI 1) hx hb dX4_setLamps_21 (by decide) ?_
      refine lv_goto (tgt := 26) hx hb dX4_setLamps_22 (by decide) ?_
      exact absurd ⟨b_4, b_15⟩ hbad
    · refine kv_i (y := nI 0) (if_neg b_15) ?_
      refine lv_if_eq (tgt := 25) hx hb dX4_setLamps_18 (by decide) (fun _ => ?_) (fun h => absurd h (by decide))
      refine lv_iconst (v := nI 0) hx hb dX4_setLamps_25 (by decide) ?_
      subst hQ
      exact kx_call ((vx_runS (As := [.int (nI 0)]) (rest := []) ⟨hx, hb, hml, hown, hts⟩ (x_X4_needArgument l hst D cy S H.size) (va_cwS 1 hts gX4_setLamps_X4_needArgument rfl rfl rfl (by decide +kernel) ⟨Nat.le_of_ble_eq_true rfl, Nat.le_of_ble_eq_true rfl⟩) (kPreX_S hK hN hX hP hD hS hA [] (by decide) rfl) rfl rfl hl.1 rfl (lv_room (Nat.le_of_ble_eq_true rfl)) dX4_setLamps_26 ⟨Nat.le_of_ble_eq_true rfl, Nat.le_of_ble_eq_true rfl⟩)) hS hA hP htb hlocks (by decide) (by decide)
  · refine kv_i (y := nI 0) (if_neg b_4) ?_
    refine lv_if_eq (tgt := 25) hx hb dX4_setLamps_7 (by decide) (fun _ => ?_) (fun h => absurd h (by decide))
    refine lv_iconst (v := nI 0) hx hb dX4_setLamps_25 (by decide) ?_
    subst hQ
    exact kx_call ((vx_runS (As := [.int (nI 0)]) (rest := []) ⟨hx, hb, hml, hown, hts⟩ (x_X4_needArgument l hst D cy S H.size) (va_cwS 1 hts gX4_setLamps_X4_needArgument rfl rfl rfl (by decide +kernel) ⟨Nat.le_of_ble_eq_true rfl, Nat.le_of_ble_eq_true rfl⟩) (kPreX_S hK hN hX hP hD hS hA [] (by decide) rfl) rfl rfl hl.1 rfl (lv_room (Nat.le_of_ble_eq_true rfl)) dX4_setLamps_26 ⟨Nat.le_of_ble_eq_true rfl, Nat.le_of_ble_eq_true rfl⟩)) hS hA hP htb hlocks (by decide) (by decide)
abbrev rm_X4_setFiddlers_a : Room := { frames := 7, cells := 1, slots := 6, locals := 102 }
set_option maxHeartbeats 1000000 in
set_option maxRecDepth 100000 in
theorem x_X4_setFiddlers_a (l : Launch) (hst : l.stackTraces = false) (D : va_G) (cy : Nat → ClassId) (S : Nat × Nat × Nat) (k : Int32) (o : Nat → Nat) (a : Nat → Nat) (b : Nat → Nat) (fa : Nat → Nat) (ta : Nat → Nat) (sc : Nat) (hbad : ¬ (¬ k < nI 1 ∧ ¬ nI 4 < k)) (sz : Nat) : vx_Met l yX4_setFiddlers wsX4_setFiddlers rm_X4_setFiddlers_a (va_Pc [.ref (o 0), .int k] (kPreX D (kT cy) S [jO o (a, b, fa, ta, sc)] sz)) kNo (kXC D [jO o (a, b, fa, ta, sc)] (va_A (bkF [jO o (a, b, fa, ta, sc)]) sz) nIA) 1 6 (va_A (bkF [jO o (a, b, fa, ta, sc)]) sz) := by
  refine kOpenX (y := yX4_setFiddlers) (ws := wsX4_setFiddlers) (cc := cX4_setFiddlers) (maxL := 3) (ret := (some .int)) (av := [.ref (o 0), .int k]) (Bs := [jO o (a, b, fa, ta, sc)]) (XC := fun A => kXC D [jO o (a, b, fa, ta, sc)] A nIA) (by decide) rfl (Nat.le_of_ble_eq_true rfl) ?_
  intro p e s m args below meth c A Q ls hQ hx hb hml hlocks htb hts hown hN hX hK hP hD hS hA hl
  have hl : lv_has ls 3 [(0, .ref (o 0)), (1, .int k)] := hl
  suffices K9 : ∀ (H : Heap) (locs : List Loc), va_P D vwCl (bkF [jO o (a, b, fa, ta, sc)]) H → va_S A s.heap H locs → W p l e (headSpec wsX4_setFiddlers rm_X4_setFiddlers_a).room s m args below meth c H locs 0 0 Q (F0 m 0 ls []) from K9 _ _ hP hS
  clear hP hS
  intro H locs hP hS
  refine lv_iload_n hx hb dX4_setFiddlers_0 rfl (lv_at hl 1 rfl) ?_
  refine lv_iconst (v := nI 1) hx hb dX4_setFiddlers_1 (by decide) ?_
  refine lv_iconst (v := nI 4) hx hb dX4_setFiddlers_2 (by decide) ?_
  refine kc_i (Cs := []) (Rs := [jO o (a, b, fa, ta, sc)]) (Bs := [jO o (a, b, fa, ta, sc)]) (Cs' := fun u_ : Unit => []) (Fs := fun u_ : Unit => [jO o (a, b, fa, ta, sc)]) hP hD hS hA [] [0] [0] rfl rfl (by decide) (by decide) (fun _ => rfl) (va_runS (As := [.int k, .int (nI 1), .int (nI 4)]) (rest := []) ⟨hx, hb, hml, hown, hts⟩ (c_X4_isWithin l D cy k (nI 1) (nI 4) H.size) (va_cwS 3 hts gX4_setFiddlers_X4_isWithin rfl rfl rfl (by decide +kernel) ⟨Nat.le_of_ble_eq_true rfl, Nat.le_of_ble_eq_true rfl⟩) (kPre_S hK hN hP hD [] (by decide) rfl) rfl rfl hl.1 rfl (lv_room (Nat.le_of_ble_eq_true rfl)) dX4_setFiddlers_3 ⟨Nat.le_of_ble_eq_true rfl, Nat.le_of_ble_eq_true rfl⟩) (fun r_ u_ H locs hw hP hD hS => ?_)
  have hw : r_ = if ¬ k < (nI 1) ∧ ¬ (nI 4) < k then nI 1 else nI 0 := hw
  subst hw
  refine kv_i (y := nI 0) (if_neg hbad) ?_
  subst hQ
  exact kx_call ((vx_runS (As := [.int (nI 0)]) (rest := []) ⟨hx, hb, hml, hown, hts⟩ (x_X4_needArgument l hst D cy S H.size) (va_cwS 1 hts gX4_setFiddlers_X4_needArgument rfl rfl rfl (by decide +kernel) ⟨Nat.le_of_ble_eq_true rfl, Nat.le_of_ble_eq_true rfl⟩) (kPreX_S hK hN hX hP hD hS hA [] (by decide) rfl) rfl rfl hl.1 rfl (lv_room (Nat.le_of_ble_eq_true rfl)) dX4_setFiddlers_6 ⟨Nat.le_of_ble_eq_true rfl, Nat.le_of_ble_eq_true rfl⟩)) hS hA hP htb hlocks (by decide) (by decide)
abbrev rm_X4_setPart_i : Room := { frames := 7, cells := 1, slots := 6, locals := 102 }
set_option maxHeartbeats 1000000 in
set_option maxRecDepth 100000 in
theorem x_X4_setPart_i (l : Launch) (hst : l.stackTraces = false) (D : va_G) (cy : Nat → ClassId) (S : Nat × Nat × Nat) (f : Int32) (k : Int32) (o : Nat → Nat) (a : Nat → Nat) (b : Nat → Nat) (fa : Nat → Nat) (ta : Nat → Nat) (sc : Nat) (C : rC) (L : rG) (F : rG) (Ar : rA) (d : Nat → Nat → Int32) (hbad : ¬ (¬ f < nI 0 ∧ ¬ nI C.2.2.2.1 ≤ f)) (sz : Nat) : vx_Met l yX4_setPart wsX4_setPart rm_X4_setPart_i (va_Pc [.ref (o 0), .int f, .int k] (kPreX D (kT cy) S [jO o (a, b, fa, ta, sc), sO a C, gW cy a 1 L, gW cy a 7 F, sA cy a Ar, rW cy a d] sz)) kNo (kXC D [jO o (a, b, fa, ta, sc), sO a C, gW cy a 1 L, gW cy a 7 F, sA cy a Ar, rW cy a d] (va_A (bkF [jO o (a, b, fa, ta, sc), sO a C, gW cy a 1 L, gW cy a 7 F, sA cy a Ar, rW cy a d]) sz) nIO) 1 6 (va_A (bkF [jO o (a, b, fa, ta, sc), sO a C, gW cy a 1 L, gW cy a 7 F, sA cy a Ar, rW cy a d]) sz) := by
  refine kOpenX (y := yX4_setPart) (ws := wsX4_setPart) (cc := cX4_setPart) (maxL := 4) (ret := (some .int)) (av := [.ref (o 0), .int f, .int k]) (Bs := [jO o (a, b, fa, ta, sc), sO a C, gW cy a 1 L, gW cy a 7 F, sA cy a Ar, rW cy a d]) (XC := fun A => kXC D [jO o (a, b, fa, ta, sc), sO a C, gW cy a 1 L, gW cy a 7 F, sA cy a Ar, rW cy a d] A nIO) (by decide) rfl (Nat.le_of_ble_eq_true rfl) ?_
  intro p e s m args below meth c A Q ls hQ hx hb hml hlocks htb hts hown hN hX hK hP hD hS hA hl
  have hl : lv_has ls 4 [(0, .ref (o 0)), (1, .int f), (2, .int k)] := hl
  suffices K9 : ∀ (H : Heap) (locs : List Loc), va_P D vwCl (bkF [jO o (a, b, fa, ta, sc), sO a C, gW cy a 1 L, gW cy a 7 F, sA cy a Ar, rW cy a d]) H → va_S A s.heap H locs → W p l e (headSpec wsX4_setPart rm_X4_setPart_i).room s m args below meth c H locs 0 0 Q (F0 m 0 ls []) from K9 _ _ hP hS
  clear hP hS
  intro H locs hP hS
  refine lv_aload_n hx hb dX4_setPart_0 rfl (lv_at hl 0 rfl) ?_
  refine va_get (D := D) (ci := 4) (v := .ref (a 0)) (C := RX4) (T := TX4) (N := 6) hx hb hts (by decide +kernel) hown hK hP 0 rfl rfl 0 (by decide) (hts (.fieldLink RX4 12 "DanceHall" "hall" "LDanceHall$State;") (by decide +kernel)) (fun _ h9 => h9) rfl dX4_setPart_1 ?_
  refine lv_iload_n hx hb dX4_setPart_4 rfl (lv_at hl 1 rfl) ?_
  refine kc_i (Cs := [sO a C]) (Rs := [jO o (a, b, fa, ta, sc), gW cy a 1 L, gW cy a 7 F, sA cy a Ar, rW cy a d]) (Bs := [jO o (a, b, fa, ta, sc), sO a C, gW cy a 1 L, gW cy a 7 F, sA cy a Ar, rW cy a d]) (Cs' := fun u_ : Unit => [sO a C]) (Fs := fun u_ : Unit => [jO o (a, b, fa, ta, sc), sO a C, gW cy a 1 L, gW cy a 7 F, sA cy a Ar, rW cy a d]) hP hD hS hA [1] [0, 2, 3, 4, 5] [0, 5, 1, 2, 3, 4] rfl rfl (by decide) (by decide) (fun _ => rfl) (va_runV (As := [.int f]) (rest := []) ⟨hx, hb, hml, hown, hts⟩ (c_X3_hasFiddler l D cy a C f H.size) (cwV 1 hts gX4_setPart_X3_hasFiddler rfl rfl rfl (by decide +kernel) ⟨Nat.le_of_ble_eq_true rfl, Nat.le_of_ble_eq_true rfl⟩) (kPre_V (ci := 3) hK hN hP hD [1] (by decide) rfl 0 rfl rfl) rfl rfl hl.1 rfl (lv_room (Nat.le_of_ble_eq_true rfl)) dX4_setPart_5 ⟨Nat.le_of_ble_eq_true rfl, Nat.le_of_ble_eq_true rfl⟩) (fun r_ u_ H locs hw hP hD hS => ?_)
  have hw : r_ = if ¬ f < nI 0 ∧ ¬ nI C.2.2.2.1 ≤ f then nI 1 else nI 0 := hw
  subst hw
  refine kv_i (y := nI 0) (if_neg hbad) ?_
  subst hQ
  exact kx_call ((vx_runS (As := [.int (nI 0)]) (rest := []) ⟨hx, hb, hml, hown, hts⟩ (x_X4_needIndex l hst D cy S H.size) (va_cwS 1 hts gX4_setPart_X4_needIndex rfl rfl rfl (by decide +kernel) ⟨Nat.le_of_ble_eq_true rfl, Nat.le_of_ble_eq_true rfl⟩) (kPreX_S hK hN hX hP hD hS hA [] (by decide) rfl) rfl rfl hl.1 rfl (lv_room (Nat.le_of_ble_eq_true rfl)) dX4_setPart_8 ⟨Nat.le_of_ble_eq_true rfl, Nat.le_of_ble_eq_true rfl⟩)) hS hA hP htb hlocks (by decide) (by decide)
abbrev rm_X4_setPart_a : Room := { frames := 7, cells := 1, slots := 6, locals := 102 }
set_option maxHeartbeats 1000000 in
set_option maxRecDepth 100000 in
theorem x_X4_setPart_a (l : Launch) (hst : l.stackTraces = false) (D : va_G) (cy : Nat → ClassId) (S : Nat × Nat × Nat) (f : Nat) (k : Int32) (o : Nat → Nat) (a : Nat → Nat) (b : Nat → Nat) (fa : Nat → Nat) (ta : Nat → Nat) (sc : Nat) (C : rC) (L : rG) (F : rG) (Ar : rA) (d : Nat → Nat → Int32) (hfn : C.2.2.2.1 ≤ 4) (hf : f < C.2.2.2.1) (hbad : ¬ (¬ k < nI 1 ∧ ¬ nI 9 < k)) (sz : Nat) : vx_Met l yX4_setPart wsX4_setPart rm_X4_setPart_a (va_Pc [.ref (o 0), .int (nI f), .int k] (kPreX D (kT cy) S [jO o (a, b, fa, ta, sc), sO a C, gW cy a 1 L, gW cy a 7 F, sA cy a Ar, rW cy a d] sz)) kNo (kXC D [jO o (a, b, fa, ta, sc), sO a C, gW cy a 1 L, gW cy a 7 F, sA cy a Ar, rW cy a d] (va_A (bkF [jO o (a, b, fa, ta, sc), sO a C, gW cy a 1 L, gW cy a 7 F, sA cy a Ar, rW cy a d]) sz) nIA) 1 6 (va_A (bkF [jO o (a, b, fa, ta, sc), sO a C, gW cy a 1 L, gW cy a 7 F, sA cy a Ar, rW cy a d]) sz) := by
  refine kOpenX (y := yX4_setPart) (ws := wsX4_setPart) (cc := cX4_setPart) (maxL := 4) (ret := (some .int)) (av := [.ref (o 0), .int (nI f), .int k]) (Bs := [jO o (a, b, fa, ta, sc), sO a C, gW cy a 1 L, gW cy a 7 F, sA cy a Ar, rW cy a d]) (XC := fun A => kXC D [jO o (a, b, fa, ta, sc), sO a C, gW cy a 1 L, gW cy a 7 F, sA cy a Ar, rW cy a d] A nIA) (by decide) rfl (Nat.le_of_ble_eq_true rfl) ?_
  intro p e s m args below meth c A Q ls hQ hx hb hml hlocks htb hts hown hN hX hK hP hD hS hA hl
  have hl : lv_has ls 4 [(0, .ref (o 0)), (1, .int (nI f)), (2, .int k)] := hl
  suffices K9 : ∀ (H : Heap) (locs : List Loc), va_P D vwCl (bkF [jO o (a, b, fa, ta, sc), sO a C, gW cy a 1 L, gW cy a 7 F, sA cy a Ar, rW cy a d]) H → va_S A s.heap H locs → W p l e (headSpec wsX4_setPart rm_X4_setPart_a).room s m args below meth c H locs 0 0 Q (F0 m 0 ls []) from K9 _ _ hP hS
  clear hP hS
  intro H locs hP hS
  refine lv_aload_n hx hb dX4_setPart_0 rfl (lv_at hl 0 rfl) ?_
  refine va_get (D := D) (ci := 4) (v := .ref (a 0)) (C := RX4) (T := TX4) (N := 6) hx hb hts (by decide +kernel) hown hK hP 0 rfl rfl 0 (by decide) (hts (.fieldLink RX4 12 "DanceHall" "hall" "LDanceHall$State;") (by decide +kernel)) (fun _ h9 => h9) rfl dX4_setPart_1 ?_
  refine lv_iload_n hx hb dX4_setPart_4 rfl (lv_at hl 1 rfl) ?_
  refine kc_i (Cs := [sO a C]) (Rs := [jO o (a, b, fa, ta, sc), gW cy a 1 L, gW cy a 7 F, sA cy a Ar, rW cy a d]) (Bs := [jO o (a, b, fa, ta, sc), sO a C, gW cy a 1 L, gW cy a 7 F, sA cy a Ar, rW cy a d]) (Cs' := fun u_ : Unit => [sO a C]) (Fs := fun u_ : Unit => [jO o (a, b, fa, ta, sc), sO a C, gW cy a 1 L, gW cy a 7 F, sA cy a Ar, rW cy a d]) hP hD hS hA [1] [0, 2, 3, 4, 5] [0, 5, 1, 2, 3, 4] rfl rfl (by decide) (by decide) (fun _ => rfl) (va_runV (As := [.int (nI f)]) (rest := []) ⟨hx, hb, hml, hown, hts⟩ (c_X3_hasFiddler l D cy a C (nI f) H.size) (cwV 1 hts gX4_setPart_X3_hasFiddler rfl rfl rfl (by decide +kernel) ⟨Nat.le_of_ble_eq_true rfl, Nat.le_of_ble_eq_true rfl⟩) (kPre_V (ci := 3) hK hN hP hD [1] (by decide) rfl 0 rfl rfl) rfl rfl hl.1 rfl (lv_room (Nat.le_of_ble_eq_true rfl)) dX4_setPart_5 ⟨Nat.le_of_ble_eq_true rfl, Nat.le_of_ble_eq_true rfl⟩) (fun r_ u_ H locs hw hP hD hS => ?_)
  have hw : r_ = if ¬ (nI f) < nI 0 ∧ ¬ nI C.2.2.2.1 ≤ (nI f) then nI 1 else nI 0 := hw
  subst hw
  refine kv_i (y := nI 1) (if_pos (khas (by omega) (by omega))) ?_
  refine kc_v (Cs := []) (Rs := [jO o (a, b, fa, ta, sc), sO a C, gW cy a 1 L, gW cy a 7 F, sA cy a Ar, rW cy a d]) (Bs := [jO o (a, b, fa, ta, sc), sO a C, gW cy a 1 L, gW cy a 7 F, sA cy a Ar, rW cy a d]) (Cs' := fun u_ : Unit => []) (Fs := fun u_ : Unit => [jO o (a, b, fa, ta, sc), sO a C, gW cy a 1 L, gW cy a 7 F, sA cy a Ar, rW cy a d]) hP hD hS hA [] [0, 1, 2, 3, 4, 5] [0, 1, 2, 3, 4, 5] rfl rfl (by decide) (by decide) (fun _ => rfl) (va_runS (As := [.int (nI 1)]) (rest := []) ⟨hx, hb, hml, hown, hts⟩ (c_X4_needIndex_y l D cy (nI 1) (by first | assumption | omega | decide) H.size) (va_cwS 1 hts gX4_setPart_X4_needIndex rfl rfl rfl (by decide +kernel) ⟨Nat.le_of_ble_eq_true rfl, Nat.le_of_ble_eq_true rfl⟩) (kPre_S hK hN hP hD [] (by decide) rfl) rfl rfl hl.1 rfl (lv_room (Nat.le_of_ble_eq_true rfl)) dX4_setPart_8 ⟨Nat.le_of_ble_eq_true rfl, Nat.le_of_ble_eq_true rfl⟩) (fun u_ H locs hw hP hD hS => ?_)
  refine lv_iload_n hx hb dX4_setPart_11 rfl (lv_at hl 2 rfl) ?_
  refine lv_iconst (v := nI 1) hx hb dX4_setPart_12 (by decide) ?_
  refine lv_bipush (v := nI 9) hx hb dX4_setPart_13 (by decide) ?_
  refine kc_i (Cs := []) (Rs := [jO o (a, b, fa, ta, sc), sO a C, gW cy a 1 L, gW cy a 7 F, sA cy a Ar, rW cy a d]) (Bs := [jO o (a, b, fa, ta, sc), sO a C, gW cy a 1 L, gW cy a 7 F, sA cy a Ar, rW cy a d]) (Cs' := fun u_ : Unit => []) (Fs := fun u_ : Unit => [jO o (a, b, fa, ta, sc), sO a C, gW cy a 1 L, gW cy a 7 F, sA cy a Ar, rW cy a d]) hP hD hS hA [] [0, 1, 2, 3, 4, 5] [0, 1, 2, 3, 4, 5] rfl rfl (by decide) (by decide) (fun _ => rfl) (va_runS (As := [.int k, .int (nI 1), .int (nI 9)]) (rest := []) ⟨hx, hb, hml, hown, hts⟩ (c_X4_isWithin l D cy k (nI 1) (nI 9) H.size) (va_cwS 3 hts gX4_setPart_X4_isWithin rfl rfl rfl (by decide +kernel) ⟨Nat.le_of_ble_eq_true rfl, Nat.le_of_ble_eq_true rfl⟩) (kPre_S hK hN hP hD [] (by decide) rfl) rfl rfl hl.1 rfl (lv_room (Nat.le_of_ble_eq_true rfl)) dX4_setPart_15 ⟨Nat.le_of_ble_eq_true rfl, Nat.le_of_ble_eq_true rfl⟩) (fun r_ u_ H locs hw hP hD hS => ?_)
  have hw : r_ = if ¬ k < (nI 1) ∧ ¬ (nI 9) < k then nI 1 else nI 0 := hw
  subst hw
  refine kv_i (y := nI 0) (if_neg hbad) ?_
  subst hQ
  exact kx_call ((vx_runS (As := [.int (nI 0)]) (rest := []) ⟨hx, hb, hml, hown, hts⟩ (x_X4_needArgument l hst D cy S H.size) (va_cwS 1 hts gX4_setPart_X4_needArgument rfl rfl rfl (by decide +kernel) ⟨Nat.le_of_ble_eq_true rfl, Nat.le_of_ble_eq_true rfl⟩) (kPreX_S hK hN hX hP hD hS hA [] (by decide) rfl) rfl rfl hl.1 rfl (lv_room (Nat.le_of_ble_eq_true rfl)) dX4_setPart_18 ⟨Nat.le_of_ble_eq_true rfl, Nat.le_of_ble_eq_true rfl⟩)) hS hA hP htb hlocks (by decide) (by decide)
abbrev rm_X4_dance_s : Room := { frames := 7, cells := 1, slots := 6, locals := 102 }
set_option maxHeartbeats 1000000 in
set_option maxRecDepth 100000 in
theorem x_X4_dance_s (l : Launch) (hst : l.stackTraces = false) (D : va_G) (cy : Nat → ClassId) (S : Nat × Nat × Nat) (o : Nat → Nat) (a : Nat → Nat) (b : Nat → Nat) (fa : Nat → Nat) (ta : Nat → Nat) (sc : Nat) (C : rC) (L : rG) (F : rG) (Ar : rA) (d : Nat → Nat → Int32) (hla : C.1 ≤ 6) (ho9 : C.2.1 ≤ 999) (hdn : C.2.2.2.2.2.2.1 ≤ 30) (hbad : ¬ kPoss C) (sz : Nat) : vx_Met l yX4_dance wsX4_dance rm_X4_dance_s (va_Pc [.ref (o 0)] (kPreX D (kT cy) S [jO o (a, b, fa, ta, sc), sO a C, gW cy a 1 L, gW cy a 7 F, sA cy a Ar, rW cy a d] sz)) kNo (kXC D [jO o (a, b, fa, ta, sc), sO a C, gW cy a 1 L, gW cy a 7 F, sA cy a Ar, rW cy a d] (va_A (bkF [jO o (a, b, fa, ta, sc), sO a C, gW cy a 1 L, gW cy a 7 F, sA cy a Ar, rW cy a d]) sz) nIS) 1 6 (va_A (bkF [jO o (a, b, fa, ta, sc), sO a C, gW cy a 1 L, gW cy a 7 F, sA cy a Ar, rW cy a d]) sz) := by
  refine kOpenX (y := yX4_dance) (ws := wsX4_dance) (cc := cX4_dance) (maxL := 1) (ret := (some .int)) (av := [.ref (o 0)]) (Bs := [jO o (a, b, fa, ta, sc), sO a C, gW cy a 1 L, gW cy a 7 F, sA cy a Ar, rW cy a d]) (XC := fun A => kXC D [jO o (a, b, fa, ta, sc), sO a C, gW cy a 1 L, gW cy a 7 F, sA cy a Ar, rW cy a d] A nIS) (by decide) rfl (Nat.le_of_ble_eq_true rfl) ?_
  intro p e s m args below meth c A Q ls hQ hx hb hml hlocks htb hts hown hN hX hK hP hD hS hA hl
  have hl : lv_has ls 1 [(0, .ref (o 0))] := hl
  suffices K9 : ∀ (H : Heap) (locs : List Loc), va_P D vwCl (bkF [jO o (a, b, fa, ta, sc), sO a C, gW cy a 1 L, gW cy a 7 F, sA cy a Ar, rW cy a d]) H → va_S A s.heap H locs → W p l e (headSpec wsX4_dance rm_X4_dance_s).room s m args below meth c H locs 0 0 Q (F0 m 0 ls []) from K9 _ _ hP hS
  clear hP hS
  intro H locs hP hS
  refine lv_aload_n hx hb dX4_dance_0 rfl (lv_at hl 0 rfl) ?_
  refine va_get (D := D) (ci := 4) (v := .ref (a 0)) (C := RX4) (T := TX4) (N := 6) hx hb hts (by decide +kernel) hown hK hP 0 rfl rfl 0 (by decide) (hts (.fieldLink RX4 12 "DanceHall" "hall" "LDanceHall$State;") (by decide +kernel)) (fun _ h9 => h9) rfl dX4_dance_1 ?_
  refine kc_i (Cs := [sO a C]) (Rs := [jO o (a, b, fa, ta, sc), gW cy a 1 L, gW cy a 7 F, sA cy a Ar, rW cy a d]) (Bs := [jO o (a, b, fa, ta, sc), sO a C, gW cy a 1 L, gW cy a 7 F, sA cy a Ar, rW cy a d]) (Cs' := fun u_ : Unit => [sO a C]) (Fs := fun u_ : Unit => [jO o (a, b, fa, ta, sc), sO a C, gW cy a 1 L, gW cy a 7 F, sA cy a Ar, rW cy a d]) hP hD hS hA [1] [0, 2, 3, 4, 5] [0, 5, 1, 2, 3, 4] rfl rfl (by decide) (by decide) (fun _ => rfl) (va_runV (As := []) (rest := []) ⟨hx, hb, hml, hown, hts⟩ (c_X3_isDancePossible l D cy a C hla ho9 hdn H.size) (cwV 0 hts gX4_dance_X3_isDancePossible rfl rfl rfl (by decide +kernel) ⟨Nat.le_of_ble_eq_true rfl, Nat.le_of_ble_eq_true rfl⟩) (kPre_V (ci := 3) hK hN hP hD [1] (by decide) rfl 0 rfl rfl) rfl rfl hl.1 rfl (lv_room (Nat.le_of_ble_eq_true rfl)) dX4_dance_4 ⟨Nat.le_of_ble_eq_true rfl, Nat.le_of_ble_eq_true rfl⟩) (fun r_ u_ H locs hw hP hD hS => ?_)
  have hw : r_ = if ¬ min C.1 (C.2.1 / 2) ≤ 0 ∧ ¬ 30 ≤ C.2.2.2.2.2.2.1 then nI 1 else nI 0 := hw
  subst hw
  refine kv_i (y := nI 0) (if_neg hbad) ?_
  subst hQ
  exact kx_call ((vx_runS (As := [.int (nI 0)]) (rest := []) ⟨hx, hb, hml, hown, hts⟩ (x_X4_needState l hst D cy S H.size) (va_cwS 1 hts gX4_dance_X4_needState rfl rfl rfl (by decide +kernel) ⟨Nat.le_of_ble_eq_true rfl, Nat.le_of_ble_eq_true rfl⟩) (kPreX_S hK hN hX hP hD hS hA [] (by decide) rfl) rfl rfl hl.1 rfl (lv_room (Nat.le_of_ble_eq_true rfl)) dX4_dance_7 ⟨Nat.le_of_ble_eq_true rfl, Nat.le_of_ble_eq_true rfl⟩)) hS hA hP htb hlocks (by decide) (by decide)
abbrev rm_X4_value_a : Room := { frames := 7, cells := 1, slots := 6, locals := 102 }
set_option maxHeartbeats 1000000 in
set_option maxRecDepth 100000 in
theorem x_X4_value_a (l : Launch) (hst : l.stackTraces = false) (D : va_G) (cy : Nat → ClassId) (S : Nat × Nat × Nat) (w : Int32) (o : Nat → Nat) (a : Nat → Nat) (b : Nat → Nat) (fa : Nat → Nat) (ta : Nat → Nat) (sc : Nat) (hbad : ¬ (¬ w < nI 0 ∧ ¬ nI 13 < w)) (sz : Nat) : vx_Met l yX4_value wsX4_value rm_X4_value_a (va_Pc [.ref (o 0), .int w] (kPreX D (kT cy) S [jO o (a, b, fa, ta, sc)] sz)) kNo (kXC D [jO o (a, b, fa, ta, sc)] (va_A (bkF [jO o (a, b, fa, ta, sc)]) sz) nIA) 1 6 (va_A (bkF [jO o (a, b, fa, ta, sc)]) sz) := by
  refine kOpenX (y := yX4_value) (ws := wsX4_value) (cc := cX4_value) (maxL := 2) (ret := (some .int)) (av := [.ref (o 0), .int w]) (Bs := [jO o (a, b, fa, ta, sc)]) (XC := fun A => kXC D [jO o (a, b, fa, ta, sc)] A nIA) (by decide) rfl (Nat.le_of_ble_eq_true rfl) ?_
  intro p e s m args below meth c A Q ls hQ hx hb hml hlocks htb hts hown hN hX hK hP hD hS hA hl
  have hl : lv_has ls 2 [(0, .ref (o 0)), (1, .int w)] := hl
  suffices K9 : ∀ (H : Heap) (locs : List Loc), va_P D vwCl (bkF [jO o (a, b, fa, ta, sc)]) H → va_S A s.heap H locs → W p l e (headSpec wsX4_value rm_X4_value_a).room s m args below meth c H locs 0 0 Q (F0 m 0 ls []) from K9 _ _ hP hS
  clear hP hS
  intro H locs hP hS
  refine lv_iload_n hx hb dX4_value_0 rfl (lv_at hl 1 rfl) ?_
  refine lv_iconst (v := nI 0) hx hb dX4_value_1 (by decide) ?_
  refine lv_bipush (v := nI 13) hx hb dX4_value_2 (by decide) ?_
  refine kc_i (Cs := []) (Rs := [jO o (a, b, fa, ta, sc)]) (Bs := [jO o (a, b, fa, ta, sc)]) (Cs' := fun u_ : Unit => []) (Fs := fun u_ : Unit => [jO o (a, b, fa, ta, sc)]) hP hD hS hA [] [0] [0] rfl rfl (by decide) (by decide) (fun _ => rfl) (va_runS (As := [.int w, .int (nI 0), .int (nI 13)]) (rest := []) ⟨hx, hb, hml, hown, hts⟩ (c_X4_isWithin l D cy w (nI 0) (nI 13) H.size) (va_cwS 3 hts gX4_value_X4_isWithin rfl rfl rfl (by decide +kernel) ⟨Nat.le_of_ble_eq_true rfl, Nat.le_of_ble_eq_true rfl⟩) (kPre_S hK hN hP hD [] (by decide) rfl) rfl rfl hl.1 rfl (lv_room (Nat.le_of_ble_eq_true rfl)) dX4_value_4 ⟨Nat.le_of_ble_eq_true rfl, Nat.le_of_ble_eq_true rfl⟩) (fun r_ u_ H locs hw hP hD hS => ?_)
  have hw : r_ = if ¬ w < (nI 0) ∧ ¬ (nI 13) < w then nI 1 else nI 0 := hw
  subst hw
  refine kv_i (y := nI 0) (if_neg hbad) ?_
  subst hQ
  exact kx_call ((vx_runS (As := [.int (nI 0)]) (rest := []) ⟨hx, hb, hml, hown, hts⟩ (x_X4_needArgument l hst D cy S H.size) (va_cwS 1 hts gX4_value_X4_needArgument rfl rfl rfl (by decide +kernel) ⟨Nat.le_of_ble_eq_true rfl, Nat.le_of_ble_eq_true rfl⟩) (kPreX_S hK hN hX hP hD hS hA [] (by decide) rfl) rfl rfl hl.1 rfl (lv_room (Nat.le_of_ble_eq_true rfl)) dX4_value_7 ⟨Nat.le_of_ble_eq_true rfl, Nat.le_of_ble_eq_true rfl⟩)) hS hA hP htb hlocks (by decide) (by decide)
abbrev rm_X4_shoes_i : Room := { frames := 7, cells := 1, slots := 6, locals := 102 }
set_option maxHeartbeats 1000000 in
set_option maxRecDepth 100000 in
theorem x_X4_shoes_i (l : Launch) (hst : l.stackTraces = false) (D : va_G) (cy : Nat → ClassId) (S : Nat × Nat × Nat) (z : Int32) (x : Int32) (o : Nat → Nat) (a : Nat → Nat) (b : Nat → Nat) (fa : Nat → Nat) (ta : Nat → Nat) (sc : Nat) (hbad : ¬ (¬ z < nI 1 ∧ ¬ nI 9 < z)) (sz : Nat) : vx_Met l yX4_shoes wsX4_shoes rm_X4_shoes_i (va_Pc [.ref (o 0), .int z, .int x] (kPreX D (kT cy) S [jO o (a, b, fa, ta, sc)] sz)) kNo (kXC D [jO o (a, b, fa, ta, sc)] (va_A (bkF [jO o (a, b, fa, ta, sc)]) sz) nIO) 1 6 (va_A (bkF [jO o (a, b, fa, ta, sc)]) sz) := by
  refine kOpenX (y := yX4_shoes) (ws := wsX4_shoes) (cc := cX4_shoes) (maxL := 3) (ret := (some .int)) (av := [.ref (o 0), .int z, .int x]) (Bs := [jO o (a, b, fa, ta, sc)]) (XC := fun A => kXC D [jO o (a, b, fa, ta, sc)] A nIO) (by decide) rfl (Nat.le_of_ble_eq_true rfl) ?_
  intro p e s m args below meth c A Q ls hQ hx hb hml hlocks htb hts hown hN hX hK hP hD hS hA hl
  have hl : lv_has ls 3 [(0, .ref (o 0)), (1, .int z), (2, .int x)] := hl
  suffices K9 : ∀ (H : Heap) (locs : List Loc), va_P D vwCl (bkF [jO o (a, b, fa, ta, sc)]) H → va_S A s.heap H locs → W p l e (headSpec wsX4_shoes rm_X4_shoes_i).room s m args below meth c H locs 0 0 Q (F0 m 0 ls []) from K9 _ _ hP hS
  clear hP hS
  intro H locs hP hS
  refine lv_iload_n hx hb dX4_shoes_0 rfl (lv_at hl 1 rfl) ?_
  refine lv_iconst (v := nI 1) hx hb dX4_shoes_1 (by decide) ?_
  refine lv_bipush (v := nI 9) hx hb dX4_shoes_2 (by decide) ?_
  refine kc_i (Cs := []) (Rs := [jO o (a, b, fa, ta, sc)]) (Bs := [jO o (a, b, fa, ta, sc)]) (Cs' := fun u_ : Unit => []) (Fs := fun u_ : Unit => [jO o (a, b, fa, ta, sc)]) hP hD hS hA [] [0] [0] rfl rfl (by decide) (by decide) (fun _ => rfl) (va_runS (As := [.int z, .int (nI 1), .int (nI 9)]) (rest := []) ⟨hx, hb, hml, hown, hts⟩ (c_X4_isWithin l D cy z (nI 1) (nI 9) H.size) (va_cwS 3 hts gX4_shoes_X4_isWithin rfl rfl rfl (by decide +kernel) ⟨Nat.le_of_ble_eq_true rfl, Nat.le_of_ble_eq_true rfl⟩) (kPre_S hK hN hP hD [] (by decide) rfl) rfl rfl hl.1 rfl (lv_room (Nat.le_of_ble_eq_true rfl)) dX4_shoes_4 ⟨Nat.le_of_ble_eq_true rfl, Nat.le_of_ble_eq_true rfl⟩) (fun r_ u_ H locs hw hP hD hS => ?_)
  have hw : r_ = if ¬ z < (nI 1) ∧ ¬ (nI 9) < z then nI 1 else nI 0 := hw
  subst hw
  refine kv_i (y := nI 0) (if_neg hbad) ?_
  subst hQ
  exact kx_call ((vx_runS (As := [.int (nI 0)]) (rest := []) ⟨hx, hb, hml, hown, hts⟩ (x_X4_needIndex l hst D cy S H.size) (va_cwS 1 hts gX4_shoes_X4_needIndex rfl rfl rfl (by decide +kernel) ⟨Nat.le_of_ble_eq_true rfl, Nat.le_of_ble_eq_true rfl⟩) (kPreX_S hK hN hX hP hD hS hA [] (by decide) rfl) rfl rfl hl.1 rfl (lv_room (Nat.le_of_ble_eq_true rfl)) dX4_shoes_7 ⟨Nat.le_of_ble_eq_true rfl, Nat.le_of_ble_eq_true rfl⟩)) hS hA hP htb hlocks (by decide) (by decide)
abbrev rm_X4_fiddler_i : Room := { frames := 7, cells := 1, slots := 6, locals := 102 }
set_option maxHeartbeats 1000000 in
set_option maxRecDepth 100000 in
theorem x_X4_fiddler_i (l : Launch) (hst : l.stackTraces = false) (D : va_G) (cy : Nat → ClassId) (S : Nat × Nat × Nat) (f : Int32) (w : Int32) (o : Nat → Nat) (a : Nat → Nat) (b : Nat → Nat) (fa : Nat → Nat) (ta : Nat → Nat) (sc : Nat) (C : rC) (L : rG) (F : rG) (Ar : rA) (d : Nat → Nat → Int32) (hbad : ¬ (¬ f < nI 0 ∧ ¬ nI C.2.2.2.1 ≤ f)) (sz : Nat) : vx_Met l yX4_fiddler wsX4_fiddler rm_X4_fiddler_i (va_Pc [.ref (o 0), .int f, .int w] (kPreX D (kT cy) S [jO o (a, b, fa, ta, sc), sO a C, gW cy a 1 L, gW cy a 7 F, sA cy a Ar, rW cy a d] sz)) kNo (kXC D [jO o (a, b, fa, ta, sc), sO a C, gW cy a 1 L, gW cy a 7 F, sA cy a Ar, rW cy a d] (va_A (bkF [jO o (a, b, fa, ta, sc), sO a C, gW cy a 1 L, gW cy a 7 F, sA cy a Ar, rW cy a d]) sz) nIO) 1 6 (va_A (bkF [jO o (a, b, fa, ta, sc), sO a C, gW cy a 1 L, gW cy a 7 F, sA cy a Ar, rW cy a d]) sz) := by
  refine kOpenX (y := yX4_fiddler) (ws := wsX4_fiddler) (cc := cX4_fiddler) (maxL := 3) (ret := (some .int)) (av := [.ref (o 0), .int f, .int w]) (Bs := [jO o (a, b, fa, ta, sc), sO a C, gW cy a 1 L, gW cy a 7 F, sA cy a Ar, rW cy a d]) (XC := fun A => kXC D [jO o (a, b, fa, ta, sc), sO a C, gW cy a 1 L, gW cy a 7 F, sA cy a Ar, rW cy a d] A nIO) (by decide) rfl (Nat.le_of_ble_eq_true rfl) ?_
  intro p e s m args below meth c A Q ls hQ hx hb hml hlocks htb hts hown hN hX hK hP hD hS hA hl
  have hl : lv_has ls 3 [(0, .ref (o 0)), (1, .int f), (2, .int w)] := hl
  suffices K9 : ∀ (H : Heap) (locs : List Loc), va_P D vwCl (bkF [jO o (a, b, fa, ta, sc), sO a C, gW cy a 1 L, gW cy a 7 F, sA cy a Ar, rW cy a d]) H → va_S A s.heap H locs → W p l e (headSpec wsX4_fiddler rm_X4_fiddler_i).room s m args below meth c H locs 0 0 Q (F0 m 0 ls []) from K9 _ _ hP hS
  clear hP hS
  intro H locs hP hS
  refine lv_aload_n hx hb dX4_fiddler_0 rfl (lv_at hl 0 rfl) ?_
  refine va_get (D := D) (ci := 4) (v := .ref (a 0)) (C := RX4) (T := TX4) (N := 6) hx hb hts (by decide +kernel) hown hK hP 0 rfl rfl 0 (by decide) (hts (.fieldLink RX4 12 "DanceHall" "hall" "LDanceHall$State;") (by decide +kernel)) (fun _ h9 => h9) rfl dX4_fiddler_1 ?_
  refine lv_iload_n hx hb dX4_fiddler_4 rfl (lv_at hl 1 rfl) ?_
  refine kc_i (Cs := [sO a C]) (Rs := [jO o (a, b, fa, ta, sc), gW cy a 1 L, gW cy a 7 F, sA cy a Ar, rW cy a d]) (Bs := [jO o (a, b, fa, ta, sc), sO a C, gW cy a 1 L, gW cy a 7 F, sA cy a Ar, rW cy a d]) (Cs' := fun u_ : Unit => [sO a C]) (Fs := fun u_ : Unit => [jO o (a, b, fa, ta, sc), sO a C, gW cy a 1 L, gW cy a 7 F, sA cy a Ar, rW cy a d]) hP hD hS hA [1] [0, 2, 3, 4, 5] [0, 5, 1, 2, 3, 4] rfl rfl (by decide) (by decide) (fun _ => rfl) (va_runV (As := [.int f]) (rest := []) ⟨hx, hb, hml, hown, hts⟩ (c_X3_hasFiddler l D cy a C f H.size) (cwV 1 hts gX4_fiddler_X3_hasFiddler rfl rfl rfl (by decide +kernel) ⟨Nat.le_of_ble_eq_true rfl, Nat.le_of_ble_eq_true rfl⟩) (kPre_V (ci := 3) hK hN hP hD [1] (by decide) rfl 0 rfl rfl) rfl rfl hl.1 rfl (lv_room (Nat.le_of_ble_eq_true rfl)) dX4_fiddler_5 ⟨Nat.le_of_ble_eq_true rfl, Nat.le_of_ble_eq_true rfl⟩) (fun r_ u_ H locs hw hP hD hS => ?_)
  have hw : r_ = if ¬ f < nI 0 ∧ ¬ nI C.2.2.2.1 ≤ f then nI 1 else nI 0 := hw
  subst hw
  refine kv_i (y := nI 0) (if_neg hbad) ?_
  subst hQ
  exact kx_call ((vx_runS (As := [.int (nI 0)]) (rest := []) ⟨hx, hb, hml, hown, hts⟩ (x_X4_needIndex l hst D cy S H.size) (va_cwS 1 hts gX4_fiddler_X4_needIndex rfl rfl rfl (by decide +kernel) ⟨Nat.le_of_ble_eq_true rfl, Nat.le_of_ble_eq_true rfl⟩) (kPreX_S hK hN hX hP hD hS hA [] (by decide) rfl) rfl rfl hl.1 rfl (lv_room (Nat.le_of_ble_eq_true rfl)) dX4_fiddler_8 ⟨Nat.le_of_ble_eq_true rfl, Nat.le_of_ble_eq_true rfl⟩)) hS hA hP htb hlocks (by decide) (by decide)
abbrev rm_X4_fiddler_a : Room := { frames := 7, cells := 1, slots := 6, locals := 102 }
set_option maxHeartbeats 1000000 in
set_option maxRecDepth 100000 in
theorem x_X4_fiddler_a (l : Launch) (hst : l.stackTraces = false) (D : va_G) (cy : Nat → ClassId) (S : Nat × Nat × Nat) (f : Nat) (w : Int32) (o : Nat → Nat) (a : Nat → Nat) (b : Nat → Nat) (fa : Nat → Nat) (ta : Nat → Nat) (sc : Nat) (C : rC) (L : rG) (F : rG) (Ar : rA) (d : Nat → Nat → Int32) (hfn : C.2.2.2.1 ≤ 4) (hf : f < C.2.2.2.1) (hbad : ¬ (¬ w < nI 0 ∧ ¬ nI 2 < w)) (sz : Nat) : vx_Met l yX4_fiddler wsX4_fiddler rm_X4_fiddler_a (va_Pc [.ref (o 0), .int (nI f), .int w] (kPreX D (kT cy) S [jO o (a, b, fa, ta, sc), sO a C, gW cy a 1 L, gW cy a 7 F, sA cy a Ar, rW cy a d] sz)) kNo (kXC D [jO o (a, b, fa, ta, sc), sO a C, gW cy a 1 L, gW cy a 7 F, sA cy a Ar, rW cy a d] (va_A (bkF [jO o (a, b, fa, ta, sc), sO a C, gW cy a 1 L, gW cy a 7 F, sA cy a Ar, rW cy a d]) sz) nIA) 1 6 (va_A (bkF [jO o (a, b, fa, ta, sc), sO a C, gW cy a 1 L, gW cy a 7 F, sA cy a Ar, rW cy a d]) sz) := by
  refine kOpenX (y := yX4_fiddler) (ws := wsX4_fiddler) (cc := cX4_fiddler) (maxL := 3) (ret := (some .int)) (av := [.ref (o 0), .int (nI f), .int w]) (Bs := [jO o (a, b, fa, ta, sc), sO a C, gW cy a 1 L, gW cy a 7 F, sA cy a Ar, rW cy a d]) (XC := fun A => kXC D [jO o (a, b, fa, ta, sc), sO a C, gW cy a 1 L, gW cy a 7 F, sA cy a Ar, rW cy a d] A nIA) (by decide) rfl (Nat.le_of_ble_eq_true rfl) ?_
  intro p e s m args below meth c A Q ls hQ hx hb hml hlocks htb hts hown hN hX hK hP hD hS hA hl
  have hl : lv_has ls 3 [(0, .ref (o 0)), (1, .int (nI f)), (2, .int w)] := hl
  suffices K9 : ∀ (H : Heap) (locs : List Loc), va_P D vwCl (bkF [jO o (a, b, fa, ta, sc), sO a C, gW cy a 1 L, gW cy a 7 F, sA cy a Ar, rW cy a d]) H → va_S A s.heap H locs → W p l e (headSpec wsX4_fiddler rm_X4_fiddler_a).room s m args below meth c H locs 0 0 Q (F0 m 0 ls []) from K9 _ _ hP hS
  clear hP hS
  intro H locs hP hS
  refine lv_aload_n hx hb dX4_fiddler_0 rfl (lv_at hl 0 rfl) ?_
  refine va_get (D := D) (ci := 4) (v := .ref (a 0)) (C := RX4) (T := TX4) (N := 6) hx hb hts (by decide +kernel) hown hK hP 0 rfl rfl 0 (by decide) (hts (.fieldLink RX4 12 "DanceHall" "hall" "LDanceHall$State;") (by decide +kernel)) (fun _ h9 => h9) rfl dX4_fiddler_1 ?_
  refine lv_iload_n hx hb dX4_fiddler_4 rfl (lv_at hl 1 rfl) ?_
  refine kc_i (Cs := [sO a C]) (Rs := [jO o (a, b, fa, ta, sc), gW cy a 1 L, gW cy a 7 F, sA cy a Ar, rW cy a d]) (Bs := [jO o (a, b, fa, ta, sc), sO a C, gW cy a 1 L, gW cy a 7 F, sA cy a Ar, rW cy a d]) (Cs' := fun u_ : Unit => [sO a C]) (Fs := fun u_ : Unit => [jO o (a, b, fa, ta, sc), sO a C, gW cy a 1 L, gW cy a 7 F, sA cy a Ar, rW cy a d]) hP hD hS hA [1] [0, 2, 3, 4, 5] [0, 5, 1, 2, 3, 4] rfl rfl (by decide) (by decide) (fun _ => rfl) (va_runV (As := [.int (nI f)]) (rest := []) ⟨hx, hb, hml, hown, hts⟩ (c_X3_hasFiddler l D cy a C (nI f) H.size) (cwV 1 hts gX4_fiddler_X3_hasFiddler rfl rfl rfl (by decide +kernel) ⟨Nat.le_of_ble_eq_true rfl, Nat.le_of_ble_eq_true rfl⟩) (kPre_V (ci := 3) hK hN hP hD [1] (by decide) rfl 0 rfl rfl) rfl rfl hl.1 rfl (lv_room (Nat.le_of_ble_eq_true rfl)) dX4_fiddler_5 ⟨Nat.le_of_ble_eq_true rfl, Nat.le_of_ble_eq_true rfl⟩) (fun r_ u_ H locs hw hP hD hS => ?_)
  have hw : r_ = if ¬ (nI f) < nI 0 ∧ ¬ nI C.2.2.2.1 ≤ (nI f) then nI 1 else nI 0 := hw
  subst hw
  refine kv_i (y := nI 1) (if_pos (khas (by omega) (by omega))) ?_
  refine kc_v (Cs := []) (Rs := [jO o (a, b, fa, ta, sc), sO a C, gW cy a 1 L, gW cy a 7 F, sA cy a Ar, rW cy a d]) (Bs := [jO o (a, b, fa, ta, sc), sO a C, gW cy a 1 L, gW cy a 7 F, sA cy a Ar, rW cy a d]) (Cs' := fun u_ : Unit => []) (Fs := fun u_ : Unit => [jO o (a, b, fa, ta, sc), sO a C, gW cy a 1 L, gW cy a 7 F, sA cy a Ar, rW cy a d]) hP hD hS hA [] [0, 1, 2, 3, 4, 5] [0, 1, 2, 3, 4, 5] rfl rfl (by decide) (by decide) (fun _ => rfl) (va_runS (As := [.int (nI 1)]) (rest := []) ⟨hx, hb, hml, hown, hts⟩ (c_X4_needIndex_y l D cy (nI 1) (by first | assumption | omega | decide) H.size) (va_cwS 1 hts gX4_fiddler_X4_needIndex rfl rfl rfl (by decide +kernel) ⟨Nat.le_of_ble_eq_true rfl, Nat.le_of_ble_eq_true rfl⟩) (kPre_S hK hN hP hD [] (by decide) rfl) rfl rfl hl.1 rfl (lv_room (Nat.le_of_ble_eq_true rfl)) dX4_fiddler_8 ⟨Nat.le_of_ble_eq_true rfl, Nat.le_of_ble_eq_true rfl⟩) (fun u_ H locs hw hP hD hS => ?_)
  refine lv_iload_n hx hb dX4_fiddler_11 rfl (lv_at hl 2 rfl) ?_
  refine lv_iconst (v := nI 0) hx hb dX4_fiddler_12 (by decide) ?_
  refine lv_iconst (v := nI 2) hx hb dX4_fiddler_13 (by decide) ?_
  refine kc_i (Cs := []) (Rs := [jO o (a, b, fa, ta, sc), sO a C, gW cy a 1 L, gW cy a 7 F, sA cy a Ar, rW cy a d]) (Bs := [jO o (a, b, fa, ta, sc), sO a C, gW cy a 1 L, gW cy a 7 F, sA cy a Ar, rW cy a d]) (Cs' := fun u_ : Unit => []) (Fs := fun u_ : Unit => [jO o (a, b, fa, ta, sc), sO a C, gW cy a 1 L, gW cy a 7 F, sA cy a Ar, rW cy a d]) hP hD hS hA [] [0, 1, 2, 3, 4, 5] [0, 1, 2, 3, 4, 5] rfl rfl (by decide) (by decide) (fun _ => rfl) (va_runS (As := [.int w, .int (nI 0), .int (nI 2)]) (rest := []) ⟨hx, hb, hml, hown, hts⟩ (c_X4_isWithin l D cy w (nI 0) (nI 2) H.size) (va_cwS 3 hts gX4_fiddler_X4_isWithin rfl rfl rfl (by decide +kernel) ⟨Nat.le_of_ble_eq_true rfl, Nat.le_of_ble_eq_true rfl⟩) (kPre_S hK hN hP hD [] (by decide) rfl) rfl rfl hl.1 rfl (lv_room (Nat.le_of_ble_eq_true rfl)) dX4_fiddler_14 ⟨Nat.le_of_ble_eq_true rfl, Nat.le_of_ble_eq_true rfl⟩) (fun r_ u_ H locs hw hP hD hS => ?_)
  have hw : r_ = if ¬ w < (nI 0) ∧ ¬ (nI 2) < w then nI 1 else nI 0 := hw
  subst hw
  refine kv_i (y := nI 0) (if_neg hbad) ?_
  subst hQ
  exact kx_call ((vx_runS (As := [.int (nI 0)]) (rest := []) ⟨hx, hb, hml, hown, hts⟩ (x_X4_needArgument l hst D cy S H.size) (va_cwS 1 hts gX4_fiddler_X4_needArgument rfl rfl rfl (by decide +kernel) ⟨Nat.le_of_ble_eq_true rfl, Nat.le_of_ble_eq_true rfl⟩) (kPreX_S hK hN hX hP hD hS hA [] (by decide) rfl) rfl rfl hl.1 rfl (lv_room (Nat.le_of_ble_eq_true rfl)) dX4_fiddler_17 ⟨Nat.le_of_ble_eq_true rfl, Nat.le_of_ble_eq_true rfl⟩)) hS hA hP htb hlocks (by decide) (by decide)
abbrev rm_X4_danced_i : Room := { frames := 7, cells := 1, slots := 6, locals := 102 }
set_option maxHeartbeats 1000000 in
set_option maxRecDepth 100000 in
theorem x_X4_danced_i (l : Launch) (hst : l.stackTraces = false) (D : va_G) (cy : Nat → ClassId) (S : Nat × Nat × Nat) (i : Int32) (j : Int32) (o : Nat → Nat) (a : Nat → Nat) (b : Nat → Nat) (fa : Nat → Nat) (ta : Nat → Nat) (sc : Nat) (C : rC) (L : rG) (F : rG) (Ar : rA) (d : Nat → Nat → Int32) (hbad : ¬ ((¬ i < nI 0 ∧ ¬ nI L.2.2.2.2.2 ≤ i) ∧ (¬ j < nI 0 ∧ ¬ nI F.2.2.2.2.2 ≤ j))) (sz : Nat) : vx_Met l yX4_danced wsX4_danced rm_X4_danced_i (va_Pc [.ref (o 0), .int i, .int j] (kPreX D (kT cy) S [jO o (a, b, fa, ta, sc), sO a C, gW cy a 1 L, gW cy a 7 F, sA cy a Ar, rW cy a d] sz)) kNo (kXC D [jO o (a, b, fa, ta, sc), sO a C, gW cy a 1 L, gW cy a 7 F, sA cy a Ar, rW cy a d] (va_A (bkF [jO o (a, b, fa, ta, sc), sO a C, gW cy a 1 L, gW cy a 7 F, sA cy a Ar, rW cy a d]) sz) nIO) 1 6 (va_A (bkF [jO o (a, b, fa, ta, sc), sO a C, gW cy a 1 L, gW cy a 7 F, sA cy a Ar, rW cy a d]) sz) := by
  refine kOpenX (y := yX4_danced) (ws := wsX4_danced) (cc := cX4_danced) (maxL := 3) (ret := (some .int)) (av := [.ref (o 0), .int i, .int j]) (Bs := [jO o (a, b, fa, ta, sc), sO a C, gW cy a 1 L, gW cy a 7 F, sA cy a Ar, rW cy a d]) (XC := fun A => kXC D [jO o (a, b, fa, ta, sc), sO a C, gW cy a 1 L, gW cy a 7 F, sA cy a Ar, rW cy a d] A nIO) (by decide) rfl (Nat.le_of_ble_eq_true rfl) ?_
  intro p e s m args below meth c A Q ls hQ hx hb hml hlocks htb hts hown hN hX hK hP hD hS hA hl
  have hl : lv_has ls 3 [(0, .ref (o 0)), (1, .int i), (2, .int j)] := hl
  suffices K9 : ∀ (H : Heap) (locs : List Loc), va_P D vwCl (bkF [jO o (a, b, fa, ta, sc), sO a C, gW cy a 1 L, gW cy a 7 F, sA cy a Ar, rW cy a d]) H → va_S A s.heap H locs → W p l e (headSpec wsX4_danced rm_X4_danced_i).room s m args below meth c H locs 0 0 Q (F0 m 0 ls []) from K9 _ _ hP hS
  clear hP hS
  intro H locs hP hS
  refine lv_aload_n hx hb dX4_danced_0 rfl (lv_at hl 0 rfl) ?_
  refine va_get (D := D) (ci := 4) (v := .ref (a 0)) (C := RX4) (T := TX4) (N := 6) hx hb hts (by decide +kernel) hown hK hP 0 rfl rfl 0 (by decide) (hts (.fieldLink RX4 12 "DanceHall" "hall" "LDanceHall$State;") (by decide +kernel)) (fun _ h9 => h9) rfl dX4_danced_1 ?_
  refine va_get (D := D) (ci := 3) (v := .ref (a 1)) (C := RX3) (T := TX3) (N := 14) hx hb hts (by decide +kernel) hown hK hP 1 rfl rfl 0 (by decide) (hts (.fieldLink RX4 142 "DanceHall$State" "leaders" "LDanceHall$Guests;") (by decide +kernel)) (fun _ h9 => h9) rfl dX4_danced_4 ?_
  refine lv_iload_n hx hb dX4_danced_7 rfl (lv_at hl 1 rfl) ?_
  refine kc_i (Cs := [gW cy a 1 L]) (Rs := [jO o (a, b, fa, ta, sc), sO a C, gW cy a 7 F, sA cy a Ar, rW cy a d]) (Bs := [jO o (a, b, fa, ta, sc), sO a C, gW cy a 1 L, gW cy a 7 F, sA cy a Ar, rW cy a d]) (Cs' := fun u_ : Unit => [gW cy a 1 L]) (Fs := fun u_ : Unit => [jO o (a, b, fa, ta, sc), sO a C, gW cy a 1 L, gW cy a 7 F, sA cy a Ar, rW cy a d]) hP hD hS hA [2] [0, 1, 3, 4, 5] [0, 1, 5, 2, 3, 4] rfl rfl (by decide) (by decide) (fun _ => rfl) (va_runV (As := [.int i]) (rest := []) ⟨hx, hb, hml, hown, hts⟩ (c_X2_has l D cy a 1 L i H.size) (cwV 1 hts gX4_danced_X2_has rfl rfl rfl (by decide +kernel) ⟨Nat.le_of_ble_eq_true rfl, Nat.le_of_ble_eq_true rfl⟩) (kPre_V (ci := 2) hK hN hP hD [2] (by decide) rfl 0 rfl rfl) rfl rfl hl.1 rfl (lv_room (Nat.le_of_ble_eq_true rfl)) dX4_danced_8 ⟨Nat.le_of_ble_eq_true rfl, Nat.le_of_ble_eq_true rfl⟩) (fun r_ u_ H locs hw hP hD hS => ?_)
  have hw : r_ = if ¬ i < nI 0 ∧ ¬ nI L.2.2.2.2.2 ≤ i then nI 1 else nI 0 := hw
  subst hw
  by_cases b_8 : ¬ i < nI 0 ∧ ¬ nI L.2.2.2.2.2 ≤ i
  · refine kv_i (y := nI 1) (if_pos b_8) ?_
    refine lv_if_eq (tgt := 32) hx hb dX4_danced_11 (by decide) (fun h => absurd h (by decide)) (fun _ => ?_)
    refine lv_aload_n hx hb dX4_danced_14 rfl (lv_at hl 0 rfl) ?_
    refine va_get (D := D) (ci := 4) (v := .ref (a 0)) (C := RX4) (T := TX4) (N := 6) hx hb hts (by decide +kernel) hown hK hP 0 rfl rfl 0 (by decide) (hts (.fieldLink RX4 12 "DanceHall" "hall" "LDanceHall$State;") (by decide +kernel)) (fun _ h9 => h9) rfl dX4_danced_15 ?_
    refine va_get (D := D) (ci := 3) (v := .ref (a 7)) (C := RX3) (T := TX3) (N := 14) hx hb hts (by decide +kernel) hown hK hP 1 rfl rfl 1 (by decide) (hts (.fieldLink RX4 146 "DanceHall$State" "followers" "LDanceHall$Guests;") (by decide +kernel)) (fun _ h9 => h9) rfl dX4_danced_18 ?_
    refine lv_iload_n hx hb dX4_danced_21 rfl (lv_at hl 2 rfl) ?_
    refine kc_i (Cs := [gW cy a 7 F]) (Rs := [jO o (a, b, fa, ta, sc), sO a C, gW cy a 1 L, sA cy a Ar, rW cy a d]) (Bs := [jO o (a, b, fa, ta, sc), sO a C, gW cy a 1 L, gW cy a 7 F, sA cy a Ar, rW cy a d]) (Cs' := fun u_ : Unit => [gW cy a 7 F]) (Fs := fun u_ : Unit => [jO o (a, b, fa, ta, sc), sO a C, gW cy a 1 L, gW cy a 7 F, sA cy a Ar, rW cy a d]) hP hD hS hA [3] [0, 1, 2, 4, 5] [0, 1, 2, 5, 3, 4] rfl rfl (by decide) (by decide) (fun _ => rfl) (va_runV (As := [.int j]) (rest := []) ⟨hx, hb, hml, hown, hts⟩ (c_X2_has l D cy a 7 F j H.size) (cwV 1 hts gX4_danced_X2_has rfl rfl rfl (by decide +kernel) ⟨Nat.le_of_ble_eq_true rfl, Nat.le_of_ble_eq_true rfl⟩) (kPre_V (ci := 2) hK hN hP hD [3] (by decide) rfl 0 rfl rfl) rfl rfl hl.1 rfl (lv_room (Nat.le_of_ble_eq_true rfl)) dX4_danced_22 ⟨Nat.le_of_ble_eq_true rfl, Nat.le_of_ble_eq_true rfl⟩) (fun r_ u_ H locs hw hP hD hS => ?_)
    have hw : r_ = if ¬ j < nI 0 ∧ ¬ nI F.2.2.2.2.2 ≤ j then nI 1 else nI 0 := hw
    subst hw
    by_cases b_22 : ¬ j < nI 0 ∧ ¬ nI F.2.2.2.2.2 ≤ j
    · refine kv_i (y := nI 1) (if_pos b_22) ?_
      refine lv_if_eq (tgt := 32) hx hb dX4_danced_25 (by decide) (fun h => absurd h (by decide)) (fun _ => ?_)
      refine lv_iconst (v := nI 1) hx hb dX4_danced_28 (by decide) ?_
      refine lv_goto (tgt := 33) hx hb dX4_danced_29 (by decide) ?_
      exact absurd ⟨b_8, b_22⟩ hbad
    · refine kv_i (y := nI 0) (if_neg b_22) ?_
      refine lv_if_eq (tgt := 32) hx hb dX4_danced_25 (by decide) (fun _ => ?_) (fun h => absurd h (by decide))
      refine lv_iconst (v := nI 0) hx hb dX4_danced_32 (by decide) ?_
      subst hQ
      exact kx_call ((vx_runS (As := [.int (nI 0)]) (rest := []) ⟨hx, hb, hml, hown, hts⟩ (x_X4_needIndex l hst D cy S H.size) (va_cwS 1 hts gX4_danced_X4_needIndex rfl rfl rfl (by decide +kernel) ⟨Nat.le_of_ble_eq_true rfl, Nat.le_of_ble_eq_true rfl⟩) (kPreX_S hK hN hX hP hD hS hA [] (by decide) rfl) rfl rfl hl.1 rfl (lv_room (Nat.le_of_ble_eq_true rfl)) dX4_danced_33 ⟨Nat.le_of_ble_eq_true rfl, Nat.le_of_ble_eq_true rfl⟩)) hS hA hP htb hlocks (by decide) (by decide)
  · refine kv_i (y := nI 0) (if_neg b_8) ?_
    refine lv_if_eq (tgt := 32) hx hb dX4_danced_11 (by decide) (fun _ => ?_) (fun h => absurd h (by decide))
    refine lv_iconst (v := nI 0) hx hb dX4_danced_32 (by decide) ?_
    subst hQ
    exact kx_call ((vx_runS (As := [.int (nI 0)]) (rest := []) ⟨hx, hb, hml, hown, hts⟩ (x_X4_needIndex l hst D cy S H.size) (va_cwS 1 hts gX4_danced_X4_needIndex rfl rfl rfl (by decide +kernel) ⟨Nat.le_of_ble_eq_true rfl, Nat.le_of_ble_eq_true rfl⟩) (kPreX_S hK hN hX hP hD hS hA [] (by decide) rfl) rfl rfl hl.1 rfl (lv_room (Nat.le_of_ble_eq_true rfl)) dX4_danced_33 ⟨Nat.le_of_ble_eq_true rfl, Nat.le_of_ble_eq_true rfl⟩)) hS hA hP htb hlocks (by decide) (by decide)
abbrev rm_X4_partner_i : Room := { frames := 7, cells := 1, slots := 6, locals := 102 }
set_option maxHeartbeats 1000000 in
set_option maxRecDepth 100000 in
theorem x_X4_partner_i (l : Launch) (hst : l.stackTraces = false) (D : va_G) (cy : Nat → ClassId) (S : Nat × Nat × Nat) (k : Int32) (i : Int32) (o : Nat → Nat) (a : Nat → Nat) (b : Nat → Nat) (fa : Nat → Nat) (ta : Nat → Nat) (sc : Nat) (C : rC) (L : rG) (F : rG) (Ar : rA) (d : Nat → Nat → Int32) (hbad : ¬ ((¬ k < nI 0 ∧ ¬ (nI C.2.2.2.2.2.2.1 - nI 1) < k) ∧ (¬ i < nI 0 ∧ ¬ nI L.2.2.2.2.2 ≤ i))) (sz : Nat) : vx_Met l yX4_partner wsX4_partner rm_X4_partner_i (va_Pc [.ref (o 0), .int k, .int i] (kPreX D (kT cy) S [jO o (a, b, fa, ta, sc), sO a C, gW cy a 1 L, gW cy a 7 F, sA cy a Ar, rW cy a d] sz)) kNo (kXC D [jO o (a, b, fa, ta, sc), sO a C, gW cy a 1 L, gW cy a 7 F, sA cy a Ar, rW cy a d] (va_A (bkF [jO o (a, b, fa, ta, sc), sO a C, gW cy a 1 L, gW cy a 7 F, sA cy a Ar, rW cy a d]) sz) nIO) 1 6 (va_A (bkF [jO o (a, b, fa, ta, sc), sO a C, gW cy a 1 L, gW cy a 7 F, sA cy a Ar, rW cy a d]) sz) := by
  refine kOpenX (y := yX4_partner) (ws := wsX4_partner) (cc := cX4_partner) (maxL := 3) (ret := (some .int)) (av := [.ref (o 0), .int k, .int i]) (Bs := [jO o (a, b, fa, ta, sc), sO a C, gW cy a 1 L, gW cy a 7 F, sA cy a Ar, rW cy a d]) (XC := fun A => kXC D [jO o (a, b, fa, ta, sc), sO a C, gW cy a 1 L, gW cy a 7 F, sA cy a Ar, rW cy a d] A nIO) (by decide) rfl (Nat.le_of_ble_eq_true rfl) ?_
  intro p e s m args below meth c A Q ls hQ hx hb hml hlocks htb hts hown hN hX hK hP hD hS hA hl
  have hl : lv_has ls 3 [(0, .ref (o 0)), (1, .int k), (2, .int i)] := hl
  suffices K9 : ∀ (H : Heap) (locs : List Loc), va_P D vwCl (bkF [jO o (a, b, fa, ta, sc), sO a C, gW cy a 1 L, gW cy a 7 F, sA cy a Ar, rW cy a d]) H → va_S A s.heap H locs → W p l e (headSpec wsX4_partner rm_X4_partner_i).room s m args below meth c H locs 0 0 Q (F0 m 0 ls []) from K9 _ _ hP hS
  clear hP hS
  intro H locs hP hS
  refine lv_iload_n hx hb dX4_partner_0 rfl (lv_at hl 1 rfl) ?_
  refine lv_iconst (v := nI 0) hx hb dX4_partner_1 (by decide) ?_
  refine lv_aload_n hx hb dX4_partner_2 rfl (lv_at hl 0 rfl) ?_
  refine va_get (D := D) (ci := 4) (v := .ref (a 0)) (C := RX4) (T := TX4) (N := 6) hx hb hts (by decide +kernel) hown hK hP 0 rfl rfl 0 (by decide) (hts (.fieldLink RX4 12 "DanceHall" "hall" "LDanceHall$State;") (by decide +kernel)) (fun _ h9 => h9) rfl dX4_partner_3 ?_
  refine va_get (D := D) (ci := 3) (v := .int (nI C.2.2.2.2.2.2.1)) (C := RX3) (T := TX3) (N := 14) hx hb hts (by decide +kernel) hown hK hP 1 rfl rfl 11 (by decide) (hts (.fieldLink RX4 153 "DanceHall$State" "dances" "I") (by decide +kernel)) (fun _ h9 => h9) rfl dX4_partner_6 ?_
  refine lv_iconst (v := nI 1) hx hb dX4_partner_9 (by decide) ?_
  refine lv_isub hx hb dX4_partner_10 ?_
  refine kc_i (Cs := []) (Rs := [jO o (a, b, fa, ta, sc), sO a C, gW cy a 1 L, gW cy a 7 F, sA cy a Ar, rW cy a d]) (Bs := [jO o (a, b, fa, ta, sc), sO a C, gW cy a 1 L, gW cy a 7 F, sA cy a Ar, rW cy a d]) (Cs' := fun u_ : Unit => []) (Fs := fun u_ : Unit => [jO o (a, b, fa, ta, sc), sO a C, gW cy a 1 L, gW cy a 7 F, sA cy a Ar, rW cy a d]) hP hD hS hA [] [0, 1, 2, 3, 4, 5] [0, 1, 2, 3, 4, 5] rfl rfl (by decide) (by decide) (fun _ => rfl) (va_runS (As := [.int k, .int (nI 0), .int ((nI C.2.2.2.2.2.2.1) - (nI 1))]) (rest := []) ⟨hx, hb, hml, hown, hts⟩ (c_X4_isWithin l D cy k (nI 0) ((nI C.2.2.2.2.2.2.1) - (nI 1)) H.size) (va_cwS 3 hts gX4_partner_X4_isWithin rfl rfl rfl (by decide +kernel) ⟨Nat.le_of_ble_eq_true rfl, Nat.le_of_ble_eq_true rfl⟩) (kPre_S hK hN hP hD [] (by decide) rfl) rfl rfl hl.1 rfl (lv_room (Nat.le_of_ble_eq_true rfl)) dX4_partner_11 ⟨Nat.le_of_ble_eq_true rfl, Nat.le_of_ble_eq_true rfl⟩) (fun r_ u_ H locs hw hP hD hS => ?_)
  have hw : r_ = if ¬ k < (nI 0) ∧ ¬ ((nI C.2.2.2.2.2.2.1) - (nI 1)) < k then nI 1 else nI 0 := hw
  subst hw
  by_cases b_11 : ¬ k < (nI 0) ∧ ¬ ((nI C.2.2.2.2.2.2.1) - (nI 1)) < k
  · refine kv_i (y := nI 1) (if_pos b_11) ?_
    refine lv_if_eq (tgt := 35) hx hb dX4_partner_14 (by decide) (fun h => absurd h (by decide)) (fun _ => ?_)
    refine lv_aload_n hx hb dX4_partner_17 rfl (lv_at hl 0 rfl) ?_
    refine va_get (D := D) (ci := 4) (v := .ref (a 0)) (C := RX4) (T := TX4) (N := 6) hx hb hts (by decide +kernel) hown hK hP 0 rfl rfl 0 (by decide) (hts (.fieldLink RX4 12 "DanceHall" "hall" "LDanceHall$State;") (by decide +kernel)) (fun _ h9 => h9) rfl dX4_partner_18 ?_
    refine va_get (D := D) (ci := 3) (v := .ref (a 1)) (C := RX3) (T := TX3) (N := 14) hx hb hts (by decide +kernel) hown hK hP 1 rfl rfl 0 (by decide) (hts (.fieldLink RX4 142 "DanceHall$State" "leaders" "LDanceHall$Guests;") (by decide +kernel)) (fun _ h9 => h9) rfl dX4_partner_21 ?_
    refine lv_iload_n hx hb dX4_partner_24 rfl (lv_at hl 2 rfl) ?_
    refine kc_i (Cs := [gW cy a 1 L]) (Rs := [jO o (a, b, fa, ta, sc), sO a C, gW cy a 7 F, sA cy a Ar, rW cy a d]) (Bs := [jO o (a, b, fa, ta, sc), sO a C, gW cy a 1 L, gW cy a 7 F, sA cy a Ar, rW cy a d]) (Cs' := fun u_ : Unit => [gW cy a 1 L]) (Fs := fun u_ : Unit => [jO o (a, b, fa, ta, sc), sO a C, gW cy a 1 L, gW cy a 7 F, sA cy a Ar, rW cy a d]) hP hD hS hA [2] [0, 1, 3, 4, 5] [0, 1, 5, 2, 3, 4] rfl rfl (by decide) (by decide) (fun _ => rfl) (va_runV (As := [.int i]) (rest := []) ⟨hx, hb, hml, hown, hts⟩ (c_X2_has l D cy a 1 L i H.size) (cwV 1 hts gX4_partner_X2_has rfl rfl rfl (by decide +kernel) ⟨Nat.le_of_ble_eq_true rfl, Nat.le_of_ble_eq_true rfl⟩) (kPre_V (ci := 2) hK hN hP hD [2] (by decide) rfl 0 rfl rfl) rfl rfl hl.1 rfl (lv_room (Nat.le_of_ble_eq_true rfl)) dX4_partner_25 ⟨Nat.le_of_ble_eq_true rfl, Nat.le_of_ble_eq_true rfl⟩) (fun r_ u_ H locs hw hP hD hS => ?_)
    have hw : r_ = if ¬ i < nI 0 ∧ ¬ nI L.2.2.2.2.2 ≤ i then nI 1 else nI 0 := hw
    subst hw
    by_cases b_25 : ¬ i < nI 0 ∧ ¬ nI L.2.2.2.2.2 ≤ i
    · refine kv_i (y := nI 1) (if_pos b_25) ?_
      refine lv_if_eq (tgt := 35) hx hb dX4_partner_28 (by decide) (fun h => absurd h (by decide)) (fun _ => ?_)
      refine lv_iconst (v := nI 1) hx hb dX4_partner_31 (by decide) ?_
      refine lv_goto (tgt := 36) hx hb dX4_partner_32 (by decide) ?_
      exact absurd ⟨b_11, b_25⟩ hbad
    · refine kv_i (y := nI 0) (if_neg b_25) ?_
      refine lv_if_eq (tgt := 35) hx hb dX4_partner_28 (by decide) (fun _ => ?_) (fun h => absurd h (by decide))
      refine lv_iconst (v := nI 0) hx hb dX4_partner_35 (by decide) ?_
      subst hQ
      exact kx_call ((vx_runS (As := [.int (nI 0)]) (rest := []) ⟨hx, hb, hml, hown, hts⟩ (x_X4_needIndex l hst D cy S H.size) (va_cwS 1 hts gX4_partner_X4_needIndex rfl rfl rfl (by decide +kernel) ⟨Nat.le_of_ble_eq_true rfl, Nat.le_of_ble_eq_true rfl⟩) (kPreX_S hK hN hX hP hD hS hA [] (by decide) rfl) rfl rfl hl.1 rfl (lv_room (Nat.le_of_ble_eq_true rfl)) dX4_partner_36 ⟨Nat.le_of_ble_eq_true rfl, Nat.le_of_ble_eq_true rfl⟩)) hS hA hP htb hlocks (by decide) (by decide)
  · refine kv_i (y := nI 0) (if_neg b_11) ?_
    refine lv_if_eq (tgt := 35) hx hb dX4_partner_14 (by decide) (fun _ => ?_) (fun h => absurd h (by decide))
    refine lv_iconst (v := nI 0) hx hb dX4_partner_35 (by decide) ?_
    subst hQ
    exact kx_call ((vx_runS (As := [.int (nI 0)]) (rest := []) ⟨hx, hb, hml, hown, hts⟩ (x_X4_needIndex l hst D cy S H.size) (va_cwS 1 hts gX4_partner_X4_needIndex rfl rfl rfl (by decide +kernel) ⟨Nat.le_of_ble_eq_true rfl, Nat.le_of_ble_eq_true rfl⟩) (kPreX_S hK hN hX hP hD hS hA [] (by decide) rfl) rfl rfl hl.1 rfl (lv_room (Nat.le_of_ble_eq_true rfl)) dX4_partner_36 ⟨Nat.le_of_ble_eq_true rfl, Nat.le_of_ble_eq_true rfl⟩)) hS hA hP htb hlocks (by decide) (by decide)
abbrev rm_X4_next_i : Room := { frames := 7, cells := 1, slots := 6, locals := 102 }
set_option maxHeartbeats 1000000 in
set_option maxRecDepth 100000 in
theorem x_X4_next_i (l : Launch) (hst : l.stackTraces = false) (D : va_G) (cy : Nat → ClassId) (S : Nat × Nat × Nat) (i : Int32) (o : Nat → Nat) (a : Nat → Nat) (b : Nat → Nat) (fa : Nat → Nat) (ta : Nat → Nat) (sc : Nat) (C : rC) (L : rG) (F : rG) (Ar : rA) (d : Nat → Nat → Int32) (hbad : ¬ (¬ i < nI 0 ∧ ¬ nI L.2.2.2.2.2 ≤ i)) (sz : Nat) : vx_Met l yX4_next wsX4_next rm_X4_next_i (va_Pc [.ref (o 0), .int i] (kPreX D (kT cy) S [jO o (a, b, fa, ta, sc), sO a C, gW cy a 1 L, gW cy a 7 F, sA cy a Ar, rW cy a d] sz)) kNo (kXC D [jO o (a, b, fa, ta, sc), sO a C, gW cy a 1 L, gW cy a 7 F, sA cy a Ar, rW cy a d] (va_A (bkF [jO o (a, b, fa, ta, sc), sO a C, gW cy a 1 L, gW cy a 7 F, sA cy a Ar, rW cy a d]) sz) nIO) 1 6 (va_A (bkF [jO o (a, b, fa, ta, sc), sO a C, gW cy a 1 L, gW cy a 7 F, sA cy a Ar, rW cy a d]) sz) := by
  refine kOpenX (y := yX4_next) (ws := wsX4_next) (cc := cX4_next) (maxL := 2) (ret := (some .int)) (av := [.ref (o 0), .int i]) (Bs := [jO o (a, b, fa, ta, sc), sO a C, gW cy a 1 L, gW cy a 7 F, sA cy a Ar, rW cy a d]) (XC := fun A => kXC D [jO o (a, b, fa, ta, sc), sO a C, gW cy a 1 L, gW cy a 7 F, sA cy a Ar, rW cy a d] A nIO) (by decide) rfl (Nat.le_of_ble_eq_true rfl) ?_
  intro p e s m args below meth c A Q ls hQ hx hb hml hlocks htb hts hown hN hX hK hP hD hS hA hl
  have hl : lv_has ls 2 [(0, .ref (o 0)), (1, .int i)] := hl
  suffices K9 : ∀ (H : Heap) (locs : List Loc), va_P D vwCl (bkF [jO o (a, b, fa, ta, sc), sO a C, gW cy a 1 L, gW cy a 7 F, sA cy a Ar, rW cy a d]) H → va_S A s.heap H locs → W p l e (headSpec wsX4_next rm_X4_next_i).room s m args below meth c H locs 0 0 Q (F0 m 0 ls []) from K9 _ _ hP hS
  clear hP hS
  intro H locs hP hS
  refine lv_aload_n hx hb dX4_next_0 rfl (lv_at hl 0 rfl) ?_
  refine va_get (D := D) (ci := 4) (v := .ref (a 0)) (C := RX4) (T := TX4) (N := 6) hx hb hts (by decide +kernel) hown hK hP 0 rfl rfl 0 (by decide) (hts (.fieldLink RX4 12 "DanceHall" "hall" "LDanceHall$State;") (by decide +kernel)) (fun _ h9 => h9) rfl dX4_next_1 ?_
  refine va_get (D := D) (ci := 3) (v := .ref (a 1)) (C := RX3) (T := TX3) (N := 14) hx hb hts (by decide +kernel) hown hK hP 1 rfl rfl 0 (by decide) (hts (.fieldLink RX4 142 "DanceHall$State" "leaders" "LDanceHall$Guests;") (by decide +kernel)) (fun _ h9 => h9) rfl dX4_next_4 ?_
  refine lv_iload_n hx hb dX4_next_7 rfl (lv_at hl 1 rfl) ?_
  refine kc_i (Cs := [gW cy a 1 L]) (Rs := [jO o (a, b, fa, ta, sc), sO a C, gW cy a 7 F, sA cy a Ar, rW cy a d]) (Bs := [jO o (a, b, fa, ta, sc), sO a C, gW cy a 1 L, gW cy a 7 F, sA cy a Ar, rW cy a d]) (Cs' := fun u_ : Unit => [gW cy a 1 L]) (Fs := fun u_ : Unit => [jO o (a, b, fa, ta, sc), sO a C, gW cy a 1 L, gW cy a 7 F, sA cy a Ar, rW cy a d]) hP hD hS hA [2] [0, 1, 3, 4, 5] [0, 1, 5, 2, 3, 4] rfl rfl (by decide) (by decide) (fun _ => rfl) (va_runV (As := [.int i]) (rest := []) ⟨hx, hb, hml, hown, hts⟩ (c_X2_has l D cy a 1 L i H.size) (cwV 1 hts gX4_next_X2_has rfl rfl rfl (by decide +kernel) ⟨Nat.le_of_ble_eq_true rfl, Nat.le_of_ble_eq_true rfl⟩) (kPre_V (ci := 2) hK hN hP hD [2] (by decide) rfl 0 rfl rfl) rfl rfl hl.1 rfl (lv_room (Nat.le_of_ble_eq_true rfl)) dX4_next_8 ⟨Nat.le_of_ble_eq_true rfl, Nat.le_of_ble_eq_true rfl⟩) (fun r_ u_ H locs hw hP hD hS => ?_)
  have hw : r_ = if ¬ i < nI 0 ∧ ¬ nI L.2.2.2.2.2 ≤ i then nI 1 else nI 0 := hw
  subst hw
  refine kv_i (y := nI 0) (if_neg hbad) ?_
  subst hQ
  exact kx_call ((vx_runS (As := [.int (nI 0)]) (rest := []) ⟨hx, hb, hml, hown, hts⟩ (x_X4_needIndex l hst D cy S H.size) (va_cwS 1 hts gX4_next_X4_needIndex rfl rfl rfl (by decide +kernel) ⟨Nat.le_of_ble_eq_true rfl, Nat.le_of_ble_eq_true rfl⟩) (kPreX_S hK hN hX hP hD hS hA [] (by decide) rfl) rfl rfl hl.1 rfl (lv_room (Nat.le_of_ble_eq_true rfl)) dX4_next_11 ⟨Nat.le_of_ble_eq_true rfl, Nat.le_of_ble_eq_true rfl⟩)) hS hA hP htb hlocks (by decide) (by decide)
abbrev rm_X4_couplesWith_a : Room := { frames := 7, cells := 1, slots := 6, locals := 102 }
set_option maxHeartbeats 1000000 in
set_option maxRecDepth 100000 in
theorem x_X4_couplesWith_a (l : Launch) (hst : l.stackTraces = false) (D : va_G) (cy : Nat → ClassId) (S : Nat × Nat × Nat) (k : Int32) (o : Nat → Nat) (a : Nat → Nat) (b : Nat → Nat) (fa : Nat → Nat) (ta : Nat → Nat) (sc : Nat) (hbad : ¬ (¬ k < nI 1 ∧ ¬ nI 6 < k)) (sz : Nat) : vx_Met l yX4_couplesWith wsX4_couplesWith rm_X4_couplesWith_a (va_Pc [.ref (o 0), .int k] (kPreX D (kT cy) S [jO o (a, b, fa, ta, sc)] sz)) kNo (kXC D [jO o (a, b, fa, ta, sc)] (va_A (bkF [jO o (a, b, fa, ta, sc)]) sz) nIA) 1 6 (va_A (bkF [jO o (a, b, fa, ta, sc)]) sz) := by
  refine kOpenX (y := yX4_couplesWith) (ws := wsX4_couplesWith) (cc := cX4_couplesWith) (maxL := 2) (ret := (some .int)) (av := [.ref (o 0), .int k]) (Bs := [jO o (a, b, fa, ta, sc)]) (XC := fun A => kXC D [jO o (a, b, fa, ta, sc)] A nIA) (by decide) rfl (Nat.le_of_ble_eq_true rfl) ?_
  intro p e s m args below meth c A Q ls hQ hx hb hml hlocks htb hts hown hN hX hK hP hD hS hA hl
  have hl : lv_has ls 2 [(0, .ref (o 0)), (1, .int k)] := hl
  suffices K9 : ∀ (H : Heap) (locs : List Loc), va_P D vwCl (bkF [jO o (a, b, fa, ta, sc)]) H → va_S A s.heap H locs → W p l e (headSpec wsX4_couplesWith rm_X4_couplesWith_a).room s m args below meth c H locs 0 0 Q (F0 m 0 ls []) from K9 _ _ hP hS
  clear hP hS
  intro H locs hP hS
  refine lv_iload_n hx hb dX4_couplesWith_0 rfl (lv_at hl 1 rfl) ?_
  refine lv_iconst (v := nI 1) hx hb dX4_couplesWith_1 (by decide) ?_
  refine lv_bipush (v := nI 6) hx hb dX4_couplesWith_2 (by decide) ?_
  refine kc_i (Cs := []) (Rs := [jO o (a, b, fa, ta, sc)]) (Bs := [jO o (a, b, fa, ta, sc)]) (Cs' := fun u_ : Unit => []) (Fs := fun u_ : Unit => [jO o (a, b, fa, ta, sc)]) hP hD hS hA [] [0] [0] rfl rfl (by decide) (by decide) (fun _ => rfl) (va_runS (As := [.int k, .int (nI 1), .int (nI 6)]) (rest := []) ⟨hx, hb, hml, hown, hts⟩ (c_X4_isWithin l D cy k (nI 1) (nI 6) H.size) (va_cwS 3 hts gX4_couplesWith_X4_isWithin rfl rfl rfl (by decide +kernel) ⟨Nat.le_of_ble_eq_true rfl, Nat.le_of_ble_eq_true rfl⟩) (kPre_S hK hN hP hD [] (by decide) rfl) rfl rfl hl.1 rfl (lv_room (Nat.le_of_ble_eq_true rfl)) dX4_couplesWith_4 ⟨Nat.le_of_ble_eq_true rfl, Nat.le_of_ble_eq_true rfl⟩) (fun r_ u_ H locs hw hP hD hS => ?_)
  have hw : r_ = if ¬ k < (nI 1) ∧ ¬ (nI 6) < k then nI 1 else nI 0 := hw
  subst hw
  refine kv_i (y := nI 0) (if_neg hbad) ?_
  subst hQ
  exact kx_call ((vx_runS (As := [.int (nI 0)]) (rest := []) ⟨hx, hb, hml, hown, hts⟩ (x_X4_needArgument l hst D cy S H.size) (va_cwS 1 hts gX4_couplesWith_X4_needArgument rfl rfl rfl (by decide +kernel) ⟨Nat.le_of_ble_eq_true rfl, Nat.le_of_ble_eq_true rfl⟩) (kPreX_S hK hN hX hP hD hS hA [] (by decide) rfl) rfl rfl hl.1 rfl (lv_room (Nat.le_of_ble_eq_true rfl)) dX4_couplesWith_7 ⟨Nat.le_of_ble_eq_true rfl, Nat.le_of_ble_eq_true rfl⟩)) hS hA hP htb hlocks (by decide) (by decide)
abbrev rm_X4_append_a : Room := { frames := 7, cells := 1, slots := 6, locals := 102 }
set_option maxHeartbeats 1000000 in
set_option maxRecDepth 100000 in
theorem x_X4_append_a (l : Launch) (hst : l.stackTraces = false) (D : va_G) (cy : Nat → ClassId) (S : Nat × Nat × Nat) (v : Int32) (o : Nat → Nat) (a : Nat → Nat) (b : Nat → Nat) (fa : Nat → Nat) (ta : Nat → Nat) (sc : Nat) (hbad : ¬ (¬ v < nI 0 ∧ ¬ nI 127 < v)) (sz : Nat) : vx_Met l yX4_append wsX4_append rm_X4_append_a (va_Pc [.ref (o 0), .int v] (kPreX D (kT cy) S [jO o (a, b, fa, ta, sc)] sz)) kNo (kXC D [jO o (a, b, fa, ta, sc)] (va_A (bkF [jO o (a, b, fa, ta, sc)]) sz) nIA) 1 6 (va_A (bkF [jO o (a, b, fa, ta, sc)]) sz) := by
  refine kOpenX (y := yX4_append) (ws := wsX4_append) (cc := cX4_append) (maxL := 2) (ret := (some .int)) (av := [.ref (o 0), .int v]) (Bs := [jO o (a, b, fa, ta, sc)]) (XC := fun A => kXC D [jO o (a, b, fa, ta, sc)] A nIA) (by decide) rfl (Nat.le_of_ble_eq_true rfl) ?_
  intro p e s m args below meth c A Q ls hQ hx hb hml hlocks htb hts hown hN hX hK hP hD hS hA hl
  have hl : lv_has ls 2 [(0, .ref (o 0)), (1, .int v)] := hl
  suffices K9 : ∀ (H : Heap) (locs : List Loc), va_P D vwCl (bkF [jO o (a, b, fa, ta, sc)]) H → va_S A s.heap H locs → W p l e (headSpec wsX4_append rm_X4_append_a).room s m args below meth c H locs 0 0 Q (F0 m 0 ls []) from K9 _ _ hP hS
  clear hP hS
  intro H locs hP hS
  refine lv_iload_n hx hb dX4_append_0 rfl (lv_at hl 1 rfl) ?_
  refine lv_iconst (v := nI 0) hx hb dX4_append_1 (by decide) ?_
  refine lv_bipush (v := nI 127) hx hb dX4_append_2 (by decide) ?_
  refine kc_i (Cs := []) (Rs := [jO o (a, b, fa, ta, sc)]) (Bs := [jO o (a, b, fa, ta, sc)]) (Cs' := fun u_ : Unit => []) (Fs := fun u_ : Unit => [jO o (a, b, fa, ta, sc)]) hP hD hS hA [] [0] [0] rfl rfl (by decide) (by decide) (fun _ => rfl) (va_runS (As := [.int v, .int (nI 0), .int (nI 127)]) (rest := []) ⟨hx, hb, hml, hown, hts⟩ (c_X4_isWithin l D cy v (nI 0) (nI 127) H.size) (va_cwS 3 hts gX4_append_X4_isWithin rfl rfl rfl (by decide +kernel) ⟨Nat.le_of_ble_eq_true rfl, Nat.le_of_ble_eq_true rfl⟩) (kPre_S hK hN hP hD [] (by decide) rfl) rfl rfl hl.1 rfl (lv_room (Nat.le_of_ble_eq_true rfl)) dX4_append_4 ⟨Nat.le_of_ble_eq_true rfl, Nat.le_of_ble_eq_true rfl⟩) (fun r_ u_ H locs hw hP hD hS => ?_)
  have hw : r_ = if ¬ v < (nI 0) ∧ ¬ (nI 127) < v then nI 1 else nI 0 := hw
  subst hw
  refine kv_i (y := nI 0) (if_neg hbad) ?_
  subst hQ
  exact kx_call ((vx_runS (As := [.int (nI 0)]) (rest := []) ⟨hx, hb, hml, hown, hts⟩ (x_X4_needArgument l hst D cy S H.size) (va_cwS 1 hts gX4_append_X4_needArgument rfl rfl rfl (by decide +kernel) ⟨Nat.le_of_ble_eq_true rfl, Nat.le_of_ble_eq_true rfl⟩) (kPreX_S hK hN hX hP hD hS hA [] (by decide) rfl) rfl rfl hl.1 rfl (lv_room (Nat.le_of_ble_eq_true rfl)) dX4_append_7 ⟨Nat.le_of_ble_eq_true rfl, Nat.le_of_ble_eq_true rfl⟩)) hS hA hP htb hlocks (by decide) (by decide)
abbrev rm_X4_append_s : Room := { frames := 7, cells := 1, slots := 6, locals := 102 }
set_option maxHeartbeats 1000000 in
set_option maxRecDepth 100000 in
theorem x_X4_append_s (l : Launch) (hst : l.stackTraces = false) (D : va_G) (cy : Nat → ClassId) (S : Nat × Nat × Nat) (v : Nat) (o : Nat → Nat) (a : Nat → Nat) (b : Nat → Nat) (fa : Nat → Nat) (ta : Nat → Nat) (sc : Nat) (bs : Nat → Int32) (ln : Nat) (pl : Nat) (hv : v < 128) (hln : 100 ≤ ln) (hln2 : ln ≤ 100) (sz : Nat) : vx_Met l yX4_append wsX4_append rm_X4_append_s (va_Pc [.ref (o 0), .int (nI v)] (kPreX D (kT cy) S [jO o (a, b, fa, ta, sc), tW cy ta (bs, ln, pl)] sz)) kNo (kXC D [jO o (a, b, fa, ta, sc), tW cy ta (bs, ln, pl)] (va_A (bkF [jO o (a, b, fa, ta, sc), tW cy ta (bs, ln, pl)]) sz) nIS) 1 6 (va_A (bkF [jO o (a, b, fa, ta, sc), tW cy ta (bs, ln, pl)]) sz) := by
  refine kOpenX (y := yX4_append) (ws := wsX4_append) (cc := cX4_append) (maxL := 2) (ret := (some .int)) (av := [.ref (o 0), .int (nI v)]) (Bs := [jO o (a, b, fa, ta, sc), tW cy ta (bs, ln, pl)]) (XC := fun A => kXC D [jO o (a, b, fa, ta, sc), tW cy ta (bs, ln, pl)] A nIS) (by decide) rfl (Nat.le_of_ble_eq_true rfl) ?_
  intro p e s m args below meth c A Q ls hQ hx hb hml hlocks htb hts hown hN hX hK hP hD hS hA hl
  have hl : lv_has ls 2 [(0, .ref (o 0)), (1, .int (nI v))] := hl
  suffices K9 : ∀ (H : Heap) (locs : List Loc), va_P D vwCl (bkF [jO o (a, b, fa, ta, sc), tW cy ta (bs, ln, pl)]) H → va_S A s.heap H locs → W p l e (headSpec wsX4_append rm_X4_append_s).room s m args below meth c H locs 0 0 Q (F0 m 0 ls []) from K9 _ _ hP hS
  clear hP hS
  intro H locs hP hS
  refine lv_iload_n hx hb dX4_append_0 rfl (lv_at hl 1 rfl) ?_
  refine lv_iconst (v := nI 0) hx hb dX4_append_1 (by decide) ?_
  refine lv_bipush (v := nI 127) hx hb dX4_append_2 (by decide) ?_
  refine kc_i (Cs := []) (Rs := [jO o (a, b, fa, ta, sc), tW cy ta (bs, ln, pl)]) (Bs := [jO o (a, b, fa, ta, sc), tW cy ta (bs, ln, pl)]) (Cs' := fun u_ : Unit => []) (Fs := fun u_ : Unit => [jO o (a, b, fa, ta, sc), tW cy ta (bs, ln, pl)]) hP hD hS hA [] [0, 1] [0, 1] rfl rfl (by decide) (by decide) (fun _ => rfl) (va_runS (As := [.int (nI v), .int (nI 0), .int (nI 127)]) (rest := []) ⟨hx, hb, hml, hown, hts⟩ (c_X4_isWithin l D cy (nI v) (nI 0) (nI 127) H.size) (va_cwS 3 hts gX4_append_X4_isWithin rfl rfl rfl (by decide +kernel) ⟨Nat.le_of_ble_eq_true rfl, Nat.le_of_ble_eq_true rfl⟩) (kPre_S hK hN hP hD [] (by decide) rfl) rfl rfl hl.1 rfl (lv_room (Nat.le_of_ble_eq_true rfl)) dX4_append_4 ⟨Nat.le_of_ble_eq_true rfl, Nat.le_of_ble_eq_true rfl⟩) (fun r_ u_ H locs hw hP hD hS => ?_)
  have hw : r_ = if ¬ (nI v) < (nI 0) ∧ ¬ (nI 127) < (nI v) then nI 1 else nI 0 := hw
  subst hw
  refine kv_i (y := nI 1) (if_pos (kwin (by omega) (by omega) (by decide))) ?_
  refine kc_v (Cs := []) (Rs := [jO o (a, b, fa, ta, sc), tW cy ta (bs, ln, pl)]) (Bs := [jO o (a, b, fa, ta, sc), tW cy ta (bs, ln, pl)]) (Cs' := fun u_ : Unit => []) (Fs := fun u_ : Unit => [jO o (a, b, fa, ta, sc), tW cy ta (bs, ln, pl)]) hP hD hS hA [] [0, 1] [0, 1] rfl rfl (by decide) (by decide) (fun _ => rfl) (va_runS (As := [.int (nI 1)]) (rest := []) ⟨hx, hb, hml, hown, hts⟩ (c_X4_needArgument_y l D cy (nI 1) (by first | assumption | omega | decide) H.size) (va_cwS 1 hts gX4_append_X4_needArgument rfl rfl rfl (by decide +kernel) ⟨Nat.le_of_ble_eq_true rfl, Nat.le_of_ble_eq_true rfl⟩) (kPre_S hK hN hP hD [] (by decide) rfl) rfl rfl hl.1 rfl (lv_room (Nat.le_of_ble_eq_true rfl)) dX4_append_7 ⟨Nat.le_of_ble_eq_true rfl, Nat.le_of_ble_eq_true rfl⟩) (fun u_ H locs hw hP hD hS => ?_)
  refine lv_aload_n hx hb dX4_append_10 rfl (lv_at hl 0 rfl) ?_
  refine va_get (D := D) (ci := 4) (v := .ref (ta 0)) (C := RX4) (T := TX4) (N := 6) hx hb hts (by decide +kernel) hown hK hP 0 rfl rfl 3 (by decide) (hts (.fieldLink RX4 29 "DanceHall" "text" "LDanceHall$GuestList;") (by decide +kernel)) (fun _ h9 => h9) rfl dX4_append_11 ?_
  refine va_get (D := D) (ci := 1) (v := .int (nI ln)) (C := RX1) (T := TX1) (N := 3) hx hb hts (by decide +kernel) hown hK hP 1 rfl rfl 1 (by decide) (hts (.fieldLink RX4 185 "DanceHall$GuestList" "length" "I") (by decide +kernel)) (fun _ h9 => h9) rfl dX4_append_14 ?_
  refine lv_bipush (v := nI 100) hx hb dX4_append_17 (by decide) ?_
  refine lv_icmp_ge (tgt := 26) hx hb dX4_append_19 (by decide) (fun c_19 => ?_) (fun c_19 => False.elim ?_)
  · skip
    have c_19 : 100 ≤ ln := (nI_leI (a := 100) (b := ln) (by omega) (by omega)).mp c_19
    refine lv_iconst (v := nI 0) hx hb dX4_append_26 (by decide) ?_
    subst hQ
    exact kx_call ((vx_runS (As := [.int (nI 0)]) (rest := []) ⟨hx, hb, hml, hown, hts⟩ (x_X4_needState l hst D cy S H.size) (va_cwS 1 hts gX4_append_X4_needState rfl rfl rfl (by decide +kernel) ⟨Nat.le_of_ble_eq_true rfl, Nat.le_of_ble_eq_true rfl⟩) (kPreX_S hK hN hX hP hD hS hA [] (by decide) rfl) rfl rfl hl.1 rfl (lv_room (Nat.le_of_ble_eq_true rfl)) dX4_append_27 ⟨Nat.le_of_ble_eq_true rfl, Nat.le_of_ble_eq_true rfl⟩)) hS hA hP htb hlocks (by decide) (by decide)
  · skip
    have c_19 : ¬ (100 ≤ ln) := fun h => c_19 ((nI_leI (a := 100) (b := ln) (by omega) (by omega)).mpr h)
    omega
abbrev rm_X4_undo_s : Room := { frames := 7, cells := 1, slots := 6, locals := 102 }
set_option maxHeartbeats 1000000 in
set_option maxRecDepth 100000 in
theorem x_X4_undo_s (l : Launch) (hst : l.stackTraces = false) (D : va_G) (cy : Nat → ClassId) (S : Nat × Nat × Nat) (o : Nat → Nat) (a : Nat → Nat) (b : Nat → Nat) (fa : Nat → Nat) (ta : Nat → Nat) (sz : Nat) : vx_Met l yX4_undo wsX4_undo rm_X4_undo_s (va_Pc [.ref (o 0)] (kPreX D (kT cy) S [jO o (a, b, fa, ta, 0)] sz)) kNo (kXC D [jO o (a, b, fa, ta, 0)] (va_A (bkF [jO o (a, b, fa, ta, 0)]) sz) nIS) 1 6 (va_A (bkF [jO o (a, b, fa, ta, 0)]) sz) := by
  refine kOpenX (y := yX4_undo) (ws := wsX4_undo) (cc := cX4_undo) (maxL := 1) (ret := (some .int)) (av := [.ref (o 0)]) (Bs := [jO o (a, b, fa, ta, 0)]) (XC := fun A => kXC D [jO o (a, b, fa, ta, 0)] A nIS) (by decide) rfl (Nat.le_of_ble_eq_true rfl) ?_
  intro p e s m args below meth c A Q ls hQ hx hb hml hlocks htb hts hown hN hX hK hP hD hS hA hl
  have hl : lv_has ls 1 [(0, .ref (o 0))] := hl
  suffices K9 : ∀ (H : Heap) (locs : List Loc), va_P D vwCl (bkF [jO o (a, b, fa, ta, 0)]) H → va_S A s.heap H locs → W p l e (headSpec wsX4_undo rm_X4_undo_s).room s m args below meth c H locs 0 0 Q (F0 m 0 ls []) from K9 _ _ hP hS
  clear hP hS
  intro H locs hP hS
  refine lv_aload_n hx hb dX4_undo_0 rfl (lv_at hl 0 rfl) ?_
  refine va_get (D := D) (ci := 4) (v := .int (nI 0)) (C := RX4) (T := TX4) (N := 6) hx hb hts (by decide +kernel) hown hK hP 0 rfl rfl 5 (by decide) (hts (.fieldLink RX4 201 "DanceHall" "savedCount" "I") (by decide +kernel)) (fun _ h9 => h9) rfl dX4_undo_1 ?_
  refine lv_if_le (tgt := 11) hx hb dX4_undo_4 (by decide) (fun _ => ?_) (fun h => absurd h (by decide))
  refine lv_iconst (v := nI 0) hx hb dX4_undo_11 (by decide) ?_
  subst hQ
  exact kx_call ((vx_runS (As := [.int (nI 0)]) (rest := []) ⟨hx, hb, hml, hown, hts⟩ (x_X4_needState l hst D cy S H.size) (va_cwS 1 hts gX4_undo_X4_needState rfl rfl rfl (by decide +kernel) ⟨Nat.le_of_ble_eq_true rfl, Nat.le_of_ble_eq_true rfl⟩) (kPreX_S hK hN hX hP hD hS hA [] (by decide) rfl) rfl rfl hl.1 rfl (lv_room (Nat.le_of_ble_eq_true rfl)) dX4_undo_12 ⟨Nat.le_of_ble_eq_true rfl, Nat.le_of_ble_eq_true rfl⟩)) hS hA hP htb hlocks (by decide) (by decide)
