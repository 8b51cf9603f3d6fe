abbrev rm_X5_here : Room := { frames := 0, cells := 0, slots := 0, locals := 0 }
set_option maxHeartbeats 1000000 in
set_option maxRecDepth 100000 in
/-- here -/
theorem c_X5_here (l : Launch) (D : va_G) (cy : Nat → ClassId) (ra : Nat → Nat) (al : Nat → Int32) (T : rV) (htl : T.2.2.2.2.2.2.2.2.2.2.1 ≤ 100) (hpl : T.2.2.2.2.2.2.2.2.2.2.2.1 ≤ 150) (sz : Nat) : Met l yX5_here wsX5_here rm_X5_here (va_Pc [.ref (ra 0)] (kPre D (kT cy) [mW cy ra (al, T)] sz)) (va_Qi (fun r_ (u_ : Unit) => r_ = kHr T.2.2.2.2.2.2.2.2.2.1 T.2.2.2.2.2.2.2.2.2.2.1 T.2.2.2.2.2.2.2.2.2.2.2.1) (kFr D (kT cy) [mW cy ra (al, T)] sz (fun u_ : Unit => [mW cy ra (al, T)])) (va_A (bkF [mW cy ra (al, T)]) sz)) 0 0 (va_A (bkF [mW cy ra (al, T)]) sz) := by
  refine kOpen (y := yX5_here) (ws := wsX5_here) (cc := cX5_here) (maxL := 1) (ret := (some .int)) (av := [.ref (ra 0)]) (Bs := [mW cy ra (al, T)]) (Qc := fun A => (va_Qi (fun r_ (u_ : Unit) => r_ = kHr T.2.2.2.2.2.2.2.2.2.1 T.2.2.2.2.2.2.2.2.2.2.1 T.2.2.2.2.2.2.2.2.2.2.2.1) (fun (u_ : Unit) t9 => kEnd D (kT cy) A [mW cy ra (al, T)] t9) A)) (by decide) rfl (Nat.le_of_ble_eq_true rfl) ?_
  intro p e s m args below meth c A Q ls hQ hx hb hml hr hlocks hin hts hown hN hK hP hD hS hA hsz hAe hl
  clear hAe
  have hl : lv_has ls 1 [(0, .ref (ra 0))] := hl
  suffices K9 : ∀ (H : Heap) (locs : List Loc), va_P D vwCl (bkF [mW cy ra (al, T)]) H → va_S A s.heap H locs → W p l e (headSpec wsX5_here rm_X5_here).room s m args below meth c H locs 0 0 Q (F0 m 0 ls []) from K9 _ _ hP hS
  clear hP hS
  intro H locs hP hS
  refine lv_aload_n hx hb dX5_here_0 rfl (lv_at hl 0 rfl) ?_
  refine va_get (D := D) (ci := 5) (v := .int (nI T.2.2.2.2.2.2.2.2.2.2.2.1)) (C := RX5) (T := TX5) (N := 16) hx hb hts (by decide +kernel) hown hK hP 0 rfl rfl 12 (by decide) (hts (.fieldLink RX5 174 "DanceHallModel" "place" "I") (by decide +kernel)) (fun _ h9 => h9) rfl dX5_here_1 ?_
  refine lv_aload_n hx hb dX5_here_4 rfl (lv_at hl 0 rfl) ?_
  refine va_get (D := D) (ci := 5) (v := .int (nI T.2.2.2.2.2.2.2.2.2.2.1)) (C := RX5) (T := TX5) (N := 16) hx hb hts (by decide +kernel) hown hK hP 0 rfl rfl 11 (by decide) (hts (.fieldLink RX5 171 "DanceHallModel" "textLong" "I") (by decide +kernel)) (fun _ h9 => h9) rfl dX5_here_5 ?_
  refine lv_icmp_ge (tgt := 23) hx hb dX5_here_8 (by decide) (fun c_8 => ?_) (fun c_8 => ?_)
  · skip
    have c_8 : T.2.2.2.2.2.2.2.2.2.2.1 ≤ T.2.2.2.2.2.2.2.2.2.2.2.1 := (nI_leI (a := T.2.2.2.2.2.2.2.2.2.2.1) (b := T.2.2.2.2.2.2.2.2.2.2.2.1) (by omega) (by omega)).mp c_8
    refine lv_iconst (v := (-1 : Int32)) hx hb dX5_here_23 (by decide) ?_
    exact kr_i (post := fun r_ (u_ : Unit) => r_ = kHr T.2.2.2.2.2.2.2.2.2.1 T.2.2.2.2.2.2.2.2.2.2.1 T.2.2.2.2.2.2.2.2.2.2.2.1) (Bs := fun u_ : Unit => [mW cy ra (al, T)]) hx hb hr hlocks rfl () hP hK hD hS (kHr_n c_8) dX5_here_24 hQ
  · skip
    have c_8 : ¬ (T.2.2.2.2.2.2.2.2.2.2.1 ≤ T.2.2.2.2.2.2.2.2.2.2.2.1) := fun h => c_8 ((nI_leI (a := T.2.2.2.2.2.2.2.2.2.2.1) (b := T.2.2.2.2.2.2.2.2.2.2.2.1) (by omega) (by omega)).mpr h)
    refine lv_aload_n hx hb dX5_here_11 rfl (lv_at hl 0 rfl) ?_
    refine va_get (D := D) (ci := 5) (v := .ref (ra 9)) (C := RX5) (T := TX5) (N := 16) hx hb hts (by decide +kernel) hown hK hP 0 rfl rfl 10 (by decide) (hts (.fieldLink RX5 35 "DanceHallModel" "text" "[I") (by decide +kernel)) (fun _ h9 => h9) rfl dX5_here_12 ?_
    refine lv_aload_n hx hb dX5_here_15 rfl (lv_at hl 0 rfl) ?_
    refine va_get (D := D) (ci := 5) (v := .int (nI T.2.2.2.2.2.2.2.2.2.2.2.1)) (C := RX5) (T := TX5) (N := 16) hx hb hts (by decide +kernel) hown hK hP 0 rfl rfl 12 (by decide) (hts (.fieldLink RX5 174 "DanceHallModel" "place" "I") (by decide +kernel)) (fun _ h9 => h9) rfl dX5_here_16 ?_
    refine va_iald hx hb hK hP 9 0 rfl rfl (vp_in_nI (n := T.2.2.2.2.2.2.2.2.2.2.2.1) (N := 100) (by omega) (by omega)) dX5_here_19 ?_
    refine kv_i (y := T.2.2.2.2.2.2.2.2.2.1 T.2.2.2.2.2.2.2.2.2.2.2.1) (congrArg T.2.2.2.2.2.2.2.2.2.1 (nI_clamp (n := T.2.2.2.2.2.2.2.2.2.2.2.1) (by omega))) ?_
    refine lv_goto (tgt := 24) hx hb dX5_here_20 (by decide) ?_
    exact kr_i (post := fun r_ (u_ : Unit) => r_ = kHr T.2.2.2.2.2.2.2.2.2.1 T.2.2.2.2.2.2.2.2.2.2.1 T.2.2.2.2.2.2.2.2.2.2.2.1) (Bs := fun u_ : Unit => [mW cy ra (al, T)]) hx hb hr hlocks rfl () hP hK hD hS (kHr_y c_8) dX5_here_24 hQ
abbrev rm_X5_passes_y : Room := { frames := 1, cells := 0, slots := 0, locals := 20 }
set_option maxHeartbeats 1000000 in
set_option maxRecDepth 100000 in
/-- passes, there -/
theorem c_X5_passes_y (l : Launch) (D : va_G) (cy : Nat → ClassId) (ra : Nat → Nat) (al : Nat → Int32) (T : rV) (c9 : Nat) (htl : T.2.2.2.2.2.2.2.2.2.2.1 ≤ 100) (hpl : T.2.2.2.2.2.2.2.2.2.2.2.1 ≤ 145) (hc9 : c9 < 128) (hk : kIs T.2.2.2.2.2.2.2.2.2.1 T.2.2.2.2.2.2.2.2.2.2.1 T.2.2.2.2.2.2.2.2.2.2.2.1 c9) (sz : Nat) : Met l yX5_passes wsX5_passes rm_X5_passes_y (va_Pc [.ref (ra 0), .int (nI c9)] (kPre D (kT cy) [mW cy ra (al, T)] sz)) (va_Qi (fun r_ (u_ : Unit) => r_ = nI 1) (kFr D (kT cy) [mW cy ra (al, T)] sz (fun u_ : Unit => [mW cy ra (al, (T.1, T.2.1, T.2.2.1, T.2.2.2.1, T.2.2.2.2.1, T.2.2.2.2.2.1, T.2.2.2.2.2.2.1, T.2.2.2.2.2.2.2.1, T.2.2.2.2.2.2.2.2.1, T.2.2.2.2.2.2.2.2.2.1, T.2.2.2.2.2.2.2.2.2.2.1, T.2.2.2.2.2.2.2.2.2.2.2.1 + 1, T.2.2.2.2.2.2.2.2.2.2.2.2))])) (va_A (bkF [mW cy ra (al, T)]) sz)) 0 0 (va_A (bkF [mW cy ra (al, T)]) sz) := by
  refine kOpen (y := yX5_passes) (ws := wsX5_passes) (cc := cX5_passes) (maxL := 3) (ret := (some .boolean)) (av := [.ref (ra 0), .int (nI c9)]) (Bs := [mW cy ra (al, T)]) (Qc := fun A => (va_Qi (fun r_ (u_ : Unit) => r_ = nI 1) (fun (u_ : Unit) t9 => kEnd D (kT cy) A [mW cy ra (al, (T.1, T.2.1, T.2.2.1, T.2.2.2.1, T.2.2.2.2.1, T.2.2.2.2.2.1, T.2.2.2.2.2.2.1, T.2.2.2.2.2.2.2.1, T.2.2.2.2.2.2.2.2.1, T.2.2.2.2.2.2.2.2.2.1, T.2.2.2.2.2.2.2.2.2.2.1, T.2.2.2.2.2.2.2.2.2.2.2.1 + 1, T.2.2.2.2.2.2.2.2.2.2.2.2))] t9) A)) (by decide) rfl (Nat.le_of_ble_eq_true rfl) ?_
  intro p e s m args below meth c A Q ls hQ hx hb hml hr hlocks hin hts hown hN hK hP hD hS hA hsz hAe hl
  clear hAe
  have hl : lv_has ls 3 [(0, .ref (ra 0)), (1, .int (nI c9))] := hl
  suffices K9 : ∀ (H : Heap) (locs : List Loc), va_P D vwCl (bkF [mW cy ra (al, T)]) H → va_S A s.heap H locs → W p l e (headSpec wsX5_passes rm_X5_passes_y).room s m args below meth c H locs 0 0 Q (F0 m 0 ls []) from K9 _ _ hP hS
  clear hP hS
  intro H locs hP hS
  refine lv_aload_n hx hb dX5_passes_0 rfl (lv_at hl 0 rfl) ?_
  refine kc_i (Cs := [mW cy ra (al, T)]) (Rs := []) (Bs := [mW cy ra (al, T)]) (Cs' := fun u_ : Unit => [mW cy ra (al, T)]) (Fs := fun u_ : Unit => [mW cy ra (al, T)]) hP hD hS hA [0] [] [0] rfl rfl (by decide) (by decide) (fun _ => rfl) (va_runV (As := []) (rest := []) ⟨hx, hb, hml, hown, hts⟩ (c_X5_here l D cy ra al T (by (try dsimp only); first | assumption | omega | decide) (by (try dsimp only); first | assumption | omega | decide) H.size) (cwV 0 hts gX5_passes_X5_here rfl rfl rfl (by decide +kernel) ⟨Nat.le_of_ble_eq_true rfl, Nat.le_of_ble_eq_true rfl⟩) (kPre_V (ci := 5) hK hN hP hD [0] (by decide) rfl 0 rfl rfl) rfl rfl hl.1 rfl (lv_room (Nat.le_of_ble_eq_true rfl)) dX5_passes_1 ⟨Nat.le_of_ble_eq_true rfl, Nat.le_of_ble_eq_true rfl⟩) (fun r_ u_ H locs hw hP hD hS => ?_)
  have hw : r_ = kHr T.2.2.2.2.2.2.2.2.2.1 T.2.2.2.2.2.2.2.2.2.2.1 T.2.2.2.2.2.2.2.2.2.2.2.1 := hw
  subst hw
  refine lv_iload_n hx hb dX5_passes_4 rfl (lv_at hl 1 rfl) ?_
  refine lv_icmp_ne (tgt := 12) hx hb dX5_passes_5 (by decide) (fun c_5 => False.elim ?_) (fun c_5 => ?_)
  · skip
    exact c_5 ((kHr_is (by omega)).mpr hk)
  · skip
    refine lv_iconst (v := nI 1) hx hb dX5_passes_8 (by decide) ?_
    refine lv_goto (tgt := 13) hx hb dX5_passes_9 (by decide) ?_
    refine lv_istore_n (lv' := [(2, .int (nI 1)), (0, .ref (ra 0)), (1, .int (nI c9))]) hx hb dX5_passes_13 rfl hl (by decide) rfl (fun ls hl => ?_)
    refine lv_aload_n hx hb dX5_passes_14 rfl (lv_at hl 1 rfl) ?_
    refine lv_dup hx hb dX5_passes_15 rfl ?_
    refine va_get (D := D) (ci := 5) (v := .int (nI T.2.2.2.2.2.2.2.2.2.2.2.1)) (C := RX5) (T := TX5) (N := 16) hx hb hts (by decide +kernel) hown hK hP 0 rfl rfl 12 (by decide) (hts (.fieldLink RX5 174 "DanceHallModel" "place" "I") (by decide +kernel)) (fun _ h9 => h9) rfl dX5_passes_16 ?_
    refine lv_iload_n hx hb dX5_passes_19 rfl (lv_at hl 0 rfl) ?_
    refine lv_if_eq (tgt := 27) hx hb dX5_passes_20 (by decide) (fun h => absurd h (by decide)) (fun _ => ?_)
    refine lv_iconst (v := nI 1) hx hb dX5_passes_23 (by decide) ?_
    refine lv_goto (tgt := 28) hx hb dX5_passes_24 (by decide) ?_
    refine lv_iadd hx hb dX5_passes_28 ?_
    refine kv_i (y := nI (T.2.2.2.2.2.2.2.2.2.2.2.1 + 1)) (nI_add T.2.2.2.2.2.2.2.2.2.2.2.1 1) ?_
    refine va_put (D := D) (ci := 5) (v := .int (nI (T.2.2.2.2.2.2.2.2.2.2.2.1 + 1))) (ty := .int) (C := RX5) (T := TX5) (N := 16) hx hb hts (by decide +kernel) tyX5 tyX5_ok nmX5 hown hK hP hD hS 0 rfl rfl 12 (by decide) (hts (.fieldLink RX5 174 "DanceHallModel" "place" "I") (by decide +kernel)) (fun _ h9 => h9) rfl (by decide +kernel) rfl rfl (Nat.le_of_ble_eq_true rfl) dX5_passes_29 (fun H locs hP hD hS => ?_)
    have hP : va_P D vwCl (bkF [mW cy ra (al, (T.1, T.2.1, T.2.2.1, T.2.2.2.1, T.2.2.2.2.1, T.2.2.2.2.2.1, T.2.2.2.2.2.2.1, T.2.2.2.2.2.2.2.1, T.2.2.2.2.2.2.2.2.1, T.2.2.2.2.2.2.2.2.2.1, T.2.2.2.2.2.2.2.2.2.2.1, T.2.2.2.2.2.2.2.2.2.2.2.1 + 1, T.2.2.2.2.2.2.2.2.2.2.2.2))]) H := hP
    have hD : va_D A (bkF [mW cy ra (al, (T.1, T.2.1, T.2.2.1, T.2.2.2.1, T.2.2.2.2.1, T.2.2.2.2.2.1, T.2.2.2.2.2.2.1, T.2.2.2.2.2.2.2.1, T.2.2.2.2.2.2.2.2.1, T.2.2.2.2.2.2.2.2.2.1, T.2.2.2.2.2.2.2.2.2.2.1, T.2.2.2.2.2.2.2.2.2.2.2.1 + 1, T.2.2.2.2.2.2.2.2.2.2.2.2))]) := hD
    refine lv_iload_n hx hb dX5_passes_32 rfl (lv_at hl 0 rfl) ?_
    exact kr_i (post := fun r_ (u_ : Unit) => r_ = nI 1) (Bs := fun u_ : Unit => [mW cy ra (al, (T.1, T.2.1, T.2.2.1, T.2.2.2.1, T.2.2.2.2.1, T.2.2.2.2.2.1, T.2.2.2.2.2.2.1, T.2.2.2.2.2.2.2.1, T.2.2.2.2.2.2.2.2.1, T.2.2.2.2.2.2.2.2.2.1, T.2.2.2.2.2.2.2.2.2.2.1, T.2.2.2.2.2.2.2.2.2.2.2.1 + 1, T.2.2.2.2.2.2.2.2.2.2.2.2))]) hx hb hr hlocks rfl () hP hK hD hS rfl dX5_passes_33 hQ
abbrev rm_X5_passes_n : Room := { frames := 1, cells := 0, slots := 0, locals := 20 }
set_option maxHeartbeats 1000000 in
set_option maxRecDepth 100000 in
/-- passes, not there -/
theorem c_X5_passes_n (l : Launch) (D : va_G) (cy : Nat → ClassId) (ra : Nat → Nat) (al : Nat → Int32) (T : rV) (c9 : Nat) (htl : T.2.2.2.2.2.2.2.2.2.2.1 ≤ 100) (hpl : T.2.2.2.2.2.2.2.2.2.2.2.1 ≤ 145) (hc9 : c9 < 128) (hk : ¬ kIs T.2.2.2.2.2.2.2.2.2.1 T.2.2.2.2.2.2.2.2.2.2.1 T.2.2.2.2.2.2.2.2.2.2.2.1 c9) (sz : Nat) : Met l yX5_passes wsX5_passes rm_X5_passes_n (va_Pc [.ref (ra 0), .int (nI c9)] (kPre D (kT cy) [mW cy ra (al, T)] sz)) (va_Qi (fun r_ (u_ : Unit) => r_ = nI 0) (kFr D (kT cy) [mW cy ra (al, T)] sz (fun u_ : Unit => [mW cy ra (al, T)])) (va_A (bkF [mW cy ra (al, T)]) sz)) 0 0 (va_A (bkF [mW cy ra (al, T)]) sz) := by
  refine kOpen (y := yX5_passes) (ws := wsX5_passes) (cc := cX5_passes) (maxL := 3) (ret := (some .boolean)) (av := [.ref (ra 0), .int (nI c9)]) (Bs := [mW cy ra (al, T)]) (Qc := fun A => (va_Qi (fun r_ (u_ : Unit) => r_ = nI 0) (fun (u_ : Unit) t9 => kEnd D (kT cy) A [mW cy ra (al, T)] t9) A)) (by decide) rfl (Nat.le_of_ble_eq_true rfl) ?_
  intro p e s m args below meth c A Q ls hQ hx hb hml hr hlocks hin hts hown hN hK hP hD hS hA hsz hAe hl
  clear hAe
  have hl : lv_has ls 3 [(0, .ref (ra 0)), (1, .int (nI c9))] := hl
  suffices K9 : ∀ (H : Heap) (locs : List Loc), va_P D vwCl (bkF [mW cy ra (al, T)]) H → va_S A s.heap H locs → W p l e (headSpec wsX5_passes rm_X5_passes_n).room s m args below meth c H locs 0 0 Q (F0 m 0 ls []) from K9 _ _ hP hS
  clear hP hS
  intro H locs hP hS
  refine lv_aload_n hx hb dX5_passes_0 rfl (lv_at hl 0 rfl) ?_
  refine kc_i (Cs := [mW cy ra (al, T)]) (Rs := []) (Bs := [mW cy ra (al, T)]) (Cs' := fun u_ : Unit => [mW cy ra (al, T)]) (Fs := fun u_ : Unit => [mW cy ra (al, T)]) hP hD hS hA [0] [] [0] rfl rfl (by decide) (by decide) (fun _ => rfl) (va_runV (As := []) (rest := []) ⟨hx, hb, hml, hown, hts⟩ (c_X5_here l D cy ra al T (by (try dsimp only); first | assumption | omega | decide) (by (try dsimp only); first | assumption | omega | decide) H.size) (cwV 0 hts gX5_passes_X5_here rfl rfl rfl (by decide +kernel) ⟨Nat.le_of_ble_eq_true rfl, Nat.le_of_ble_eq_true rfl⟩) (kPre_V (ci := 5) hK hN hP hD [0] (by decide) rfl 0 rfl rfl) rfl rfl hl.1 rfl (lv_room (Nat.le_of_ble_eq_true rfl)) dX5_passes_1 ⟨Nat.le_of_ble_eq_true rfl, Nat.le_of_ble_eq_true rfl⟩) (fun r_ u_ H locs hw hP hD hS => ?_)
  have hw : r_ = kHr T.2.2.2.2.2.2.2.2.2.1 T.2.2.2.2.2.2.2.2.2.2.1 T.2.2.2.2.2.2.2.2.2.2.2.1 := hw
  subst hw
  refine lv_iload_n hx hb dX5_passes_4 rfl (lv_at hl 1 rfl) ?_
  refine lv_icmp_ne (tgt := 12) hx hb dX5_passes_5 (by decide) (fun c_5 => ?_) (fun c_5 => False.elim ?_)
  · skip
    refine lv_iconst (v := nI 0) hx hb dX5_passes_12 (by decide) ?_
    refine lv_istore_n (lv' := [(2, .int (nI 0)), (0, .ref (ra 0)), (1, .int (nI c9))]) hx hb dX5_passes_13 rfl hl (by decide) rfl (fun ls hl => ?_)
    refine lv_aload_n hx hb dX5_passes_14 rfl (lv_at hl 1 rfl) ?_
    refine lv_dup hx hb dX5_passes_15 rfl ?_
    refine va_get (D := D) (ci := 5) (v := .int (nI T.2.2.2.2.2.2.2.2.2.2.2.1)) (C := RX5) (T := TX5) (N := 16) hx hb hts (by decide +kernel) hown hK hP 0 rfl rfl 12 (by decide) (hts (.fieldLink RX5 174 "DanceHallModel" "place" "I") (by decide +kernel)) (fun _ h9 => h9) rfl dX5_passes_16 ?_
    refine lv_iload_n hx hb dX5_passes_19 rfl (lv_at hl 0 rfl) ?_
    refine lv_if_eq (tgt := 27) hx hb dX5_passes_20 (by decide) (fun _ => ?_) (fun h => absurd h (by decide))
    refine lv_iconst (v := nI 0) hx hb dX5_passes_27 (by decide) ?_
    refine lv_iadd hx hb dX5_passes_28 ?_
    refine kv_i (y := nI (T.2.2.2.2.2.2.2.2.2.2.2.1 + 0)) (nI_add T.2.2.2.2.2.2.2.2.2.2.2.1 0) ?_
    refine kv_i (y := nI T.2.2.2.2.2.2.2.2.2.2.2.1) rfl ?_
    refine va_put (D := D) (ci := 5) (v := .int (nI T.2.2.2.2.2.2.2.2.2.2.2.1)) (ty := .int) (C := RX5) (T := TX5) (N := 16) hx hb hts (by decide +kernel) tyX5 tyX5_ok nmX5 hown hK hP hD hS 0 rfl rfl 12 (by decide) (hts (.fieldLink RX5 174 "DanceHallModel" "place" "I") (by decide +kernel)) (fun _ h9 => h9) rfl (by decide +kernel) rfl rfl (Nat.le_of_ble_eq_true rfl) dX5_passes_29 (fun H locs hP hD hS => ?_)
    have hP : va_P D vwCl (bkF [mW cy ra (al, T)]) H := hP
    have hD : va_D A (bkF [mW cy ra (al, T)]) := hD
    refine lv_iload_n hx hb dX5_passes_32 rfl (lv_at hl 0 rfl) ?_
    exact kr_i (post := fun r_ (u_ : Unit) => r_ = nI 0) (Bs := fun u_ : Unit => [mW cy ra (al, T)]) hx hb hr hlocks rfl () hP hK hD hS rfl dX5_passes_33 hQ
  · skip
    exact hk ((kHr_is (by omega)).mp c_5)
abbrev rm_X5_readsTokens_n : Room := { frames := 1, cells := 0, slots := 0, locals := 25 }
set_option maxHeartbeats 1000000 in
set_option maxRecDepth 100000 in
/-- readsTokens -/
theorem c_X5_readsTokens_n (l : Launch) (D : va_G) (cy : Nat → ClassId) (ra : Nat → Nat) (al : Nat → Int32) (T : rV) (hby : kBy T.2.2.2.2.2.2.2.2.2.1) (htl : T.2.2.2.2.2.2.2.2.2.2.1 ≤ 100) (hpl : T.2.2.2.2.2.2.2.2.2.2.2.1 ≤ 140) (hgs : T.2.2.2.2.2.2.2.2.2.2.2.2.2.1 < 16) (hk : ¬ kDig T.2.2.2.2.2.2.2.2.2.1 T.2.2.2.2.2.2.2.2.2.2.1 T.2.2.2.2.2.2.2.2.2.2.2.1 0) (sz : Nat) : Met l yX5_readsTokens wsX5_readsTokens rm_X5_readsTokens_n (va_Pc [.ref (ra 0)] (kPre D (kT cy) [mW cy ra (al, T)] sz)) (va_Qi (fun r_ (u_ : Unit) => r_ = nI 0) (kFr D (kT cy) [mW cy ra (al, T)] sz (fun u_ : Unit => [mW cy ra (al, (T.1, T.2.1, T.2.2.1, T.2.2.2.1, T.2.2.2.2.1, T.2.2.2.2.2.1, T.2.2.2.2.2.2.1, T.2.2.2.2.2.2.2.1, T.2.2.2.2.2.2.2.2.1, T.2.2.2.2.2.2.2.2.2.1, T.2.2.2.2.2.2.2.2.2.2.1, T.2.2.2.2.2.2.2.2.2.2.2.1, upd T.2.2.2.2.2.2.2.2.2.2.2.2.1 (4 * T.2.2.2.2.2.2.2.2.2.2.2.2.2.1 + 1) (nI 0), T.2.2.2.2.2.2.2.2.2.2.2.2.2))])) (va_A (bkF [mW cy ra (al, T)]) sz)) 0 0 (va_A (bkF [mW cy ra (al, T)]) sz) := by
  refine kOpen (y := yX5_readsTokens) (ws := wsX5_readsTokens) (cc := cX5_readsTokens) (maxL := 3) (ret := (some .boolean)) (av := [.ref (ra 0)]) (Bs := [mW cy ra (al, T)]) (Qc := fun A => (va_Qi (fun r_ (u_ : Unit) => r_ = nI 0) (fun (u_ : Unit) t9 => kEnd D (kT cy) A [mW cy ra (al, (T.1, T.2.1, T.2.2.1, T.2.2.2.1, T.2.2.2.2.1, T.2.2.2.2.2.1, T.2.2.2.2.2.2.1, T.2.2.2.2.2.2.2.1, T.2.2.2.2.2.2.2.2.1, T.2.2.2.2.2.2.2.2.2.1, T.2.2.2.2.2.2.2.2.2.2.1, T.2.2.2.2.2.2.2.2.2.2.2.1, upd T.2.2.2.2.2.2.2.2.2.2.2.2.1 (4 * T.2.2.2.2.2.2.2.2.2.2.2.2.2.1 + 1) (nI 0), T.2.2.2.2.2.2.2.2.2.2.2.2.2))] t9) A)) (by decide) rfl (Nat.le_of_ble_eq_true rfl) ?_
  intro p e s m args below meth c A Q ls hQ hx hb hml hr hlocks hin hts hown hN hK hP hD hS hA hsz hAe hl
  clear hAe
  have hl : lv_has ls 3 [(0, .ref (ra 0))] := hl
  suffices K9 : ∀ (H : Heap) (locs : List Loc), va_P D vwCl (bkF [mW cy ra (al, T)]) H → va_S A s.heap H locs → W p l e (headSpec wsX5_readsTokens rm_X5_readsTokens_n).room s m args below meth c H locs 0 0 Q (F0 m 0 ls []) from K9 _ _ hP hS
  clear hP hS
  intro H locs hP hS
  refine lv_aload_n hx hb dX5_readsTokens_0 rfl (lv_at hl 0 rfl) ?_
  refine va_get (D := D) (ci := 5) (v := .int (nI T.2.2.2.2.2.2.2.2.2.2.2.1)) (C := RX5) (T := TX5) (N := 16) hx hb hts (by decide +kernel) hown hK hP 0 rfl rfl 12 (by decide) (hts (.fieldLink RX5 174 "DanceHallModel" "place" "I") (by decide +kernel)) (fun _ h9 => h9) rfl dX5_readsTokens_1 ?_
  refine lv_istore_n (lv' := [(1, .int (nI T.2.2.2.2.2.2.2.2.2.2.2.1)), (0, .ref (ra 0))]) hx hb dX5_readsTokens_4 rfl hl (by decide) rfl (fun ls hl => ?_)
  refine lv_iconst (v := nI 0) hx hb dX5_readsTokens_5 (by decide) ?_
  refine lv_istore_n (lv' := [(2, .int (nI 0)), (1, .int (nI T.2.2.2.2.2.2.2.2.2.2.2.1)), (0, .ref (ra 0))]) hx hb dX5_readsTokens_6 rfl hl (by decide) rfl (fun ls hl => ?_)
  refine lv_aload_n hx hb dX5_readsTokens_7 rfl (lv_at hl 2 rfl) ?_
  refine kc_i (Cs := [mW cy ra (al, T)]) (Rs := []) (Bs := [mW cy ra (al, T)]) (Cs' := fun u_ : Unit => [mW cy ra (al, T)]) (Fs := fun u_ : Unit => [mW cy ra (al, T)]) hP hD hS hA [0] [] [0] rfl rfl (by decide) (by decide) (fun _ => rfl) (va_runV (As := []) (rest := []) ⟨hx, hb, hml, hown, hts⟩ (c_X5_here l D cy ra al T htl (by (try dsimp only); first | assumption | omega | decide) H.size) (cwV 0 hts gX5_readsTokens_X5_here rfl rfl rfl (by decide +kernel) ⟨Nat.le_of_ble_eq_true rfl, Nat.le_of_ble_eq_true rfl⟩) (kPre_V (ci := 5) hK hN hP hD [0] (by decide) rfl 0 rfl rfl) rfl rfl hl.1 rfl (lv_room (Nat.le_of_ble_eq_true rfl)) dX5_readsTokens_8 ⟨Nat.le_of_ble_eq_true rfl, Nat.le_of_ble_eq_true rfl⟩) (fun r_ u_ H locs hw hP hD hS => ?_)
  have hw : r_ = kHr T.2.2.2.2.2.2.2.2.2.1 T.2.2.2.2.2.2.2.2.2.2.1 T.2.2.2.2.2.2.2.2.2.2.2.1 := hw
  subst hw
  refine lv_i2l (v := (kHr T.2.2.2.2.2.2.2.2.2.1 T.2.2.2.2.2.2.2.2.2.2.1 T.2.2.2.2.2.2.2.2.2.2.2.1).toInt64) hx hb dX5_readsTokens_11 rfl ?_
  refine lv_ldc2 hx hb hown (hts (.constantLong RX5 180 (48)) (by decide +kernel)) dX5_readsTokens_12 ?_
  refine lv_ldc2 hx hb hown (hts (.constantLong RX5 182 (57)) (by decide +kernel)) dX5_readsTokens_15 ?_
  refine kc_i (Cs := []) (Rs := [mW cy ra (al, T)]) (Bs := [mW cy ra (al, T)]) (Cs' := fun u_ : Unit => []) (Fs := fun u_ : Unit => [mW cy ra (al, T)]) hP hD hS hA [] [0] [0] rfl rfl (by decide) (by decide) (fun _ => rfl) (va_runS (As := [.long ((kHr T.2.2.2.2.2.2.2.2.2.1 T.2.2.2.2.2.2.2.2.2.2.1 T.2.2.2.2.2.2.2.2.2.2.2.1).toInt64), .long (48), .long (57)]) (rest := []) ⟨hx, hb, hml, hown, hts⟩ (c_X5_in l D cy ((kHr T.2.2.2.2.2.2.2.2.2.1 T.2.2.2.2.2.2.2.2.2.2.1 T.2.2.2.2.2.2.2.2.2.2.2.1).toInt64) (48) (57) H.size) (va_cwS 3 hts gX5_readsTokens_X5_in rfl rfl rfl (by decide +kernel) ⟨Nat.le_of_ble_eq_true rfl, Nat.le_of_ble_eq_true rfl⟩) (kPre_S hK hN hP hD [] (by decide) rfl) rfl rfl hl.1 rfl (lv_room (Nat.le_of_ble_eq_true rfl)) dX5_readsTokens_18 ⟨Nat.le_of_ble_eq_true rfl, Nat.le_of_ble_eq_true rfl⟩) (fun r_ u_ H locs hw hP hD hS => ?_)
  have hw : r_ = if kIn ((kHr T.2.2.2.2.2.2.2.2.2.1 T.2.2.2.2.2.2.2.2.2.2.1 T.2.2.2.2.2.2.2.2.2.2.2.1).toInt64) (48) (57) then nI 1 else nI 0 := hw
  subst hw
  refine kv_i (y := nI 0) (if_neg (fun h => hk ((kHr_dig (l9 := 0) (by decide) hby htl).mp ((kIn32 (y := nI 48) (z := nI 57) (by decide) (by decide)).mp h)))) ?_
  refine lv_if_eq (tgt := 60) hx hb dX5_readsTokens_21 (by decide) (fun _ => ?_) (fun h => absurd h (by decide))
  refine lv_aload_n hx hb dX5_readsTokens_60 rfl (lv_at hl 2 rfl) ?_
  refine va_get (D := D) (ci := 5) (v := .ref (ra 10)) (C := RX5) (T := TX5) (N := 16) hx hb hts (by decide +kernel) hown hK hP 0 rfl rfl 13 (by decide) (hts (.fieldLink RX5 38 "DanceHallModel" "read" "[I") (by decide +kernel)) (fun _ h9 => h9) rfl dX5_readsTokens_61 ?_
  refine lv_iconst (v := nI 4) hx hb dX5_readsTokens_64 (by decide) ?_
  refine lv_aload_n hx hb dX5_readsTokens_65 rfl (lv_at hl 2 rfl) ?_
  refine va_get (D := D) (ci := 5) (v := .int (nI T.2.2.2.2.2.2.2.2.2.2.2.2.2.1)) (C := RX5) (T := TX5) (N := 16) hx hb hts (by decide +kernel) hown hK hP 0 rfl rfl 14 (by decide) (hts (.fieldLink RX5 184 "DanceHallModel" "guests" "I") (by decide +kernel)) (fun _ h9 => h9) rfl dX5_readsTokens_66 ?_
  refine lv_imul hx hb dX5_readsTokens_69 ?_
  refine kv_i (y := nI (4 * T.2.2.2.2.2.2.2.2.2.2.2.2.2.1)) (pk_mul 4 T.2.2.2.2.2.2.2.2.2.2.2.2.2.1) ?_
  refine lv_iconst (v := nI 1) hx hb dX5_readsTokens_70 (by decide) ?_
  refine lv_iadd hx hb dX5_readsTokens_71 ?_
  refine kv_i (y := nI ((4 * T.2.2.2.2.2.2.2.2.2.2.2.2.2.1) + 1)) (nI_add (4 * T.2.2.2.2.2.2.2.2.2.2.2.2.2.1) 1) ?_
  refine lv_iload_n hx hb dX5_readsTokens_72 rfl (lv_at hl 0 rfl) ?_
  refine va_iast hx hb hK hP hD hS 10 0 rfl rfl (vp_in_nI (n := (4 * T.2.2.2.2.2.2.2.2.2.2.2.2.2.1) + 1) (N := 64) (by omega) (by omega)) dX5_readsTokens_73 (fun H locs hP hD hS => ?_)
  rw [nI_clamp (n := (4 * T.2.2.2.2.2.2.2.2.2.2.2.2.2.1) + 1) (by omega)] at hP hD
  have hP : va_P D vwCl (bkF [mW cy ra (al, (T.1, T.2.1, T.2.2.1, T.2.2.2.1, T.2.2.2.2.1, T.2.2.2.2.2.1, T.2.2.2.2.2.2.1, T.2.2.2.2.2.2.2.1, T.2.2.2.2.2.2.2.2.1, T.2.2.2.2.2.2.2.2.2.1, T.2.2.2.2.2.2.2.2.2.2.1, T.2.2.2.2.2.2.2.2.2.2.2.1, upd T.2.2.2.2.2.2.2.2.2.2.2.2.1 ((4 * T.2.2.2.2.2.2.2.2.2.2.2.2.2.1) + 1) (nI 0), T.2.2.2.2.2.2.2.2.2.2.2.2.2))]) H := hP
  have hD : va_D A (bkF [mW cy ra (al, (T.1, T.2.1, T.2.2.1, T.2.2.2.1, T.2.2.2.2.1, T.2.2.2.2.2.1, T.2.2.2.2.2.2.1, T.2.2.2.2.2.2.2.1, T.2.2.2.2.2.2.2.2.1, T.2.2.2.2.2.2.2.2.2.1, T.2.2.2.2.2.2.2.2.2.2.1, T.2.2.2.2.2.2.2.2.2.2.2.1, upd T.2.2.2.2.2.2.2.2.2.2.2.2.1 ((4 * T.2.2.2.2.2.2.2.2.2.2.2.2.2.1) + 1) (nI 0), T.2.2.2.2.2.2.2.2.2.2.2.2.2))]) := hD
  refine lv_aload_n hx hb dX5_readsTokens_74 rfl (lv_at hl 2 rfl) ?_
  refine va_get (D := D) (ci := 5) (v := .int (nI T.2.2.2.2.2.2.2.2.2.2.2.1)) (C := RX5) (T := TX5) (N := 16) hx hb hts (by decide +kernel) hown hK hP 0 rfl rfl 12 (by decide) (hts (.fieldLink RX5 174 "DanceHallModel" "place" "I") (by decide +kernel)) (fun _ h9 => h9) rfl dX5_readsTokens_75 ?_
  refine lv_iload_n hx hb dX5_readsTokens_78 rfl (lv_at hl 1 rfl) ?_
  refine lv_icmp_le (tgt := 95) hx hb dX5_readsTokens_79 (by decide) (fun c_79 => ?_) (fun c_79 => False.elim ?_)
  · skip
    have c_79 : T.2.2.2.2.2.2.2.2.2.2.2.1 ≤ T.2.2.2.2.2.2.2.2.2.2.2.1 := (nI_leI (a := T.2.2.2.2.2.2.2.2.2.2.2.1) (b := T.2.2.2.2.2.2.2.2.2.2.2.1) (by omega) (by omega)).mp c_79
    refine lv_iconst (v := nI 0) hx hb dX5_readsTokens_95 (by decide) ?_
    exact kr_i (post := fun r_ (u_ : Unit) => r_ = nI 0) (Bs := fun u_ : Unit => [mW cy ra (al, (T.1, T.2.1, T.2.2.1, T.2.2.2.1, T.2.2.2.2.1, T.2.2.2.2.2.1, T.2.2.2.2.2.2.1, T.2.2.2.2.2.2.2.1, T.2.2.2.2.2.2.2.2.1, T.2.2.2.2.2.2.2.2.2.1, T.2.2.2.2.2.2.2.2.2.2.1, T.2.2.2.2.2.2.2.2.2.2.2.1, upd T.2.2.2.2.2.2.2.2.2.2.2.2.1 (4 * T.2.2.2.2.2.2.2.2.2.2.2.2.2.1 + 1) (nI 0), T.2.2.2.2.2.2.2.2.2.2.2.2.2))]) hx hb hr hlocks rfl () hP hK hD hS rfl dX5_readsTokens_96 hQ
  · skip
    have c_79 : ¬ (T.2.2.2.2.2.2.2.2.2.2.2.1 ≤ T.2.2.2.2.2.2.2.2.2.2.2.1) := fun h => c_79 ((nI_leI (a := T.2.2.2.2.2.2.2.2.2.2.2.1) (b := T.2.2.2.2.2.2.2.2.2.2.2.1) (by omega) (by omega)).mpr h)
    omega
abbrev rm_X5_readsTokens_1y : Room := { frames := 2, cells := 0, slots := 0, locals := 42 }
set_option maxHeartbeats 1000000 in
set_option maxRecDepth 100000 in
/-- readsTokens -/
theorem c_X5_readsTokens_1y (l : Launch) (D : va_G) (cy : Nat → ClassId) (ra : Nat → Nat) (al : Nat → Int32) (T : rV) (hby : kBy T.2.2.2.2.2.2.2.2.2.1) (htl : T.2.2.2.2.2.2.2.2.2.2.1 ≤ 100) (hpl : T.2.2.2.2.2.2.2.2.2.2.2.1 ≤ 140) (hgs : T.2.2.2.2.2.2.2.2.2.2.2.2.2.1 < 16) (hk : kDig T.2.2.2.2.2.2.2.2.2.1 T.2.2.2.2.2.2.2.2.2.2.1 T.2.2.2.2.2.2.2.2.2.2.2.1 0) (hk2 : ¬ kDig T.2.2.2.2.2.2.2.2.2.1 T.2.2.2.2.2.2.2.2.2.2.1 (T.2.2.2.2.2.2.2.2.2.2.2.1 + 1) 0) (hk3 : kIs T.2.2.2.2.2.2.2.2.2.1 T.2.2.2.2.2.2.2.2.2.2.1 (T.2.2.2.2.2.2.2.2.2.2.2.1 + 1) 44) (sz : Nat) : Met l yX5_readsTokens wsX5_readsTokens rm_X5_readsTokens_1y (va_Pc [.ref (ra 0)] (kPre D (kT cy) [mW cy ra (al, T)] sz)) (va_Qi (fun r_ (u_ : Unit) => r_ = nI 1) (kFr D (kT cy) [mW cy ra (al, T)] sz (fun u_ : Unit => [mW cy ra (al, (T.1, T.2.1, T.2.2.1, T.2.2.2.1, T.2.2.2.2.1, T.2.2.2.2.2.1, T.2.2.2.2.2.2.1, T.2.2.2.2.2.2.2.1, T.2.2.2.2.2.2.2.2.1, T.2.2.2.2.2.2.2.2.2.1, T.2.2.2.2.2.2.2.2.2.2.1, T.2.2.2.2.2.2.2.2.2.2.2.1 + 1 + 1, upd T.2.2.2.2.2.2.2.2.2.2.2.2.1 (4 * T.2.2.2.2.2.2.2.2.2.2.2.2.2.1 + 1) (nI (kb9 T.2.2.2.2.2.2.2.2.2.1 T.2.2.2.2.2.2.2.2.2.2.2.1 - 48)), T.2.2.2.2.2.2.2.2.2.2.2.2.2))])) (va_A (bkF [mW cy ra (al, T)]) sz)) 0 0 (va_A (bkF [mW cy ra (al, T)]) sz) := by
  refine kOpen (y := yX5_readsTokens) (ws := wsX5_readsTokens) (cc := cX5_readsTokens) (maxL := 3) (ret := (some .boolean)) (av := [.ref (ra 0)]) (Bs := [mW cy ra (al, T)]) (Qc := fun A => (va_Qi (fun r_ (u_ : Unit) => r_ = nI 1) (fun (u_ : Unit) t9 => kEnd D (kT cy) A [mW cy ra (al, (T.1, T.2.1, T.2.2.1, T.2.2.2.1, T.2.2.2.2.1, T.2.2.2.2.2.1, T.2.2.2.2.2.2.1, T.2.2.2.2.2.2.2.1, T.2.2.2.2.2.2.2.2.1, T.2.2.2.2.2.2.2.2.2.1, T.2.2.2.2.2.2.2.2.2.2.1, T.2.2.2.2.2.2.2.2.2.2.2.1 + 1 + 1, upd T.2.2.2.2.2.2.2.2.2.2.2.2.1 (4 * T.2.2.2.2.2.2.2.2.2.2.2.2.2.1 + 1) (nI (kb9 T.2.2.2.2.2.2.2.2.2.1 T.2.2.2.2.2.2.2.2.2.2.2.1 - 48)), T.2.2.2.2.2.2.2.2.2.2.2.2.2))] t9) A)) (by decide) rfl (Nat.le_of_ble_eq_true rfl) ?_
  intro p e s m args below meth c A Q ls hQ hx hb hml hr hlocks hin hts hown hN hK hP hD hS hA hsz hAe hl
  clear hAe
  have hl : lv_has ls 3 [(0, .ref (ra 0))] := hl
  suffices K9 : ∀ (H : Heap) (locs : List Loc), va_P D vwCl (bkF [mW cy ra (al, T)]) H → va_S A s.heap H locs → W p l e (headSpec wsX5_readsTokens rm_X5_readsTokens_1y).room s m args below meth c H locs 0 0 Q (F0 m 0 ls []) from K9 _ _ hP hS
  clear hP hS
  intro H locs hP hS
  refine lv_aload_n hx hb dX5_readsTokens_0 rfl (lv_at hl 0 rfl) ?_
  refine va_get (D := D) (ci := 5) (v := .int (nI T.2.2.2.2.2.2.2.2.2.2.2.1)) (C := RX5) (T := TX5) (N := 16) hx hb hts (by decide +kernel) hown hK hP 0 rfl rfl 12 (by decide) (hts (.fieldLink RX5 174 "DanceHallModel" "place" "I") (by decide +kernel)) (fun _ h9 => h9) rfl dX5_readsTokens_1 ?_
  refine lv_istore_n (lv' := [(1, .int (nI T.2.2.2.2.2.2.2.2.2.2.2.1)), (0, .ref (ra 0))]) hx hb dX5_readsTokens_4 rfl hl (by decide) rfl (fun ls hl => ?_)
  refine lv_iconst (v := nI 0) hx hb dX5_readsTokens_5 (by decide) ?_
  refine lv_istore_n (lv' := [(2, .int (nI 0)), (1, .int (nI T.2.2.2.2.2.2.2.2.2.2.2.1)), (0, .ref (ra 0))]) hx hb dX5_readsTokens_6 rfl hl (by decide) rfl (fun ls hl => ?_)
  refine lv_aload_n hx hb dX5_readsTokens_7 rfl (lv_at hl 2 rfl) ?_
  refine kc_i (Cs := [mW cy ra (al, T)]) (Rs := []) (Bs := [mW cy ra (al, T)]) (Cs' := fun u_ : Unit => [mW cy ra (al, T)]) (Fs := fun u_ : Unit => [mW cy ra (al, T)]) hP hD hS hA [0] [] [0] rfl rfl (by decide) (by decide) (fun _ => rfl) (va_runV (As := []) (rest := []) ⟨hx, hb, hml, hown, hts⟩ (c_X5_here l D cy ra al T htl (by (try dsimp only); first | assumption | omega | decide) H.size) (cwV 0 hts gX5_readsTokens_X5_here rfl rfl rfl (by decide +kernel) ⟨Nat.le_of_ble_eq_true rfl, Nat.le_of_ble_eq_true rfl⟩) (kPre_V (ci := 5) hK hN hP hD [0] (by decide) rfl 0 rfl rfl) rfl rfl hl.1 rfl (lv_room (Nat.le_of_ble_eq_true rfl)) dX5_readsTokens_8 ⟨Nat.le_of_ble_eq_true rfl, Nat.le_of_ble_eq_true rfl⟩) (fun r_ u_ H locs hw hP hD hS => ?_)
  have hw : r_ = kHr T.2.2.2.2.2.2.2.2.2.1 T.2.2.2.2.2.2.2.2.2.2.1 T.2.2.2.2.2.2.2.2.2.2.2.1 := hw
  subst hw
  refine lv_i2l (v := (kHr T.2.2.2.2.2.2.2.2.2.1 T.2.2.2.2.2.2.2.2.2.2.1 T.2.2.2.2.2.2.2.2.2.2.2.1).toInt64) hx hb dX5_readsTokens_11 rfl ?_
  refine lv_ldc2 hx hb hown (hts (.constantLong RX5 180 (48)) (by decide +kernel)) dX5_readsTokens_12 ?_
  refine lv_ldc2 hx hb hown (hts (.constantLong RX5 182 (57)) (by decide +kernel)) dX5_readsTokens_15 ?_
  refine kc_i (Cs := []) (Rs := [mW cy ra (al, T)]) (Bs := [mW cy ra (al, T)]) (Cs' := fun u_ : Unit => []) (Fs := fun u_ : Unit => [mW cy ra (al, T)]) hP hD hS hA [] [0] [0] rfl rfl (by decide) (by decide) (fun _ => rfl) (va_runS (As := [.long ((kHr T.2.2.2.2.2.2.2.2.2.1 T.2.2.2.2.2.2.2.2.2.2.1 T.2.2.2.2.2.2.2.2.2.2.2.1).toInt64), .long (48), .long (57)]) (rest := []) ⟨hx, hb, hml, hown, hts⟩ (c_X5_in l D cy ((kHr T.2.2.2.2.2.2.2.2.2.1 T.2.2.2.2.2.2.2.2.2.2.1 T.2.2.2.2.2.2.2.2.2.2.2.1).toInt64) (48) (57) H.size) (va_cwS 3 hts gX5_readsTokens_X5_in rfl rfl rfl (by decide +kernel) ⟨Nat.le_of_ble_eq_true rfl, Nat.le_of_ble_eq_true rfl⟩) (kPre_S hK hN hP hD [] (by decide) rfl) rfl rfl hl.1 rfl (lv_room (Nat.le_of_ble_eq_true rfl)) dX5_readsTokens_18 ⟨Nat.le_of_ble_eq_true rfl, Nat.le_of_ble_eq_true rfl⟩) (fun r_ u_ H locs hw hP hD hS => ?_)
  have hw : r_ = if kIn ((kHr T.2.2.2.2.2.2.2.2.2.1 T.2.2.2.2.2.2.2.2.2.2.1 T.2.2.2.2.2.2.2.2.2.2.2.1).toInt64) (48) (57) then nI 1 else nI 0 := hw
  subst hw
  refine kv_i (y := nI 1) (if_pos ((kIn32 (y := nI 48) (z := nI 57) (by decide) (by decide)).mpr ((kHr_dig (l9 := 0) (by decide) hby htl).mpr hk))) ?_
  refine lv_if_eq (tgt := 60) hx hb dX5_readsTokens_21 (by decide) (fun h => absurd h (by decide)) (fun _ => ?_)
  refine lv_aload_n hx hb dX5_readsTokens_24 rfl (lv_at hl 2 rfl) ?_
  refine va_get (D := D) (ci := 5) (v := .int (nI T.2.2.2.2.2.2.2.2.2.2.2.1)) (C := RX5) (T := TX5) (N := 16) hx hb hts (by decide +kernel) hown hK hP 0 rfl rfl 12 (by decide) (hts (.fieldLink RX5 174 "DanceHallModel" "place" "I") (by decide +kernel)) (fun _ h9 => h9) rfl dX5_readsTokens_25 ?_
  refine lv_iload_n hx hb dX5_readsTokens_28 rfl (lv_at hl 1 rfl) ?_
  refine lv_iconst (v := nI 2) hx hb dX5_readsTokens_29 (by decide) ?_
  refine lv_iadd hx hb dX5_readsTokens_30 ?_
  refine kv_i (y := nI (T.2.2.2.2.2.2.2.2.2.2.2.1 + 2)) (nI_add T.2.2.2.2.2.2.2.2.2.2.2.1 2) ?_
  refine lv_icmp_ge (tgt := 60) hx hb dX5_readsTokens_31 (by decide) (fun c_31 => False.elim ?_) (fun c_31 => ?_)
  · skip
    have c_31 : (T.2.2.2.2.2.2.2.2.2.2.2.1 + 2) ≤ T.2.2.2.2.2.2.2.2.2.2.2.1 := (nI_leI (a := T.2.2.2.2.2.2.2.2.2.2.2.1 + 2) (b := T.2.2.2.2.2.2.2.2.2.2.2.1) (by omega) (by omega)).mp c_31
    omega
  · skip
    have c_31 : ¬ ((T.2.2.2.2.2.2.2.2.2.2.2.1 + 2) ≤ T.2.2.2.2.2.2.2.2.2.2.2.1) := fun h => c_31 ((nI_leI (a := T.2.2.2.2.2.2.2.2.2.2.2.1 + 2) (b := T.2.2.2.2.2.2.2.2.2.2.2.1) (by omega) (by omega)).mpr h)
    refine lv_bipush (v := nI 10) hx hb dX5_readsTokens_34 (by decide) ?_
    refine lv_iload_n hx hb dX5_readsTokens_36 rfl (lv_at hl 0 rfl) ?_
    refine lv_imul hx hb dX5_readsTokens_37 ?_
    refine kv_i (y := nI 0) (by decide) ?_
    refine lv_aload_n hx hb dX5_readsTokens_38 rfl (lv_at hl 2 rfl) ?_
    refine kc_i (Cs := [mW cy ra (al, T)]) (Rs := []) (Bs := [mW cy ra (al, T)]) (Cs' := fun u_ : Unit => [mW cy ra (al, T)]) (Fs := fun u_ : Unit => [mW cy ra (al, T)]) hP hD hS hA [0] [] [0] rfl rfl (by decide) (by decide) (fun _ => rfl) (va_runV (As := []) (rest := [.int (nI 0)]) ⟨hx, hb, hml, hown, hts⟩ (c_X5_here l D cy ra al T (by (try dsimp only); first | assumption | omega | decide) (by (try dsimp only); first | assumption | omega | decide) H.size) (cwV 0 hts gX5_readsTokens_X5_here rfl rfl rfl (by decide +kernel) ⟨Nat.le_of_ble_eq_true rfl, Nat.le_of_ble_eq_true rfl⟩) (kPre_V (ci := 5) hK hN hP hD [0] (by decide) rfl 0 rfl rfl) rfl rfl hl.1 rfl (lv_room (Nat.le_of_ble_eq_true rfl)) dX5_readsTokens_39 ⟨Nat.le_of_ble_eq_true rfl, Nat.le_of_ble_eq_true rfl⟩) (fun r_ u_ H locs hw hP hD hS => ?_)
    have hw : r_ = kHr T.2.2.2.2.2.2.2.2.2.1 T.2.2.2.2.2.2.2.2.2.2.1 T.2.2.2.2.2.2.2.2.2.2.2.1 := hw
    subst hw
    refine kv_i (y := nI (kb9 T.2.2.2.2.2.2.2.2.2.1 T.2.2.2.2.2.2.2.2.2.2.2.1)) (kHr_b hby htl hk.1) ?_
    refine lv_iadd hx hb dX5_readsTokens_42 ?_
    refine kv_i (y := nI (0 + (kb9 T.2.2.2.2.2.2.2.2.2.1 T.2.2.2.2.2.2.2.2.2.2.2.1))) (nI_add 0 (kb9 T.2.2.2.2.2.2.2.2.2.1 T.2.2.2.2.2.2.2.2.2.2.2.1)) ?_
    refine lv_bipush (v := nI 48) hx hb dX5_readsTokens_43 (by decide) ?_
    refine lv_isub hx hb dX5_readsTokens_45 ?_
    refine kv_i (y := nI (kb9 T.2.2.2.2.2.2.2.2.2.1 T.2.2.2.2.2.2.2.2.2.2.2.1 - 48)) (by have h8 := hk.2.1; rw [pk_sub (by omega)]; exact congrArg nI (by omega)) ?_
    refine lv_istore_n (lv' := [(2, .int (nI (kb9 T.2.2.2.2.2.2.2.2.2.1 T.2.2.2.2.2.2.2.2.2.2.2.1 - 48))), (1, .int (nI T.2.2.2.2.2.2.2.2.2.2.2.1)), (0, .ref (ra 0))]) hx hb dX5_readsTokens_46 rfl hl (by decide) rfl (fun ls hl => ?_)
    refine lv_aload_n hx hb dX5_readsTokens_47 rfl (lv_at hl 2 rfl) ?_
    refine lv_dup hx hb dX5_readsTokens_48 rfl ?_
    refine va_get (D := D) (ci := 5) (v := .int (nI T.2.2.2.2.2.2.2.2.2.2.2.1)) (C := RX5) (T := TX5) (N := 16) hx hb hts (by decide +kernel) hown hK hP 0 rfl rfl 12 (by decide) (hts (.fieldLink RX5 174 "DanceHallModel" "place" "I") (by decide +kernel)) (fun _ h9 => h9) rfl dX5_readsTokens_49 ?_
    refine lv_iconst (v := nI 1) hx hb dX5_readsTokens_52 (by decide) ?_
    refine lv_iadd hx hb dX5_readsTokens_53 ?_
    refine kv_i (y := nI (T.2.2.2.2.2.2.2.2.2.2.2.1 + 1)) (nI_add T.2.2.2.2.2.2.2.2.2.2.2.1 1) ?_
    refine va_put (D := D) (ci := 5) (v := .int (nI (T.2.2.2.2.2.2.2.2.2.2.2.1 + 1))) (ty := .int) (C := RX5) (T := TX5) (N := 16) hx hb hts (by decide +kernel) tyX5 tyX5_ok nmX5 hown hK hP hD hS 0 rfl rfl 12 (by decide) (hts (.fieldLink RX5 174 "DanceHallModel" "place" "I") (by decide +kernel)) (fun _ h9 => h9) rfl (by decide +kernel) rfl rfl (Nat.le_of_ble_eq_true rfl) dX5_readsTokens_54 (fun H locs hP hD hS => ?_)
    have hP : va_P D vwCl (bkF [mW cy ra (al, (T.1, T.2.1, T.2.2.1, T.2.2.2.1, T.2.2.2.2.1, T.2.2.2.2.2.1, T.2.2.2.2.2.2.1, T.2.2.2.2.2.2.2.1, T.2.2.2.2.2.2.2.2.1, T.2.2.2.2.2.2.2.2.2.1, T.2.2.2.2.2.2.2.2.2.2.1, T.2.2.2.2.2.2.2.2.2.2.2.1 + 1, T.2.2.2.2.2.2.2.2.2.2.2.2))]) H := hP
    have hD : va_D A (bkF [mW cy ra (al, (T.1, T.2.1, T.2.2.1, T.2.2.2.1, T.2.2.2.2.1, T.2.2.2.2.2.1, T.2.2.2.2.2.2.1, T.2.2.2.2.2.2.2.1, T.2.2.2.2.2.2.2.2.1, T.2.2.2.2.2.2.2.2.2.1, T.2.2.2.2.2.2.2.2.2.2.1, T.2.2.2.2.2.2.2.2.2.2.2.1 + 1, T.2.2.2.2.2.2.2.2.2.2.2.2))]) := hD
    refine lv_goto (tgt := 7) hx hb dX5_readsTokens_57 (by decide) ?_
    refine lv_aload_n hx hb dX5_readsTokens_7 rfl (lv_at hl 2 rfl) ?_
    refine kc_i (Cs := [mW cy ra (al, (T.1, T.2.1, T.2.2.1, T.2.2.2.1, T.2.2.2.2.1, T.2.2.2.2.2.1, T.2.2.2.2.2.2.1, T.2.2.2.2.2.2.2.1, T.2.2.2.2.2.2.2.2.1, T.2.2.2.2.2.2.2.2.2.1, T.2.2.2.2.2.2.2.2.2.2.1, T.2.2.2.2.2.2.2.2.2.2.2.1 + 1, T.2.2.2.2.2.2.2.2.2.2.2.2))]) (Rs := []) (Bs := [mW cy ra (al, (T.1, T.2.1, T.2.2.1, T.2.2.2.1, T.2.2.2.2.1, T.2.2.2.2.2.1, T.2.2.2.2.2.2.1, T.2.2.2.2.2.2.2.1, T.2.2.2.2.2.2.2.2.1, T.2.2.2.2.2.2.2.2.2.1, T.2.2.2.2.2.2.2.2.2.2.1, T.2.2.2.2.2.2.2.2.2.2.2.1 + 1, T.2.2.2.2.2.2.2.2.2.2.2.2))]) (Cs' := fun u_ : Unit => [mW cy ra (al, (T.1, T.2.1, T.2.2.1, T.2.2.2.1, T.2.2.2.2.1, T.2.2.2.2.2.1, T.2.2.2.2.2.2.1, T.2.2.2.2.2.2.2.1, T.2.2.2.2.2.2.2.2.1, T.2.2.2.2.2.2.2.2.2.1, T.2.2.2.2.2.2.2.2.2.2.1, T.2.2.2.2.2.2.2.2.2.2.2.1 + 1, T.2.2.2.2.2.2.2.2.2.2.2.2))]) (Fs := fun u_ : Unit => [mW cy ra (al, (T.1, T.2.1, T.2.2.1, T.2.2.2.1, T.2.2.2.2.1, T.2.2.2.2.2.1, T.2.2.2.2.2.2.1, T.2.2.2.2.2.2.2.1, T.2.2.2.2.2.2.2.2.1, T.2.2.2.2.2.2.2.2.2.1, T.2.2.2.2.2.2.2.2.2.2.1, T.2.2.2.2.2.2.2.2.2.2.2.1 + 1, T.2.2.2.2.2.2.2.2.2.2.2.2))]) hP hD hS hA [0] [] [0] rfl rfl (by decide) (by decide) (fun _ => rfl) (va_runV (As := []) (rest := []) ⟨hx, hb, hml, hown, hts⟩ (c_X5_here l D cy ra al (T.1, T.2.1, T.2.2.1, T.2.2.2.1, T.2.2.2.2.1, T.2.2.2.2.2.1, T.2.2.2.2.2.2.1, T.2.2.2.2.2.2.2.1, T.2.2.2.2.2.2.2.2.1, T.2.2.2.2.2.2.2.2.2.1, T.2.2.2.2.2.2.2.2.2.2.1, T.2.2.2.2.2.2.2.2.2.2.2.1 + 1, T.2.2.2.2.2.2.2.2.2.2.2.2) htl (by (try dsimp only); first | assumption | omega | decide) H.size) (cwV 0 hts gX5_readsTokens_X5_here rfl rfl rfl (by decide +kernel) ⟨Nat.le_of_ble_eq_true rfl, Nat.le_of_ble_eq_true rfl⟩) (kPre_V (ci := 5) hK hN hP hD [0] (by decide) rfl 0 rfl rfl) rfl rfl hl.1 rfl (lv_room (Nat.le_of_ble_eq_true rfl)) dX5_readsTokens_8 ⟨Nat.le_of_ble_eq_true rfl, Nat.le_of_ble_eq_true rfl⟩) (fun r_ u_ H locs hw hP hD hS => ?_)
    have hw : r_ = kHr T.2.2.2.2.2.2.2.2.2.1 T.2.2.2.2.2.2.2.2.2.2.1 (T.2.2.2.2.2.2.2.2.2.2.2.1 + 1) := hw
    subst hw
    refine lv_i2l (v := (kHr T.2.2.2.2.2.2.2.2.2.1 T.2.2.2.2.2.2.2.2.2.2.1 (T.2.2.2.2.2.2.2.2.2.2.2.1 + 1)).toInt64) hx hb dX5_readsTokens_11 rfl ?_
    refine lv_ldc2 hx hb hown (hts (.constantLong RX5 180 (48)) (by decide +kernel)) dX5_readsTokens_12 ?_
    refine lv_ldc2 hx hb hown (hts (.constantLong RX5 182 (57)) (by decide +kernel)) dX5_readsTokens_15 ?_
    refine kc_i (Cs := []) (Rs := [mW cy ra (al, (T.1, T.2.1, T.2.2.1, T.2.2.2.1, T.2.2.2.2.1, T.2.2.2.2.2.1, T.2.2.2.2.2.2.1, T.2.2.2.2.2.2.2.1, T.2.2.2.2.2.2.2.2.1, T.2.2.2.2.2.2.2.2.2.1, T.2.2.2.2.2.2.2.2.2.2.1, T.2.2.2.2.2.2.2.2.2.2.2.1 + 1, T.2.2.2.2.2.2.2.2.2.2.2.2))]) (Bs := [mW cy ra (al, (T.1, T.2.1, T.2.2.1, T.2.2.2.1, T.2.2.2.2.1, T.2.2.2.2.2.1, T.2.2.2.2.2.2.1, T.2.2.2.2.2.2.2.1, T.2.2.2.2.2.2.2.2.1, T.2.2.2.2.2.2.2.2.2.1, T.2.2.2.2.2.2.2.2.2.2.1, T.2.2.2.2.2.2.2.2.2.2.2.1 + 1, T.2.2.2.2.2.2.2.2.2.2.2.2))]) (Cs' := fun u_ : Unit => []) (Fs := fun u_ : Unit => [mW cy ra (al, (T.1, T.2.1, T.2.2.1, T.2.2.2.1, T.2.2.2.2.1, T.2.2.2.2.2.1, T.2.2.2.2.2.2.1, T.2.2.2.2.2.2.2.1, T.2.2.2.2.2.2.2.2.1, T.2.2.2.2.2.2.2.2.2.1, T.2.2.2.2.2.2.2.2.2.2.1, T.2.2.2.2.2.2.2.2.2.2.2.1 + 1, T.2.2.2.2.2.2.2.2.2.2.2.2))]) hP hD hS hA [] [0] [0] rfl rfl (by decide) (by decide) (fun _ => rfl) (va_runS (As := [.long ((kHr T.2.2.2.2.2.2.2.2.2.1 T.2.2.2.2.2.2.2.2.2.2.1 (T.2.2.2.2.2.2.2.2.2.2.2.1 + 1)).toInt64), .long (48), .long (57)]) (rest := []) ⟨hx, hb, hml, hown, hts⟩ (c_X5_in l D cy ((kHr T.2.2.2.2.2.2.2.2.2.1 T.2.2.2.2.2.2.2.2.2.2.1 (T.2.2.2.2.2.2.2.2.2.2.2.1 + 1)).toInt64) (48) (57) H.size) (va_cwS 3 hts gX5_readsTokens_X5_in rfl rfl rfl (by decide +kernel) ⟨Nat.le_of_ble_eq_true rfl, Nat.le_of_ble_eq_true rfl⟩) (kPre_S hK hN hP hD [] (by decide) rfl) rfl rfl hl.1 rfl (lv_room (Nat.le_of_ble_eq_true rfl)) dX5_readsTokens_18 ⟨Nat.le_of_ble_eq_true rfl, Nat.le_of_ble_eq_true rfl⟩) (fun r_ u_ H locs hw hP hD hS => ?_)
    have hw : r_ = if kIn ((kHr T.2.2.2.2.2.2.2.2.2.1 T.2.2.2.2.2.2.2.2.2.2.1 (T.2.2.2.2.2.2.2.2.2.2.2.1 + 1)).toInt64) (48) (57) then nI 1 else nI 0 := hw
    subst hw
    refine kv_i (y := nI 0) (if_neg (fun h => hk2 ((kHr_dig (l9 := 0) (by decide) hby htl).mp ((kIn32 (y := nI 48) (z := nI 57) (by decide) (by decide)).mp h)))) ?_
    refine lv_if_eq (tgt := 60) hx hb dX5_readsTokens_21 (by decide) (fun _ => ?_) (fun h => absurd h (by decide))
    refine lv_aload_n hx hb dX5_readsTokens_60 rfl (lv_at hl 2 rfl) ?_
    refine va_get (D := D) (ci := 5) (v := .ref (ra 10)) (C := RX5) (T := TX5) (N := 16) hx hb hts (by decide +kernel) hown hK hP 0 rfl rfl 13 (by decide) (hts (.fieldLink RX5 38 "DanceHallModel" "read" "[I") (by decide +kernel)) (fun _ h9 => h9) rfl dX5_readsTokens_61 ?_
    refine lv_iconst (v := nI 4) hx hb dX5_readsTokens_64 (by decide) ?_
    refine lv_aload_n hx hb dX5_readsTokens_65 rfl (lv_at hl 2 rfl) ?_
    refine va_get (D := D) (ci := 5) (v := .int (nI T.2.2.2.2.2.2.2.2.2.2.2.2.2.1)) (C := RX5) (T := TX5) (N := 16) hx hb hts (by decide +kernel) hown hK hP 0 rfl rfl 14 (by decide) (hts (.fieldLink RX5 184 "DanceHallModel" "guests" "I") (by decide +kernel)) (fun _ h9 => h9) rfl dX5_readsTokens_66 ?_
    refine lv_imul hx hb dX5_readsTokens_69 ?_
    refine kv_i (y := nI (4 * T.2.2.2.2.2.2.2.2.2.2.2.2.2.1)) (pk_mul 4 T.2.2.2.2.2.2.2.2.2.2.2.2.2.1) ?_
    refine lv_iconst (v := nI 1) hx hb dX5_readsTokens_70 (by decide) ?_
    refine lv_iadd hx hb dX5_readsTokens_71 ?_
    refine kv_i (y := nI ((4 * T.2.2.2.2.2.2.2.2.2.2.2.2.2.1) + 1)) (nI_add (4 * T.2.2.2.2.2.2.2.2.2.2.2.2.2.1) 1) ?_
    refine lv_iload_n hx hb dX5_readsTokens_72 rfl (lv_at hl 0 rfl) ?_
    refine va_iast hx hb hK hP hD hS 10 0 rfl rfl (vp_in_nI (n := (4 * T.2.2.2.2.2.2.2.2.2.2.2.2.2.1) + 1) (N := 64) (by omega) (by omega)) dX5_readsTokens_73 (fun H locs hP hD hS => ?_)
    rw [nI_clamp (n := (4 * T.2.2.2.2.2.2.2.2.2.2.2.2.2.1) + 1) (by omega)] at hP hD
    have hP : va_P D vwCl (bkF [mW cy ra (al, (T.1, T.2.1, T.2.2.1, T.2.2.2.1, T.2.2.2.2.1, T.2.2.2.2.2.1, T.2.2.2.2.2.2.1, T.2.2.2.2.2.2.2.1, T.2.2.2.2.2.2.2.2.1, T.2.2.2.2.2.2.2.2.2.1, T.2.2.2.2.2.2.2.2.2.2.1, T.2.2.2.2.2.2.2.2.2.2.2.1 + 1, upd T.2.2.2.2.2.2.2.2.2.2.2.2.1 ((4 * T.2.2.2.2.2.2.2.2.2.2.2.2.2.1) + 1) (nI (kb9 T.2.2.2.2.2.2.2.2.2.1 T.2.2.2.2.2.2.2.2.2.2.2.1 - 48)), T.2.2.2.2.2.2.2.2.2.2.2.2.2))]) H := hP
    have hD : va_D A (bkF [mW cy ra (al, (T.1, T.2.1, T.2.2.1, T.2.2.2.1, T.2.2.2.2.1, T.2.2.2.2.2.1, T.2.2.2.2.2.2.1, T.2.2.2.2.2.2.2.1, T.2.2.2.2.2.2.2.2.1, T.2.2.2.2.2.2.2.2.2.1, T.2.2.2.2.2.2.2.2.2.2.1, T.2.2.2.2.2.2.2.2.2.2.2.1 + 1, upd T.2.2.2.2.2.2.2.2.2.2.2.2.1 ((4 * T.2.2.2.2.2.2.2.2.2.2.2.2.2.1) + 1) (nI (kb9 T.2.2.2.2.2.2.2.2.2.1 T.2.2.2.2.2.2.2.2.2.2.2.1 - 48)), T.2.2.2.2.2.2.2.2.2.2.2.2.2))]) := hD
    refine lv_aload_n hx hb dX5_readsTokens_74 rfl (lv_at hl 2 rfl) ?_
    refine va_get (D := D) (ci := 5) (v := .int (nI (T.2.2.2.2.2.2.2.2.2.2.2.1 + 1))) (C := RX5) (T := TX5) (N := 16) hx hb hts (by decide +kernel) hown hK hP 0 rfl rfl 12 (by decide) (hts (.fieldLink RX5 174 "DanceHallModel" "place" "I") (by decide +kernel)) (fun _ h9 => h9) rfl dX5_readsTokens_75 ?_
    refine lv_iload_n hx hb dX5_readsTokens_78 rfl (lv_at hl 1 rfl) ?_
    refine lv_icmp_le (tgt := 95) hx hb dX5_readsTokens_79 (by decide) (fun c_79 => False.elim ?_) (fun c_79 => ?_)
    · skip
      have c_79 : (T.2.2.2.2.2.2.2.2.2.2.2.1 + 1) ≤ T.2.2.2.2.2.2.2.2.2.2.2.1 := (nI_leI (a := T.2.2.2.2.2.2.2.2.2.2.2.1 + 1) (b := T.2.2.2.2.2.2.2.2.2.2.2.1) (by omega) (by omega)).mp c_79
      omega
    · skip
      have c_79 : ¬ ((T.2.2.2.2.2.2.2.2.2.2.2.1 + 1) ≤ T.2.2.2.2.2.2.2.2.2.2.2.1) := fun h => c_79 ((nI_leI (a := T.2.2.2.2.2.2.2.2.2.2.2.1 + 1) (b := T.2.2.2.2.2.2.2.2.2.2.2.1) (by omega) (by omega)).mpr h)
      refine lv_aload_n hx hb dX5_readsTokens_82 rfl (lv_at hl 2 rfl) ?_
      refine lv_bipush (v := nI 44) hx hb dX5_readsTokens_83 (by decide) ?_
      refine kc_i (Cs := [mW cy ra (al, (T.1, T.2.1, T.2.2.1, T.2.2.2.1, T.2.2.2.2.1, T.2.2.2.2.2.1, T.2.2.2.2.2.2.1, T.2.2.2.2.2.2.2.1, T.2.2.2.2.2.2.2.2.1, T.2.2.2.2.2.2.2.2.2.1, T.2.2.2.2.2.2.2.2.2.2.1, T.2.2.2.2.2.2.2.2.2.2.2.1 + 1, upd T.2.2.2.2.2.2.2.2.2.2.2.2.1 ((4 * T.2.2.2.2.2.2.2.2.2.2.2.2.2.1) + 1) (nI (kb9 T.2.2.2.2.2.2.2.2.2.1 T.2.2.2.2.2.2.2.2.2.2.2.1 - 48)), T.2.2.2.2.2.2.2.2.2.2.2.2.2))]) (Rs := []) (Bs := [mW cy ra (al, (T.1, T.2.1, T.2.2.1, T.2.2.2.1, T.2.2.2.2.1, T.2.2.2.2.2.1, T.2.2.2.2.2.2.1, T.2.2.2.2.2.2.2.1, T.2.2.2.2.2.2.2.2.1, T.2.2.2.2.2.2.2.2.2.1, T.2.2.2.2.2.2.2.2.2.2.1, T.2.2.2.2.2.2.2.2.2.2.2.1 + 1, upd T.2.2.2.2.2.2.2.2.2.2.2.2.1 ((4 * T.2.2.2.2.2.2.2.2.2.2.2.2.2.1) + 1) (nI (kb9 T.2.2.2.2.2.2.2.2.2.1 T.2.2.2.2.2.2.2.2.2.2.2.1 - 48)), T.2.2.2.2.2.2.2.2.2.2.2.2.2))]) (Cs' := fun u_ : Unit => [mW cy ra (al, (T.1, T.2.1, T.2.2.1, T.2.2.2.1, T.2.2.2.2.1, T.2.2.2.2.2.1, T.2.2.2.2.2.2.1, T.2.2.2.2.2.2.2.1, T.2.2.2.2.2.2.2.2.1, T.2.2.2.2.2.2.2.2.2.1, T.2.2.2.2.2.2.2.2.2.2.1, (T.2.2.2.2.2.2.2.2.2.2.2.1 + 1) + 1, (upd T.2.2.2.2.2.2.2.2.2.2.2.2.1 ((4 * T.2.2.2.2.2.2.2.2.2.2.2.2.2.1) + 1) (nI (kb9 T.2.2.2.2.2.2.2.2.2.1 T.2.2.2.2.2.2.2.2.2.2.2.1 - 48))), T.2.2.2.2.2.2.2.2.2.2.2.2.2))]) (Fs := fun u_ : Unit => [mW cy ra (al, (T.1, T.2.1, T.2.2.1, T.2.2.2.1, T.2.2.2.2.1, T.2.2.2.2.2.1, T.2.2.2.2.2.2.1, T.2.2.2.2.2.2.2.1, T.2.2.2.2.2.2.2.2.1, T.2.2.2.2.2.2.2.2.2.1, T.2.2.2.2.2.2.2.2.2.2.1, (T.2.2.2.2.2.2.2.2.2.2.2.1 + 1) + 1, (upd T.2.2.2.2.2.2.2.2.2.2.2.2.1 ((4 * T.2.2.2.2.2.2.2.2.2.2.2.2.2.1) + 1) (nI (kb9 T.2.2.2.2.2.2.2.2.2.1 T.2.2.2.2.2.2.2.2.2.2.2.1 - 48))), T.2.2.2.2.2.2.2.2.2.2.2.2.2))]) hP hD hS hA [0] [] [0] rfl rfl (by decide) (by decide) (fun _ => rfl) (va_runV (As := [.int (nI 44)]) (rest := []) ⟨hx, hb, hml, hown, hts⟩ (c_X5_passes_y l D cy ra al (T.1, T.2.1, T.2.2.1, T.2.2.2.1, T.2.2.2.2.1, T.2.2.2.2.2.1, T.2.2.2.2.2.2.1, T.2.2.2.2.2.2.2.1, T.2.2.2.2.2.2.2.2.1, T.2.2.2.2.2.2.2.2.2.1, T.2.2.2.2.2.2.2.2.2.2.1, T.2.2.2.2.2.2.2.2.2.2.2.1 + 1, upd T.2.2.2.2.2.2.2.2.2.2.2.2.1 ((4 * T.2.2.2.2.2.2.2.2.2.2.2.2.2.1) + 1) (nI (kb9 T.2.2.2.2.2.2.2.2.2.1 T.2.2.2.2.2.2.2.2.2.2.2.1 - 48)), T.2.2.2.2.2.2.2.2.2.2.2.2.2) 44 (by (try dsimp only); first | assumption | omega | decide) (by (try dsimp only); first | assumption | omega | decide) (by (try dsimp only); first | assumption | omega | decide) hk3 H.size) (cwV 1 hts gX5_readsTokens_X5_passes rfl rfl rfl (by decide +kernel) ⟨Nat.le_of_ble_eq_true rfl, Nat.le_of_ble_eq_true rfl⟩) (kPre_V (ci := 5) hK hN hP hD [0] (by decide) rfl 0 rfl rfl) rfl rfl hl.1 rfl (lv_room (Nat.le_of_ble_eq_true rfl)) dX5_readsTokens_85 ⟨Nat.le_of_ble_eq_true rfl, Nat.le_of_ble_eq_true rfl⟩) (fun r_ u_ H locs hw hP hD hS => ?_)
      have hw : r_ = nI 1 := hw
      subst hw
      refine lv_if_eq (tgt := 95) hx hb dX5_readsTokens_88 (by decide) (fun h => absurd h (by decide)) (fun _ => ?_)
      refine lv_iconst (v := nI 1) hx hb dX5_readsTokens_91 (by decide) ?_
      refine lv_goto (tgt := 96) hx hb dX5_readsTokens_92 (by decide) ?_
      exact kr_i (post := fun r_ (u_ : Unit) => r_ = nI 1) (Bs := fun u_ : Unit => [mW cy ra (al, (T.1, T.2.1, T.2.2.1, T.2.2.2.1, T.2.2.2.2.1, T.2.2.2.2.2.1, T.2.2.2.2.2.2.1, T.2.2.2.2.2.2.2.1, T.2.2.2.2.2.2.2.2.1, T.2.2.2.2.2.2.2.2.2.1, T.2.2.2.2.2.2.2.2.2.2.1, T.2.2.2.2.2.2.2.2.2.2.2.1 + 1 + 1, upd T.2.2.2.2.2.2.2.2.2.2.2.2.1 (4 * T.2.2.2.2.2.2.2.2.2.2.2.2.2.1 + 1) (nI (kb9 T.2.2.2.2.2.2.2.2.2.1 T.2.2.2.2.2.2.2.2.2.2.2.1 - 48)), T.2.2.2.2.2.2.2.2.2.2.2.2.2))]) hx hb hr hlocks rfl () hP hK hD hS rfl dX5_readsTokens_96 hQ
abbrev rm_X5_readsTokens_1n : Room := { frames := 2, cells := 0, slots := 0, locals := 42 }
set_option maxHeartbeats 1000000 in
set_option maxRecDepth 100000 in
/-- readsTokens -/
theorem c_X5_readsTokens_1n (l : Launch) (D : va_G) (cy : Nat → ClassId) (ra : Nat → Nat) (al : Nat → Int32) (T : rV) (hby : kBy T.2.2.2.2.2.2.2.2.2.1) (htl : T.2.2.2.2.2.2.2.2.2.2.1 ≤ 100) (hpl : T.2.2.2.2.2.2.2.2.2.2.2.1 ≤ 140) (hgs : T.2.2.2.2.2.2.2.2.2.2.2.2.2.1 < 16) (hk : kDig T.2.2.2.2.2.2.2.2.2.1 T.2.2.2.2.2.2.2.2.2.2.1 T.2.2.2.2.2.2.2.2.2.2.2.1 0) (hk2 : ¬ kDig T.2.2.2.2.2.2.2.2.2.1 T.2.2.2.2.2.2.2.2.2.2.1 (T.2.2.2.2.2.2.2.2.2.2.2.1 + 1) 0) (hk3 : ¬ kIs T.2.2.2.2.2.2.2.2.2.1 T.2.2.2.2.2.2.2.2.2.2.1 (T.2.2.2.2.2.2.2.2.2.2.2.1 + 1) 44) (sz : Nat) : Met l yX5_readsTokens wsX5_readsTokens rm_X5_readsTokens_1n (va_Pc [.ref (ra 0)] (kPre D (kT cy) [mW cy ra (al, T)] sz)) (va_Qi (fun r_ (u_ : Unit) => r_ = nI 0) (kFr D (kT cy) [mW cy ra (al, T)] sz (fun u_ : Unit => [mW cy ra (al, (T.1, T.2.1, T.2.2.1, T.2.2.2.1, T.2.2.2.2.1, T.2.2.2.2.2.1, T.2.2.2.2.2.2.1, T.2.2.2.2.2.2.2.1, T.2.2.2.2.2.2.2.2.1, T.2.2.2.2.2.2.2.2.2.1, T.2.2.2.2.2.2.2.2.2.2.1, T.2.2.2.2.2.2.2.2.2.2.2.1 + 1, upd T.2.2.2.2.2.2.2.2.2.2.2.2.1 (4 * T.2.2.2.2.2.2.2.2.2.2.2.2.2.1 + 1) (nI (kb9 T.2.2.2.2.2.2.2.2.2.1 T.2.2.2.2.2.2.2.2.2.2.2.1 - 48)), T.2.2.2.2.2.2.2.2.2.2.2.2.2))])) (va_A (bkF [mW cy ra (al, T)]) sz)) 0 0 (va_A (bkF [mW cy ra (al, T)]) sz) := by
  refine kOpen (y := yX5_readsTokens) (ws := wsX5_readsTokens) (cc := cX5_readsTokens) (maxL := 3) (ret := (some .boolean)) (av := [.ref (ra 0)]) (Bs := [mW cy ra (al, T)]) (Qc := fun A => (va_Qi (fun r_ (u_ : Unit) => r_ = nI 0) (fun (u_ : Unit) t9 => kEnd D (kT cy) A [mW cy ra (al, (T.1, T.2.1, T.2.2.1, T.2.2.2.1, T.2.2.2.2.1, T.2.2.2.2.2.1, T.2.2.2.2.2.2.1, T.2.2.2.2.2.2.2.1, T.2.2.2.2.2.2.2.2.1, T.2.2.2.2.2.2.2.2.2.1, T.2.2.2.2.2.2.2.2.2.2.1, T.2.2.2.2.2.2.2.2.2.2.2.1 + 1, upd T.2.2.2.2.2.2.2.2.2.2.2.2.1 (4 * T.2.2.2.2.2.2.2.2.2.2.2.2.2.1 + 1) (nI (kb9 T.2.2.2.2.2.2.2.2.2.1 T.2.2.2.2.2.2.2.2.2.2.2.1 - 48)), T.2.2.2.2.2.2.2.2.2.2.2.2.2))] t9) A)) (by decide) rfl (Nat.le_of_ble_eq_true rfl) ?_
  intro p e s m args below meth c A Q ls hQ hx hb hml hr hlocks hin hts hown hN hK hP hD hS hA hsz hAe hl
  clear hAe
  have hl : lv_has ls 3 [(0, .ref (ra 0))] := hl
  suffices K9 : ∀ (H : Heap) (locs : List Loc), va_P D vwCl (bkF [mW cy ra (al, T)]) H → va_S A s.heap H locs → W p l e (headSpec wsX5_readsTokens rm_X5_readsTokens_1n).room s m args below meth c H locs 0 0 Q (F0 m 0 ls []) from K9 _ _ hP hS
  clear hP hS
  intro H locs hP hS
  refine lv_aload_n hx hb dX5_readsTokens_0 rfl (lv_at hl 0 rfl) ?_
  refine va_get (D := D) (ci := 5) (v := .int (nI T.2.2.2.2.2.2.2.2.2.2.2.1)) (C := RX5) (T := TX5) (N := 16) hx hb hts (by decide +kernel) hown hK hP 0 rfl rfl 12 (by decide) (hts (.fieldLink RX5 174 "DanceHallModel" "place" "I") (by decide +kernel)) (fun _ h9 => h9) rfl dX5_readsTokens_1 ?_
  refine lv_istore_n (lv' := [(1, .int (nI T.2.2.2.2.2.2.2.2.2.2.2.1)), (0, .ref (ra 0))]) hx hb dX5_readsTokens_4 rfl hl (by decide) rfl (fun ls hl => ?_)
  refine lv_iconst (v := nI 0) hx hb dX5_readsTokens_5 (by decide) ?_
  refine lv_istore_n (lv' := [(2, .int (nI 0)), (1, .int (nI T.2.2.2.2.2.2.2.2.2.2.2.1)), (0, .ref (ra 0))]) hx hb dX5_readsTokens_6 rfl hl (by decide) rfl (fun ls hl => ?_)
  refine lv_aload_n hx hb dX5_readsTokens_7 rfl (lv_at hl 2 rfl) ?_
  refine kc_i (Cs := [mW cy ra (al, T)]) (Rs := []) (Bs := [mW cy ra (al, T)]) (Cs' := fun u_ : Unit => [mW cy ra (al, T)]) (Fs := fun u_ : Unit => [mW cy ra (al, T)]) hP hD hS hA [0] [] [0] rfl rfl (by decide) (by decide) (fun _ => rfl) (va_runV (As := []) (rest := []) ⟨hx, hb, hml, hown, hts⟩ (c_X5_here l D cy ra al T htl (by (try dsimp only); first | assumption | omega | decide) H.size) (cwV 0 hts gX5_readsTokens_X5_here rfl rfl rfl (by decide +kernel) ⟨Nat.le_of_ble_eq_true rfl, Nat.le_of_ble_eq_true rfl⟩) (kPre_V (ci := 5) hK hN hP hD [0] (by decide) rfl 0 rfl rfl) rfl rfl hl.1 rfl (lv_room (Nat.le_of_ble_eq_true rfl)) dX5_readsTokens_8 ⟨Nat.le_of_ble_eq_true rfl, Nat.le_of_ble_eq_true rfl⟩) (fun r_ u_ H locs hw hP hD hS => ?_)
  have hw : r_ = kHr T.2.2.2.2.2.2.2.2.2.1 T.2.2.2.2.2.2.2.2.2.2.1 T.2.2.2.2.2.2.2.2.2.2.2.1 := hw
  subst hw
  refine lv_i2l (v := (kHr T.2.2.2.2.2.2.2.2.2.1 T.2.2.2.2.2.2.2.2.2.2.1 T.2.2.2.2.2.2.2.2.2.2.2.1).toInt64) hx hb dX5_readsTokens_11 rfl ?_
  refine lv_ldc2 hx hb hown (hts (.constantLong RX5 180 (48)) (by decide +kernel)) dX5_readsTokens_12 ?_
  refine lv_ldc2 hx hb hown (hts (.constantLong RX5 182 (57)) (by decide +kernel)) dX5_readsTokens_15 ?_
  refine kc_i (Cs := []) (Rs := [mW cy ra (al, T)]) (Bs := [mW cy ra (al, T)]) (Cs' := fun u_ : Unit => []) (Fs := fun u_ : Unit => [mW cy ra (al, T)]) hP hD hS hA [] [0] [0] rfl rfl (by decide) (by decide) (fun _ => rfl) (va_runS (As := [.long ((kHr T.2.2.2.2.2.2.2.2.2.1 T.2.2.2.2.2.2.2.2.2.2.1 T.2.2.2.2.2.2.2.2.2.2.2.1).toInt64), .long (48), .long (57)]) (rest := []) ⟨hx, hb, hml, hown, hts⟩ (c_X5_in l D cy ((kHr T.2.2.2.2.2.2.2.2.2.1 T.2.2.2.2.2.2.2.2.2.2.1 T.2.2.2.2.2.2.2.2.2.2.2.1).toInt64) (48) (57) H.size) (va_cwS 3 hts gX5_readsTokens_X5_in rfl rfl rfl (by decide +kernel) ⟨Nat.le_of_ble_eq_true rfl, Nat.le_of_ble_eq_true rfl⟩) (kPre_S hK hN hP hD [] (by decide) rfl) rfl rfl hl.1 rfl (lv_room (Nat.le_of_ble_eq_true rfl)) dX5_readsTokens_18 ⟨Nat.le_of_ble_eq_true rfl, Nat.le_of_ble_eq_true rfl⟩) (fun r_ u_ H locs hw hP hD hS => ?_)
  have hw : r_ = if kIn ((kHr T.2.2.2.2.2.2.2.2.2.1 T.2.2.2.2.2.2.2.2.2.2.1 T.2.2.2.2.2.2.2.2.2.2.2.1).toInt64) (48) (57) then nI 1 else nI 0 := hw
  subst hw
  refine kv_i (y := nI 1) (if_pos ((kIn32 (y := nI 48) (z := nI 57) (by decide) (by decide)).mpr ((kHr_dig (l9 := 0) (by decide) hby htl).mpr hk))) ?_
  refine lv_if_eq (tgt := 60) hx hb dX5_readsTokens_21 (by decide) (fun h => absurd h (by decide)) (fun _ => ?_)
  refine lv_aload_n hx hb dX5_readsTokens_24 rfl (lv_at hl 2 rfl) ?_
  refine va_get (D := D) (ci := 5) (v := .int (nI T.2.2.2.2.2.2.2.2.2.2.2.1)) (C := RX5) (T := TX5) (N := 16) hx hb hts (by decide +kernel) hown hK hP 0 rfl rfl 12 (by decide) (hts (.fieldLink RX5 174 "DanceHallModel" "place" "I") (by decide +kernel)) (fun _ h9 => h9) rfl dX5_readsTokens_25 ?_
  refine lv_iload_n hx hb dX5_readsTokens_28 rfl (lv_at hl 1 rfl) ?_
  refine lv_iconst (v := nI 2) hx hb dX5_readsTokens_29 (by decide) ?_
  refine lv_iadd hx hb dX5_readsTokens_30 ?_
  refine kv_i (y := nI (T.2.2.2.2.2.2.2.2.2.2.2.1 + 2)) (nI_add T.2.2.2.2.2.2.2.2.2.2.2.1 2) ?_
  refine lv_icmp_ge (tgt := 60) hx hb dX5_readsTokens_31 (by decide) (fun c_31 => False.elim ?_) (fun c_31 => ?_)
  · skip
    have c_31 : (T.2.2.2.2.2.2.2.2.2.2.2.1 + 2) ≤ T.2.2.2.2.2.2.2.2.2.2.2.1 := (nI_leI (a := T.2.2.2.2.2.2.2.2.2.2.2.1 + 2) (b := T.2.2.2.2.2.2.2.2.2.2.2.1) (by omega) (by omega)).mp c_31
    omega
  · skip
    have c_31 : ¬ ((T.2.2.2.2.2.2.2.2.2.2.2.1 + 2) ≤ T.2.2.2.2.2.2.2.2.2.2.2.1) := fun h => c_31 ((nI_leI (a := T.2.2.2.2.2.2.2.2.2.2.2.1 + 2) (b := T.2.2.2.2.2.2.2.2.2.2.2.1) (by omega) (by omega)).mpr h)
    refine lv_bipush (v := nI 10) hx hb dX5_readsTokens_34 (by decide) ?_
    refine lv_iload_n hx hb dX5_readsTokens_36 rfl (lv_at hl 0 rfl) ?_
    refine lv_imul hx hb dX5_readsTokens_37 ?_
    refine kv_i (y := nI 0) (by decide) ?_
    refine lv_aload_n hx hb dX5_readsTokens_38 rfl (lv_at hl 2 rfl) ?_
    refine kc_i (Cs := [mW cy ra (al, T)]) (Rs := []) (Bs := [mW cy ra (al, T)]) (Cs' := fun u_ : Unit => [mW cy ra (al, T)]) (Fs := fun u_ : Unit => [mW cy ra (al, T)]) hP hD hS hA [0] [] [0] rfl rfl (by decide) (by decide) (fun _ => rfl) (va_runV (As := []) (rest := [.int (nI 0)]) ⟨hx, hb, hml, hown, hts⟩ (c_X5_here l D cy ra al T (by (try dsimp only); first | assumption | omega | decide) (by (try dsimp only); first | assumption | omega | decide) H.size) (cwV 0 hts gX5_readsTokens_X5_here rfl rfl rfl (by decide +kernel) ⟨Nat.le_of_ble_eq_true rfl, Nat.le_of_ble_eq_true rfl⟩) (kPre_V (ci := 5) hK hN hP hD [0] (by decide) rfl 0 rfl rfl) rfl rfl hl.1 rfl (lv_room (Nat.le_of_ble_eq_true rfl)) dX5_readsTokens_39 ⟨Nat.le_of_ble_eq_true rfl, Nat.le_of_ble_eq_true rfl⟩) (fun r_ u_ H locs hw hP hD hS => ?_)
    have hw : r_ = kHr T.2.2.2.2.2.2.2.2.2.1 T.2.2.2.2.2.2.2.2.2.2.1 T.2.2.2.2.2.2.2.2.2.2.2.1 := hw
    subst hw
    refine kv_i (y := nI (kb9 T.2.2.2.2.2.2.2.2.2.1 T.2.2.2.2.2.2.2.2.2.2.2.1)) (kHr_b hby htl hk.1) ?_
    refine lv_iadd hx hb dX5_readsTokens_42 ?_
    refine kv_i (y := nI (0 + (kb9 T.2.2.2.2.2.2.2.2.2.1 T.2.2.2.2.2.2.2.2.2.2.2.1))) (nI_add 0 (kb9 T.2.2.2.2.2.2.2.2.2.1 T.2.2.2.2.2.2.2.2.2.2.2.1)) ?_
    refine lv_bipush (v := nI 48) hx hb dX5_readsTokens_43 (by decide) ?_
    refine lv_isub hx hb dX5_readsTokens_45 ?_
    refine kv_i (y := nI (kb9 T.2.2.2.2.2.2.2.2.2.1 T.2.2.2.2.2.2.2.2.2.2.2.1 - 48)) (by have h8 := hk.2.1; rw [pk_sub (by omega)]; exact congrArg nI (by omega)) ?_
    refine lv_istore_n (lv' := [(2, .int (nI (kb9 T.2.2.2.2.2.2.2.2.2.1 T.2.2.2.2.2.2.2.2.2.2.2.1 - 48))), (1, .int (nI T.2.2.2.2.2.2.2.2.2.2.2.1)), (0, .ref (ra 0))]) hx hb dX5_readsTokens_46 rfl hl (by decide) rfl (fun ls hl => ?_)
    refine lv_aload_n hx hb dX5_readsTokens_47 rfl (lv_at hl 2 rfl) ?_
    refine lv_dup hx hb dX5_readsTokens_48 rfl ?_
    refine va_get (D := D) (ci := 5) (v := .int (nI T.2.2.2.2.2.2.2.2.2.2.2.1)) (C := RX5) (T := TX5) (N := 16) hx hb hts (by decide +kernel) hown hK hP 0 rfl rfl 12 (by decide) (hts (.fieldLink RX5 174 "DanceHallModel" "place" "I") (by decide +kernel)) (fun _ h9 => h9) rfl dX5_readsTokens_49 ?_
    refine lv_iconst (v := nI 1) hx hb dX5_readsTokens_52 (by decide) ?_
    refine lv_iadd hx hb dX5_readsTokens_53 ?_
    refine kv_i (y := nI (T.2.2.2.2.2.2.2.2.2.2.2.1 + 1)) (nI_add T.2.2.2.2.2.2.2.2.2.2.2.1 1) ?_
    refine va_put (D := D) (ci := 5) (v := .int (nI (T.2.2.2.2.2.2.2.2.2.2.2.1 + 1))) (ty := .int) (C := RX5) (T := TX5) (N := 16) hx hb hts (by decide +kernel) tyX5 tyX5_ok nmX5 hown hK hP hD hS 0 rfl rfl 12 (by decide) (hts (.fieldLink RX5 174 "DanceHallModel" "place" "I") (by decide +kernel)) (fun _ h9 => h9) rfl (by decide +kernel) rfl rfl (Nat.le_of_ble_eq_true rfl) dX5_readsTokens_54 (fun H locs hP hD hS => ?_)
    have hP : va_P D vwCl (bkF [mW cy ra (al, (T.1, T.2.1, T.2.2.1, T.2.2.2.1, T.2.2.2.2.1, T.2.2.2.2.2.1, T.2.2.2.2.2.2.1, T.2.2.2.2.2.2.2.1, T.2.2.2.2.2.2.2.2.1, T.2.2.2.2.2.2.2.2.2.1, T.2.2.2.2.2.2.2.2.2.2.1, T.2.2.2.2.2.2.2.2.2.2.2.1 + 1, T.2.2.2.2.2.2.2.2.2.2.2.2))]) H := hP
    have hD : va_D A (bkF [mW cy ra (al, (T.1, T.2.1, T.2.2.1, T.2.2.2.1, T.2.2.2.2.1, T.2.2.2.2.2.1, T.2.2.2.2.2.2.1, T.2.2.2.2.2.2.2.1, T.2.2.2.2.2.2.2.2.1, T.2.2.2.2.2.2.2.2.2.1, T.2.2.2.2.2.2.2.2.2.2.1, T.2.2.2.2.2.2.2.2.2.2.2.1 + 1, T.2.2.2.2.2.2.2.2.2.2.2.2))]) := hD
    refine lv_goto (tgt := 7) hx hb dX5_readsTokens_57 (by decide) ?_
    refine lv_aload_n hx hb dX5_readsTokens_7 rfl (lv_at hl 2 rfl) ?_
    refine kc_i (Cs := [mW cy ra (al, (T.1, T.2.1, T.2.2.1, T.2.2.2.1, T.2.2.2.2.1, T.2.2.2.2.2.1, T.2.2.2.2.2.2.1, T.2.2.2.2.2.2.2.1, T.2.2.2.2.2.2.2.2.1, T.2.2.2.2.2.2.2.2.2.1, T.2.2.2.2.2.2.2.2.2.2.1, T.2.2.2.2.2.2.2.2.2.2.2.1 + 1, T.2.2.2.2.2.2.2.2.2.2.2.2))]) (Rs := []) (Bs := [mW cy ra (al, (T.1, T.2.1, T.2.2.1, T.2.2.2.1, T.2.2.2.2.1, T.2.2.2.2.2.1, T.2.2.2.2.2.2.1, T.2.2.2.2.2.2.2.1, T.2.2.2.2.2.2.2.2.1, T.2.2.2.2.2.2.2.2.2.1, T.2.2.2.2.2.2.2.2.2.2.1, T.2.2.2.2.2.2.2.2.2.2.2.1 + 1, T.2.2.2.2.2.2.2.2.2.2.2.2))]) (Cs' := fun u_ : Unit => [mW cy ra (al, (T.1, T.2.1, T.2.2.1, T.2.2.2.1, T.2.2.2.2.1, T.2.2.2.2.2.1, T.2.2.2.2.2.2.1, T.2.2.2.2.2.2.2.1, T.2.2.2.2.2.2.2.2.1, T.2.2.2.2.2.2.2.2.2.1, T.2.2.2.2.2.2.2.2.2.2.1, T.2.2.2.2.2.2.2.2.2.2.2.1 + 1, T.2.2.2.2.2.2.2.2.2.2.2.2))]) (Fs := fun u_ : Unit => [mW cy ra (al, (T.1, T.2.1, T.2.2.1, T.2.2.2.1, T.2.2.2.2.1, T.2.2.2.2.2.1, T.2.2.2.2.2.2.1, T.2.2.2.2.2.2.2.1, T.2.2.2.2.2.2.2.2.1, T.2.2.2.2.2.2.2.2.2.1, T.2.2.2.2.2.2.2.2.2.2.1, T.2.2.2.2.2.2.2.2.2.2.2.1 + 1, T.2.2.2.2.2.2.2.2.2.2.2.2))]) hP hD hS hA [0] [] [0] rfl rfl (by decide) (by decide) (fun _ => rfl) (va_runV (As := []) (rest := []) ⟨hx, hb, hml, hown, hts⟩ (c_X5_here l D cy ra al (T.1, T.2.1, T.2.2.1, T.2.2.2.1, T.2.2.2.2.1, T.2.2.2.2.2.1, T.2.2.2.2.2.2.1, T.2.2.2.2.2.2.2.1, T.2.2.2.2.2.2.2.2.1, T.2.2.2.2.2.2.2.2.2.1, T.2.2.2.2.2.2.2.2.2.2.1, T.2.2.2.2.2.2.2.2.2.2.2.1 + 1, T.2.2.2.2.2.2.2.2.2.2.2.2) htl (by (try dsimp only); first | assumption | omega | decide) H.size) (cwV 0 hts gX5_readsTokens_X5_here rfl rfl rfl (by decide +kernel) ⟨Nat.le_of_ble_eq_true rfl, Nat.le_of_ble_eq_true rfl⟩) (kPre_V (ci := 5) hK hN hP hD [0] (by decide) rfl 0 rfl rfl) rfl rfl hl.1 rfl (lv_room (Nat.le_of_ble_eq_true rfl)) dX5_readsTokens_8 ⟨Nat.le_of_ble_eq_true rfl, Nat.le_of_ble_eq_true rfl⟩) (fun r_ u_ H locs hw hP hD hS => ?_)
    have hw : r_ = kHr T.2.2.2.2.2.2.2.2.2.1 T.2.2.2.2.2.2.2.2.2.2.1 (T.2.2.2.2.2.2.2.2.2.2.2.1 + 1) := hw
    subst hw
    refine lv_i2l (v := (kHr T.2.2.2.2.2.2.2.2.2.1 T.2.2.2.2.2.2.2.2.2.2.1 (T.2.2.2.2.2.2.2.2.2.2.2.1 + 1)).toInt64) hx hb dX5_readsTokens_11 rfl ?_
    refine lv_ldc2 hx hb hown (hts (.constantLong RX5 180 (48)) (by decide +kernel)) dX5_readsTokens_12 ?_
    refine lv_ldc2 hx hb hown (hts (.constantLong RX5 182 (57)) (by decide +kernel)) dX5_readsTokens_15 ?_
    refine kc_i (Cs := []) (Rs := [mW cy ra (al, (T.1, T.2.1, T.2.2.1, T.2.2.2.1, T.2.2.2.2.1, T.2.2.2.2.2.1, T.2.2.2.2.2.2.1, T.2.2.2.2.2.2.2.1, T.2.2.2.2.2.2.2.2.1, T.2.2.2.2.2.2.2.2.2.1, T.2.2.2.2.2.2.2.2.2.2.1, T.2.2.2.2.2.2.2.2.2.2.2.1 + 1, T.2.2.2.2.2.2.2.2.2.2.2.2))]) (Bs := [mW cy ra (al, (T.1, T.2.1, T.2.2.1, T.2.2.2.1, T.2.2.2.2.1, T.2.2.2.2.2.1, T.2.2.2.2.2.2.1, T.2.2.2.2.2.2.2.1, T.2.2.2.2.2.2.2.2.1, T.2.2.2.2.2.2.2.2.2.1, T.2.2.2.2.2.2.2.2.2.2.1, T.2.2.2.2.2.2.2.2.2.2.2.1 + 1, T.2.2.2.2.2.2.2.2.2.2.2.2))]) (Cs' := fun u_ : Unit => []) (Fs := fun u_ : Unit => [mW cy ra (al, (T.1, T.2.1, T.2.2.1, T.2.2.2.1, T.2.2.2.2.1, T.2.2.2.2.2.1, T.2.2.2.2.2.2.1, T.2.2.2.2.2.2.2.1, T.2.2.2.2.2.2.2.2.1, T.2.2.2.2.2.2.2.2.2.1, T.2.2.2.2.2.2.2.2.2.2.1, T.2.2.2.2.2.2.2.2.2.2.2.1 + 1, T.2.2.2.2.2.2.2.2.2.2.2.2))]) hP hD hS hA [] [0] [0] rfl rfl (by decide) (by decide) (fun _ => rfl) (va_runS (As := [.long ((kHr T.2.2.2.2.2.2.2.2.2.1 T.2.2.2.2.2.2.2.2.2.2.1 (T.2.2.2.2.2.2.2.2.2.2.2.1 + 1)).toInt64), .long (48), .long (57)]) (rest := []) ⟨hx, hb, hml, hown, hts⟩ (c_X5_in l D cy ((kHr T.2.2.2.2.2.2.2.2.2.1 T.2.2.2.2.2.2.2.2.2.2.1 (T.2.2.2.2.2.2.2.2.2.2.2.1 + 1)).toInt64) (48) (57) H.size) (va_cwS 3 hts gX5_readsTokens_X5_in rfl rfl rfl (by decide +kernel) ⟨Nat.le_of_ble_eq_true rfl, Nat.le_of_ble_eq_true rfl⟩) (kPre_S hK hN hP hD [] (by decide) rfl) rfl rfl hl.1 rfl (lv_room (Nat.le_of_ble_eq_true rfl)) dX5_readsTokens_18 ⟨Nat.le_of_ble_eq_true rfl, Nat.le_of_ble_eq_true rfl⟩) (fun r_ u_ H locs hw hP hD hS => ?_)
    have hw : r_ = if kIn ((kHr T.2.2.2.2.2.2.2.2.2.1 T.2.2.2.2.2.2.2.2.2.2.1 (T.2.2.2.2.2.2.2.2.2.2.2.1 + 1)).toInt64) (48) (57) then nI 1 else nI 0 := hw
    subst hw
    refine kv_i (y := nI 0) (if_neg (fun h => hk2 ((kHr_dig (l9 := 0) (by decide) hby htl).mp ((kIn32 (y := nI 48) (z := nI 57) (by decide) (by decide)).mp h)))) ?_
    refine lv_if_eq (tgt := 60) hx hb dX5_readsTokens_21 (by decide) (fun _ => ?_) (fun h => absurd h (by decide))
    refine lv_aload_n hx hb dX5_readsTokens_60 rfl (lv_at hl 2 rfl) ?_
    refine va_get (D := D) (ci := 5) (v := .ref (ra 10)) (C := RX5) (T := TX5) (N := 16) hx hb hts (by decide +kernel) hown hK hP 0 rfl rfl 13 (by decide) (hts (.fieldLink RX5 38 "DanceHallModel" "read" "[I") (by decide +kernel)) (fun _ h9 => h9) rfl dX5_readsTokens_61 ?_
    refine lv_iconst (v := nI 4) hx hb dX5_readsTokens_64 (by decide) ?_
    refine lv_aload_n hx hb dX5_readsTokens_65 rfl (lv_at hl 2 rfl) ?_
    refine va_get (D := D) (ci := 5) (v := .int (nI T.2.2.2.2.2.2.2.2.2.2.2.2.2.1)) (C := RX5) (T := TX5) (N := 16) hx hb hts (by decide +kernel) hown hK hP 0 rfl rfl 14 (by decide) (hts (.fieldLink RX5 184 "DanceHallModel" "guests" "I") (by decide +kernel)) (fun _ h9 => h9) rfl dX5_readsTokens_66 ?_
    refine lv_imul hx hb dX5_readsTokens_69 ?_
    refine kv_i (y := nI (4 * T.2.2.2.2.2.2.2.2.2.2.2.2.2.1)) (pk_mul 4 T.2.2.2.2.2.2.2.2.2.2.2.2.2.1) ?_
    refine lv_iconst (v := nI 1) hx hb dX5_readsTokens_70 (by decide) ?_
    refine lv_iadd hx hb dX5_readsTokens_71 ?_
    refine kv_i (y := nI ((4 * T.2.2.2.2.2.2.2.2.2.2.2.2.2.1) + 1)) (nI_add (4 * T.2.2.2.2.2.2.2.2.2.2.2.2.2.1) 1) ?_
    refine lv_iload_n hx hb dX5_readsTokens_72 rfl (lv_at hl 0 rfl) ?_
    refine va_iast hx hb hK hP hD hS 10 0 rfl rfl (vp_in_nI (n := (4 * T.2.2.2.2.2.2.2.2.2.2.2.2.2.1) + 1) (N := 64) (by omega) (by omega)) dX5_readsTokens_73 (fun H locs hP hD hS => ?_)
    rw [nI_clamp (n := (4 * T.2.2.2.2.2.2.2.2.2.2.2.2.2.1) + 1) (by omega)] at hP hD
    have hP : va_P D vwCl (bkF [mW cy ra (al, (T.1, T.2.1, T.2.2.1, T.2.2.2.1, T.2.2.2.2.1, T.2.2.2.2.2.1, T.2.2.2.2.2.2.1, T.2.2.2.2.2.2.2.1, T.2.2.2.2.2.2.2.2.1, T.2.2.2.2.2.2.2.2.2.1, T.2.2.2.2.2.2.2.2.2.2.1, T.2.2.2.2.2.2.2.2.2.2.2.1 + 1, upd T.2.2.2.2.2.2.2.2.2.2.2.2.1 ((4 * T.2.2.2.2.2.2.2.2.2.2.2.2.2.1) + 1) (nI (kb9 T.2.2.2.2.2.2.2.2.2.1 T.2.2.2.2.2.2.2.2.2.2.2.1 - 48)), T.2.2.2.2.2.2.2.2.2.2.2.2.2))]) H := hP
    have hD : va_D A (bkF [mW cy ra (al, (T.1, T.2.1, T.2.2.1, T.2.2.2.1, T.2.2.2.2.1, T.2.2.2.2.2.1, T.2.2.2.2.2.2.1, T.2.2.2.2.2.2.2.1, T.2.2.2.2.2.2.2.2.1, T.2.2.2.2.2.2.2.2.2.1, T.2.2.2.2.2.2.2.2.2.2.1, T.2.2.2.2.2.2.2.2.2.2.2.1 + 1, upd T.2.2.2.2.2.2.2.2.2.2.2.2.1 ((4 * T.2.2.2.2.2.2.2.2.2.2.2.2.2.1) + 1) (nI (kb9 T.2.2.2.2.2.2.2.2.2.1 T.2.2.2.2.2.2.2.2.2.2.2.1 - 48)), T.2.2.2.2.2.2.2.2.2.2.2.2.2))]) := hD
    refine lv_aload_n hx hb dX5_readsTokens_74 rfl (lv_at hl 2 rfl) ?_
    refine va_get (D := D) (ci := 5) (v := .int (nI (T.2.2.2.2.2.2.2.2.2.2.2.1 + 1))) (C := RX5) (T := TX5) (N := 16) hx hb hts (by decide +kernel) hown hK hP 0 rfl rfl 12 (by decide) (hts (.fieldLink RX5 174 "DanceHallModel" "place" "I") (by decide +kernel)) (fun _ h9 => h9) rfl dX5_readsTokens_75 ?_
    refine lv_iload_n hx hb dX5_readsTokens_78 rfl (lv_at hl 1 rfl) ?_
    refine lv_icmp_le (tgt := 95) hx hb dX5_readsTokens_79 (by decide) (fun c_79 => False.elim ?_) (fun c_79 => ?_)
    · skip
      have c_79 : (T.2.2.2.2.2.2.2.2.2.2.2.1 + 1) ≤ T.2.2.2.2.2.2.2.2.2.2.2.1 := (nI_leI (a := T.2.2.2.2.2.2.2.2.2.2.2.1 + 1) (b := T.2.2.2.2.2.2.2.2.2.2.2.1) (by omega) (by omega)).mp c_79
      omega
    · skip
      have c_79 : ¬ ((T.2.2.2.2.2.2.2.2.2.2.2.1 + 1) ≤ T.2.2.2.2.2.2.2.2.2.2.2.1) := fun h => c_79 ((nI_leI (a := T.2.2.2.2.2.2.2.2.2.2.2.1 + 1) (b := T.2.2.2.2.2.2.2.2.2.2.2.1) (by omega) (by omega)).mpr h)
      refine lv_aload_n hx hb dX5_readsTokens_82 rfl (lv_at hl 2 rfl) ?_
      refine lv_bipush (v := nI 44) hx hb dX5_readsTokens_83 (by decide) ?_
      refine kc_i (Cs := [mW cy ra (al, (T.1, T.2.1, T.2.2.1, T.2.2.2.1, T.2.2.2.2.1, T.2.2.2.2.2.1, T.2.2.2.2.2.2.1, T.2.2.2.2.2.2.2.1, T.2.2.2.2.2.2.2.2.1, T.2.2.2.2.2.2.2.2.2.1, T.2.2.2.2.2.2.2.2.2.2.1, T.2.2.2.2.2.2.2.2.2.2.2.1 + 1, upd T.2.2.2.2.2.2.2.2.2.2.2.2.1 ((4 * T.2.2.2.2.2.2.2.2.2.2.2.2.2.1) + 1) (nI (kb9 T.2.2.2.2.2.2.2.2.2.1 T.2.2.2.2.2.2.2.2.2.2.2.1 - 48)), T.2.2.2.2.2.2.2.2.2.2.2.2.2))]) (Rs := []) (Bs := [mW cy ra (al, (T.1, T.2.1, T.2.2.1, T.2.2.2.1, T.2.2.2.2.1, T.2.2.2.2.2.1, T.2.2.2.2.2.2.1, T.2.2.2.2.2.2.2.1, T.2.2.2.2.2.2.2.2.1, T.2.2.2.2.2.2.2.2.2.1, T.2.2.2.2.2.2.2.2.2.2.1, T.2.2.2.2.2.2.2.2.2.2.2.1 + 1, upd T.2.2.2.2.2.2.2.2.2.2.2.2.1 ((4 * T.2.2.2.2.2.2.2.2.2.2.2.2.2.1) + 1) (nI (kb9 T.2.2.2.2.2.2.2.2.2.1 T.2.2.2.2.2.2.2.2.2.2.2.1 - 48)), T.2.2.2.2.2.2.2.2.2.2.2.2.2))]) (Cs' := fun u_ : Unit => [mW cy ra (al, (T.1, T.2.1, T.2.2.1, T.2.2.2.1, T.2.2.2.2.1, T.2.2.2.2.2.1, T.2.2.2.2.2.2.1, T.2.2.2.2.2.2.2.1, T.2.2.2.2.2.2.2.2.1, T.2.2.2.2.2.2.2.2.2.1, T.2.2.2.2.2.2.2.2.2.2.1, (T.2.2.2.2.2.2.2.2.2.2.2.1 + 1), (upd T.2.2.2.2.2.2.2.2.2.2.2.2.1 ((4 * T.2.2.2.2.2.2.2.2.2.2.2.2.2.1) + 1) (nI (kb9 T.2.2.2.2.2.2.2.2.2.1 T.2.2.2.2.2.2.2.2.2.2.2.1 - 48))), T.2.2.2.2.2.2.2.2.2.2.2.2.2))]) (Fs := fun u_ : Unit => [mW cy ra (al, (T.1, T.2.1, T.2.2.1, T.2.2.2.1, T.2.2.2.2.1, T.2.2.2.2.2.1, T.2.2.2.2.2.2.1, T.2.2.2.2.2.2.2.1, T.2.2.2.2.2.2.2.2.1, T.2.2.2.2.2.2.2.2.2.1, T.2.2.2.2.2.2.2.2.2.2.1, (T.2.2.2.2.2.2.2.2.2.2.2.1 + 1), (upd T.2.2.2.2.2.2.2.2.2.2.2.2.1 ((4 * T.2.2.2.2.2.2.2.2.2.2.2.2.2.1) + 1) (nI (kb9 T.2.2.2.2.2.2.2.2.2.1 T.2.2.2.2.2.2.2.2.2.2.2.1 - 48))), T.2.2.2.2.2.2.2.2.2.2.2.2.2))]) hP hD hS hA [0] [] [0] rfl rfl (by decide) (by decide) (fun _ => rfl) (va_runV (As := [.int (nI 44)]) (rest := []) ⟨hx, hb, hml, hown, hts⟩ (c_X5_passes_n l D cy ra al (T.1, T.2.1, T.2.2.1, T.2.2.2.1, T.2.2.2.2.1, T.2.2.2.2.2.1, T.2.2.2.2.2.2.1, T.2.2.2.2.2.2.2.1, T.2.2.2.2.2.2.2.2.1, T.2.2.2.2.2.2.2.2.2.1, T.2.2.2.2.2.2.2.2.2.2.1, T.2.2.2.2.2.2.2.2.2.2.2.1 + 1, upd T.2.2.2.2.2.2.2.2.2.2.2.2.1 ((4 * T.2.2.2.2.2.2.2.2.2.2.2.2.2.1) + 1) (nI (kb9 T.2.2.2.2.2.2.2.2.2.1 T.2.2.2.2.2.2.2.2.2.2.2.1 - 48)), T.2.2.2.2.2.2.2.2.2.2.2.2.2) 44 (by (try dsimp only); first | assumption | omega | decide) (by (try dsimp only); first | assumption | omega | decide) (by (try dsimp only); first | assumption | omega | decide) hk3 H.size) (cwV 1 hts gX5_readsTokens_X5_passes rfl rfl rfl (by decide +kernel) ⟨Nat.le_of_ble_eq_true rfl, Nat.le_of_ble_eq_true rfl⟩) (kPre_V (ci := 5) hK hN hP hD [0] (by decide) rfl 0 rfl rfl) rfl rfl hl.1 rfl (lv_room (Nat.le_of_ble_eq_true rfl)) dX5_readsTokens_85 ⟨Nat.le_of_ble_eq_true rfl, Nat.le_of_ble_eq_true rfl⟩) (fun r_ u_ H locs hw hP hD hS => ?_)
      have hw : r_ = nI 0 := hw
      subst hw
      refine lv_if_eq (tgt := 95) hx hb dX5_readsTokens_88 (by decide) (fun _ => ?_) (fun h => absurd h (by decide))
      refine lv_iconst (v := nI 0) hx hb dX5_readsTokens_95 (by decide) ?_
      exact kr_i (post := fun r_ (u_ : Unit) => r_ = nI 0) (Bs := fun u_ : Unit => [mW cy ra (al, (T.1, T.2.1, T.2.2.1, T.2.2.2.1, T.2.2.2.2.1, T.2.2.2.2.2.1, T.2.2.2.2.2.2.1, T.2.2.2.2.2.2.2.1, T.2.2.2.2.2.2.2.2.1, T.2.2.2.2.2.2.2.2.2.1, T.2.2.2.2.2.2.2.2.2.2.1, T.2.2.2.2.2.2.2.2.2.2.2.1 + 1, upd T.2.2.2.2.2.2.2.2.2.2.2.2.1 (4 * T.2.2.2.2.2.2.2.2.2.2.2.2.2.1 + 1) (nI (kb9 T.2.2.2.2.2.2.2.2.2.1 T.2.2.2.2.2.2.2.2.2.2.2.1 - 48)), T.2.2.2.2.2.2.2.2.2.2.2.2.2))]) hx hb hr hlocks rfl () hP hK hD hS rfl dX5_readsTokens_96 hQ
abbrev rm_X5_readsTokens_2y : Room := { frames := 2, cells := 0, slots := 0, locals := 42 }
set_option maxHeartbeats 1000000 in
set_option maxRecDepth 100000 in
/-- readsTokens -/
theorem c_X5_readsTokens_2y (l : Launch) (D : va_G) (cy : Nat → ClassId) (ra : Nat → Nat) (al : Nat → Int32) (T : rV) (hby : kBy T.2.2.2.2.2.2.2.2.2.1) (htl : T.2.2.2.2.2.2.2.2.2.2.1 ≤ 100) (hpl : T.2.2.2.2.2.2.2.2.2.2.2.1 ≤ 140) (hgs : T.2.2.2.2.2.2.2.2.2.2.2.2.2.1 < 16) (hk : kDig T.2.2.2.2.2.2.2.2.2.1 T.2.2.2.2.2.2.2.2.2.2.1 T.2.2.2.2.2.2.2.2.2.2.2.1 0) (hk2 : kDig T.2.2.2.2.2.2.2.2.2.1 T.2.2.2.2.2.2.2.2.2.2.1 (T.2.2.2.2.2.2.2.2.2.2.2.1 + 1) 0) (hk3 : kIs T.2.2.2.2.2.2.2.2.2.1 T.2.2.2.2.2.2.2.2.2.2.1 (T.2.2.2.2.2.2.2.2.2.2.2.1 + 1 + 1) 44) (sz : Nat) : Met l yX5_readsTokens wsX5_readsTokens rm_X5_readsTokens_2y (va_Pc [.ref (ra 0)] (kPre D (kT cy) [mW cy ra (al, T)] sz)) (va_Qi (fun r_ (u_ : Unit) => r_ = nI 1) (kFr D (kT cy) [mW cy ra (al, T)] sz (fun u_ : Unit => [mW cy ra (al, (T.1, T.2.1, T.2.2.1, T.2.2.2.1, T.2.2.2.2.1, T.2.2.2.2.2.1, T.2.2.2.2.2.2.1, T.2.2.2.2.2.2.2.1, T.2.2.2.2.2.2.2.2.1, T.2.2.2.2.2.2.2.2.2.1, T.2.2.2.2.2.2.2.2.2.2.1, T.2.2.2.2.2.2.2.2.2.2.2.1 + 1 + 1 + 1, upd T.2.2.2.2.2.2.2.2.2.2.2.2.1 (4 * T.2.2.2.2.2.2.2.2.2.2.2.2.2.1 + 1) (nI (10 * (kb9 T.2.2.2.2.2.2.2.2.2.1 T.2.2.2.2.2.2.2.2.2.2.2.1 - 48) + (kb9 T.2.2.2.2.2.2.2.2.2.1 (T.2.2.2.2.2.2.2.2.2.2.2.1 + 1) - 48))), T.2.2.2.2.2.2.2.2.2.2.2.2.2))])) (va_A (bkF [mW cy ra (al, T)]) sz)) 0 0 (va_A (bkF [mW cy ra (al, T)]) sz) := by
  refine kOpen (y := yX5_readsTokens) (ws := wsX5_readsTokens) (cc := cX5_readsTokens) (maxL := 3) (ret := (some .boolean)) (av := [.ref (ra 0)]) (Bs := [mW cy ra (al, T)]) (Qc := fun A => (va_Qi (fun r_ (u_ : Unit) => r_ = nI 1) (fun (u_ : Unit) t9 => kEnd D (kT cy) A [mW cy ra (al, (T.1, T.2.1, T.2.2.1, T.2.2.2.1, T.2.2.2.2.1, T.2.2.2.2.2.1, T.2.2.2.2.2.2.1, T.2.2.2.2.2.2.2.1, T.2.2.2.2.2.2.2.2.1, T.2.2.2.2.2.2.2.2.2.1, T.2.2.2.2.2.2.2.2.2.2.1, T.2.2.2.2.2.2.2.2.2.2.2.1 + 1 + 1 + 1, upd T.2.2.2.2.2.2.2.2.2.2.2.2.1 (4 * T.2.2.2.2.2.2.2.2.2.2.2.2.2.1 + 1) (nI (10 * (kb9 T.2.2.2.2.2.2.2.2.2.1 T.2.2.2.2.2.2.2.2.2.2.2.1 - 48) + (kb9 T.2.2.2.2.2.2.2.2.2.1 (T.2.2.2.2.2.2.2.2.2.2.2.1 + 1) - 48))), T.2.2.2.2.2.2.2.2.2.2.2.2.2))] t9) A)) (by decide) rfl (Nat.le_of_ble_eq_true rfl) ?_
  intro p e s m args below meth c A Q ls hQ hx hb hml hr hlocks hin hts hown hN hK hP hD hS hA hsz hAe hl
  clear hAe
  have hl : lv_has ls 3 [(0, .ref (ra 0))] := hl
  suffices K9 : ∀ (H : Heap) (locs : List Loc), va_P D vwCl (bkF [mW cy ra (al, T)]) H → va_S A s.heap H locs → W p l e (headSpec wsX5_readsTokens rm_X5_readsTokens_2y).room s m args below meth c H locs 0 0 Q (F0 m 0 ls []) from K9 _ _ hP hS
  clear hP hS
  intro H locs hP hS
  refine lv_aload_n hx hb dX5_readsTokens_0 rfl (lv_at hl 0 rfl) ?_
  refine va_get (D := D) (ci := 5) (v := .int (nI T.2.2.2.2.2.2.2.2.2.2.2.1)) (C := RX5) (T := TX5) (N := 16) hx hb hts (by decide +kernel) hown hK hP 0 rfl rfl 12 (by decide) (hts (.fieldLink RX5 174 "DanceHallModel" "place" "I") (by decide +kernel)) (fun _ h9 => h9) rfl dX5_readsTokens_1 ?_
  refine lv_istore_n (lv' := [(1, .int (nI T.2.2.2.2.2.2.2.2.2.2.2.1)), (0, .ref (ra 0))]) hx hb dX5_readsTokens_4 rfl hl (by decide) rfl (fun ls hl => ?_)
  refine lv_iconst (v := nI 0) hx hb dX5_readsTokens_5 (by decide) ?_
  refine lv_istore_n (lv' := [(2, .int (nI 0)), (1, .int (nI T.2.2.2.2.2.2.2.2.2.2.2.1)), (0, .ref (ra 0))]) hx hb dX5_readsTokens_6 rfl hl (by decide) rfl (fun ls hl => ?_)
  refine lv_aload_n hx hb dX5_readsTokens_7 rfl (lv_at hl 2 rfl) ?_
  refine kc_i (Cs := [mW cy ra (al, T)]) (Rs := []) (Bs := [mW cy ra (al, T)]) (Cs' := fun u_ : Unit => [mW cy ra (al, T)]) (Fs := fun u_ : Unit => [mW cy ra (al, T)]) hP hD hS hA [0] [] [0] rfl rfl (by decide) (by decide) (fun _ => rfl) (va_runV (As := []) (rest := []) ⟨hx, hb, hml, hown, hts⟩ (c_X5_here l D cy ra al T htl (by (try dsimp only); first | assumption | omega | decide) H.size) (cwV 0 hts gX5_readsTokens_X5_here rfl rfl rfl (by decide +kernel) ⟨Nat.le_of_ble_eq_true rfl, Nat.le_of_ble_eq_true rfl⟩) (kPre_V (ci := 5) hK hN hP hD [0] (by decide) rfl 0 rfl rfl) rfl rfl hl.1 rfl (lv_room (Nat.le_of_ble_eq_true rfl)) dX5_readsTokens_8 ⟨Nat.le_of_ble_eq_true rfl, Nat.le_of_ble_eq_true rfl⟩) (fun r_ u_ H locs hw hP hD hS => ?_)
  have hw : r_ = kHr T.2.2.2.2.2.2.2.2.2.1 T.2.2.2.2.2.2.2.2.2.2.1 T.2.2.2.2.2.2.2.2.2.2.2.1 := hw
  subst hw
  refine lv_i2l (v := (kHr T.2.2.2.2.2.2.2.2.2.1 T.2.2.2.2.2.2.2.2.2.2.1 T.2.2.2.2.2.2.2.2.2.2.2.1).toInt64) hx hb dX5_readsTokens_11 rfl ?_
  refine lv_ldc2 hx hb hown (hts (.constantLong RX5 180 (48)) (by decide +kernel)) dX5_readsTokens_12 ?_
  refine lv_ldc2 hx hb hown (hts (.constantLong RX5 182 (57)) (by decide +kernel)) dX5_readsTokens_15 ?_
  refine kc_i (Cs := []) (Rs := [mW cy ra (al, T)]) (Bs := [mW cy ra (al, T)]) (Cs' := fun u_ : Unit => []) (Fs := fun u_ : Unit => [mW cy ra (al, T)]) hP hD hS hA [] [0] [0] rfl rfl (by decide) (by decide) (fun _ => rfl) (va_runS (As := [.long ((kHr T.2.2.2.2.2.2.2.2.2.1 T.2.2.2.2.2.2.2.2.2.2.1 T.2.2.2.2.2.2.2.2.2.2.2.1).toInt64), .long (48), .long (57)]) (rest := []) ⟨hx, hb, hml, hown, hts⟩ (c_X5_in l D cy ((kHr T.2.2.2.2.2.2.2.2.2.1 T.2.2.2.2.2.2.2.2.2.2.1 T.2.2.2.2.2.2.2.2.2.2.2.1).toInt64) (48) (57) H.size) (va_cwS 3 hts gX5_readsTokens_X5_in rfl rfl rfl (by decide +kernel) ⟨Nat.le_of_ble_eq_true rfl, Nat.le_of_ble_eq_true rfl⟩) (kPre_S hK hN hP hD [] (by decide) rfl) rfl rfl hl.1 rfl (lv_room (Nat.le_of_ble_eq_true rfl)) dX5_readsTokens_18 ⟨Nat.le_of_ble_eq_true rfl, Nat.le_of_ble_eq_true rfl⟩) (fun r_ u_ H locs hw hP hD hS => ?_)
  have hw : r_ = if kIn ((kHr T.2.2.2.2.2.2.2.2.2.1 T.2.2.2.2.2.2.2.2.2.2.1 T.2.2.2.2.2.2.2.2.2.2.2.1).toInt64) (48) (57) then nI 1 else nI 0 := hw
  subst hw
  refine kv_i (y := nI 1) (if_pos ((kIn32 (y := nI 48) (z := nI 57) (by decide) (by decide)).mpr ((kHr_dig (l9 := 0) (by decide) hby htl).mpr hk))) ?_
  refine lv_if_eq (tgt := 60) hx hb dX5_readsTokens_21 (by decide) (fun h => absurd h (by decide)) (fun _ => ?_)
  refine lv_aload_n hx hb dX5_readsTokens_24 rfl (lv_at hl 2 rfl) ?_
  refine va_get (D := D) (ci := 5) (v := .int (nI T.2.2.2.2.2.2.2.2.2.2.2.1)) (C := RX5) (T := TX5) (N := 16) hx hb hts (by decide +kernel) hown hK hP 0 rfl rfl 12 (by decide) (hts (.fieldLink RX5 174 "DanceHallModel" "place" "I") (by decide +kernel)) (fun _ h9 => h9) rfl dX5_readsTokens_25 ?_
  refine lv_iload_n hx hb dX5_readsTokens_28 rfl (lv_at hl 1 rfl) ?_
  refine lv_iconst (v := nI 2) hx hb dX5_readsTokens_29 (by decide) ?_
  refine lv_iadd hx hb dX5_readsTokens_30 ?_
  refine kv_i (y := nI (T.2.2.2.2.2.2.2.2.2.2.2.1 + 2)) (nI_add T.2.2.2.2.2.2.2.2.2.2.2.1 2) ?_
  refine lv_icmp_ge (tgt := 60) hx hb dX5_readsTokens_31 (by decide) (fun c_31 => False.elim ?_) (fun c_31 => ?_)
  · skip
    have c_31 : (T.2.2.2.2.2.2.2.2.2.2.2.1 + 2) ≤ T.2.2.2.2.2.2.2.2.2.2.2.1 := (nI_leI (a := T.2.2.2.2.2.2.2.2.2.2.2.1 + 2) (b := T.2.2.2.2.2.2.2.2.2.2.2.1) (by omega) (by omega)).mp c_31
    omega
  · skip
    have c_31 : ¬ ((T.2.2.2.2.2.2.2.2.2.2.2.1 + 2) ≤ T.2.2.2.2.2.2.2.2.2.2.2.1) := fun h => c_31 ((nI_leI (a := T.2.2.2.2.2.2.2.2.2.2.2.1 + 2) (b := T.2.2.2.2.2.2.2.2.2.2.2.1) (by omega) (by omega)).mpr h)
    refine lv_bipush (v := nI 10) hx hb dX5_readsTokens_34 (by decide) ?_
    refine lv_iload_n hx hb dX5_readsTokens_36 rfl (lv_at hl 0 rfl) ?_
    refine lv_imul hx hb dX5_readsTokens_37 ?_
    refine kv_i (y := nI 0) (by decide) ?_
    refine lv_aload_n hx hb dX5_readsTokens_38 rfl (lv_at hl 2 rfl) ?_
    refine kc_i (Cs := [mW cy ra (al, T)]) (Rs := []) (Bs := [mW cy ra (al, T)]) (Cs' := fun u_ : Unit => [mW cy ra (al, T)]) (Fs := fun u_ : Unit => [mW cy ra (al, T)]) hP hD hS hA [0] [] [0] rfl rfl (by decide) (by decide) (fun _ => rfl) (va_runV (As := []) (rest := [.int (nI 0)]) ⟨hx, hb, hml, hown, hts⟩ (c_X5_here l D cy ra al T (by (try dsimp only); first | assumption | omega | decide) (by (try dsimp only); first | assumption | omega | decide) H.size) (cwV 0 hts gX5_readsTokens_X5_here rfl rfl rfl (by decide +kernel) ⟨Nat.le_of_ble_eq_true rfl, Nat.le_of_ble_eq_true rfl⟩) (kPre_V (ci := 5) hK hN hP hD [0] (by decide) rfl 0 rfl rfl) rfl rfl hl.1 rfl (lv_room (Nat.le_of_ble_eq_true rfl)) dX5_readsTokens_39 ⟨Nat.le_of_ble_eq_true rfl, Nat.le_of_ble_eq_true rfl⟩) (fun r_ u_ H locs hw hP hD hS => ?_)
    have hw : r_ = kHr T.2.2.2.2.2.2.2.2.2.1 T.2.2.2.2.2.2.2.2.2.2.1 T.2.2.2.2.2.2.2.2.2.2.2.1 := hw
    subst hw
    refine kv_i (y := nI (kb9 T.2.2.2.2.2.2.2.2.2.1 T.2.2.2.2.2.2.2.2.2.2.2.1)) (kHr_b hby htl hk.1) ?_
    refine lv_iadd hx hb dX5_readsTokens_42 ?_
    refine kv_i (y := nI (0 + (kb9 T.2.2.2.2.2.2.2.2.2.1 T.2.2.2.2.2.2.2.2.2.2.2.1))) (nI_add 0 (kb9 T.2.2.2.2.2.2.2.2.2.1 T.2.2.2.2.2.2.2.2.2.2.2.1)) ?_
    refine lv_bipush (v := nI 48) hx hb dX5_readsTokens_43 (by decide) ?_
    refine lv_isub hx hb dX5_readsTokens_45 ?_
    refine kv_i (y := nI (kb9 T.2.2.2.2.2.2.2.2.2.1 T.2.2.2.2.2.2.2.2.2.2.2.1 - 48)) (by have h8 := hk.2.1; rw [pk_sub (by omega)]; exact congrArg nI (by omega)) ?_
    refine lv_istore_n (lv' := [(2, .int (nI (kb9 T.2.2.2.2.2.2.2.2.2.1 T.2.2.2.2.2.2.2.2.2.2.2.1 - 48))), (1, .int (nI T.2.2.2.2.2.2.2.2.2.2.2.1)), (0, .ref (ra 0))]) hx hb dX5_readsTokens_46 rfl hl (by decide) rfl (fun ls hl => ?_)
    refine lv_aload_n hx hb dX5_readsTokens_47 rfl (lv_at hl 2 rfl) ?_
    refine lv_dup hx hb dX5_readsTokens_48 rfl ?_
    refine va_get (D := D) (ci := 5) (v := .int (nI T.2.2.2.2.2.2.2.2.2.2.2.1)) (C := RX5) (T := TX5) (N := 16) hx hb hts (by decide +kernel) hown hK hP 0 rfl rfl 12 (by decide) (hts (.fieldLink RX5 174 "DanceHallModel" "place" "I") (by decide +kernel)) (fun _ h9 => h9) rfl dX5_readsTokens_49 ?_
    refine lv_iconst (v := nI 1) hx hb dX5_readsTokens_52 (by decide) ?_
    refine lv_iadd hx hb dX5_readsTokens_53 ?_
    refine kv_i (y := nI (T.2.2.2.2.2.2.2.2.2.2.2.1 + 1)) (nI_add T.2.2.2.2.2.2.2.2.2.2.2.1 1) ?_
    refine va_put (D := D) (ci := 5) (v := .int (nI (T.2.2.2.2.2.2.2.2.2.2.2.1 + 1))) (ty := .int) (C := RX5) (T := TX5) (N := 16) hx hb hts (by decide +kernel) tyX5 tyX5_ok nmX5 hown hK hP hD hS 0 rfl rfl 12 (by decide) (hts (.fieldLink RX5 174 "DanceHallModel" "place" "I") (by decide +kernel)) (fun _ h9 => h9) rfl (by decide +kernel) rfl rfl (Nat.le_of_ble_eq_true rfl) dX5_readsTokens_54 (fun H locs hP hD hS => ?_)
    have hP : va_P D vwCl (bkF [mW cy ra (al, (T.1, T.2.1, T.2.2.1, T.2.2.2.1, T.2.2.2.2.1, T.2.2.2.2.2.1, T.2.2.2.2.2.2.1, T.2.2.2.2.2.2.2.1, T.2.2.2.2.2.2.2.2.1, T.2.2.2.2.2.2.2.2.2.1, T.2.2.2.2.2.2.2.2.2.2.1, T.2.2.2.2.2.2.2.2.2.2.2.1 + 1, T.2.2.2.2.2.2.2.2.2.2.2.2))]) H := hP
    have hD : va_D A (bkF [mW cy ra (al, (T.1, T.2.1, T.2.2.1, T.2.2.2.1, T.2.2.2.2.1, T.2.2.2.2.2.1, T.2.2.2.2.2.2.1, T.2.2.2.2.2.2.2.1, T.2.2.2.2.2.2.2.2.1, T.2.2.2.2.2.2.2.2.2.1, T.2.2.2.2.2.2.2.2.2.2.1, T.2.2.2.2.2.2.2.2.2.2.2.1 + 1, T.2.2.2.2.2.2.2.2.2.2.2.2))]) := hD
    refine lv_goto (tgt := 7) hx hb dX5_readsTokens_57 (by decide) ?_
    refine lv_aload_n hx hb dX5_readsTokens_7 rfl (lv_at hl 2 rfl) ?_
    refine kc_i (Cs := [mW cy ra (al, (T.1, T.2.1, T.2.2.1, T.2.2.2.1, T.2.2.2.2.1, T.2.2.2.2.2.1, T.2.2.2.2.2.2.1, T.2.2.2.2.2.2.2.1, T.2.2.2.2.2.2.2.2.1, T.2.2.2.2.2.2.2.2.2.1, T.2.2.2.2.2.2.2.2.2.2.1, T.2.2.2.2.2.2.2.2.2.2.2.1 + 1, T.2.2.2.2.2.2.2.2.2.2.2.2))]) (Rs := []) (Bs := [mW cy ra (al, (T.1, T.2.1, T.2.2.1, T.2.2.2.1, T.2.2.2.2.1, T.2.2.2.2.2.1, T.2.2.2.2.2.2.1, T.2.2.2.2.2.2.2.1, T.2.2.2.2.2.2.2.2.1, T.2.2.2.2.2.2.2.2.2.1, T.2.2.2.2.2.2.2.2.2.2.1, T.2.2.2.2.2.2.2.2.2.2.2.1 + 1, T.2.2.2.2.2.2.2.2.2.2.2.2))]) (Cs' := fun u_ : Unit => [mW cy ra (al, (T.1, T.2.1, T.2.2.1, T.2.2.2.1, T.2.2.2.2.1, T.2.2.2.2.2.1, T.2.2.2.2.2.2.1, T.2.2.2.2.2.2.2.1, T.2.2.2.2.2.2.2.2.1, T.2.2.2.2.2.2.2.2.2.1, T.2.2.2.2.2.2.2.2.2.2.1, T.2.2.2.2.2.2.2.2.2.2.2.1 + 1, T.2.2.2.2.2.2.2.2.2.2.2.2))]) (Fs := fun u_ : Unit => [mW cy ra (al, (T.1, T.2.1, T.2.2.1, T.2.2.2.1, T.2.2.2.2.1, T.2.2.2.2.2.1, T.2.2.2.2.2.2.1, T.2.2.2.2.2.2.2.1, T.2.2.2.2.2.2.2.2.1, T.2.2.2.2.2.2.2.2.2.1, T.2.2.2.2.2.2.2.2.2.2.1, T.2.2.2.2.2.2.2.2.2.2.2.1 + 1, T.2.2.2.2.2.2.2.2.2.2.2.2))]) hP hD hS hA [0] [] [0] rfl rfl (by decide) (by decide) (fun _ => rfl) (va_runV (As := []) (rest := []) ⟨hx, hb, hml, hown, hts⟩ (c_X5_here l D cy ra al (T.1, T.2.1, T.2.2.1, T.2.2.2.1, T.2.2.2.2.1, T.2.2.2.2.2.1, T.2.2.2.2.2.2.1, T.2.2.2.2.2.2.2.1, T.2.2.2.2.2.2.2.2.1, T.2.2.2.2.2.2.2.2.2.1, T.2.2.2.2.2.2.2.2.2.2.1, T.2.2.2.2.2.2.2.2.2.2.2.1 + 1, T.2.2.2.2.2.2.2.2.2.2.2.2) htl (by (try dsimp only); first | assumption | omega | decide) H.size) (cwV 0 hts gX5_readsTokens_X5_here rfl rfl rfl (by decide +kernel) ⟨Nat.le_of_ble_eq_true rfl, Nat.le_of_ble_eq_true rfl⟩) (kPre_V (ci := 5) hK hN hP hD [0] (by decide) rfl 0 rfl rfl) rfl rfl hl.1 rfl (lv_room (Nat.le_of_ble_eq_true rfl)) dX5_readsTokens_8 ⟨Nat.le_of_ble_eq_true rfl, Nat.le_of_ble_eq_true rfl⟩) (fun r_ u_ H locs hw hP hD hS => ?_)
    have hw : r_ = kHr T.2.2.2.2.2.2.2.2.2.1 T.2.2.2.2.2.2.2.2.2.2.1 (T.2.2.2.2.2.2.2.2.2.2.2.1 + 1) := hw
    subst hw
    refine lv_i2l (v := (kHr T.2.2.2.2.2.2.2.2.2.1 T.2.2.2.2.2.2.2.2.2.2.1 (T.2.2.2.2.2.2.2.2.2.2.2.1 + 1)).toInt64) hx hb dX5_readsTokens_11 rfl ?_
    refine lv_ldc2 hx hb hown (hts (.constantLong RX5 180 (48)) (by decide +kernel)) dX5_readsTokens_12 ?_
    refine lv_ldc2 hx hb hown (hts (.constantLong RX5 182 (57)) (by decide +kernel)) dX5_readsTokens_15 ?_
    refine kc_i (Cs := []) (Rs := [mW cy ra (al, (T.1, T.2.1, T.2.2.1, T.2.2.2.1, T.2.2.2.2.1, T.2.2.2.2.2.1, T.2.2.2.2.2.2.1, T.2.2.2.2.2.2.2.1, T.2.2.2.2.2.2.2.2.1, T.2.2.2.2.2.2.2.2.2.1, T.2.2.2.2.2.2.2.2.2.2.1, T.2.2.2.2.2.2.2.2.2.2.2.1 + 1, T.2.2.2.2.2.2.2.2.2.2.2.2))]) (Bs := [mW cy ra (al, (T.1, T.2.1, T.2.2.1, T.2.2.2.1, T.2.2.2.2.1, T.2.2.2.2.2.1, T.2.2.2.2.2.2.1, T.2.2.2.2.2.2.2.1, T.2.2.2.2.2.2.2.2.1, T.2.2.2.2.2.2.2.2.2.1, T.2.2.2.2.2.2.2.2.2.2.1, T.2.2.2.2.2.2.2.2.2.2.2.1 + 1, T.2.2.2.2.2.2.2.2.2.2.2.2))]) (Cs' := fun u_ : Unit => []) (Fs := fun u_ : Unit => [mW cy ra (al, (T.1, T.2.1, T.2.2.1, T.2.2.2.1, T.2.2.2.2.1, T.2.2.2.2.2.1, T.2.2.2.2.2.2.1, T.2.2.2.2.2.2.2.1, T.2.2.2.2.2.2.2.2.1, T.2.2.2.2.2.2.2.2.2.1, T.2.2.2.2.2.2.2.2.2.2.1, T.2.2.2.2.2.2.2.2.2.2.2.1 + 1, T.2.2.2.2.2.2.2.2.2.2.2.2))]) hP hD hS hA [] [0] [0] rfl rfl (by decide) (by decide) (fun _ => rfl) (va_runS (As := [.long ((kHr T.2.2.2.2.2.2.2.2.2.1 T.2.2.2.2.2.2.2.2.2.2.1 (T.2.2.2.2.2.2.2.2.2.2.2.1 + 1)).toInt64), .long (48), .long (57)]) (rest := []) ⟨hx, hb, hml, hown, hts⟩ (c_X5_in l D cy ((kHr T.2.2.2.2.2.2.2.2.2.1 T.2.2.2.2.2.2.2.2.2.2.1 (T.2.2.2.2.2.2.2.2.2.2.2.1 + 1)).toInt64) (48) (57) H.size) (va_cwS 3 hts gX5_readsTokens_X5_in rfl rfl rfl (by decide +kernel) ⟨Nat.le_of_ble_eq_true rfl, Nat.le_of_ble_eq_true rfl⟩) (kPre_S hK hN hP hD [] (by decide) rfl) rfl rfl hl.1 rfl (lv_room (Nat.le_of_ble_eq_true rfl)) dX5_readsTokens_18 ⟨Nat.le_of_ble_eq_true rfl, Nat.le_of_ble_eq_true rfl⟩) (fun r_ u_ H locs hw hP hD hS => ?_)
    have hw : r_ = if kIn ((kHr T.2.2.2.2.2.2.2.2.2.1 T.2.2.2.2.2.2.2.2.2.2.1 (T.2.2.2.2.2.2.2.2.2.2.2.1 + 1)).toInt64) (48) (57) then nI 1 else nI 0 := hw
    subst hw
    refine kv_i (y := nI 1) (if_pos ((kIn32 (y := nI 48) (z := nI 57) (by decide) (by decide)).mpr ((kHr_dig (l9 := 0) (by decide) hby htl).mpr hk2))) ?_
    refine lv_if_eq (tgt := 60) hx hb dX5_readsTokens_21 (by decide) (fun h => absurd h (by decide)) (fun _ => ?_)
    refine lv_aload_n hx hb dX5_readsTokens_24 rfl (lv_at hl 2 rfl) ?_
    refine va_get (D := D) (ci := 5) (v := .int (nI (T.2.2.2.2.2.2.2.2.2.2.2.1 + 1))) (C := RX5) (T := TX5) (N := 16) hx hb hts (by decide +kernel) hown hK hP 0 rfl rfl 12 (by decide) (hts (.fieldLink RX5 174 "DanceHallModel" "place" "I") (by decide +kernel)) (fun _ h9 => h9) rfl dX5_readsTokens_25 ?_
    refine lv_iload_n hx hb dX5_readsTokens_28 rfl (lv_at hl 1 rfl) ?_
    refine lv_iconst (v := nI 2) hx hb dX5_readsTokens_29 (by decide) ?_
    refine lv_iadd hx hb dX5_readsTokens_30 ?_
    refine kv_i (y := nI (T.2.2.2.2.2.2.2.2.2.2.2.1 + 2)) (nI_add T.2.2.2.2.2.2.2.2.2.2.2.1 2) ?_
    refine lv_icmp_ge (tgt := 60) hx hb dX5_readsTokens_31 (by decide) (fun c_31 => False.elim ?_) (fun c_31 => ?_)
    · skip
      have c_31 : (T.2.2.2.2.2.2.2.2.2.2.2.1 + 2) ≤ (T.2.2.2.2.2.2.2.2.2.2.2.1 + 1) := (nI_leI (a := T.2.2.2.2.2.2.2.2.2.2.2.1 + 2) (b := T.2.2.2.2.2.2.2.2.2.2.2.1 + 1) (by omega) (by omega)).mp c_31
      omega
    · skip
      have c_31 : ¬ ((T.2.2.2.2.2.2.2.2.2.2.2.1 + 2) ≤ (T.2.2.2.2.2.2.2.2.2.2.2.1 + 1)) := fun h => c_31 ((nI_leI (a := T.2.2.2.2.2.2.2.2.2.2.2.1 + 2) (b := T.2.2.2.2.2.2.2.2.2.2.2.1 + 1) (by omega) (by omega)).mpr h)
      refine lv_bipush (v := nI 10) hx hb dX5_readsTokens_34 (by decide) ?_
      refine lv_iload_n hx hb dX5_readsTokens_36 rfl (lv_at hl 0 rfl) ?_
      refine lv_imul hx hb dX5_readsTokens_37 ?_
      refine kv_i (y := nI (10 * (kb9 T.2.2.2.2.2.2.2.2.2.1 T.2.2.2.2.2.2.2.2.2.2.2.1 - 48))) (pk_mul 10 (kb9 T.2.2.2.2.2.2.2.2.2.1 T.2.2.2.2.2.2.2.2.2.2.2.1 - 48)) ?_
      refine lv_aload_n hx hb dX5_readsTokens_38 rfl (lv_at hl 2 rfl) ?_
      refine kc_i (Cs := [mW cy ra (al, (T.1, T.2.1, T.2.2.1, T.2.2.2.1, T.2.2.2.2.1, T.2.2.2.2.2.1, T.2.2.2.2.2.2.1, T.2.2.2.2.2.2.2.1, T.2.2.2.2.2.2.2.2.1, T.2.2.2.2.2.2.2.2.2.1, T.2.2.2.2.2.2.2.2.2.2.1, T.2.2.2.2.2.2.2.2.2.2.2.1 + 1, T.2.2.2.2.2.2.2.2.2.2.2.2))]) (Rs := []) (Bs := [mW cy ra (al, (T.1, T.2.1, T.2.2.1, T.2.2.2.1, T.2.2.2.2.1, T.2.2.2.2.2.1, T.2.2.2.2.2.2.1, T.2.2.2.2.2.2.2.1, T.2.2.2.2.2.2.2.2.1, T.2.2.2.2.2.2.2.2.2.1, T.2.2.2.2.2.2.2.2.2.2.1, T.2.2.2.2.2.2.2.2.2.2.2.1 + 1, T.2.2.2.2.2.2.2.2.2.2.2.2))]) (Cs' := fun u_ : Unit => [mW cy ra (al, (T.1, T.2.1, T.2.2.1, T.2.2.2.1, T.2.2.2.2.1, T.2.2.2.2.2.1, T.2.2.2.2.2.2.1, T.2.2.2.2.2.2.2.1, T.2.2.2.2.2.2.2.2.1, T.2.2.2.2.2.2.2.2.2.1, T.2.2.2.2.2.2.2.2.2.2.1, T.2.2.2.2.2.2.2.2.2.2.2.1 + 1, T.2.2.2.2.2.2.2.2.2.2.2.2))]) (Fs := fun u_ : Unit => [mW cy ra (al, (T.1, T.2.1, T.2.2.1, T.2.2.2.1, T.2.2.2.2.1, T.2.2.2.2.2.1, T.2.2.2.2.2.2.1, T.2.2.2.2.2.2.2.1, T.2.2.2.2.2.2.2.2.1, T.2.2.2.2.2.2.2.2.2.1, T.2.2.2.2.2.2.2.2.2.2.1, T.2.2.2.2.2.2.2.2.2.2.2.1 + 1, T.2.2.2.2.2.2.2.2.2.2.2.2))]) hP hD hS hA [0] [] [0] rfl rfl (by decide) (by decide) (fun _ => rfl) (va_runV (As := []) (rest := [.int (nI (10 * (kb9 T.2.2.2.2.2.2.2.2.2.1 T.2.2.2.2.2.2.2.2.2.2.2.1 - 48)))]) ⟨hx, hb, hml, hown, hts⟩ (c_X5_here l D cy ra al (T.1, T.2.1, T.2.2.1, T.2.2.2.1, T.2.2.2.2.1, T.2.2.2.2.2.1, T.2.2.2.2.2.2.1, T.2.2.2.2.2.2.2.1, T.2.2.2.2.2.2.2.2.1, T.2.2.2.2.2.2.2.2.2.1, T.2.2.2.2.2.2.2.2.2.2.1, T.2.2.2.2.2.2.2.2.2.2.2.1 + 1, T.2.2.2.2.2.2.2.2.2.2.2.2) (by (try dsimp only); first | assumption | omega | decide) (by (try dsimp only); first | assumption | omega | decide) H.size) (cwV 0 hts gX5_readsTokens_X5_here rfl rfl rfl (by decide +kernel) ⟨Nat.le_of_ble_eq_true rfl, Nat.le_of_ble_eq_true rfl⟩) (kPre_V (ci := 5) hK hN hP hD [0] (by decide) rfl 0 rfl rfl) rfl rfl hl.1 rfl (lv_room (Nat.le_of_ble_eq_true rfl)) dX5_readsTokens_39 ⟨Nat.le_of_ble_eq_true rfl, Nat.le_of_ble_eq_true rfl⟩) (fun r_ u_ H locs hw hP hD hS => ?_)
      have hw : r_ = kHr T.2.2.2.2.2.2.2.2.2.1 T.2.2.2.2.2.2.2.2.2.2.1 (T.2.2.2.2.2.2.2.2.2.2.2.1 + 1) := hw
      subst hw
      refine kv_i (y := nI (kb9 T.2.2.2.2.2.2.2.2.2.1 (T.2.2.2.2.2.2.2.2.2.2.2.1 + 1))) (kHr_b hby htl hk2.1) ?_
      refine lv_iadd hx hb dX5_readsTokens_42 ?_
      refine kv_i (y := nI ((10 * (kb9 T.2.2.2.2.2.2.2.2.2.1 T.2.2.2.2.2.2.2.2.2.2.2.1 - 48)) + (kb9 T.2.2.2.2.2.2.2.2.2.1 (T.2.2.2.2.2.2.2.2.2.2.2.1 + 1)))) (nI_add (10 * (kb9 T.2.2.2.2.2.2.2.2.2.1 T.2.2.2.2.2.2.2.2.2.2.2.1 - 48)) (kb9 T.2.2.2.2.2.2.2.2.2.1 (T.2.2.2.2.2.2.2.2.2.2.2.1 + 1))) ?_
      refine lv_bipush (v := nI 48) hx hb dX5_readsTokens_43 (by decide) ?_
      refine lv_isub hx hb dX5_readsTokens_45 ?_
      refine kv_i (y := nI (10 * (kb9 T.2.2.2.2.2.2.2.2.2.1 T.2.2.2.2.2.2.2.2.2.2.2.1 - 48) + (kb9 T.2.2.2.2.2.2.2.2.2.1 (T.2.2.2.2.2.2.2.2.2.2.2.1 + 1) - 48))) (by have h8 := hk2.2.1; rw [pk_sub (by omega)]; exact congrArg nI (by omega)) ?_
      refine lv_istore_n (lv' := [(2, .int (nI (10 * (kb9 T.2.2.2.2.2.2.2.2.2.1 T.2.2.2.2.2.2.2.2.2.2.2.1 - 48) + (kb9 T.2.2.2.2.2.2.2.2.2.1 (T.2.2.2.2.2.2.2.2.2.2.2.1 + 1) - 48)))), (1, .int (nI T.2.2.2.2.2.2.2.2.2.2.2.1)), (0, .ref (ra 0))]) hx hb dX5_readsTokens_46 rfl hl (by decide) rfl (fun ls hl => ?_)
      refine lv_aload_n hx hb dX5_readsTokens_47 rfl (lv_at hl 2 rfl) ?_
      refine lv_dup hx hb dX5_readsTokens_48 rfl ?_
      refine va_get (D := D) (ci := 5) (v := .int (nI (T.2.2.2.2.2.2.2.2.2.2.2.1 + 1))) (C := RX5) (T := TX5) (N := 16) hx hb hts (by decide +kernel) hown hK hP 0 rfl rfl 12 (by decide) (hts (.fieldLink RX5 174 "DanceHallModel" "place" "I") (by decide +kernel)) (fun _ h9 => h9) rfl dX5_readsTokens_49 ?_
      refine lv_iconst (v := nI 1) hx hb dX5_readsTokens_52 (by decide) ?_
      refine lv_iadd hx hb dX5_readsTokens_53 ?_
      refine kv_i (y := nI ((T.2.2.2.2.2.2.2.2.2.2.2.1 + 1) + 1)) (nI_add (T.2.2.2.2.2.2.2.2.2.2.2.1 + 1) 1) ?_
      refine va_put (D := D) (ci := 5) (v := .int (nI ((T.2.2.2.2.2.2.2.2.2.2.2.1 + 1) + 1))) (ty := .int) (C := RX5) (T := TX5) (N := 16) hx hb hts (by decide +kernel) tyX5 tyX5_ok nmX5 hown hK hP hD hS 0 rfl rfl 12 (by decide) (hts (.fieldLink RX5 174 "DanceHallModel" "place" "I") (by decide +kernel)) (fun _ h9 => h9) rfl (by decide +kernel) rfl rfl (Nat.le_of_ble_eq_true rfl) dX5_readsTokens_54 (fun H locs hP hD hS => ?_)
      have hP : va_P D vwCl (bkF [mW cy ra (al, (T.1, T.2.1, T.2.2.1, T.2.2.2.1, T.2.2.2.2.1, T.2.2.2.2.2.1, T.2.2.2.2.2.2.1, T.2.2.2.2.2.2.2.1, T.2.2.2.2.2.2.2.2.1, T.2.2.2.2.2.2.2.2.2.1, T.2.2.2.2.2.2.2.2.2.2.1, (T.2.2.2.2.2.2.2.2.2.2.2.1 + 1) + 1, T.2.2.2.2.2.2.2.2.2.2.2.2))]) H := hP
      have hD : va_D A (bkF [mW cy ra (al, (T.1, T.2.1, T.2.2.1, T.2.2.2.1, T.2.2.2.2.1, T.2.2.2.2.2.1, T.2.2.2.2.2.2.1, T.2.2.2.2.2.2.2.1, T.2.2.2.2.2.2.2.2.1, T.2.2.2.2.2.2.2.2.2.1, T.2.2.2.2.2.2.2.2.2.2.1, (T.2.2.2.2.2.2.2.2.2.2.2.1 + 1) + 1, T.2.2.2.2.2.2.2.2.2.2.2.2))]) := hD
      refine lv_goto (tgt := 7) hx hb dX5_readsTokens_57 (by decide) ?_
      refine lv_aload_n hx hb dX5_readsTokens_7 rfl (lv_at hl 2 rfl) ?_
      refine kc_i (Cs := [mW cy ra (al, (T.1, T.2.1, T.2.2.1, T.2.2.2.1, T.2.2.2.2.1, T.2.2.2.2.2.1, T.2.2.2.2.2.2.1, T.2.2.2.2.2.2.2.1, T.2.2.2.2.2.2.2.2.1, T.2.2.2.2.2.2.2.2.2.1, T.2.2.2.2.2.2.2.2.2.2.1, (T.2.2.2.2.2.2.2.2.2.2.2.1 + 1) + 1, T.2.2.2.2.2.2.2.2.2.2.2.2))]) (Rs := []) (Bs := [mW cy ra (al, (T.1, T.2.1, T.2.2.1, T.2.2.2.1, T.2.2.2.2.1, T.2.2.2.2.2.1, T.2.2.2.2.2.2.1, T.2.2.2.2.2.2.2.1, T.2.2.2.2.2.2.2.2.1, T.2.2.2.2.2.2.2.2.2.1, T.2.2.2.2.2.2.2.2.2.2.1, (T.2.2.2.2.2.2.2.2.2.2.2.1 + 1) + 1, T.2.2.2.2.2.2.2.2.2.2.2.2))]) (Cs' := fun u_ : Unit => [mW cy ra (al, (T.1, T.2.1, T.2.2.1, T.2.2.2.1, T.2.2.2.2.1, T.2.2.2.2.2.1, T.2.2.2.2.2.2.1, T.2.2.2.2.2.2.2.1, T.2.2.2.2.2.2.2.2.1, T.2.2.2.2.2.2.2.2.2.1, T.2.2.2.2.2.2.2.2.2.2.1, (T.2.2.2.2.2.2.2.2.2.2.2.1 + 1) + 1, T.2.2.2.2.2.2.2.2.2.2.2.2))]) (Fs := fun u_ : Unit => [mW cy ra (al, (T.1, T.2.1, T.2.2.1, T.2.2.2.1, T.2.2.2.2.1, T.2.2.2.2.2.1, T.2.2.2.2.2.2.1, T.2.2.2.2.2.2.2.1, T.2.2.2.2.2.2.2.2.1, T.2.2.2.2.2.2.2.2.2.1, T.2.2.2.2.2.2.2.2.2.2.1, (T.2.2.2.2.2.2.2.2.2.2.2.1 + 1) + 1, T.2.2.2.2.2.2.2.2.2.2.2.2))]) hP hD hS hA [0] [] [0] rfl rfl (by decide) (by decide) (fun _ => rfl) (va_runV (As := []) (rest := []) ⟨hx, hb, hml, hown, hts⟩ (c_X5_here l D cy ra al (T.1, T.2.1, T.2.2.1, T.2.2.2.1, T.2.2.2.2.1, T.2.2.2.2.2.1, T.2.2.2.2.2.2.1, T.2.2.2.2.2.2.2.1, T.2.2.2.2.2.2.2.2.1, T.2.2.2.2.2.2.2.2.2.1, T.2.2.2.2.2.2.2.2.2.2.1, (T.2.2.2.2.2.2.2.2.2.2.2.1 + 1) + 1, T.2.2.2.2.2.2.2.2.2.2.2.2) htl (by (try dsimp only); first | assumption | omega | decide) H.size) (cwV 0 hts gX5_readsTokens_X5_here rfl rfl rfl (by decide +kernel) ⟨Nat.le_of_ble_eq_true rfl, Nat.le_of_ble_eq_true rfl⟩) (kPre_V (ci := 5) hK hN hP hD [0] (by decide) rfl 0 rfl rfl) rfl rfl hl.1 rfl (lv_room (Nat.le_of_ble_eq_true rfl)) dX5_readsTokens_8 ⟨Nat.le_of_ble_eq_true rfl, Nat.le_of_ble_eq_true rfl⟩) (fun r_ u_ H locs hw hP hD hS => ?_)
      have hw : r_ = kHr T.2.2.2.2.2.2.2.2.2.1 T.2.2.2.2.2.2.2.2.2.2.1 ((T.2.2.2.2.2.2.2.2.2.2.2.1 + 1) + 1) := hw
      subst hw
      refine lv_i2l (v := (kHr T.2.2.2.2.2.2.2.2.2.1 T.2.2.2.2.2.2.2.2.2.2.1 ((T.2.2.2.2.2.2.2.2.2.2.2.1 + 1) + 1)).toInt64) hx hb dX5_readsTokens_11 rfl ?_
      refine lv_ldc2 hx hb hown (hts (.constantLong RX5 180 (48)) (by decide +kernel)) dX5_readsTokens_12 ?_
      refine lv_ldc2 hx hb hown (hts (.constantLong RX5 182 (57)) (by decide +kernel)) dX5_readsTokens_15 ?_
      refine kc_i (Cs := []) (Rs := [mW cy ra (al, (T.1, T.2.1, T.2.2.1, T.2.2.2.1, T.2.2.2.2.1, T.2.2.2.2.2.1, T.2.2.2.2.2.2.1, T.2.2.2.2.2.2.2.1, T.2.2.2.2.2.2.2.2.1, T.2.2.2.2.2.2.2.2.2.1, T.2.2.2.2.2.2.2.2.2.2.1, (T.2.2.2.2.2.2.2.2.2.2.2.1 + 1) + 1, T.2.2.2.2.2.2.2.2.2.2.2.2))]) (Bs := [mW cy ra (al, (T.1, T.2.1, T.2.2.1, T.2.2.2.1, T.2.2.2.2.1, T.2.2.2.2.2.1, T.2.2.2.2.2.2.1, T.2.2.2.2.2.2.2.1, T.2.2.2.2.2.2.2.2.1, T.2.2.2.2.2.2.2.2.2.1, T.2.2.2.2.2.2.2.2.2.2.1, (T.2.2.2.2.2.2.2.2.2.2.2.1 + 1) + 1, T.2.2.2.2.2.2.2.2.2.2.2.2))]) (Cs' := fun u_ : Unit => []) (Fs := fun u_ : Unit => [mW cy ra (al, (T.1, T.2.1, T.2.2.1, T.2.2.2.1, T.2.2.2.2.1, T.2.2.2.2.2.1, T.2.2.2.2.2.2.1, T.2.2.2.2.2.2.2.1, T.2.2.2.2.2.2.2.2.1, T.2.2.2.2.2.2.2.2.2.1, T.2.2.2.2.2.2.2.2.2.2.1, (T.2.2.2.2.2.2.2.2.2.2.2.1 + 1) + 1, T.2.2.2.2.2.2.2.2.2.2.2.2))]) hP hD hS hA [] [0] [0] rfl rfl (by decide) (by decide) (fun _ => rfl) (va_runS (As := [.long ((kHr T.2.2.2.2.2.2.2.2.2.1 T.2.2.2.2.2.2.2.2.2.2.1 ((T.2.2.2.2.2.2.2.2.2.2.2.1 + 1) + 1)).toInt64), .long (48), .long (57)]) (rest := []) ⟨hx, hb, hml, hown, hts⟩ (c_X5_in l D cy ((kHr T.2.2.2.2.2.2.2.2.2.1 T.2.2.2.2.2.2.2.2.2.2.1 ((T.2.2.2.2.2.2.2.2.2.2.2.1 + 1) + 1)).toInt64) (48) (57) H.size) (va_cwS 3 hts gX5_readsTokens_X5_in rfl rfl rfl (by decide +kernel) ⟨Nat.le_of_ble_eq_true rfl, Nat.le_of_ble_eq_true rfl⟩) (kPre_S hK hN hP hD [] (by decide) rfl) rfl rfl hl.1 rfl (lv_room (Nat.le_of_ble_eq_true rfl)) dX5_readsTokens_18 ⟨Nat.le_of_ble_eq_true rfl, Nat.le_of_ble_eq_true rfl⟩) (fun r_ u_ H locs hw hP hD hS => ?_)
      have hw : r_ = if kIn ((kHr T.2.2.2.2.2.2.2.2.2.1 T.2.2.2.2.2.2.2.2.2.2.1 ((T.2.2.2.2.2.2.2.2.2.2.2.1 + 1) + 1)).toInt64) (48) (57) then nI 1 else nI 0 := hw
      subst hw
      by_cases b_18 : kIn ((kHr T.2.2.2.2.2.2.2.2.2.1 T.2.2.2.2.2.2.2.2.2.2.1 ((T.2.2.2.2.2.2.2.2.2.2.2.1 + 1) + 1)).toInt64) (48) (57)
      · refine kv_i (y := nI 1) (if_pos b_18) ?_
        refine lv_if_eq (tgt := 60) hx hb dX5_readsTokens_21 (by decide) (fun h => absurd h (by decide)) (fun _ => ?_)
        refine lv_aload_n hx hb dX5_readsTokens_24 rfl (lv_at hl 2 rfl) ?_
        refine va_get (D := D) (ci := 5) (v := .int (nI ((T.2.2.2.2.2.2.2.2.2.2.2.1 + 1) + 1))) (C := RX5) (T := TX5) (N := 16) hx hb hts (by decide +kernel) hown hK hP 0 rfl rfl 12 (by decide) (hts (.fieldLink RX5 174 "DanceHallModel" "place" "I") (by decide +kernel)) (fun _ h9 => h9) rfl dX5_readsTokens_25 ?_
        refine lv_iload_n hx hb dX5_readsTokens_28 rfl (lv_at hl 1 rfl) ?_
        refine lv_iconst (v := nI 2) hx hb dX5_readsTokens_29 (by decide) ?_
        refine lv_iadd hx hb dX5_readsTokens_30 ?_
        refine kv_i (y := nI (T.2.2.2.2.2.2.2.2.2.2.2.1 + 2)) (nI_add T.2.2.2.2.2.2.2.2.2.2.2.1 2) ?_
        refine lv_icmp_ge (tgt := 60) hx hb dX5_readsTokens_31 (by decide) (fun c_31 => ?_) (fun c_31 => False.elim ?_)
        · skip
          have c_31 : (T.2.2.2.2.2.2.2.2.2.2.2.1 + 2) ≤ ((T.2.2.2.2.2.2.2.2.2.2.2.1 + 1) + 1) := (nI_leI (a := T.2.2.2.2.2.2.2.2.2.2.2.1 + 2) (b := (T.2.2.2.2.2.2.2.2.2.2.2.1 + 1) + 1) (by omega) (by omega)).mp c_31
          refine lv_aload_n hx hb dX5_readsTokens_60 rfl (lv_at hl 2 rfl) ?_
          refine va_get (D := D) (ci := 5) (v := .ref (ra 10)) (C := RX5) (T := TX5) (N := 16) hx hb hts (by decide +kernel) hown hK hP 0 rfl rfl 13 (by decide) (hts (.fieldLink RX5 38 "DanceHallModel" "read" "[I") (by decide +kernel)) (fun _ h9 => h9) rfl dX5_readsTokens_61 ?_
          refine lv_iconst (v := nI 4) hx hb dX5_readsTokens_64 (by decide) ?_
          refine lv_aload_n hx hb dX5_readsTokens_65 rfl (lv_at hl 2 rfl) ?_
          refine va_get (D := D) (ci := 5) (v := .int (nI T.2.2.2.2.2.2.2.2.2.2.2.2.2.1)) (C := RX5) (T := TX5) (N := 16) hx hb hts (by decide +kernel) hown hK hP 0 rfl rfl 14 (by decide) (hts (.fieldLink RX5 184 "DanceHallModel" "guests" "I") (by decide +kernel)) (fun _ h9 => h9) rfl dX5_readsTokens_66 ?_
          refine lv_imul hx hb dX5_readsTokens_69 ?_
          refine kv_i (y := nI (4 * T.2.2.2.2.2.2.2.2.2.2.2.2.2.1)) (pk_mul 4 T.2.2.2.2.2.2.2.2.2.2.2.2.2.1) ?_
          refine lv_iconst (v := nI 1) hx hb dX5_readsTokens_70 (by decide) ?_
          refine lv_iadd hx hb dX5_readsTokens_71 ?_
          refine kv_i (y := nI ((4 * T.2.2.2.2.2.2.2.2.2.2.2.2.2.1) + 1)) (nI_add (4 * T.2.2.2.2.2.2.2.2.2.2.2.2.2.1) 1) ?_
          refine lv_iload_n hx hb dX5_readsTokens_72 rfl (lv_at hl 0 rfl) ?_
          refine va_iast hx hb hK hP hD hS 10 0 rfl rfl (vp_in_nI (n := (4 * T.2.2.2.2.2.2.2.2.2.2.2.2.2.1) + 1) (N := 64) (by omega) (by omega)) dX5_readsTokens_73 (fun H locs hP hD hS => ?_)
          rw [nI_clamp (n := (4 * T.2.2.2.2.2.2.2.2.2.2.2.2.2.1) + 1) (by omega)] at hP hD
          have hP : va_P D vwCl (bkF [mW cy ra (al, (T.1, T.2.1, T.2.2.1, T.2.2.2.1, T.2.2.2.2.1, T.2.2.2.2.2.1, T.2.2.2.2.2.2.1, T.2.2.2.2.2.2.2.1, T.2.2.2.2.2.2.2.2.1, T.2.2.2.2.2.2.2.2.2.1, T.2.2.2.2.2.2.2.2.2.2.1, (T.2.2.2.2.2.2.2.2.2.2.2.1 + 1) + 1, upd T.2.2.2.2.2.2.2.2.2.2.2.2.1 ((4 * T.2.2.2.2.2.2.2.2.2.2.2.2.2.1) + 1) (nI (10 * (kb9 T.2.2.2.2.2.2.2.2.2.1 T.2.2.2.2.2.2.2.2.2.2.2.1 - 48) + (kb9 T.2.2.2.2.2.2.2.2.2.1 (T.2.2.2.2.2.2.2.2.2.2.2.1 + 1) - 48))), T.2.2.2.2.2.2.2.2.2.2.2.2.2))]) H := hP
          have hD : va_D A (bkF [mW cy ra (al, (T.1, T.2.1, T.2.2.1, T.2.2.2.1, T.2.2.2.2.1, T.2.2.2.2.2.1, T.2.2.2.2.2.2.1, T.2.2.2.2.2.2.2.1, T.2.2.2.2.2.2.2.2.1, T.2.2.2.2.2.2.2.2.2.1, T.2.2.2.2.2.2.2.2.2.2.1, (T.2.2.2.2.2.2.2.2.2.2.2.1 + 1) + 1, upd T.2.2.2.2.2.2.2.2.2.2.2.2.1 ((4 * T.2.2.2.2.2.2.2.2.2.2.2.2.2.1) + 1) (nI (10 * (kb9 T.2.2.2.2.2.2.2.2.2.1 T.2.2.2.2.2.2.2.2.2.2.2.1 - 48) + (kb9 T.2.2.2.2.2.2.2.2.2.1 (T.2.2.2.2.2.2.2.2.2.2.2.1 + 1) - 48))), T.2.2.2.2.2.2.2.2.2.2.2.2.2))]) := hD
          refine lv_aload_n hx hb dX5_readsTokens_74 rfl (lv_at hl 2 rfl) ?_
          refine va_get (D := D) (ci := 5) (v := .int (nI ((T.2.2.2.2.2.2.2.2.2.2.2.1 + 1) + 1))) (C := RX5) (T := TX5) (N := 16) hx hb hts (by decide +kernel) hown hK hP 0 rfl rfl 12 (by decide) (hts (.fieldLink RX5 174 "DanceHallModel" "place" "I") (by decide +kernel)) (fun _ h9 => h9) rfl dX5_readsTokens_75 ?_
          refine lv_iload_n hx hb dX5_readsTokens_78 rfl (lv_at hl 1 rfl) ?_
          refine lv_icmp_le (tgt := 95) hx hb dX5_readsTokens_79 (by decide) (fun c_79 => False.elim ?_) (fun c_79 => ?_)
          · skip
            have c_79 : ((T.2.2.2.2.2.2.2.2.2.2.2.1 + 1) + 1) ≤ T.2.2.2.2.2.2.2.2.2.2.2.1 := (nI_leI (a := (T.2.2.2.2.2.2.2.2.2.2.2.1 + 1) + 1) (b := T.2.2.2.2.2.2.2.2.2.2.2.1) (by omega) (by omega)).mp c_79
            omega
          · skip
            have c_79 : ¬ (((T.2.2.2.2.2.2.2.2.2.2.2.1 + 1) + 1) ≤ T.2.2.2.2.2.2.2.2.2.2.2.1) := fun h => c_79 ((nI_leI (a := (T.2.2.2.2.2.2.2.2.2.2.2.1 + 1) + 1) (b := T.2.2.2.2.2.2.2.2.2.2.2.1) (by omega) (by omega)).mpr h)
            refine lv_aload_n hx hb dX5_readsTokens_82 rfl (lv_at hl 2 rfl) ?_
            refine lv_bipush (v := nI 44) hx hb dX5_readsTokens_83 (by decide) ?_
            refine kc_i (Cs := [mW cy ra (al, (T.1, T.2.1, T.2.2.1, T.2.2.2.1, T.2.2.2.2.1, T.2.2.2.2.2.1, T.2.2.2.2.2.2.1, T.2.2.2.2.2.2.2.1, T.2.2.2.2.2.2.2.2.1, T.2.2.2.2.2.2.2.2.2.1, T.2.2.2.2.2.2.2.2.2.2.1, (T.2.2.2.2.2.2.2.2.2.2.2.1 + 1) + 1, upd T.2.2.2.2.2.2.2.2.2.2.2.2.1 ((4 * T.2.2.2.2.2.2.2.2.2.2.2.2.2.1) + 1) (nI (10 * (kb9 T.2.2.2.2.2.2.2.2.2.1 T.2.2.2.2.2.2.2.2.2.2.2.1 - 48) + (kb9 T.2.2.2.2.2.2.2.2.2.1 (T.2.2.2.2.2.2.2.2.2.2.2.1 + 1) - 48))), T.2.2.2.2.2.2.2.2.2.2.2.2.2))]) (Rs := []) (Bs := [mW cy ra (al, (T.1, T.2.1, T.2.2.1, T.2.2.2.1, T.2.2.2.2.1, T.2.2.2.2.2.1, T.2.2.2.2.2.2.1, T.2.2.2.2.2.2.2.1, T.2.2.2.2.2.2.2.2.1, T.2.2.2.2.2.2.2.2.2.1, T.2.2.2.2.2.2.2.2.2.2.1, (T.2.2.2.2.2.2.2.2.2.2.2.1 + 1) + 1, upd T.2.2.2.2.2.2.2.2.2.2.2.2.1 ((4 * T.2.2.2.2.2.2.2.2.2.2.2.2.2.1) + 1) (nI (10 * (kb9 T.2.2.2.2.2.2.2.2.2.1 T.2.2.2.2.2.2.2.2.2.2.2.1 - 48) + (kb9 T.2.2.2.2.2.2.2.2.2.1 (T.2.2.2.2.2.2.2.2.2.2.2.1 + 1) - 48))), T.2.2.2.2.2.2.2.2.2.2.2.2.2))]) (Cs' := fun u_ : Unit => [mW cy ra (al, (T.1, T.2.1, T.2.2.1, T.2.2.2.1, T.2.2.2.2.1, T.2.2.2.2.2.1, T.2.2.2.2.2.2.1, T.2.2.2.2.2.2.2.1, T.2.2.2.2.2.2.2.2.1, T.2.2.2.2.2.2.2.2.2.1, T.2.2.2.2.2.2.2.2.2.2.1, ((T.2.2.2.2.2.2.2.2.2.2.2.1 + 1) + 1) + 1, (upd T.2.2.2.2.2.2.2.2.2.2.2.2.1 ((4 * T.2.2.2.2.2.2.2.2.2.2.2.2.2.1) + 1) (nI (10 * (kb9 T.2.2.2.2.2.2.2.2.2.1 T.2.2.2.2.2.2.2.2.2.2.2.1 - 48) + (kb9 T.2.2.2.2.2.2.2.2.2.1 (T.2.2.2.2.2.2.2.2.2.2.2.1 + 1) - 48)))), T.2.2.2.2.2.2.2.2.2.2.2.2.2))]) (Fs := fun u_ : Unit => [mW cy ra (al, (T.1, T.2.1, T.2.2.1, T.2.2.2.1, T.2.2.2.2.1, T.2.2.2.2.2.1, T.2.2.2.2.2.2.1, T.2.2.2.2.2.2.2.1, T.2.2.2.2.2.2.2.2.1, T.2.2.2.2.2.2.2.2.2.1, T.2.2.2.2.2.2.2.2.2.2.1, ((T.2.2.2.2.2.2.2.2.2.2.2.1 + 1) + 1) + 1, (upd T.2.2.2.2.2.2.2.2.2.2.2.2.1 ((4 * T.2.2.2.2.2.2.2.2.2.2.2.2.2.1) + 1) (nI (10 * (kb9 T.2.2.2.2.2.2.2.2.2.1 T.2.2.2.2.2.2.2.2.2.2.2.1 - 48) + (kb9 T.2.2.2.2.2.2.2.2.2.1 (T.2.2.2.2.2.2.2.2.2.2.2.1 + 1) - 48)))), T.2.2.2.2.2.2.2.2.2.2.2.2.2))]) hP hD hS hA [0] [] [0] rfl rfl (by decide) (by decide) (fun _ => rfl) (va_runV (As := [.int (nI 44)]) (rest := []) ⟨hx, hb, hml, hown, hts⟩ (c_X5_passes_y l D cy ra al (T.1, T.2.1, T.2.2.1, T.2.2.2.1, T.2.2.2.2.1, T.2.2.2.2.2.1, T.2.2.2.2.2.2.1, T.2.2.2.2.2.2.2.1, T.2.2.2.2.2.2.2.2.1, T.2.2.2.2.2.2.2.2.2.1, T.2.2.2.2.2.2.2.2.2.2.1, (T.2.2.2.2.2.2.2.2.2.2.2.1 + 1) + 1, upd T.2.2.2.2.2.2.2.2.2.2.2.2.1 ((4 * T.2.2.2.2.2.2.2.2.2.2.2.2.2.1) + 1) (nI (10 * (kb9 T.2.2.2.2.2.2.2.2.2.1 T.2.2.2.2.2.2.2.2.2.2.2.1 - 48) + (kb9 T.2.2.2.2.2.2.2.2.2.1 (T.2.2.2.2.2.2.2.2.2.2.2.1 + 1) - 48))), T.2.2.2.2.2.2.2.2.2.2.2.2.2) 44 (by (try dsimp only); first | assumption | omega | decide) (by (try dsimp only); first | assumption | omega | decide) (by (try dsimp only); first | assumption | omega | decide) hk3 H.size) (cwV 1 hts gX5_readsTokens_X5_passes rfl rfl rfl (by decide +kernel) ⟨Nat.le_of_ble_eq_true rfl, Nat.le_of_ble_eq_true rfl⟩) (kPre_V (ci := 5) hK hN hP hD [0] (by decide) rfl 0 rfl rfl) rfl rfl hl.1 rfl (lv_room (Nat.le_of_ble_eq_true rfl)) dX5_readsTokens_85 ⟨Nat.le_of_ble_eq_true rfl, Nat.le_of_ble_eq_true rfl⟩) (fun r_ u_ H locs hw hP hD hS => ?_)
            have hw : r_ = nI 1 := hw
            subst hw
            refine lv_if_eq (tgt := 95) hx hb dX5_readsTokens_88 (by decide) (fun h => absurd h (by decide)) (fun _ => ?_)
            refine lv_iconst (v := nI 1) hx hb dX5_readsTokens_91 (by decide) ?_
            refine lv_goto (tgt := 96) hx hb dX5_readsTokens_92 (by decide) ?_
            exact kr_i (post := fun r_ (u_ : Unit) => r_ = nI 1) (Bs := fun u_ : Unit => [mW cy ra (al, (T.1, T.2.1, T.2.2.1, T.2.2.2.1, T.2.2.2.2.1, T.2.2.2.2.2.1, T.2.2.2.2.2.2.1, T.2.2.2.2.2.2.2.1, T.2.2.2.2.2.2.2.2.1, T.2.2.2.2.2.2.2.2.2.1, T.2.2.2.2.2.2.2.2.2.2.1, T.2.2.2.2.2.2.2.2.2.2.2.1 + 1 + 1 + 1, upd T.2.2.2.2.2.2.2.2.2.2.2.2.1 (4 * T.2.2.2.2.2.2.2.2.2.2.2.2.2.1 + 1) (nI (10 * (kb9 T.2.2.2.2.2.2.2.2.2.1 T.2.2.2.2.2.2.2.2.2.2.2.1 - 48) + (kb9 T.2.2.2.2.2.2.2.2.2.1 (T.2.2.2.2.2.2.2.2.2.2.2.1 + 1) - 48))), T.2.2.2.2.2.2.2.2.2.2.2.2.2))]) hx hb hr hlocks rfl () hP hK hD hS rfl dX5_readsTokens_96 hQ
        · skip
          have c_31 : ¬ ((T.2.2.2.2.2.2.2.2.2.2.2.1 + 2) ≤ ((T.2.2.2.2.2.2.2.2.2.2.2.1 + 1) + 1)) := fun h => c_31 ((nI_leI (a := T.2.2.2.2.2.2.2.2.2.2.2.1 + 2) (b := (T.2.2.2.2.2.2.2.2.2.2.2.1 + 1) + 1) (by omega) (by omega)).mpr h)
          omega
      · refine kv_i (y := nI 0) (if_neg b_18) ?_
        refine lv_if_eq (tgt := 60) hx hb dX5_readsTokens_21 (by decide) (fun _ => ?_) (fun h => absurd h (by decide))
        refine lv_aload_n hx hb dX5_readsTokens_60 rfl (lv_at hl 2 rfl) ?_
        refine va_get (D := D) (ci := 5) (v := .ref (ra 10)) (C := RX5) (T := TX5) (N := 16) hx hb hts (by decide +kernel) hown hK hP 0 rfl rfl 13 (by decide) (hts (.fieldLink RX5 38 "DanceHallModel" "read" "[I") (by decide +kernel)) (fun _ h9 => h9) rfl dX5_readsTokens_61 ?_
        refine lv_iconst (v := nI 4) hx hb dX5_readsTokens_64 (by decide) ?_
        refine lv_aload_n hx hb dX5_readsTokens_65 rfl (lv_at hl 2 rfl) ?_
        refine va_get (D := D) (ci := 5) (v := .int (nI T.2.2.2.2.2.2.2.2.2.2.2.2.2.1)) (C := RX5) (T := TX5) (N := 16) hx hb hts (by decide +kernel) hown hK hP 0 rfl rfl 14 (by decide) (hts (.fieldLink RX5 184 "DanceHallModel" "guests" "I") (by decide +kernel)) (fun _ h9 => h9) rfl dX5_readsTokens_66 ?_
        refine lv_imul hx hb dX5_readsTokens_69 ?_
        refine kv_i (y := nI (4 * T.2.2.2.2.2.2.2.2.2.2.2.2.2.1)) (pk_mul 4 T.2.2.2.2.2.2.2.2.2.2.2.2.2.1) ?_
        refine lv_iconst (v := nI 1) hx hb dX5_readsTokens_70 (by decide) ?_
        refine lv_iadd hx hb dX5_readsTokens_71 ?_
        refine kv_i (y := nI ((4 * T.2.2.2.2.2.2.2.2.2.2.2.2.2.1) + 1)) (nI_add (4 * T.2.2.2.2.2.2.2.2.2.2.2.2.2.1) 1) ?_
        refine lv_iload_n hx hb dX5_readsTokens_72 rfl (lv_at hl 0 rfl) ?_
        refine va_iast hx hb hK hP hD hS 10 0 rfl rfl (vp_in_nI (n := (4 * T.2.2.2.2.2.2.2.2.2.2.2.2.2.1) + 1) (N := 64) (by omega) (by omega)) dX5_readsTokens_73 (fun H locs hP hD hS => ?_)
        rw [nI_clamp (n := (4 * T.2.2.2.2.2.2.2.2.2.2.2.2.2.1) + 1) (by omega)] at hP hD
        have hP : va_P D vwCl (bkF [mW cy ra (al, (T.1, T.2.1, T.2.2.1, T.2.2.2.1, T.2.2.2.2.1, T.2.2.2.2.2.1, T.2.2.2.2.2.2.1, T.2.2.2.2.2.2.2.1, T.2.2.2.2.2.2.2.2.1, T.2.2.2.2.2.2.2.2.2.1, T.2.2.2.2.2.2.2.2.2.2.1, (T.2.2.2.2.2.2.2.2.2.2.2.1 + 1) + 1, upd T.2.2.2.2.2.2.2.2.2.2.2.2.1 ((4 * T.2.2.2.2.2.2.2.2.2.2.2.2.2.1) + 1) (nI (10 * (kb9 T.2.2.2.2.2.2.2.2.2.1 T.2.2.2.2.2.2.2.2.2.2.2.1 - 48) + (kb9 T.2.2.2.2.2.2.2.2.2.1 (T.2.2.2.2.2.2.2.2.2.2.2.1 + 1) - 48))), T.2.2.2.2.2.2.2.2.2.2.2.2.2))]) H := hP
        have hD : va_D A (bkF [mW cy ra (al, (T.1, T.2.1, T.2.2.1, T.2.2.2.1, T.2.2.2.2.1, T.2.2.2.2.2.1, T.2.2.2.2.2.2.1, T.2.2.2.2.2.2.2.1, T.2.2.2.2.2.2.2.2.1, T.2.2.2.2.2.2.2.2.2.1, T.2.2.2.2.2.2.2.2.2.2.1, (T.2.2.2.2.2.2.2.2.2.2.2.1 + 1) + 1, upd T.2.2.2.2.2.2.2.2.2.2.2.2.1 ((4 * T.2.2.2.2.2.2.2.2.2.2.2.2.2.1) + 1) (nI (10 * (kb9 T.2.2.2.2.2.2.2.2.2.1 T.2.2.2.2.2.2.2.2.2.2.2.1 - 48) + (kb9 T.2.2.2.2.2.2.2.2.2.1 (T.2.2.2.2.2.2.2.2.2.2.2.1 + 1) - 48))), T.2.2.2.2.2.2.2.2.2.2.2.2.2))]) := hD
        refine lv_aload_n hx hb dX5_readsTokens_74 rfl (lv_at hl 2 rfl) ?_
        refine va_get (D := D) (ci := 5) (v := .int (nI ((T.2.2.2.2.2.2.2.2.2.2.2.1 + 1) + 1))) (C := RX5) (T := TX5) (N := 16) hx hb hts (by decide +kernel) hown hK hP 0 rfl rfl 12 (by decide) (hts (.fieldLink RX5 174 "DanceHallModel" "place" "I") (by decide +kernel)) (fun _ h9 => h9) rfl dX5_readsTokens_75 ?_
        refine lv_iload_n hx hb dX5_readsTokens_78 rfl (lv_at hl 1 rfl) ?_
        refine lv_icmp_le (tgt := 95) hx hb dX5_readsTokens_79 (by decide) (fun c_79 => False.elim ?_) (fun c_79 => ?_)
        · skip
          have c_79 : ((T.2.2.2.2.2.2.2.2.2.2.2.1 + 1) + 1) ≤ T.2.2.2.2.2.2.2.2.2.2.2.1 := (nI_leI (a := (T.2.2.2.2.2.2.2.2.2.2.2.1 + 1) + 1) (b := T.2.2.2.2.2.2.2.2.2.2.2.1) (by omega) (by omega)).mp c_79
          omega
        · skip
          have c_79 : ¬ (((T.2.2.2.2.2.2.2.2.2.2.2.1 + 1) + 1) ≤ T.2.2.2.2.2.2.2.2.2.2.2.1) := fun h => c_79 ((nI_leI (a := (T.2.2.2.2.2.2.2.2.2.2.2.1 + 1) + 1) (b := T.2.2.2.2.2.2.2.2.2.2.2.1) (by omega) (by omega)).mpr h)
          refine lv_aload_n hx hb dX5_readsTokens_82 rfl (lv_at hl 2 rfl) ?_
          refine lv_bipush (v := nI 44) hx hb dX5_readsTokens_83 (by decide) ?_
          refine kc_i (Cs := [mW cy ra (al, (T.1, T.2.1, T.2.2.1, T.2.2.2.1, T.2.2.2.2.1, T.2.2.2.2.2.1, T.2.2.2.2.2.2.1, T.2.2.2.2.2.2.2.1, T.2.2.2.2.2.2.2.2.1, T.2.2.2.2.2.2.2.2.2.1, T.2.2.2.2.2.2.2.2.2.2.1, (T.2.2.2.2.2.2.2.2.2.2.2.1 + 1) + 1, upd T.2.2.2.2.2.2.2.2.2.2.2.2.1 ((4 * T.2.2.2.2.2.2.2.2.2.2.2.2.2.1) + 1) (nI (10 * (kb9 T.2.2.2.2.2.2.2.2.2.1 T.2.2.2.2.2.2.2.2.2.2.2.1 - 48) + (kb9 T.2.2.2.2.2.2.2.2.2.1 (T.2.2.2.2.2.2.2.2.2.2.2.1 + 1) - 48))), T.2.2.2.2.2.2.2.2.2.2.2.2.2))]) (Rs := []) (Bs := [mW cy ra (al, (T.1, T.2.1, T.2.2.1, T.2.2.2.1, T.2.2.2.2.1, T.2.2.2.2.2.1, T.2.2.2.2.2.2.1, T.2.2.2.2.2.2.2.1, T.2.2.2.2.2.2.2.2.1, T.2.2.2.2.2.2.2.2.2.1, T.2.2.2.2.2.2.2.2.2.2.1, (T.2.2.2.2.2.2.2.2.2.2.2.1 + 1) + 1, upd T.2.2.2.2.2.2.2.2.2.2.2.2.1 ((4 * T.2.2.2.2.2.2.2.2.2.2.2.2.2.1) + 1) (nI (10 * (kb9 T.2.2.2.2.2.2.2.2.2.1 T.2.2.2.2.2.2.2.2.2.2.2.1 - 48) + (kb9 T.2.2.2.2.2.2.2.2.2.1 (T.2.2.2.2.2.2.2.2.2.2.2.1 + 1) - 48))), T.2.2.2.2.2.2.2.2.2.2.2.2.2))]) (Cs' := fun u_ : Unit => [mW cy ra (al, (T.1, T.2.1, T.2.2.1, T.2.2.2.1, T.2.2.2.2.1, T.2.2.2.2.2.1, T.2.2.2.2.2.2.1, T.2.2.2.2.2.2.2.1, T.2.2.2.2.2.2.2.2.1, T.2.2.2.2.2.2.2.2.2.1, T.2.2.2.2.2.2.2.2.2.2.1, ((T.2.2.2.2.2.2.2.2.2.2.2.1 + 1) + 1) + 1, (upd T.2.2.2.2.2.2.2.2.2.2.2.2.1 ((4 * T.2.2.2.2.2.2.2.2.2.2.2.2.2.1) + 1) (nI (10 * (kb9 T.2.2.2.2.2.2.2.2.2.1 T.2.2.2.2.2.2.2.2.2.2.2.1 - 48) + (kb9 T.2.2.2.2.2.2.2.2.2.1 (T.2.2.2.2.2.2.2.2.2.2.2.1 + 1) - 48)))), T.2.2.2.2.2.2.2.2.2.2.2.2.2))]) (Fs := fun u_ : Unit => [mW cy ra (al, (T.1, T.2.1, T.2.2.1, T.2.2.2.1, T.2.2.2.2.1, T.2.2.2.2.2.1, T.2.2.2.2.2.2.1, T.2.2.2.2.2.2.2.1, T.2.2.2.2.2.2.2.2.1, T.2.2.2.2.2.2.2.2.2.1, T.2.2.2.2.2.2.2.2.2.2.1, ((T.2.2.2.2.2.2.2.2.2.2.2.1 + 1) + 1) + 1, (upd T.2.2.2.2.2.2.2.2.2.2.2.2.1 ((4 * T.2.2.2.2.2.2.2.2.2.2.2.2.2.1) + 1) (nI (10 * (kb9 T.2.2.2.2.2.2.2.2.2.1 T.2.2.2.2.2.2.2.2.2.2.2.1 - 48) + (kb9 T.2.2.2.2.2.2.2.2.2.1 (T.2.2.2.2.2.2.2.2.2.2.2.1 + 1) - 48)))), T.2.2.2.2.2.2.2.2.2.2.2.2.2))]) hP hD hS hA [0] [] [0] rfl rfl (by decide) (by decide) (fun _ => rfl) (va_runV (As := [.int (nI 44)]) (rest := []) ⟨hx, hb, hml, hown, hts⟩ (c_X5_passes_y l D cy ra al (T.1, T.2.1, T.2.2.1, T.2.2.2.1, T.2.2.2.2.1, T.2.2.2.2.2.1, T.2.2.2.2.2.2.1, T.2.2.2.2.2.2.2.1, T.2.2.2.2.2.2.2.2.1, T.2.2.2.2.2.2.2.2.2.1, T.2.2.2.2.2.2.2.2.2.2.1, (T.2.2.2.2.2.2.2.2.2.2.2.1 + 1) + 1, upd T.2.2.2.2.2.2.2.2.2.2.2.2.1 ((4 * T.2.2.2.2.2.2.2.2.2.2.2.2.2.1) + 1) (nI (10 * (kb9 T.2.2.2.2.2.2.2.2.2.1 T.2.2.2.2.2.2.2.2.2.2.2.1 - 48) + (kb9 T.2.2.2.2.2.2.2.2.2.1 (T.2.2.2.2.2.2.2.2.2.2.2.1 + 1) - 48))), T.2.2.2.2.2.2.2.2.2.2.2.2.2) 44 (by (try dsimp only); first | assumption | omega | decide) (by (try dsimp only); first | assumption | omega | decide) (by (try dsimp only); first | assumption | omega | decide) hk3 H.size) (cwV 1 hts gX5_readsTokens_X5_passes rfl rfl rfl (by decide +kernel) ⟨Nat.le_of_ble_eq_true rfl, Nat.le_of_ble_eq_true rfl⟩) (kPre_V (ci := 5) hK hN hP hD [0] (by decide) rfl 0 rfl rfl) rfl rfl hl.1 rfl (lv_room (Nat.le_of_ble_eq_true rfl)) dX5_readsTokens_85 ⟨Nat.le_of_ble_eq_true rfl, Nat.le_of_ble_eq_true rfl⟩) (fun r_ u_ H locs hw hP hD hS => ?_)
          have hw : r_ = nI 1 := hw
          subst hw
          refine lv_if_eq (tgt := 95) hx hb dX5_readsTokens_88 (by decide) (fun h => absurd h (by decide)) (fun _ => ?_)
          refine lv_iconst (v := nI 1) hx hb dX5_readsTokens_91 (by decide) ?_
          refine lv_goto (tgt := 96) hx hb dX5_readsTokens_92 (by decide) ?_
          exact kr_i (post := fun r_ (u_ : Unit) => r_ = nI 1) (Bs := fun u_ : Unit => [mW cy ra (al, (T.1, T.2.1, T.2.2.1, T.2.2.2.1, T.2.2.2.2.1, T.2.2.2.2.2.1, T.2.2.2.2.2.2.1, T.2.2.2.2.2.2.2.1, T.2.2.2.2.2.2.2.2.1, T.2.2.2.2.2.2.2.2.2.1, T.2.2.2.2.2.2.2.2.2.2.1, T.2.2.2.2.2.2.2.2.2.2.2.1 + 1 + 1 + 1, upd T.2.2.2.2.2.2.2.2.2.2.2.2.1 (4 * T.2.2.2.2.2.2.2.2.2.2.2.2.2.1 + 1) (nI (10 * (kb9 T.2.2.2.2.2.2.2.2.2.1 T.2.2.2.2.2.2.2.2.2.2.2.1 - 48) + (kb9 T.2.2.2.2.2.2.2.2.2.1 (T.2.2.2.2.2.2.2.2.2.2.2.1 + 1) - 48))), T.2.2.2.2.2.2.2.2.2.2.2.2.2))]) hx hb hr hlocks rfl () hP hK hD hS rfl dX5_readsTokens_96 hQ
abbrev rm_X5_readsTokens_2n : Room := { frames := 2, cells := 0, slots := 0, locals := 42 }
set_option maxHeartbeats 1000000 in
set_option maxRecDepth 100000 in
/-- readsTokens -/
theorem c_X5_readsTokens_2n (l : Launch) (D : va_G) (cy : Nat → ClassId) (ra : Nat → Nat) (al : Nat → Int32) (T : rV) (hby : kBy T.2.2.2.2.2.2.2.2.2.1) (htl : T.2.2.2.2.2.2.2.2.2.2.1 ≤ 100) (hpl : T.2.2.2.2.2.2.2.2.2.2.2.1 ≤ 140) (hgs : T.2.2.2.2.2.2.2.2.2.2.2.2.2.1 < 16) (hk : kDig T.2.2.2.2.2.2.2.2.2.1 T.2.2.2.2.2.2.2.2.2.2.1 T.2.2.2.2.2.2.2.2.2.2.2.1 0) (hk2 : kDig T.2.2.2.2.2.2.2.2.2.1 T.2.2.2.2.2.2.2.2.2.2.1 (T.2.2.2.2.2.2.2.2.2.2.2.1 + 1) 0) (hk3 : ¬ kIs T.2.2.2.2.2.2.2.2.2.1 T.2.2.2.2.2.2.2.2.2.2.1 (T.2.2.2.2.2.2.2.2.2.2.2.1 + 1 + 1) 44) (sz : Nat) : Met l yX5_readsTokens wsX5_readsTokens rm_X5_readsTokens_2n (va_Pc [.ref (ra 0)] (kPre D (kT cy) [mW cy ra (al, T)] sz)) (va_Qi (fun r_ (u_ : Unit) => r_ = nI 0) (kFr D (kT cy) [mW cy ra (al, T)] sz (fun u_ : Unit => [mW cy ra (al, (T.1, T.2.1, T.2.2.1, T.2.2.2.1, T.2.2.2.2.1, T.2.2.2.2.2.1, T.2.2.2.2.2.2.1, T.2.2.2.2.2.2.2.1, T.2.2.2.2.2.2.2.2.1, T.2.2.2.2.2.2.2.2.2.1, T.2.2.2.2.2.2.2.2.2.2.1, T.2.2.2.2.2.2.2.2.2.2.2.1 + 1 + 1, upd T.2.2.2.2.2.2.2.2.2.2.2.2.1 (4 * T.2.2.2.2.2.2.2.2.2.2.2.2.2.1 + 1) (nI (10 * (kb9 T.2.2.2.2.2.2.2.2.2.1 T.2.2.2.2.2.2.2.2.2.2.2.1 - 48) + (kb9 T.2.2.2.2.2.2.2.2.2.1 (T.2.2.2.2.2.2.2.2.2.2.2.1 + 1) - 48))), T.2.2.2.2.2.2.2.2.2.2.2.2.2))])) (va_A (bkF [mW cy ra (al, T)]) sz)) 0 0 (va_A (bkF [mW cy ra (al, T)]) sz) := by
  refine kOpen (y := yX5_readsTokens) (ws := wsX5_readsTokens) (cc := cX5_readsTokens) (maxL := 3) (ret := (some .boolean)) (av := [.ref (ra 0)]) (Bs := [mW cy ra (al, T)]) (Qc := fun A => (va_Qi (fun r_ (u_ : Unit) => r_ = nI 0) (fun (u_ : Unit) t9 => kEnd D (kT cy) A [mW cy ra (al, (T.1, T.2.1, T.2.2.1, T.2.2.2.1, T.2.2.2.2.1, T.2.2.2.2.2.1, T.2.2.2.2.2.2.1, T.2.2.2.2.2.2.2.1, T.2.2.2.2.2.2.2.2.1, T.2.2.2.2.2.2.2.2.2.1, T.2.2.2.2.2.2.2.2.2.2.1, T.2.2.2.2.2.2.2.2.2.2.2.1 + 1 + 1, upd T.2.2.2.2.2.2.2.2.2.2.2.2.1 (4 * T.2.2.2.2.2.2.2.2.2.2.2.2.2.1 + 1) (nI (10 * (kb9 T.2.2.2.2.2.2.2.2.2.1 T.2.2.2.2.2.2.2.2.2.2.2.1 - 48) + (kb9 T.2.2.2.2.2.2.2.2.2.1 (T.2.2.2.2.2.2.2.2.2.2.2.1 + 1) - 48))), T.2.2.2.2.2.2.2.2.2.2.2.2.2))] t9) A)) (by decide) rfl (Nat.le_of_ble_eq_true rfl) ?_
  intro p e s m args below meth c A Q ls hQ hx hb hml hr hlocks hin hts hown hN hK hP hD hS hA hsz hAe hl
  clear hAe
  have hl : lv_has ls 3 [(0, .ref (ra 0))] := hl
  suffices K9 : ∀ (H : Heap) (locs : List Loc), va_P D vwCl (bkF [mW cy ra (al, T)]) H → va_S A s.heap H locs → W p l e (headSpec wsX5_readsTokens rm_X5_readsTokens_2n).room s m args below meth c H locs 0 0 Q (F0 m 0 ls []) from K9 _ _ hP hS
  clear hP hS
  intro H locs hP hS
  refine lv_aload_n hx hb dX5_readsTokens_0 rfl (lv_at hl 0 rfl) ?_
  refine va_get (D := D) (ci := 5) (v := .int (nI T.2.2.2.2.2.2.2.2.2.2.2.1)) (C := RX5) (T := TX5) (N := 16) hx hb hts (by decide +kernel) hown hK hP 0 rfl rfl 12 (by decide) (hts (.fieldLink RX5 174 "DanceHallModel" "place" "I") (by decide +kernel)) (fun _ h9 => h9) rfl dX5_readsTokens_1 ?_
  refine lv_istore_n (lv' := [(1, .int (nI T.2.2.2.2.2.2.2.2.2.2.2.1)), (0, .ref (ra 0))]) hx hb dX5_readsTokens_4 rfl hl (by decide) rfl (fun ls hl => ?_)
  refine lv_iconst (v := nI 0) hx hb dX5_readsTokens_5 (by decide) ?_
  refine lv_istore_n (lv' := [(2, .int (nI 0)), (1, .int (nI T.2.2.2.2.2.2.2.2.2.2.2.1)), (0, .ref (ra 0))]) hx hb dX5_readsTokens_6 rfl hl (by decide) rfl (fun ls hl => ?_)
  refine lv_aload_n hx hb dX5_readsTokens_7 rfl (lv_at hl 2 rfl) ?_
  refine kc_i (Cs := [mW cy ra (al, T)]) (Rs := []) (Bs := [mW cy ra (al, T)]) (Cs' := fun u_ : Unit => [mW cy ra (al, T)]) (Fs := fun u_ : Unit => [mW cy ra (al, T)]) hP hD hS hA [0] [] [0] rfl rfl (by decide) (by decide) (fun _ => rfl) (va_runV (As := []) (rest := []) ⟨hx, hb, hml, hown, hts⟩ (c_X5_here l D cy ra al T htl (by (try dsimp only); first | assumption | omega | decide) H.size) (cwV 0 hts gX5_readsTokens_X5_here rfl rfl rfl (by decide +kernel) ⟨Nat.le_of_ble_eq_true rfl, Nat.le_of_ble_eq_true rfl⟩) (kPre_V (ci := 5) hK hN hP hD [0] (by decide) rfl 0 rfl rfl) rfl rfl hl.1 rfl (lv_room (Nat.le_of_ble_eq_true rfl)) dX5_readsTokens_8 ⟨Nat.le_of_ble_eq_true rfl, Nat.le_of_ble_eq_true rfl⟩) (fun r_ u_ H locs hw hP hD hS => ?_)
  have hw : r_ = kHr T.2.2.2.2.2.2.2.2.2.1 T.2.2.2.2.2.2.2.2.2.2.1 T.2.2.2.2.2.2.2.2.2.2.2.1 := hw
  subst hw
  refine lv_i2l (v := (kHr T.2.2.2.2.2.2.2.2.2.1 T.2.2.2.2.2.2.2.2.2.2.1 T.2.2.2.2.2.2.2.2.2.2.2.1).toInt64) hx hb dX5_readsTokens_11 rfl ?_
  refine lv_ldc2 hx hb hown (hts (.constantLong RX5 180 (48)) (by decide +kernel)) dX5_readsTokens_12 ?_
  refine lv_ldc2 hx hb hown (hts (.constantLong RX5 182 (57)) (by decide +kernel)) dX5_readsTokens_15 ?_
  refine kc_i (Cs := []) (Rs := [mW cy ra (al, T)]) (Bs := [mW cy ra (al, T)]) (Cs' := fun u_ : Unit => []) (Fs := fun u_ : Unit => [mW cy ra (al, T)]) hP hD hS hA [] [0] [0] rfl rfl (by decide) (by decide) (fun _ => rfl) (va_runS (As := [.long ((kHr T.2.2.2.2.2.2.2.2.2.1 T.2.2.2.2.2.2.2.2.2.2.1 T.2.2.2.2.2.2.2.2.2.2.2.1).toInt64), .long (48), .long (57)]) (rest := []) ⟨hx, hb, hml, hown, hts⟩ (c_X5_in l D cy ((kHr T.2.2.2.2.2.2.2.2.2.1 T.2.2.2.2.2.2.2.2.2.2.1 T.2.2.2.2.2.2.2.2.2.2.2.1).toInt64) (48) (57) H.size) (va_cwS 3 hts gX5_readsTokens_X5_in rfl rfl rfl (by decide +kernel) ⟨Nat.le_of_ble_eq_true rfl, Nat.le_of_ble_eq_true rfl⟩) (kPre_S hK hN hP hD [] (by decide) rfl) rfl rfl hl.1 rfl (lv_room (Nat.le_of_ble_eq_true rfl)) dX5_readsTokens_18 ⟨Nat.le_of_ble_eq_true rfl, Nat.le_of_ble_eq_true rfl⟩) (fun r_ u_ H locs hw hP hD hS => ?_)
  have hw : r_ = if kIn ((kHr T.2.2.2.2.2.2.2.2.2.1 T.2.2.2.2.2.2.2.2.2.2.1 T.2.2.2.2.2.2.2.2.2.2.2.1).toInt64) (48) (57) then nI 1 else nI 0 := hw
  subst hw
  refine kv_i (y := nI 1) (if_pos ((kIn32 (y := nI 48) (z := nI 57) (by decide) (by decide)).mpr ((kHr_dig (l9 := 0) (by decide) hby htl).mpr hk))) ?_
  refine lv_if_eq (tgt := 60) hx hb dX5_readsTokens_21 (by decide) (fun h => absurd h (by decide)) (fun _ => ?_)
  refine lv_aload_n hx hb dX5_readsTokens_24 rfl (lv_at hl 2 rfl) ?_
  refine va_get (D := D) (ci := 5) (v := .int (nI T.2.2.2.2.2.2.2.2.2.2.2.1)) (C := RX5) (T := TX5) (N := 16) hx hb hts (by decide +kernel) hown hK hP 0 rfl rfl 12 (by decide) (hts (.fieldLink RX5 174 "DanceHallModel" "place" "I") (by decide +kernel)) (fun _ h9 => h9) rfl dX5_readsTokens_25 ?_
  refine lv_iload_n hx hb dX5_readsTokens_28 rfl (lv_at hl 1 rfl) ?_
  refine lv_iconst (v := nI 2) hx hb dX5_readsTokens_29 (by decide) ?_
  refine lv_iadd hx hb dX5_readsTokens_30 ?_
  refine kv_i (y := nI (T.2.2.2.2.2.2.2.2.2.2.2.1 + 2)) (nI_add T.2.2.2.2.2.2.2.2.2.2.2.1 2) ?_
  refine lv_icmp_ge (tgt := 60) hx hb dX5_readsTokens_31 (by decide) (fun c_31 => False.elim ?_) (fun c_31 => ?_)
  · skip
    have c_31 : (T.2.2.2.2.2.2.2.2.2.2.2.1 + 2) ≤ T.2.2.2.2.2.2.2.2.2.2.2.1 := (nI_leI (a := T.2.2.2.2.2.2.2.2.2.2.2.1 + 2) (b := T.2.2.2.2.2.2.2.2.2.2.2.1) (by omega) (by omega)).mp c_31
    omega
  · skip
    have c_31 : ¬ ((T.2.2.2.2.2.2.2.2.2.2.2.1 + 2) ≤ T.2.2.2.2.2.2.2.2.2.2.2.1) := fun h => c_31 ((nI_leI (a := T.2.2.2.2.2.2.2.2.2.2.2.1 + 2) (b := T.2.2.2.2.2.2.2.2.2.2.2.1) (by omega) (by omega)).mpr h)
    refine lv_bipush (v := nI 10) hx hb dX5_readsTokens_34 (by decide) ?_
    refine lv_iload_n hx hb dX5_readsTokens_36 rfl (lv_at hl 0 rfl) ?_
    refine lv_imul hx hb dX5_readsTokens_37 ?_
    refine kv_i (y := nI 0) (by decide) ?_
    refine lv_aload_n hx hb dX5_readsTokens_38 rfl (lv_at hl 2 rfl) ?_
    refine kc_i (Cs := [mW cy ra (al, T)]) (Rs := []) (Bs := [mW cy ra (al, T)]) (Cs' := fun u_ : Unit => [mW cy ra (al, T)]) (Fs := fun u_ : Unit => [mW cy ra (al, T)]) hP hD hS hA [0] [] [0] rfl rfl (by decide) (by decide) (fun _ => rfl) (va_runV (As := []) (rest := [.int (nI 0)]) ⟨hx, hb, hml, hown, hts⟩ (c_X5_here l D cy ra al T (by (try dsimp only); first | assumption | omega | decide) (by (try dsimp only); first | assumption | omega | decide) H.size) (cwV 0 hts gX5_readsTokens_X5_here rfl rfl rfl (by decide +kernel) ⟨Nat.le_of_ble_eq_true rfl, Nat.le_of_ble_eq_true rfl⟩) (kPre_V (ci := 5) hK hN hP hD [0] (by decide) rfl 0 rfl rfl) rfl rfl hl.1 rfl (lv_room (Nat.le_of_ble_eq_true rfl)) dX5_readsTokens_39 ⟨Nat.le_of_ble_eq_true rfl, Nat.le_of_ble_eq_true rfl⟩) (fun r_ u_ H locs hw hP hD hS => ?_)
    have hw : r_ = kHr T.2.2.2.2.2.2.2.2.2.1 T.2.2.2.2.2.2.2.2.2.2.1 T.2.2.2.2.2.2.2.2.2.2.2.1 := hw
    subst hw
    refine kv_i (y := nI (kb9 T.2.2.2.2.2.2.2.2.2.1 T.2.2.2.2.2.2.2.2.2.2.2.1)) (kHr_b hby htl hk.1) ?_
    refine lv_iadd hx hb dX5_readsTokens_42 ?_
    refine kv_i (y := nI (0 + (kb9 T.2.2.2.2.2.2.2.2.2.1 T.2.2.2.2.2.2.2.2.2.2.2.1))) (nI_add 0 (kb9 T.2.2.2.2.2.2.2.2.2.1 T.2.2.2.2.2.2.2.2.2.2.2.1)) ?_
    refine lv_bipush (v := nI 48) hx hb dX5_readsTokens_43 (by decide) ?_
    refine lv_isub hx hb dX5_readsTokens_45 ?_
    refine kv_i (y := nI (kb9 T.2.2.2.2.2.2.2.2.2.1 T.2.2.2.2.2.2.2.2.2.2.2.1 - 48)) (by have h8 := hk.2.1; rw [pk_sub (by omega)]; exact congrArg nI (by omega)) ?_
    refine lv_istore_n (lv' := [(2, .int (nI (kb9 T.2.2.2.2.2.2.2.2.2.1 T.2.2.2.2.2.2.2.2.2.2.2.1 - 48))), (1, .int (nI T.2.2.2.2.2.2.2.2.2.2.2.1)), (0, .ref (ra 0))]) hx hb dX5_readsTokens_46 rfl hl (by decide) rfl (fun ls hl => ?_)
    refine lv_aload_n hx hb dX5_readsTokens_47 rfl (lv_at hl 2 rfl) ?_
    refine lv_dup hx hb dX5_readsTokens_48 rfl ?_
    refine va_get (D := D) (ci := 5) (v := .int (nI T.2.2.2.2.2.2.2.2.2.2.2.1)) (C := RX5) (T := TX5) (N := 16) hx hb hts (by decide +kernel) hown hK hP 0 rfl rfl 12 (by decide) (hts (.fieldLink RX5 174 "DanceHallModel" "place" "I") (by decide +kernel)) (fun _ h9 => h9) rfl dX5_readsTokens_49 ?_
    refine lv_iconst (v := nI 1) hx hb dX5_readsTokens_52 (by decide) ?_
    refine lv_iadd hx hb dX5_readsTokens_53 ?_
    refine kv_i (y := nI (T.2.2.2.2.2.2.2.2.2.2.2.1 + 1)) (nI_add T.2.2.2.2.2.2.2.2.2.2.2.1 1) ?_
    refine va_put (D := D) (ci := 5) (v := .int (nI (T.2.2.2.2.2.2.2.2.2.2.2.1 + 1))) (ty := .int) (C := RX5) (T := TX5) (N := 16) hx hb hts (by decide +kernel) tyX5 tyX5_ok nmX5 hown hK hP hD hS 0 rfl rfl 12 (by decide) (hts (.fieldLink RX5 174 "DanceHallModel" "place" "I") (by decide +kernel)) (fun _ h9 => h9) rfl (by decide +kernel) rfl rfl (Nat.le_of_ble_eq_true rfl) dX5_readsTokens_54 (fun H locs hP hD hS => ?_)
    have hP : va_P D vwCl (bkF [mW cy ra (al, (T.1, T.2.1, T.2.2.1, T.2.2.2.1, T.2.2.2.2.1, T.2.2.2.2.2.1, T.2.2.2.2.2.2.1, T.2.2.2.2.2.2.2.1, T.2.2.2.2.2.2.2.2.1, T.2.2.2.2.2.2.2.2.2.1, T.2.2.2.2.2.2.2.2.2.2.1, T.2.2.2.2.2.2.2.2.2.2.2.1 + 1, T.2.2.2.2.2.2.2.2.2.2.2.2))]) H := hP
    have hD : va_D A (bkF [mW cy ra (al, (T.1, T.2.1, T.2.2.1, T.2.2.2.1, T.2.2.2.2.1, T.2.2.2.2.2.1, T.2.2.2.2.2.2.1, T.2.2.2.2.2.2.2.1, T.2.2.2.2.2.2.2.2.1, T.2.2.2.2.2.2.2.2.2.1, T.2.2.2.2.2.2.2.2.2.2.1, T.2.2.2.2.2.2.2.2.2.2.2.1 + 1, T.2.2.2.2.2.2.2.2.2.2.2.2))]) := hD
    refine lv_goto (tgt := 7) hx hb dX5_readsTokens_57 (by decide) ?_
    refine lv_aload_n hx hb dX5_readsTokens_7 rfl (lv_at hl 2 rfl) ?_
    refine kc_i (Cs := [mW cy ra (al, (T.1, T.2.1, T.2.2.1, T.2.2.2.1, T.2.2.2.2.1, T.2.2.2.2.2.1, T.2.2.2.2.2.2.1, T.2.2.2.2.2.2.2.1, T.2.2.2.2.2.2.2.2.1, T.2.2.2.2.2.2.2.2.2.1, T.2.2.2.2.2.2.2.2.2.2.1, T.2.2.2.2.2.2.2.2.2.2.2.1 + 1, T.2.2.2.2.2.2.2.2.2.2.2.2))]) (Rs := []) (Bs := [mW cy ra (al, (T.1, T.2.1, T.2.2.1, T.2.2.2.1, T.2.2.2.2.1, T.2.2.2.2.2.1, T.2.2.2.2.2.2.1, T.2.2.2.2.2.2.2.1, T.2.2.2.2.2.2.2.2.1, T.2.2.2.2.2.2.2.2.2.1, T.2.2.2.2.2.2.2.2.2.2.1, T.2.2.2.2.2.2.2.2.2.2.2.1 + 1, T.2.2.2.2.2.2.2.2.2.2.2.2))]) (Cs' := fun u_ : Unit => [mW cy ra (al, (T.1, T.2.1, T.2.2.1, T.2.2.2.1, T.2.2.2.2.1, T.2.2.2.2.2.1, T.2.2.2.2.2.2.1, T.2.2.2.2.2.2.2.1, T.2.2.2.2.2.2.2.2.1, T.2.2.2.2.2.2.2.2.2.1, T.2.2.2.2.2.2.2.2.2.2.1, T.2.2.2.2.2.2.2.2.2.2.2.1 + 1, T.2.2.2.2.2.2.2.2.2.2.2.2))]) (Fs := fun u_ : Unit => [mW cy ra (al, (T.1, T.2.1, T.2.2.1, T.2.2.2.1, T.2.2.2.2.1, T.2.2.2.2.2.1, T.2.2.2.2.2.2.1, T.2.2.2.2.2.2.2.1, T.2.2.2.2.2.2.2.2.1, T.2.2.2.2.2.2.2.2.2.1, T.2.2.2.2.2.2.2.2.2.2.1, T.2.2.2.2.2.2.2.2.2.2.2.1 + 1, T.2.2.2.2.2.2.2.2.2.2.2.2))]) hP hD hS hA [0] [] [0] rfl rfl (by decide) (by decide) (fun _ => rfl) (va_runV (As := []) (rest := []) ⟨hx, hb, hml, hown, hts⟩ (c_X5_here l D cy ra al (T.1, T.2.1, T.2.2.1, T.2.2.2.1, T.2.2.2.2.1, T.2.2.2.2.2.1, T.2.2.2.2.2.2.1, T.2.2.2.2.2.2.2.1, T.2.2.2.2.2.2.2.2.1, T.2.2.2.2.2.2.2.2.2.1, T.2.2.2.2.2.2.2.2.2.2.1, T.2.2.2.2.2.2.2.2.2.2.2.1 + 1, T.2.2.2.2.2.2.2.2.2.2.2.2) htl (by (try dsimp only); first | assumption | omega | decide) H.size) (cwV 0 hts gX5_readsTokens_X5_here rfl rfl rfl (by decide +kernel) ⟨Nat.le_of_ble_eq_true rfl, Nat.le_of_ble_eq_true rfl⟩) (kPre_V (ci := 5) hK hN hP hD [0] (by decide) rfl 0 rfl rfl) rfl rfl hl.1 rfl (lv_room (Nat.le_of_ble_eq_true rfl)) dX5_readsTokens_8 ⟨Nat.le_of_ble_eq_true rfl, Nat.le_of_ble_eq_true rfl⟩) (fun r_ u_ H locs hw hP hD hS => ?_)
    have hw : r_ = kHr T.2.2.2.2.2.2.2.2.2.1 T.2.2.2.2.2.2.2.2.2.2.1 (T.2.2.2.2.2.2.2.2.2.2.2.1 + 1) := hw
    subst hw
    refine lv_i2l (v := (kHr T.2.2.2.2.2.2.2.2.2.1 T.2.2.2.2.2.2.2.2.2.2.1 (T.2.2.2.2.2.2.2.2.2.2.2.1 + 1)).toInt64) hx hb dX5_readsTokens_11 rfl ?_
    refine lv_ldc2 hx hb hown (hts (.constantLong RX5 180 (48)) (by decide +kernel)) dX5_readsTokens_12 ?_
    refine lv_ldc2 hx hb hown (hts (.constantLong RX5 182 (57)) (by decide +kernel)) dX5_readsTokens_15 ?_
    refine kc_i (Cs := []) (Rs := [mW cy ra (al, (T.1, T.2.1, T.2.2.1, T.2.2.2.1, T.2.2.2.2.1, T.2.2.2.2.2.1, T.2.2.2.2.2.2.1, T.2.2.2.2.2.2.2.1, T.2.2.2.2.2.2.2.2.1, T.2.2.2.2.2.2.2.2.2.1, T.2.2.2.2.2.2.2.2.2.2.1, T.2.2.2.2.2.2.2.2.2.2.2.1 + 1, T.2.2.2.2.2.2.2.2.2.2.2.2))]) (Bs := [mW cy ra (al, (T.1, T.2.1, T.2.2.1, T.2.2.2.1, T.2.2.2.2.1, T.2.2.2.2.2.1, T.2.2.2.2.2.2.1, T.2.2.2.2.2.2.2.1, T.2.2.2.2.2.2.2.2.1, T.2.2.2.2.2.2.2.2.2.1, T.2.2.2.2.2.2.2.2.2.2.1, T.2.2.2.2.2.2.2.2.2.2.2.1 + 1, T.2.2.2.2.2.2.2.2.2.2.2.2))]) (Cs' := fun u_ : Unit => []) (Fs := fun u_ : Unit => [mW cy ra (al, (T.1, T.2.1, T.2.2.1, T.2.2.2.1, T.2.2.2.2.1, T.2.2.2.2.2.1, T.2.2.2.2.2.2.1, T.2.2.2.2.2.2.2.1, T.2.2.2.2.2.2.2.2.1, T.2.2.2.2.2.2.2.2.2.1, T.2.2.2.2.2.2.2.2.2.2.1, T.2.2.2.2.2.2.2.2.2.2.2.1 + 1, T.2.2.2.2.2.2.2.2.2.2.2.2))]) hP hD hS hA [] [0] [0] rfl rfl (by decide) (by decide) (fun _ => rfl) (va_runS (As := [.long ((kHr T.2.2.2.2.2.2.2.2.2.1 T.2.2.2.2.2.2.2.2.2.2.1 (T.2.2.2.2.2.2.2.2.2.2.2.1 + 1)).toInt64), .long (48), .long (57)]) (rest := []) ⟨hx, hb, hml, hown, hts⟩ (c_X5_in l D cy ((kHr T.2.2.2.2.2.2.2.2.2.1 T.2.2.2.2.2.2.2.2.2.2.1 (T.2.2.2.2.2.2.2.2.2.2.2.1 + 1)).toInt64) (48) (57) H.size) (va_cwS 3 hts gX5_readsTokens_X5_in rfl rfl rfl (by decide +kernel) ⟨Nat.le_of_ble_eq_true rfl, Nat.le_of_ble_eq_true rfl⟩) (kPre_S hK hN hP hD [] (by decide) rfl) rfl rfl hl.1 rfl (lv_room (Nat.le_of_ble_eq_true rfl)) dX5_readsTokens_18 ⟨Nat.le_of_ble_eq_true rfl, Nat.le_of_ble_eq_true rfl⟩) (fun r_ u_ H locs hw hP hD hS => ?_)
    have hw : r_ = if kIn ((kHr T.2.2.2.2.2.2.2.2.2.1 T.2.2.2.2.2.2.2.2.2.2.1 (T.2.2.2.2.2.2.2.2.2.2.2.1 + 1)).toInt64) (48) (57) then nI 1 else nI 0 := hw
    subst hw
    refine kv_i (y := nI 1) (if_pos ((kIn32 (y := nI 48) (z := nI 57) (by decide) (by decide)).mpr ((kHr_dig (l9 := 0) (by decide) hby htl).mpr hk2))) ?_
    refine lv_if_eq (tgt := 60) hx hb dX5_readsTokens_21 (by decide) (fun h => absurd h (by decide)) (fun _ => ?_)
    refine lv_aload_n hx hb dX5_readsTokens_24 rfl (lv_at hl 2 rfl) ?_
    refine va_get (D := D) (ci := 5) (v := .int (nI (T.2.2.2.2.2.2.2.2.2.2.2.1 + 1))) (C := RX5) (T := TX5) (N := 16) hx hb hts (by decide +kernel) hown hK hP 0 rfl rfl 12 (by decide) (hts (.fieldLink RX5 174 "DanceHallModel" "place" "I") (by decide +kernel)) (fun _ h9 => h9) rfl dX5_readsTokens_25 ?_
    refine lv_iload_n hx hb dX5_readsTokens_28 rfl (lv_at hl 1 rfl) ?_
    refine lv_iconst (v := nI 2) hx hb dX5_readsTokens_29 (by decide) ?_
    refine lv_iadd hx hb dX5_readsTokens_30 ?_
    refine kv_i (y := nI (T.2.2.2.2.2.2.2.2.2.2.2.1 + 2)) (nI_add T.2.2.2.2.2.2.2.2.2.2.2.1 2) ?_
    refine lv_icmp_ge (tgt := 60) hx hb dX5_readsTokens_31 (by decide) (fun c_31 => False.elim ?_) (fun c_31 => ?_)
    · skip
      have c_31 : (T.2.2.2.2.2.2.2.2.2.2.2.1 + 2) ≤ (T.2.2.2.2.2.2.2.2.2.2.2.1 + 1) := (nI_leI (a := T.2.2.2.2.2.2.2.2.2.2.2.1 + 2) (b := T.2.2.2.2.2.2.2.2.2.2.2.1 + 1) (by omega) (by omega)).mp c_31
      omega
    · skip
      have c_31 : ¬ ((T.2.2.2.2.2.2.2.2.2.2.2.1 + 2) ≤ (T.2.2.2.2.2.2.2.2.2.2.2.1 + 1)) := fun h => c_31 ((nI_leI (a := T.2.2.2.2.2.2.2.2.2.2.2.1 + 2) (b := T.2.2.2.2.2.2.2.2.2.2.2.1 + 1) (by omega) (by omega)).mpr h)
      refine lv_bipush (v := nI 10) hx hb dX5_readsTokens_34 (by decide) ?_
      refine lv_iload_n hx hb dX5_readsTokens_36 rfl (lv_at hl 0 rfl) ?_
      refine lv_imul hx hb dX5_readsTokens_37 ?_
      refine kv_i (y := nI (10 * (kb9 T.2.2.2.2.2.2.2.2.2.1 T.2.2.2.2.2.2.2.2.2.2.2.1 - 48))) (pk_mul 10 (kb9 T.2.2.2.2.2.2.2.2.2.1 T.2.2.2.2.2.2.2.2.2.2.2.1 - 48)) ?_
      refine lv_aload_n hx hb dX5_readsTokens_38 rfl (lv_at hl 2 rfl) ?_
      refine kc_i (Cs := [mW cy ra (al, (T.1, T.2.1, T.2.2.1, T.2.2.2.1, T.2.2.2.2.1, T.2.2.2.2.2.1, T.2.2.2.2.2.2.1, T.2.2.2.2.2.2.2.1, T.2.2.2.2.2.2.2.2.1, T.2.2.2.2.2.2.2.2.2.1, T.2.2.2.2.2.2.2.2.2.2.1, T.2.2.2.2.2.2.2.2.2.2.2.1 + 1, T.2.2.2.2.2.2.2.2.2.2.2.2))]) (Rs := []) (Bs := [mW cy ra (al, (T.1, T.2.1, T.2.2.1, T.2.2.2.1, T.2.2.2.2.1, T.2.2.2.2.2.1, T.2.2.2.2.2.2.1, T.2.2.2.2.2.2.2.1, T.2.2.2.2.2.2.2.2.1, T.2.2.2.2.2.2.2.2.2.1, T.2.2.2.2.2.2.2.2.2.2.1, T.2.2.2.2.2.2.2.2.2.2.2.1 + 1, T.2.2.2.2.2.2.2.2.2.2.2.2))]) (Cs' := fun u_ : Unit => [mW cy ra (al, (T.1, T.2.1, T.2.2.1, T.2.2.2.1, T.2.2.2.2.1, T.2.2.2.2.2.1, T.2.2.2.2.2.2.1, T.2.2.2.2.2.2.2.1, T.2.2.2.2.2.2.2.2.1, T.2.2.2.2.2.2.2.2.2.1, T.2.2.2.2.2.2.2.2.2.2.1, T.2.2.2.2.2.2.2.2.2.2.2.1 + 1, T.2.2.2.2.2.2.2.2.2.2.2.2))]) (Fs := fun u_ : Unit => [mW cy ra (al, (T.1, T.2.1, T.2.2.1, T.2.2.2.1, T.2.2.2.2.1, T.2.2.2.2.2.1, T.2.2.2.2.2.2.1, T.2.2.2.2.2.2.2.1, T.2.2.2.2.2.2.2.2.1, T.2.2.2.2.2.2.2.2.2.1, T.2.2.2.2.2.2.2.2.2.2.1, T.2.2.2.2.2.2.2.2.2.2.2.1 + 1, T.2.2.2.2.2.2.2.2.2.2.2.2))]) hP hD hS hA [0] [] [0] rfl rfl (by decide) (by decide) (fun _ => rfl) (va_runV (As := []) (rest := [.int (nI (10 * (kb9 T.2.2.2.2.2.2.2.2.2.1 T.2.2.2.2.2.2.2.2.2.2.2.1 - 48)))]) ⟨hx, hb, hml, hown, hts⟩ (c_X5_here l D cy ra al (T.1, T.2.1, T.2.2.1, T.2.2.2.1, T.2.2.2.2.1, T.2.2.2.2.2.1, T.2.2.2.2.2.2.1, T.2.2.2.2.2.2.2.1, T.2.2.2.2.2.2.2.2.1, T.2.2.2.2.2.2.2.2.2.1, T.2.2.2.2.2.2.2.2.2.2.1, T.2.2.2.2.2.2.2.2.2.2.2.1 + 1, T.2.2.2.2.2.2.2.2.2.2.2.2) (by (try dsimp only); first | assumption | omega | decide) (by (try dsimp only); first | assumption | omega | decide) H.size) (cwV 0 hts gX5_readsTokens_X5_here rfl rfl rfl (by decide +kernel) ⟨Nat.le_of_ble_eq_true rfl, Nat.le_of_ble_eq_true rfl⟩) (kPre_V (ci := 5) hK hN hP hD [0] (by decide) rfl 0 rfl rfl) rfl rfl hl.1 rfl (lv_room (Nat.le_of_ble_eq_true rfl)) dX5_readsTokens_39 ⟨Nat.le_of_ble_eq_true rfl, Nat.le_of_ble_eq_true rfl⟩) (fun r_ u_ H locs hw hP hD hS => ?_)
      have hw : r_ = kHr T.2.2.2.2.2.2.2.2.2.1 T.2.2.2.2.2.2.2.2.2.2.1 (T.2.2.2.2.2.2.2.2.2.2.2.1 + 1) := hw
      subst hw
      refine kv_i (y := nI (kb9 T.2.2.2.2.2.2.2.2.2.1 (T.2.2.2.2.2.2.2.2.2.2.2.1 + 1))) (kHr_b hby htl hk2.1) ?_
      refine lv_iadd hx hb dX5_readsTokens_42 ?_
      refine kv_i (y := nI ((10 * (kb9 T.2.2.2.2.2.2.2.2.2.1 T.2.2.2.2.2.2.2.2.2.2.2.1 - 48)) + (kb9 T.2.2.2.2.2.2.2.2.2.1 (T.2.2.2.2.2.2.2.2.2.2.2.1 + 1)))) (nI_add (10 * (kb9 T.2.2.2.2.2.2.2.2.2.1 T.2.2.2.2.2.2.2.2.2.2.2.1 - 48)) (kb9 T.2.2.2.2.2.2.2.2.2.1 (T.2.2.2.2.2.2.2.2.2.2.2.1 + 1))) ?_
      refine lv_bipush (v := nI 48) hx hb dX5_readsTokens_43 (by decide) ?_
      refine lv_isub hx hb dX5_readsTokens_45 ?_
      refine kv_i (y := nI (10 * (kb9 T.2.2.2.2.2.2.2.2.2.1 T.2.2.2.2.2.2.2.2.2.2.2.1 - 48) + (kb9 T.2.2.2.2.2.2.2.2.2.1 (T.2.2.2.2.2.2.2.2.2.2.2.1 + 1) - 48))) (by have h8 := hk2.2.1; rw [pk_sub (by omega)]; exact congrArg nI (by omega)) ?_
      refine lv_istore_n (lv' := [(2, .int (nI (10 * (kb9 T.2.2.2.2.2.2.2.2.2.1 T.2.2.2.2.2.2.2.2.2.2.2.1 - 48) + (kb9 T.2.2.2.2.2.2.2.2.2.1 (T.2.2.2.2.2.2.2.2.2.2.2.1 + 1) - 48)))), (1, .int (nI T.2.2.2.2.2.2.2.2.2.2.2.1)), (0, .ref (ra 0))]) hx hb dX5_readsTokens_46 rfl hl (by decide) rfl (fun ls hl => ?_)
      refine lv_aload_n hx hb dX5_readsTokens_47 rfl (lv_at hl 2 rfl) ?_
      refine lv_dup hx hb dX5_readsTokens_48 rfl ?_
      refine va_get (D := D) (ci := 5) (v := .int (nI (T.2.2.2.2.2.2.2.2.2.2.2.1 + 1))) (C := RX5) (T := TX5) (N := 16) hx hb hts (by decide +kernel) hown hK hP 0 rfl rfl 12 (by decide) (hts (.fieldLink RX5 174 "DanceHallModel" "place" "I") (by decide +kernel)) (fun _ h9 => h9) rfl dX5_readsTokens_49 ?_
      refine lv_iconst (v := nI 1) hx hb dX5_readsTokens_52 (by decide) ?_
      refine lv_iadd hx hb dX5_readsTokens_53 ?_
      refine kv_i (y := nI ((T.2.2.2.2.2.2.2.2.2.2.2.1 + 1) + 1)) (nI_add (T.2.2.2.2.2.2.2.2.2.2.2.1 + 1) 1) ?_
      refine va_put (D := D) (ci := 5) (v := .int (nI ((T.2.2.2.2.2.2.2.2.2.2.2.1 + 1) + 1))) (ty := .int) (C := RX5) (T := TX5) (N := 16) hx hb hts (by decide +kernel) tyX5 tyX5_ok nmX5 hown hK hP hD hS 0 rfl rfl 12 (by decide) (hts (.fieldLink RX5 174 "DanceHallModel" "place" "I") (by decide +kernel)) (fun _ h9 => h9) rfl (by decide +kernel) rfl rfl (Nat.le_of_ble_eq_true rfl) dX5_readsTokens_54 (fun H locs hP hD hS => ?_)
      have hP : va_P D vwCl (bkF [mW cy ra (al, (T.1, T.2.1, T.2.2.1, T.2.2.2.1, T.2.2.2.2.1, T.2.2.2.2.2.1, T.2.2.2.2.2.2.1, T.2.2.2.2.2.2.2.1, T.2.2.2.2.2.2.2.2.1, T.2.2.2.2.2.2.2.2.2.1, T.2.2.2.2.2.2.2.2.2.2.1, (T.2.2.2.2.2.2.2.2.2.2.2.1 + 1) + 1, T.2.2.2.2.2.2.2.2.2.2.2.2))]) H := hP
      have hD : va_D A (bkF [mW cy ra (al, (T.1, T.2.1, T.2.2.1, T.2.2.2.1, T.2.2.2.2.1, T.2.2.2.2.2.1, T.2.2.2.2.2.2.1, T.2.2.2.2.2.2.2.1, T.2.2.2.2.2.2.2.2.1, T.2.2.2.2.2.2.2.2.2.1, T.2.2.2.2.2.2.2.2.2.2.1, (T.2.2.2.2.2.2.2.2.2.2.2.1 + 1) + 1, T.2.2.2.2.2.2.2.2.2.2.2.2))]) := hD
      refine lv_goto (tgt := 7) hx hb dX5_readsTokens_57 (by decide) ?_
      refine lv_aload_n hx hb dX5_readsTokens_7 rfl (lv_at hl 2 rfl) ?_
      refine kc_i (Cs := [mW cy ra (al, (T.1, T.2.1, T.2.2.1, T.2.2.2.1, T.2.2.2.2.1, T.2.2.2.2.2.1, T.2.2.2.2.2.2.1, T.2.2.2.2.2.2.2.1, T.2.2.2.2.2.2.2.2.1, T.2.2.2.2.2.2.2.2.2.1, T.2.2.2.2.2.2.2.2.2.2.1, (T.2.2.2.2.2.2.2.2.2.2.2.1 + 1) + 1, T.2.2.2.2.2.2.2.2.2.2.2.2))]) (Rs := []) (Bs := [mW cy ra (al, (T.1, T.2.1, T.2.2.1, T.2.2.2.1, T.2.2.2.2.1, T.2.2.2.2.2.1, T.2.2.2.2.2.2.1, T.2.2.2.2.2.2.2.1, T.2.2.2.2.2.2.2.2.1, T.2.2.2.2.2.2.2.2.2.1, T.2.2.2.2.2.2.2.2.2.2.1, (T.2.2.2.2.2.2.2.2.2.2.2.1 + 1) + 1, T.2.2.2.2.2.2.2.2.2.2.2.2))]) (Cs' := fun u_ : Unit => [mW cy ra (al, (T.1, T.2.1, T.2.2.1, T.2.2.2.1, T.2.2.2.2.1, T.2.2.2.2.2.1, T.2.2.2.2.2.2.1, T.2.2.2.2.2.2.2.1, T.2.2.2.2.2.2.2.2.1, T.2.2.2.2.2.2.2.2.2.1, T.2.2.2.2.2.2.2.2.2.2.1, (T.2.2.2.2.2.2.2.2.2.2.2.1 + 1) + 1, T.2.2.2.2.2.2.2.2.2.2.2.2))]) (Fs := fun u_ : Unit => [mW cy ra (al, (T.1, T.2.1, T.2.2.1, T.2.2.2.1, T.2.2.2.2.1, T.2.2.2.2.2.1, T.2.2.2.2.2.2.1, T.2.2.2.2.2.2.2.1, T.2.2.2.2.2.2.2.2.1, T.2.2.2.2.2.2.2.2.2.1, T.2.2.2.2.2.2.2.2.2.2.1, (T.2.2.2.2.2.2.2.2.2.2.2.1 + 1) + 1, T.2.2.2.2.2.2.2.2.2.2.2.2))]) hP hD hS hA [0] [] [0] rfl rfl (by decide) (by decide) (fun _ => rfl) (va_runV (As := []) (rest := []) ⟨hx, hb, hml, hown, hts⟩ (c_X5_here l D cy ra al (T.1, T.2.1, T.2.2.1, T.2.2.2.1, T.2.2.2.2.1, T.2.2.2.2.2.1, T.2.2.2.2.2.2.1, T.2.2.2.2.2.2.2.1, T.2.2.2.2.2.2.2.2.1, T.2.2.2.2.2.2.2.2.2.1, T.2.2.2.2.2.2.2.2.2.2.1, (T.2.2.2.2.2.2.2.2.2.2.2.1 + 1) + 1, T.2.2.2.2.2.2.2.2.2.2.2.2) htl (by (try dsimp only); first | assumption | omega | decide) H.size) (cwV 0 hts gX5_readsTokens_X5_here rfl rfl rfl (by decide +kernel) ⟨Nat.le_of_ble_eq_true rfl, Nat.le_of_ble_eq_true rfl⟩) (kPre_V (ci := 5) hK hN hP hD [0] (by decide) rfl 0 rfl rfl) rfl rfl hl.1 rfl (lv_room (Nat.le_of_ble_eq_true rfl)) dX5_readsTokens_8 ⟨Nat.le_of_ble_eq_true rfl, Nat.le_of_ble_eq_true rfl⟩) (fun r_ u_ H locs hw hP hD hS => ?_)
      have hw : r_ = kHr T.2.2.2.2.2.2.2.2.2.1 T.2.2.2.2.2.2.2.2.2.2.1 ((T.2.2.2.2.2.2.2.2.2.2.2.1 + 1) + 1) := hw
      subst hw
      refine lv_i2l (v := (kHr T.2.2.2.2.2.2.2.2.2.1 T.2.2.2.2.2.2.2.2.2.2.1 ((T.2.2.2.2.2.2.2.2.2.2.2.1 + 1) + 1)).toInt64) hx hb dX5_readsTokens_11 rfl ?_
      refine lv_ldc2 hx hb hown (hts (.constantLong RX5 180 (48)) (by decide +kernel)) dX5_readsTokens_12 ?_
      refine lv_ldc2 hx hb hown (hts (.constantLong RX5 182 (57)) (by decide +kernel)) dX5_readsTokens_15 ?_
      refine kc_i (Cs := []) (Rs := [mW cy ra (al, (T.1, T.2.1, T.2.2.1, T.2.2.2.1, T.2.2.2.2.1, T.2.2.2.2.2.1, T.2.2.2.2.2.2.1, T.2.2.2.2.2.2.2.1, T.2.2.2.2.2.2.2.2.1, T.2.2.2.2.2.2.2.2.2.1, T.2.2.2.2.2.2.2.2.2.2.1, (T.2.2.2.2.2.2.2.2.2.2.2.1 + 1) + 1, T.2.2.2.2.2.2.2.2.2.2.2.2))]) (Bs := [mW cy ra (al, (T.1, T.2.1, T.2.2.1, T.2.2.2.1, T.2.2.2.2.1, T.2.2.2.2.2.1, T.2.2.2.2.2.2.1, T.2.2.2.2.2.2.2.1, T.2.2.2.2.2.2.2.2.1, T.2.2.2.2.2.2.2.2.2.1, T.2.2.2.2.2.2.2.2.2.2.1, (T.2.2.2.2.2.2.2.2.2.2.2.1 + 1) + 1, T.2.2.2.2.2.2.2.2.2.2.2.2))]) (Cs' := fun u_ : Unit => []) (Fs := fun u_ : Unit => [mW cy ra (al, (T.1, T.2.1, T.2.2.1, T.2.2.2.1, T.2.2.2.2.1, T.2.2.2.2.2.1, T.2.2.2.2.2.2.1, T.2.2.2.2.2.2.2.1, T.2.2.2.2.2.2.2.2.1, T.2.2.2.2.2.2.2.2.2.1, T.2.2.2.2.2.2.2.2.2.2.1, (T.2.2.2.2.2.2.2.2.2.2.2.1 + 1) + 1, T.2.2.2.2.2.2.2.2.2.2.2.2))]) hP hD hS hA [] [0] [0] rfl rfl (by decide) (by decide) (fun _ => rfl) (va_runS (As := [.long ((kHr T.2.2.2.2.2.2.2.2.2.1 T.2.2.2.2.2.2.2.2.2.2.1 ((T.2.2.2.2.2.2.2.2.2.2.2.1 + 1) + 1)).toInt64), .long (48), .long (57)]) (rest := []) ⟨hx, hb, hml, hown, hts⟩ (c_X5_in l D cy ((kHr T.2.2.2.2.2.2.2.2.2.1 T.2.2.2.2.2.2.2.2.2.2.1 ((T.2.2.2.2.2.2.2.2.2.2.2.1 + 1) + 1)).toInt64) (48) (57) H.size) (va_cwS 3 hts gX5_readsTokens_X5_in rfl rfl rfl (by decide +kernel) ⟨Nat.le_of_ble_eq_true rfl, Nat.le_of_ble_eq_true rfl⟩) (kPre_S hK hN hP hD [] (by decide) rfl) rfl rfl hl.1 rfl (lv_room (Nat.le_of_ble_eq_true rfl)) dX5_readsTokens_18 ⟨Nat.le_of_ble_eq_true rfl, Nat.le_of_ble_eq_true rfl⟩) (fun r_ u_ H locs hw hP hD hS => ?_)
      have hw : r_ = if kIn ((kHr T.2.2.2.2.2.2.2.2.2.1 T.2.2.2.2.2.2.2.2.2.2.1 ((T.2.2.2.2.2.2.2.2.2.2.2.1 + 1) + 1)).toInt64) (48) (57) then nI 1 else nI 0 := hw
      subst hw
      by_cases b_18 : kIn ((kHr T.2.2.2.2.2.2.2.2.2.1 T.2.2.2.2.2.2.2.2.2.2.1 ((T.2.2.2.2.2.2.2.2.2.2.2.1 + 1) + 1)).toInt64) (48) (57)
      · refine kv_i (y := nI 1) (if_pos b_18) ?_
        refine lv_if_eq (tgt := 60) hx hb dX5_readsTokens_21 (by decide) (fun h => absurd h (by decide)) (fun _ => ?_)
        refine lv_aload_n hx hb dX5_readsTokens_24 rfl (lv_at hl 2 rfl) ?_
        refine va_get (D := D) (ci := 5) (v := .int (nI ((T.2.2.2.2.2.2.2.2.2.2.2.1 + 1) + 1))) (C := RX5) (T := TX5) (N := 16) hx hb hts (by decide +kernel) hown hK hP 0 rfl rfl 12 (by decide) (hts (.fieldLink RX5 174 "DanceHallModel" "place" "I") (by decide +kernel)) (fun _ h9 => h9) rfl dX5_readsTokens_25 ?_
        refine lv_iload_n hx hb dX5_readsTokens_28 rfl (lv_at hl 1 rfl) ?_
        refine lv_iconst (v := nI 2) hx hb dX5_readsTokens_29 (by decide) ?_
        refine lv_iadd hx hb dX5_readsTokens_30 ?_
        refine kv_i (y := nI (T.2.2.2.2.2.2.2.2.2.2.2.1 + 2)) (nI_add T.2.2.2.2.2.2.2.2.2.2.2.1 2) ?_
        refine lv_icmp_ge (tgt := 60) hx hb dX5_readsTokens_31 (by decide) (fun c_31 => ?_) (fun c_31 => False.elim ?_)
        · skip
          have c_31 : (T.2.2.2.2.2.2.2.2.2.2.2.1 + 2) ≤ ((T.2.2.2.2.2.2.2.2.2.2.2.1 + 1) + 1) := (nI_leI (a := T.2.2.2.2.2.2.2.2.2.2.2.1 + 2) (b := (T.2.2.2.2.2.2.2.2.2.2.2.1 + 1) + 1) (by omega) (by omega)).mp c_31
          refine lv_aload_n hx hb dX5_readsTokens_60 rfl (lv_at hl 2 rfl) ?_
          refine va_get (D := D) (ci := 5) (v := .ref (ra 10)) (C := RX5) (T := TX5) (N := 16) hx hb hts (by decide +kernel) hown hK hP 0 rfl rfl 13 (by decide) (hts (.fieldLink RX5 38 "DanceHallModel" "read" "[I") (by decide +kernel)) (fun _ h9 => h9) rfl dX5_readsTokens_61 ?_
          refine lv_iconst (v := nI 4) hx hb dX5_readsTokens_64 (by decide) ?_
          refine lv_aload_n hx hb dX5_readsTokens_65 rfl (lv_at hl 2 rfl) ?_
          refine va_get (D := D) (ci := 5) (v := .int (nI T.2.2.2.2.2.2.2.2.2.2.2.2.2.1)) (C := RX5) (T := TX5) (N := 16) hx hb hts (by decide +kernel) hown hK hP 0 rfl rfl 14 (by decide) (hts (.fieldLink RX5 184 "DanceHallModel" "guests" "I") (by decide +kernel)) (fun _ h9 => h9) rfl dX5_readsTokens_66 ?_
          refine lv_imul hx hb dX5_readsTokens_69 ?_
          refine kv_i (y := nI (4 * T.2.2.2.2.2.2.2.2.2.2.2.2.2.1)) (pk_mul 4 T.2.2.2.2.2.2.2.2.2.2.2.2.2.1) ?_
          refine lv_iconst (v := nI 1) hx hb dX5_readsTokens_70 (by decide) ?_
          refine lv_iadd hx hb dX5_readsTokens_71 ?_
          refine kv_i (y := nI ((4 * T.2.2.2.2.2.2.2.2.2.2.2.2.2.1) + 1)) (nI_add (4 * T.2.2.2.2.2.2.2.2.2.2.2.2.2.1) 1) ?_
          refine lv_iload_n hx hb dX5_readsTokens_72 rfl (lv_at hl 0 rfl) ?_
          refine va_iast hx hb hK hP hD hS 10 0 rfl rfl (vp_in_nI (n := (4 * T.2.2.2.2.2.2.2.2.2.2.2.2.2.1) + 1) (N := 64) (by omega) (by omega)) dX5_readsTokens_73 (fun H locs hP hD hS => ?_)
          rw [nI_clamp (n := (4 * T.2.2.2.2.2.2.2.2.2.2.2.2.2.1) + 1) (by omega)] at hP hD
          have hP : va_P D vwCl (bkF [mW cy ra (al, (T.1, T.2.1, T.2.2.1, T.2.2.2.1, T.2.2.2.2.1, T.2.2.2.2.2.1, T.2.2.2.2.2.2.1, T.2.2.2.2.2.2.2.1, T.2.2.2.2.2.2.2.2.1, T.2.2.2.2.2.2.2.2.2.1, T.2.2.2.2.2.2.2.2.2.2.1, (T.2.2.2.2.2.2.2.2.2.2.2.1 + 1) + 1, upd T.2.2.2.2.2.2.2.2.2.2.2.2.1 ((4 * T.2.2.2.2.2.2.2.2.2.2.2.2.2.1) + 1) (nI (10 * (kb9 T.2.2.2.2.2.2.2.2.2.1 T.2.2.2.2.2.2.2.2.2.2.2.1 - 48) + (kb9 T.2.2.2.2.2.2.2.2.2.1 (T.2.2.2.2.2.2.2.2.2.2.2.1 + 1) - 48))), T.2.2.2.2.2.2.2.2.2.2.2.2.2))]) H := hP
          have hD : va_D A (bkF [mW cy ra (al, (T.1, T.2.1, T.2.2.1, T.2.2.2.1, T.2.2.2.2.1, T.2.2.2.2.2.1, T.2.2.2.2.2.2.1, T.2.2.2.2.2.2.2.1, T.2.2.2.2.2.2.2.2.1, T.2.2.2.2.2.2.2.2.2.1, T.2.2.2.2.2.2.2.2.2.2.1, (T.2.2.2.2.2.2.2.2.2.2.2.1 + 1) + 1, upd T.2.2.2.2.2.2.2.2.2.2.2.2.1 ((4 * T.2.2.2.2.2.2.2.2.2.2.2.2.2.1) + 1) (nI (10 * (kb9 T.2.2.2.2.2.2.2.2.2.1 T.2.2.2.2.2.2.2.2.2.2.2.1 - 48) + (kb9 T.2.2.2.2.2.2.2.2.2.1 (T.2.2.2.2.2.2.2.2.2.2.2.1 + 1) - 48))), T.2.2.2.2.2.2.2.2.2.2.2.2.2))]) := hD
          refine lv_aload_n hx hb dX5_readsTokens_74 rfl (lv_at hl 2 rfl) ?_
          refine va_get (D := D) (ci := 5) (v := .int (nI ((T.2.2.2.2.2.2.2.2.2.2.2.1 + 1) + 1))) (C := RX5) (T := TX5) (N := 16) hx hb hts (by decide +kernel) hown hK hP 0 rfl rfl 12 (by decide) (hts (.fieldLink RX5 174 "DanceHallModel" "place" "I") (by decide +kernel)) (fun _ h9 => h9) rfl dX5_readsTokens_75 ?_
          refine lv_iload_n hx hb dX5_readsTokens_78 rfl (lv_at hl 1 rfl) ?_
          refine lv_icmp_le (tgt := 95) hx hb dX5_readsTokens_79 (by decide) (fun c_79 => False.elim ?_) (fun c_79 => ?_)
          · skip
            have c_79 : ((T.2.2.2.2.2.2.2.2.2.2.2.1 + 1) + 1) ≤ T.2.2.2.2.2.2.2.2.2.2.2.1 := (nI_leI (a := (T.2.2.2.2.2.2.2.2.2.2.2.1 + 1) + 1) (b := T.2.2.2.2.2.2.2.2.2.2.2.1) (by omega) (by omega)).mp c_79
            omega
          · skip
            have c_79 : ¬ (((T.2.2.2.2.2.2.2.2.2.2.2.1 + 1) + 1) ≤ T.2.2.2.2.2.2.2.2.2.2.2.1) := fun h => c_79 ((nI_leI (a := (T.2.2.2.2.2.2.2.2.2.2.2.1 + 1) + 1) (b := T.2.2.2.2.2.2.2.2.2.2.2.1) (by omega) (by omega)).mpr h)
            refine lv_aload_n hx hb dX5_readsTokens_82 rfl (lv_at hl 2 rfl) ?_
            refine lv_bipush (v := nI 44) hx hb dX5_readsTokens_83 (by decide) ?_
            refine kc_i (Cs := [mW cy ra (al, (T.1, T.2.1, T.2.2.1, T.2.2.2.1, T.2.2.2.2.1, T.2.2.2.2.2.1, T.2.2.2.2.2.2.1, T.2.2.2.2.2.2.2.1, T.2.2.2.2.2.2.2.2.1, T.2.2.2.2.2.2.2.2.2.1, T.2.2.2.2.2.2.2.2.2.2.1, (T.2.2.2.2.2.2.2.2.2.2.2.1 + 1) + 1, upd T.2.2.2.2.2.2.2.2.2.2.2.2.1 ((4 * T.2.2.2.2.2.2.2.2.2.2.2.2.2.1) + 1) (nI (10 * (kb9 T.2.2.2.2.2.2.2.2.2.1 T.2.2.2.2.2.2.2.2.2.2.2.1 - 48) + (kb9 T.2.2.2.2.2.2.2.2.2.1 (T.2.2.2.2.2.2.2.2.2.2.2.1 + 1) - 48))), T.2.2.2.2.2.2.2.2.2.2.2.2.2))]) (Rs := []) (Bs := [mW cy ra (al, (T.1, T.2.1, T.2.2.1, T.2.2.2.1, T.2.2.2.2.1, T.2.2.2.2.2.1, T.2.2.2.2.2.2.1, T.2.2.2.2.2.2.2.1, T.2.2.2.2.2.2.2.2.1, T.2.2.2.2.2.2.2.2.2.1, T.2.2.2.2.2.2.2.2.2.2.1, (T.2.2.2.2.2.2.2.2.2.2.2.1 + 1) + 1, upd T.2.2.2.2.2.2.2.2.2.2.2.2.1 ((4 * T.2.2.2.2.2.2.2.2.2.2.2.2.2.1) + 1) (nI (10 * (kb9 T.2.2.2.2.2.2.2.2.2.1 T.2.2.2.2.2.2.2.2.2.2.2.1 - 48) + (kb9 T.2.2.2.2.2.2.2.2.2.1 (T.2.2.2.2.2.2.2.2.2.2.2.1 + 1) - 48))), T.2.2.2.2.2.2.2.2.2.2.2.2.2))]) (Cs' := fun u_ : Unit => [mW cy ra (al, (T.1, T.2.1, T.2.2.1, T.2.2.2.1, T.2.2.2.2.1, T.2.2.2.2.2.1, T.2.2.2.2.2.2.1, T.2.2.2.2.2.2.2.1, T.2.2.2.2.2.2.2.2.1, T.2.2.2.2.2.2.2.2.2.1, T.2.2.2.2.2.2.2.2.2.2.1, ((T.2.2.2.2.2.2.2.2.2.2.2.1 + 1) + 1), (upd T.2.2.2.2.2.2.2.2.2.2.2.2.1 ((4 * T.2.2.2.2.2.2.2.2.2.2.2.2.2.1) + 1) (nI (10 * (kb9 T.2.2.2.2.2.2.2.2.2.1 T.2.2.2.2.2.2.2.2.2.2.2.1 - 48) + (kb9 T.2.2.2.2.2.2.2.2.2.1 (T.2.2.2.2.2.2.2.2.2.2.2.1 + 1) - 48)))), T.2.2.2.2.2.2.2.2.2.2.2.2.2))]) (Fs := fun u_ : Unit => [mW cy ra (al, (T.1, T.2.1, T.2.2.1, T.2.2.2.1, T.2.2.2.2.1, T.2.2.2.2.2.1, T.2.2.2.2.2.2.1, T.2.2.2.2.2.2.2.1, T.2.2.2.2.2.2.2.2.1, T.2.2.2.2.2.2.2.2.2.1, T.2.2.2.2.2.2.2.2.2.2.1, ((T.2.2.2.2.2.2.2.2.2.2.2.1 + 1) + 1), (upd T.2.2.2.2.2.2.2.2.2.2.2.2.1 ((4 * T.2.2.2.2.2.2.2.2.2.2.2.2.2.1) + 1) (nI (10 * (kb9 T.2.2.2.2.2.2.2.2.2.1 T.2.2.2.2.2.2.2.2.2.2.2.1 - 48) + (kb9 T.2.2.2.2.2.2.2.2.2.1 (T.2.2.2.2.2.2.2.2.2.2.2.1 + 1) - 48)))), T.2.2.2.2.2.2.2.2.2.2.2.2.2))]) hP hD hS hA [0] [] [0] rfl rfl (by decide) (by decide) (fun _ => rfl) (va_runV (As := [.int (nI 44)]) (rest := []) ⟨hx, hb, hml, hown, hts⟩ (c_X5_passes_n l D cy ra al (T.1, T.2.1, T.2.2.1, T.2.2.2.1, T.2.2.2.2.1, T.2.2.2.2.2.1, T.2.2.2.2.2.2.1, T.2.2.2.2.2.2.2.1, T.2.2.2.2.2.2.2.2.1, T.2.2.2.2.2.2.2.2.2.1, T.2.2.2.2.2.2.2.2.2.2.1, (T.2.2.2.2.2.2.2.2.2.2.2.1 + 1) + 1, upd T.2.2.2.2.2.2.2.2.2.2.2.2.1 ((4 * T.2.2.2.2.2.2.2.2.2.2.2.2.2.1) + 1) (nI (10 * (kb9 T.2.2.2.2.2.2.2.2.2.1 T.2.2.2.2.2.2.2.2.2.2.2.1 - 48) + (kb9 T.2.2.2.2.2.2.2.2.2.1 (T.2.2.2.2.2.2.2.2.2.2.2.1 + 1) - 48))), T.2.2.2.2.2.2.2.2.2.2.2.2.2) 44 (by (try dsimp only); first | assumption | omega | decide) (by (try dsimp only); first | assumption | omega | decide) (by (try dsimp only); first | assumption | omega | decide) hk3 H.size) (cwV 1 hts gX5_readsTokens_X5_passes rfl rfl rfl (by decide +kernel) ⟨Nat.le_of_ble_eq_true rfl, Nat.le_of_ble_eq_true rfl⟩) (kPre_V (ci := 5) hK hN hP hD [0] (by decide) rfl 0 rfl rfl) rfl rfl hl.1 rfl (lv_room (Nat.le_of_ble_eq_true rfl)) dX5_readsTokens_85 ⟨Nat.le_of_ble_eq_true rfl, Nat.le_of_ble_eq_true rfl⟩) (fun r_ u_ H locs hw hP hD hS => ?_)
            have hw : r_ = nI 0 := hw
            subst hw
            refine lv_if_eq (tgt := 95) hx hb dX5_readsTokens_88 (by decide) (fun _ => ?_) (fun h => absurd h (by decide))
            refine lv_iconst (v := nI 0) hx hb dX5_readsTokens_95 (by decide) ?_
            exact kr_i (post := fun r_ (u_ : Unit) => r_ = nI 0) (Bs := fun u_ : Unit => [mW cy ra (al, (T.1, T.2.1, T.2.2.1, T.2.2.2.1, T.2.2.2.2.1, T.2.2.2.2.2.1, T.2.2.2.2.2.2.1, T.2.2.2.2.2.2.2.1, T.2.2.2.2.2.2.2.2.1, T.2.2.2.2.2.2.2.2.2.1, T.2.2.2.2.2.2.2.2.2.2.1, T.2.2.2.2.2.2.2.2.2.2.2.1 + 1 + 1, upd T.2.2.2.2.2.2.2.2.2.2.2.2.1 (4 * T.2.2.2.2.2.2.2.2.2.2.2.2.2.1 + 1) (nI (10 * (kb9 T.2.2.2.2.2.2.2.2.2.1 T.2.2.2.2.2.2.2.2.2.2.2.1 - 48) + (kb9 T.2.2.2.2.2.2.2.2.2.1 (T.2.2.2.2.2.2.2.2.2.2.2.1 + 1) - 48))), T.2.2.2.2.2.2.2.2.2.2.2.2.2))]) hx hb hr hlocks rfl () hP hK hD hS rfl dX5_readsTokens_96 hQ
        · skip
          have c_31 : ¬ ((T.2.2.2.2.2.2.2.2.2.2.2.1 + 2) ≤ ((T.2.2.2.2.2.2.2.2.2.2.2.1 + 1) + 1)) := fun h => c_31 ((nI_leI (a := T.2.2.2.2.2.2.2.2.2.2.2.1 + 2) (b := (T.2.2.2.2.2.2.2.2.2.2.2.1 + 1) + 1) (by omega) (by omega)).mpr h)
          omega
      · refine kv_i (y := nI 0) (if_neg b_18) ?_
        refine lv_if_eq (tgt := 60) hx hb dX5_readsTokens_21 (by decide) (fun _ => ?_) (fun h => absurd h (by decide))
        refine lv_aload_n hx hb dX5_readsTokens_60 rfl (lv_at hl 2 rfl) ?_
        refine va_get (D := D) (ci := 5) (v := .ref (ra 10)) (C := RX5) (T := TX5) (N := 16) hx hb hts (by decide +kernel) hown hK hP 0 rfl rfl 13 (by decide) (hts (.fieldLink RX5 38 "DanceHallModel" "read" "[I") (by decide +kernel)) (fun _ h9 => h9) rfl dX5_readsTokens_61 ?_
        refine lv_iconst (v := nI 4) hx hb dX5_readsTokens_64 (by decide) ?_
        refine lv_aload_n hx hb dX5_readsTokens_65 rfl (lv_at hl 2 rfl) ?_
        refine va_get (D := D) (ci := 5) (v := .int (nI T.2.2.2.2.2.2.2.2.2.2.2.2.2.1)) (C := RX5) (T := TX5) (N := 16) hx hb hts (by decide +kernel) hown hK hP 0 rfl rfl 14 (by decide) (hts (.fieldLink RX5 184 "DanceHallModel" "guests" "I") (by decide +kernel)) (fun _ h9 => h9) rfl dX5_readsTokens_66 ?_
        refine lv_imul hx hb dX5_readsTokens_69 ?_
        refine kv_i (y := nI (4 * T.2.2.2.2.2.2.2.2.2.2.2.2.2.1)) (pk_mul 4 T.2.2.2.2.2.2.2.2.2.2.2.2.2.1) ?_
        refine lv_iconst (v := nI 1) hx hb dX5_readsTokens_70 (by decide) ?_
        refine lv_iadd hx hb dX5_readsTokens_71 ?_
        refine kv_i (y := nI ((4 * T.2.2.2.2.2.2.2.2.2.2.2.2.2.1) + 1)) (nI_add (4 * T.2.2.2.2.2.2.2.2.2.2.2.2.2.1) 1) ?_
        refine lv_iload_n hx hb dX5_readsTokens_72 rfl (lv_at hl 0 rfl) ?_
        refine va_iast hx hb hK hP hD hS 10 0 rfl rfl (vp_in_nI (n := (4 * T.2.2.2.2.2.2.2.2.2.2.2.2.2.1) + 1) (N := 64) (by omega) (by omega)) dX5_readsTokens_73 (fun H locs hP hD hS => ?_)
        rw [nI_clamp (n := (4 * T.2.2.2.2.2.2.2.2.2.2.2.2.2.1) + 1) (by omega)] at hP hD
        have hP : va_P D vwCl (bkF [mW cy ra (al, (T.1, T.2.1, T.2.2.1, T.2.2.2.1, T.2.2.2.2.1, T.2.2.2.2.2.1, T.2.2.2.2.2.2.1, T.2.2.2.2.2.2.2.1, T.2.2.2.2.2.2.2.2.1, T.2.2.2.2.2.2.2.2.2.1, T.2.2.2.2.2.2.2.2.2.2.1, (T.2.2.2.2.2.2.2.2.2.2.2.1 + 1) + 1, upd T.2.2.2.2.2.2.2.2.2.2.2.2.1 ((4 * T.2.2.2.2.2.2.2.2.2.2.2.2.2.1) + 1) (nI (10 * (kb9 T.2.2.2.2.2.2.2.2.2.1 T.2.2.2.2.2.2.2.2.2.2.2.1 - 48) + (kb9 T.2.2.2.2.2.2.2.2.2.1 (T.2.2.2.2.2.2.2.2.2.2.2.1 + 1) - 48))), T.2.2.2.2.2.2.2.2.2.2.2.2.2))]) H := hP
        have hD : va_D A (bkF [mW cy ra (al, (T.1, T.2.1, T.2.2.1, T.2.2.2.1, T.2.2.2.2.1, T.2.2.2.2.2.1, T.2.2.2.2.2.2.1, T.2.2.2.2.2.2.2.1, T.2.2.2.2.2.2.2.2.1, T.2.2.2.2.2.2.2.2.2.1, T.2.2.2.2.2.2.2.2.2.2.1, (T.2.2.2.2.2.2.2.2.2.2.2.1 + 1) + 1, upd T.2.2.2.2.2.2.2.2.2.2.2.2.1 ((4 * T.2.2.2.2.2.2.2.2.2.2.2.2.2.1) + 1) (nI (10 * (kb9 T.2.2.2.2.2.2.2.2.2.1 T.2.2.2.2.2.2.2.2.2.2.2.1 - 48) + (kb9 T.2.2.2.2.2.2.2.2.2.1 (T.2.2.2.2.2.2.2.2.2.2.2.1 + 1) - 48))), T.2.2.2.2.2.2.2.2.2.2.2.2.2))]) := hD
        refine lv_aload_n hx hb dX5_readsTokens_74 rfl (lv_at hl 2 rfl) ?_
        refine va_get (D := D) (ci := 5) (v := .int (nI ((T.2.2.2.2.2.2.2.2.2.2.2.1 + 1) + 1))) (C := RX5) (T := TX5) (N := 16) hx hb hts (by decide +kernel) hown hK hP 0 rfl rfl 12 (by decide) (hts (.fieldLink RX5 174 "DanceHallModel" "place" "I") (by decide +kernel)) (fun _ h9 => h9) rfl dX5_readsTokens_75 ?_
        refine lv_iload_n hx hb dX5_readsTokens_78 rfl (lv_at hl 1 rfl) ?_
        refine lv_icmp_le (tgt := 95) hx hb dX5_readsTokens_79 (by decide) (fun c_79 => False.elim ?_) (fun c_79 => ?_)
        · skip
          have c_79 : ((T.2.2.2.2.2.2.2.2.2.2.2.1 + 1) + 1) ≤ T.2.2.2.2.2.2.2.2.2.2.2.1 := (nI_leI (a := (T.2.2.2.2.2.2.2.2.2.2.2.1 + 1) + 1) (b := T.2.2.2.2.2.2.2.2.2.2.2.1) (by omega) (by omega)).mp c_79
          omega
        · skip
          have c_79 : ¬ (((T.2.2.2.2.2.2.2.2.2.2.2.1 + 1) + 1) ≤ T.2.2.2.2.2.2.2.2.2.2.2.1) := fun h => c_79 ((nI_leI (a := (T.2.2.2.2.2.2.2.2.2.2.2.1 + 1) + 1) (b := T.2.2.2.2.2.2.2.2.2.2.2.1) (by omega) (by omega)).mpr h)
          refine lv_aload_n hx hb dX5_readsTokens_82 rfl (lv_at hl 2 rfl) ?_
          refine lv_bipush (v := nI 44) hx hb dX5_readsTokens_83 (by decide) ?_
          refine kc_i (Cs := [mW cy ra (al, (T.1, T.2.1, T.2.2.1, T.2.2.2.1, T.2.2.2.2.1, T.2.2.2.2.2.1, T.2.2.2.2.2.2.1, T.2.2.2.2.2.2.2.1, T.2.2.2.2.2.2.2.2.1, T.2.2.2.2.2.2.2.2.2.1, T.2.2.2.2.2.2.2.2.2.2.1, (T.2.2.2.2.2.2.2.2.2.2.2.1 + 1) + 1, upd T.2.2.2.2.2.2.2.2.2.2.2.2.1 ((4 * T.2.2.2.2.2.2.2.2.2.2.2.2.2.1) + 1) (nI (10 * (kb9 T.2.2.2.2.2.2.2.2.2.1 T.2.2.2.2.2.2.2.2.2.2.2.1 - 48) + (kb9 T.2.2.2.2.2.2.2.2.2.1 (T.2.2.2.2.2.2.2.2.2.2.2.1 + 1) - 48))), T.2.2.2.2.2.2.2.2.2.2.2.2.2))]) (Rs := []) (Bs := [mW cy ra (al, (T.1, T.2.1, T.2.2.1, T.2.2.2.1, T.2.2.2.2.1, T.2.2.2.2.2.1, T.2.2.2.2.2.2.1, T.2.2.2.2.2.2.2.1, T.2.2.2.2.2.2.2.2.1, T.2.2.2.2.2.2.2.2.2.1, T.2.2.2.2.2.2.2.2.2.2.1, (T.2.2.2.2.2.2.2.2.2.2.2.1 + 1) + 1, upd T.2.2.2.2.2.2.2.2.2.2.2.2.1 ((4 * T.2.2.2.2.2.2.2.2.2.2.2.2.2.1) + 1) (nI (10 * (kb9 T.2.2.2.2.2.2.2.2.2.1 T.2.2.2.2.2.2.2.2.2.2.2.1 - 48) + (kb9 T.2.2.2.2.2.2.2.2.2.1 (T.2.2.2.2.2.2.2.2.2.2.2.1 + 1) - 48))), T.2.2.2.2.2.2.2.2.2.2.2.2.2))]) (Cs' := fun u_ : Unit => [mW cy ra (al, (T.1, T.2.1, T.2.2.1, T.2.2.2.1, T.2.2.2.2.1, T.2.2.2.2.2.1, T.2.2.2.2.2.2.1, T.2.2.2.2.2.2.2.1, T.2.2.2.2.2.2.2.2.1, T.2.2.2.2.2.2.2.2.2.1, T.2.2.2.2.2.2.2.2.2.2.1, ((T.2.2.2.2.2.2.2.2.2.2.2.1 + 1) + 1), (upd T.2.2.2.2.2.2.2.2.2.2.2.2.1 ((4 * T.2.2.2.2.2.2.2.2.2.2.2.2.2.1) + 1) (nI (10 * (kb9 T.2.2.2.2.2.2.2.2.2.1 T.2.2.2.2.2.2.2.2.2.2.2.1 - 48) + (kb9 T.2.2.2.2.2.2.2.2.2.1 (T.2.2.2.2.2.2.2.2.2.2.2.1 + 1) - 48)))), T.2.2.2.2.2.2.2.2.2.2.2.2.2))]) (Fs := fun u_ : Unit => [mW cy ra (al, (T.1, T.2.1, T.2.2.1, T.2.2.2.1, T.2.2.2.2.1, T.2.2.2.2.2.1, T.2.2.2.2.2.2.1, T.2.2.2.2.2.2.2.1, T.2.2.2.2.2.2.2.2.1, T.2.2.2.2.2.2.2.2.2.1, T.2.2.2.2.2.2.2.2.2.2.1, ((T.2.2.2.2.2.2.2.2.2.2.2.1 + 1) + 1), (upd T.2.2.2.2.2.2.2.2.2.2.2.2.1 ((4 * T.2.2.2.2.2.2.2.2.2.2.2.2.2.1) + 1) (nI (10 * (kb9 T.2.2.2.2.2.2.2.2.2.1 T.2.2.2.2.2.2.2.2.2.2.2.1 - 48) + (kb9 T.2.2.2.2.2.2.2.2.2.1 (T.2.2.2.2.2.2.2.2.2.2.2.1 + 1) - 48)))), T.2.2.2.2.2.2.2.2.2.2.2.2.2))]) hP hD hS hA [0] [] [0] rfl rfl (by decide) (by decide) (fun _ => rfl) (va_runV (As := [.int (nI 44)]) (rest := []) ⟨hx, hb, hml, hown, hts⟩ (c_X5_passes_n l D cy ra al (T.1, T.2.1, T.2.2.1, T.2.2.2.1, T.2.2.2.2.1, T.2.2.2.2.2.1, T.2.2.2.2.2.2.1, T.2.2.2.2.2.2.2.1, T.2.2.2.2.2.2.2.2.1, T.2.2.2.2.2.2.2.2.2.1, T.2.2.2.2.2.2.2.2.2.2.1, (T.2.2.2.2.2.2.2.2.2.2.2.1 + 1) + 1, upd T.2.2.2.2.2.2.2.2.2.2.2.2.1 ((4 * T.2.2.2.2.2.2.2.2.2.2.2.2.2.1) + 1) (nI (10 * (kb9 T.2.2.2.2.2.2.2.2.2.1 T.2.2.2.2.2.2.2.2.2.2.2.1 - 48) + (kb9 T.2.2.2.2.2.2.2.2.2.1 (T.2.2.2.2.2.2.2.2.2.2.2.1 + 1) - 48))), T.2.2.2.2.2.2.2.2.2.2.2.2.2) 44 (by (try dsimp only); first | assumption | omega | decide) (by (try dsimp only); first | assumption | omega | decide) (by (try dsimp only); first | assumption | omega | decide) hk3 H.size) (cwV 1 hts gX5_readsTokens_X5_passes rfl rfl rfl (by decide +kernel) ⟨Nat.le_of_ble_eq_true rfl, Nat.le_of_ble_eq_true rfl⟩) (kPre_V (ci := 5) hK hN hP hD [0] (by decide) rfl 0 rfl rfl) rfl rfl hl.1 rfl (lv_room (Nat.le_of_ble_eq_true rfl)) dX5_readsTokens_85 ⟨Nat.le_of_ble_eq_true rfl, Nat.le_of_ble_eq_true rfl⟩) (fun r_ u_ H locs hw hP hD hS => ?_)
          have hw : r_ = nI 0 := hw
          subst hw
          refine lv_if_eq (tgt := 95) hx hb dX5_readsTokens_88 (by decide) (fun _ => ?_) (fun h => absurd h (by decide))
          refine lv_iconst (v := nI 0) hx hb dX5_readsTokens_95 (by decide) ?_
          exact kr_i (post := fun r_ (u_ : Unit) => r_ = nI 0) (Bs := fun u_ : Unit => [mW cy ra (al, (T.1, T.2.1, T.2.2.1, T.2.2.2.1, T.2.2.2.2.1, T.2.2.2.2.2.1, T.2.2.2.2.2.2.1, T.2.2.2.2.2.2.2.1, T.2.2.2.2.2.2.2.2.1, T.2.2.2.2.2.2.2.2.2.1, T.2.2.2.2.2.2.2.2.2.2.1, T.2.2.2.2.2.2.2.2.2.2.2.1 + 1 + 1, upd T.2.2.2.2.2.2.2.2.2.2.2.2.1 (4 * T.2.2.2.2.2.2.2.2.2.2.2.2.2.1 + 1) (nI (10 * (kb9 T.2.2.2.2.2.2.2.2.2.1 T.2.2.2.2.2.2.2.2.2.2.2.1 - 48) + (kb9 T.2.2.2.2.2.2.2.2.2.1 (T.2.2.2.2.2.2.2.2.2.2.2.1 + 1) - 48))), T.2.2.2.2.2.2.2.2.2.2.2.2.2))]) hx hb hr hlocks rfl () hP hK hD hS rfl dX5_readsTokens_96 hQ
