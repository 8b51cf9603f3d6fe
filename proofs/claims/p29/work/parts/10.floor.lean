abbrev rm_X0_lendPair : Room := { frames := 0, cells := 0, slots := 0, locals := 0 }
set_option maxHeartbeats 1000000 in
set_option maxRecDepth 100000 in
/-- lendPair -/
theorem c_X0_lendPair (l : Launch) (D : va_G) (cy : Nat → ClassId) (fa : Nat → Nat) (Fl : rF) (z : Nat) (hz : z ≤ 9) (sz : Nat) : Met l yX0_lendPair wsX0_lendPair rm_X0_lendPair (va_Pc [.ref (fa 0), .int (nI z)] (kPre D (kT cy) [fW cy fa Fl] sz)) (va_Qi (fun r_ (u_ : Unit) => r_ = kPairV Fl.1 z) (kFr D (kT cy) [fW cy fa Fl] sz (fun u_ : Unit => [fW cy fa (kPairL Fl.1 z, Fl.2)])) (va_A (bkF [fW cy fa Fl]) sz)) 0 0 (va_A (bkF [fW cy fa Fl]) sz) := by
  refine kOpen (y := yX0_lendPair) (ws := wsX0_lendPair) (cc := cX0_lendPair) (maxL := 3) (ret := (some .int)) (av := [.ref (fa 0), .int (nI z)]) (Bs := [fW cy fa Fl]) (Qc := fun A => (va_Qi (fun r_ (u_ : Unit) => r_ = kPairV Fl.1 z) (fun (u_ : Unit) t9 => kEnd D (kT cy) A [fW cy fa (kPairL Fl.1 z, Fl.2)] t9) A)) (by decide) rfl (Nat.le_of_ble_eq_true rfl) ?_
  intro p e s m args below meth c A Q ls hQ hx hb hml hr hlocks hin hts hown hN hK hP hD hS hA hsz hAe hl
  clear hAe
  have hl : lv_has ls 3 [(0, .ref (fa 0)), (1, .int (nI z))] := hl
  suffices K9 : ∀ (H : Heap) (locs : List Loc), va_P D vwCl (bkF [fW cy fa Fl]) H → va_S A s.heap H locs → W p l e (headSpec wsX0_lendPair rm_X0_lendPair).room s m args below meth c H locs 0 0 Q (F0 m 0 ls []) from K9 _ _ hP hS
  clear hP hS
  intro H locs hP hS
  refine lv_aload_n hx hb dX0_lendPair_0 rfl (lv_at hl 0 rfl) ?_
  refine va_get (D := D) (ci := 0) (v := .ref (fa 1)) (C := RX0) (T := TX0) (N := 9) hx hb hts (by decide +kernel) hown hK hP 0 rfl rfl 0 (by decide) (hts (.fieldLink RX0 9 "DanceHall$Floor" "left" "[I") (by decide +kernel)) (fun _ h9 => h9) rfl dX0_lendPair_1 ?_
  refine lv_iload_n hx hb dX0_lendPair_4 rfl (lv_at hl 1 rfl) ?_
  refine va_iald hx hb hK hP 1 0 rfl rfl (vp_in_nI (n := z) (N := 10) (by omega) (by omega)) dX0_lendPair_5 ?_
  refine kv_i (y := Fl.1 z) (congrArg Fl.1 (nI_clamp (n := z) (by omega))) ?_
  refine lv_if_le (tgt := 13) hx hb dX0_lendPair_6 (by decide) (fun c_6 => ?_) (fun c_6 => ?_)
  · skip
    refine lv_iload_n hx hb dX0_lendPair_13 rfl (lv_at hl 1 rfl) ?_
    refine lv_iconst (v := nI 1) hx hb dX0_lendPair_14 (by decide) ?_
    refine lv_iadd hx hb dX0_lendPair_15 ?_
    refine kv_i (y := nI (z + 1)) (nI_add z 1) ?_
    refine lv_istore_n (lv' := [(2, .int (nI (z + 1))), (0, .ref (fa 0)), (1, .int (nI z))]) hx hb dX0_lendPair_16 rfl hl (by decide) rfl (fun ls hl => ?_)
    refine lv_iload_n hx hb dX0_lendPair_17 rfl (lv_at hl 0 rfl) ?_
    refine lv_bipush (v := nI 9) hx hb dX0_lendPair_18 (by decide) ?_
    refine lv_icmp_gt (tgt := 32) hx hb dX0_lendPair_20 (by decide) (fun c_20 => ?_) (fun c_20 => ?_)
    · skip
      have c_20 : 9 < (z + 1) := (nI_ltI (a := 9) (b := z + 1) (by omega) (by omega)).mp c_20
      refine lv_iconst (v := nI 0) hx hb dX0_lendPair_32 (by decide) ?_
      have hP := kP_cell (g := (kPairL Fl.1 z)) hP 1 rfl (fun _ _ => by rw [(kPair_b c_6 c_20).2])
      have hD := hD.set (p := 1) (e := .inl (cy 0, 10, .inl (kPairL Fl.1 z))) rfl
      have hP : va_P D vwCl (bkF [fW cy fa (kPairL Fl.1 z, Fl.2)]) H := hP
      have hD : va_D A (bkF [fW cy fa (kPairL Fl.1 z, Fl.2)]) := hD
      exact kr_i (post := fun r_ (u_ : Unit) => r_ = kPairV Fl.1 z) (Bs := fun u_ : Unit => [fW cy fa (kPairL Fl.1 z, Fl.2)]) hx hb hr hlocks rfl () hP hK hD hS (kPair_b c_6 c_20).1.symm dX0_lendPair_33 hQ
    · skip
      have c_20 : ¬ (9 < (z + 1)) := fun h => c_20 ((nI_ltI (a := 9) (b := z + 1) (by omega) (by omega)).mpr h)
      refine lv_aload_n hx hb dX0_lendPair_23 rfl (lv_at hl 1 rfl) ?_
      refine va_get (D := D) (ci := 0) (v := .ref (fa 1)) (C := RX0) (T := TX0) (N := 9) hx hb hts (by decide +kernel) hown hK hP 0 rfl rfl 0 (by decide) (hts (.fieldLink RX0 9 "DanceHall$Floor" "left" "[I") (by decide +kernel)) (fun _ h9 => h9) rfl dX0_lendPair_24 ?_
      refine lv_iload_n hx hb dX0_lendPair_27 rfl (lv_at hl 0 rfl) ?_
      refine va_iald hx hb hK hP 1 0 rfl rfl (vp_in_nI (n := z + 1) (N := 10) (by omega) (by omega)) dX0_lendPair_28 ?_
      refine kv_i (y := Fl.1 (z + 1)) (congrArg Fl.1 (nI_clamp (n := z + 1) (by omega))) ?_
      refine lv_if_ne (tgt := 34) hx hb dX0_lendPair_29 (by decide) (fun c_29 => ?_) (fun c_29 => ?_)
      · skip
        refine lv_aload_n hx hb dX0_lendPair_34 rfl (lv_at hl 1 rfl) ?_
        refine va_get (D := D) (ci := 0) (v := .ref (fa 1)) (C := RX0) (T := TX0) (N := 9) hx hb hts (by decide +kernel) hown hK hP 0 rfl rfl 0 (by decide) (hts (.fieldLink RX0 9 "DanceHall$Floor" "left" "[I") (by decide +kernel)) (fun _ h9 => h9) rfl dX0_lendPair_35 ?_
        refine lv_iload_n hx hb dX0_lendPair_38 rfl (lv_at hl 0 rfl) ?_
        refine lv_dup2_11 hx hb dX0_lendPair_39 rfl rfl ?_
        refine va_iald hx hb hK hP 1 0 rfl rfl (vp_in_nI (n := z + 1) (N := 10) (by omega) (by omega)) dX0_lendPair_40 ?_
        refine kv_i (y := Fl.1 (z + 1)) (congrArg Fl.1 (nI_clamp (n := z + 1) (by omega))) ?_
        refine lv_iconst (v := nI 1) hx hb dX0_lendPair_41 (by decide) ?_
        refine lv_isub hx hb dX0_lendPair_42 ?_
        refine va_iast hx hb hK hP hD hS 1 0 rfl rfl (vp_in_nI (n := z + 1) (N := 10) (by omega) (by omega)) dX0_lendPair_43 (fun H locs hP hD hS => ?_)
        rw [nI_clamp (n := z + 1) (by omega)] at hP hD
        have hP : va_P D vwCl (bkF [fW cy fa (upd Fl.1 (z + 1) ((Fl.1 (z + 1)) - (nI 1)), Fl.2)]) H := hP
        have hD : va_D A (bkF [fW cy fa (upd Fl.1 (z + 1) ((Fl.1 (z + 1)) - (nI 1)), Fl.2)]) := hD
        refine lv_iload_n hx hb dX0_lendPair_44 rfl (lv_at hl 0 rfl) ?_
        have hP := kP_cell (g := (kPairL Fl.1 z)) hP 1 rfl (fun _ _ => by rw [(kPair_d c_6 c_20 c_29).2])
        have hD := hD.set (p := 1) (e := .inl (cy 0, 10, .inl (kPairL Fl.1 z))) rfl
        have hP : va_P D vwCl (bkF [fW cy fa (kPairL Fl.1 z, Fl.2)]) H := hP
        have hD : va_D A (bkF [fW cy fa (kPairL Fl.1 z, Fl.2)]) := hD
        exact kr_i (post := fun r_ (u_ : Unit) => r_ = kPairV Fl.1 z) (Bs := fun u_ : Unit => [fW cy fa (kPairL Fl.1 z, Fl.2)]) hx hb hr hlocks rfl () hP hK hD hS (kPair_d c_6 c_20 c_29).1.symm dX0_lendPair_45 hQ
      · skip
        refine lv_iconst (v := nI 0) hx hb dX0_lendPair_32 (by decide) ?_
        have hP := kP_cell (g := (kPairL Fl.1 z)) hP 1 rfl (fun _ _ => by rw [(kPair_c c_6 c_29).2])
        have hD := hD.set (p := 1) (e := .inl (cy 0, 10, .inl (kPairL Fl.1 z))) rfl
        have hP : va_P D vwCl (bkF [fW cy fa (kPairL Fl.1 z, Fl.2)]) H := hP
        have hD : va_D A (bkF [fW cy fa (kPairL Fl.1 z, Fl.2)]) := hD
        exact kr_i (post := fun r_ (u_ : Unit) => r_ = kPairV Fl.1 z) (Bs := fun u_ : Unit => [fW cy fa (kPairL Fl.1 z, Fl.2)]) hx hb hr hlocks rfl () hP hK hD hS (kPair_c c_6 c_29).1.symm dX0_lendPair_33 hQ
  · skip
    refine lv_iload_n hx hb dX0_lendPair_9 rfl (lv_at hl 1 rfl) ?_
    refine lv_goto (tgt := 16) hx hb dX0_lendPair_10 (by decide) ?_
    refine lv_istore_n (lv' := [(2, .int (nI z)), (0, .ref (fa 0)), (1, .int (nI z))]) hx hb dX0_lendPair_16 rfl hl (by decide) rfl (fun ls hl => ?_)
    refine lv_iload_n hx hb dX0_lendPair_17 rfl (lv_at hl 0 rfl) ?_
    refine lv_bipush (v := nI 9) hx hb dX0_lendPair_18 (by decide) ?_
    refine lv_icmp_gt (tgt := 32) hx hb dX0_lendPair_20 (by decide) (fun c_20 => False.elim ?_) (fun c_20 => ?_)
    · skip
      have c_20 : 9 < z := (nI_ltI (a := 9) (b := z) (by omega) (by omega)).mp c_20
      omega
    · skip
      have c_20 : ¬ (9 < z) := fun h => c_20 ((nI_ltI (a := 9) (b := z) (by omega) (by omega)).mpr h)
      refine lv_aload_n hx hb dX0_lendPair_23 rfl (lv_at hl 1 rfl) ?_
      refine va_get (D := D) (ci := 0) (v := .ref (fa 1)) (C := RX0) (T := TX0) (N := 9) hx hb hts (by decide +kernel) hown hK hP 0 rfl rfl 0 (by decide) (hts (.fieldLink RX0 9 "DanceHall$Floor" "left" "[I") (by decide +kernel)) (fun _ h9 => h9) rfl dX0_lendPair_24 ?_
      refine lv_iload_n hx hb dX0_lendPair_27 rfl (lv_at hl 0 rfl) ?_
      refine va_iald hx hb hK hP 1 0 rfl rfl (vp_in_nI (n := z) (N := 10) (by omega) (by omega)) dX0_lendPair_28 ?_
      refine kv_i (y := Fl.1 z) (congrArg Fl.1 (nI_clamp (n := z) (by omega))) ?_
      refine lv_if_ne (tgt := 34) hx hb dX0_lendPair_29 (by decide) (fun c_29 => ?_) (fun c_29 => False.elim ?_)
      · skip
        refine lv_aload_n hx hb dX0_lendPair_34 rfl (lv_at hl 1 rfl) ?_
        refine va_get (D := D) (ci := 0) (v := .ref (fa 1)) (C := RX0) (T := TX0) (N := 9) hx hb hts (by decide +kernel) hown hK hP 0 rfl rfl 0 (by decide) (hts (.fieldLink RX0 9 "DanceHall$Floor" "left" "[I") (by decide +kernel)) (fun _ h9 => h9) rfl dX0_lendPair_35 ?_
        refine lv_iload_n hx hb dX0_lendPair_38 rfl (lv_at hl 0 rfl) ?_
        refine lv_dup2_11 hx hb dX0_lendPair_39 rfl rfl ?_
        refine va_iald hx hb hK hP 1 0 rfl rfl (vp_in_nI (n := z) (N := 10) (by omega) (by omega)) dX0_lendPair_40 ?_
        refine kv_i (y := Fl.1 z) (congrArg Fl.1 (nI_clamp (n := z) (by omega))) ?_
        refine lv_iconst (v := nI 1) hx hb dX0_lendPair_41 (by decide) ?_
        refine lv_isub hx hb dX0_lendPair_42 ?_
        refine va_iast hx hb hK hP hD hS 1 0 rfl rfl (vp_in_nI (n := z) (N := 10) (by omega) (by omega)) dX0_lendPair_43 (fun H locs hP hD hS => ?_)
        rw [nI_clamp (n := z) (by omega)] at hP hD
        have hP : va_P D vwCl (bkF [fW cy fa (upd Fl.1 z ((Fl.1 z) - (nI 1)), Fl.2)]) H := hP
        have hD : va_D A (bkF [fW cy fa (upd Fl.1 z ((Fl.1 z) - (nI 1)), Fl.2)]) := hD
        refine lv_iload_n hx hb dX0_lendPair_44 rfl (lv_at hl 0 rfl) ?_
        have hP := kP_cell (g := (kPairL Fl.1 z)) hP 1 rfl (fun _ _ => by rw [(kPair_a c_6 c_20 c_29).2])
        have hD := hD.set (p := 1) (e := .inl (cy 0, 10, .inl (kPairL Fl.1 z))) rfl
        have hP : va_P D vwCl (bkF [fW cy fa (kPairL Fl.1 z, Fl.2)]) H := hP
        have hD : va_D A (bkF [fW cy fa (kPairL Fl.1 z, Fl.2)]) := hD
        exact kr_i (post := fun r_ (u_ : Unit) => r_ = kPairV Fl.1 z) (Bs := fun u_ : Unit => [fW cy fa (kPairL Fl.1 z, Fl.2)]) hx hb hr hlocks rfl () hP hK hD hS (kPair_a c_6 c_20 c_29).1.symm dX0_lendPair_45 hQ
      · skip
        exact absurd (show Fl.1 z ≤ 0 by rw [c_29]; decide) c_6
abbrev rm_X0_lendTo_L : Room := { frames := 1, cells := 0, slots := 0, locals := 22 }
set_option maxHeartbeats 1000000 in
set_option maxRecDepth 100000 in
/-- lendTo: lentL -/
theorem c_X0_lendTo_L (l : Launch) (D : va_G) (cy : Nat → ClassId) (fa : Nat → Nat) (Fl : rF) (a : Nat → Nat) (k : Nat) (g : rG) (hn : g.2.2.2.2.2 ≤ 8) (hzz : kSz g) (sz : Nat) : Met l yX0_lendTo wsX0_lendTo rm_X0_lendTo_L (va_Pc [.ref (fa 0), .ref (a k), .ref (fa 3)] (kPre D (kT cy) [fW cy fa Fl, gW cy a k g] sz)) (va_Qi (fun r_ (u_ : Unit) => r_ = nI (kLn g Fl.1 Fl.2.2.1 g.2.2.2.2.2).2.2) (kFr D (kT cy) [fW cy fa Fl, gW cy a k g] sz (fun u_ : Unit => [fW cy fa ((kLn g Fl.1 Fl.2.2.1 g.2.2.2.2.2).1, Fl.2.1, (kLn g Fl.1 Fl.2.2.1 g.2.2.2.2.2).2.1, Fl.2.2.2), gW cy a k g])) (va_A (bkF [fW cy fa Fl, gW cy a k g]) sz)) 0 0 (va_A (bkF [fW cy fa Fl, gW cy a k g]) sz) := by
  refine kOpen (y := yX0_lendTo) (ws := wsX0_lendTo) (cc := cX0_lendTo) (maxL := 7) (ret := (some .int)) (av := [.ref (fa 0), .ref (a k), .ref (fa 3)]) (Bs := [fW cy fa Fl, gW cy a k g]) (Qc := fun A => (va_Qi (fun r_ (u_ : Unit) => r_ = nI (kLn g Fl.1 Fl.2.2.1 g.2.2.2.2.2).2.2) (fun (u_ : Unit) t9 => kEnd D (kT cy) A [fW cy fa ((kLn g Fl.1 Fl.2.2.1 g.2.2.2.2.2).1, Fl.2.1, (kLn g Fl.1 Fl.2.2.1 g.2.2.2.2.2).2.1, Fl.2.2.2), gW cy a k g] t9) A)) (by decide) rfl (Nat.le_of_ble_eq_true rfl) ?_
  intro p e s m args below meth c A Q ls hQ hx hb hml hr hlocks hin hts hown hN hK hP hD hS hA hsz hAe hl
  clear hAe
  have hl : lv_has ls 7 [(0, .ref (fa 0)), (1, .ref (a k)), (2, .ref (fa 3))] := hl
  suffices K9 : ∀ (H : Heap) (locs : List Loc), va_P D vwCl (bkF [fW cy fa Fl, gW cy a k g]) H → va_S A s.heap H locs → W p l e (headSpec wsX0_lendTo rm_X0_lendTo_L).room s m args below meth c H locs 0 0 Q (F0 m 0 ls []) from K9 _ _ hP hS
  clear hP hS
  intro H locs hP hS
  refine lv_iconst (v := nI 0) hx hb dX0_lendTo_0 (by decide) ?_
  refine lv_istore_n (lv' := [(3, .int (nI 0)), (0, .ref (fa 0)), (1, .ref (a k)), (2, .ref (fa 3))]) hx hb dX0_lendTo_1 rfl hl (by decide) rfl (fun ls hl => ?_)
  refine lv_iconst (v := nI 0) hx hb dX0_lendTo_2 (by decide) ?_
  refine lv_istore (lv' := [(4, .int (nI 0)), (3, .int (nI 0)), (0, .ref (fa 0)), (1, .ref (a k)), (2, .ref (fa 3))]) hx hb dX0_lendTo_3 hl (by decide) rfl (fun ls hl => ?_)
  have L_5 : ∀ (n9 : Nat) (i : Nat), g.2.2.2.2.2 - i = n9 → (i ≤ g.2.2.2.2.2) → ∀ (ls : Array Slot) (H : Heap) (locs : List Loc), va_P D vwCl (bkF [fW cy fa ((kLn g Fl.1 Fl.2.2.1 i).1, Fl.2.1, (kLn g Fl.1 Fl.2.2.1 i).2.1, Fl.2.2.2), gW cy a k g]) H → va_D A (bkF [fW cy fa ((kLn g Fl.1 Fl.2.2.1 i).1, Fl.2.1, (kLn g Fl.1 Fl.2.2.1 i).2.1, Fl.2.2.2), gW cy a k g]) → va_S A s.heap H locs → lv_has ls 7 [(0, .ref (fa 0)), (1, .ref (a k)), (2, .ref (fa 3)), (4, .int (nI i)), (3, .int (nI (kLn g Fl.1 Fl.2.2.1 i).2.2))] → W p l e (headSpec wsX0_lendTo rm_X0_lendTo_L).room s m args below meth c H locs 0 0 Q (F0 m 5 ls []) := by
    intro n9
    induction n9 using Nat.strongRecOn with
    | _ n9 ih_5 =>
    intro i hm_5 h5_0 ls H locs hP hD hS hl
    refine lv_iload hx hb dX0_lendTo_5 (lv_at hl 3 rfl) ?_
    refine lv_aload_n hx hb dX0_lendTo_7 rfl (lv_at hl 1 rfl) ?_
    refine va_get (D := D) (ci := 2) (v := .int (nI g.2.2.2.2.2)) (C := RX2) (T := TX2) (N := 6) hx hb hts (by decide +kernel) hown hK hP 7 rfl rfl 5 (by decide) (hts (.fieldLink RX0 57 "DanceHall$Guests" "count" "I") (by decide +kernel)) (fun _ h9 => h9) rfl dX0_lendTo_8 ?_
    refine lv_icmp_ge (tgt := 109) hx hb dX0_lendTo_11 (by decide) (fun c_11 => ?_) (fun c_11 => ?_)
    · skip
      have c_11 : g.2.2.2.2.2 ≤ i := (nI_leI (a := g.2.2.2.2.2) (b := i) (by omega) (by omega)).mp c_11
      refine lv_iload_n hx hb dX0_lendTo_109 rfl (lv_at hl 4 rfl) ?_
      have hP := kP_cell (g := (kLn g Fl.1 Fl.2.2.1 g.2.2.2.2.2).1) hP 1 rfl (fun _ _ => by rw [show g.2.2.2.2.2 = i from by omega])
      have hD := hD.set (p := 1) (e := .inl (cy 0, 10, .inl (kLn g Fl.1 Fl.2.2.1 g.2.2.2.2.2).1)) rfl
      have hP : va_P D vwCl (bkF [fW cy fa ((kLn g Fl.1 Fl.2.2.1 g.2.2.2.2.2).1, Fl.2.1, (kLn g Fl.1 Fl.2.2.1 i).2.1, Fl.2.2.2), gW cy a k g]) H := hP
      have hD : va_D A (bkF [fW cy fa ((kLn g Fl.1 Fl.2.2.1 g.2.2.2.2.2).1, Fl.2.1, (kLn g Fl.1 Fl.2.2.1 i).2.1, Fl.2.2.2), gW cy a k g]) := hD
      have hP := kP_cell (g := (kLn g Fl.1 Fl.2.2.1 g.2.2.2.2.2).2.1) hP 3 rfl (fun _ _ => by rw [show g.2.2.2.2.2 = i from by omega])
      have hD := hD.set (p := 3) (e := .inl (cy 0, 8, .inl (kLn g Fl.1 Fl.2.2.1 g.2.2.2.2.2).2.1)) rfl
      have hP : va_P D vwCl (bkF [fW cy fa ((kLn g Fl.1 Fl.2.2.1 g.2.2.2.2.2).1, Fl.2.1, (kLn g Fl.1 Fl.2.2.1 g.2.2.2.2.2).2.1, Fl.2.2.2), gW cy a k g]) H := hP
      have hD : va_D A (bkF [fW cy fa ((kLn g Fl.1 Fl.2.2.1 g.2.2.2.2.2).1, Fl.2.1, (kLn g Fl.1 Fl.2.2.1 g.2.2.2.2.2).2.1, Fl.2.2.2), gW cy a k g]) := hD
      exact kr_i (post := fun r_ (u_ : Unit) => r_ = nI (kLn g Fl.1 Fl.2.2.1 g.2.2.2.2.2).2.2) (Bs := fun u_ : Unit => [fW cy fa ((kLn g Fl.1 Fl.2.2.1 g.2.2.2.2.2).1, Fl.2.1, (kLn g Fl.1 Fl.2.2.1 g.2.2.2.2.2).2.1, Fl.2.2.2), gW cy a k g]) hx hb hr hlocks rfl () hP hK hD hS (by rw [show g.2.2.2.2.2 = i from by omega]) dX0_lendTo_110 hQ
    · skip
      have c_11 : ¬ (g.2.2.2.2.2 ≤ i) := fun h => c_11 ((nI_leI (a := g.2.2.2.2.2) (b := i) (by omega) (by omega)).mpr h)
      refine lv_aload_n hx hb dX0_lendTo_14 rfl (lv_at hl 1 rfl) ?_
      refine va_get (D := D) (ci := 2) (v := .ref (a (k + 4))) (C := RX2) (T := TX2) (N := 6) hx hb hts (by decide +kernel) hown hK hP 7 rfl rfl 3 (by decide) (hts (.fieldLink RX0 62 "DanceHall$Guests" "here" "[Z") (by decide +kernel)) (fun _ h9 => h9) rfl dX0_lendTo_15 ?_
      refine lv_iload hx hb dX0_lendTo_18 (lv_at hl 3 rfl) ?_
      refine va_zald hx hb hK hP 11 1 rfl rfl (vp_in_nI (n := i) (N := 8) (by omega) (by omega)) dX0_lendTo_20 ?_
      refine kv_i (y := g.2.2.2.1 i) (congrArg g.2.2.2.1 (nI_clamp (n := i) (by omega))) ?_
      refine lv_if_eq (tgt := 38) hx hb dX0_lendTo_21 (by decide) (fun c_21 => ?_) (fun c_21 => ?_)
      · skip
        refine lv_iconst (v := nI 0) hx hb dX0_lendTo_38 (by decide) ?_
        refine lv_istore (lv' := [(5, .int (nI 0)), (0, .ref (fa 0)), (1, .ref (a k)), (2, .ref (fa 3)), (4, .int (nI i)), (3, .int (nI (kLn g Fl.1 Fl.2.2.1 i).2.2))]) hx hb dX0_lendTo_39 hl (by decide) rfl (fun ls hl => ?_)
        refine lv_aload_n hx hb dX0_lendTo_41 rfl (lv_at hl 2 rfl) ?_
        refine va_get (D := D) (ci := 2) (v := .ref (a (k + 3))) (C := RX2) (T := TX2) (N := 6) hx hb hts (by decide +kernel) hown hK hP 7 rfl rfl 2 (by decide) (hts (.fieldLink RX0 69 "DanceHall$Guests" "ownShoes" "[Z") (by decide +kernel)) (fun _ h9 => h9) rfl dX0_lendTo_42 ?_
        refine lv_iload hx hb dX0_lendTo_45 (lv_at hl 4 rfl) ?_
        refine va_zald hx hb hK hP 10 1 rfl rfl (vp_in_nI (n := i) (N := 8) (by omega) (by omega)) dX0_lendTo_47 ?_
        refine kv_i (y := g.2.2.1 i) (congrArg g.2.2.1 (nI_clamp (n := i) (by omega))) ?_
        refine lv_istore (lv' := [(6, .int (g.2.2.1 i)), (5, .int (nI 0)), (0, .ref (fa 0)), (1, .ref (a k)), (2, .ref (fa 3)), (4, .int (nI i)), (3, .int (nI (kLn g Fl.1 Fl.2.2.1 i).2.2))]) hx hb dX0_lendTo_48 hl (by decide) rfl (fun ls hl => ?_)
        refine lv_aload_n hx hb dX0_lendTo_50 rfl (lv_at hl 4 rfl) ?_
        refine lv_iload hx hb dX0_lendTo_51 (lv_at hl 5 rfl) ?_
        refine lv_iload hx hb dX0_lendTo_53 (lv_at hl 1 rfl) ?_
        refine lv_if_eq (tgt := 77) hx hb dX0_lendTo_55 (by decide) (fun _ => ?_) (fun h => absurd h (by decide))
        refine lv_iconst (v := nI 0) hx hb dX0_lendTo_77 (by decide) ?_
        refine va_iast hx hb hK hP hD hS 3 0 rfl rfl (vp_in_nI (n := i) (N := 8) (by omega) (by omega)) dX0_lendTo_78 (fun H locs hP hD hS => ?_)
        rw [nI_clamp (n := i) (by omega)] at hP hD
        have hP : va_P D vwCl (bkF [fW cy fa ((kLn g Fl.1 Fl.2.2.1 i).1, Fl.2.1, upd (kLn g Fl.1 Fl.2.2.1 i).2.1 i (nI 0), Fl.2.2.2), gW cy a k g]) H := hP
        have hD : va_D A (bkF [fW cy fa ((kLn g Fl.1 Fl.2.2.1 i).1, Fl.2.1, upd (kLn g Fl.1 Fl.2.2.1 i).2.1 i (nI 0), Fl.2.2.2), gW cy a k g]) := hD
        refine lv_iload hx hb dX0_lendTo_79 (lv_at hl 1 rfl) ?_
        refine lv_if_eq (tgt := 103) hx hb dX0_lendTo_81 (by decide) (fun _ => ?_) (fun h => absurd h (by decide))
        refine lv_iinc (v := nI (i + 1)) (lv' := [(4, .int (nI (i + 1))), (6, .int (g.2.2.1 i)), (5, .int (nI 0)), (0, .ref (fa 0)), (1, .ref (a k)), (2, .ref (fa 3)), (3, .int (nI (kLn g Fl.1 Fl.2.2.1 i).2.2))]) hx hb dX0_lendTo_103 hl (k := 5) rfl (nI_add i 1) (by decide) rfl (fun ls hl => ?_)
        refine lv_goto (tgt := 5) hx hb dX0_lendTo_106 (by decide) ?_
        have hP := kP_cell (g := (kLn g Fl.1 Fl.2.2.1 (i + 1)).1) hP 1 rfl (fun _ _ => by rw [show kLn g Fl.1 Fl.2.2.1 (i + 1) = _ from kLn_n (fun h => h.1 c_21)])
        have hD := hD.set (p := 1) (e := .inl (cy 0, 10, .inl (kLn g Fl.1 Fl.2.2.1 (i + 1)).1)) rfl
        have hP : va_P D vwCl (bkF [fW cy fa ((kLn g Fl.1 Fl.2.2.1 (i + 1)).1, Fl.2.1, upd (kLn g Fl.1 Fl.2.2.1 i).2.1 i (nI 0), Fl.2.2.2), gW cy a k g]) H := hP
        have hD : va_D A (bkF [fW cy fa ((kLn g Fl.1 Fl.2.2.1 (i + 1)).1, Fl.2.1, upd (kLn g Fl.1 Fl.2.2.1 i).2.1 i (nI 0), Fl.2.2.2), gW cy a k g]) := hD
        have hP := kP_cell (g := (kLn g Fl.1 Fl.2.2.1 (i + 1)).2.1) hP 3 rfl (fun _ _ => by rw [show kLn g Fl.1 Fl.2.2.1 (i + 1) = _ from kLn_n (fun h => h.1 c_21)])
        have hD := hD.set (p := 3) (e := .inl (cy 0, 8, .inl (kLn g Fl.1 Fl.2.2.1 (i + 1)).2.1)) rfl
        have hP : va_P D vwCl (bkF [fW cy fa ((kLn g Fl.1 Fl.2.2.1 (i + 1)).1, Fl.2.1, (kLn g Fl.1 Fl.2.2.1 (i + 1)).2.1, Fl.2.2.2), gW cy a k g]) H := hP
        have hD : va_D A (bkF [fW cy fa ((kLn g Fl.1 Fl.2.2.1 (i + 1)).1, Fl.2.1, (kLn g Fl.1 Fl.2.2.1 (i + 1)).2.1, Fl.2.2.2), gW cy a k g]) := hD
        have e7 : (kLn g Fl.1 Fl.2.2.1 (i + 1)).2.2 = (kLn g Fl.1 Fl.2.2.1 i).2.2 := congrArg (fun q => q.2.2) (kLn_n (fun h => h.1 c_21))
        rw [← e7] at hl
        exact ih_5 _ (by omega) (i + 1) rfl (by omega) ls H locs hP hD hS (lv_sub hl [3, 4, 5, 0, 6] rfl)
      · skip
        refine lv_aload_n hx hb dX0_lendTo_24 rfl (lv_at hl 1 rfl) ?_
        refine va_get (D := D) (ci := 2) (v := .ref (a (k + 1))) (C := RX2) (T := TX2) (N := 6) hx hb hts (by decide +kernel) hown hK hP 7 rfl rfl 0 (by decide) (hts (.fieldLink RX0 66 "DanceHall$Guests" "tokens" "[I") (by decide +kernel)) (fun _ h9 => h9) rfl dX0_lendTo_25 ?_
        refine lv_iload hx hb dX0_lendTo_28 (lv_at hl 3 rfl) ?_
        refine va_iald hx hb hK hP 8 0 rfl rfl (vp_in_nI (n := i) (N := 8) (by omega) (by omega)) dX0_lendTo_30 ?_
        refine kv_i (y := g.1 i) (congrArg g.1 (nI_clamp (n := i) (by omega))) ?_
        refine lv_if_le (tgt := 38) hx hb dX0_lendTo_31 (by decide) (fun c_31 => ?_) (fun c_31 => ?_)
        · skip
          refine lv_iconst (v := nI 0) hx hb dX0_lendTo_38 (by decide) ?_
          refine lv_istore (lv' := [(5, .int (nI 0)), (0, .ref (fa 0)), (1, .ref (a k)), (2, .ref (fa 3)), (4, .int (nI i)), (3, .int (nI (kLn g Fl.1 Fl.2.2.1 i).2.2))]) hx hb dX0_lendTo_39 hl (by decide) rfl (fun ls hl => ?_)
          refine lv_aload_n hx hb dX0_lendTo_41 rfl (lv_at hl 2 rfl) ?_
          refine va_get (D := D) (ci := 2) (v := .ref (a (k + 3))) (C := RX2) (T := TX2) (N := 6) hx hb hts (by decide +kernel) hown hK hP 7 rfl rfl 2 (by decide) (hts (.fieldLink RX0 69 "DanceHall$Guests" "ownShoes" "[Z") (by decide +kernel)) (fun _ h9 => h9) rfl dX0_lendTo_42 ?_
          refine lv_iload hx hb dX0_lendTo_45 (lv_at hl 4 rfl) ?_
          refine va_zald hx hb hK hP 10 1 rfl rfl (vp_in_nI (n := i) (N := 8) (by omega) (by omega)) dX0_lendTo_47 ?_
          refine kv_i (y := g.2.2.1 i) (congrArg g.2.2.1 (nI_clamp (n := i) (by omega))) ?_
          refine lv_istore (lv' := [(6, .int (g.2.2.1 i)), (5, .int (nI 0)), (0, .ref (fa 0)), (1, .ref (a k)), (2, .ref (fa 3)), (4, .int (nI i)), (3, .int (nI (kLn g Fl.1 Fl.2.2.1 i).2.2))]) hx hb dX0_lendTo_48 hl (by decide) rfl (fun ls hl => ?_)
          refine lv_aload_n hx hb dX0_lendTo_50 rfl (lv_at hl 4 rfl) ?_
          refine lv_iload hx hb dX0_lendTo_51 (lv_at hl 5 rfl) ?_
          refine lv_iload hx hb dX0_lendTo_53 (lv_at hl 1 rfl) ?_
          refine lv_if_eq (tgt := 77) hx hb dX0_lendTo_55 (by decide) (fun _ => ?_) (fun h => absurd h (by decide))
          refine lv_iconst (v := nI 0) hx hb dX0_lendTo_77 (by decide) ?_
          refine va_iast hx hb hK hP hD hS 3 0 rfl rfl (vp_in_nI (n := i) (N := 8) (by omega) (by omega)) dX0_lendTo_78 (fun H locs hP hD hS => ?_)
          rw [nI_clamp (n := i) (by omega)] at hP hD
          have hP : va_P D vwCl (bkF [fW cy fa ((kLn g Fl.1 Fl.2.2.1 i).1, Fl.2.1, upd (kLn g Fl.1 Fl.2.2.1 i).2.1 i (nI 0), Fl.2.2.2), gW cy a k g]) H := hP
          have hD : va_D A (bkF [fW cy fa ((kLn g Fl.1 Fl.2.2.1 i).1, Fl.2.1, upd (kLn g Fl.1 Fl.2.2.1 i).2.1 i (nI 0), Fl.2.2.2), gW cy a k g]) := hD
          refine lv_iload hx hb dX0_lendTo_79 (lv_at hl 1 rfl) ?_
          refine lv_if_eq (tgt := 103) hx hb dX0_lendTo_81 (by decide) (fun _ => ?_) (fun h => absurd h (by decide))
          refine lv_iinc (v := nI (i + 1)) (lv' := [(4, .int (nI (i + 1))), (6, .int (g.2.2.1 i)), (5, .int (nI 0)), (0, .ref (fa 0)), (1, .ref (a k)), (2, .ref (fa 3)), (3, .int (nI (kLn g Fl.1 Fl.2.2.1 i).2.2))]) hx hb dX0_lendTo_103 hl (k := 5) rfl (nI_add i 1) (by decide) rfl (fun ls hl => ?_)
          refine lv_goto (tgt := 5) hx hb dX0_lendTo_106 (by decide) ?_
          have hP := kP_cell (g := (kLn g Fl.1 Fl.2.2.1 (i + 1)).1) hP 1 rfl (fun _ _ => by rw [show kLn g Fl.1 Fl.2.2.1 (i + 1) = _ from kLn_n (fun h => h.2 c_31)])
          have hD := hD.set (p := 1) (e := .inl (cy 0, 10, .inl (kLn g Fl.1 Fl.2.2.1 (i + 1)).1)) rfl
          have hP : va_P D vwCl (bkF [fW cy fa ((kLn g Fl.1 Fl.2.2.1 (i + 1)).1, Fl.2.1, upd (kLn g Fl.1 Fl.2.2.1 i).2.1 i (nI 0), Fl.2.2.2), gW cy a k g]) H := hP
          have hD : va_D A (bkF [fW cy fa ((kLn g Fl.1 Fl.2.2.1 (i + 1)).1, Fl.2.1, upd (kLn g Fl.1 Fl.2.2.1 i).2.1 i (nI 0), Fl.2.2.2), gW cy a k g]) := hD
          have hP := kP_cell (g := (kLn g Fl.1 Fl.2.2.1 (i + 1)).2.1) hP 3 rfl (fun _ _ => by rw [show kLn g Fl.1 Fl.2.2.1 (i + 1) = _ from kLn_n (fun h => h.2 c_31)])
          have hD := hD.set (p := 3) (e := .inl (cy 0, 8, .inl (kLn g Fl.1 Fl.2.2.1 (i + 1)).2.1)) rfl
          have hP : va_P D vwCl (bkF [fW cy fa ((kLn g Fl.1 Fl.2.2.1 (i + 1)).1, Fl.2.1, (kLn g Fl.1 Fl.2.2.1 (i + 1)).2.1, Fl.2.2.2), gW cy a k g]) H := hP
          have hD : va_D A (bkF [fW cy fa ((kLn g Fl.1 Fl.2.2.1 (i + 1)).1, Fl.2.1, (kLn g Fl.1 Fl.2.2.1 (i + 1)).2.1, Fl.2.2.2), gW cy a k g]) := hD
          have e7 : (kLn g Fl.1 Fl.2.2.1 (i + 1)).2.2 = (kLn g Fl.1 Fl.2.2.1 i).2.2 := congrArg (fun q => q.2.2) (kLn_n (fun h => h.2 c_31))
          rw [← e7] at hl
          exact ih_5 _ (by omega) (i + 1) rfl (by omega) ls H locs hP hD hS (lv_sub hl [3, 4, 5, 0, 6] rfl)
        · skip
          refine lv_iconst (v := nI 1) hx hb dX0_lendTo_34 (by decide) ?_
          refine lv_goto (tgt := 39) hx hb dX0_lendTo_35 (by decide) ?_
          refine lv_istore (lv' := [(5, .int (nI 1)), (0, .ref (fa 0)), (1, .ref (a k)), (2, .ref (fa 3)), (4, .int (nI i)), (3, .int (nI (kLn g Fl.1 Fl.2.2.1 i).2.2))]) hx hb dX0_lendTo_39 hl (by decide) rfl (fun ls hl => ?_)
          refine lv_aload_n hx hb dX0_lendTo_41 rfl (lv_at hl 2 rfl) ?_
          refine va_get (D := D) (ci := 2) (v := .ref (a (k + 3))) (C := RX2) (T := TX2) (N := 6) hx hb hts (by decide +kernel) hown hK hP 7 rfl rfl 2 (by decide) (hts (.fieldLink RX0 69 "DanceHall$Guests" "ownShoes" "[Z") (by decide +kernel)) (fun _ h9 => h9) rfl dX0_lendTo_42 ?_
          refine lv_iload hx hb dX0_lendTo_45 (lv_at hl 4 rfl) ?_
          refine va_zald hx hb hK hP 10 1 rfl rfl (vp_in_nI (n := i) (N := 8) (by omega) (by omega)) dX0_lendTo_47 ?_
          refine kv_i (y := g.2.2.1 i) (congrArg g.2.2.1 (nI_clamp (n := i) (by omega))) ?_
          refine lv_istore (lv' := [(6, .int (g.2.2.1 i)), (5, .int (nI 1)), (0, .ref (fa 0)), (1, .ref (a k)), (2, .ref (fa 3)), (4, .int (nI i)), (3, .int (nI (kLn g Fl.1 Fl.2.2.1 i).2.2))]) hx hb dX0_lendTo_48 hl (by decide) rfl (fun ls hl => ?_)
          refine lv_aload_n hx hb dX0_lendTo_50 rfl (lv_at hl 4 rfl) ?_
          refine lv_iload hx hb dX0_lendTo_51 (lv_at hl 5 rfl) ?_
          refine lv_iload hx hb dX0_lendTo_53 (lv_at hl 1 rfl) ?_
          refine lv_if_eq (tgt := 77) hx hb dX0_lendTo_55 (by decide) (fun h => absurd h (by decide)) (fun _ => ?_)
          refine lv_iload hx hb dX0_lendTo_58 (lv_at hl 0 rfl) ?_
          refine lv_if_ne (tgt := 77) hx hb dX0_lendTo_60 (by decide) (fun c_60 => ?_) (fun c_60 => ?_)
          · skip
            refine lv_iconst (v := nI 0) hx hb dX0_lendTo_77 (by decide) ?_
            refine va_iast hx hb hK hP hD hS 3 0 rfl rfl (vp_in_nI (n := i) (N := 8) (by omega) (by omega)) dX0_lendTo_78 (fun H locs hP hD hS => ?_)
            rw [nI_clamp (n := i) (by omega)] at hP hD
            have hP : va_P D vwCl (bkF [fW cy fa ((kLn g Fl.1 Fl.2.2.1 i).1, Fl.2.1, upd (kLn g Fl.1 Fl.2.2.1 i).2.1 i (nI 0), Fl.2.2.2), gW cy a k g]) H := hP
            have hD : va_D A (bkF [fW cy fa ((kLn g Fl.1 Fl.2.2.1 i).1, Fl.2.1, upd (kLn g Fl.1 Fl.2.2.1 i).2.1 i (nI 0), Fl.2.2.2), gW cy a k g]) := hD
            refine lv_iload hx hb dX0_lendTo_79 (lv_at hl 1 rfl) ?_
            refine lv_if_eq (tgt := 103) hx hb dX0_lendTo_81 (by decide) (fun h => absurd h (by decide)) (fun _ => ?_)
            refine lv_iload hx hb dX0_lendTo_84 (lv_at hl 0 rfl) ?_
            refine lv_if_ne (tgt := 96) hx hb dX0_lendTo_86 (by decide) (fun c_86 => ?_) (fun c_86 => False.elim ?_)
            · skip
              refine lv_iload_n hx hb dX0_lendTo_96 rfl (lv_at hl 6 rfl) ?_
              refine lv_iconst (v := nI 1) hx hb dX0_lendTo_97 (by decide) ?_
              refine lv_iload hx hb dX0_lendTo_98 (lv_at hl 5 rfl) ?_
              refine lv_ishl hx hb dX0_lendTo_100 ?_
              refine kv_i (y := nI (2 ^ i)) (kshl (i := i) (by omega)) ?_
              refine lv_ior hx hb dX0_lendTo_101 ?_
              refine kv_i (y := nI ((kLn g Fl.1 Fl.2.2.1 i).2.2 ||| (2 ^ i))) (kn_or (kLn g Fl.1 Fl.2.2.1 i).2.2 (2 ^ i)) ?_
              refine lv_istore_n (lv' := [(3, .int (nI ((kLn g Fl.1 Fl.2.2.1 i).2.2 ||| (2 ^ i)))), (6, .int (g.2.2.1 i)), (5, .int (nI 1)), (0, .ref (fa 0)), (1, .ref (a k)), (2, .ref (fa 3)), (4, .int (nI i))]) hx hb dX0_lendTo_102 rfl hl (by decide) rfl (fun ls hl => ?_)
              refine lv_iinc (v := nI (i + 1)) (lv' := [(4, .int (nI (i + 1))), (3, .int (nI ((kLn g Fl.1 Fl.2.2.1 i).2.2 ||| (2 ^ i)))), (6, .int (g.2.2.1 i)), (5, .int (nI 1)), (0, .ref (fa 0)), (1, .ref (a k)), (2, .ref (fa 3))]) hx hb dX0_lendTo_103 hl (k := 6) rfl (nI_add i 1) (by decide) rfl (fun ls hl => ?_)
              refine lv_goto (tgt := 5) hx hb dX0_lendTo_106 (by decide) ?_
              have hP := kP_cell (g := (kLn g Fl.1 Fl.2.2.1 (i + 1)).1) hP 1 rfl (fun _ _ => by rw [show kLn g Fl.1 Fl.2.2.1 (i + 1) = _ from kLn_o ⟨c_21, c_31⟩ c_60])
              have hD := hD.set (p := 1) (e := .inl (cy 0, 10, .inl (kLn g Fl.1 Fl.2.2.1 (i + 1)).1)) rfl
              have hP : va_P D vwCl (bkF [fW cy fa ((kLn g Fl.1 Fl.2.2.1 (i + 1)).1, Fl.2.1, upd (kLn g Fl.1 Fl.2.2.1 i).2.1 i (nI 0), Fl.2.2.2), gW cy a k g]) H := hP
              have hD : va_D A (bkF [fW cy fa ((kLn g Fl.1 Fl.2.2.1 (i + 1)).1, Fl.2.1, upd (kLn g Fl.1 Fl.2.2.1 i).2.1 i (nI 0), Fl.2.2.2), gW cy a k g]) := hD
              have hP := kP_cell (g := (kLn g Fl.1 Fl.2.2.1 (i + 1)).2.1) hP 3 rfl (fun _ _ => by rw [show kLn g Fl.1 Fl.2.2.1 (i + 1) = _ from kLn_o ⟨c_21, c_31⟩ c_60])
              have hD := hD.set (p := 3) (e := .inl (cy 0, 8, .inl (kLn g Fl.1 Fl.2.2.1 (i + 1)).2.1)) rfl
              have hP : va_P D vwCl (bkF [fW cy fa ((kLn g Fl.1 Fl.2.2.1 (i + 1)).1, Fl.2.1, (kLn g Fl.1 Fl.2.2.1 (i + 1)).2.1, Fl.2.2.2), gW cy a k g]) H := hP
              have hD : va_D A (bkF [fW cy fa ((kLn g Fl.1 Fl.2.2.1 (i + 1)).1, Fl.2.1, (kLn g Fl.1 Fl.2.2.1 (i + 1)).2.1, Fl.2.2.2), gW cy a k g]) := hD
              have e7 : (kLn g Fl.1 Fl.2.2.1 (i + 1)).2.2 = (kLn g Fl.1 Fl.2.2.1 i).2.2 ||| (2 ^ i) := congrArg (fun q => q.2.2) (kLn_o ⟨c_21, c_31⟩ c_60)
              rw [← e7] at hl
              exact ih_5 _ (by omega) (i + 1) rfl (by omega) ls H locs hP hD hS (lv_sub hl [4, 5, 6, 0, 1] rfl)
            · skip
              exact c_60 c_86
          · skip
            refine lv_aload_n hx hb dX0_lendTo_63 rfl (lv_at hl 2 rfl) ?_
            refine lv_aload_n hx hb dX0_lendTo_64 rfl (lv_at hl 3 rfl) ?_
            refine va_get (D := D) (ci := 2) (v := .ref (a (k + 2))) (C := RX2) (T := TX2) (N := 6) hx hb hts (by decide +kernel) hown hK hP 7 rfl rfl 1 (by decide) (hts (.fieldLink RX0 72 "DanceHall$Guests" "sizes" "[I") (by decide +kernel)) (fun _ h9 => h9) rfl dX0_lendTo_65 ?_
            refine lv_iload hx hb dX0_lendTo_68 (lv_at hl 5 rfl) ?_
            refine va_iald hx hb hK hP 9 0 rfl rfl (vp_in_nI (n := i) (N := 8) (by omega) (by omega)) dX0_lendTo_70 ?_
            refine kv_i (y := nI (kz9 g i)) (by rw [nI_clamp (n := i) (by omega)]; exact (hzz i (by omega)).1) ?_
            refine kc_i (Cs := [fW cy fa ((kLn g Fl.1 Fl.2.2.1 i).1, Fl.2.1, (kLn g Fl.1 Fl.2.2.1 i).2.1, Fl.2.2.2)]) (Rs := [gW cy a k g]) (Bs := [fW cy fa ((kLn g Fl.1 Fl.2.2.1 i).1, Fl.2.1, (kLn g Fl.1 Fl.2.2.1 i).2.1, Fl.2.2.2), gW cy a k g]) (Cs' := fun u_ : Unit => [fW cy fa (kPairL (kLn g Fl.1 Fl.2.2.1 i).1 (kz9 g i), Fl.2.1, (kLn g Fl.1 Fl.2.2.1 i).2.1, Fl.2.2.2.1, Fl.2.2.2.2.1, Fl.2.2.2.2.2.1, Fl.2.2.2.2.2.2.1, Fl.2.2.2.2.2.2.2.1, Fl.2.2.2.2.2.2.2.2)]) (Fs := fun u_ : Unit => [fW cy fa (kPairL (kLn g Fl.1 Fl.2.2.1 i).1 (kz9 g i), Fl.2.1, (kLn g Fl.1 Fl.2.2.1 i).2.1, Fl.2.2.2.1, Fl.2.2.2.2.1, Fl.2.2.2.2.2.1, Fl.2.2.2.2.2.2.1, Fl.2.2.2.2.2.2.2.1, Fl.2.2.2.2.2.2.2.2), gW cy a k g]) hP hD hS hA [0] [1] [1, 0] rfl rfl (by decide) (by decide) (fun _ => rfl) (va_runV (As := [.int (nI (kz9 g i))]) (rest := [.int (nI i), .ref (fa 3)]) ⟨hx, hb, hml, hown, hts⟩ (c_X0_lendPair l D cy fa ((kLn g Fl.1 Fl.2.2.1 i).1, Fl.2.1, (kLn g Fl.1 Fl.2.2.1 i).2.1, Fl.2.2.2) (kz9 g i) ((hzz i (by omega)).2.2) H.size) (cwV 1 hts gX0_lendTo_X0_lendPair rfl rfl rfl (by decide +kernel) ⟨Nat.le_of_ble_eq_true rfl, Nat.le_of_ble_eq_true rfl⟩) (kPre_V (ci := 0) hK hN hP hD [0] (by decide) rfl 0 rfl rfl) rfl rfl hl.1 rfl (lv_room (Nat.le_of_ble_eq_true rfl)) dX0_lendTo_71 ⟨Nat.le_of_ble_eq_true rfl, Nat.le_of_ble_eq_true rfl⟩) (fun r_ u_ H locs hw hP hD hS => ?_)
            have hw : r_ = kPairV (kLn g Fl.1 Fl.2.2.1 i).1 (kz9 g i) := hw
            subst hw
            refine lv_goto (tgt := 78) hx hb dX0_lendTo_74 (by decide) ?_
            refine va_iast hx hb hK hP hD hS 3 0 rfl rfl (vp_in_nI (n := i) (N := 8) (by omega) (by omega)) dX0_lendTo_78 (fun H locs hP hD hS => ?_)
            rw [nI_clamp (n := i) (by omega)] at hP hD
            have hP : va_P D vwCl (bkF [fW cy fa (kPairL (kLn g Fl.1 Fl.2.2.1 i).1 (kz9 g i), Fl.2.1, upd (kLn g Fl.1 Fl.2.2.1 i).2.1 i (kPairV (kLn g Fl.1 Fl.2.2.1 i).1 (kz9 g i)), Fl.2.2.2.1, Fl.2.2.2.2.1, Fl.2.2.2.2.2.1, Fl.2.2.2.2.2.2.1, Fl.2.2.2.2.2.2.2.1, Fl.2.2.2.2.2.2.2.2), gW cy a k g]) H := hP
            have hD : va_D A (bkF [fW cy fa (kPairL (kLn g Fl.1 Fl.2.2.1 i).1 (kz9 g i), Fl.2.1, upd (kLn g Fl.1 Fl.2.2.1 i).2.1 i (kPairV (kLn g Fl.1 Fl.2.2.1 i).1 (kz9 g i)), Fl.2.2.2.1, Fl.2.2.2.2.1, Fl.2.2.2.2.2.1, Fl.2.2.2.2.2.2.1, Fl.2.2.2.2.2.2.2.1, Fl.2.2.2.2.2.2.2.2), gW cy a k g]) := hD
            refine lv_iload hx hb dX0_lendTo_79 (lv_at hl 1 rfl) ?_
            refine lv_if_eq (tgt := 103) hx hb dX0_lendTo_81 (by decide) (fun h => absurd h (by decide)) (fun _ => ?_)
            refine lv_iload hx hb dX0_lendTo_84 (lv_at hl 0 rfl) ?_
            refine lv_if_ne (tgt := 96) hx hb dX0_lendTo_86 (by decide) (fun c_86 => False.elim ?_) (fun c_86 => ?_)
            · skip
              exact c_86 c_60
            · skip
              refine lv_aload_n hx hb dX0_lendTo_89 rfl (lv_at hl 4 rfl) ?_
              refine lv_iload hx hb dX0_lendTo_90 (lv_at hl 5 rfl) ?_
              refine va_iald hx hb hK hP 3 0 rfl rfl (vp_in_nI (n := i) (N := 8) (by omega) (by omega)) dX0_lendTo_92 ?_
              refine kv_i (y := (kPairV (kLn g Fl.1 Fl.2.2.1 i).1 (kz9 g i))) (by rw [nI_clamp (n := i) (by omega)]; exact pk_us) ?_
              refine lv_if_eq (tgt := 103) hx hb dX0_lendTo_93 (by decide) (fun c_93 => ?_) (fun c_93 => ?_)
              · skip
                refine lv_iinc (v := nI (i + 1)) (lv' := [(4, .int (nI (i + 1))), (6, .int (g.2.2.1 i)), (5, .int (nI 1)), (0, .ref (fa 0)), (1, .ref (a k)), (2, .ref (fa 3)), (3, .int (nI (kLn g Fl.1 Fl.2.2.1 i).2.2))]) hx hb dX0_lendTo_103 hl (k := 5) rfl (nI_add i 1) (by decide) rfl (fun ls hl => ?_)
                refine lv_goto (tgt := 5) hx hb dX0_lendTo_106 (by decide) ?_
                have hP := kP_cell (g := (kLn g Fl.1 Fl.2.2.1 (i + 1)).1) hP 1 rfl (fun _ _ => by rw [show kLn g Fl.1 Fl.2.2.1 (i + 1) = _ from kLn_z ⟨c_21, c_31⟩ c_60 c_93])
                have hD := hD.set (p := 1) (e := .inl (cy 0, 10, .inl (kLn g Fl.1 Fl.2.2.1 (i + 1)).1)) rfl
                have hP : va_P D vwCl (bkF [fW cy fa ((kLn g Fl.1 Fl.2.2.1 (i + 1)).1, Fl.2.1, upd (kLn g Fl.1 Fl.2.2.1 i).2.1 i (kPairV (kLn g Fl.1 Fl.2.2.1 i).1 (kz9 g i)), Fl.2.2.2.1, Fl.2.2.2.2.1, Fl.2.2.2.2.2.1, Fl.2.2.2.2.2.2.1, Fl.2.2.2.2.2.2.2.1, Fl.2.2.2.2.2.2.2.2), gW cy a k g]) H := hP
                have hD : va_D A (bkF [fW cy fa ((kLn g Fl.1 Fl.2.2.1 (i + 1)).1, Fl.2.1, upd (kLn g Fl.1 Fl.2.2.1 i).2.1 i (kPairV (kLn g Fl.1 Fl.2.2.1 i).1 (kz9 g i)), Fl.2.2.2.1, Fl.2.2.2.2.1, Fl.2.2.2.2.2.1, Fl.2.2.2.2.2.2.1, Fl.2.2.2.2.2.2.2.1, Fl.2.2.2.2.2.2.2.2), gW cy a k g]) := hD
                have hP := kP_cell (g := (kLn g Fl.1 Fl.2.2.1 (i + 1)).2.1) hP 3 rfl (fun _ _ => by rw [show kLn g Fl.1 Fl.2.2.1 (i + 1) = _ from kLn_z ⟨c_21, c_31⟩ c_60 c_93])
                have hD := hD.set (p := 3) (e := .inl (cy 0, 8, .inl (kLn g Fl.1 Fl.2.2.1 (i + 1)).2.1)) rfl
                have hP : va_P D vwCl (bkF [fW cy fa ((kLn g Fl.1 Fl.2.2.1 (i + 1)).1, Fl.2.1, (kLn g Fl.1 Fl.2.2.1 (i + 1)).2.1, Fl.2.2.2.1, Fl.2.2.2.2.1, Fl.2.2.2.2.2.1, Fl.2.2.2.2.2.2.1, Fl.2.2.2.2.2.2.2.1, Fl.2.2.2.2.2.2.2.2), gW cy a k g]) H := hP
                have hD : va_D A (bkF [fW cy fa ((kLn g Fl.1 Fl.2.2.1 (i + 1)).1, Fl.2.1, (kLn g Fl.1 Fl.2.2.1 (i + 1)).2.1, Fl.2.2.2.1, Fl.2.2.2.2.1, Fl.2.2.2.2.2.1, Fl.2.2.2.2.2.2.1, Fl.2.2.2.2.2.2.2.1, Fl.2.2.2.2.2.2.2.2), gW cy a k g]) := hD
                have e7 : (kLn g Fl.1 Fl.2.2.1 (i + 1)).2.2 = (kLn g Fl.1 Fl.2.2.1 i).2.2 := congrArg (fun q => q.2.2) (kLn_z ⟨c_21, c_31⟩ c_60 c_93)
                rw [← e7] at hl
                exact ih_5 _ (by omega) (i + 1) rfl (by omega) ls H locs hP hD hS (lv_sub hl [3, 4, 5, 0, 6] rfl)
              · skip
                refine lv_iload_n hx hb dX0_lendTo_96 rfl (lv_at hl 6 rfl) ?_
                refine lv_iconst (v := nI 1) hx hb dX0_lendTo_97 (by decide) ?_
                refine lv_iload hx hb dX0_lendTo_98 (lv_at hl 5 rfl) ?_
                refine lv_ishl hx hb dX0_lendTo_100 ?_
                refine kv_i (y := nI (2 ^ i)) (kshl (i := i) (by omega)) ?_
                refine lv_ior hx hb dX0_lendTo_101 ?_
                refine kv_i (y := nI ((kLn g Fl.1 Fl.2.2.1 i).2.2 ||| (2 ^ i))) (kn_or (kLn g Fl.1 Fl.2.2.1 i).2.2 (2 ^ i)) ?_
                refine lv_istore_n (lv' := [(3, .int (nI ((kLn g Fl.1 Fl.2.2.1 i).2.2 ||| (2 ^ i)))), (6, .int (g.2.2.1 i)), (5, .int (nI 1)), (0, .ref (fa 0)), (1, .ref (a k)), (2, .ref (fa 3)), (4, .int (nI i))]) hx hb dX0_lendTo_102 rfl hl (by decide) rfl (fun ls hl => ?_)
                refine lv_iinc (v := nI (i + 1)) (lv' := [(4, .int (nI (i + 1))), (3, .int (nI ((kLn g Fl.1 Fl.2.2.1 i).2.2 ||| (2 ^ i)))), (6, .int (g.2.2.1 i)), (5, .int (nI 1)), (0, .ref (fa 0)), (1, .ref (a k)), (2, .ref (fa 3))]) hx hb dX0_lendTo_103 hl (k := 6) rfl (nI_add i 1) (by decide) rfl (fun ls hl => ?_)
                refine lv_goto (tgt := 5) hx hb dX0_lendTo_106 (by decide) ?_
                have hP := kP_cell (g := (kLn g Fl.1 Fl.2.2.1 (i + 1)).1) hP 1 rfl (fun _ _ => by rw [show kLn g Fl.1 Fl.2.2.1 (i + 1) = _ from kLn_p ⟨c_21, c_31⟩ c_60 c_93])
                have hD := hD.set (p := 1) (e := .inl (cy 0, 10, .inl (kLn g Fl.1 Fl.2.2.1 (i + 1)).1)) rfl
                have hP : va_P D vwCl (bkF [fW cy fa ((kLn g Fl.1 Fl.2.2.1 (i + 1)).1, Fl.2.1, upd (kLn g Fl.1 Fl.2.2.1 i).2.1 i (kPairV (kLn g Fl.1 Fl.2.2.1 i).1 (kz9 g i)), Fl.2.2.2.1, Fl.2.2.2.2.1, Fl.2.2.2.2.2.1, Fl.2.2.2.2.2.2.1, Fl.2.2.2.2.2.2.2.1, Fl.2.2.2.2.2.2.2.2), gW cy a k g]) H := hP
                have hD : va_D A (bkF [fW cy fa ((kLn g Fl.1 Fl.2.2.1 (i + 1)).1, Fl.2.1, upd (kLn g Fl.1 Fl.2.2.1 i).2.1 i (kPairV (kLn g Fl.1 Fl.2.2.1 i).1 (kz9 g i)), Fl.2.2.2.1, Fl.2.2.2.2.1, Fl.2.2.2.2.2.1, Fl.2.2.2.2.2.2.1, Fl.2.2.2.2.2.2.2.1, Fl.2.2.2.2.2.2.2.2), gW cy a k g]) := hD
                have hP := kP_cell (g := (kLn g Fl.1 Fl.2.2.1 (i + 1)).2.1) hP 3 rfl (fun _ _ => by rw [show kLn g Fl.1 Fl.2.2.1 (i + 1) = _ from kLn_p ⟨c_21, c_31⟩ c_60 c_93])
                have hD := hD.set (p := 3) (e := .inl (cy 0, 8, .inl (kLn g Fl.1 Fl.2.2.1 (i + 1)).2.1)) rfl
                have hP : va_P D vwCl (bkF [fW cy fa ((kLn g Fl.1 Fl.2.2.1 (i + 1)).1, Fl.2.1, (kLn g Fl.1 Fl.2.2.1 (i + 1)).2.1, Fl.2.2.2.1, Fl.2.2.2.2.1, Fl.2.2.2.2.2.1, Fl.2.2.2.2.2.2.1, Fl.2.2.2.2.2.2.2.1, Fl.2.2.2.2.2.2.2.2), gW cy a k g]) H := hP
                have hD : va_D A (bkF [fW cy fa ((kLn g Fl.1 Fl.2.2.1 (i + 1)).1, Fl.2.1, (kLn g Fl.1 Fl.2.2.1 (i + 1)).2.1, Fl.2.2.2.1, Fl.2.2.2.2.1, Fl.2.2.2.2.2.1, Fl.2.2.2.2.2.2.1, Fl.2.2.2.2.2.2.2.1, Fl.2.2.2.2.2.2.2.2), gW cy a k g]) := hD
                have e7 : (kLn g Fl.1 Fl.2.2.1 (i + 1)).2.2 = (kLn g Fl.1 Fl.2.2.1 i).2.2 ||| (2 ^ i) := congrArg (fun q => q.2.2) (kLn_p ⟨c_21, c_31⟩ c_60 c_93)
                rw [← e7] at hl
                exact ih_5 _ (by omega) (i + 1) rfl (by omega) ls H locs hP hD hS (lv_sub hl [4, 5, 6, 0, 1] rfl)
  exact L_5 _ 0  rfl (by omega) ls H locs hP hD hS (lv_sub hl [2, 3, 4, 0, 1] rfl)
abbrev rm_X0_lendTo_F : Room := { frames := 1, cells := 0, slots := 0, locals := 22 }
set_option maxHeartbeats 1000000 in
set_option maxRecDepth 100000 in
/-- lendTo: lentF -/
theorem c_X0_lendTo_F (l : Launch) (D : va_G) (cy : Nat → ClassId) (fa : Nat → Nat) (Fl : rF) (a : Nat → Nat) (k : Nat) (g : rG) (hn : g.2.2.2.2.2 ≤ 8) (hzz : kSz g) (sz : Nat) : Met l yX0_lendTo wsX0_lendTo rm_X0_lendTo_F (va_Pc [.ref (fa 0), .ref (a k), .ref (fa 4)] (kPre D (kT cy) [fW cy fa Fl, gW cy a k g] sz)) (va_Qi (fun r_ (u_ : Unit) => r_ = nI (kLn g Fl.1 Fl.2.2.2.1 g.2.2.2.2.2).2.2) (kFr D (kT cy) [fW cy fa Fl, gW cy a k g] sz (fun u_ : Unit => [fW cy fa ((kLn g Fl.1 Fl.2.2.2.1 g.2.2.2.2.2).1, Fl.2.1, Fl.2.2.1, (kLn g Fl.1 Fl.2.2.2.1 g.2.2.2.2.2).2.1, Fl.2.2.2.2), gW cy a k g])) (va_A (bkF [fW cy fa Fl, gW cy a k g]) sz)) 0 0 (va_A (bkF [fW cy fa Fl, gW cy a k g]) sz) := by
  refine kOpen (y := yX0_lendTo) (ws := wsX0_lendTo) (cc := cX0_lendTo) (maxL := 7) (ret := (some .int)) (av := [.ref (fa 0), .ref (a k), .ref (fa 4)]) (Bs := [fW cy fa Fl, gW cy a k g]) (Qc := fun A => (va_Qi (fun r_ (u_ : Unit) => r_ = nI (kLn g Fl.1 Fl.2.2.2.1 g.2.2.2.2.2).2.2) (fun (u_ : Unit) t9 => kEnd D (kT cy) A [fW cy fa ((kLn g Fl.1 Fl.2.2.2.1 g.2.2.2.2.2).1, Fl.2.1, Fl.2.2.1, (kLn g Fl.1 Fl.2.2.2.1 g.2.2.2.2.2).2.1, Fl.2.2.2.2), gW cy a k g] t9) A)) (by decide) rfl (Nat.le_of_ble_eq_true rfl) ?_
  intro p e s m args below meth c A Q ls hQ hx hb hml hr hlocks hin hts hown hN hK hP hD hS hA hsz hAe hl
  clear hAe
  have hl : lv_has ls 7 [(0, .ref (fa 0)), (1, .ref (a k)), (2, .ref (fa 4))] := hl
  suffices K9 : ∀ (H : Heap) (locs : List Loc), va_P D vwCl (bkF [fW cy fa Fl, gW cy a k g]) H → va_S A s.heap H locs → W p l e (headSpec wsX0_lendTo rm_X0_lendTo_F).room s m args below meth c H locs 0 0 Q (F0 m 0 ls []) from K9 _ _ hP hS
  clear hP hS
  intro H locs hP hS
  refine lv_iconst (v := nI 0) hx hb dX0_lendTo_0 (by decide) ?_
  refine lv_istore_n (lv' := [(3, .int (nI 0)), (0, .ref (fa 0)), (1, .ref (a k)), (2, .ref (fa 4))]) hx hb dX0_lendTo_1 rfl hl (by decide) rfl (fun ls hl => ?_)
  refine lv_iconst (v := nI 0) hx hb dX0_lendTo_2 (by decide) ?_
  refine lv_istore (lv' := [(4, .int (nI 0)), (3, .int (nI 0)), (0, .ref (fa 0)), (1, .ref (a k)), (2, .ref (fa 4))]) hx hb dX0_lendTo_3 hl (by decide) rfl (fun ls hl => ?_)
  have L_5 : ∀ (n9 : Nat) (i : Nat), g.2.2.2.2.2 - i = n9 → (i ≤ g.2.2.2.2.2) → ∀ (ls : Array Slot) (H : Heap) (locs : List Loc), va_P D vwCl (bkF [fW cy fa ((kLn g Fl.1 Fl.2.2.2.1 i).1, Fl.2.1, Fl.2.2.1, (kLn g Fl.1 Fl.2.2.2.1 i).2.1, Fl.2.2.2.2), gW cy a k g]) H → va_D A (bkF [fW cy fa ((kLn g Fl.1 Fl.2.2.2.1 i).1, Fl.2.1, Fl.2.2.1, (kLn g Fl.1 Fl.2.2.2.1 i).2.1, Fl.2.2.2.2), gW cy a k g]) → va_S A s.heap H locs → lv_has ls 7 [(0, .ref (fa 0)), (1, .ref (a k)), (2, .ref (fa 4)), (4, .int (nI i)), (3, .int (nI (kLn g Fl.1 Fl.2.2.2.1 i).2.2))] → W p l e (headSpec wsX0_lendTo rm_X0_lendTo_F).room s m args below meth c H locs 0 0 Q (F0 m 5 ls []) := by
    intro n9
    induction n9 using Nat.strongRecOn with
    | _ n9 ih_5 =>
    intro i hm_5 h5_0 ls H locs hP hD hS hl
    refine lv_iload hx hb dX0_lendTo_5 (lv_at hl 3 rfl) ?_
    refine lv_aload_n hx hb dX0_lendTo_7 rfl (lv_at hl 1 rfl) ?_
    refine va_get (D := D) (ci := 2) (v := .int (nI g.2.2.2.2.2)) (C := RX2) (T := TX2) (N := 6) hx hb hts (by decide +kernel) hown hK hP 7 rfl rfl 5 (by decide) (hts (.fieldLink RX0 57 "DanceHall$Guests" "count" "I") (by decide +kernel)) (fun _ h9 => h9) rfl dX0_lendTo_8 ?_
    refine lv_icmp_ge (tgt := 109) hx hb dX0_lendTo_11 (by decide) (fun c_11 => ?_) (fun c_11 => ?_)
    · skip
      have c_11 : g.2.2.2.2.2 ≤ i := (nI_leI (a := g.2.2.2.2.2) (b := i) (by omega) (by omega)).mp c_11
      refine lv_iload_n hx hb dX0_lendTo_109 rfl (lv_at hl 4 rfl) ?_
      have hP := kP_cell (g := (kLn g Fl.1 Fl.2.2.2.1 g.2.2.2.2.2).1) hP 1 rfl (fun _ _ => by rw [show g.2.2.2.2.2 = i from by omega])
      have hD := hD.set (p := 1) (e := .inl (cy 0, 10, .inl (kLn g Fl.1 Fl.2.2.2.1 g.2.2.2.2.2).1)) rfl
      have hP : va_P D vwCl (bkF [fW cy fa ((kLn g Fl.1 Fl.2.2.2.1 g.2.2.2.2.2).1, Fl.2.1, Fl.2.2.1, (kLn g Fl.1 Fl.2.2.2.1 i).2.1, Fl.2.2.2.2), gW cy a k g]) H := hP
      have hD : va_D A (bkF [fW cy fa ((kLn g Fl.1 Fl.2.2.2.1 g.2.2.2.2.2).1, Fl.2.1, Fl.2.2.1, (kLn g Fl.1 Fl.2.2.2.1 i).2.1, Fl.2.2.2.2), gW cy a k g]) := hD
      have hP := kP_cell (g := (kLn g Fl.1 Fl.2.2.2.1 g.2.2.2.2.2).2.1) hP 4 rfl (fun _ _ => by rw [show g.2.2.2.2.2 = i from by omega])
      have hD := hD.set (p := 4) (e := .inl (cy 0, 8, .inl (kLn g Fl.1 Fl.2.2.2.1 g.2.2.2.2.2).2.1)) rfl
      have hP : va_P D vwCl (bkF [fW cy fa ((kLn g Fl.1 Fl.2.2.2.1 g.2.2.2.2.2).1, Fl.2.1, Fl.2.2.1, (kLn g Fl.1 Fl.2.2.2.1 g.2.2.2.2.2).2.1, Fl.2.2.2.2), gW cy a k g]) H := hP
      have hD : va_D A (bkF [fW cy fa ((kLn g Fl.1 Fl.2.2.2.1 g.2.2.2.2.2).1, Fl.2.1, Fl.2.2.1, (kLn g Fl.1 Fl.2.2.2.1 g.2.2.2.2.2).2.1, Fl.2.2.2.2), gW cy a k g]) := hD
      exact kr_i (post := fun r_ (u_ : Unit) => r_ = nI (kLn g Fl.1 Fl.2.2.2.1 g.2.2.2.2.2).2.2) (Bs := fun u_ : Unit => [fW cy fa ((kLn g Fl.1 Fl.2.2.2.1 g.2.2.2.2.2).1, Fl.2.1, Fl.2.2.1, (kLn g Fl.1 Fl.2.2.2.1 g.2.2.2.2.2).2.1, Fl.2.2.2.2), gW cy a k g]) hx hb hr hlocks rfl () hP hK hD hS (by rw [show g.2.2.2.2.2 = i from by omega]) dX0_lendTo_110 hQ
    · skip
      have c_11 : ¬ (g.2.2.2.2.2 ≤ i) := fun h => c_11 ((nI_leI (a := g.2.2.2.2.2) (b := i) (by omega) (by omega)).mpr h)
      refine lv_aload_n hx hb dX0_lendTo_14 rfl (lv_at hl 1 rfl) ?_
      refine va_get (D := D) (ci := 2) (v := .ref (a (k + 4))) (C := RX2) (T := TX2) (N := 6) hx hb hts (by decide +kernel) hown hK hP 7 rfl rfl 3 (by decide) (hts (.fieldLink RX0 62 "DanceHall$Guests" "here" "[Z") (by decide +kernel)) (fun _ h9 => h9) rfl dX0_lendTo_15 ?_
      refine lv_iload hx hb dX0_lendTo_18 (lv_at hl 3 rfl) ?_
      refine va_zald hx hb hK hP 11 1 rfl rfl (vp_in_nI (n := i) (N := 8) (by omega) (by omega)) dX0_lendTo_20 ?_
      refine kv_i (y := g.2.2.2.1 i) (congrArg g.2.2.2.1 (nI_clamp (n := i) (by omega))) ?_
      refine lv_if_eq (tgt := 38) hx hb dX0_lendTo_21 (by decide) (fun c_21 => ?_) (fun c_21 => ?_)
      · skip
        refine lv_iconst (v := nI 0) hx hb dX0_lendTo_38 (by decide) ?_
        refine lv_istore (lv' := [(5, .int (nI 0)), (0, .ref (fa 0)), (1, .ref (a k)), (2, .ref (fa 4)), (4, .int (nI i)), (3, .int (nI (kLn g Fl.1 Fl.2.2.2.1 i).2.2))]) hx hb dX0_lendTo_39 hl (by decide) rfl (fun ls hl => ?_)
        refine lv_aload_n hx hb dX0_lendTo_41 rfl (lv_at hl 2 rfl) ?_
        refine va_get (D := D) (ci := 2) (v := .ref (a (k + 3))) (C := RX2) (T := TX2) (N := 6) hx hb hts (by decide +kernel) hown hK hP 7 rfl rfl 2 (by decide) (hts (.fieldLink RX0 69 "DanceHall$Guests" "ownShoes" "[Z") (by decide +kernel)) (fun _ h9 => h9) rfl dX0_lendTo_42 ?_
        refine lv_iload hx hb dX0_lendTo_45 (lv_at hl 4 rfl) ?_
        refine va_zald hx hb hK hP 10 1 rfl rfl (vp_in_nI (n := i) (N := 8) (by omega) (by omega)) dX0_lendTo_47 ?_
        refine kv_i (y := g.2.2.1 i) (congrArg g.2.2.1 (nI_clamp (n := i) (by omega))) ?_
        refine lv_istore (lv' := [(6, .int (g.2.2.1 i)), (5, .int (nI 0)), (0, .ref (fa 0)), (1, .ref (a k)), (2, .ref (fa 4)), (4, .int (nI i)), (3, .int (nI (kLn g Fl.1 Fl.2.2.2.1 i).2.2))]) hx hb dX0_lendTo_48 hl (by decide) rfl (fun ls hl => ?_)
        refine lv_aload_n hx hb dX0_lendTo_50 rfl (lv_at hl 4 rfl) ?_
        refine lv_iload hx hb dX0_lendTo_51 (lv_at hl 5 rfl) ?_
        refine lv_iload hx hb dX0_lendTo_53 (lv_at hl 1 rfl) ?_
        refine lv_if_eq (tgt := 77) hx hb dX0_lendTo_55 (by decide) (fun _ => ?_) (fun h => absurd h (by decide))
        refine lv_iconst (v := nI 0) hx hb dX0_lendTo_77 (by decide) ?_
        refine va_iast hx hb hK hP hD hS 4 0 rfl rfl (vp_in_nI (n := i) (N := 8) (by omega) (by omega)) dX0_lendTo_78 (fun H locs hP hD hS => ?_)
        rw [nI_clamp (n := i) (by omega)] at hP hD
        have hP : va_P D vwCl (bkF [fW cy fa ((kLn g Fl.1 Fl.2.2.2.1 i).1, Fl.2.1, Fl.2.2.1, upd (kLn g Fl.1 Fl.2.2.2.1 i).2.1 i (nI 0), Fl.2.2.2.2), gW cy a k g]) H := hP
        have hD : va_D A (bkF [fW cy fa ((kLn g Fl.1 Fl.2.2.2.1 i).1, Fl.2.1, Fl.2.2.1, upd (kLn g Fl.1 Fl.2.2.2.1 i).2.1 i (nI 0), Fl.2.2.2.2), gW cy a k g]) := hD
        refine lv_iload hx hb dX0_lendTo_79 (lv_at hl 1 rfl) ?_
        refine lv_if_eq (tgt := 103) hx hb dX0_lendTo_81 (by decide) (fun _ => ?_) (fun h => absurd h (by decide))
        refine lv_iinc (v := nI (i + 1)) (lv' := [(4, .int (nI (i + 1))), (6, .int (g.2.2.1 i)), (5, .int (nI 0)), (0, .ref (fa 0)), (1, .ref (a k)), (2, .ref (fa 4)), (3, .int (nI (kLn g Fl.1 Fl.2.2.2.1 i).2.2))]) hx hb dX0_lendTo_103 hl (k := 5) rfl (nI_add i 1) (by decide) rfl (fun ls hl => ?_)
        refine lv_goto (tgt := 5) hx hb dX0_lendTo_106 (by decide) ?_
        have hP := kP_cell (g := (kLn g Fl.1 Fl.2.2.2.1 (i + 1)).1) hP 1 rfl (fun _ _ => by rw [show kLn g Fl.1 Fl.2.2.2.1 (i + 1) = _ from kLn_n (fun h => h.1 c_21)])
        have hD := hD.set (p := 1) (e := .inl (cy 0, 10, .inl (kLn g Fl.1 Fl.2.2.2.1 (i + 1)).1)) rfl
        have hP : va_P D vwCl (bkF [fW cy fa ((kLn g Fl.1 Fl.2.2.2.1 (i + 1)).1, Fl.2.1, Fl.2.2.1, upd (kLn g Fl.1 Fl.2.2.2.1 i).2.1 i (nI 0), Fl.2.2.2.2), gW cy a k g]) H := hP
        have hD : va_D A (bkF [fW cy fa ((kLn g Fl.1 Fl.2.2.2.1 (i + 1)).1, Fl.2.1, Fl.2.2.1, upd (kLn g Fl.1 Fl.2.2.2.1 i).2.1 i (nI 0), Fl.2.2.2.2), gW cy a k g]) := hD
        have hP := kP_cell (g := (kLn g Fl.1 Fl.2.2.2.1 (i + 1)).2.1) hP 4 rfl (fun _ _ => by rw [show kLn g Fl.1 Fl.2.2.2.1 (i + 1) = _ from kLn_n (fun h => h.1 c_21)])
        have hD := hD.set (p := 4) (e := .inl (cy 0, 8, .inl (kLn g Fl.1 Fl.2.2.2.1 (i + 1)).2.1)) rfl
        have hP : va_P D vwCl (bkF [fW cy fa ((kLn g Fl.1 Fl.2.2.2.1 (i + 1)).1, Fl.2.1, Fl.2.2.1, (kLn g Fl.1 Fl.2.2.2.1 (i + 1)).2.1, Fl.2.2.2.2), gW cy a k g]) H := hP
        have hD : va_D A (bkF [fW cy fa ((kLn g Fl.1 Fl.2.2.2.1 (i + 1)).1, Fl.2.1, Fl.2.2.1, (kLn g Fl.1 Fl.2.2.2.1 (i + 1)).2.1, Fl.2.2.2.2), gW cy a k g]) := hD
        have e7 : (kLn g Fl.1 Fl.2.2.2.1 (i + 1)).2.2 = (kLn g Fl.1 Fl.2.2.2.1 i).2.2 := congrArg (fun q => q.2.2) (kLn_n (fun h => h.1 c_21))
        rw [← e7] at hl
        exact ih_5 _ (by omega) (i + 1) rfl (by omega) ls H locs hP hD hS (lv_sub hl [3, 4, 5, 0, 6] rfl)
      · skip
        refine lv_aload_n hx hb dX0_lendTo_24 rfl (lv_at hl 1 rfl) ?_
        refine va_get (D := D) (ci := 2) (v := .ref (a (k + 1))) (C := RX2) (T := TX2) (N := 6) hx hb hts (by decide +kernel) hown hK hP 7 rfl rfl 0 (by decide) (hts (.fieldLink RX0 66 "DanceHall$Guests" "tokens" "[I") (by decide +kernel)) (fun _ h9 => h9) rfl dX0_lendTo_25 ?_
        refine lv_iload hx hb dX0_lendTo_28 (lv_at hl 3 rfl) ?_
        refine va_iald hx hb hK hP 8 0 rfl rfl (vp_in_nI (n := i) (N := 8) (by omega) (by omega)) dX0_lendTo_30 ?_
        refine kv_i (y := g.1 i) (congrArg g.1 (nI_clamp (n := i) (by omega))) ?_
        refine lv_if_le (tgt := 38) hx hb dX0_lendTo_31 (by decide) (fun c_31 => ?_) (fun c_31 => ?_)
        · skip
          refine lv_iconst (v := nI 0) hx hb dX0_lendTo_38 (by decide) ?_
          refine lv_istore (lv' := [(5, .int (nI 0)), (0, .ref (fa 0)), (1, .ref (a k)), (2, .ref (fa 4)), (4, .int (nI i)), (3, .int (nI (kLn g Fl.1 Fl.2.2.2.1 i).2.2))]) hx hb dX0_lendTo_39 hl (by decide) rfl (fun ls hl => ?_)
          refine lv_aload_n hx hb dX0_lendTo_41 rfl (lv_at hl 2 rfl) ?_
          refine va_get (D := D) (ci := 2) (v := .ref (a (k + 3))) (C := RX2) (T := TX2) (N := 6) hx hb hts (by decide +kernel) hown hK hP 7 rfl rfl 2 (by decide) (hts (.fieldLink RX0 69 "DanceHall$Guests" "ownShoes" "[Z") (by decide +kernel)) (fun _ h9 => h9) rfl dX0_lendTo_42 ?_
          refine lv_iload hx hb dX0_lendTo_45 (lv_at hl 4 rfl) ?_
          refine va_zald hx hb hK hP 10 1 rfl rfl (vp_in_nI (n := i) (N := 8) (by omega) (by omega)) dX0_lendTo_47 ?_
          refine kv_i (y := g.2.2.1 i) (congrArg g.2.2.1 (nI_clamp (n := i) (by omega))) ?_
          refine lv_istore (lv' := [(6, .int (g.2.2.1 i)), (5, .int (nI 0)), (0, .ref (fa 0)), (1, .ref (a k)), (2, .ref (fa 4)), (4, .int (nI i)), (3, .int (nI (kLn g Fl.1 Fl.2.2.2.1 i).2.2))]) hx hb dX0_lendTo_48 hl (by decide) rfl (fun ls hl => ?_)
          refine lv_aload_n hx hb dX0_lendTo_50 rfl (lv_at hl 4 rfl) ?_
          refine lv_iload hx hb dX0_lendTo_51 (lv_at hl 5 rfl) ?_
          refine lv_iload hx hb dX0_lendTo_53 (lv_at hl 1 rfl) ?_
          refine lv_if_eq (tgt := 77) hx hb dX0_lendTo_55 (by decide) (fun _ => ?_) (fun h => absurd h (by decide))
          refine lv_iconst (v := nI 0) hx hb dX0_lendTo_77 (by decide) ?_
          refine va_iast hx hb hK hP hD hS 4 0 rfl rfl (vp_in_nI (n := i) (N := 8) (by omega) (by omega)) dX0_lendTo_78 (fun H locs hP hD hS => ?_)
          rw [nI_clamp (n := i) (by omega)] at hP hD
          have hP : va_P D vwCl (bkF [fW cy fa ((kLn g Fl.1 Fl.2.2.2.1 i).1, Fl.2.1, Fl.2.2.1, upd (kLn g Fl.1 Fl.2.2.2.1 i).2.1 i (nI 0), Fl.2.2.2.2), gW cy a k g]) H := hP
          have hD : va_D A (bkF [fW cy fa ((kLn g Fl.1 Fl.2.2.2.1 i).1, Fl.2.1, Fl.2.2.1, upd (kLn g Fl.1 Fl.2.2.2.1 i).2.1 i (nI 0), Fl.2.2.2.2), gW cy a k g]) := hD
          refine lv_iload hx hb dX0_lendTo_79 (lv_at hl 1 rfl) ?_
          refine lv_if_eq (tgt := 103) hx hb dX0_lendTo_81 (by decide) (fun _ => ?_) (fun h => absurd h (by decide))
          refine lv_iinc (v := nI (i + 1)) (lv' := [(4, .int (nI (i + 1))), (6, .int (g.2.2.1 i)), (5, .int (nI 0)), (0, .ref (fa 0)), (1, .ref (a k)), (2, .ref (fa 4)), (3, .int (nI (kLn g Fl.1 Fl.2.2.2.1 i).2.2))]) hx hb dX0_lendTo_103 hl (k := 5) rfl (nI_add i 1) (by decide) rfl (fun ls hl => ?_)
          refine lv_goto (tgt := 5) hx hb dX0_lendTo_106 (by decide) ?_
          have hP := kP_cell (g := (kLn g Fl.1 Fl.2.2.2.1 (i + 1)).1) hP 1 rfl (fun _ _ => by rw [show kLn g Fl.1 Fl.2.2.2.1 (i + 1) = _ from kLn_n (fun h => h.2 c_31)])
          have hD := hD.set (p := 1) (e := .inl (cy 0, 10, .inl (kLn g Fl.1 Fl.2.2.2.1 (i + 1)).1)) rfl
          have hP : va_P D vwCl (bkF [fW cy fa ((kLn g Fl.1 Fl.2.2.2.1 (i + 1)).1, Fl.2.1, Fl.2.2.1, upd (kLn g Fl.1 Fl.2.2.2.1 i).2.1 i (nI 0), Fl.2.2.2.2), gW cy a k g]) H := hP
          have hD : va_D A (bkF [fW cy fa ((kLn g Fl.1 Fl.2.2.2.1 (i + 1)).1, Fl.2.1, Fl.2.2.1, upd (kLn g Fl.1 Fl.2.2.2.1 i).2.1 i (nI 0), Fl.2.2.2.2), gW cy a k g]) := hD
          have hP := kP_cell (g := (kLn g Fl.1 Fl.2.2.2.1 (i + 1)).2.1) hP 4 rfl (fun _ _ => by rw [show kLn g Fl.1 Fl.2.2.2.1 (i + 1) = _ from kLn_n (fun h => h.2 c_31)])
          have hD := hD.set (p := 4) (e := .inl (cy 0, 8, .inl (kLn g Fl.1 Fl.2.2.2.1 (i + 1)).2.1)) rfl
          have hP : va_P D vwCl (bkF [fW cy fa ((kLn g Fl.1 Fl.2.2.2.1 (i + 1)).1, Fl.2.1, Fl.2.2.1, (kLn g Fl.1 Fl.2.2.2.1 (i + 1)).2.1, Fl.2.2.2.2), gW cy a k g]) H := hP
          have hD : va_D A (bkF [fW cy fa ((kLn g Fl.1 Fl.2.2.2.1 (i + 1)).1, Fl.2.1, Fl.2.2.1, (kLn g Fl.1 Fl.2.2.2.1 (i + 1)).2.1, Fl.2.2.2.2), gW cy a k g]) := hD
          have e7 : (kLn g Fl.1 Fl.2.2.2.1 (i + 1)).2.2 = (kLn g Fl.1 Fl.2.2.2.1 i).2.2 := congrArg (fun q => q.2.2) (kLn_n (fun h => h.2 c_31))
          rw [← e7] at hl
          exact ih_5 _ (by omega) (i + 1) rfl (by omega) ls H locs hP hD hS (lv_sub hl [3, 4, 5, 0, 6] rfl)
        · skip
          refine lv_iconst (v := nI 1) hx hb dX0_lendTo_34 (by decide) ?_
          refine lv_goto (tgt := 39) hx hb dX0_lendTo_35 (by decide) ?_
          refine lv_istore (lv' := [(5, .int (nI 1)), (0, .ref (fa 0)), (1, .ref (a k)), (2, .ref (fa 4)), (4, .int (nI i)), (3, .int (nI (kLn g Fl.1 Fl.2.2.2.1 i).2.2))]) hx hb dX0_lendTo_39 hl (by decide) rfl (fun ls hl => ?_)
          refine lv_aload_n hx hb dX0_lendTo_41 rfl (lv_at hl 2 rfl) ?_
          refine va_get (D := D) (ci := 2) (v := .ref (a (k + 3))) (C := RX2) (T := TX2) (N := 6) hx hb hts (by decide +kernel) hown hK hP 7 rfl rfl 2 (by decide) (hts (.fieldLink RX0 69 "DanceHall$Guests" "ownShoes" "[Z") (by decide +kernel)) (fun _ h9 => h9) rfl dX0_lendTo_42 ?_
          refine lv_iload hx hb dX0_lendTo_45 (lv_at hl 4 rfl) ?_
          refine va_zald hx hb hK hP 10 1 rfl rfl (vp_in_nI (n := i) (N := 8) (by omega) (by omega)) dX0_lendTo_47 ?_
          refine kv_i (y := g.2.2.1 i) (congrArg g.2.2.1 (nI_clamp (n := i) (by omega))) ?_
          refine lv_istore (lv' := [(6, .int (g.2.2.1 i)), (5, .int (nI 1)), (0, .ref (fa 0)), (1, .ref (a k)), (2, .ref (fa 4)), (4, .int (nI i)), (3, .int (nI (kLn g Fl.1 Fl.2.2.2.1 i).2.2))]) hx hb dX0_lendTo_48 hl (by decide) rfl (fun ls hl => ?_)
          refine lv_aload_n hx hb dX0_lendTo_50 rfl (lv_at hl 4 rfl) ?_
          refine lv_iload hx hb dX0_lendTo_51 (lv_at hl 5 rfl) ?_
          refine lv_iload hx hb dX0_lendTo_53 (lv_at hl 1 rfl) ?_
          refine lv_if_eq (tgt := 77) hx hb dX0_lendTo_55 (by decide) (fun h => absurd h (by decide)) (fun _ => ?_)
          refine lv_iload hx hb dX0_lendTo_58 (lv_at hl 0 rfl) ?_
          refine lv_if_ne (tgt := 77) hx hb dX0_lendTo_60 (by decide) (fun c_60 => ?_) (fun c_60 => ?_)
          · skip
            refine lv_iconst (v := nI 0) hx hb dX0_lendTo_77 (by decide) ?_
            refine va_iast hx hb hK hP hD hS 4 0 rfl rfl (vp_in_nI (n := i) (N := 8) (by omega) (by omega)) dX0_lendTo_78 (fun H locs hP hD hS => ?_)
            rw [nI_clamp (n := i) (by omega)] at hP hD
            have hP : va_P D vwCl (bkF [fW cy fa ((kLn g Fl.1 Fl.2.2.2.1 i).1, Fl.2.1, Fl.2.2.1, upd (kLn g Fl.1 Fl.2.2.2.1 i).2.1 i (nI 0), Fl.2.2.2.2), gW cy a k g]) H := hP
            have hD : va_D A (bkF [fW cy fa ((kLn g Fl.1 Fl.2.2.2.1 i).1, Fl.2.1, Fl.2.2.1, upd (kLn g Fl.1 Fl.2.2.2.1 i).2.1 i (nI 0), Fl.2.2.2.2), gW cy a k g]) := hD
            refine lv_iload hx hb dX0_lendTo_79 (lv_at hl 1 rfl) ?_
            refine lv_if_eq (tgt := 103) hx hb dX0_lendTo_81 (by decide) (fun h => absurd h (by decide)) (fun _ => ?_)
            refine lv_iload hx hb dX0_lendTo_84 (lv_at hl 0 rfl) ?_
            refine lv_if_ne (tgt := 96) hx hb dX0_lendTo_86 (by decide) (fun c_86 => ?_) (fun c_86 => False.elim ?_)
            · skip
              refine lv_iload_n hx hb dX0_lendTo_96 rfl (lv_at hl 6 rfl) ?_
              refine lv_iconst (v := nI 1) hx hb dX0_lendTo_97 (by decide) ?_
              refine lv_iload hx hb dX0_lendTo_98 (lv_at hl 5 rfl) ?_
              refine lv_ishl hx hb dX0_lendTo_100 ?_
              refine kv_i (y := nI (2 ^ i)) (kshl (i := i) (by omega)) ?_
              refine lv_ior hx hb dX0_lendTo_101 ?_
              refine kv_i (y := nI ((kLn g Fl.1 Fl.2.2.2.1 i).2.2 ||| (2 ^ i))) (kn_or (kLn g Fl.1 Fl.2.2.2.1 i).2.2 (2 ^ i)) ?_
              refine lv_istore_n (lv' := [(3, .int (nI ((kLn g Fl.1 Fl.2.2.2.1 i).2.2 ||| (2 ^ i)))), (6, .int (g.2.2.1 i)), (5, .int (nI 1)), (0, .ref (fa 0)), (1, .ref (a k)), (2, .ref (fa 4)), (4, .int (nI i))]) hx hb dX0_lendTo_102 rfl hl (by decide) rfl (fun ls hl => ?_)
              refine lv_iinc (v := nI (i + 1)) (lv' := [(4, .int (nI (i + 1))), (3, .int (nI ((kLn g Fl.1 Fl.2.2.2.1 i).2.2 ||| (2 ^ i)))), (6, .int (g.2.2.1 i)), (5, .int (nI 1)), (0, .ref (fa 0)), (1, .ref (a k)), (2, .ref (fa 4))]) hx hb dX0_lendTo_103 hl (k := 6) rfl (nI_add i 1) (by decide) rfl (fun ls hl => ?_)
              refine lv_goto (tgt := 5) hx hb dX0_lendTo_106 (by decide) ?_
              have hP := kP_cell (g := (kLn g Fl.1 Fl.2.2.2.1 (i + 1)).1) hP 1 rfl (fun _ _ => by rw [show kLn g Fl.1 Fl.2.2.2.1 (i + 1) = _ from kLn_o ⟨c_21, c_31⟩ c_60])
              have hD := hD.set (p := 1) (e := .inl (cy 0, 10, .inl (kLn g Fl.1 Fl.2.2.2.1 (i + 1)).1)) rfl
              have hP : va_P D vwCl (bkF [fW cy fa ((kLn g Fl.1 Fl.2.2.2.1 (i + 1)).1, Fl.2.1, Fl.2.2.1, upd (kLn g Fl.1 Fl.2.2.2.1 i).2.1 i (nI 0), Fl.2.2.2.2), gW cy a k g]) H := hP
              have hD : va_D A (bkF [fW cy fa ((kLn g Fl.1 Fl.2.2.2.1 (i + 1)).1, Fl.2.1, Fl.2.2.1, upd (kLn g Fl.1 Fl.2.2.2.1 i).2.1 i (nI 0), Fl.2.2.2.2), gW cy a k g]) := hD
              have hP := kP_cell (g := (kLn g Fl.1 Fl.2.2.2.1 (i + 1)).2.1) hP 4 rfl (fun _ _ => by rw [show kLn g Fl.1 Fl.2.2.2.1 (i + 1) = _ from kLn_o ⟨c_21, c_31⟩ c_60])
              have hD := hD.set (p := 4) (e := .inl (cy 0, 8, .inl (kLn g Fl.1 Fl.2.2.2.1 (i + 1)).2.1)) rfl
              have hP : va_P D vwCl (bkF [fW cy fa ((kLn g Fl.1 Fl.2.2.2.1 (i + 1)).1, Fl.2.1, Fl.2.2.1, (kLn g Fl.1 Fl.2.2.2.1 (i + 1)).2.1, Fl.2.2.2.2), gW cy a k g]) H := hP
              have hD : va_D A (bkF [fW cy fa ((kLn g Fl.1 Fl.2.2.2.1 (i + 1)).1, Fl.2.1, Fl.2.2.1, (kLn g Fl.1 Fl.2.2.2.1 (i + 1)).2.1, Fl.2.2.2.2), gW cy a k g]) := hD
              have e7 : (kLn g Fl.1 Fl.2.2.2.1 (i + 1)).2.2 = (kLn g Fl.1 Fl.2.2.2.1 i).2.2 ||| (2 ^ i) := congrArg (fun q => q.2.2) (kLn_o ⟨c_21, c_31⟩ c_60)
              rw [← e7] at hl
              exact ih_5 _ (by omega) (i + 1) rfl (by omega) ls H locs hP hD hS (lv_sub hl [4, 5, 6, 0, 1] rfl)
            · skip
              exact c_60 c_86
          · skip
            refine lv_aload_n hx hb dX0_lendTo_63 rfl (lv_at hl 2 rfl) ?_
            refine lv_aload_n hx hb dX0_lendTo_64 rfl (lv_at hl 3 rfl) ?_
            refine va_get (D := D) (ci := 2) (v := .ref (a (k + 2))) (C := RX2) (T := TX2) (N := 6) hx hb hts (by decide +kernel) hown hK hP 7 rfl rfl 1 (by decide) (hts (.fieldLink RX0 72 "DanceHall$Guests" "sizes" "[I") (by decide +kernel)) (fun _ h9 => h9) rfl dX0_lendTo_65 ?_
            refine lv_iload hx hb dX0_lendTo_68 (lv_at hl 5 rfl) ?_
            refine va_iald hx hb hK hP 9 0 rfl rfl (vp_in_nI (n := i) (N := 8) (by omega) (by omega)) dX0_lendTo_70 ?_
            refine kv_i (y := nI (kz9 g i)) (by rw [nI_clamp (n := i) (by omega)]; exact (hzz i (by omega)).1) ?_
            refine kc_i (Cs := [fW cy fa ((kLn g Fl.1 Fl.2.2.2.1 i).1, Fl.2.1, Fl.2.2.1, (kLn g Fl.1 Fl.2.2.2.1 i).2.1, Fl.2.2.2.2)]) (Rs := [gW cy a k g]) (Bs := [fW cy fa ((kLn g Fl.1 Fl.2.2.2.1 i).1, Fl.2.1, Fl.2.2.1, (kLn g Fl.1 Fl.2.2.2.1 i).2.1, Fl.2.2.2.2), gW cy a k g]) (Cs' := fun u_ : Unit => [fW cy fa (kPairL (kLn g Fl.1 Fl.2.2.2.1 i).1 (kz9 g i), Fl.2.1, Fl.2.2.1, (kLn g Fl.1 Fl.2.2.2.1 i).2.1, Fl.2.2.2.2.1, Fl.2.2.2.2.2.1, Fl.2.2.2.2.2.2.1, Fl.2.2.2.2.2.2.2.1, Fl.2.2.2.2.2.2.2.2)]) (Fs := fun u_ : Unit => [fW cy fa (kPairL (kLn g Fl.1 Fl.2.2.2.1 i).1 (kz9 g i), Fl.2.1, Fl.2.2.1, (kLn g Fl.1 Fl.2.2.2.1 i).2.1, Fl.2.2.2.2.1, Fl.2.2.2.2.2.1, Fl.2.2.2.2.2.2.1, Fl.2.2.2.2.2.2.2.1, Fl.2.2.2.2.2.2.2.2), gW cy a k g]) hP hD hS hA [0] [1] [1, 0] rfl rfl (by decide) (by decide) (fun _ => rfl) (va_runV (As := [.int (nI (kz9 g i))]) (rest := [.int (nI i), .ref (fa 4)]) ⟨hx, hb, hml, hown, hts⟩ (c_X0_lendPair l D cy fa ((kLn g Fl.1 Fl.2.2.2.1 i).1, Fl.2.1, Fl.2.2.1, (kLn g Fl.1 Fl.2.2.2.1 i).2.1, Fl.2.2.2.2) (kz9 g i) ((hzz i (by omega)).2.2) H.size) (cwV 1 hts gX0_lendTo_X0_lendPair rfl rfl rfl (by decide +kernel) ⟨Nat.le_of_ble_eq_true rfl, Nat.le_of_ble_eq_true rfl⟩) (kPre_V (ci := 0) hK hN hP hD [0] (by decide) rfl 0 rfl rfl) rfl rfl hl.1 rfl (lv_room (Nat.le_of_ble_eq_true rfl)) dX0_lendTo_71 ⟨Nat.le_of_ble_eq_true rfl, Nat.le_of_ble_eq_true rfl⟩) (fun r_ u_ H locs hw hP hD hS => ?_)
            have hw : r_ = kPairV (kLn g Fl.1 Fl.2.2.2.1 i).1 (kz9 g i) := hw
            subst hw
            refine lv_goto (tgt := 78) hx hb dX0_lendTo_74 (by decide) ?_
            refine va_iast hx hb hK hP hD hS 4 0 rfl rfl (vp_in_nI (n := i) (N := 8) (by omega) (by omega)) dX0_lendTo_78 (fun H locs hP hD hS => ?_)
            rw [nI_clamp (n := i) (by omega)] at hP hD
            have hP : va_P D vwCl (bkF [fW cy fa (kPairL (kLn g Fl.1 Fl.2.2.2.1 i).1 (kz9 g i), Fl.2.1, Fl.2.2.1, upd (kLn g Fl.1 Fl.2.2.2.1 i).2.1 i (kPairV (kLn g Fl.1 Fl.2.2.2.1 i).1 (kz9 g i)), Fl.2.2.2.2.1, Fl.2.2.2.2.2.1, Fl.2.2.2.2.2.2.1, Fl.2.2.2.2.2.2.2.1, Fl.2.2.2.2.2.2.2.2), gW cy a k g]) H := hP
            have hD : va_D A (bkF [fW cy fa (kPairL (kLn g Fl.1 Fl.2.2.2.1 i).1 (kz9 g i), Fl.2.1, Fl.2.2.1, upd (kLn g Fl.1 Fl.2.2.2.1 i).2.1 i (kPairV (kLn g Fl.1 Fl.2.2.2.1 i).1 (kz9 g i)), Fl.2.2.2.2.1, Fl.2.2.2.2.2.1, Fl.2.2.2.2.2.2.1, Fl.2.2.2.2.2.2.2.1, Fl.2.2.2.2.2.2.2.2), gW cy a k g]) := hD
            refine lv_iload hx hb dX0_lendTo_79 (lv_at hl 1 rfl) ?_
            refine lv_if_eq (tgt := 103) hx hb dX0_lendTo_81 (by decide) (fun h => absurd h (by decide)) (fun _ => ?_)
            refine lv_iload hx hb dX0_lendTo_84 (lv_at hl 0 rfl) ?_
            refine lv_if_ne (tgt := 96) hx hb dX0_lendTo_86 (by decide) (fun c_86 => False.elim ?_) (fun c_86 => ?_)
            · skip
              exact c_86 c_60
            · skip
              refine lv_aload_n hx hb dX0_lendTo_89 rfl (lv_at hl 4 rfl) ?_
              refine lv_iload hx hb dX0_lendTo_90 (lv_at hl 5 rfl) ?_
              refine va_iald hx hb hK hP 4 0 rfl rfl (vp_in_nI (n := i) (N := 8) (by omega) (by omega)) dX0_lendTo_92 ?_
              refine kv_i (y := (kPairV (kLn g Fl.1 Fl.2.2.2.1 i).1 (kz9 g i))) (by rw [nI_clamp (n := i) (by omega)]; exact pk_us) ?_
              refine lv_if_eq (tgt := 103) hx hb dX0_lendTo_93 (by decide) (fun c_93 => ?_) (fun c_93 => ?_)
              · skip
                refine lv_iinc (v := nI (i + 1)) (lv' := [(4, .int (nI (i + 1))), (6, .int (g.2.2.1 i)), (5, .int (nI 1)), (0, .ref (fa 0)), (1, .ref (a k)), (2, .ref (fa 4)), (3, .int (nI (kLn g Fl.1 Fl.2.2.2.1 i).2.2))]) hx hb dX0_lendTo_103 hl (k := 5) rfl (nI_add i 1) (by decide) rfl (fun ls hl => ?_)
                refine lv_goto (tgt := 5) hx hb dX0_lendTo_106 (by decide) ?_
                have hP := kP_cell (g := (kLn g Fl.1 Fl.2.2.2.1 (i + 1)).1) hP 1 rfl (fun _ _ => by rw [show kLn g Fl.1 Fl.2.2.2.1 (i + 1) = _ from kLn_z ⟨c_21, c_31⟩ c_60 c_93])
                have hD := hD.set (p := 1) (e := .inl (cy 0, 10, .inl (kLn g Fl.1 Fl.2.2.2.1 (i + 1)).1)) rfl
                have hP : va_P D vwCl (bkF [fW cy fa ((kLn g Fl.1 Fl.2.2.2.1 (i + 1)).1, Fl.2.1, Fl.2.2.1, upd (kLn g Fl.1 Fl.2.2.2.1 i).2.1 i (kPairV (kLn g Fl.1 Fl.2.2.2.1 i).1 (kz9 g i)), Fl.2.2.2.2.1, Fl.2.2.2.2.2.1, Fl.2.2.2.2.2.2.1, Fl.2.2.2.2.2.2.2.1, Fl.2.2.2.2.2.2.2.2), gW cy a k g]) H := hP
                have hD : va_D A (bkF [fW cy fa ((kLn g Fl.1 Fl.2.2.2.1 (i + 1)).1, Fl.2.1, Fl.2.2.1, upd (kLn g Fl.1 Fl.2.2.2.1 i).2.1 i (kPairV (kLn g Fl.1 Fl.2.2.2.1 i).1 (kz9 g i)), Fl.2.2.2.2.1, Fl.2.2.2.2.2.1, Fl.2.2.2.2.2.2.1, Fl.2.2.2.2.2.2.2.1, Fl.2.2.2.2.2.2.2.2), gW cy a k g]) := hD
                have hP := kP_cell (g := (kLn g Fl.1 Fl.2.2.2.1 (i + 1)).2.1) hP 4 rfl (fun _ _ => by rw [show kLn g Fl.1 Fl.2.2.2.1 (i + 1) = _ from kLn_z ⟨c_21, c_31⟩ c_60 c_93])
                have hD := hD.set (p := 4) (e := .inl (cy 0, 8, .inl (kLn g Fl.1 Fl.2.2.2.1 (i + 1)).2.1)) rfl
                have hP : va_P D vwCl (bkF [fW cy fa ((kLn g Fl.1 Fl.2.2.2.1 (i + 1)).1, Fl.2.1, Fl.2.2.1, (kLn g Fl.1 Fl.2.2.2.1 (i + 1)).2.1, Fl.2.2.2.2.1, Fl.2.2.2.2.2.1, Fl.2.2.2.2.2.2.1, Fl.2.2.2.2.2.2.2.1, Fl.2.2.2.2.2.2.2.2), gW cy a k g]) H := hP
                have hD : va_D A (bkF [fW cy fa ((kLn g Fl.1 Fl.2.2.2.1 (i + 1)).1, Fl.2.1, Fl.2.2.1, (kLn g Fl.1 Fl.2.2.2.1 (i + 1)).2.1, Fl.2.2.2.2.1, Fl.2.2.2.2.2.1, Fl.2.2.2.2.2.2.1, Fl.2.2.2.2.2.2.2.1, Fl.2.2.2.2.2.2.2.2), gW cy a k g]) := hD
                have e7 : (kLn g Fl.1 Fl.2.2.2.1 (i + 1)).2.2 = (kLn g Fl.1 Fl.2.2.2.1 i).2.2 := congrArg (fun q => q.2.2) (kLn_z ⟨c_21, c_31⟩ c_60 c_93)
                rw [← e7] at hl
                exact ih_5 _ (by omega) (i + 1) rfl (by omega) ls H locs hP hD hS (lv_sub hl [3, 4, 5, 0, 6] rfl)
              · skip
                refine lv_iload_n hx hb dX0_lendTo_96 rfl (lv_at hl 6 rfl) ?_
                refine lv_iconst (v := nI 1) hx hb dX0_lendTo_97 (by decide) ?_
                refine lv_iload hx hb dX0_lendTo_98 (lv_at hl 5 rfl) ?_
                refine lv_ishl hx hb dX0_lendTo_100 ?_
                refine kv_i (y := nI (2 ^ i)) (kshl (i := i) (by omega)) ?_
                refine lv_ior hx hb dX0_lendTo_101 ?_
                refine kv_i (y := nI ((kLn g Fl.1 Fl.2.2.2.1 i).2.2 ||| (2 ^ i))) (kn_or (kLn g Fl.1 Fl.2.2.2.1 i).2.2 (2 ^ i)) ?_
                refine lv_istore_n (lv' := [(3, .int (nI ((kLn g Fl.1 Fl.2.2.2.1 i).2.2 ||| (2 ^ i)))), (6, .int (g.2.2.1 i)), (5, .int (nI 1)), (0, .ref (fa 0)), (1, .ref (a k)), (2, .ref (fa 4)), (4, .int (nI i))]) hx hb dX0_lendTo_102 rfl hl (by decide) rfl (fun ls hl => ?_)
                refine lv_iinc (v := nI (i + 1)) (lv' := [(4, .int (nI (i + 1))), (3, .int (nI ((kLn g Fl.1 Fl.2.2.2.1 i).2.2 ||| (2 ^ i)))), (6, .int (g.2.2.1 i)), (5, .int (nI 1)), (0, .ref (fa 0)), (1, .ref (a k)), (2, .ref (fa 4))]) hx hb dX0_lendTo_103 hl (k := 6) rfl (nI_add i 1) (by decide) rfl (fun ls hl => ?_)
                refine lv_goto (tgt := 5) hx hb dX0_lendTo_106 (by decide) ?_
                have hP := kP_cell (g := (kLn g Fl.1 Fl.2.2.2.1 (i + 1)).1) hP 1 rfl (fun _ _ => by rw [show kLn g Fl.1 Fl.2.2.2.1 (i + 1) = _ from kLn_p ⟨c_21, c_31⟩ c_60 c_93])
                have hD := hD.set (p := 1) (e := .inl (cy 0, 10, .inl (kLn g Fl.1 Fl.2.2.2.1 (i + 1)).1)) rfl
                have hP : va_P D vwCl (bkF [fW cy fa ((kLn g Fl.1 Fl.2.2.2.1 (i + 1)).1, Fl.2.1, Fl.2.2.1, upd (kLn g Fl.1 Fl.2.2.2.1 i).2.1 i (kPairV (kLn g Fl.1 Fl.2.2.2.1 i).1 (kz9 g i)), Fl.2.2.2.2.1, Fl.2.2.2.2.2.1, Fl.2.2.2.2.2.2.1, Fl.2.2.2.2.2.2.2.1, Fl.2.2.2.2.2.2.2.2), gW cy a k g]) H := hP
                have hD : va_D A (bkF [fW cy fa ((kLn g Fl.1 Fl.2.2.2.1 (i + 1)).1, Fl.2.1, Fl.2.2.1, upd (kLn g Fl.1 Fl.2.2.2.1 i).2.1 i (kPairV (kLn g Fl.1 Fl.2.2.2.1 i).1 (kz9 g i)), Fl.2.2.2.2.1, Fl.2.2.2.2.2.1, Fl.2.2.2.2.2.2.1, Fl.2.2.2.2.2.2.2.1, Fl.2.2.2.2.2.2.2.2), gW cy a k g]) := hD
                have hP := kP_cell (g := (kLn g Fl.1 Fl.2.2.2.1 (i + 1)).2.1) hP 4 rfl (fun _ _ => by rw [show kLn g Fl.1 Fl.2.2.2.1 (i + 1) = _ from kLn_p ⟨c_21, c_31⟩ c_60 c_93])
                have hD := hD.set (p := 4) (e := .inl (cy 0, 8, .inl (kLn g Fl.1 Fl.2.2.2.1 (i + 1)).2.1)) rfl
                have hP : va_P D vwCl (bkF [fW cy fa ((kLn g Fl.1 Fl.2.2.2.1 (i + 1)).1, Fl.2.1, Fl.2.2.1, (kLn g Fl.1 Fl.2.2.2.1 (i + 1)).2.1, Fl.2.2.2.2.1, Fl.2.2.2.2.2.1, Fl.2.2.2.2.2.2.1, Fl.2.2.2.2.2.2.2.1, Fl.2.2.2.2.2.2.2.2), gW cy a k g]) H := hP
                have hD : va_D A (bkF [fW cy fa ((kLn g Fl.1 Fl.2.2.2.1 (i + 1)).1, Fl.2.1, Fl.2.2.1, (kLn g Fl.1 Fl.2.2.2.1 (i + 1)).2.1, Fl.2.2.2.2.1, Fl.2.2.2.2.2.1, Fl.2.2.2.2.2.2.1, Fl.2.2.2.2.2.2.2.1, Fl.2.2.2.2.2.2.2.2), gW cy a k g]) := hD
                have e7 : (kLn g Fl.1 Fl.2.2.2.1 (i + 1)).2.2 = (kLn g Fl.1 Fl.2.2.2.1 i).2.2 ||| (2 ^ i) := congrArg (fun q => q.2.2) (kLn_p ⟨c_21, c_31⟩ c_60 c_93)
                rw [← e7] at hl
                exact ih_5 _ (by omega) (i + 1) rfl (by omega) ls H locs hP hD hS (lv_sub hl [4, 5, 6, 0, 1] rfl)
  exact L_5 _ 0  rfl (by omega) ls H locs hP hD hS (lv_sub hl [2, 3, 4, 0, 1] rfl)
abbrev rm_X0_lendShoes : Room := { frames := 2, cells := 0, slots := 0, locals := 48 }
set_option maxHeartbeats 1000000 in
set_option maxRecDepth 100000 in
/-- lendShoes -/
theorem c_X0_lendShoes (l : Launch) (D : va_G) (cy : Nat → ClassId) (fa : Nat → Nat) (Fl : rF) (a : Nat → Nat) (C : rC) (L : rG) (F : rG) (Ar : rA) (x : Nat) (hx9 : x ≤ 9) (hnl : L.2.2.2.2.2 ≤ 8) (hnf : F.2.2.2.2.2 ≤ 8) (hsl : kSz L) (hsf : kSz F) (sz : Nat) : Met l yX0_lendShoes wsX0_lendShoes rm_X0_lendShoes (va_Pc [.ref (fa 0), .ref (a 0), .int (nI x)] (kPre D (kT cy) [fW cy fa Fl, sO a C, gW cy a 1 L, gW cy a 7 F, sA cy a Ar] sz)) (va_Qv (fun u_ : Unit => True) (kFr D (kT cy) [fW cy fa Fl, sO a C, gW cy a 1 L, gW cy a 7 F, sA cy a Ar] sz (fun u_ : Unit => [fW cy fa ((kS2 Ar.1 L F Fl x).1, Fl.2.1, (kS1 Ar.1 L Fl x).2.1, (kS2 Ar.1 L F Fl x).2.1, (kS1 Ar.1 L Fl x).2.2, (kS2 Ar.1 L F Fl x).2.2, Fl.2.2.2.2.2.2), sO a C, gW cy a 1 L, gW cy a 7 F, sA cy a Ar])) (va_A (bkF [fW cy fa Fl, sO a C, gW cy a 1 L, gW cy a 7 F, sA cy a Ar]) sz)) 0 0 (va_A (bkF [fW cy fa Fl, sO a C, gW cy a 1 L, gW cy a 7 F, sA cy a Ar]) sz) := by
  refine kOpen (y := yX0_lendShoes) (ws := wsX0_lendShoes) (cc := cX0_lendShoes) (maxL := 4) (ret := none) (av := [.ref (fa 0), .ref (a 0), .int (nI x)]) (Bs := [fW cy fa Fl, sO a C, gW cy a 1 L, gW cy a 7 F, sA cy a Ar]) (Qc := fun A => (va_Qv (fun u_ : Unit => True) (fun (u_ : Unit) t9 => kEnd D (kT cy) A [fW cy fa ((kS2 Ar.1 L F Fl x).1, Fl.2.1, (kS1 Ar.1 L Fl x).2.1, (kS2 Ar.1 L F Fl x).2.1, (kS1 Ar.1 L Fl x).2.2, (kS2 Ar.1 L F Fl x).2.2, Fl.2.2.2.2.2.2), sO a C, gW cy a 1 L, gW cy a 7 F, sA cy a Ar] t9) A)) (by decide) rfl (Nat.le_of_ble_eq_true rfl) ?_
  intro p e s m args below meth c A Q ls hQ hx hb hml hr hlocks hin hts hown hN hK hP hD hS hA hsz hAe hl
  clear hAe
  have hl : lv_has ls 4 [(0, .ref (fa 0)), (1, .ref (a 0)), (2, .int (nI x))] := hl
  suffices K9 : ∀ (H : Heap) (locs : List Loc), va_P D vwCl (bkF [fW cy fa Fl, sO a C, gW cy a 1 L, gW cy a 7 F, sA cy a Ar]) H → va_S A s.heap H locs → W p l e (headSpec wsX0_lendShoes rm_X0_lendShoes).room s m args below meth c H locs 0 0 Q (F0 m 0 ls []) from K9 _ _ hP hS
  clear hP hS
  intro H locs hP hS
  refine lv_iconst (v := nI 1) hx hb dX0_lendShoes_0 (by decide) ?_
  refine lv_istore_n (lv' := [(3, .int (nI 1)), (0, .ref (fa 0)), (1, .ref (a 0)), (2, .int (nI x))]) hx hb dX0_lendShoes_1 rfl hl (by decide) rfl (fun ls hl => ?_)
  have hP := kP_cell (g := (kLe Ar.1 Fl.1 x 1)) hP 1 rfl (fun j _ => kLe_0 _ _ _ j)
  have hD := hD.set (p := 1) (e := .inl (cy 0, 10, .inl (kLe Ar.1 Fl.1 x 1))) rfl
  have hP : va_P D vwCl (bkF [fW cy fa (kLe Ar.1 Fl.1 x 1, Fl.2), sO a C, gW cy a 1 L, gW cy a 7 F, sA cy a Ar]) H := hP
  have hD : va_D A (bkF [fW cy fa (kLe Ar.1 Fl.1 x 1, Fl.2), sO a C, gW cy a 1 L, gW cy a 7 F, sA cy a Ar]) := hD
  have L_2 : ∀ (n9 : Nat) (i : Nat), 10 - i = n9 → (1 ≤ i) → (i ≤ 10) → ∀ (ls : Array Slot) (H : Heap) (locs : List Loc), va_P D vwCl (bkF [fW cy fa (kLe Ar.1 Fl.1 x i, Fl.2), sO a C, gW cy a 1 L, gW cy a 7 F, sA cy a Ar]) H → va_D A (bkF [fW cy fa (kLe Ar.1 Fl.1 x i, Fl.2), sO a C, gW cy a 1 L, gW cy a 7 F, sA cy a Ar]) → va_S A s.heap H locs → lv_has ls 4 [(0, .ref (fa 0)), (1, .ref (a 0)), (2, .int (nI x)), (3, .int (nI i))] → W p l e (headSpec wsX0_lendShoes rm_X0_lendShoes).room s m args below meth c H locs 0 0 Q (F0 m 2 ls []) := by
    intro n9
    induction n9 using Nat.strongRecOn with
    | _ n9 ih_2 =>
    intro i hm_2 h2_0 h2_1 ls H locs hP hD hS hl
    refine lv_iload_n hx hb dX0_lendShoes_2 rfl (lv_at hl 3 rfl) ?_
    refine lv_bipush (v := nI 9) hx hb dX0_lendShoes_3 (by decide) ?_
    refine lv_icmp_gt (tgt := 40) hx hb dX0_lendShoes_5 (by decide) (fun c_5 => ?_) (fun c_5 => ?_)
    · skip
      have c_5 : 9 < i := (nI_ltI (a := 9) (b := i) (by omega) (by omega)).mp c_5
      refine lv_aload_n hx hb dX0_lendShoes_40 rfl (lv_at hl 0 rfl) ?_
      refine lv_aload_n hx hb dX0_lendShoes_41 rfl (lv_at hl 0 rfl) ?_
      refine lv_aload_n hx hb dX0_lendShoes_42 rfl (lv_at hl 1 rfl) ?_
      refine va_get (D := D) (ci := 3) (v := .ref (a 1)) (C := RX3) (T := TX3) (N := 14) hx hb hts (by decide +kernel) hown hK hP 7 rfl rfl 0 (by decide) (hts (.fieldLink RX0 39 "DanceHall$State" "leaders" "LDanceHall$Guests;") (by decide +kernel)) (fun _ h9 => h9) rfl dX0_lendShoes_43 ?_
      refine lv_aload_n hx hb dX0_lendShoes_46 rfl (lv_at hl 0 rfl) ?_
      refine va_get (D := D) (ci := 0) (v := .ref (fa 3)) (C := RX0) (T := TX0) (N := 9) hx hb hts (by decide +kernel) hown hK hP 0 rfl rfl 2 (by decide) (hts (.fieldLink RX0 18 "DanceHall$Floor" "lentToLeaders" "[I") (by decide +kernel)) (fun _ h9 => h9) rfl dX0_lendShoes_47 ?_
      refine kc_i (Cs := [fW cy fa (kLe Ar.1 Fl.1 x i, Fl.2), gW cy a 1 L]) (Rs := [sO a C, gW cy a 7 F, sA cy a Ar]) (Bs := [fW cy fa (kLe Ar.1 Fl.1 x i, Fl.2), sO a C, gW cy a 1 L, gW cy a 7 F, sA cy a Ar]) (Cs' := fun u_ : Unit => [fW cy fa ((kLn L (kLe Ar.1 Fl.1 x i) Fl.2.2.1 L.2.2.2.2.2).1, Fl.2.1, (kLn L (kLe Ar.1 Fl.1 x i) Fl.2.2.1 L.2.2.2.2.2).2.1, Fl.2.2.2.1, Fl.2.2.2.2.1, Fl.2.2.2.2.2.1, Fl.2.2.2.2.2.2.1, Fl.2.2.2.2.2.2.2.1, Fl.2.2.2.2.2.2.2.2), gW cy a 1 L]) (Fs := fun u_ : Unit => [fW cy fa ((kLn L (kLe Ar.1 Fl.1 x i) Fl.2.2.1 L.2.2.2.2.2).1, Fl.2.1, (kLn L (kLe Ar.1 Fl.1 x i) Fl.2.2.1 L.2.2.2.2.2).2.1, Fl.2.2.2.1, Fl.2.2.2.2.1, Fl.2.2.2.2.2.1, Fl.2.2.2.2.2.2.1, Fl.2.2.2.2.2.2.2.1, Fl.2.2.2.2.2.2.2.2), sO a C, gW cy a 1 L, gW cy a 7 F, sA cy a Ar]) hP hD hS hA [0, 2] [1, 3, 4] [3, 0, 4, 1, 2] rfl rfl (by decide) (by decide) (fun _ => rfl) (va_runV (As := [.ref (a 1), .ref (fa 3)]) (rest := [.ref (fa 0)]) ⟨hx, hb, hml, hown, hts⟩ (c_X0_lendTo_L l D cy fa (kLe Ar.1 Fl.1 x i, Fl.2) a 1 L hnl hsl H.size) (cwV 2 hts gX0_lendShoes_X0_lendTo rfl rfl rfl (by decide +kernel) ⟨Nat.le_of_ble_eq_true rfl, Nat.le_of_ble_eq_true rfl⟩) (kPre_V (ci := 0) hK hN hP hD [0, 2] (by decide) rfl 0 rfl rfl) rfl rfl hl.1 rfl (lv_room (Nat.le_of_ble_eq_true rfl)) dX0_lendShoes_50 ⟨Nat.le_of_ble_eq_true rfl, Nat.le_of_ble_eq_true rfl⟩) (fun r_ u_ H locs hw hP hD hS => ?_)
      have hw : r_ = nI (kLn L (kLe Ar.1 Fl.1 x i) Fl.2.2.1 L.2.2.2.2.2).2.2 := hw
      subst hw
      refine va_put (D := D) (ci := 0) (v := .int (nI (kLn L (kLe Ar.1 Fl.1 x i) Fl.2.2.1 L.2.2.2.2.2).2.2)) (ty := .int) (C := RX0) (T := TX0) (N := 9) hx hb hts (by decide +kernel) tyX0 tyX0_ok nmX0 hown hK hP hD hS 0 rfl rfl 4 (by decide) (hts (.fieldLink RX0 47 "DanceHall$Floor" "readyLeaders" "I") (by decide +kernel)) (fun _ h9 => h9) rfl (by decide +kernel) rfl rfl (Nat.le_of_ble_eq_true rfl) dX0_lendShoes_53 (fun H locs hP hD hS => ?_)
      have hP : va_P D vwCl (bkF [fW cy fa ((kLn L (kLe Ar.1 Fl.1 x i) Fl.2.2.1 L.2.2.2.2.2).1, Fl.2.1, (kLn L (kLe Ar.1 Fl.1 x i) Fl.2.2.1 L.2.2.2.2.2).2.1, Fl.2.2.2.1, (kLn L (kLe Ar.1 Fl.1 x i) Fl.2.2.1 L.2.2.2.2.2).2.2, Fl.2.2.2.2.2.1, Fl.2.2.2.2.2.2.1, Fl.2.2.2.2.2.2.2.1, Fl.2.2.2.2.2.2.2.2), sO a C, gW cy a 1 L, gW cy a 7 F, sA cy a Ar]) H := hP
      have hD : va_D A (bkF [fW cy fa ((kLn L (kLe Ar.1 Fl.1 x i) Fl.2.2.1 L.2.2.2.2.2).1, Fl.2.1, (kLn L (kLe Ar.1 Fl.1 x i) Fl.2.2.1 L.2.2.2.2.2).2.1, Fl.2.2.2.1, (kLn L (kLe Ar.1 Fl.1 x i) Fl.2.2.1 L.2.2.2.2.2).2.2, Fl.2.2.2.2.2.1, Fl.2.2.2.2.2.2.1, Fl.2.2.2.2.2.2.2.1, Fl.2.2.2.2.2.2.2.2), sO a C, gW cy a 1 L, gW cy a 7 F, sA cy a Ar]) := hD
      refine lv_aload_n hx hb dX0_lendShoes_56 rfl (lv_at hl 0 rfl) ?_
      refine lv_aload_n hx hb dX0_lendShoes_57 rfl (lv_at hl 0 rfl) ?_
      refine lv_aload_n hx hb dX0_lendShoes_58 rfl (lv_at hl 1 rfl) ?_
      refine va_get (D := D) (ci := 3) (v := .ref (a 7)) (C := RX3) (T := TX3) (N := 14) hx hb hts (by decide +kernel) hown hK hP 7 rfl rfl 1 (by decide) (hts (.fieldLink RX0 51 "DanceHall$State" "followers" "LDanceHall$Guests;") (by decide +kernel)) (fun _ h9 => h9) rfl dX0_lendShoes_59 ?_
      refine lv_aload_n hx hb dX0_lendShoes_62 rfl (lv_at hl 0 rfl) ?_
      refine va_get (D := D) (ci := 0) (v := .ref (fa 4)) (C := RX0) (T := TX0) (N := 9) hx hb hts (by decide +kernel) hown hK hP 0 rfl rfl 3 (by decide) (hts (.fieldLink RX0 21 "DanceHall$Floor" "lentToFollowers" "[I") (by decide +kernel)) (fun _ h9 => h9) rfl dX0_lendShoes_63 ?_
      refine kc_i (Cs := [fW cy fa ((kLn L (kLe Ar.1 Fl.1 x i) Fl.2.2.1 L.2.2.2.2.2).1, Fl.2.1, (kLn L (kLe Ar.1 Fl.1 x i) Fl.2.2.1 L.2.2.2.2.2).2.1, Fl.2.2.2.1, (kLn L (kLe Ar.1 Fl.1 x i) Fl.2.2.1 L.2.2.2.2.2).2.2, Fl.2.2.2.2.2.1, Fl.2.2.2.2.2.2.1, Fl.2.2.2.2.2.2.2.1, Fl.2.2.2.2.2.2.2.2), gW cy a 7 F]) (Rs := [sO a C, gW cy a 1 L, sA cy a Ar]) (Bs := [fW cy fa ((kLn L (kLe Ar.1 Fl.1 x i) Fl.2.2.1 L.2.2.2.2.2).1, Fl.2.1, (kLn L (kLe Ar.1 Fl.1 x i) Fl.2.2.1 L.2.2.2.2.2).2.1, Fl.2.2.2.1, (kLn L (kLe Ar.1 Fl.1 x i) Fl.2.2.1 L.2.2.2.2.2).2.2, Fl.2.2.2.2.2.1, Fl.2.2.2.2.2.2.1, Fl.2.2.2.2.2.2.2.1, Fl.2.2.2.2.2.2.2.2), sO a C, gW cy a 1 L, gW cy a 7 F, sA cy a Ar]) (Cs' := fun u_ : Unit => [fW cy fa ((kLn F (kLn L (kLe Ar.1 Fl.1 x i) Fl.2.2.1 L.2.2.2.2.2).1 Fl.2.2.2.1 F.2.2.2.2.2).1, Fl.2.1, (kLn L (kLe Ar.1 Fl.1 x i) Fl.2.2.1 L.2.2.2.2.2).2.1, (kLn F (kLn L (kLe Ar.1 Fl.1 x i) Fl.2.2.1 L.2.2.2.2.2).1 Fl.2.2.2.1 F.2.2.2.2.2).2.1, (kLn L (kLe Ar.1 Fl.1 x i) Fl.2.2.1 L.2.2.2.2.2).2.2, Fl.2.2.2.2.2.1, Fl.2.2.2.2.2.2.1, Fl.2.2.2.2.2.2.2.1, Fl.2.2.2.2.2.2.2.2), gW cy a 7 F]) (Fs := fun u_ : Unit => [fW cy fa ((kLn F (kLn L (kLe Ar.1 Fl.1 x i) Fl.2.2.1 L.2.2.2.2.2).1 Fl.2.2.2.1 F.2.2.2.2.2).1, Fl.2.1, (kLn L (kLe Ar.1 Fl.1 x i) Fl.2.2.1 L.2.2.2.2.2).2.1, (kLn F (kLn L (kLe Ar.1 Fl.1 x i) Fl.2.2.1 L.2.2.2.2.2).1 Fl.2.2.2.1 F.2.2.2.2.2).2.1, (kLn L (kLe Ar.1 Fl.1 x i) Fl.2.2.1 L.2.2.2.2.2).2.2, Fl.2.2.2.2.2.1, Fl.2.2.2.2.2.2.1, Fl.2.2.2.2.2.2.2.1, Fl.2.2.2.2.2.2.2.2), sO a C, gW cy a 1 L, gW cy a 7 F, sA cy a Ar]) hP hD hS hA [0, 3] [1, 2, 4] [3, 0, 1, 4, 2] rfl rfl (by decide) (by decide) (fun _ => rfl) (va_runV (As := [.ref (a 7), .ref (fa 4)]) (rest := [.ref (fa 0)]) ⟨hx, hb, hml, hown, hts⟩ (c_X0_lendTo_F l D cy fa ((kLn L (kLe Ar.1 Fl.1 x i) Fl.2.2.1 L.2.2.2.2.2).1, Fl.2.1, (kLn L (kLe Ar.1 Fl.1 x i) Fl.2.2.1 L.2.2.2.2.2).2.1, Fl.2.2.2.1, (kLn L (kLe Ar.1 Fl.1 x i) Fl.2.2.1 L.2.2.2.2.2).2.2, Fl.2.2.2.2.2.1, Fl.2.2.2.2.2.2.1, Fl.2.2.2.2.2.2.2.1, Fl.2.2.2.2.2.2.2.2) a 7 F hnf hsf H.size) (cwV 2 hts gX0_lendShoes_X0_lendTo rfl rfl rfl (by decide +kernel) ⟨Nat.le_of_ble_eq_true rfl, Nat.le_of_ble_eq_true rfl⟩) (kPre_V (ci := 0) hK hN hP hD [0, 3] (by decide) rfl 0 rfl rfl) rfl rfl hl.1 rfl (lv_room (Nat.le_of_ble_eq_true rfl)) dX0_lendShoes_66 ⟨Nat.le_of_ble_eq_true rfl, Nat.le_of_ble_eq_true rfl⟩) (fun r_ u_ H locs hw hP hD hS => ?_)
      have hw : r_ = nI (kLn F (kLn L (kLe Ar.1 Fl.1 x i) Fl.2.2.1 L.2.2.2.2.2).1 Fl.2.2.2.1 F.2.2.2.2.2).2.2 := hw
      subst hw
      refine va_put (D := D) (ci := 0) (v := .int (nI (kLn F (kLn L (kLe Ar.1 Fl.1 x i) Fl.2.2.1 L.2.2.2.2.2).1 Fl.2.2.2.1 F.2.2.2.2.2).2.2)) (ty := .int) (C := RX0) (T := TX0) (N := 9) hx hb hts (by decide +kernel) tyX0 tyX0_ok nmX0 hown hK hP hD hS 0 rfl rfl 5 (by decide) (hts (.fieldLink RX0 54 "DanceHall$Floor" "readyFollowers" "I") (by decide +kernel)) (fun _ h9 => h9) rfl (by decide +kernel) rfl rfl (Nat.le_of_ble_eq_true rfl) dX0_lendShoes_69 (fun H locs hP hD hS => ?_)
      have hP : va_P D vwCl (bkF [fW cy fa ((kLn F (kLn L (kLe Ar.1 Fl.1 x i) Fl.2.2.1 L.2.2.2.2.2).1 Fl.2.2.2.1 F.2.2.2.2.2).1, Fl.2.1, (kLn L (kLe Ar.1 Fl.1 x i) Fl.2.2.1 L.2.2.2.2.2).2.1, (kLn F (kLn L (kLe Ar.1 Fl.1 x i) Fl.2.2.1 L.2.2.2.2.2).1 Fl.2.2.2.1 F.2.2.2.2.2).2.1, (kLn L (kLe Ar.1 Fl.1 x i) Fl.2.2.1 L.2.2.2.2.2).2.2, (kLn F (kLn L (kLe Ar.1 Fl.1 x i) Fl.2.2.1 L.2.2.2.2.2).1 Fl.2.2.2.1 F.2.2.2.2.2).2.2, Fl.2.2.2.2.2.2.1, Fl.2.2.2.2.2.2.2.1, Fl.2.2.2.2.2.2.2.2), sO a C, gW cy a 1 L, gW cy a 7 F, sA cy a Ar]) H := hP
      have hD : va_D A (bkF [fW cy fa ((kLn F (kLn L (kLe Ar.1 Fl.1 x i) Fl.2.2.1 L.2.2.2.2.2).1 Fl.2.2.2.1 F.2.2.2.2.2).1, Fl.2.1, (kLn L (kLe Ar.1 Fl.1 x i) Fl.2.2.1 L.2.2.2.2.2).2.1, (kLn F (kLn L (kLe Ar.1 Fl.1 x i) Fl.2.2.1 L.2.2.2.2.2).1 Fl.2.2.2.1 F.2.2.2.2.2).2.1, (kLn L (kLe Ar.1 Fl.1 x i) Fl.2.2.1 L.2.2.2.2.2).2.2, (kLn F (kLn L (kLe Ar.1 Fl.1 x i) Fl.2.2.1 L.2.2.2.2.2).1 Fl.2.2.2.1 F.2.2.2.2.2).2.2, Fl.2.2.2.2.2.2.1, Fl.2.2.2.2.2.2.2.1, Fl.2.2.2.2.2.2.2.2), sO a C, gW cy a 1 L, gW cy a 7 F, sA cy a Ar]) := hD
      have hi : i = 10 := by omega
      subst hi
      exact kr_v (post := fun u_ : Unit => True) (Bs := fun u_ : Unit => [fW cy fa ((kS2 Ar.1 L F Fl x).1, Fl.2.1, (kS1 Ar.1 L Fl x).2.1, (kS2 Ar.1 L F Fl x).2.1, (kS1 Ar.1 L Fl x).2.2, (kS2 Ar.1 L F Fl x).2.2, Fl.2.2.2.2.2.2), sO a C, gW cy a 1 L, gW cy a 7 F, sA cy a Ar]) hx hb hr hlocks () hP hK hD hS trivial dX0_lendShoes_72 hQ
    · skip
      have c_5 : ¬ (9 < i) := fun h => c_5 ((nI_ltI (a := 9) (b := i) (by omega) (by omega)).mpr h)
      refine lv_aload_n hx hb dX0_lendShoes_8 rfl (lv_at hl 0 rfl) ?_
      refine va_get (D := D) (ci := 0) (v := .ref (fa 1)) (C := RX0) (T := TX0) (N := 9) hx hb hts (by decide +kernel) hown hK hP 0 rfl rfl 0 (by decide) (hts (.fieldLink RX0 9 "DanceHall$Floor" "left" "[I") (by decide +kernel)) (fun _ h9 => h9) rfl dX0_lendShoes_9 ?_
      refine lv_iload_n hx hb dX0_lendShoes_12 rfl (lv_at hl 3 rfl) ?_
      refine lv_aload_n hx hb dX0_lendShoes_13 rfl (lv_at hl 1 rfl) ?_
      refine va_get (D := D) (ci := 3) (v := .ref (a 13)) (C := RX3) (T := TX3) (N := 14) hx hb hts (by decide +kernel) hown hK hP 7 rfl rfl 2 (by decide) (hts (.fieldLink RX0 30 "DanceHall$State" "pairs" "[I") (by decide +kernel)) (fun _ h9 => h9) rfl dX0_lendShoes_14 ?_
      refine lv_iload_n hx hb dX0_lendShoes_17 rfl (lv_at hl 3 rfl) ?_
      refine va_iald hx hb hK hP 20 0 rfl rfl (vp_in_nI (n := i) (N := 10) (by omega) (by omega)) dX0_lendShoes_18 ?_
      refine kv_i (y := Ar.1 i) (congrArg Ar.1 (nI_clamp (n := i) (by omega))) ?_
      refine lv_iload_n hx hb dX0_lendShoes_19 rfl (lv_at hl 3 rfl) ?_
      refine lv_iload_n hx hb dX0_lendShoes_20 rfl (lv_at hl 2 rfl) ?_
      refine lv_icmp_ne (tgt := 28) hx hb dX0_lendShoes_21 (by decide) (fun c_21 => ?_) (fun c_21 => ?_)
      · skip
        have c_21 : ¬ (i = x) := fun h => c_21 ((nI_eq (a := i) (b := x) (by omega) (by omega)).mpr h)
        refine lv_iconst (v := nI 0) hx hb dX0_lendShoes_28 (by decide) ?_
        refine kc_i (Cs := []) (Rs := [fW cy fa (kLe Ar.1 Fl.1 x i, Fl.2), sO a C, gW cy a 1 L, gW cy a 7 F, sA cy a Ar]) (Bs := [fW cy fa (kLe Ar.1 Fl.1 x i, Fl.2), sO a C, gW cy a 1 L, gW cy a 7 F, sA cy a Ar]) (Cs' := fun u_ : Unit => []) (Fs := fun u_ : Unit => [fW cy fa (kLe Ar.1 Fl.1 x i, Fl.2), sO a C, gW cy a 1 L, gW cy a 7 F, sA cy a Ar]) hP hD hS hA [] [0, 1, 2, 3, 4] [0, 1, 2, 3, 4] rfl rfl (by decide) (by decide) (fun _ => rfl) (va_runSN (As := [.int (nI 0)]) (rest := [.int (Ar.1 i), .int (nI i), .ref (fa 1)]) ⟨hx, hb, hml, hown, hts⟩ (c_X4_oneIf_n l D cy 0 (by first | assumption | omega | decide) H.size) ⟨va_cnB 1 hts gX0_lendShoes_X4_oneIf_n35 rfl rfl rfl hN.2.2.2.1 (hts (.initialized RX4) (by decide +kernel)) (by decide +kernel) ⟨Nat.le_of_ble_eq_true rfl, Nat.le_of_ble_eq_true rfl⟩, hts (.static yX4_oneIf) (by decide +kernel), trivial⟩ (kPre_S hK hN hP hD [] (by decide) rfl) rfl rfl hl.1 rfl (lv_room (Nat.le_of_ble_eq_true rfl)) dX0_lendShoes_29 ⟨Nat.le_of_ble_eq_true rfl, Nat.le_of_ble_eq_true rfl⟩) (fun r_ u_ H locs hw hP hD hS => ?_)
        have hw : r_ = nI 0 := hw
        subst hw
        refine lv_iadd hx hb dX0_lendShoes_32 ?_
        refine kv_i (y := Ar.1 i + nI (if i = x then 1 else 0)) (by rw [if_neg c_21]) ?_
        refine va_iast hx hb hK hP hD hS 1 0 rfl rfl (vp_in_nI (n := i) (N := 10) (by omega) (by omega)) dX0_lendShoes_33 (fun H locs hP hD hS => ?_)
        rw [nI_clamp (n := i) (by omega)] at hP hD
        have hP : va_P D vwCl (bkF [fW cy fa (upd (kLe Ar.1 Fl.1 x i) i (Ar.1 i + nI (if i = x then 1 else 0)), Fl.2), sO a C, gW cy a 1 L, gW cy a 7 F, sA cy a Ar]) H := hP
        have hD : va_D A (bkF [fW cy fa (upd (kLe Ar.1 Fl.1 x i) i (Ar.1 i + nI (if i = x then 1 else 0)), Fl.2), sO a C, gW cy a 1 L, gW cy a 7 F, sA cy a Ar]) := hD
        refine lv_iinc (v := nI (i + 1)) (lv' := [(3, .int (nI (i + 1))), (0, .ref (fa 0)), (1, .ref (a 0)), (2, .int (nI x))]) hx hb dX0_lendShoes_34 hl (k := 3) rfl (nI_add i 1) (by decide) rfl (fun ls hl => ?_)
        refine lv_goto (tgt := 2) hx hb dX0_lendShoes_37 (by decide) ?_
        have hP := kP_cell (g := (kLe Ar.1 Fl.1 x (i + 1))) hP 1 rfl (fun j _ => kLe_s _ _ _ i j (by omega))
        have hD := hD.set (p := 1) (e := .inl (cy 0, 10, .inl (kLe Ar.1 Fl.1 x (i + 1)))) rfl
        have hP : va_P D vwCl (bkF [fW cy fa (kLe Ar.1 Fl.1 x (i + 1), Fl.2), sO a C, gW cy a 1 L, gW cy a 7 F, sA cy a Ar]) H := hP
        have hD : va_D A (bkF [fW cy fa (kLe Ar.1 Fl.1 x (i + 1), Fl.2), sO a C, gW cy a 1 L, gW cy a 7 F, sA cy a Ar]) := hD
        exact ih_2 _ (by omega) (i + 1) rfl (by omega) (by omega) ls H locs hP hD hS (lv_sub hl [1, 2, 3, 0] rfl)
      · skip
        have c_21 : i = x := (nI_eq (a := i) (b := x) (by omega) (by omega)).mp c_21
        refine lv_iconst (v := nI 1) hx hb dX0_lendShoes_24 (by decide) ?_
        refine lv_goto (tgt := 29) hx hb dX0_lendShoes_25 (by decide) ?_
        refine kc_i (Cs := []) (Rs := [fW cy fa (kLe Ar.1 Fl.1 x i, Fl.2), sO a C, gW cy a 1 L, gW cy a 7 F, sA cy a Ar]) (Bs := [fW cy fa (kLe Ar.1 Fl.1 x i, Fl.2), sO a C, gW cy a 1 L, gW cy a 7 F, sA cy a Ar]) (Cs' := fun u_ : Unit => []) (Fs := fun u_ : Unit => [fW cy fa (kLe Ar.1 Fl.1 x i, Fl.2), sO a C, gW cy a 1 L, gW cy a 7 F, sA cy a Ar]) hP hD hS hA [] [0, 1, 2, 3, 4] [0, 1, 2, 3, 4] rfl rfl (by decide) (by decide) (fun _ => rfl) (va_runSN (As := [.int (nI 1)]) (rest := [.int (Ar.1 i), .int (nI i), .ref (fa 1)]) ⟨hx, hb, hml, hown, hts⟩ (c_X4_oneIf_n l D cy 1 (by first | assumption | omega | decide) H.size) ⟨va_cnB 1 hts gX0_lendShoes_X4_oneIf_n35 rfl rfl rfl hN.2.2.2.1 (hts (.initialized RX4) (by decide +kernel)) (by decide +kernel) ⟨Nat.le_of_ble_eq_true rfl, Nat.le_of_ble_eq_true rfl⟩, hts (.static yX4_oneIf) (by decide +kernel), trivial⟩ (kPre_S hK hN hP hD [] (by decide) rfl) rfl rfl hl.1 rfl (lv_room (Nat.le_of_ble_eq_true rfl)) dX0_lendShoes_29 ⟨Nat.le_of_ble_eq_true rfl, Nat.le_of_ble_eq_true rfl⟩) (fun r_ u_ H locs hw hP hD hS => ?_)
        have hw : r_ = nI 1 := hw
        subst hw
        refine lv_iadd hx hb dX0_lendShoes_32 ?_
        refine kv_i (y := Ar.1 i + nI (if i = x then 1 else 0)) (by rw [if_pos c_21]) ?_
        refine va_iast hx hb hK hP hD hS 1 0 rfl rfl (vp_in_nI (n := i) (N := 10) (by omega) (by omega)) dX0_lendShoes_33 (fun H locs hP hD hS => ?_)
        rw [nI_clamp (n := i) (by omega)] at hP hD
        have hP : va_P D vwCl (bkF [fW cy fa (upd (kLe Ar.1 Fl.1 x i) i (Ar.1 i + nI (if i = x then 1 else 0)), Fl.2), sO a C, gW cy a 1 L, gW cy a 7 F, sA cy a Ar]) H := hP
        have hD : va_D A (bkF [fW cy fa (upd (kLe Ar.1 Fl.1 x i) i (Ar.1 i + nI (if i = x then 1 else 0)), Fl.2), sO a C, gW cy a 1 L, gW cy a 7 F, sA cy a Ar]) := hD
        refine lv_iinc (v := nI (i + 1)) (lv' := [(3, .int (nI (i + 1))), (0, .ref (fa 0)), (1, .ref (a 0)), (2, .int (nI x))]) hx hb dX0_lendShoes_34 hl (k := 3) rfl (nI_add i 1) (by decide) rfl (fun ls hl => ?_)
        refine lv_goto (tgt := 2) hx hb dX0_lendShoes_37 (by decide) ?_
        have hP := kP_cell (g := (kLe Ar.1 Fl.1 x (i + 1))) hP 1 rfl (fun j _ => kLe_s _ _ _ i j (by omega))
        have hD := hD.set (p := 1) (e := .inl (cy 0, 10, .inl (kLe Ar.1 Fl.1 x (i + 1)))) rfl
        have hP : va_P D vwCl (bkF [fW cy fa (kLe Ar.1 Fl.1 x (i + 1), Fl.2), sO a C, gW cy a 1 L, gW cy a 7 F, sA cy a Ar]) H := hP
        have hD : va_D A (bkF [fW cy fa (kLe Ar.1 Fl.1 x (i + 1), Fl.2), sO a C, gW cy a 1 L, gW cy a 7 F, sA cy a Ar]) := hD
        exact ih_2 _ (by omega) (i + 1) rfl (by omega) (by omega) ls H locs hP hD hS (lv_sub hl [1, 2, 3, 0] rfl)
  exact L_2 _ 1  rfl (by omega) (by omega) ls H locs hP hD hS (lv_sub hl [1, 2, 3, 0] rfl)
abbrev rm_X0_isReady_t : Room := { frames := 0, cells := 0, slots := 0, locals := 0 }
set_option maxHeartbeats 1000000 in
set_option maxRecDepth 100000 in
/-- isReady -/
theorem c_X0_isReady_t (l : Launch) (D : va_G) (cy : Nat → ClassId) (fa : Nat → Nat) (e0 : Nat → Int32) (e1 : Nat → Int32) (e2 : Nat → Int32) (e3 : Nat → Int32) (rl : Nat) (rf : Nat) (ma : Nat → Int32) (lo : Nat → Int32) (un : Nat) (x : Int32) (g9 : Nat) (hx0 : ¬ x = 0) (hg9 : g9 < 8) (hrd : rl < 256) (sz : Nat) : Met l yX0_isReady wsX0_isReady rm_X0_isReady_t (va_Pc [.ref (fa 0), .int x, .int (nI g9)] (kPre D (kT cy) [fW cy fa (e0, e1, e2, e3, rl, rf, ma, lo, un)] sz)) (va_Qi (fun r_ (u_ : Unit) => r_ = if ¬ (rl / 2 ^ g9 &&& 1 = 0) then nI 1 else nI 0) (kFr D (kT cy) [fW cy fa (e0, e1, e2, e3, rl, rf, ma, lo, un)] sz (fun u_ : Unit => [fW cy fa (e0, e1, e2, e3, rl, rf, ma, lo, un)])) (va_A (bkF [fW cy fa (e0, e1, e2, e3, rl, rf, ma, lo, un)]) sz)) 0 0 (va_A (bkF [fW cy fa (e0, e1, e2, e3, rl, rf, ma, lo, un)]) sz) := by
  refine kOpen (y := yX0_isReady) (ws := wsX0_isReady) (cc := cX0_isReady) (maxL := 3) (ret := (some .boolean)) (av := [.ref (fa 0), .int x, .int (nI g9)]) (Bs := [fW cy fa (e0, e1, e2, e3, rl, rf, ma, lo, un)]) (Qc := fun A => (va_Qi (fun r_ (u_ : Unit) => r_ = if ¬ (rl / 2 ^ g9 &&& 1 = 0) then nI 1 else nI 0) (fun (u_ : Unit) t9 => kEnd D (kT cy) A [fW cy fa (e0, e1, e2, e3, rl, rf, ma, lo, un)] t9) A)) (by decide) rfl (Nat.le_of_ble_eq_true rfl) ?_
  intro p e s m args below meth c A Q ls hQ hx hb hml hr hlocks hin hts hown hN hK hP hD hS hA hsz hAe hl
  clear hAe
  have hl : lv_has ls 3 [(0, .ref (fa 0)), (1, .int x), (2, .int (nI g9))] := hl
  suffices K9 : ∀ (H : Heap) (locs : List Loc), va_P D vwCl (bkF [fW cy fa (e0, e1, e2, e3, rl, rf, ma, lo, un)]) H → va_S A s.heap H locs → W p l e (headSpec wsX0_isReady rm_X0_isReady_t).room s m args below meth c H locs 0 0 Q (F0 m 0 ls []) from K9 _ _ hP hS
  clear hP hS
  intro H locs hP hS
  refine lv_iload_n hx hb dX0_isReady_0 rfl (lv_at hl 1 rfl) ?_
  refine lv_if_eq (tgt := 11) hx hb dX0_isReady_1 (by decide) (fun c_1 => False.elim ?_) (fun c_1 => ?_)
  · skip
    exact hx0 c_1
  · skip
    refine lv_aload_n hx hb dX0_isReady_4 rfl (lv_at hl 0 rfl) ?_
    refine va_get (D := D) (ci := 0) (v := .int (nI rl)) (C := RX0) (T := TX0) (N := 9) hx hb hts (by decide +kernel) hown hK hP 0 rfl rfl 4 (by decide) (hts (.fieldLink RX0 47 "DanceHall$Floor" "readyLeaders" "I") (by decide +kernel)) (fun _ h9 => h9) rfl dX0_isReady_5 ?_
    refine lv_goto (tgt := 15) hx hb dX0_isReady_8 (by decide) ?_
    refine lv_iload_n hx hb dX0_isReady_15 rfl (lv_at hl 2 rfl) ?_
    refine lv_ishr hx hb dX0_isReady_16 ?_
    refine kv_i (y := nI (rl / 2 ^ g9)) (kshr (n := rl) (i := g9) (by omega) (by omega)) ?_
    refine lv_iconst (v := nI 1) hx hb dX0_isReady_17 (by decide) ?_
    refine lv_iand hx hb dX0_isReady_18 ?_
    refine kv_i (y := nI ((rl / 2 ^ g9) &&& 1)) (kn_and (rl / 2 ^ g9) 1) ?_
    refine lv_if_eq (tgt := 26) hx hb dX0_isReady_19 (by decide) (fun c_19 => ?_) (fun c_19 => ?_)
    · skip
      have c_19 : ((rl / 2 ^ g9) &&& 1) = 0 := (nI_eq (a := (rl / 2 ^ g9) &&& 1) (b := 0) (by first | omega | exact Nat.lt_of_le_of_lt Nat.and_le_right (by decide)) (by first | omega | exact Nat.lt_of_le_of_lt Nat.and_le_right (by decide))).mp c_19
      refine lv_iconst (v := nI 0) hx hb dX0_isReady_26 (by decide) ?_
      exact kr_i (post := fun r_ (u_ : Unit) => r_ = if ¬ (rl / 2 ^ g9 &&& 1 = 0) then nI 1 else nI 0) (Bs := fun u_ : Unit => [fW cy fa (e0, e1, e2, e3, rl, rf, ma, lo, un)]) hx hb hr hlocks rfl () hP hK hD hS (by first | exact (if_pos (by first | assumption | (simp only [c_1, c_19]; done) | (constructor <;> assumption) | omega)).symm | exact (if_neg (by first | assumption | omega)).symm | simp [c_1, c_19] | (split <;> simp_all)) dX0_isReady_27 hQ
    · skip
      have c_19 : ¬ (((rl / 2 ^ g9) &&& 1) = 0) := fun h => c_19 ((nI_eq (a := (rl / 2 ^ g9) &&& 1) (b := 0) (by first | omega | exact Nat.lt_of_le_of_lt Nat.and_le_right (by decide)) (by first | omega | exact Nat.lt_of_le_of_lt Nat.and_le_right (by decide))).mpr h)
      refine lv_iconst (v := nI 1) hx hb dX0_isReady_22 (by decide) ?_
      refine lv_goto (tgt := 27) hx hb dX0_isReady_23 (by decide) ?_
      exact kr_i (post := fun r_ (u_ : Unit) => r_ = if ¬ (rl / 2 ^ g9 &&& 1 = 0) then nI 1 else nI 0) (Bs := fun u_ : Unit => [fW cy fa (e0, e1, e2, e3, rl, rf, ma, lo, un)]) hx hb hr hlocks rfl () hP hK hD hS (by first | exact (if_pos (by first | assumption | (simp only [c_1, c_19]; done) | (constructor <;> assumption) | omega)).symm | exact (if_neg (by first | assumption | omega)).symm | simp [c_1, c_19] | (split <;> simp_all)) dX0_isReady_27 hQ
abbrev rm_X0_isReady_f : Room := { frames := 0, cells := 0, slots := 0, locals := 0 }
set_option maxHeartbeats 1000000 in
set_option maxRecDepth 100000 in
/-- isReady -/
theorem c_X0_isReady_f (l : Launch) (D : va_G) (cy : Nat → ClassId) (fa : Nat → Nat) (e0 : Nat → Int32) (e1 : Nat → Int32) (e2 : Nat → Int32) (e3 : Nat → Int32) (rl : Nat) (rf : Nat) (ma : Nat → Int32) (lo : Nat → Int32) (un : Nat) (x : Int32) (g9 : Nat) (hx0 : x = 0) (hg9 : g9 < 8) (hrd : rf < 256) (sz : Nat) : Met l yX0_isReady wsX0_isReady rm_X0_isReady_f (va_Pc [.ref (fa 0), .int x, .int (nI g9)] (kPre D (kT cy) [fW cy fa (e0, e1, e2, e3, rl, rf, ma, lo, un)] sz)) (va_Qi (fun r_ (u_ : Unit) => r_ = if ¬ (rf / 2 ^ g9 &&& 1 = 0) then nI 1 else nI 0) (kFr D (kT cy) [fW cy fa (e0, e1, e2, e3, rl, rf, ma, lo, un)] sz (fun u_ : Unit => [fW cy fa (e0, e1, e2, e3, rl, rf, ma, lo, un)])) (va_A (bkF [fW cy fa (e0, e1, e2, e3, rl, rf, ma, lo, un)]) sz)) 0 0 (va_A (bkF [fW cy fa (e0, e1, e2, e3, rl, rf, ma, lo, un)]) sz) := by
  refine kOpen (y := yX0_isReady) (ws := wsX0_isReady) (cc := cX0_isReady) (maxL := 3) (ret := (some .boolean)) (av := [.ref (fa 0), .int x, .int (nI g9)]) (Bs := [fW cy fa (e0, e1, e2, e3, rl, rf, ma, lo, un)]) (Qc := fun A => (va_Qi (fun r_ (u_ : Unit) => r_ = if ¬ (rf / 2 ^ g9 &&& 1 = 0) then nI 1 else nI 0) (fun (u_ : Unit) t9 => kEnd D (kT cy) A [fW cy fa (e0, e1, e2, e3, rl, rf, ma, lo, un)] t9) A)) (by decide) rfl (Nat.le_of_ble_eq_true rfl) ?_
  intro p e s m args below meth c A Q ls hQ hx hb hml hr hlocks hin hts hown hN hK hP hD hS hA hsz hAe hl
  clear hAe
  have hl : lv_has ls 3 [(0, .ref (fa 0)), (1, .int x), (2, .int (nI g9))] := hl
  suffices K9 : ∀ (H : Heap) (locs : List Loc), va_P D vwCl (bkF [fW cy fa (e0, e1, e2, e3, rl, rf, ma, lo, un)]) H → va_S A s.heap H locs → W p l e (headSpec wsX0_isReady rm_X0_isReady_f).room s m args below meth c H locs 0 0 Q (F0 m 0 ls []) from K9 _ _ hP hS
  clear hP hS
  intro H locs hP hS
  refine lv_iload_n hx hb dX0_isReady_0 rfl (lv_at hl 1 rfl) ?_
  refine lv_if_eq (tgt := 11) hx hb dX0_isReady_1 (by decide) (fun c_1 => ?_) (fun c_1 => False.elim ?_)
  · skip
    refine lv_aload_n hx hb dX0_isReady_11 rfl (lv_at hl 0 rfl) ?_
    refine va_get (D := D) (ci := 0) (v := .int (nI rf)) (C := RX0) (T := TX0) (N := 9) hx hb hts (by decide +kernel) hown hK hP 0 rfl rfl 5 (by decide) (hts (.fieldLink RX0 54 "DanceHall$Floor" "readyFollowers" "I") (by decide +kernel)) (fun _ h9 => h9) rfl dX0_isReady_12 ?_
    refine lv_iload_n hx hb dX0_isReady_15 rfl (lv_at hl 2 rfl) ?_
    refine lv_ishr hx hb dX0_isReady_16 ?_
    refine kv_i (y := nI (rf / 2 ^ g9)) (kshr (n := rf) (i := g9) (by omega) (by omega)) ?_
    refine lv_iconst (v := nI 1) hx hb dX0_isReady_17 (by decide) ?_
    refine lv_iand hx hb dX0_isReady_18 ?_
    refine kv_i (y := nI ((rf / 2 ^ g9) &&& 1)) (kn_and (rf / 2 ^ g9) 1) ?_
    refine lv_if_eq (tgt := 26) hx hb dX0_isReady_19 (by decide) (fun c_19 => ?_) (fun c_19 => ?_)
    · skip
      have c_19 : ((rf / 2 ^ g9) &&& 1) = 0 := (nI_eq (a := (rf / 2 ^ g9) &&& 1) (b := 0) (by first | omega | exact Nat.lt_of_le_of_lt Nat.and_le_right (by decide)) (by first | omega | exact Nat.lt_of_le_of_lt Nat.and_le_right (by decide))).mp c_19
      refine lv_iconst (v := nI 0) hx hb dX0_isReady_26 (by decide) ?_
      exact kr_i (post := fun r_ (u_ : Unit) => r_ = if ¬ (rf / 2 ^ g9 &&& 1 = 0) then nI 1 else nI 0) (Bs := fun u_ : Unit => [fW cy fa (e0, e1, e2, e3, rl, rf, ma, lo, un)]) hx hb hr hlocks rfl () hP hK hD hS (by first | exact (if_pos (by first | assumption | (simp only [c_1, c_19]; done) | (constructor <;> assumption) | omega)).symm | exact (if_neg (by first | assumption | omega)).symm | simp [c_1, c_19] | (split <;> simp_all)) dX0_isReady_27 hQ
    · skip
      have c_19 : ¬ (((rf / 2 ^ g9) &&& 1) = 0) := fun h => c_19 ((nI_eq (a := (rf / 2 ^ g9) &&& 1) (b := 0) (by first | omega | exact Nat.lt_of_le_of_lt Nat.and_le_right (by decide)) (by first | omega | exact Nat.lt_of_le_of_lt Nat.and_le_right (by decide))).mpr h)
      refine lv_iconst (v := nI 1) hx hb dX0_isReady_22 (by decide) ?_
      refine lv_goto (tgt := 27) hx hb dX0_isReady_23 (by decide) ?_
      exact kr_i (post := fun r_ (u_ : Unit) => r_ = if ¬ (rf / 2 ^ g9 &&& 1 = 0) then nI 1 else nI 0) (Bs := fun u_ : Unit => [fW cy fa (e0, e1, e2, e3, rl, rf, ma, lo, un)]) hx hb hr hlocks rfl () hP hK hD hS (by first | exact (if_pos (by first | assumption | (simp only [c_1, c_19]; done) | (constructor <;> assumption) | omega)).symm | exact (if_neg (by first | assumption | omega)).symm | simp [c_1, c_19] | (split <;> simp_all)) dX0_isReady_27 hQ
  · skip
    exact c_1 hx0
abbrev rm_J6_bitCount : Room := { frames := 0, cells := 0, slots := 0, locals := 0 }
set_option maxHeartbeats 1000000 in
set_option maxRecDepth 100000 in
/-- bitCount -/
theorem c_J6_bitCount (l : Launch) (D : va_G) (cy : Nat → ClassId) (n : Nat) (hn : n < 256) (sz : Nat) : Met l yJ6_bitCount_0f7a4 wsJ6_bitCount_0f7a4 rm_J6_bitCount (va_Pc [.int (nI n)] (kPre D (kT cy) [] sz)) (va_Qi (fun r_ (u_ : Unit) => r_ = nI (kpop n)) (kFr D (kT cy) [] sz (fun u_ : Unit => [])) (va_A (bkF []) sz)) 0 0 (va_A (bkF []) sz) := by
  refine kOpen (y := yJ6_bitCount_0f7a4) (ws := wsJ6_bitCount_0f7a4) (cc := cJ6_bitCount_0f7a4) (maxL := 1) (ret := (some .int)) (av := [.int (nI n)]) (Bs := []) (Qc := fun A => (va_Qi (fun r_ (u_ : Unit) => r_ = nI (kpop n)) (fun (u_ : Unit) t9 => kEnd D (kT cy) A [] t9) A)) (by decide) rfl (Nat.le_of_ble_eq_true rfl) ?_
  intro p e s m args below meth c A Q ls hQ hx hb hml hr hlocks hin hts hown hN hK hP hD hS hA hsz hAe hl
  clear hAe
  have hl : lv_has ls 1 [(0, .int (nI n))] := hl
  suffices K9 : ∀ (H : Heap) (locs : List Loc), va_P D vwCl (bkF []) H → va_S A s.heap H locs → W p l e (headSpec wsJ6_bitCount_0f7a4 rm_J6_bitCount).room s m args below meth c H locs 0 0 Q (F0 m 0 ls []) from K9 _ _ hP hS
  clear hP hS
  intro H locs hP hS
  refine lv_iload_n hx hb dJ6_bitCount_0f7a4_0 rfl (lv_at hl 0 rfl) ?_
  refine lv_iload_n hx hb dJ6_bitCount_0f7a4_1 rfl (lv_at hl 0 rfl) ?_
  refine lv_iconst (v := nI 1) hx hb dJ6_bitCount_0f7a4_2 (by decide) ?_
  refine lv_iushr (v := ((nI n).toUInt32 >>> ((nI 1).toUInt32 &&& Int32.toUInt32 31)).toInt32) hx hb dJ6_bitCount_0f7a4_3 rfl ?_
  refine lv_ldcw hx hb hown (hts (.constant RJ6 265 (1431655765)) (by decide +kernel)) dJ6_bitCount_0f7a4_4 ?_
  refine lv_iand hx hb dJ6_bitCount_0f7a4_7 ?_
  refine lv_isub hx hb dJ6_bitCount_0f7a4_8 ?_
  refine lv_topi (fun y1 e1 => ?_)
  refine lv_istore_n (lv' := [(0, .int y1)]) hx hb dJ6_bitCount_0f7a4_9 rfl hl (by decide) rfl (fun ls hl => ?_)
  refine lv_iload_n hx hb dJ6_bitCount_0f7a4_10 rfl (lv_at hl 0 rfl) ?_
  refine lv_ldcw hx hb hown (hts (.constant RJ6 266 (858993459)) (by decide +kernel)) dJ6_bitCount_0f7a4_11 ?_
  refine lv_iand hx hb dJ6_bitCount_0f7a4_14 ?_
  refine lv_iload_n hx hb dJ6_bitCount_0f7a4_15 rfl (lv_at hl 0 rfl) ?_
  refine lv_iconst (v := nI 2) hx hb dJ6_bitCount_0f7a4_16 (by decide) ?_
  refine lv_iushr (v := (y1.toUInt32 >>> ((nI 2).toUInt32 &&& Int32.toUInt32 31)).toInt32) hx hb dJ6_bitCount_0f7a4_17 rfl ?_
  refine lv_ldcw hx hb hown (hts (.constant RJ6 266 (858993459)) (by decide +kernel)) dJ6_bitCount_0f7a4_18 ?_
  refine lv_iand hx hb dJ6_bitCount_0f7a4_21 ?_
  refine lv_iadd hx hb dJ6_bitCount_0f7a4_22 ?_
  refine lv_topi (fun y2 e2 => ?_)
  refine lv_istore_n (lv' := [(0, .int y2)]) hx hb dJ6_bitCount_0f7a4_23 rfl hl (by decide) rfl (fun ls hl => ?_)
  refine lv_iload_n hx hb dJ6_bitCount_0f7a4_24 rfl (lv_at hl 0 rfl) ?_
  refine lv_iload_n hx hb dJ6_bitCount_0f7a4_25 rfl (lv_at hl 0 rfl) ?_
  refine lv_iconst (v := nI 4) hx hb dJ6_bitCount_0f7a4_26 (by decide) ?_
  refine lv_iushr (v := (y2.toUInt32 >>> ((nI 4).toUInt32 &&& Int32.toUInt32 31)).toInt32) hx hb dJ6_bitCount_0f7a4_27 rfl ?_
  refine lv_iadd hx hb dJ6_bitCount_0f7a4_28 ?_
  refine lv_ldcw hx hb hown (hts (.constant RJ6 267 (252645135)) (by decide +kernel)) dJ6_bitCount_0f7a4_29 ?_
  refine lv_iand hx hb dJ6_bitCount_0f7a4_32 ?_
  refine lv_topi (fun y3 e3 => ?_)
  refine lv_istore_n (lv' := [(0, .int y3)]) hx hb dJ6_bitCount_0f7a4_33 rfl hl (by decide) rfl (fun ls hl => ?_)
  refine lv_iload_n hx hb dJ6_bitCount_0f7a4_34 rfl (lv_at hl 0 rfl) ?_
  refine lv_iload_n hx hb dJ6_bitCount_0f7a4_35 rfl (lv_at hl 0 rfl) ?_
  refine lv_bipush (v := nI 8) hx hb dJ6_bitCount_0f7a4_36 (by decide) ?_
  refine lv_iushr (v := (y3.toUInt32 >>> ((nI 8).toUInt32 &&& Int32.toUInt32 31)).toInt32) hx hb dJ6_bitCount_0f7a4_38 rfl ?_
  refine lv_iadd hx hb dJ6_bitCount_0f7a4_39 ?_
  refine lv_topi (fun y4 e4 => ?_)
  refine lv_istore_n (lv' := [(0, .int y4)]) hx hb dJ6_bitCount_0f7a4_40 rfl hl (by decide) rfl (fun ls hl => ?_)
  refine lv_iload_n hx hb dJ6_bitCount_0f7a4_41 rfl (lv_at hl 0 rfl) ?_
  refine lv_iload_n hx hb dJ6_bitCount_0f7a4_42 rfl (lv_at hl 0 rfl) ?_
  refine lv_bipush (v := nI 16) hx hb dJ6_bitCount_0f7a4_43 (by decide) ?_
  refine lv_iushr (v := (y4.toUInt32 >>> ((nI 16).toUInt32 &&& Int32.toUInt32 31)).toInt32) hx hb dJ6_bitCount_0f7a4_45 rfl ?_
  refine lv_iadd hx hb dJ6_bitCount_0f7a4_46 ?_
  refine lv_topi (fun y5 e5 => ?_)
  refine lv_istore_n (lv' := [(0, .int y5)]) hx hb dJ6_bitCount_0f7a4_47 rfl hl (by decide) rfl (fun ls hl => ?_)
  refine lv_iload_n hx hb dJ6_bitCount_0f7a4_48 rfl (lv_at hl 0 rfl) ?_
  refine lv_bipush (v := nI 63) hx hb dJ6_bitCount_0f7a4_49 (by decide) ?_
  refine lv_iand hx hb dJ6_bitCount_0f7a4_51 ?_
  exact kr_i (post := fun r_ (u_ : Unit) => r_ = nI (kpop n)) (Bs := fun u_ : Unit => []) hx hb hr hlocks rfl () hP hK hD hS (by rw [e5, e4, e3, e2, e1]; exact kbc_ok n hn) dJ6_bitCount_0f7a4_52 hQ
abbrev rm_X0_readyCount : Room := { frames := 1, cells := 0, slots := 0, locals := 20 }
set_option maxHeartbeats 1000000 in
set_option maxRecDepth 100000 in
/-- readyCount -/
theorem c_X0_readyCount (l : Launch) (D : va_G) (cy : Nat → ClassId) (fa : Nat → Nat) (e0 : Nat → Int32) (e1 : Nat → Int32) (e2 : Nat → Int32) (e3 : Nat → Int32) (rl : Nat) (rf : Nat) (ma : Nat → Int32) (lo : Nat → Int32) (un : Nat) (h1 : rl < 256) (h2 : rf < 256) (sz : Nat) : Met l yX0_readyCount wsX0_readyCount rm_X0_readyCount (va_Pc [.ref (fa 0)] (kPre D (kT cy) [fW cy fa (e0, e1, e2, e3, rl, rf, ma, lo, un)] sz)) (va_Qi (fun r_ (u_ : Unit) => r_ = nI (kpop rl + kpop rf)) (kFr D (kT cy) [fW cy fa (e0, e1, e2, e3, rl, rf, ma, lo, un)] sz (fun u_ : Unit => [fW cy fa (e0, e1, e2, e3, rl, rf, ma, lo, un)])) (va_A (bkF [fW cy fa (e0, e1, e2, e3, rl, rf, ma, lo, un)]) sz)) 0 0 (va_A (bkF [fW cy fa (e0, e1, e2, e3, rl, rf, ma, lo, un)]) sz) := by
  refine kOpen (y := yX0_readyCount) (ws := wsX0_readyCount) (cc := cX0_readyCount) (maxL := 1) (ret := (some .int)) (av := [.ref (fa 0)]) (Bs := [fW cy fa (e0, e1, e2, e3, rl, rf, ma, lo, un)]) (Qc := fun A => (va_Qi (fun r_ (u_ : Unit) => r_ = nI (kpop rl + kpop rf)) (fun (u_ : Unit) t9 => kEnd D (kT cy) A [fW cy fa (e0, e1, e2, e3, rl, rf, ma, lo, un)] t9) A)) (by decide) rfl (Nat.le_of_ble_eq_true rfl) ?_
  intro p e s m args below meth c A Q ls hQ hx hb hml hr hlocks hin hts hown hN hK hP hD hS hA hsz hAe hl
  clear hAe
  have hl : lv_has ls 1 [(0, .ref (fa 0))] := hl
  suffices K9 : ∀ (H : Heap) (locs : List Loc), va_P D vwCl (bkF [fW cy fa (e0, e1, e2, e3, rl, rf, ma, lo, un)]) H → va_S A s.heap H locs → W p l e (headSpec wsX0_readyCount rm_X0_readyCount).room s m args below meth c H locs 0 0 Q (F0 m 0 ls []) from K9 _ _ hP hS
  clear hP hS
  intro H locs hP hS
  refine lv_aload_n hx hb dX0_readyCount_0 rfl (lv_at hl 0 rfl) ?_
  refine va_get (D := D) (ci := 0) (v := .int (nI rl)) (C := RX0) (T := TX0) (N := 9) hx hb hts (by decide +kernel) hown hK hP 0 rfl rfl 4 (by decide) (hts (.fieldLink RX0 47 "DanceHall$Floor" "readyLeaders" "I") (by decide +kernel)) (fun _ h9 => h9) rfl dX0_readyCount_1 ?_
  refine kc_i (Cs := []) (Rs := [fW cy fa (e0, e1, e2, e3, rl, rf, ma, lo, un)]) (Bs := [fW cy fa (e0, e1, e2, e3, rl, rf, ma, lo, un)]) (Cs' := fun u_ : Unit => []) (Fs := fun u_ : Unit => [fW cy fa (e0, e1, e2, e3, rl, rf, ma, lo, un)]) hP hD hS hA [] [0] [0] rfl rfl (by decide) (by decide) (fun _ => rfl) (va_runS (As := [.int (nI rl)]) (rest := []) ⟨hx, hb, hml, hown, hts⟩ (c_J6_bitCount l D cy rl (by first | assumption | omega | decide) H.size) (va_cwS 1 hts gX0_readyCount_J6_bitCount_0f7a4 rfl rfl rfl (by decide +kernel) ⟨Nat.le_of_ble_eq_true rfl, Nat.le_of_ble_eq_true rfl⟩) (kPre_S hK hN hP hD [] (by decide) rfl) rfl rfl hl.1 rfl (lv_room (Nat.le_of_ble_eq_true rfl)) dX0_readyCount_4 ⟨Nat.le_of_ble_eq_true rfl, Nat.le_of_ble_eq_true rfl⟩) (fun r_ u_ H locs hw hP hD hS => ?_)
  have hw : r_ = nI (kpop rl) := hw
  subst hw
  refine lv_aload_n hx hb dX0_readyCount_7 rfl (lv_at hl 0 rfl) ?_
  refine va_get (D := D) (ci := 0) (v := .int (nI rf)) (C := RX0) (T := TX0) (N := 9) hx hb hts (by decide +kernel) hown hK hP 0 rfl rfl 5 (by decide) (hts (.fieldLink RX0 54 "DanceHall$Floor" "readyFollowers" "I") (by decide +kernel)) (fun _ h9 => h9) rfl dX0_readyCount_8 ?_
  refine kc_i (Cs := []) (Rs := [fW cy fa (e0, e1, e2, e3, rl, rf, ma, lo, un)]) (Bs := [fW cy fa (e0, e1, e2, e3, rl, rf, ma, lo, un)]) (Cs' := fun u_ : Unit => []) (Fs := fun u_ : Unit => [fW cy fa (e0, e1, e2, e3, rl, rf, ma, lo, un)]) hP hD hS hA [] [0] [0] rfl rfl (by decide) (by decide) (fun _ => rfl) (va_runS (As := [.int (nI rf)]) (rest := [.int (nI (kpop rl))]) ⟨hx, hb, hml, hown, hts⟩ (c_J6_bitCount l D cy rf (by first | assumption | omega | decide) H.size) (va_cwS 1 hts gX0_readyCount_J6_bitCount_0f7a4 rfl rfl rfl (by decide +kernel) ⟨Nat.le_of_ble_eq_true rfl, Nat.le_of_ble_eq_true rfl⟩) (kPre_S hK hN hP hD [] (by decide) rfl) rfl rfl hl.1 rfl (lv_room (Nat.le_of_ble_eq_true rfl)) dX0_readyCount_11 ⟨Nat.le_of_ble_eq_true rfl, Nat.le_of_ble_eq_true rfl⟩) (fun r_ u_ H locs hw hP hD hS => ?_)
  have hw : r_ = nI (kpop rf) := hw
  subst hw
  refine lv_iadd hx hb dX0_readyCount_14 ?_
  refine kv_i (y := nI ((kpop rl) + (kpop rf))) (nI_add (kpop rl) (kpop rf)) ?_
  exact kr_i (post := fun r_ (u_ : Unit) => r_ = nI (kpop rl + kpop rf)) (Bs := fun u_ : Unit => [fW cy fa (e0, e1, e2, e3, rl, rf, ma, lo, un)]) hx hb hr hlocks rfl () hP hK hD hS rfl dX0_readyCount_15 hQ
abbrev rm_X0_newFollowers : Room := { frames := 1, cells := 0, slots := 0, locals := 22 }
set_option maxHeartbeats 1000000 in
set_option maxRecDepth 100000 in
/-- newFollowers -/
theorem c_X0_newFollowers (l : Launch) (D : va_G) (cy : Nat → ClassId) (fa : Nat → Nat) (e0 : Nat → Int32) (e1 : Nat → Int32) (e2 : Nat → Int32) (e3 : Nat → Int32) (rl : Nat) (rf : Nat) (ma : Nat → Int32) (lo : Nat → Int32) (un : Nat) (a : Nat → Nat) (d : Nat → Nat → Int32) (l9 : Nat) (hl9 : l9 < 8) (hrd : rf < 256) (sz : Nat) : Met l yX0_newFollowers wsX0_newFollowers rm_X0_newFollowers (va_Pc [.ref (fa 0), .ref (a (17 + l9))] (kPre D (kT cy) [fW cy fa (e0, e1, e2, e3, rl, rf, ma, lo, un), rW cy a d] sz)) (va_Qi (fun r_ (u_ : Unit) => r_ = nI (knf rf (d l9) 8)) (kFr D (kT cy) [fW cy fa (e0, e1, e2, e3, rl, rf, ma, lo, un), rW cy a d] sz (fun u_ : Unit => [fW cy fa (e0, e1, e2, e3, rl, rf, ma, lo, un), rW cy a d])) (va_A (bkF [fW cy fa (e0, e1, e2, e3, rl, rf, ma, lo, un), rW cy a d]) sz)) 0 0 (va_A (bkF [fW cy fa (e0, e1, e2, e3, rl, rf, ma, lo, un), rW cy a d]) sz) := by
  refine kOpen (y := yX0_newFollowers) (ws := wsX0_newFollowers) (cc := cX0_newFollowers) (maxL := 4) (ret := (some .int)) (av := [.ref (fa 0), .ref (a (17 + l9))]) (Bs := [fW cy fa (e0, e1, e2, e3, rl, rf, ma, lo, un), rW cy a d]) (Qc := fun A => (va_Qi (fun r_ (u_ : Unit) => r_ = nI (knf rf (d l9) 8)) (fun (u_ : Unit) t9 => kEnd D (kT cy) A [fW cy fa (e0, e1, e2, e3, rl, rf, ma, lo, un), rW cy a d] t9) A)) (by decide) rfl (Nat.le_of_ble_eq_true rfl) ?_
  intro p e s m args below meth c A Q ls hQ hx hb hml hr hlocks hin hts hown hN hK hP hD hS hA hsz hAe hl
  clear hAe
  have hl : lv_has ls 4 [(0, .ref (fa 0)), (1, .ref (a (17 + l9)))] := hl
  suffices K9 : ∀ (H : Heap) (locs : List Loc), va_P D vwCl (bkF [fW cy fa (e0, e1, e2, e3, rl, rf, ma, lo, un), rW cy a d]) H → va_S A s.heap H locs → W p l e (headSpec wsX0_newFollowers rm_X0_newFollowers).room s m args below meth c H locs 0 0 Q (F0 m 0 ls []) from K9 _ _ hP hS
  clear hP hS
  intro H locs hP hS
  refine lv_iconst (v := nI 0) hx hb dX0_newFollowers_0 (by decide) ?_
  refine lv_istore_n (lv' := [(2, .int (nI 0)), (0, .ref (fa 0)), (1, .ref (a (17 + l9)))]) hx hb dX0_newFollowers_1 rfl hl (by decide) rfl (fun ls hl => ?_)
  refine lv_iconst (v := nI 0) hx hb dX0_newFollowers_2 (by decide) ?_
  refine lv_istore_n (lv' := [(3, .int (nI 0)), (2, .int (nI 0)), (0, .ref (fa 0)), (1, .ref (a (17 + l9)))]) hx hb dX0_newFollowers_3 rfl hl (by decide) rfl (fun ls hl => ?_)
  have L_4 : ∀ (n9 : Nat) (i : Nat), 8 - i = n9 → (i ≤ 8) → ∀ (ls : Array Slot) (H : Heap) (locs : List Loc), va_P D vwCl (bkF [fW cy fa (e0, e1, e2, e3, rl, rf, ma, lo, un), rW cy a d]) H → va_D A (bkF [fW cy fa (e0, e1, e2, e3, rl, rf, ma, lo, un), rW cy a d]) → va_S A s.heap H locs → lv_has ls 4 [(0, .ref (fa 0)), (1, .ref (a (17 + l9))), (3, .int (nI i)), (2, .int (nI (knf rf (d l9) i)))] → W p l e (headSpec wsX0_newFollowers rm_X0_newFollowers).room s m args below meth c H locs 0 0 Q (F0 m 4 ls []) := by
    intro n9
    induction n9 using Nat.strongRecOn with
    | _ n9 ih_4 =>
    intro i hm_4 h4_0 ls H locs hP hD hS hl
    refine lv_iload_n hx hb dX0_newFollowers_4 rfl (lv_at hl 2 rfl) ?_
    refine lv_bipush (v := nI 8) hx hb dX0_newFollowers_5 (by decide) ?_
    refine lv_icmp_ge (tgt := 38) hx hb dX0_newFollowers_7 (by decide) (fun c_7 => ?_) (fun c_7 => ?_)
    · skip
      have c_7 : 8 ≤ i := (nI_leI (a := 8) (b := i) (by omega) (by omega)).mp c_7
      refine lv_iload_n hx hb dX0_newFollowers_38 rfl (lv_at hl 3 rfl) ?_
      exact kr_i (post := fun r_ (u_ : Unit) => r_ = nI (knf rf (d l9) 8)) (Bs := fun u_ : Unit => [fW cy fa (e0, e1, e2, e3, rl, rf, ma, lo, un), rW cy a d]) hx hb hr hlocks rfl () hP hK hD hS (by rw [show i = 8 from by omega]) dX0_newFollowers_39 hQ
    · skip
      have c_7 : ¬ (8 ≤ i) := fun h => c_7 ((nI_leI (a := 8) (b := i) (by omega) (by omega)).mpr h)
      refine lv_aload_n hx hb dX0_newFollowers_10 rfl (lv_at hl 0 rfl) ?_
      refine lv_iconst (v := nI 0) hx hb dX0_newFollowers_11 (by decide) ?_
      refine lv_iload_n hx hb dX0_newFollowers_12 rfl (lv_at hl 2 rfl) ?_
      refine kc_i (Cs := [fW cy fa (e0, e1, e2, e3, rl, rf, ma, lo, un)]) (Rs := [rW cy a d]) (Bs := [fW cy fa (e0, e1, e2, e3, rl, rf, ma, lo, un), rW cy a d]) (Cs' := fun u_ : Unit => [fW cy fa (e0, e1, e2, e3, rl, rf, ma, lo, un)]) (Fs := fun u_ : Unit => [fW cy fa (e0, e1, e2, e3, rl, rf, ma, lo, un), rW cy a d]) hP hD hS hA [0] [1] [1, 0] rfl rfl (by decide) (by decide) (fun _ => rfl) (va_runV (As := [.int (nI 0), .int (nI i)]) (rest := []) ⟨hx, hb, hml, hown, hts⟩ (c_X0_isReady_f l D cy fa e0 e1 e2 e3 rl rf ma lo un (nI 0) i (by first | assumption | omega | decide) (by first | assumption | omega | decide) (by first | assumption | omega | decide) H.size) (cwV 2 hts gX0_newFollowers_X0_isReady rfl rfl rfl (by decide +kernel) ⟨Nat.le_of_ble_eq_true rfl, Nat.le_of_ble_eq_true rfl⟩) (kPre_V (ci := 0) hK hN hP hD [0] (by decide) rfl 0 rfl rfl) rfl rfl hl.1 rfl (lv_room (Nat.le_of_ble_eq_true rfl)) dX0_newFollowers_13 ⟨Nat.le_of_ble_eq_true rfl, Nat.le_of_ble_eq_true rfl⟩) (fun r_ u_ H locs hw hP hD hS => ?_)
      have hw : r_ = if ¬ (rf / 2 ^ i &&& 1 = 0) then nI 1 else nI 0 := hw
      subst hw
      by_cases b_13 : ¬ (rf / 2 ^ i &&& 1 = 0)
      · refine kv_i (y := nI 1) (if_pos b_13) ?_
        refine lv_if_eq (tgt := 32) hx hb dX0_newFollowers_16 (by decide) (fun h => absurd h (by decide)) (fun _ => ?_)
        refine lv_aload_n hx hb dX0_newFollowers_19 rfl (lv_at hl 1 rfl) ?_
        refine lv_iload_n hx hb dX0_newFollowers_20 rfl (lv_at hl 2 rfl) ?_
        have hq9 : (bkF [fW cy fa (e0, e1, e2, e3, rl, rf, ma, lo, un), rW cy a d])[7 + l9]? = some (a (17 + l9), .inl (cy 0, 8, .inl (d l9))) := by rcases k8 (show l9 < 8 by omega) with h9 | h9 | h9 | h9 | h9 | h9 | h9 | h9 <;> rw [h9] <;> rfl
        refine va_iald hx hb hK hP (7 + l9) 0 hq9 rfl (vp_in_nI (n := i) (N := 8) (by omega) (by omega)) dX0_newFollowers_21 ?_
        refine kv_i (y := d l9 i) (congrArg (d l9) (nI_clamp (n := i) (by omega))) ?_
        refine lv_iconst (v := (-1 : Int32)) hx hb dX0_newFollowers_22 (by decide) ?_
        refine lv_icmp_ne (tgt := 32) hx hb dX0_newFollowers_23 (by decide) (fun c_23 => ?_) (fun c_23 => ?_)
        · skip
          refine lv_iinc (v := nI (i + 1)) (lv' := [(3, .int (nI (i + 1))), (0, .ref (fa 0)), (1, .ref (a (17 + l9))), (2, .int (nI (knf rf (d l9) i)))]) hx hb dX0_newFollowers_32 hl (k := 2) rfl (nI_add i 1) (by decide) rfl (fun ls hl => ?_)
          refine lv_goto (tgt := 4) hx hb dX0_newFollowers_35 (by decide) ?_
          have e7 : knf rf (d l9) (i + 1) = knf rf (d l9) i := knf_n (fun h => c_23 h.2)
          rw [← e7] at hl
          exact ih_4 _ (by omega) (i + 1) rfl (by omega) ls H locs hP hD hS (lv_sub hl [1, 2, 0, 3] rfl)
        · skip
          refine lv_iload_n hx hb dX0_newFollowers_26 rfl (lv_at hl 3 rfl) ?_
          refine lv_iconst (v := nI 1) hx hb dX0_newFollowers_27 (by decide) ?_
          refine lv_iload_n hx hb dX0_newFollowers_28 rfl (lv_at hl 2 rfl) ?_
          refine lv_ishl hx hb dX0_newFollowers_29 ?_
          refine kv_i (y := nI (2 ^ i)) (kshl (i := i) (by omega)) ?_
          refine lv_ior hx hb dX0_newFollowers_30 ?_
          refine kv_i (y := nI ((knf rf (d l9) i) ||| (2 ^ i))) (kn_or (knf rf (d l9) i) (2 ^ i)) ?_
          refine lv_istore_n (lv' := [(2, .int (nI ((knf rf (d l9) i) ||| (2 ^ i)))), (0, .ref (fa 0)), (1, .ref (a (17 + l9))), (3, .int (nI i))]) hx hb dX0_newFollowers_31 rfl hl (by decide) rfl (fun ls hl => ?_)
          refine lv_iinc (v := nI (i + 1)) (lv' := [(3, .int (nI (i + 1))), (2, .int (nI ((knf rf (d l9) i) ||| (2 ^ i)))), (0, .ref (fa 0)), (1, .ref (a (17 + l9)))]) hx hb dX0_newFollowers_32 hl (k := 3) rfl (nI_add i 1) (by decide) rfl (fun ls hl => ?_)
          refine lv_goto (tgt := 4) hx hb dX0_newFollowers_35 (by decide) ?_
          have e7 : knf rf (d l9) (i + 1) = (knf rf (d l9) i) ||| (2 ^ i) := knf_y b_13 c_23
          rw [← e7] at hl
          exact ih_4 _ (by omega) (i + 1) rfl (by omega) ls H locs hP hD hS (lv_sub hl [2, 3, 0, 1] rfl)
      · refine kv_i (y := nI 0) (if_neg b_13) ?_
        refine lv_if_eq (tgt := 32) hx hb dX0_newFollowers_16 (by decide) (fun _ => ?_) (fun h => absurd h (by decide))
        refine lv_iinc (v := nI (i + 1)) (lv' := [(3, .int (nI (i + 1))), (0, .ref (fa 0)), (1, .ref (a (17 + l9))), (2, .int (nI (knf rf (d l9) i)))]) hx hb dX0_newFollowers_32 hl (k := 2) rfl (nI_add i 1) (by decide) rfl (fun ls hl => ?_)
        refine lv_goto (tgt := 4) hx hb dX0_newFollowers_35 (by decide) ?_
        have e7 : knf rf (d l9) (i + 1) = knf rf (d l9) i := knf_n (fun h => b_13 h.1)
        rw [← e7] at hl
        exact ih_4 _ (by omega) (i + 1) rfl (by omega) ls H locs hP hD hS (lv_sub hl [1, 2, 0, 3] rfl)
  exact L_4 _ 0  rfl (by omega) ls H locs hP hD hS (lv_sub hl [2, 3, 0, 1] rfl)
def kPlaceP (l : Launch) (D : va_G) (cy : Nat → ClassId) (d : Nat) : Prop := ∀ (fa : Nat → Nat) (e0 : Nat → Int32) (e1 : Nat → Int32) (e2 : Nat → Int32) (e3 : Nat → Int32) (rl : Nat) (rf : Nat) (ma : Nat → Int32) (lo : Nat → Int32) (un : Nat) (M : Nat → Nat) (l9 : Nat) (k9 : Nat) (hm : ∀ q, q < 8 → ma q = nI (M q)) (hm8 : ∀ q, q < 8 → M q < 256) (hl9 : l9 < 8) (hk9 : k9 + d = 8) (hun : un < 256) (hlo : kLo lo) (sz : Nat), Met l yX0_place wsX0_place (rmPl d) (va_Pc [.ref (fa 0), .int (nI l9), .int (nI k9)] (kPre D (kT cy) [fW cy fa (e0, e1, e2, e3, rl, rf, ma, lo, un)] sz)) (va_Qi (fun r_ (u_ : Unit) => r_ = if (kPl M d l9 (un, lo)).1 = true then nI 1 else nI 0) (kFr D (kT cy) [fW cy fa (e0, e1, e2, e3, rl, rf, ma, lo, un)] sz (fun u_ : Unit => [fW cy fa (e0, e1, e2, e3, rl, rf, ma, (kPl M d l9 (un, lo)).2.2, (kPl M d l9 (un, lo)).2.1)])) (va_A (bkF [fW cy fa (e0, e1, e2, e3, rl, rf, ma, lo, un)]) sz)) 0 0 (va_A (bkF [fW cy fa (e0, e1, e2, e3, rl, rf, ma, lo, un)]) sz)
set_option maxHeartbeats 1000000 in
set_option maxRecDepth 100000 in
/-- place, too deep -/
theorem c_X0_place_z (l : Launch) (D : va_G) (cy : Nat → ClassId) (fa : Nat → Nat) (e0 : Nat → Int32) (e1 : Nat → Int32) (e2 : Nat → Int32) (e3 : Nat → Int32) (rl : Nat) (rf : Nat) (ma : Nat → Int32) (lo : Nat → Int32) (un : Nat) (M : Nat → Nat) (l9 : Nat) (k9 : Nat) (hm : ∀ q, q < 8 → ma q = nI (M q)) (hm8 : ∀ q, q < 8 → M q < 256) (hl9 : l9 < 8) (hk9 : k9 + 0 = 8) (hun : un < 256) (hlo : kLo lo) (sz : Nat) : Met l yX0_place wsX0_place (rmPl 0) (va_Pc [.ref (fa 0), .int (nI l9), .int (nI k9)] (kPre D (kT cy) [fW cy fa (e0, e1, e2, e3, rl, rf, ma, lo, un)] sz)) (va_Qi (fun r_ (u_ : Unit) => r_ = if (kPl M 0 l9 (un, lo)).1 = true then nI 1 else nI 0) (kFr D (kT cy) [fW cy fa (e0, e1, e2, e3, rl, rf, ma, lo, un)] sz (fun u_ : Unit => [fW cy fa (e0, e1, e2, e3, rl, rf, ma, (kPl M 0 l9 (un, lo)).2.2, (kPl M 0 l9 (un, lo)).2.1)])) (va_A (bkF [fW cy fa (e0, e1, e2, e3, rl, rf, ma, lo, un)]) sz)) 0 0 (va_A (bkF [fW cy fa (e0, e1, e2, e3, rl, rf, ma, lo, un)]) sz) := by
  refine kOpen (y := yX0_place) (ws := wsX0_place) (cc := cX0_place) (maxL := 6) (ret := (some .boolean)) (av := [.ref (fa 0), .int (nI l9), .int (nI k9)]) (Bs := [fW cy fa (e0, e1, e2, e3, rl, rf, ma, lo, un)]) (Qc := fun A => (va_Qi (fun r_ (u_ : Unit) => r_ = if (kPl M 0 l9 (un, lo)).1 = true then nI 1 else nI 0) (fun (u_ : Unit) t9 => kEnd D (kT cy) A [fW cy fa (e0, e1, e2, e3, rl, rf, ma, (kPl M 0 l9 (un, lo)).2.2, (kPl M 0 l9 (un, lo)).2.1)] t9) A)) (by decide) rfl (Nat.le_of_ble_eq_true rfl) ?_
  intro p e s m args below meth c A Q ls hQ hx hb hml hr hlocks hin hts hown hN hK hP hD hS hA hsz hAe hl
  clear hAe
  have hl : lv_has ls 6 [(0, .ref (fa 0)), (1, .int (nI l9)), (2, .int (nI k9))] := hl
  suffices K9 : ∀ (H : Heap) (locs : List Loc), va_P D vwCl (bkF [fW cy fa (e0, e1, e2, e3, rl, rf, ma, lo, un)]) H → va_S A s.heap H locs → W p l e (headSpec wsX0_place (rmPl 0)).room s m args below meth c H locs 0 0 Q (F0 m 0 ls []) from K9 _ _ hP hS
  clear hP hS
  intro H locs hP hS
  refine lv_iload_n hx hb dX0_place_0 rfl (lv_at hl 2 rfl) ?_
  refine lv_bipush (v := nI 8) hx hb dX0_place_1 (by decide) ?_
  refine lv_icmp_lt (tgt := 8) hx hb dX0_place_3 (by decide) (fun c_3 => False.elim ?_) (fun c_3 => ?_)
  · skip
    have c_3 : k9 < 8 := (nI_ltI (a := k9) (b := 8) (by omega) (by omega)).mp c_3
    omega
  · skip
    have c_3 : ¬ (k9 < 8) := fun h => c_3 ((nI_ltI (a := k9) (b := 8) (by omega) (by omega)).mpr h)
    refine lv_iconst (v := nI 0) hx hb dX0_place_6 (by decide) ?_
    have hP := kP_cell (g := (kPl M 0 l9 (un, lo)).2.2) hP 6 rfl (fun _ _ => rfl)
    have hD := hD.set (p := 6) (e := .inl (cy 0, 8, .inl (kPl M 0 l9 (un, lo)).2.2)) rfl
    have hP : va_P D vwCl (bkF [fW cy fa (e0, e1, e2, e3, rl, rf, ma, (kPl M 0 l9 (un, lo)).2.2, un)]) H := hP
    have hD : va_D A (bkF [fW cy fa (e0, e1, e2, e3, rl, rf, ma, (kPl M 0 l9 (un, lo)).2.2, un)]) := hD
    exact kr_i (post := fun r_ (u_ : Unit) => r_ = if (kPl M 0 l9 (un, lo)).1 = true then nI 1 else nI 0) (Bs := fun u_ : Unit => [fW cy fa (e0, e1, e2, e3, rl, rf, ma, (kPl M 0 l9 (un, lo)).2.2, (kPl M 0 l9 (un, lo)).2.1)]) hx hb hr hlocks rfl () hP hK hD hS rfl dX0_place_7 hQ
set_option maxHeartbeats 1000000 in
set_option maxRecDepth 100000 in
/-- place -/
theorem c_X0_place_s (l : Launch) (D : va_G) (cy : Nat → ClassId) (d : Nat) (fa : Nat → Nat) (e0 : Nat → Int32) (e1 : Nat → Int32) (e2 : Nat → Int32) (e3 : Nat → Int32) (rl : Nat) (rf : Nat) (ma : Nat → Int32) (lo : Nat → Int32) (un : Nat) (M : Nat → Nat) (l9 : Nat) (k9 : Nat) (ih : kPlaceP l D cy d) (hm : ∀ q, q < 8 → ma q = nI (M q)) (hm8 : ∀ q, q < 8 → M q < 256) (hl9 : l9 < 8) (hk9 : k9 + (d + 1) = 8) (hun : un < 256) (hlo : kLo lo) (sz : Nat) : Met l yX0_place wsX0_place (rmPl (d + 1)) (va_Pc [.ref (fa 0), .int (nI l9), .int (nI k9)] (kPre D (kT cy) [fW cy fa (e0, e1, e2, e3, rl, rf, ma, lo, un)] sz)) (va_Qi (fun r_ (u_ : Unit) => r_ = if (kPl M (d + 1) l9 (un, lo)).1 = true then nI 1 else nI 0) (kFr D (kT cy) [fW cy fa (e0, e1, e2, e3, rl, rf, ma, lo, un)] sz (fun u_ : Unit => [fW cy fa (e0, e1, e2, e3, rl, rf, ma, (kPl M (d + 1) l9 (un, lo)).2.2, (kPl M (d + 1) l9 (un, lo)).2.1)])) (va_A (bkF [fW cy fa (e0, e1, e2, e3, rl, rf, ma, lo, un)]) sz)) 0 0 (va_A (bkF [fW cy fa (e0, e1, e2, e3, rl, rf, ma, lo, un)]) sz) := by
  refine kOpen (y := yX0_place) (ws := wsX0_place) (cc := cX0_place) (maxL := 6) (ret := (some .boolean)) (av := [.ref (fa 0), .int (nI l9), .int (nI k9)]) (Bs := [fW cy fa (e0, e1, e2, e3, rl, rf, ma, lo, un)]) (Qc := fun A => (va_Qi (fun r_ (u_ : Unit) => r_ = if (kPl M (d + 1) l9 (un, lo)).1 = true then nI 1 else nI 0) (fun (u_ : Unit) t9 => kEnd D (kT cy) A [fW cy fa (e0, e1, e2, e3, rl, rf, ma, (kPl M (d + 1) l9 (un, lo)).2.2, (kPl M (d + 1) l9 (un, lo)).2.1)] t9) A)) (by decide) rfl (Nat.le_of_ble_eq_true rfl) ?_
  intro p e s m args below meth c A Q ls hQ hx hb hml hr hlocks hin hts hown hN hK hP hD hS hA hsz hAe hl
  clear hAe
  have hl : lv_has ls 6 [(0, .ref (fa 0)), (1, .int (nI l9)), (2, .int (nI k9))] := hl
  suffices K9 : ∀ (H : Heap) (locs : List Loc), va_P D vwCl (bkF [fW cy fa (e0, e1, e2, e3, rl, rf, ma, lo, un)]) H → va_S A s.heap H locs → W p l e (headSpec wsX0_place (rmPl (d + 1))).room s m args below meth c H locs 0 0 Q (F0 m 0 ls []) from K9 _ _ hP hS
  clear hP hS
  intro H locs hP hS
  refine lv_iload_n hx hb dX0_place_0 rfl (lv_at hl 2 rfl) ?_
  refine lv_bipush (v := nI 8) hx hb dX0_place_1 (by decide) ?_
  refine lv_icmp_lt (tgt := 8) hx hb dX0_place_3 (by decide) (fun c_3 => ?_) (fun c_3 => False.elim ?_)
  · skip
    have c_3 : k9 < 8 := (nI_ltI (a := k9) (b := 8) (by omega) (by omega)).mp c_3
    refine lv_iconst (v := nI 0) hx hb dX0_place_8 (by decide) ?_
    refine lv_istore_n (lv' := [(3, .int (nI 0)), (0, .ref (fa 0)), (1, .int (nI l9)), (2, .int (nI k9))]) hx hb dX0_place_9 rfl hl (by decide) rfl (fun ls hl => ?_)
    have L_10 : ∀ (n9 : Nat) (i : Nat) (u9 : Nat) (lo9 : Nat → Int32), 8 - i = n9 → (i ≤ 8) → (kFold (kStep M l9 (kPl M d)) i (false, un, lo) = (false, u9, lo9)) → (u9 < 256) → (kLo lo9) → ∀ (ls : Array Slot) (H : Heap) (locs : List Loc), va_P D vwCl (bkF [fW cy fa (e0, e1, e2, e3, rl, rf, ma, lo9, u9)]) H → va_D A (bkF [fW cy fa (e0, e1, e2, e3, rl, rf, ma, lo9, u9)]) → va_S A s.heap H locs → lv_has ls 6 [(0, .ref (fa 0)), (1, .int (nI l9)), (2, .int (nI k9)), (3, .int (nI i))] → W p l e (headSpec wsX0_place (rmPl (d + 1))).room s m args below meth c H locs 0 0 Q (F0 m 10 ls []) := by
      intro n9
      induction n9 using Nat.strongRecOn with
      | _ n9 ih_10 =>
      intro i u9 lo9 hm_10 h10_0 h10_1 h10_2 h10_3 ls H locs hP hD hS hl
      refine lv_iload_n hx hb dX0_place_10 rfl (lv_at hl 3 rfl) ?_
      refine lv_bipush (v := nI 8) hx hb dX0_place_11 (by decide) ?_
      refine lv_icmp_ge (tgt := 92) hx hb dX0_place_13 (by decide) (fun c_13 => ?_) (fun c_13 => ?_)
      · skip
        have c_13 : 8 ≤ i := (nI_leI (a := 8) (b := i) (by omega) (by omega)).mp c_13
        refine lv_iconst (v := nI 0) hx hb dX0_place_92 (by decide) ?_
        have E : kPl M (d + 1) l9 (un, lo) = (false, u9, lo9) := (by show kFold (kStep M l9 (kPl M d)) 8 (false, un, lo) = _; rw [show 8 = i from by omega]; exact h10_1)
        have hP := kP_cell (g := (kPl M (d + 1) l9 (un, lo)).2.2) hP 6 rfl (fun _ _ => by rw [E])
        have hD := hD.set (p := 6) (e := .inl (cy 0, 8, .inl (kPl M (d + 1) l9 (un, lo)).2.2)) rfl
        have hP : va_P D vwCl (bkF [fW cy fa (e0, e1, e2, e3, rl, rf, ma, (kPl M (d + 1) l9 (un, lo)).2.2, u9)]) H := hP
        have hD : va_D A (bkF [fW cy fa (e0, e1, e2, e3, rl, rf, ma, (kPl M (d + 1) l9 (un, lo)).2.2, u9)]) := hD
        have hP : va_P D vwCl (bkF [fW cy fa (e0, e1, e2, e3, rl, rf, ma, (kPl M (d + 1) l9 (un, lo)).2.2, (kPl M (d + 1) l9 (un, lo)).2.1)]) H := by rw [show (kPl M (d + 1) l9 (un, lo)).2.1 = u9 from (by rw [E])]; exact hP
        have hD : va_D A (bkF [fW cy fa (e0, e1, e2, e3, rl, rf, ma, (kPl M (d + 1) l9 (un, lo)).2.2, (kPl M (d + 1) l9 (un, lo)).2.1)]) := by rw [show (kPl M (d + 1) l9 (un, lo)).2.1 = u9 from (by rw [E])]; exact hD
        exact kr_i (post := fun r_ (u_ : Unit) => r_ = if (kPl M (d + 1) l9 (un, lo)).1 = true then nI 1 else nI 0) (Bs := fun u_ : Unit => [fW cy fa (e0, e1, e2, e3, rl, rf, ma, (kPl M (d + 1) l9 (un, lo)).2.2, (kPl M (d + 1) l9 (un, lo)).2.1)]) hx hb hr hlocks rfl () hP hK hD hS (by rw [E]; rfl) dX0_place_93 hQ
      · skip
        have c_13 : ¬ (8 ≤ i) := fun h => c_13 ((nI_leI (a := 8) (b := i) (by omega) (by omega)).mpr h)
        refine lv_iconst (v := nI 1) hx hb dX0_place_16 (by decide) ?_
        refine lv_iload_n hx hb dX0_place_17 rfl (lv_at hl 3 rfl) ?_
        refine lv_ishl hx hb dX0_place_18 ?_
        refine kv_i (y := nI (2 ^ i)) (kshl (i := i) (by omega)) ?_
        refine lv_istore (lv' := [(4, .int (nI (2 ^ i))), (0, .ref (fa 0)), (1, .int (nI l9)), (2, .int (nI k9)), (3, .int (nI i))]) hx hb dX0_place_19 hl (by decide) rfl (fun ls hl => ?_)
        refine lv_aload_n hx hb dX0_place_21 rfl (lv_at hl 1 rfl) ?_
        refine va_get (D := D) (ci := 0) (v := .ref (fa 5)) (C := RX0) (T := TX0) (N := 9) hx hb hts (by decide +kernel) hown hK hP 0 rfl rfl 6 (by decide) (hts (.fieldLink RX0 24 "DanceHall$Floor" "may" "[I") (by decide +kernel)) (fun _ h9 => h9) rfl dX0_place_22 ?_
        refine lv_iload_n hx hb dX0_place_25 rfl (lv_at hl 2 rfl) ?_
        refine va_iald hx hb hK hP 5 0 rfl rfl (vp_in_nI (n := l9) (N := 8) (by omega) (by omega)) dX0_place_26 ?_
        refine kv_i (y := nI (M l9)) (by rw [nI_clamp (n := l9) (by omega)]; exact hm l9 hl9) ?_
        refine lv_aload_n hx hb dX0_place_27 rfl (lv_at hl 1 rfl) ?_
        refine va_get (D := D) (ci := 0) (v := .int (nI u9)) (C := RX0) (T := TX0) (N := 9) hx hb hts (by decide +kernel) hown hK hP 0 rfl rfl 8 (by decide) (hts (.fieldLink RX0 113 "DanceHall$Floor" "untried" "I") (by decide +kernel)) (fun _ h9 => h9) rfl dX0_place_28 ?_
        refine lv_iand hx hb dX0_place_31 ?_
        refine kv_i (y := nI ((M l9) &&& u9)) (kn_and (M l9) u9) ?_
        refine lv_iload hx hb dX0_place_32 (lv_at hl 0 rfl) ?_
        refine lv_iand hx hb dX0_place_34 ?_
        refine kv_i (y := nI (((M l9) &&& u9) &&& (2 ^ i))) (kn_and ((M l9) &&& u9) (2 ^ i)) ?_
        have hM9 := hm8 l9 hl9
        have ha9 : M l9 &&& u9 &&& 2 ^ i ≤ M l9 &&& u9 := Nat.and_le_left
        have ha8 : M l9 &&& u9 ≤ M l9 := Nat.and_le_left
        refine lv_if_eq (tgt := 86) hx hb dX0_place_35 (by decide) (fun c_35 => ?_) (fun c_35 => ?_)
        · skip
          have c_35 : (((M l9) &&& u9) &&& (2 ^ i)) = 0 := (nI_eq (a := ((M l9) &&& u9) &&& (2 ^ i)) (b := 0) (by omega) (by omega)).mp c_35
          refine lv_iinc (v := nI (i + 1)) (lv' := [(3, .int (nI (i + 1))), (4, .int (nI (2 ^ i))), (0, .ref (fa 0)), (1, .int (nI l9)), (2, .int (nI k9))]) hx hb dX0_place_86 hl (k := 4) rfl (nI_add i 1) (by decide) rfl (fun ls hl => ?_)
          refine lv_goto (tgt := 10) hx hb dX0_place_89 (by decide) ?_
          exact ih_10 _ (by omega) (i + 1) u9 lo9 rfl (by omega) (by show kStep M l9 (kPl M d) i (kFold (kStep M l9 (kPl M d)) i (false, un, lo)) = _; rw [h10_1]; exact kStep_skip c_35) h10_2 h10_3 ls H locs hP hD hS (lv_sub hl [2, 3, 4, 0] rfl)
        · skip
          have c_35 : ¬ ((((M l9) &&& u9) &&& (2 ^ i)) = 0) := fun h => c_35 ((nI_eq (a := ((M l9) &&& u9) &&& (2 ^ i)) (b := 0) (by omega) (by omega)).mpr h)
          refine lv_aload_n hx hb dX0_place_38 rfl (lv_at hl 1 rfl) ?_
          refine lv_dup hx hb dX0_place_39 rfl ?_
          refine va_get (D := D) (ci := 0) (v := .int (nI u9)) (C := RX0) (T := TX0) (N := 9) hx hb hts (by decide +kernel) hown hK hP 0 rfl rfl 8 (by decide) (hts (.fieldLink RX0 113 "DanceHall$Floor" "untried" "I") (by decide +kernel)) (fun _ h9 => h9) rfl dX0_place_40 ?_
          refine lv_iload hx hb dX0_place_43 (lv_at hl 0 rfl) ?_
          refine lv_iconst (v := (-1 : Int32)) hx hb dX0_place_45 (by decide) ?_
          refine lv_ixor hx hb dX0_place_46 ?_
          refine lv_iand hx hb dX0_place_47 ?_
          refine kv_i (y := nI (kclr u9 i)) (kclr_ok (u := u9) (i := i) (by omega) (by omega)) ?_
          refine va_put (D := D) (ci := 0) (v := .int (nI (kclr u9 i))) (ty := .int) (C := RX0) (T := TX0) (N := 9) hx hb hts (by decide +kernel) tyX0 tyX0_ok nmX0 hown hK hP hD hS 0 rfl rfl 8 (by decide) (hts (.fieldLink RX0 113 "DanceHall$Floor" "untried" "I") (by decide +kernel)) (fun _ h9 => h9) rfl (by decide +kernel) rfl rfl (Nat.le_of_ble_eq_true rfl) dX0_place_48 (fun H locs hP hD hS => ?_)
          have hP : va_P D vwCl (bkF [fW cy fa (e0, e1, e2, e3, rl, rf, ma, lo9, kclr u9 i)]) H := hP
          have hD : va_D A (bkF [fW cy fa (e0, e1, e2, e3, rl, rf, ma, lo9, kclr u9 i)]) := hD
          refine lv_aload_n hx hb dX0_place_51 rfl (lv_at hl 1 rfl) ?_
          refine va_get (D := D) (ci := 0) (v := .ref (fa 6)) (C := RX0) (T := TX0) (N := 9) hx hb hts (by decide +kernel) hown hK hP 0 rfl rfl 7 (by decide) (hts (.fieldLink RX0 27 "DanceHall$Floor" "leaderOf" "[I") (by decide +kernel)) (fun _ h9 => h9) rfl dX0_place_52 ?_
          refine lv_iload_n hx hb dX0_place_55 rfl (lv_at hl 4 rfl) ?_
          refine va_iald hx hb hK hP 6 0 rfl rfl (vp_in_nI (n := i) (N := 8) (by omega) (by omega)) dX0_place_56 ?_
          refine kv_i (y := lo9 i) (congrArg lo9 (nI_clamp (n := i) (by omega))) ?_
          refine lv_istore (lv' := [(5, .int (lo9 i)), (4, .int (nI (2 ^ i))), (0, .ref (fa 0)), (1, .int (nI l9)), (2, .int (nI k9)), (3, .int (nI i))]) hx hb dX0_place_57 hl (by decide) rfl (fun ls hl => ?_)
          refine lv_iload hx hb dX0_place_59 (lv_at hl 0 rfl) ?_
          refine lv_iconst (v := (-1 : Int32)) hx hb dX0_place_61 (by decide) ?_
          refine lv_icmp_eq (tgt := 77) hx hb dX0_place_62 (by decide) (fun c_62 => ?_) (fun c_62 => ?_)
          · skip
            refine lv_aload_n hx hb dX0_place_77 rfl (lv_at hl 2 rfl) ?_
            refine va_get (D := D) (ci := 0) (v := .ref (fa 6)) (C := RX0) (T := TX0) (N := 9) hx hb hts (by decide +kernel) hown hK hP 0 rfl rfl 7 (by decide) (hts (.fieldLink RX0 27 "DanceHall$Floor" "leaderOf" "[I") (by decide +kernel)) (fun _ h9 => h9) rfl dX0_place_78 ?_
            refine lv_iload_n hx hb dX0_place_81 rfl (lv_at hl 5 rfl) ?_
            refine lv_iload_n hx hb dX0_place_82 rfl (lv_at hl 3 rfl) ?_
            refine va_iast hx hb hK hP hD hS 6 0 rfl rfl (vp_in_nI (n := i) (N := 8) (by omega) (by omega)) dX0_place_83 (fun H locs hP hD hS => ?_)
            rw [nI_clamp (n := i) (by omega)] at hP hD
            have hP : va_P D vwCl (bkF [fW cy fa (e0, e1, e2, e3, rl, rf, ma, upd lo9 i (nI l9), kclr u9 i)]) H := hP
            have hD : va_D A (bkF [fW cy fa (e0, e1, e2, e3, rl, rf, ma, upd lo9 i (nI l9), kclr u9 i)]) := hD
            refine lv_iconst (v := nI 1) hx hb dX0_place_84 (by decide) ?_
            have E : kPl M (d + 1) l9 (un, lo) = (true, kclr u9 i, upd lo9 i (nI l9)) := kFold_hit (i := i) (by omega) (by show kStep M l9 (kPl M d) i (kFold (kStep M l9 (kPl M d)) i (false, un, lo)) = _; rw [h10_1]; exact kStep_free c_35 c_62) rfl
            have hP := kP_cell (g := (kPl M (d + 1) l9 (un, lo)).2.2) hP 6 rfl (fun _ _ => by rw [E])
            have hD := hD.set (p := 6) (e := .inl (cy 0, 8, .inl (kPl M (d + 1) l9 (un, lo)).2.2)) rfl
            have hP : va_P D vwCl (bkF [fW cy fa (e0, e1, e2, e3, rl, rf, ma, (kPl M (d + 1) l9 (un, lo)).2.2, kclr u9 i)]) H := hP
            have hD : va_D A (bkF [fW cy fa (e0, e1, e2, e3, rl, rf, ma, (kPl M (d + 1) l9 (un, lo)).2.2, kclr u9 i)]) := hD
            have hP : va_P D vwCl (bkF [fW cy fa (e0, e1, e2, e3, rl, rf, ma, (kPl M (d + 1) l9 (un, lo)).2.2, (kPl M (d + 1) l9 (un, lo)).2.1)]) H := by rw [show (kPl M (d + 1) l9 (un, lo)).2.1 = kclr u9 i from (by rw [E])]; exact hP
            have hD : va_D A (bkF [fW cy fa (e0, e1, e2, e3, rl, rf, ma, (kPl M (d + 1) l9 (un, lo)).2.2, (kPl M (d + 1) l9 (un, lo)).2.1)]) := by rw [show (kPl M (d + 1) l9 (un, lo)).2.1 = kclr u9 i from (by rw [E])]; exact hD
            exact kr_i (post := fun r_ (u_ : Unit) => r_ = if (kPl M (d + 1) l9 (un, lo)).1 = true then nI 1 else nI 0) (Bs := fun u_ : Unit => [fW cy fa (e0, e1, e2, e3, rl, rf, ma, (kPl M (d + 1) l9 (un, lo)).2.2, (kPl M (d + 1) l9 (un, lo)).2.1)]) hx hb hr hlocks rfl () hP hK hD hS (by rw [E]; rfl) dX0_place_85 hQ
          · skip
            have hcl := kLo_cl h10_3 (g := i) (by omega) c_62
            have hl : lv_has ls 6 [(5, .int (nI ((lo9 i).toNatClampNeg))), (4, .int (nI (2 ^ i))), (0, .ref (fa 0)), (1, .int (nI l9)), (2, .int (nI k9)), (3, .int (nI i))] := by rw [show nI ((lo9 i).toNatClampNeg) = lo9 i from hcl.1.symm]; exact hl
            refine lv_aload_n hx hb dX0_place_65 rfl (lv_at hl 2 rfl) ?_
            refine lv_iload hx hb dX0_place_66 (lv_at hl 0 rfl) ?_
            refine lv_iload_n hx hb dX0_place_68 rfl (lv_at hl 4 rfl) ?_
            refine lv_iconst (v := nI 1) hx hb dX0_place_69 (by decide) ?_
            refine lv_iadd hx hb dX0_place_70 ?_
            refine kv_i (y := nI (k9 + 1)) (nI_add k9 1) ?_
            refine kc_i (Cs := [fW cy fa (e0, e1, e2, e3, rl, rf, ma, lo9, kclr u9 i)]) (Rs := []) (Bs := [fW cy fa (e0, e1, e2, e3, rl, rf, ma, lo9, kclr u9 i)]) (Cs' := fun u_ : Unit => [fW cy fa (e0, e1, e2, e3, rl, rf, ma, (kPl M d ((lo9 i).toNatClampNeg) (kclr u9 i, lo9)).2.2, (kPl M d ((lo9 i).toNatClampNeg) (kclr u9 i, lo9)).2.1)]) (Fs := fun u_ : Unit => [fW cy fa (e0, e1, e2, e3, rl, rf, ma, (kPl M d ((lo9 i).toNatClampNeg) (kclr u9 i, lo9)).2.2, (kPl M d ((lo9 i).toNatClampNeg) (kclr u9 i, lo9)).2.1)]) hP hD hS hA [0] [] [0] rfl rfl (by decide) (by decide) (fun _ => rfl) (va_runS (As := [.ref (fa 0), .int (nI ((lo9 i).toNatClampNeg)), .int (nI (k9 + 1))]) (rest := []) ⟨hx, hb, hml, hown, hts⟩ (ih fa e0 e1 e2 e3 rl rf ma lo9 (kclr u9 i) M ((lo9 i).toNatClampNeg) (k9 + 1) hm hm8 hcl.2 (by first | assumption | omega | decide) (kclr_lt h10_2) h10_3 H.size) (va_cwS 3 hts gX0_place_X0_place rfl rfl rfl (by decide +kernel) ⟨Nat.le_refl _, by show 8 + (6 + 11) + 25 * d ≤ 25 * (d + 1); omega⟩) (kPre_S hK hN hP hD [0] (by decide) rfl) rfl rfl hl.1 rfl (lv_room (Nat.le_of_ble_eq_true rfl)) dX0_place_71 ⟨Nat.le_of_ble_eq_true rfl, Nat.le_of_ble_eq_true rfl⟩) (fun r_ u_ H locs hw hP hD hS => ?_)
            have hw : r_ = if (kPl M d ((lo9 i).toNatClampNeg) (kclr u9 i, lo9)).1 = true then nI 1 else nI 0 := hw
            subst hw
            by_cases b_71 : (kPl M d ((lo9 i).toNatClampNeg) (kclr u9 i, lo9)).1 = true
            · refine kv_i (y := nI 1) (if_pos b_71) ?_
              refine lv_if_eq (tgt := 86) hx hb dX0_place_74 (by decide) (fun h => absurd h (by decide)) (fun _ => ?_)
              refine lv_aload_n hx hb dX0_place_77 rfl (lv_at hl 2 rfl) ?_
              refine va_get (D := D) (ci := 0) (v := .ref (fa 6)) (C := RX0) (T := TX0) (N := 9) hx hb hts (by decide +kernel) hown hK hP 0 rfl rfl 7 (by decide) (hts (.fieldLink RX0 27 "DanceHall$Floor" "leaderOf" "[I") (by decide +kernel)) (fun _ h9 => h9) rfl dX0_place_78 ?_
              refine lv_iload_n hx hb dX0_place_81 rfl (lv_at hl 5 rfl) ?_
              refine lv_iload_n hx hb dX0_place_82 rfl (lv_at hl 3 rfl) ?_
              refine va_iast hx hb hK hP hD hS 6 0 rfl rfl (vp_in_nI (n := i) (N := 8) (by omega) (by omega)) dX0_place_83 (fun H locs hP hD hS => ?_)
              rw [nI_clamp (n := i) (by omega)] at hP hD
              have hP : va_P D vwCl (bkF [fW cy fa (e0, e1, e2, e3, rl, rf, ma, upd (kPl M d ((lo9 i).toNatClampNeg) (kclr u9 i, lo9)).2.2 i (nI l9), (kPl M d ((lo9 i).toNatClampNeg) (kclr u9 i, lo9)).2.1)]) H := hP
              have hD : va_D A (bkF [fW cy fa (e0, e1, e2, e3, rl, rf, ma, upd (kPl M d ((lo9 i).toNatClampNeg) (kclr u9 i, lo9)).2.2 i (nI l9), (kPl M d ((lo9 i).toNatClampNeg) (kclr u9 i, lo9)).2.1)]) := hD
              refine lv_iconst (v := nI 1) hx hb dX0_place_84 (by decide) ?_
              have E : kPl M (d + 1) l9 (un, lo) = (true, (kPl M d ((lo9 i).toNatClampNeg) (kclr u9 i, lo9)).2.1, upd (kPl M d ((lo9 i).toNatClampNeg) (kclr u9 i, lo9)).2.2 i (nI l9)) := kFold_hit (i := i) (by omega) (by show kStep M l9 (kPl M d) i (kFold (kStep M l9 (kPl M d)) i (false, un, lo)) = _; rw [h10_1]; exact kStep_rt c_35 c_62 b_71) rfl
              have hP := kP_cell (g := (kPl M (d + 1) l9 (un, lo)).2.2) hP 6 rfl (fun _ _ => by rw [E])
              have hD := hD.set (p := 6) (e := .inl (cy 0, 8, .inl (kPl M (d + 1) l9 (un, lo)).2.2)) rfl
              have hP : va_P D vwCl (bkF [fW cy fa (e0, e1, e2, e3, rl, rf, ma, (kPl M (d + 1) l9 (un, lo)).2.2, (kPl M d ((lo9 i).toNatClampNeg) (kclr u9 i, lo9)).2.1)]) H := hP
              have hD : va_D A (bkF [fW cy fa (e0, e1, e2, e3, rl, rf, ma, (kPl M (d + 1) l9 (un, lo)).2.2, (kPl M d ((lo9 i).toNatClampNeg) (kclr u9 i, lo9)).2.1)]) := hD
              have hP : va_P D vwCl (bkF [fW cy fa (e0, e1, e2, e3, rl, rf, ma, (kPl M (d + 1) l9 (un, lo)).2.2, (kPl M (d + 1) l9 (un, lo)).2.1)]) H := by rw [show (kPl M (d + 1) l9 (un, lo)).2.1 = (kPl M d ((lo9 i).toNatClampNeg) (kclr u9 i, lo9)).2.1 from (by rw [E])]; exact hP
              have hD : va_D A (bkF [fW cy fa (e0, e1, e2, e3, rl, rf, ma, (kPl M (d + 1) l9 (un, lo)).2.2, (kPl M (d + 1) l9 (un, lo)).2.1)]) := by rw [show (kPl M (d + 1) l9 (un, lo)).2.1 = (kPl M d ((lo9 i).toNatClampNeg) (kclr u9 i, lo9)).2.1 from (by rw [E])]; exact hD
              exact kr_i (post := fun r_ (u_ : Unit) => r_ = if (kPl M (d + 1) l9 (un, lo)).1 = true then nI 1 else nI 0) (Bs := fun u_ : Unit => [fW cy fa (e0, e1, e2, e3, rl, rf, ma, (kPl M (d + 1) l9 (un, lo)).2.2, (kPl M (d + 1) l9 (un, lo)).2.1)]) hx hb hr hlocks rfl () hP hK hD hS (by rw [E]; rfl) dX0_place_85 hQ
            · refine kv_i (y := nI 0) (if_neg b_71) ?_
              refine lv_if_eq (tgt := 86) hx hb dX0_place_74 (by decide) (fun _ => ?_) (fun h => absurd h (by decide))
              refine lv_iinc (v := nI (i + 1)) (lv' := [(3, .int (nI (i + 1))), (5, .int (nI ((lo9 i).toNatClampNeg))), (4, .int (nI (2 ^ i))), (0, .ref (fa 0)), (1, .int (nI l9)), (2, .int (nI k9))]) hx hb dX0_place_86 hl (k := 5) rfl (nI_add i 1) (by decide) rfl (fun ls hl => ?_)
              refine lv_goto (tgt := 10) hx hb dX0_place_89 (by decide) ?_
              exact ih_10 _ (by omega) (i + 1) (kPl M d ((lo9 i).toNatClampNeg) (kclr u9 i, lo9)).2.1 (kPl M d ((lo9 i).toNatClampNeg) (kclr u9 i, lo9)).2.2 rfl (by omega) (by show kStep M l9 (kPl M d) i (kFold (kStep M l9 (kPl M d)) i (false, un, lo)) = _; rw [h10_1]; exact kStep_rf c_35 c_62 b_71) (kPl_inv M d _ _ hcl.2 (kclr_lt h10_2) h10_3).1 (kPl_inv M d _ _ hcl.2 (kclr_lt h10_2) h10_3).2 ls H locs hP hD hS (lv_sub hl [3, 4, 5, 0] rfl)
    exact L_10 _ 0 un lo rfl (by omega) rfl hun hlo ls H locs hP hD hS (lv_sub hl [1, 2, 3, 0] rfl)
  · skip
    have c_3 : ¬ (k9 < 8) := fun h => c_3 ((nI_ltI (a := k9) (b := 8) (by omega) (by omega)).mpr h)
    omega
theorem c_X0_place (l : Launch) (D : va_G) (cy : Nat → ClassId) : ∀ d, kPlaceP l D cy d
  | 0 => fun fa e0 e1 e2 e3 rl rf ma lo un M l9 k9 hm hm8 hl9 hk9 hun hlo sz => c_X0_place_z l D cy fa e0 e1 e2 e3 rl rf ma lo un M l9 k9 hm hm8 hl9 hk9 hun hlo sz
  | d + 1 => fun fa e0 e1 e2 e3 rl rf ma lo un M l9 k9 hm hm8 hl9 hk9 hun hlo sz => c_X0_place_s l D cy d fa e0 e1 e2 e3 rl rf ma lo un M l9 k9 (c_X0_place l D cy d) hm hm8 hl9 hk9 hun hlo sz
abbrev rm_X0_mostCouples : Room := { frames := 9, cells := 0, slots := 0, locals := 225 }
set_option maxHeartbeats 1000000 in
set_option maxRecDepth 100000 in
/-- mostCouples -/
theorem c_X0_mostCouples (l : Launch) (D : va_G) (cy : Nat → ClassId) (fa : Nat → Nat) (e0 : Nat → Int32) (e1 : Nat → Int32) (e2 : Nat → Int32) (e3 : Nat → Int32) (rl : Nat) (rf : Nat) (ma : Nat → Int32) (lo : Nat → Int32) (un : Nat) (M : Nat → Nat) (fr : Nat) (fe : Nat) (en : Nat) (hm : ∀ q, q < 8 → ma q = nI (M q)) (hm8 : ∀ q, q < 8 → M q < 256) (hfr : fr ≤ 8) (hfe : fe < 256) (hen : en < 1000) (sz : Nat) : Met l yX0_mostCouples wsX0_mostCouples rm_X0_mostCouples (va_Pc [.ref (fa 0), .int (nI fr), .int (nI fe), .int (nI en)] (kPre D (kT cy) [fW cy fa (e0, e1, e2, e3, rl, rf, ma, lo, un)] sz)) (va_Qi (fun r_ (u_ : Nat × (Nat → Int32)) => r_ = nI (kMC M fr fe en)) (kFr D (kT cy) [fW cy fa (e0, e1, e2, e3, rl, rf, ma, lo, un)] sz (fun u_ : Nat × (Nat → Int32) => [fW cy fa (e0, e1, e2, e3, rl, rf, ma, u_.2, u_.1)])) (va_A (bkF [fW cy fa (e0, e1, e2, e3, rl, rf, ma, lo, un)]) sz)) 0 0 (va_A (bkF [fW cy fa (e0, e1, e2, e3, rl, rf, ma, lo, un)]) sz) := by
  refine kOpen (y := yX0_mostCouples) (ws := wsX0_mostCouples) (cc := cX0_mostCouples) (maxL := 6) (ret := (some .int)) (av := [.ref (fa 0), .int (nI fr), .int (nI fe), .int (nI en)]) (Bs := [fW cy fa (e0, e1, e2, e3, rl, rf, ma, lo, un)]) (Qc := fun A => (va_Qi (fun r_ (u_ : Nat × (Nat → Int32)) => r_ = nI (kMC M fr fe en)) (fun (u_ : Nat × (Nat → Int32)) t9 => kEnd D (kT cy) A [fW cy fa (e0, e1, e2, e3, rl, rf, ma, u_.2, u_.1)] t9) A)) (by decide) rfl (Nat.le_of_ble_eq_true rfl) ?_
  intro p e s m args below meth c A Q ls hQ hx hb hml hr hlocks hin hts hown hN hK hP hD hS hA hsz hAe hl
  clear hAe
  have hl : lv_has ls 6 [(0, .ref (fa 0)), (1, .int (nI fr)), (2, .int (nI fe)), (3, .int (nI en))] := hl
  suffices K9 : ∀ (H : Heap) (locs : List Loc), va_P D vwCl (bkF [fW cy fa (e0, e1, e2, e3, rl, rf, ma, lo, un)]) H → va_S A s.heap H locs → W p l e (headSpec wsX0_mostCouples rm_X0_mostCouples).room s m args below meth c H locs 0 0 Q (F0 m 0 ls []) from K9 _ _ hP hS
  clear hP hS
  intro H locs hP hS
  refine lv_aload_n hx hb dX0_mostCouples_0 rfl (lv_at hl 0 rfl) ?_
  refine va_get (D := D) (ci := 0) (v := .ref (fa 6)) (C := RX0) (T := TX0) (N := 9) hx hb hts (by decide +kernel) hown hK hP 0 rfl rfl 7 (by decide) (hts (.fieldLink RX0 27 "DanceHall$Floor" "leaderOf" "[I") (by decide +kernel)) (fun _ h9 => h9) rfl dX0_mostCouples_1 ?_
  refine lv_iconst (v := (-1 : Int32)) hx hb dX0_mostCouples_4 (by decide) ?_
  have hP : va_P D vwCl (bkF [[((fa 0), .inr (0, [.ref (fa 1), .ref (fa 2), .ref (fa 3), .ref (fa 4), .int (nI rl), .int (nI rf), .ref (fa 5), .ref (fa 6), .int (nI un)]))], [((fa 1), .inl (cy 0, 10, .inl e0))], [((fa 2), .inl (cy 0, 8, .inl e1))], [((fa 3), .inl (cy 0, 8, .inl e2))], [((fa 4), .inl (cy 0, 8, .inl e3))], [((fa 5), .inl (cy 0, 8, .inl ma))], [((fa 6), .inl (cy 0, 8, .inl lo))]]) H := hP
  have hD : va_D A (bkF [[((fa 0), .inr (0, [.ref (fa 1), .ref (fa 2), .ref (fa 3), .ref (fa 4), .int (nI rl), .int (nI rf), .ref (fa 5), .ref (fa 6), .int (nI un)]))], [((fa 1), .inl (cy 0, 10, .inl e0))], [((fa 2), .inl (cy 0, 8, .inl e1))], [((fa 3), .inl (cy 0, 8, .inl e2))], [((fa 4), .inl (cy 0, 8, .inl e3))], [((fa 5), .inl (cy 0, 8, .inl ma))], [((fa 6), .inl (cy 0, 8, .inl lo))]]) := hD
  refine kc_v (Cs := [[((fa 6), .inl (cy 0, 8, .inl lo))]]) (Rs := [[((fa 0), .inr (0, [.ref (fa 1), .ref (fa 2), .ref (fa 3), .ref (fa 4), .int (nI rl), .int (nI rf), .ref (fa 5), .ref (fa 6), .int (nI un)]))], [((fa 1), .inl (cy 0, 10, .inl e0))], [((fa 2), .inl (cy 0, 8, .inl e1))], [((fa 3), .inl (cy 0, 8, .inl e2))], [((fa 4), .inl (cy 0, 8, .inl e3))], [((fa 5), .inl (cy 0, 8, .inl ma))]]) (Bs := [[((fa 0), .inr (0, [.ref (fa 1), .ref (fa 2), .ref (fa 3), .ref (fa 4), .int (nI rl), .int (nI rf), .ref (fa 5), .ref (fa 6), .int (nI un)]))], [((fa 1), .inl (cy 0, 10, .inl e0))], [((fa 2), .inl (cy 0, 8, .inl e1))], [((fa 3), .inl (cy 0, 8, .inl e2))], [((fa 4), .inl (cy 0, 8, .inl e3))], [((fa 5), .inl (cy 0, 8, .inl ma))], [((fa 6), .inl (cy 0, 8, .inl lo))]]) (Cs' := fun u_ : Unit => [[((fa 6), .inl (cy 0, 8, .inl (fun _ => (-1))))]]) (Fs := fun u_ : Unit => [[((fa 0), .inr (0, [.ref (fa 1), .ref (fa 2), .ref (fa 3), .ref (fa 4), .int (nI rl), .int (nI rf), .ref (fa 5), .ref (fa 6), .int (nI un)]))], [((fa 1), .inl (cy 0, 10, .inl e0))], [((fa 2), .inl (cy 0, 8, .inl e1))], [((fa 3), .inl (cy 0, 8, .inl e2))], [((fa 4), .inl (cy 0, 8, .inl e3))], [((fa 5), .inl (cy 0, 8, .inl ma))], [((fa 6), .inl (cy 0, 8, .inl (fun _ => (-1))))]]) hP hD hS hA [6] [0, 1, 2, 3, 4, 5] [0, 1, 2, 3, 4, 5, 6] rfl rfl (by decide) (by decide) (fun _ => rfl) (va_runS (As := [.ref (fa 6), .int (-1)]) (rest := []) ⟨hx, hb, hml, hown, hts⟩ (c_J7_fill l D cy (fa 6) 8 lo (-1) (by first | assumption | omega | decide) H.size) (va_cwS 2 hts gX0_mostCouples_J7_fill_53178 rfl rfl rfl (by decide +kernel) ⟨Nat.le_of_ble_eq_true rfl, Nat.le_of_ble_eq_true rfl⟩) (kPre_S hK hN hP hD [6] (by decide) rfl) rfl rfl hl.1 rfl (lv_room (Nat.le_of_ble_eq_true rfl)) dX0_mostCouples_5 ⟨Nat.le_of_ble_eq_true rfl, Nat.le_of_ble_eq_true rfl⟩) (fun u_ H locs hw hP hD hS => ?_)
  have hP : va_P D vwCl (bkF [fW cy fa (e0, e1, e2, e3, rl, rf, ma, (fun _ => (-1)), un)]) H := hP
  have hD : va_D A (bkF [fW cy fa (e0, e1, e2, e3, rl, rf, ma, (fun _ => (-1)), un)]) := hD
  refine lv_iconst (v := nI 0) hx hb dX0_mostCouples_8 (by decide) ?_
  refine lv_istore (lv' := [(4, .int (nI 0)), (0, .ref (fa 0)), (1, .int (nI fr)), (2, .int (nI fe)), (3, .int (nI en))]) hx hb dX0_mostCouples_9 hl (by decide) rfl (fun ls hl => ?_)
  refine lv_iload_n hx hb dX0_mostCouples_11 rfl (lv_at hl 2 rfl) ?_
  refine lv_istore (lv' := [(5, .int (nI fr)), (4, .int (nI 0)), (0, .ref (fa 0)), (1, .int (nI fr)), (2, .int (nI fe)), (3, .int (nI en))]) hx hb dX0_mostCouples_12 hl (by decide) rfl (fun ls hl => ?_)
  have hP := kP_cell (g := (kMCs M fr fe en 0).2) hP 6 rfl (fun _ _ => rfl)
  have hD := hD.set (p := 6) (e := .inl (cy 0, 8, .inl (kMCs M fr fe en 0).2)) rfl
  have hP : va_P D vwCl (bkF [fW cy fa (e0, e1, e2, e3, rl, rf, ma, (kMCs M fr fe en 0).2, un)]) H := hP
  have hD : va_D A (bkF [fW cy fa (e0, e1, e2, e3, rl, rf, ma, (kMCs M fr fe en 0).2, un)]) := hD
  have L_14 : ∀ (n9 : Nat) (q : Nat) (u7 : Nat), 8 - q = n9 → (q ≤ 8 - fr) → ∀ (ls : Array Slot) (H : Heap) (locs : List Loc), va_P D vwCl (bkF [fW cy fa (e0, e1, e2, e3, rl, rf, ma, (kMCs M fr fe en q).2, u7)]) H → va_D A (bkF [fW cy fa (e0, e1, e2, e3, rl, rf, ma, (kMCs M fr fe en q).2, u7)]) → va_S A s.heap H locs → lv_has ls 6 [(0, .ref (fa 0)), (2, .int (nI fe)), (3, .int (nI en)), (5, .int (nI (fr + q))), (4, .int (nI (kMCs M fr fe en q).1))] → W p l e (headSpec wsX0_mostCouples rm_X0_mostCouples).room s m args below meth c H locs 0 0 Q (F0 m 14 ls []) := by
    intro n9
    induction n9 using Nat.strongRecOn with
    | _ n9 ih_14 =>
    intro q u7 hm_14 h14_0 ls H locs hP hD hS hl
    refine lv_iload hx hb dX0_mostCouples_14 (lv_at hl 3 rfl) ?_
    refine lv_bipush (v := nI 8) hx hb dX0_mostCouples_16 (by decide) ?_
    refine lv_icmp_ge (tgt := 53) hx hb dX0_mostCouples_18 (by decide) (fun c_18 => ?_) (fun c_18 => ?_)
    · skip
      have c_18 : 8 ≤ (fr + q) := (nI_leI (a := 8) (b := fr + q) (by omega) (by omega)).mp c_18
      refine lv_iload hx hb dX0_mostCouples_53 (lv_at hl 4 rfl) ?_
      exact kr_i (post := fun r_ (u_ : Nat × (Nat → Int32)) => r_ = nI (kMC M fr fe en)) (Bs := fun u_ : Nat × (Nat → Int32) => [fW cy fa (e0, e1, e2, e3, rl, rf, ma, u_.2, u_.1)]) hx hb hr hlocks rfl (u7, (kMCs M fr fe en q).2) hP hK hD hS (kMC_x1 (by omega) (by omega)) dX0_mostCouples_55 hQ
    · skip
      have c_18 : ¬ (8 ≤ (fr + q)) := fun h => c_18 ((nI_leI (a := 8) (b := fr + q) (by omega) (by omega)).mpr h)
      refine lv_iload hx hb dX0_mostCouples_21 (lv_at hl 4 rfl) ?_
      refine lv_iload_n hx hb dX0_mostCouples_23 rfl (lv_at hl 2 rfl) ?_
      have hq8 := kMCs_le M fr fe en q
      refine lv_icmp_ge (tgt := 53) hx hb dX0_mostCouples_24 (by decide) (fun c_24 => ?_) (fun c_24 => ?_)
      · skip
        have c_24 : en ≤ (kMCs M fr fe en q).1 := (nI_leI (a := en) (b := (kMCs M fr fe en q).1) (by omega) (by omega)).mp c_24
        refine lv_iload hx hb dX0_mostCouples_53 (lv_at hl 4 rfl) ?_
        exact kr_i (post := fun r_ (u_ : Nat × (Nat → Int32)) => r_ = nI (kMC M fr fe en)) (Bs := fun u_ : Nat × (Nat → Int32) => [fW cy fa (e0, e1, e2, e3, rl, rf, ma, u_.2, u_.1)]) hx hb hr hlocks rfl (u7, (kMCs M fr fe en q).2) hP hK hD hS (kMC_x2 (by omega) (by omega)) dX0_mostCouples_55 hQ
      · skip
        have c_24 : ¬ (en ≤ (kMCs M fr fe en q).1) := fun h => c_24 ((nI_leI (a := en) (b := (kMCs M fr fe en q).1) (by omega) (by omega)).mpr h)
        refine lv_aload_n hx hb dX0_mostCouples_27 rfl (lv_at hl 0 rfl) ?_
        refine lv_iload_n hx hb dX0_mostCouples_28 rfl (lv_at hl 1 rfl) ?_
        refine va_put (D := D) (ci := 0) (v := .int (nI fe)) (ty := .int) (C := RX0) (T := TX0) (N := 9) hx hb hts (by decide +kernel) tyX0 tyX0_ok nmX0 hown hK hP hD hS 0 rfl rfl 8 (by decide) (hts (.fieldLink RX0 113 "DanceHall$Floor" "untried" "I") (by decide +kernel)) (fun _ h9 => h9) rfl (by decide +kernel) rfl rfl (Nat.le_of_ble_eq_true rfl) dX0_mostCouples_29 (fun H locs hP hD hS => ?_)
        have hP : va_P D vwCl (bkF [fW cy fa (e0, e1, e2, e3, rl, rf, ma, (kMCs M fr fe en q).2, fe)]) H := hP
        have hD : va_D A (bkF [fW cy fa (e0, e1, e2, e3, rl, rf, ma, (kMCs M fr fe en q).2, fe)]) := hD
        refine lv_iload hx hb dX0_mostCouples_32 (lv_at hl 4 rfl) ?_
        refine lv_aload_n hx hb dX0_mostCouples_34 rfl (lv_at hl 0 rfl) ?_
        refine lv_iload hx hb dX0_mostCouples_35 (lv_at hl 3 rfl) ?_
        refine lv_iconst (v := nI 0) hx hb dX0_mostCouples_37 (by decide) ?_
        refine kc_i (Cs := [fW cy fa (e0, e1, e2, e3, rl, rf, ma, (kMCs M fr fe en q).2, fe)]) (Rs := []) (Bs := [fW cy fa (e0, e1, e2, e3, rl, rf, ma, (kMCs M fr fe en q).2, fe)]) (Cs' := fun u_ : Unit => [fW cy fa (e0, e1, e2, e3, rl, rf, ma, (kPl M 8 (fr + q) (fe, (kMCs M fr fe en q).2)).2.2, (kPl M 8 (fr + q) (fe, (kMCs M fr fe en q).2)).2.1)]) (Fs := fun u_ : Unit => [fW cy fa (e0, e1, e2, e3, rl, rf, ma, (kPl M 8 (fr + q) (fe, (kMCs M fr fe en q).2)).2.2, (kPl M 8 (fr + q) (fe, (kMCs M fr fe en q).2)).2.1)]) hP hD hS hA [0] [] [0] rfl rfl (by decide) (by decide) (fun _ => rfl) (va_runS (As := [.ref (fa 0), .int (nI (fr + q)), .int (nI 0)]) (rest := [.int (nI (kMCs M fr fe en q).1)]) ⟨hx, hb, hml, hown, hts⟩ (c_X0_place l D cy 8 fa e0 e1 e2 e3 rl rf ma (kMCs M fr fe en q).2 fe M (fr + q) 0 hm hm8 (by first | assumption | omega | decide) (by first | assumption | omega | decide) (by first | assumption | omega | decide) (kMCs_lo M hfe q (by omega)) H.size) (va_cwS 3 hts gX0_mostCouples_X0_place rfl rfl rfl (by decide +kernel) ⟨Nat.le_of_ble_eq_true rfl, Nat.le_of_ble_eq_true rfl⟩) (kPre_S hK hN hP hD [0] (by decide) rfl) rfl rfl hl.1 rfl (lv_room (Nat.le_of_ble_eq_true rfl)) dX0_mostCouples_38 ⟨Nat.le_of_ble_eq_true rfl, Nat.le_of_ble_eq_true rfl⟩) (fun r_ u_ H locs hw hP hD hS => ?_)
        have hw : r_ = if (kPl M 8 (fr + q) (fe, (kMCs M fr fe en q).2)).1 = true then nI 1 else nI 0 := hw
        subst hw
        by_cases b_38 : (kPl M 8 (fr + q) (fe, (kMCs M fr fe en q).2)).1 = true
        · refine kv_i (y := nI 1) (if_pos b_38) ?_
          refine kc_i (Cs := []) (Rs := [fW cy fa (e0, e1, e2, e3, rl, rf, ma, (kPl M 8 (fr + q) (fe, (kMCs M fr fe en q).2)).2.2, (kPl M 8 (fr + q) (fe, (kMCs M fr fe en q).2)).2.1)]) (Bs := [fW cy fa (e0, e1, e2, e3, rl, rf, ma, (kPl M 8 (fr + q) (fe, (kMCs M fr fe en q).2)).2.2, (kPl M 8 (fr + q) (fe, (kMCs M fr fe en q).2)).2.1)]) (Cs' := fun u_ : Unit => []) (Fs := fun u_ : Unit => [fW cy fa (e0, e1, e2, e3, rl, rf, ma, (kPl M 8 (fr + q) (fe, (kMCs M fr fe en q).2)).2.2, (kPl M 8 (fr + q) (fe, (kMCs M fr fe en q).2)).2.1)]) hP hD hS hA [] [0] [0] rfl rfl (by decide) (by decide) (fun _ => rfl) (va_runSN (As := [.int (nI 1)]) (rest := [.int (nI (kMCs M fr fe en q).1)]) ⟨hx, hb, hml, hown, hts⟩ (c_X4_oneIf_n l D cy 1 (by first | assumption | omega | decide) H.size) ⟨va_cnB 1 hts gX0_mostCouples_X4_oneIf_n35 rfl rfl rfl hN.2.2.2.1 (hts (.initialized RX4) (by decide +kernel)) (by decide +kernel) ⟨Nat.le_of_ble_eq_true rfl, Nat.le_of_ble_eq_true rfl⟩, hts (.static yX4_oneIf) (by decide +kernel), trivial⟩ (kPre_S hK hN hP hD [] (by decide) rfl) rfl rfl hl.1 rfl (lv_room (Nat.le_of_ble_eq_true rfl)) dX0_mostCouples_41 ⟨Nat.le_of_ble_eq_true rfl, Nat.le_of_ble_eq_true rfl⟩) (fun r_ u_ H locs hw hP hD hS => ?_)
          have hw : r_ = nI 1 := hw
          subst hw
          refine lv_iadd hx hb dX0_mostCouples_44 ?_
          refine kv_i (y := nI (kMCs M fr fe en (q + 1)).1) (by rw [nI_add, show kMCs M fr fe en (q + 1) = _ from kMCs_y (by omega) b_38]) ?_
          refine lv_istore (lv' := [(4, .int (nI (kMCs M fr fe en (q + 1)).1)), (0, .ref (fa 0)), (2, .int (nI fe)), (3, .int (nI en)), (5, .int (nI (fr + q)))]) hx hb dX0_mostCouples_45 hl (by decide) rfl (fun ls hl => ?_)
          refine lv_iinc (v := nI ((fr + q) + 1)) (lv' := [(5, .int (nI ((fr + q) + 1))), (4, .int (nI (kMCs M fr fe en (q + 1)).1)), (0, .ref (fa 0)), (2, .int (nI fe)), (3, .int (nI en))]) hx hb dX0_mostCouples_47 hl (k := 4) rfl (nI_add (fr + q) 1) (by decide) rfl (fun ls hl => ?_)
          refine lv_goto (tgt := 14) hx hb dX0_mostCouples_50 (by decide) ?_
          have hP := kP_cell (g := (kMCs M fr fe en (q + 1)).2) hP 6 rfl (fun _ _ => by rw [show kMCs M fr fe en (q + 1) = _ from kMCs_y (by omega) b_38])
          have hD := hD.set (p := 6) (e := .inl (cy 0, 8, .inl (kMCs M fr fe en (q + 1)).2)) rfl
          have hP : va_P D vwCl (bkF [fW cy fa (e0, e1, e2, e3, rl, rf, ma, (kMCs M fr fe en (q + 1)).2, (kPl M 8 (fr + q) (fe, (kMCs M fr fe en q).2)).2.1)]) H := hP
          have hD : va_D A (bkF [fW cy fa (e0, e1, e2, e3, rl, rf, ma, (kMCs M fr fe en (q + 1)).2, (kPl M 8 (fr + q) (fe, (kMCs M fr fe en q).2)).2.1)]) := hD
          exact ih_14 _ (by omega) (q + 1) (kPl M 8 (fr + q) (fe, (kMCs M fr fe en q).2)).2.1 rfl (by omega) ls H locs hP hD hS (lv_sub hl [2, 3, 4, 0, 1] rfl)
        · refine kv_i (y := nI 0) (if_neg b_38) ?_
          refine kc_i (Cs := []) (Rs := [fW cy fa (e0, e1, e2, e3, rl, rf, ma, (kPl M 8 (fr + q) (fe, (kMCs M fr fe en q).2)).2.2, (kPl M 8 (fr + q) (fe, (kMCs M fr fe en q).2)).2.1)]) (Bs := [fW cy fa (e0, e1, e2, e3, rl, rf, ma, (kPl M 8 (fr + q) (fe, (kMCs M fr fe en q).2)).2.2, (kPl M 8 (fr + q) (fe, (kMCs M fr fe en q).2)).2.1)]) (Cs' := fun u_ : Unit => []) (Fs := fun u_ : Unit => [fW cy fa (e0, e1, e2, e3, rl, rf, ma, (kPl M 8 (fr + q) (fe, (kMCs M fr fe en q).2)).2.2, (kPl M 8 (fr + q) (fe, (kMCs M fr fe en q).2)).2.1)]) hP hD hS hA [] [0] [0] rfl rfl (by decide) (by decide) (fun _ => rfl) (va_runSN (As := [.int (nI 0)]) (rest := [.int (nI (kMCs M fr fe en q).1)]) ⟨hx, hb, hml, hown, hts⟩ (c_X4_oneIf_n l D cy 0 (by first | assumption | omega | decide) H.size) ⟨va_cnB 1 hts gX0_mostCouples_X4_oneIf_n35 rfl rfl rfl hN.2.2.2.1 (hts (.initialized RX4) (by decide +kernel)) (by decide +kernel) ⟨Nat.le_of_ble_eq_true rfl, Nat.le_of_ble_eq_true rfl⟩, hts (.static yX4_oneIf) (by decide +kernel), trivial⟩ (kPre_S hK hN hP hD [] (by decide) rfl) rfl rfl hl.1 rfl (lv_room (Nat.le_of_ble_eq_true rfl)) dX0_mostCouples_41 ⟨Nat.le_of_ble_eq_true rfl, Nat.le_of_ble_eq_true rfl⟩) (fun r_ u_ H locs hw hP hD hS => ?_)
          have hw : r_ = nI 0 := hw
          subst hw
          refine lv_iadd hx hb dX0_mostCouples_44 ?_
          refine kv_i (y := nI (kMCs M fr fe en (q + 1)).1) (by rw [nI_add, show kMCs M fr fe en (q + 1) = _ from kMCs_n (by omega) b_38]) ?_
          refine lv_istore (lv' := [(4, .int (nI (kMCs M fr fe en (q + 1)).1)), (0, .ref (fa 0)), (2, .int (nI fe)), (3, .int (nI en)), (5, .int (nI (fr + q)))]) hx hb dX0_mostCouples_45 hl (by decide) rfl (fun ls hl => ?_)
          refine lv_iinc (v := nI ((fr + q) + 1)) (lv' := [(5, .int (nI ((fr + q) + 1))), (4, .int (nI (kMCs M fr fe en (q + 1)).1)), (0, .ref (fa 0)), (2, .int (nI fe)), (3, .int (nI en))]) hx hb dX0_mostCouples_47 hl (k := 4) rfl (nI_add (fr + q) 1) (by decide) rfl (fun ls hl => ?_)
          refine lv_goto (tgt := 14) hx hb dX0_mostCouples_50 (by decide) ?_
          have hP := kP_cell (g := (kMCs M fr fe en (q + 1)).2) hP 6 rfl (fun _ _ => by rw [show kMCs M fr fe en (q + 1) = _ from kMCs_n (by omega) b_38])
          have hD := hD.set (p := 6) (e := .inl (cy 0, 8, .inl (kMCs M fr fe en (q + 1)).2)) rfl
          have hP : va_P D vwCl (bkF [fW cy fa (e0, e1, e2, e3, rl, rf, ma, (kMCs M fr fe en (q + 1)).2, (kPl M 8 (fr + q) (fe, (kMCs M fr fe en q).2)).2.1)]) H := hP
          have hD : va_D A (bkF [fW cy fa (e0, e1, e2, e3, rl, rf, ma, (kMCs M fr fe en (q + 1)).2, (kPl M 8 (fr + q) (fe, (kMCs M fr fe en q).2)).2.1)]) := hD
          exact ih_14 _ (by omega) (q + 1) (kPl M 8 (fr + q) (fe, (kMCs M fr fe en q).2)).2.1 rfl (by omega) ls H locs hP hD hS (lv_sub hl [2, 3, 4, 0, 1] rfl)
  exact L_14 _ 0 un rfl (by omega) ls H locs hP hD hS (lv_sub hl [2, 4, 5, 0, 1] rfl)
abbrev rm_X0_firstFollower : Room := { frames := 10, cells := 0, slots := 0, locals := 250 }
set_option maxHeartbeats 1000000 in
set_option maxRecDepth 100000 in
/-- firstFollower -/
theorem c_X0_firstFollower (l : Launch) (D : va_G) (cy : Nat → ClassId) (fa : Nat → Nat) (e0 : Nat → Int32) (e1 : Nat → Int32) (e2 : Nat → Int32) (e3 : Nat → Int32) (rl : Nat) (rf : Nat) (ma : Nat → Int32) (lo : Nat → Int32) (un : Nat) (M : Nat → Nat) (l9 : Nat) (fe : Nat) (du : Nat) (hm : ∀ q, q < 8 → ma q = nI (M q)) (hm8 : ∀ q, q < 8 → M q < 256) (hl9 : l9 < 8) (hfe : fe < 256) (hdu : 1 ≤ du) (hdu8 : du < 1000) (sz : Nat) : Met l yX0_firstFollower wsX0_firstFollower rm_X0_firstFollower (va_Pc [.ref (fa 0), .int (nI l9), .int (nI fe), .int (nI du)] (kPre D (kT cy) [fW cy fa (e0, e1, e2, e3, rl, rf, ma, lo, un)] sz)) (va_Qi (fun r_ (u_ : Nat × (Nat → Int32)) => r_ = kFFv M l9 fe du) (kFr D (kT cy) [fW cy fa (e0, e1, e2, e3, rl, rf, ma, lo, un)] sz (fun u_ : Nat × (Nat → Int32) => [fW cy fa (e0, e1, e2, e3, rl, rf, ma, u_.2, u_.1)])) (va_A (bkF [fW cy fa (e0, e1, e2, e3, rl, rf, ma, lo, un)]) sz)) 0 0 (va_A (bkF [fW cy fa (e0, e1, e2, e3, rl, rf, ma, lo, un)]) sz) := by
  refine kOpen (y := yX0_firstFollower) (ws := wsX0_firstFollower) (cc := cX0_firstFollower) (maxL := 6) (ret := (some .int)) (av := [.ref (fa 0), .int (nI l9), .int (nI fe), .int (nI du)]) (Bs := [fW cy fa (e0, e1, e2, e3, rl, rf, ma, lo, un)]) (Qc := fun A => (va_Qi (fun r_ (u_ : Nat × (Nat → Int32)) => r_ = kFFv M l9 fe du) (fun (u_ : Nat × (Nat → Int32)) t9 => kEnd D (kT cy) A [fW cy fa (e0, e1, e2, e3, rl, rf, ma, u_.2, u_.1)] t9) A)) (by decide) rfl (Nat.le_of_ble_eq_true rfl) ?_
  intro p e s m args below meth c A Q ls hQ hx hb hml hr hlocks hin hts hown hN hK hP hD hS hA hsz hAe hl
  clear hAe
  have hl : lv_has ls 6 [(0, .ref (fa 0)), (1, .int (nI l9)), (2, .int (nI fe)), (3, .int (nI du))] := hl
  suffices K9 : ∀ (H : Heap) (locs : List Loc), va_P D vwCl (bkF [fW cy fa (e0, e1, e2, e3, rl, rf, ma, lo, un)]) H → va_S A s.heap H locs → W p l e (headSpec wsX0_firstFollower rm_X0_firstFollower).room s m args below meth c H locs 0 0 Q (F0 m 0 ls []) from K9 _ _ hP hS
  clear hP hS
  intro H locs hP hS
  refine lv_iconst (v := nI 0) hx hb dX0_firstFollower_0 (by decide) ?_
  refine lv_istore (lv' := [(4, .int (nI 0)), (0, .ref (fa 0)), (1, .int (nI l9)), (2, .int (nI fe)), (3, .int (nI du))]) hx hb dX0_firstFollower_1 hl (by decide) rfl (fun ls hl => ?_)
  have L_3 : ∀ (n9 : Nat) (i : Nat) (u7 : Nat) (lo7 : Nat → Int32), 8 - i = n9 → (i ≤ 8) → (kff1 (kFP M l9 fe du) i = i) → ∀ (ls : Array Slot) (H : Heap) (locs : List Loc), va_P D vwCl (bkF [fW cy fa (e0, e1, e2, e3, rl, rf, ma, lo7, u7)]) H → va_D A (bkF [fW cy fa (e0, e1, e2, e3, rl, rf, ma, lo7, u7)]) → va_S A s.heap H locs → lv_has ls 6 [(0, .ref (fa 0)), (1, .int (nI l9)), (2, .int (nI fe)), (3, .int (nI du)), (4, .int (nI i))] → W p l e (headSpec wsX0_firstFollower rm_X0_firstFollower).room s m args below meth c H locs 0 0 Q (F0 m 3 ls []) := by
    intro n9
    induction n9 using Nat.strongRecOn with
    | _ n9 ih_3 =>
    intro i u7 lo7 hm_3 h3_0 h3_1 ls H locs hP hD hS hl
    refine lv_iload hx hb dX0_firstFollower_3 (lv_at hl 4 rfl) ?_
    refine lv_bipush (v := nI 8) hx hb dX0_firstFollower_5 (by decide) ?_
    refine lv_icmp_ge (tgt := 61) hx hb dX0_firstFollower_7 (by decide) (fun c_7 => ?_) (fun c_7 => ?_)
    · skip
      have c_7 : 8 ≤ i := (nI_leI (a := 8) (b := i) (by omega) (by omega)).mp c_7
      refine lv_iconst (v := (-1 : Int32)) hx hb dX0_firstFollower_61 (by decide) ?_
      exact kr_i (post := fun r_ (u_ : Nat × (Nat → Int32)) => r_ = kFFv M l9 fe du) (Bs := fun u_ : Nat × (Nat → Int32) => [fW cy fa (e0, e1, e2, e3, rl, rf, ma, u_.2, u_.1)]) hx hb hr hlocks rfl (u7, lo7) hP hK hD hS (kFF_none (by omega) h3_1) dX0_firstFollower_62 hQ
    · skip
      have c_7 : ¬ (8 ≤ i) := fun h => c_7 ((nI_leI (a := 8) (b := i) (by omega) (by omega)).mpr h)
      refine lv_iconst (v := nI 1) hx hb dX0_firstFollower_10 (by decide) ?_
      refine lv_iload hx hb dX0_firstFollower_11 (lv_at hl 4 rfl) ?_
      refine lv_ishl hx hb dX0_firstFollower_13 ?_
      refine kv_i (y := nI (2 ^ i)) (kshl (i := i) (by omega)) ?_
      refine lv_istore (lv' := [(5, .int (nI (2 ^ i))), (0, .ref (fa 0)), (1, .int (nI l9)), (2, .int (nI fe)), (3, .int (nI du)), (4, .int (nI i))]) hx hb dX0_firstFollower_14 hl (by decide) rfl (fun ls hl => ?_)
      refine lv_aload_n hx hb dX0_firstFollower_16 rfl (lv_at hl 1 rfl) ?_
      refine va_get (D := D) (ci := 0) (v := .ref (fa 5)) (C := RX0) (T := TX0) (N := 9) hx hb hts (by decide +kernel) hown hK hP 0 rfl rfl 6 (by decide) (hts (.fieldLink RX0 24 "DanceHall$Floor" "may" "[I") (by decide +kernel)) (fun _ h9 => h9) rfl dX0_firstFollower_17 ?_
      refine lv_iload_n hx hb dX0_firstFollower_20 rfl (lv_at hl 2 rfl) ?_
      refine va_iald hx hb hK hP 5 0 rfl rfl (vp_in_nI (n := l9) (N := 8) (by omega) (by omega)) dX0_firstFollower_21 ?_
      refine kv_i (y := nI (M l9)) (by rw [nI_clamp (n := l9) (by omega)]; exact hm l9 hl9) ?_
      refine lv_iload_n hx hb dX0_firstFollower_22 rfl (lv_at hl 3 rfl) ?_
      refine lv_iand hx hb dX0_firstFollower_23 ?_
      refine kv_i (y := nI ((M l9) &&& fe)) (kn_and (M l9) fe) ?_
      refine lv_iload hx hb dX0_firstFollower_24 (lv_at hl 0 rfl) ?_
      refine lv_iand hx hb dX0_firstFollower_26 ?_
      refine kv_i (y := nI (((M l9) &&& fe) &&& (2 ^ i))) (kn_and ((M l9) &&& fe) (2 ^ i)) ?_
      have hM9 := hm8 l9 hl9
      have ha9 : M l9 &&& fe &&& 2 ^ i ≤ M l9 &&& fe := Nat.and_le_left
      have ha8 : M l9 &&& fe ≤ M l9 := Nat.and_le_left
      refine lv_if_eq (tgt := 55) hx hb dX0_firstFollower_27 (by decide) (fun c_27 => ?_) (fun c_27 => ?_)
      · skip
        have c_27 : (((M l9) &&& fe) &&& (2 ^ i)) = 0 := (nI_eq (a := ((M l9) &&& fe) &&& (2 ^ i)) (b := 0) (by omega) (by omega)).mp c_27
        refine lv_iinc (v := nI (i + 1)) (lv' := [(4, .int (nI (i + 1))), (5, .int (nI (2 ^ i))), (0, .ref (fa 0)), (1, .int (nI l9)), (2, .int (nI fe)), (3, .int (nI du))]) hx hb dX0_firstFollower_55 hl (k := 5) rfl (nI_add i 1) (by decide) rfl (fun ls hl => ?_)
        refine lv_goto (tgt := 3) hx hb dX0_firstFollower_58 (by decide) ?_
        exact ih_3 _ (by omega) (i + 1) u7 lo7 rfl (by omega) (kFP_miss h3_1 (fun h => h.1 c_27)) ls H locs hP hD hS (lv_sub hl [2, 3, 4, 5, 0] rfl)
      · skip
        have c_27 : ¬ ((((M l9) &&& fe) &&& (2 ^ i)) = 0) := fun h => c_27 ((nI_eq (a := ((M l9) &&& fe) &&& (2 ^ i)) (b := 0) (by omega) (by omega)).mpr h)
        refine lv_aload_n hx hb dX0_firstFollower_30 rfl (lv_at hl 1 rfl) ?_
        refine lv_iload_n hx hb dX0_firstFollower_31 rfl (lv_at hl 2 rfl) ?_
        refine lv_iconst (v := nI 1) hx hb dX0_firstFollower_32 (by decide) ?_
        refine lv_iadd hx hb dX0_firstFollower_33 ?_
        refine kv_i (y := nI (l9 + 1)) (nI_add l9 1) ?_
        refine lv_iload_n hx hb dX0_firstFollower_34 rfl (lv_at hl 3 rfl) ?_
        refine lv_iload hx hb dX0_firstFollower_35 (lv_at hl 0 rfl) ?_
        refine lv_iconst (v := (-1 : Int32)) hx hb dX0_firstFollower_37 (by decide) ?_
        refine lv_ixor hx hb dX0_firstFollower_38 ?_
        refine lv_iand hx hb dX0_firstFollower_39 ?_
        refine kv_i (y := nI (kclr fe i)) (kclr_ok (u := fe) (i := i) (by omega) (by omega)) ?_
        refine lv_iload_n hx hb dX0_firstFollower_40 rfl (lv_at hl 4 rfl) ?_
        refine lv_iconst (v := nI 1) hx hb dX0_firstFollower_41 (by decide) ?_
        refine lv_isub hx hb dX0_firstFollower_42 ?_
        refine kv_i (y := nI (du - 1)) (pk_sub (a := du) (b := 1) (by omega)) ?_
        refine kc_i (Cs := [fW cy fa (e0, e1, e2, e3, rl, rf, ma, lo7, u7)]) (Rs := []) (Bs := [fW cy fa (e0, e1, e2, e3, rl, rf, ma, lo7, u7)]) (Cs' := fun u_ : Nat × (Nat → Int32) => [fW cy fa (e0, e1, e2, e3, rl, rf, ma, u_.2, u_.1)]) (Fs := fun u_ : Nat × (Nat → Int32) => [fW cy fa (e0, e1, e2, e3, rl, rf, ma, u_.2, u_.1)]) hP hD hS hA [0] [] [0] rfl rfl (by decide) (by decide) (fun _ => rfl) (va_runV (As := [.int (nI (l9 + 1)), .int (nI (kclr fe i)), .int (nI (du - 1))]) (rest := []) ⟨hx, hb, hml, hown, hts⟩ (c_X0_mostCouples l D cy fa e0 e1 e2 e3 rl rf ma lo7 u7 M (l9 + 1) (kclr fe i) (du - 1) hm hm8 (by first | assumption | omega | decide) (kclr_lt hfe) (by first | assumption | omega | decide) H.size) (cwV 3 hts gX0_firstFollower_X0_mostCouples rfl rfl rfl (by decide +kernel) ⟨Nat.le_of_ble_eq_true rfl, Nat.le_of_ble_eq_true rfl⟩) (kPre_V (ci := 0) hK hN hP hD [0] (by decide) rfl 0 rfl rfl) rfl rfl hl.1 rfl (lv_room (Nat.le_of_ble_eq_true rfl)) dX0_firstFollower_43 ⟨Nat.le_of_ble_eq_true rfl, Nat.le_of_ble_eq_true rfl⟩) (fun r_ u_ H locs hw hP hD hS => ?_)
        obtain ⟨u9_43, lo9_43⟩ := u_
        have hP : va_P D vwCl (bkF [fW cy fa (e0, e1, e2, e3, rl, rf, ma, lo9_43, u9_43)]) H := hP
        have hD : va_D A (bkF [fW cy fa (e0, e1, e2, e3, rl, rf, ma, lo9_43, u9_43)]) := hD
        have hw : r_ = nI (kMC M (l9 + 1) (kclr fe i) (du - 1)) := hw
        subst hw
        refine lv_iload_n hx hb dX0_firstFollower_46 rfl (lv_at hl 4 rfl) ?_
        refine lv_iconst (v := nI 1) hx hb dX0_firstFollower_47 (by decide) ?_
        refine lv_isub hx hb dX0_firstFollower_48 ?_
        refine kv_i (y := nI (du - 1)) (pk_sub (a := du) (b := 1) (by omega)) ?_
        have hk9 := kMC_le M (l9 + 1) (kclr fe i) (du - 1)
        refine lv_icmp_ne (tgt := 55) hx hb dX0_firstFollower_49 (by decide) (fun c_49 => ?_) (fun c_49 => ?_)
        · skip
          have c_49 : ¬ ((kMC M (l9 + 1) (kclr fe i) (du - 1)) = (du - 1)) := fun h => c_49 ((nI_eq (a := kMC M (l9 + 1) (kclr fe i) (du - 1)) (b := du - 1) (by omega) (by omega)).mpr h)
          refine lv_iinc (v := nI (i + 1)) (lv' := [(4, .int (nI (i + 1))), (5, .int (nI (2 ^ i))), (0, .ref (fa 0)), (1, .int (nI l9)), (2, .int (nI fe)), (3, .int (nI du))]) hx hb dX0_firstFollower_55 hl (k := 5) rfl (nI_add i 1) (by decide) rfl (fun ls hl => ?_)
          refine lv_goto (tgt := 3) hx hb dX0_firstFollower_58 (by decide) ?_
          exact ih_3 _ (by omega) (i + 1) u9_43 lo9_43 rfl (by omega) (kFP_miss h3_1 (fun h => c_49 h.2)) ls H locs hP hD hS (lv_sub hl [2, 3, 4, 5, 0] rfl)
        · skip
          have c_49 : (kMC M (l9 + 1) (kclr fe i) (du - 1)) = (du - 1) := (nI_eq (a := kMC M (l9 + 1) (kclr fe i) (du - 1)) (b := du - 1) (by omega) (by omega)).mp c_49
          refine lv_iload hx hb dX0_firstFollower_52 (lv_at hl 5 rfl) ?_
          exact kr_i (post := fun r_ (u_ : Nat × (Nat → Int32)) => r_ = kFFv M l9 fe du) (Bs := fun u_ : Nat × (Nat → Int32) => [fW cy fa (e0, e1, e2, e3, rl, rf, ma, u_.2, u_.1)]) hx hb hr hlocks rfl (u9_43, lo9_43) hP hK hD hS (kFF_hit (by omega) h3_1 c_27 (by omega)) dX0_firstFollower_54 hQ
  exact L_3 _ 0 un lo rfl (by omega) rfl ls H locs hP hD hS (lv_sub hl [1, 2, 3, 4, 0] rfl)
abbrev rm_X0_pairUp : Room := { frames := 11, cells := 0, slots := 0, locals := 275 }
set_option maxHeartbeats 1000000 in
set_option maxRecDepth 100000 in
/-- pairUp -/
theorem c_X0_pairUp (l : Launch) (D : va_G) (cy : Nat → ClassId) (fa : Nat → Nat) (Fl : rF) (a : Nat → Nat) (C : rC) (L : rG) (F : rG) (Ar : rA) (d : Nat → Nat → Int32) (ro : Nat) (hnl : L.2.2.2.2.2 ≤ 8) (hnf : F.2.2.2.2.2 ≤ 8) (hsl : kSz L) (hsf : kSz F) (hro : ro < 1000) (sz : Nat) : Met l yX0_pairUp wsX0_pairUp rm_X0_pairUp (va_Pc [.ref (fa 0), .ref (a 0), .int (nI ro)] (kPre D (kT cy) [fW cy fa Fl, sO a C, gW cy a 1 L, gW cy a 7 F, sA cy a Ar, rW cy a d] sz)) (va_Qi (fun r_ (u_ : Nat × (Nat → Int32)) => r_ = nI (kMC (kM Ar.1 L F Fl d) 0 255 ro)) (kFr D (kT cy) [fW cy fa Fl, sO a C, gW cy a 1 L, gW cy a 7 F, sA cy a Ar, rW cy a d] sz (fun u_ : Nat × (Nat → Int32) => [fW cy fa ((kS2 Ar.1 L F Fl 0).1, (kCh (kM Ar.1 L F Fl d) (kMC (kM Ar.1 L F Fl d) 0 255 ro) Fl.2.1 8).2.2, (kS1 Ar.1 L Fl 0).2.1, (kS2 Ar.1 L F Fl 0).2.1, (kS1 Ar.1 L Fl 0).2.2, (kS2 Ar.1 L F Fl 0).2.2, (fun q => nI (kM Ar.1 L F Fl d q)), u_.2, u_.1), sO a C, gW cy a 1 L, gW cy a 7 F, sA cy a Ar, rW cy a d])) (va_A (bkF [fW cy fa Fl, sO a C, gW cy a 1 L, gW cy a 7 F, sA cy a Ar, rW cy a d]) sz)) 0 0 (va_A (bkF [fW cy fa Fl, sO a C, gW cy a 1 L, gW cy a 7 F, sA cy a Ar, rW cy a d]) sz) := by
  refine kOpen (y := yX0_pairUp) (ws := wsX0_pairUp) (cc := cX0_pairUp) (maxL := 8) (ret := (some .int)) (av := [.ref (fa 0), .ref (a 0), .int (nI ro)]) (Bs := [fW cy fa Fl, sO a C, gW cy a 1 L, gW cy a 7 F, sA cy a Ar, rW cy a d]) (Qc := fun A => (va_Qi (fun r_ (u_ : Nat × (Nat → Int32)) => r_ = nI (kMC (kM Ar.1 L F Fl d) 0 255 ro)) (fun (u_ : Nat × (Nat → Int32)) t9 => kEnd D (kT cy) A [fW cy fa ((kS2 Ar.1 L F Fl 0).1, (kCh (kM Ar.1 L F Fl d) (kMC (kM Ar.1 L F Fl d) 0 255 ro) Fl.2.1 8).2.2, (kS1 Ar.1 L Fl 0).2.1, (kS2 Ar.1 L F Fl 0).2.1, (kS1 Ar.1 L Fl 0).2.2, (kS2 Ar.1 L F Fl 0).2.2, (fun q => nI (kM Ar.1 L F Fl d q)), u_.2, u_.1), sO a C, gW cy a 1 L, gW cy a 7 F, sA cy a Ar, rW cy a d] t9) A)) (by decide) rfl (Nat.le_of_ble_eq_true rfl) ?_
  intro p e s m args below meth c A Q ls hQ hx hb hml hr hlocks hin hts hown hN hK hP hD hS hA hsz hAe hl
  clear hAe
  have hl : lv_has ls 8 [(0, .ref (fa 0)), (1, .ref (a 0)), (2, .int (nI ro))] := hl
  suffices K9 : ∀ (H : Heap) (locs : List Loc), va_P D vwCl (bkF [fW cy fa Fl, sO a C, gW cy a 1 L, gW cy a 7 F, sA cy a Ar, rW cy a d]) H → va_S A s.heap H locs → W p l e (headSpec wsX0_pairUp rm_X0_pairUp).room s m args below meth c H locs 0 0 Q (F0 m 0 ls []) from K9 _ _ hP hS
  clear hP hS
  intro H locs hP hS
  refine lv_aload_n hx hb dX0_pairUp_0 rfl (lv_at hl 0 rfl) ?_
  refine lv_aload_n hx hb dX0_pairUp_1 rfl (lv_at hl 1 rfl) ?_
  refine lv_iconst (v := nI 0) hx hb dX0_pairUp_2 (by decide) ?_
  refine kc_v (Cs := [fW cy fa Fl, sO a C, gW cy a 1 L, gW cy a 7 F, sA cy a Ar]) (Rs := [rW cy a d]) (Bs := [fW cy fa Fl, sO a C, gW cy a 1 L, gW cy a 7 F, sA cy a Ar, rW cy a d]) (Cs' := fun u_ : Unit => [fW cy fa ((kS2 Ar.1 L F Fl 0).1, Fl.2.1, (kS1 Ar.1 L Fl 0).2.1, (kS2 Ar.1 L F Fl 0).2.1, (kS1 Ar.1 L Fl 0).2.2, (kS2 Ar.1 L F Fl 0).2.2, Fl.2.2.2.2.2.2), sO a C, gW cy a 1 L, gW cy a 7 F, sA cy a Ar]) (Fs := fun u_ : Unit => [fW cy fa ((kS2 Ar.1 L F Fl 0).1, Fl.2.1, (kS1 Ar.1 L Fl 0).2.1, (kS2 Ar.1 L F Fl 0).2.1, (kS1 Ar.1 L Fl 0).2.2, (kS2 Ar.1 L F Fl 0).2.2, Fl.2.2.2.2.2.2), sO a C, gW cy a 1 L, gW cy a 7 F, sA cy a Ar, rW cy a d]) hP hD hS hA [0, 1, 2, 3, 4] [5] [1, 2, 3, 4, 5, 0] rfl rfl (by decide) (by decide) (fun _ => rfl) (va_runV (As := [.ref (a 0), .int (nI 0)]) (rest := []) ⟨hx, hb, hml, hown, hts⟩ (c_X0_lendShoes l D cy fa Fl a C L F Ar 0 (by first | assumption | omega | decide) (by first | assumption | omega | decide) (by first | assumption | omega | decide) hsl hsf H.size) (cwV 2 hts gX0_pairUp_X0_lendShoes rfl rfl rfl (by decide +kernel) ⟨Nat.le_of_ble_eq_true rfl, Nat.le_of_ble_eq_true rfl⟩) (kPre_V (ci := 0) hK hN hP hD [0, 1, 2, 3, 4] (by decide) rfl 0 rfl rfl) rfl rfl hl.1 rfl (lv_room (Nat.le_of_ble_eq_true rfl)) dX0_pairUp_3 ⟨Nat.le_of_ble_eq_true rfl, Nat.le_of_ble_eq_true rfl⟩) (fun u_ H locs hw hP hD hS => ?_)
  refine lv_iconst (v := nI 0) hx hb dX0_pairUp_6 (by decide) ?_
  refine lv_istore_n (lv' := [(3, .int (nI 0)), (0, .ref (fa 0)), (1, .ref (a 0)), (2, .int (nI ro))]) hx hb dX0_pairUp_7 rfl hl (by decide) rfl (fun ls hl => ?_)
  have hP := kP_cell (g := (kcp (fun q => nI (kM Ar.1 L F Fl d q)) Fl.2.2.2.2.2.2.1 0)) hP 5 rfl (fun j _ => (kcp_0 _ _ j).symm)
  have hD := hD.set (p := 5) (e := .inl (cy 0, 8, .inl (kcp (fun q => nI (kM Ar.1 L F Fl d q)) Fl.2.2.2.2.2.2.1 0))) rfl
  have hP : va_P D vwCl (bkF [fW cy fa ((kS2 Ar.1 L F Fl 0).1, Fl.2.1, (kS1 Ar.1 L Fl 0).2.1, (kS2 Ar.1 L F Fl 0).2.1, (kS1 Ar.1 L Fl 0).2.2, (kS2 Ar.1 L F Fl 0).2.2, kcp (fun q => nI (kM Ar.1 L F Fl d q)) Fl.2.2.2.2.2.2.1 0, Fl.2.2.2.2.2.2.2), sO a C, gW cy a 1 L, gW cy a 7 F, sA cy a Ar, rW cy a d]) H := hP
  have hD : va_D A (bkF [fW cy fa ((kS2 Ar.1 L F Fl 0).1, Fl.2.1, (kS1 Ar.1 L Fl 0).2.1, (kS2 Ar.1 L F Fl 0).2.1, (kS1 Ar.1 L Fl 0).2.2, (kS2 Ar.1 L F Fl 0).2.2, kcp (fun q => nI (kM Ar.1 L F Fl d q)) Fl.2.2.2.2.2.2.1 0, Fl.2.2.2.2.2.2.2), sO a C, gW cy a 1 L, gW cy a 7 F, sA cy a Ar, rW cy a d]) := hD
  have L_8 : ∀ (n9 : Nat) (i : Nat), 8 - i = n9 → (i ≤ 8) → ∀ (ls : Array Slot) (H : Heap) (locs : List Loc), va_P D vwCl (bkF [fW cy fa ((kS2 Ar.1 L F Fl 0).1, Fl.2.1, (kS1 Ar.1 L Fl 0).2.1, (kS2 Ar.1 L F Fl 0).2.1, (kS1 Ar.1 L Fl 0).2.2, (kS2 Ar.1 L F Fl 0).2.2, kcp (fun q => nI (kM Ar.1 L F Fl d q)) Fl.2.2.2.2.2.2.1 i, Fl.2.2.2.2.2.2.2), sO a C, gW cy a 1 L, gW cy a 7 F, sA cy a Ar, rW cy a d]) H → va_D A (bkF [fW cy fa ((kS2 Ar.1 L F Fl 0).1, Fl.2.1, (kS1 Ar.1 L Fl 0).2.1, (kS2 Ar.1 L F Fl 0).2.1, (kS1 Ar.1 L Fl 0).2.2, (kS2 Ar.1 L F Fl 0).2.2, kcp (fun q => nI (kM Ar.1 L F Fl d q)) Fl.2.2.2.2.2.2.1 i, Fl.2.2.2.2.2.2.2), sO a C, gW cy a 1 L, gW cy a 7 F, sA cy a Ar, rW cy a d]) → va_S A s.heap H locs → lv_has ls 8 [(0, .ref (fa 0)), (1, .ref (a 0)), (2, .int (nI ro)), (3, .int (nI i))] → W p l e (headSpec wsX0_pairUp rm_X0_pairUp).room s m args below meth c H locs 0 0 Q (F0 m 8 ls []) := by
    intro n9
    induction n9 using Nat.strongRecOn with
    | _ n9 ih_8 =>
    intro i hm_8 h8_0 ls H locs hP hD hS hl
    refine lv_iload_n hx hb dX0_pairUp_8 rfl (lv_at hl 3 rfl) ?_
    refine lv_bipush (v := nI 8) hx hb dX0_pairUp_9 (by decide) ?_
    refine lv_icmp_ge (tgt := 49) hx hb dX0_pairUp_11 (by decide) (fun c_11 => ?_) (fun c_11 => ?_)
    · skip
      have c_11 : 8 ≤ i := (nI_leI (a := 8) (b := i) (by omega) (by omega)).mp c_11
      have hP := kP_cell (g := (fun q => nI (kM Ar.1 L F Fl d q))) hP 5 rfl (fun j hj => kcp_in (fun q => nI (kM Ar.1 L F Fl d q)) Fl.2.2.2.2.2.2.1 (i := i) (by omega))
      have hD := hD.set (p := 5) (e := .inl (cy 0, 8, .inl (fun q => nI (kM Ar.1 L F Fl d q)))) rfl
      have hP : va_P D vwCl (bkF [fW cy fa ((kS2 Ar.1 L F Fl 0).1, Fl.2.1, (kS1 Ar.1 L Fl 0).2.1, (kS2 Ar.1 L F Fl 0).2.1, (kS1 Ar.1 L Fl 0).2.2, (kS2 Ar.1 L F Fl 0).2.2, (fun q => nI (kM Ar.1 L F Fl d q)), Fl.2.2.2.2.2.2.2), sO a C, gW cy a 1 L, gW cy a 7 F, sA cy a Ar, rW cy a d]) H := hP
      have hD : va_D A (bkF [fW cy fa ((kS2 Ar.1 L F Fl 0).1, Fl.2.1, (kS1 Ar.1 L Fl 0).2.1, (kS2 Ar.1 L F Fl 0).2.1, (kS1 Ar.1 L Fl 0).2.2, (kS2 Ar.1 L F Fl 0).2.2, (fun q => nI (kM Ar.1 L F Fl d q)), Fl.2.2.2.2.2.2.2), sO a C, gW cy a 1 L, gW cy a 7 F, sA cy a Ar, rW cy a d]) := hD
      refine lv_aload_n hx hb dX0_pairUp_49 rfl (lv_at hl 0 rfl) ?_
      refine lv_iconst (v := nI 0) hx hb dX0_pairUp_50 (by decide) ?_
      refine lv_sipush (v := nI 255) hx hb dX0_pairUp_51 (by decide) ?_
      refine lv_iload_n hx hb dX0_pairUp_54 rfl (lv_at hl 2 rfl) ?_
      refine kc_i (Cs := [fW cy fa ((kS2 Ar.1 L F Fl 0).1, Fl.2.1, (kS1 Ar.1 L Fl 0).2.1, (kS2 Ar.1 L F Fl 0).2.1, (kS1 Ar.1 L Fl 0).2.2, (kS2 Ar.1 L F Fl 0).2.2, (fun q => nI (kM Ar.1 L F Fl d q)), Fl.2.2.2.2.2.2.2)]) (Rs := [sO a C, gW cy a 1 L, gW cy a 7 F, sA cy a Ar, rW cy a d]) (Bs := [fW cy fa ((kS2 Ar.1 L F Fl 0).1, Fl.2.1, (kS1 Ar.1 L Fl 0).2.1, (kS2 Ar.1 L F Fl 0).2.1, (kS1 Ar.1 L Fl 0).2.2, (kS2 Ar.1 L F Fl 0).2.2, (fun q => nI (kM Ar.1 L F Fl d q)), Fl.2.2.2.2.2.2.2), sO a C, gW cy a 1 L, gW cy a 7 F, sA cy a Ar, rW cy a d]) (Cs' := fun u_ : Nat × (Nat → Int32) => [fW cy fa ((kS2 Ar.1 L F Fl 0).1, Fl.2.1, (kS1 Ar.1 L Fl 0).2.1, (kS2 Ar.1 L F Fl 0).2.1, (kS1 Ar.1 L Fl 0).2.2, (kS2 Ar.1 L F Fl 0).2.2, (fun q => nI (kM Ar.1 L F Fl d q)), u_.2, u_.1)]) (Fs := fun u_ : Nat × (Nat → Int32) => [fW cy fa ((kS2 Ar.1 L F Fl 0).1, Fl.2.1, (kS1 Ar.1 L Fl 0).2.1, (kS2 Ar.1 L F Fl 0).2.1, (kS1 Ar.1 L Fl 0).2.2, (kS2 Ar.1 L F Fl 0).2.2, (fun q => nI (kM Ar.1 L F Fl d q)), u_.2, u_.1), sO a C, gW cy a 1 L, gW cy a 7 F, sA cy a Ar, rW cy a d]) hP hD hS hA [0] [1, 2, 3, 4, 5] [5, 0, 1, 2, 3, 4] rfl rfl (by decide) (by decide) (fun _ => rfl) (va_runV (As := [.int (nI 0), .int (nI 255), .int (nI ro)]) (rest := []) ⟨hx, hb, hml, hown, hts⟩ (c_X0_mostCouples l D cy fa (kS2 Ar.1 L F Fl 0).1 Fl.2.1 (kS1 Ar.1 L Fl 0).2.1 (kS2 Ar.1 L F Fl 0).2.1 (kS1 Ar.1 L Fl 0).2.2 (kS2 Ar.1 L F Fl 0).2.2 (fun q => nI (kM Ar.1 L F Fl d q)) Fl.2.2.2.2.2.2.2.1 Fl.2.2.2.2.2.2.2.2 (kM Ar.1 L F Fl d) 0 255 ro (fun _ _ => rfl) (fun q _ => kMay_lt _ _ _ q) (by first | assumption | omega | decide) (by first | assumption | omega | decide) (by first | assumption | omega | decide) H.size) (cwV 3 hts gX0_pairUp_X0_mostCouples rfl rfl rfl (by decide +kernel) ⟨Nat.le_of_ble_eq_true rfl, Nat.le_of_ble_eq_true rfl⟩) (kPre_V (ci := 0) hK hN hP hD [0] (by decide) rfl 0 rfl rfl) rfl rfl hl.1 rfl (lv_room (Nat.le_of_ble_eq_true rfl)) dX0_pairUp_55 ⟨Nat.le_of_ble_eq_true rfl, Nat.le_of_ble_eq_true rfl⟩) (fun r_ u_ H locs hw hP hD hS => ?_)
      obtain ⟨u9_55, lo9_55⟩ := u_
      have hP : va_P D vwCl (bkF [fW cy fa ((kS2 Ar.1 L F Fl 0).1, Fl.2.1, (kS1 Ar.1 L Fl 0).2.1, (kS2 Ar.1 L F Fl 0).2.1, (kS1 Ar.1 L Fl 0).2.2, (kS2 Ar.1 L F Fl 0).2.2, (fun q => nI (kM Ar.1 L F Fl d q)), lo9_55, u9_55), sO a C, gW cy a 1 L, gW cy a 7 F, sA cy a Ar, rW cy a d]) H := hP
      have hD : va_D A (bkF [fW cy fa ((kS2 Ar.1 L F Fl 0).1, Fl.2.1, (kS1 Ar.1 L Fl 0).2.1, (kS2 Ar.1 L F Fl 0).2.1, (kS1 Ar.1 L Fl 0).2.2, (kS2 Ar.1 L F Fl 0).2.2, (fun q => nI (kM Ar.1 L F Fl d q)), lo9_55, u9_55), sO a C, gW cy a 1 L, gW cy a 7 F, sA cy a Ar, rW cy a d]) := hD
      have hw : r_ = nI (kMC (kM Ar.1 L F Fl d) 0 255 ro) := hw
      subst hw
      refine lv_istore_n (lv' := [(3, .int (nI (kMC (kM Ar.1 L F Fl d) 0 255 ro))), (0, .ref (fa 0)), (1, .ref (a 0)), (2, .int (nI ro))]) hx hb dX0_pairUp_58 rfl hl (by decide) rfl (fun ls hl => ?_)
      refine lv_iload_n hx hb dX0_pairUp_59 rfl (lv_at hl 0 rfl) ?_
      refine lv_istore (lv' := [(4, .int (nI (kMC (kM Ar.1 L F Fl d) 0 255 ro))), (3, .int (nI (kMC (kM Ar.1 L F Fl d) 0 255 ro))), (0, .ref (fa 0)), (1, .ref (a 0)), (2, .int (nI ro))]) hx hb dX0_pairUp_60 hl (by decide) rfl (fun ls hl => ?_)
      refine lv_sipush (v := nI 255) hx hb dX0_pairUp_62 (by decide) ?_
      refine lv_istore (lv' := [(5, .int (nI 255)), (4, .int (nI (kMC (kM Ar.1 L F Fl d) 0 255 ro))), (3, .int (nI (kMC (kM Ar.1 L F Fl d) 0 255 ro))), (0, .ref (fa 0)), (1, .ref (a 0)), (2, .int (nI ro))]) hx hb dX0_pairUp_65 hl (by decide) rfl (fun ls hl => ?_)
      refine lv_iconst (v := nI 0) hx hb dX0_pairUp_67 (by decide) ?_
      refine lv_istore (lv' := [(6, .int (nI 0)), (5, .int (nI 255)), (4, .int (nI (kMC (kM Ar.1 L F Fl d) 0 255 ro))), (3, .int (nI (kMC (kM Ar.1 L F Fl d) 0 255 ro))), (0, .ref (fa 0)), (1, .ref (a 0)), (2, .int (nI ro))]) hx hb dX0_pairUp_68 hl (by decide) rfl (fun ls hl => ?_)
      have hP := kP_cell (g := (kCh (kM Ar.1 L F Fl d) (kMC (kM Ar.1 L F Fl d) 0 255 ro) Fl.2.1 0).2.2) hP 2 rfl (fun _ _ => rfl)
      have hD := hD.set (p := 2) (e := .inl (cy 0, 8, .inl (kCh (kM Ar.1 L F Fl d) (kMC (kM Ar.1 L F Fl d) 0 255 ro) Fl.2.1 0).2.2)) rfl
      have hP : va_P D vwCl (bkF [fW cy fa ((kS2 Ar.1 L F Fl 0).1, (kCh (kM Ar.1 L F Fl d) (kMC (kM Ar.1 L F Fl d) 0 255 ro) Fl.2.1 0).2.2, (kS1 Ar.1 L Fl 0).2.1, (kS2 Ar.1 L F Fl 0).2.1, (kS1 Ar.1 L Fl 0).2.2, (kS2 Ar.1 L F Fl 0).2.2, (fun q => nI (kM Ar.1 L F Fl d q)), lo9_55, u9_55), sO a C, gW cy a 1 L, gW cy a 7 F, sA cy a Ar, rW cy a d]) H := hP
      have hD : va_D A (bkF [fW cy fa ((kS2 Ar.1 L F Fl 0).1, (kCh (kM Ar.1 L F Fl d) (kMC (kM Ar.1 L F Fl d) 0 255 ro) Fl.2.1 0).2.2, (kS1 Ar.1 L Fl 0).2.1, (kS2 Ar.1 L F Fl 0).2.1, (kS1 Ar.1 L Fl 0).2.2, (kS2 Ar.1 L F Fl 0).2.2, (fun q => nI (kM Ar.1 L F Fl d q)), lo9_55, u9_55), sO a C, gW cy a 1 L, gW cy a 7 F, sA cy a Ar, rW cy a d]) := hD
      have L_70 : ∀ (n9 : Nat) (i : Nat) (u7 : Nat) (lo7 : Nat → Int32), 8 - i = n9 → (i ≤ 8) → ∀ (ls : Array Slot) (H : Heap) (locs : List Loc), va_P D vwCl (bkF [fW cy fa ((kS2 Ar.1 L F Fl 0).1, (kCh (kM Ar.1 L F Fl d) (kMC (kM Ar.1 L F Fl d) 0 255 ro) Fl.2.1 i).2.2, (kS1 Ar.1 L Fl 0).2.1, (kS2 Ar.1 L F Fl 0).2.1, (kS1 Ar.1 L Fl 0).2.2, (kS2 Ar.1 L F Fl 0).2.2, (fun q => nI (kM Ar.1 L F Fl d q)), lo7, u7), sO a C, gW cy a 1 L, gW cy a 7 F, sA cy a Ar, rW cy a d]) H → va_D A (bkF [fW cy fa ((kS2 Ar.1 L F Fl 0).1, (kCh (kM Ar.1 L F Fl d) (kMC (kM Ar.1 L F Fl d) 0 255 ro) Fl.2.1 i).2.2, (kS1 Ar.1 L Fl 0).2.1, (kS2 Ar.1 L F Fl 0).2.1, (kS1 Ar.1 L Fl 0).2.2, (kS2 Ar.1 L F Fl 0).2.2, (fun q => nI (kM Ar.1 L F Fl d q)), lo7, u7), sO a C, gW cy a 1 L, gW cy a 7 F, sA cy a Ar, rW cy a d]) → va_S A s.heap H locs → lv_has ls 8 [(0, .ref (fa 0)), (1, .ref (a 0)), (3, .int (nI (kMC (kM Ar.1 L F Fl d) 0 255 ro))), (4, .int (nI (kCh (kM Ar.1 L F Fl d) (kMC (kM Ar.1 L F Fl d) 0 255 ro) Fl.2.1 i).1)), (5, .int (nI (kCh (kM Ar.1 L F Fl d) (kMC (kM Ar.1 L F Fl d) 0 255 ro) Fl.2.1 i).2.1)), (6, .int (nI i))] → W p l e (headSpec wsX0_pairUp rm_X0_pairUp).room s m args below meth c H locs 0 0 Q (F0 m 70 ls []) := by
        intro n9
        induction n9 using Nat.strongRecOn with
        | _ n9 ih_70 =>
        intro i u7 lo7 hm_70 h70_0 ls H locs hP hD hS hl
        refine lv_iload hx hb dX0_pairUp_70 (lv_at hl 5 rfl) ?_
        refine lv_bipush (v := nI 8) hx hb dX0_pairUp_72 (by decide) ?_
        refine lv_icmp_ge (tgt := 133) hx hb dX0_pairUp_74 (by decide) (fun c_74 => ?_) (fun c_74 => ?_)
        · skip
          have c_74 : 8 ≤ i := (nI_leI (a := 8) (b := i) (by omega) (by omega)).mp c_74
          refine lv_iload_n hx hb dX0_pairUp_133 rfl (lv_at hl 2 rfl) ?_
          have hP := kP_cell (g := (kCh (kM Ar.1 L F Fl d) (kMC (kM Ar.1 L F Fl d) 0 255 ro) Fl.2.1 8).2.2) hP 2 rfl (fun _ _ => by rw [show 8 = i from by omega])
          have hD := hD.set (p := 2) (e := .inl (cy 0, 8, .inl (kCh (kM Ar.1 L F Fl d) (kMC (kM Ar.1 L F Fl d) 0 255 ro) Fl.2.1 8).2.2)) rfl
          have hP : va_P D vwCl (bkF [fW cy fa ((kS2 Ar.1 L F Fl 0).1, (kCh (kM Ar.1 L F Fl d) (kMC (kM Ar.1 L F Fl d) 0 255 ro) Fl.2.1 8).2.2, (kS1 Ar.1 L Fl 0).2.1, (kS2 Ar.1 L F Fl 0).2.1, (kS1 Ar.1 L Fl 0).2.2, (kS2 Ar.1 L F Fl 0).2.2, (fun q => nI (kM Ar.1 L F Fl d q)), lo7, u7), sO a C, gW cy a 1 L, gW cy a 7 F, sA cy a Ar, rW cy a d]) H := hP
          have hD : va_D A (bkF [fW cy fa ((kS2 Ar.1 L F Fl 0).1, (kCh (kM Ar.1 L F Fl d) (kMC (kM Ar.1 L F Fl d) 0 255 ro) Fl.2.1 8).2.2, (kS1 Ar.1 L Fl 0).2.1, (kS2 Ar.1 L F Fl 0).2.1, (kS1 Ar.1 L Fl 0).2.2, (kS2 Ar.1 L F Fl 0).2.2, (fun q => nI (kM Ar.1 L F Fl d q)), lo7, u7), sO a C, gW cy a 1 L, gW cy a 7 F, sA cy a Ar, rW cy a d]) := hD
          exact kr_i (post := fun r_ (u_ : Nat × (Nat → Int32)) => r_ = nI (kMC (kM Ar.1 L F Fl d) 0 255 ro)) (Bs := fun u_ : Nat × (Nat → Int32) => [fW cy fa ((kS2 Ar.1 L F Fl 0).1, (kCh (kM Ar.1 L F Fl d) (kMC (kM Ar.1 L F Fl d) 0 255 ro) Fl.2.1 8).2.2, (kS1 Ar.1 L Fl 0).2.1, (kS2 Ar.1 L F Fl 0).2.1, (kS1 Ar.1 L Fl 0).2.2, (kS2 Ar.1 L F Fl 0).2.2, (fun q => nI (kM Ar.1 L F Fl d q)), u_.2, u_.1), sO a C, gW cy a 1 L, gW cy a 7 F, sA cy a Ar, rW cy a d]) hx hb hr hlocks rfl (u7, lo7) hP hK hD hS rfl dX0_pairUp_134 hQ
        · skip
          have c_74 : ¬ (8 ≤ i) := fun h => c_74 ((nI_leI (a := 8) (b := i) (by omega) (by omega)).mpr h)
          refine lv_iload hx hb dX0_pairUp_77 (lv_at hl 3 rfl) ?_
          have hle1 := kCh_le (kM Ar.1 L F Fl d) (kMC (kM Ar.1 L F Fl d) 0 255 ro) Fl.2.1 i
          have hle2 := kMC_le (kM Ar.1 L F Fl d) 0 255 ro
          have hlt1 := kCh_lt (kM Ar.1 L F Fl d) (kMC (kM Ar.1 L F Fl d) 0 255 ro) Fl.2.1 i
          refine lv_if_le (tgt := 95) hx hb dX0_pairUp_79 (by decide) (fun c_79 => ?_) (fun c_79 => ?_)
          · skip
            have c_79 : (kCh (kM Ar.1 L F Fl d) (kMC (kM Ar.1 L F Fl d) 0 255 ro) Fl.2.1 i).1 ≤ 0 := (nI_leI (a := (kCh (kM Ar.1 L F Fl d) (kMC (kM Ar.1 L F Fl d) 0 255 ro) Fl.2.1 i).1) (b := 0) (by omega) (by omega)).mp c_79
            refine lv_iconst (v := (-1 : Int32)) hx hb dX0_pairUp_95 (by decide) ?_
            refine lv_istore (lv' := [(7, .int (-1)), (0, .ref (fa 0)), (1, .ref (a 0)), (3, .int (nI (kMC (kM Ar.1 L F Fl d) 0 255 ro))), (4, .int (nI (kCh (kM Ar.1 L F Fl d) (kMC (kM Ar.1 L F Fl d) 0 255 ro) Fl.2.1 i).1)), (5, .int (nI (kCh (kM Ar.1 L F Fl d) (kMC (kM Ar.1 L F Fl d) 0 255 ro) Fl.2.1 i).2.1)), (6, .int (nI i))]) hx hb dX0_pairUp_96 hl (by decide) rfl (fun ls hl => ?_)
            refine lv_aload_n hx hb dX0_pairUp_98 rfl (lv_at hl 1 rfl) ?_
            refine va_get (D := D) (ci := 0) (v := .ref (fa 2)) (C := RX0) (T := TX0) (N := 9) hx hb hts (by decide +kernel) hown hK hP 0 rfl rfl 1 (by decide) (hts (.fieldLink RX0 15 "DanceHall$Floor" "follower" "[I") (by decide +kernel)) (fun _ h9 => h9) rfl dX0_pairUp_99 ?_
            refine lv_iload hx hb dX0_pairUp_102 (lv_at hl 6 rfl) ?_
            refine lv_iload hx hb dX0_pairUp_104 (lv_at hl 0 rfl) ?_
            refine va_iast hx hb hK hP hD hS 2 0 rfl rfl (vp_in_nI (n := i) (N := 8) (by omega) (by omega)) dX0_pairUp_106 (fun H locs hP hD hS => ?_)
            rw [nI_clamp (n := i) (by omega)] at hP hD
            have hP : va_P D vwCl (bkF [fW cy fa ((kS2 Ar.1 L F Fl 0).1, upd (kCh (kM Ar.1 L F Fl d) (kMC (kM Ar.1 L F Fl d) 0 255 ro) Fl.2.1 i).2.2 i (-1), (kS1 Ar.1 L Fl 0).2.1, (kS2 Ar.1 L F Fl 0).2.1, (kS1 Ar.1 L Fl 0).2.2, (kS2 Ar.1 L F Fl 0).2.2, (fun q => nI (kM Ar.1 L F Fl d q)), lo7, u7), sO a C, gW cy a 1 L, gW cy a 7 F, sA cy a Ar, rW cy a d]) H := hP
            have hD : va_D A (bkF [fW cy fa ((kS2 Ar.1 L F Fl 0).1, upd (kCh (kM Ar.1 L F Fl d) (kMC (kM Ar.1 L F Fl d) 0 255 ro) Fl.2.1 i).2.2 i (-1), (kS1 Ar.1 L Fl 0).2.1, (kS2 Ar.1 L F Fl 0).2.1, (kS1 Ar.1 L Fl 0).2.2, (kS2 Ar.1 L F Fl 0).2.2, (fun q => nI (kM Ar.1 L F Fl d q)), lo7, u7), sO a C, gW cy a 1 L, gW cy a 7 F, sA cy a Ar, rW cy a d]) := hD
            refine lv_iload hx hb dX0_pairUp_107 (lv_at hl 0 rfl) ?_
            refine lv_iconst (v := (-1 : Int32)) hx hb dX0_pairUp_109 (by decide) ?_
            refine lv_icmp_eq (tgt := 127) hx hb dX0_pairUp_110 (by decide) (fun _ => ?_) (fun h => absurd h (by decide))
            refine lv_iinc (v := nI (i + 1)) (lv' := [(6, .int (nI (i + 1))), (7, .int (-1)), (0, .ref (fa 0)), (1, .ref (a 0)), (3, .int (nI (kMC (kM Ar.1 L F Fl d) 0 255 ro))), (4, .int (nI (kCh (kM Ar.1 L F Fl d) (kMC (kM Ar.1 L F Fl d) 0 255 ro) Fl.2.1 i).1)), (5, .int (nI (kCh (kM Ar.1 L F Fl d) (kMC (kM Ar.1 L F Fl d) 0 255 ro) Fl.2.1 i).2.1))]) hx hb dX0_pairUp_127 hl (k := 6) rfl (nI_add i 1) (by decide) rfl (fun ls hl => ?_)
            refine lv_goto (tgt := 70) hx hb dX0_pairUp_130 (by decide) ?_
            have hP := kP_cell (g := (kCh (kM Ar.1 L F Fl d) (kMC (kM Ar.1 L F Fl d) 0 255 ro) Fl.2.1 (i + 1)).2.2) hP 2 rfl (fun _ _ => by rw [show kCh (kM Ar.1 L F Fl d) (kMC (kM Ar.1 L F Fl d) 0 255 ro) Fl.2.1 (i + 1) = _ from kCh_n1 (by omega)])
            have hD := hD.set (p := 2) (e := .inl (cy 0, 8, .inl (kCh (kM Ar.1 L F Fl d) (kMC (kM Ar.1 L F Fl d) 0 255 ro) Fl.2.1 (i + 1)).2.2)) rfl
            have hP : va_P D vwCl (bkF [fW cy fa ((kS2 Ar.1 L F Fl 0).1, (kCh (kM Ar.1 L F Fl d) (kMC (kM Ar.1 L F Fl d) 0 255 ro) Fl.2.1 (i + 1)).2.2, (kS1 Ar.1 L Fl 0).2.1, (kS2 Ar.1 L F Fl 0).2.1, (kS1 Ar.1 L Fl 0).2.2, (kS2 Ar.1 L F Fl 0).2.2, (fun q => nI (kM Ar.1 L F Fl d q)), lo7, u7), sO a C, gW cy a 1 L, gW cy a 7 F, sA cy a Ar, rW cy a d]) H := hP
            have hD : va_D A (bkF [fW cy fa ((kS2 Ar.1 L F Fl 0).1, (kCh (kM Ar.1 L F Fl d) (kMC (kM Ar.1 L F Fl d) 0 255 ro) Fl.2.1 (i + 1)).2.2, (kS1 Ar.1 L Fl 0).2.1, (kS2 Ar.1 L F Fl 0).2.1, (kS1 Ar.1 L Fl 0).2.2, (kS2 Ar.1 L F Fl 0).2.2, (fun q => nI (kM Ar.1 L F Fl d q)), lo7, u7), sO a C, gW cy a 1 L, gW cy a 7 F, sA cy a Ar, rW cy a d]) := hD
            have e7 : (kCh (kM Ar.1 L F Fl d) (kMC (kM Ar.1 L F Fl d) 0 255 ro) Fl.2.1 (i + 1)).1 = (kCh (kM Ar.1 L F Fl d) (kMC (kM Ar.1 L F Fl d) 0 255 ro) Fl.2.1 i).1 := congrArg (fun q => q.1) (show kCh (kM Ar.1 L F Fl d) (kMC (kM Ar.1 L F Fl d) 0 255 ro) Fl.2.1 (i + 1) = _ from kCh_n1 (by omega))
            rw [← e7] at hl
            have e7 : (kCh (kM Ar.1 L F Fl d) (kMC (kM Ar.1 L F Fl d) 0 255 ro) Fl.2.1 (i + 1)).2.1 = (kCh (kM Ar.1 L F Fl d) (kMC (kM Ar.1 L F Fl d) 0 255 ro) Fl.2.1 i).2.1 := congrArg (fun q => q.2.1) (show kCh (kM Ar.1 L F Fl d) (kMC (kM Ar.1 L F Fl d) 0 255 ro) Fl.2.1 (i + 1) = _ from kCh_n1 (by omega))
            rw [← e7] at hl
            exact ih_70 _ (by omega) (i + 1) u7 lo7 rfl (by omega) ls H locs hP hD hS (lv_sub hl [2, 3, 4, 5, 6, 0] rfl)
          · skip
            have c_79 : ¬ ((kCh (kM Ar.1 L F Fl d) (kMC (kM Ar.1 L F Fl d) 0 255 ro) Fl.2.1 i).1 ≤ 0) := fun h => c_79 ((nI_leI (a := (kCh (kM Ar.1 L F Fl d) (kMC (kM Ar.1 L F Fl d) 0 255 ro) Fl.2.1 i).1) (b := 0) (by omega) (by omega)).mpr h)
            refine lv_aload_n hx hb dX0_pairUp_82 rfl (lv_at hl 0 rfl) ?_
            refine lv_iload hx hb dX0_pairUp_83 (lv_at hl 5 rfl) ?_
            refine lv_iload hx hb dX0_pairUp_85 (lv_at hl 4 rfl) ?_
            refine lv_iload hx hb dX0_pairUp_87 (lv_at hl 3 rfl) ?_
            refine kc_i (Cs := [fW cy fa ((kS2 Ar.1 L F Fl 0).1, (kCh (kM Ar.1 L F Fl d) (kMC (kM Ar.1 L F Fl d) 0 255 ro) Fl.2.1 i).2.2, (kS1 Ar.1 L Fl 0).2.1, (kS2 Ar.1 L F Fl 0).2.1, (kS1 Ar.1 L Fl 0).2.2, (kS2 Ar.1 L F Fl 0).2.2, (fun q => nI (kM Ar.1 L F Fl d q)), lo7, u7)]) (Rs := [sO a C, gW cy a 1 L, gW cy a 7 F, sA cy a Ar, rW cy a d]) (Bs := [fW cy fa ((kS2 Ar.1 L F Fl 0).1, (kCh (kM Ar.1 L F Fl d) (kMC (kM Ar.1 L F Fl d) 0 255 ro) Fl.2.1 i).2.2, (kS1 Ar.1 L Fl 0).2.1, (kS2 Ar.1 L F Fl 0).2.1, (kS1 Ar.1 L Fl 0).2.2, (kS2 Ar.1 L F Fl 0).2.2, (fun q => nI (kM Ar.1 L F Fl d q)), lo7, u7), sO a C, gW cy a 1 L, gW cy a 7 F, sA cy a Ar, rW cy a d]) (Cs' := fun u_ : Nat × (Nat → Int32) => [fW cy fa ((kS2 Ar.1 L F Fl 0).1, (kCh (kM Ar.1 L F Fl d) (kMC (kM Ar.1 L F Fl d) 0 255 ro) Fl.2.1 i).2.2, (kS1 Ar.1 L Fl 0).2.1, (kS2 Ar.1 L F Fl 0).2.1, (kS1 Ar.1 L Fl 0).2.2, (kS2 Ar.1 L F Fl 0).2.2, (fun q => nI (kM Ar.1 L F Fl d q)), u_.2, u_.1)]) (Fs := fun u_ : Nat × (Nat → Int32) => [fW cy fa ((kS2 Ar.1 L F Fl 0).1, (kCh (kM Ar.1 L F Fl d) (kMC (kM Ar.1 L F Fl d) 0 255 ro) Fl.2.1 i).2.2, (kS1 Ar.1 L Fl 0).2.1, (kS2 Ar.1 L F Fl 0).2.1, (kS1 Ar.1 L Fl 0).2.2, (kS2 Ar.1 L F Fl 0).2.2, (fun q => nI (kM Ar.1 L F Fl d q)), u_.2, u_.1), sO a C, gW cy a 1 L, gW cy a 7 F, sA cy a Ar, rW cy a d]) hP hD hS hA [0] [1, 2, 3, 4, 5] [5, 0, 1, 2, 3, 4] rfl rfl (by decide) (by decide) (fun _ => rfl) (va_runV (As := [.int (nI i), .int (nI (kCh (kM Ar.1 L F Fl d) (kMC (kM Ar.1 L F Fl d) 0 255 ro) Fl.2.1 i).2.1), .int (nI (kCh (kM Ar.1 L F Fl d) (kMC (kM Ar.1 L F Fl d) 0 255 ro) Fl.2.1 i).1)]) (rest := []) ⟨hx, hb, hml, hown, hts⟩ (c_X0_firstFollower l D cy fa (kS2 Ar.1 L F Fl 0).1 (kCh (kM Ar.1 L F Fl d) (kMC (kM Ar.1 L F Fl d) 0 255 ro) Fl.2.1 i).2.2 (kS1 Ar.1 L Fl 0).2.1 (kS2 Ar.1 L F Fl 0).2.1 (kS1 Ar.1 L Fl 0).2.2 (kS2 Ar.1 L F Fl 0).2.2 (fun q => nI (kM Ar.1 L F Fl d q)) lo7 u7 (kM Ar.1 L F Fl d) i (kCh (kM Ar.1 L F Fl d) (kMC (kM Ar.1 L F Fl d) 0 255 ro) Fl.2.1 i).2.1 (kCh (kM Ar.1 L F Fl d) (kMC (kM Ar.1 L F Fl d) 0 255 ro) Fl.2.1 i).1 (fun _ _ => rfl) (fun q _ => kMay_lt _ _ _ q) (by first | assumption | omega | decide) (by first | assumption | omega | decide) (by first | assumption | omega | decide) (by first | assumption | omega | decide) H.size) (cwV 3 hts gX0_pairUp_X0_firstFollower rfl rfl rfl (by decide +kernel) ⟨Nat.le_of_ble_eq_true rfl, Nat.le_of_ble_eq_true rfl⟩) (kPre_V (ci := 0) hK hN hP hD [0] (by decide) rfl 0 rfl rfl) rfl rfl hl.1 rfl (lv_room (Nat.le_of_ble_eq_true rfl)) dX0_pairUp_89 ⟨Nat.le_of_ble_eq_true rfl, Nat.le_of_ble_eq_true rfl⟩) (fun r_ u_ H locs hw hP hD hS => ?_)
            obtain ⟨u9_89, lo9_89⟩ := u_
            have hP : va_P D vwCl (bkF [fW cy fa ((kS2 Ar.1 L F Fl 0).1, (kCh (kM Ar.1 L F Fl d) (kMC (kM Ar.1 L F Fl d) 0 255 ro) Fl.2.1 i).2.2, (kS1 Ar.1 L Fl 0).2.1, (kS2 Ar.1 L F Fl 0).2.1, (kS1 Ar.1 L Fl 0).2.2, (kS2 Ar.1 L F Fl 0).2.2, (fun q => nI (kM Ar.1 L F Fl d q)), lo9_89, u9_89), sO a C, gW cy a 1 L, gW cy a 7 F, sA cy a Ar, rW cy a d]) H := hP
            have hD : va_D A (bkF [fW cy fa ((kS2 Ar.1 L F Fl 0).1, (kCh (kM Ar.1 L F Fl d) (kMC (kM Ar.1 L F Fl d) 0 255 ro) Fl.2.1 i).2.2, (kS1 Ar.1 L Fl 0).2.1, (kS2 Ar.1 L F Fl 0).2.1, (kS1 Ar.1 L Fl 0).2.2, (kS2 Ar.1 L F Fl 0).2.2, (fun q => nI (kM Ar.1 L F Fl d q)), lo9_89, u9_89), sO a C, gW cy a 1 L, gW cy a 7 F, sA cy a Ar, rW cy a d]) := hD
            have hw : r_ = kFFv (kM Ar.1 L F Fl d) i (kCh (kM Ar.1 L F Fl d) (kMC (kM Ar.1 L F Fl d) 0 255 ro) Fl.2.1 i).2.1 (kCh (kM Ar.1 L F Fl d) (kMC (kM Ar.1 L F Fl d) 0 255 ro) Fl.2.1 i).1 := hw
            subst hw
            refine lv_goto (tgt := 96) hx hb dX0_pairUp_92 (by decide) ?_
            refine lv_istore (lv' := [(7, .int (kFFv (kM Ar.1 L F Fl d) i (kCh (kM Ar.1 L F Fl d) (kMC (kM Ar.1 L F Fl d) 0 255 ro) Fl.2.1 i).2.1 (kCh (kM Ar.1 L F Fl d) (kMC (kM Ar.1 L F Fl d) 0 255 ro) Fl.2.1 i).1)), (0, .ref (fa 0)), (1, .ref (a 0)), (3, .int (nI (kMC (kM Ar.1 L F Fl d) 0 255 ro))), (4, .int (nI (kCh (kM Ar.1 L F Fl d) (kMC (kM Ar.1 L F Fl d) 0 255 ro) Fl.2.1 i).1)), (5, .int (nI (kCh (kM Ar.1 L F Fl d) (kMC (kM Ar.1 L F Fl d) 0 255 ro) Fl.2.1 i).2.1)), (6, .int (nI i))]) hx hb dX0_pairUp_96 hl (by decide) rfl (fun ls hl => ?_)
            refine lv_aload_n hx hb dX0_pairUp_98 rfl (lv_at hl 1 rfl) ?_
            refine va_get (D := D) (ci := 0) (v := .ref (fa 2)) (C := RX0) (T := TX0) (N := 9) hx hb hts (by decide +kernel) hown hK hP 0 rfl rfl 1 (by decide) (hts (.fieldLink RX0 15 "DanceHall$Floor" "follower" "[I") (by decide +kernel)) (fun _ h9 => h9) rfl dX0_pairUp_99 ?_
            refine lv_iload hx hb dX0_pairUp_102 (lv_at hl 6 rfl) ?_
            refine lv_iload hx hb dX0_pairUp_104 (lv_at hl 0 rfl) ?_
            refine va_iast hx hb hK hP hD hS 2 0 rfl rfl (vp_in_nI (n := i) (N := 8) (by omega) (by omega)) dX0_pairUp_106 (fun H locs hP hD hS => ?_)
            rw [nI_clamp (n := i) (by omega)] at hP hD
            have hP : va_P D vwCl (bkF [fW cy fa ((kS2 Ar.1 L F Fl 0).1, upd (kCh (kM Ar.1 L F Fl d) (kMC (kM Ar.1 L F Fl d) 0 255 ro) Fl.2.1 i).2.2 i (kFFv (kM Ar.1 L F Fl d) i (kCh (kM Ar.1 L F Fl d) (kMC (kM Ar.1 L F Fl d) 0 255 ro) Fl.2.1 i).2.1 (kCh (kM Ar.1 L F Fl d) (kMC (kM Ar.1 L F Fl d) 0 255 ro) Fl.2.1 i).1), (kS1 Ar.1 L Fl 0).2.1, (kS2 Ar.1 L F Fl 0).2.1, (kS1 Ar.1 L Fl 0).2.2, (kS2 Ar.1 L F Fl 0).2.2, (fun q => nI (kM Ar.1 L F Fl d q)), lo9_89, u9_89), sO a C, gW cy a 1 L, gW cy a 7 F, sA cy a Ar, rW cy a d]) H := hP
            have hD : va_D A (bkF [fW cy fa ((kS2 Ar.1 L F Fl 0).1, upd (kCh (kM Ar.1 L F Fl d) (kMC (kM Ar.1 L F Fl d) 0 255 ro) Fl.2.1 i).2.2 i (kFFv (kM Ar.1 L F Fl d) i (kCh (kM Ar.1 L F Fl d) (kMC (kM Ar.1 L F Fl d) 0 255 ro) Fl.2.1 i).2.1 (kCh (kM Ar.1 L F Fl d) (kMC (kM Ar.1 L F Fl d) 0 255 ro) Fl.2.1 i).1), (kS1 Ar.1 L Fl 0).2.1, (kS2 Ar.1 L F Fl 0).2.1, (kS1 Ar.1 L Fl 0).2.2, (kS2 Ar.1 L F Fl 0).2.2, (fun q => nI (kM Ar.1 L F Fl d q)), lo9_89, u9_89), sO a C, gW cy a 1 L, gW cy a 7 F, sA cy a Ar, rW cy a d]) := hD
            refine lv_iload hx hb dX0_pairUp_107 (lv_at hl 0 rfl) ?_
            refine lv_iconst (v := (-1 : Int32)) hx hb dX0_pairUp_109 (by decide) ?_
            refine lv_icmp_eq (tgt := 127) hx hb dX0_pairUp_110 (by decide) (fun c_110 => ?_) (fun c_110 => ?_)
            · skip
              refine lv_iinc (v := nI (i + 1)) (lv' := [(6, .int (nI (i + 1))), (7, .int (kFFv (kM Ar.1 L F Fl d) i (kCh (kM Ar.1 L F Fl d) (kMC (kM Ar.1 L F Fl d) 0 255 ro) Fl.2.1 i).2.1 (kCh (kM Ar.1 L F Fl d) (kMC (kM Ar.1 L F Fl d) 0 255 ro) Fl.2.1 i).1)), (0, .ref (fa 0)), (1, .ref (a 0)), (3, .int (nI (kMC (kM Ar.1 L F Fl d) 0 255 ro))), (4, .int (nI (kCh (kM Ar.1 L F Fl d) (kMC (kM Ar.1 L F Fl d) 0 255 ro) Fl.2.1 i).1)), (5, .int (nI (kCh (kM Ar.1 L F Fl d) (kMC (kM Ar.1 L F Fl d) 0 255 ro) Fl.2.1 i).2.1))]) hx hb dX0_pairUp_127 hl (k := 6) rfl (nI_add i 1) (by decide) rfl (fun ls hl => ?_)
              refine lv_goto (tgt := 70) hx hb dX0_pairUp_130 (by decide) ?_
              have hP := kP_cell (g := (kCh (kM Ar.1 L F Fl d) (kMC (kM Ar.1 L F Fl d) 0 255 ro) Fl.2.1 (i + 1)).2.2) hP 2 rfl (fun _ _ => by rw [show kCh (kM Ar.1 L F Fl d) (kMC (kM Ar.1 L F Fl d) 0 255 ro) Fl.2.1 (i + 1) = _ from kCh_n2 c_110])
              have hD := hD.set (p := 2) (e := .inl (cy 0, 8, .inl (kCh (kM Ar.1 L F Fl d) (kMC (kM Ar.1 L F Fl d) 0 255 ro) Fl.2.1 (i + 1)).2.2)) rfl
              have hP : va_P D vwCl (bkF [fW cy fa ((kS2 Ar.1 L F Fl 0).1, (kCh (kM Ar.1 L F Fl d) (kMC (kM Ar.1 L F Fl d) 0 255 ro) Fl.2.1 (i + 1)).2.2, (kS1 Ar.1 L Fl 0).2.1, (kS2 Ar.1 L F Fl 0).2.1, (kS1 Ar.1 L Fl 0).2.2, (kS2 Ar.1 L F Fl 0).2.2, (fun q => nI (kM Ar.1 L F Fl d q)), lo9_89, u9_89), sO a C, gW cy a 1 L, gW cy a 7 F, sA cy a Ar, rW cy a d]) H := hP
              have hD : va_D A (bkF [fW cy fa ((kS2 Ar.1 L F Fl 0).1, (kCh (kM Ar.1 L F Fl d) (kMC (kM Ar.1 L F Fl d) 0 255 ro) Fl.2.1 (i + 1)).2.2, (kS1 Ar.1 L Fl 0).2.1, (kS2 Ar.1 L F Fl 0).2.1, (kS1 Ar.1 L Fl 0).2.2, (kS2 Ar.1 L F Fl 0).2.2, (fun q => nI (kM Ar.1 L F Fl d q)), lo9_89, u9_89), sO a C, gW cy a 1 L, gW cy a 7 F, sA cy a Ar, rW cy a d]) := hD
              have e7 : (kCh (kM Ar.1 L F Fl d) (kMC (kM Ar.1 L F Fl d) 0 255 ro) Fl.2.1 (i + 1)).1 = (kCh (kM Ar.1 L F Fl d) (kMC (kM Ar.1 L F Fl d) 0 255 ro) Fl.2.1 i).1 := congrArg (fun q => q.1) (show kCh (kM Ar.1 L F Fl d) (kMC (kM Ar.1 L F Fl d) 0 255 ro) Fl.2.1 (i + 1) = _ from kCh_n2 c_110)
              rw [← e7] at hl
              have e7 : (kCh (kM Ar.1 L F Fl d) (kMC (kM Ar.1 L F Fl d) 0 255 ro) Fl.2.1 (i + 1)).2.1 = (kCh (kM Ar.1 L F Fl d) (kMC (kM Ar.1 L F Fl d) 0 255 ro) Fl.2.1 i).2.1 := congrArg (fun q => q.2.1) (show kCh (kM Ar.1 L F Fl d) (kMC (kM Ar.1 L F Fl d) 0 255 ro) Fl.2.1 (i + 1) = _ from kCh_n2 c_110)
              rw [← e7] at hl
              exact ih_70 _ (by omega) (i + 1) u9_89 lo9_89 rfl (by omega) ls H locs hP hD hS (lv_sub hl [2, 3, 4, 5, 6, 0] rfl)
            · skip
              have hff := kFFv_n c_110
              have hl : lv_has ls 8 [(7, .int (nI (kFF (kM Ar.1 L F Fl d) i (kCh (kM Ar.1 L F Fl d) (kMC (kM Ar.1 L F Fl d) 0 255 ro) Fl.2.1 i).2.1 (kCh (kM Ar.1 L F Fl d) (kMC (kM Ar.1 L F Fl d) 0 255 ro) Fl.2.1 i).1))), (0, .ref (fa 0)), (1, .ref (a 0)), (3, .int (nI (kMC (kM Ar.1 L F Fl d) 0 255 ro))), (4, .int (nI (kCh (kM Ar.1 L F Fl d) (kMC (kM Ar.1 L F Fl d) 0 255 ro) Fl.2.1 i).1)), (5, .int (nI (kCh (kM Ar.1 L F Fl d) (kMC (kM Ar.1 L F Fl d) 0 255 ro) Fl.2.1 i).2.1)), (6, .int (nI i))] := by rw [show nI (kFF (kM Ar.1 L F Fl d) i (kCh (kM Ar.1 L F Fl d) (kMC (kM Ar.1 L F Fl d) 0 255 ro) Fl.2.1 i).2.1 (kCh (kM Ar.1 L F Fl d) (kMC (kM Ar.1 L F Fl d) 0 255 ro) Fl.2.1 i).1) = kFFv (kM Ar.1 L F Fl d) i (kCh (kM Ar.1 L F Fl d) (kMC (kM Ar.1 L F Fl d) 0 255 ro) Fl.2.1 i).2.1 (kCh (kM Ar.1 L F Fl d) (kMC (kM Ar.1 L F Fl d) 0 255 ro) Fl.2.1 i).1 from hff.1.symm]; exact hl
              refine lv_iload hx hb dX0_pairUp_113 (lv_at hl 5 rfl) ?_
              refine lv_iconst (v := nI 1) hx hb dX0_pairUp_115 (by decide) ?_
              refine lv_iload hx hb dX0_pairUp_116 (lv_at hl 0 rfl) ?_
              refine lv_ishl hx hb dX0_pairUp_118 ?_
              refine kv_i (y := nI (2 ^ (kFF (kM Ar.1 L F Fl d) i (kCh (kM Ar.1 L F Fl d) (kMC (kM Ar.1 L F Fl d) 0 255 ro) Fl.2.1 i).2.1 (kCh (kM Ar.1 L F Fl d) (kMC (kM Ar.1 L F Fl d) 0 255 ro) Fl.2.1 i).1))) (kshl (i := kFF (kM Ar.1 L F Fl d) i (kCh (kM Ar.1 L F Fl d) (kMC (kM Ar.1 L F Fl d) 0 255 ro) Fl.2.1 i).2.1 (kCh (kM Ar.1 L F Fl d) (kMC (kM Ar.1 L F Fl d) 0 255 ro) Fl.2.1 i).1) (by have := hff.2; omega)) ?_
              refine lv_iconst (v := (-1 : Int32)) hx hb dX0_pairUp_119 (by decide) ?_
              refine lv_ixor hx hb dX0_pairUp_120 ?_
              refine lv_iand hx hb dX0_pairUp_121 ?_
              refine kv_i (y := nI (kclr (kCh (kM Ar.1 L F Fl d) (kMC (kM Ar.1 L F Fl d) 0 255 ro) Fl.2.1 i).2.1 (kFF (kM Ar.1 L F Fl d) i (kCh (kM Ar.1 L F Fl d) (kMC (kM Ar.1 L F Fl d) 0 255 ro) Fl.2.1 i).2.1 (kCh (kM Ar.1 L F Fl d) (kMC (kM Ar.1 L F Fl d) 0 255 ro) Fl.2.1 i).1))) (kclr_ok (u := (kCh (kM Ar.1 L F Fl d) (kMC (kM Ar.1 L F Fl d) 0 255 ro) Fl.2.1 i).2.1) (i := (kFF (kM Ar.1 L F Fl d) i (kCh (kM Ar.1 L F Fl d) (kMC (kM Ar.1 L F Fl d) 0 255 ro) Fl.2.1 i).2.1 (kCh (kM Ar.1 L F Fl d) (kMC (kM Ar.1 L F Fl d) 0 255 ro) Fl.2.1 i).1)) (by have := hff.2; omega) (by have := hff.2; omega)) ?_
              refine lv_istore (lv' := [(5, .int (nI (kclr (kCh (kM Ar.1 L F Fl d) (kMC (kM Ar.1 L F Fl d) 0 255 ro) Fl.2.1 i).2.1 (kFF (kM Ar.1 L F Fl d) i (kCh (kM Ar.1 L F Fl d) (kMC (kM Ar.1 L F Fl d) 0 255 ro) Fl.2.1 i).2.1 (kCh (kM Ar.1 L F Fl d) (kMC (kM Ar.1 L F Fl d) 0 255 ro) Fl.2.1 i).1)))), (7, .int (nI (kFF (kM Ar.1 L F Fl d) i (kCh (kM Ar.1 L F Fl d) (kMC (kM Ar.1 L F Fl d) 0 255 ro) Fl.2.1 i).2.1 (kCh (kM Ar.1 L F Fl d) (kMC (kM Ar.1 L F Fl d) 0 255 ro) Fl.2.1 i).1))), (0, .ref (fa 0)), (1, .ref (a 0)), (3, .int (nI (kMC (kM Ar.1 L F Fl d) 0 255 ro))), (4, .int (nI (kCh (kM Ar.1 L F Fl d) (kMC (kM Ar.1 L F Fl d) 0 255 ro) Fl.2.1 i).1)), (6, .int (nI i))]) hx hb dX0_pairUp_122 hl (by decide) rfl (fun ls hl => ?_)
              refine lv_iinc (v := nI ((kCh (kM Ar.1 L F Fl d) (kMC (kM Ar.1 L F Fl d) 0 255 ro) Fl.2.1 i).1 - 1)) (lv' := [(4, .int (nI ((kCh (kM Ar.1 L F Fl d) (kMC (kM Ar.1 L F Fl d) 0 255 ro) Fl.2.1 i).1 - 1))), (5, .int (nI (kclr (kCh (kM Ar.1 L F Fl d) (kMC (kM Ar.1 L F Fl d) 0 255 ro) Fl.2.1 i).2.1 (kFF (kM Ar.1 L F Fl d) i (kCh (kM Ar.1 L F Fl d) (kMC (kM Ar.1 L F Fl d) 0 255 ro) Fl.2.1 i).2.1 (kCh (kM Ar.1 L F Fl d) (kMC (kM Ar.1 L F Fl d) 0 255 ro) Fl.2.1 i).1)))), (7, .int (nI (kFF (kM Ar.1 L F Fl d) i (kCh (kM Ar.1 L F Fl d) (kMC (kM Ar.1 L F Fl d) 0 255 ro) Fl.2.1 i).2.1 (kCh (kM Ar.1 L F Fl d) (kMC (kM Ar.1 L F Fl d) 0 255 ro) Fl.2.1 i).1))), (0, .ref (fa 0)), (1, .ref (a 0)), (3, .int (nI (kMC (kM Ar.1 L F Fl d) 0 255 ro))), (6, .int (nI i))]) hx hb dX0_pairUp_124 hl (k := 5) rfl (kdec (by omega)) (by decide) rfl (fun ls hl => ?_)
              refine lv_iinc (v := nI (i + 1)) (lv' := [(6, .int (nI (i + 1))), (4, .int (nI ((kCh (kM Ar.1 L F Fl d) (kMC (kM Ar.1 L F Fl d) 0 255 ro) Fl.2.1 i).1 - 1))), (5, .int (nI (kclr (kCh (kM Ar.1 L F Fl d) (kMC (kM Ar.1 L F Fl d) 0 255 ro) Fl.2.1 i).2.1 (kFF (kM Ar.1 L F Fl d) i (kCh (kM Ar.1 L F Fl d) (kMC (kM Ar.1 L F Fl d) 0 255 ro) Fl.2.1 i).2.1 (kCh (kM Ar.1 L F Fl d) (kMC (kM Ar.1 L F Fl d) 0 255 ro) Fl.2.1 i).1)))), (7, .int (nI (kFF (kM Ar.1 L F Fl d) i (kCh (kM Ar.1 L F Fl d) (kMC (kM Ar.1 L F Fl d) 0 255 ro) Fl.2.1 i).2.1 (kCh (kM Ar.1 L F Fl d) (kMC (kM Ar.1 L F Fl d) 0 255 ro) Fl.2.1 i).1))), (0, .ref (fa 0)), (1, .ref (a 0)), (3, .int (nI (kMC (kM Ar.1 L F Fl d) 0 255 ro)))]) hx hb dX0_pairUp_127 hl (k := 6) rfl (nI_add i 1) (by decide) rfl (fun ls hl => ?_)
              refine lv_goto (tgt := 70) hx hb dX0_pairUp_130 (by decide) ?_
              have hP := kP_cell (g := (kCh (kM Ar.1 L F Fl d) (kMC (kM Ar.1 L F Fl d) 0 255 ro) Fl.2.1 (i + 1)).2.2) hP 2 rfl (fun _ _ => by rw [show kCh (kM Ar.1 L F Fl d) (kMC (kM Ar.1 L F Fl d) 0 255 ro) Fl.2.1 (i + 1) = _ from kCh_y (by omega) c_110])
              have hD := hD.set (p := 2) (e := .inl (cy 0, 8, .inl (kCh (kM Ar.1 L F Fl d) (kMC (kM Ar.1 L F Fl d) 0 255 ro) Fl.2.1 (i + 1)).2.2)) rfl
              have hP : va_P D vwCl (bkF [fW cy fa ((kS2 Ar.1 L F Fl 0).1, (kCh (kM Ar.1 L F Fl d) (kMC (kM Ar.1 L F Fl d) 0 255 ro) Fl.2.1 (i + 1)).2.2, (kS1 Ar.1 L Fl 0).2.1, (kS2 Ar.1 L F Fl 0).2.1, (kS1 Ar.1 L Fl 0).2.2, (kS2 Ar.1 L F Fl 0).2.2, (fun q => nI (kM Ar.1 L F Fl d q)), lo9_89, u9_89), sO a C, gW cy a 1 L, gW cy a 7 F, sA cy a Ar, rW cy a d]) H := hP
              have hD : va_D A (bkF [fW cy fa ((kS2 Ar.1 L F Fl 0).1, (kCh (kM Ar.1 L F Fl d) (kMC (kM Ar.1 L F Fl d) 0 255 ro) Fl.2.1 (i + 1)).2.2, (kS1 Ar.1 L Fl 0).2.1, (kS2 Ar.1 L F Fl 0).2.1, (kS1 Ar.1 L Fl 0).2.2, (kS2 Ar.1 L F Fl 0).2.2, (fun q => nI (kM Ar.1 L F Fl d q)), lo9_89, u9_89), sO a C, gW cy a 1 L, gW cy a 7 F, sA cy a Ar, rW cy a d]) := hD
              have e7 : (kCh (kM Ar.1 L F Fl d) (kMC (kM Ar.1 L F Fl d) 0 255 ro) Fl.2.1 (i + 1)).1 = (kCh (kM Ar.1 L F Fl d) (kMC (kM Ar.1 L F Fl d) 0 255 ro) Fl.2.1 i).1 - 1 := congrArg (fun q => q.1) (show kCh (kM Ar.1 L F Fl d) (kMC (kM Ar.1 L F Fl d) 0 255 ro) Fl.2.1 (i + 1) = _ from kCh_y (by omega) c_110)
              rw [← e7] at hl
              have e7 : (kCh (kM Ar.1 L F Fl d) (kMC (kM Ar.1 L F Fl d) 0 255 ro) Fl.2.1 (i + 1)).2.1 = kclr (kCh (kM Ar.1 L F Fl d) (kMC (kM Ar.1 L F Fl d) 0 255 ro) Fl.2.1 i).2.1 (kFF (kM Ar.1 L F Fl d) i (kCh (kM Ar.1 L F Fl d) (kMC (kM Ar.1 L F Fl d) 0 255 ro) Fl.2.1 i).2.1 (kCh (kM Ar.1 L F Fl d) (kMC (kM Ar.1 L F Fl d) 0 255 ro) Fl.2.1 i).1) := congrArg (fun q => q.2.1) (show kCh (kM Ar.1 L F Fl d) (kMC (kM Ar.1 L F Fl d) 0 255 ro) Fl.2.1 (i + 1) = _ from kCh_y (by omega) c_110)
              rw [← e7] at hl
              exact ih_70 _ (by omega) (i + 1) u9_89 lo9_89 rfl (by omega) ls H locs hP hD hS (lv_sub hl [4, 5, 6, 1, 2, 0] rfl)
      exact L_70 _ 0 u9_55 lo9_55 rfl (by omega) ls H locs hP hD hS (lv_sub hl [4, 5, 3, 2, 1, 0] rfl)
    · skip
      have c_11 : ¬ (8 ≤ i) := fun h => c_11 ((nI_leI (a := 8) (b := i) (by omega) (by omega)).mpr h)
      refine lv_aload_n hx hb dX0_pairUp_14 rfl (lv_at hl 0 rfl) ?_
      refine va_get (D := D) (ci := 0) (v := .ref (fa 5)) (C := RX0) (T := TX0) (N := 9) hx hb hts (by decide +kernel) hown hK hP 0 rfl rfl 6 (by decide) (hts (.fieldLink RX0 24 "DanceHall$Floor" "may" "[I") (by decide +kernel)) (fun _ h9 => h9) rfl dX0_pairUp_15 ?_
      refine lv_iload_n hx hb dX0_pairUp_18 rfl (lv_at hl 3 rfl) ?_
      refine lv_aload_n hx hb dX0_pairUp_19 rfl (lv_at hl 0 rfl) ?_
      refine lv_iconst (v := nI 1) hx hb dX0_pairUp_20 (by decide) ?_
      refine lv_iload_n hx hb dX0_pairUp_21 rfl (lv_at hl 3 rfl) ?_
      refine kc_i (Cs := [fW cy fa ((kS2 Ar.1 L F Fl 0).1, Fl.2.1, (kS1 Ar.1 L Fl 0).2.1, (kS2 Ar.1 L F Fl 0).2.1, (kS1 Ar.1 L Fl 0).2.2, (kS2 Ar.1 L F Fl 0).2.2, kcp (fun q => nI (kM Ar.1 L F Fl d q)) Fl.2.2.2.2.2.2.1 i, Fl.2.2.2.2.2.2.2)]) (Rs := [sO a C, gW cy a 1 L, gW cy a 7 F, sA cy a Ar, rW cy a d]) (Bs := [fW cy fa ((kS2 Ar.1 L F Fl 0).1, Fl.2.1, (kS1 Ar.1 L Fl 0).2.1, (kS2 Ar.1 L F Fl 0).2.1, (kS1 Ar.1 L Fl 0).2.2, (kS2 Ar.1 L F Fl 0).2.2, kcp (fun q => nI (kM Ar.1 L F Fl d q)) Fl.2.2.2.2.2.2.1 i, Fl.2.2.2.2.2.2.2), sO a C, gW cy a 1 L, gW cy a 7 F, sA cy a Ar, rW cy a d]) (Cs' := fun u_ : Unit => [fW cy fa ((kS2 Ar.1 L F Fl 0).1, Fl.2.1, (kS1 Ar.1 L Fl 0).2.1, (kS2 Ar.1 L F Fl 0).2.1, (kS1 Ar.1 L Fl 0).2.2, (kS2 Ar.1 L F Fl 0).2.2, kcp (fun q => nI (kM Ar.1 L F Fl d q)) Fl.2.2.2.2.2.2.1 i, Fl.2.2.2.2.2.2.2)]) (Fs := fun u_ : Unit => [fW cy fa ((kS2 Ar.1 L F Fl 0).1, Fl.2.1, (kS1 Ar.1 L Fl 0).2.1, (kS2 Ar.1 L F Fl 0).2.1, (kS1 Ar.1 L Fl 0).2.2, (kS2 Ar.1 L F Fl 0).2.2, kcp (fun q => nI (kM Ar.1 L F Fl d q)) Fl.2.2.2.2.2.2.1 i, Fl.2.2.2.2.2.2.2), sO a C, gW cy a 1 L, gW cy a 7 F, sA cy a Ar, rW cy a d]) hP hD hS hA [0] [1, 2, 3, 4, 5] [5, 0, 1, 2, 3, 4] rfl rfl (by decide) (by decide) (fun _ => rfl) (va_runV (As := [.int (nI 1), .int (nI i)]) (rest := [.int (nI i), .ref (fa 5)]) ⟨hx, hb, hml, hown, hts⟩ (c_X0_isReady_t l D cy fa (kS2 Ar.1 L F Fl 0).1 Fl.2.1 (kS1 Ar.1 L Fl 0).2.1 (kS2 Ar.1 L F Fl 0).2.1 (kS1 Ar.1 L Fl 0).2.2 (kS2 Ar.1 L F Fl 0).2.2 (kcp (fun q => nI (kM Ar.1 L F Fl d q)) Fl.2.2.2.2.2.2.1 i) Fl.2.2.2.2.2.2.2.1 Fl.2.2.2.2.2.2.2.2 (nI 1) i (by first | assumption | omega | decide) (by first | assumption | omega | decide) (kLn_256 _ _ _ hnl) H.size) (cwV 2 hts gX0_pairUp_X0_isReady rfl rfl rfl (by decide +kernel) ⟨Nat.le_of_ble_eq_true rfl, Nat.le_of_ble_eq_true rfl⟩) (kPre_V (ci := 0) hK hN hP hD [0] (by decide) rfl 0 rfl rfl) rfl rfl hl.1 rfl (lv_room (Nat.le_of_ble_eq_true rfl)) dX0_pairUp_22 ⟨Nat.le_of_ble_eq_true rfl, Nat.le_of_ble_eq_true rfl⟩) (fun r_ u_ H locs hw hP hD hS => ?_)
      have hw : r_ = if ¬ ((kS1 Ar.1 L Fl 0).2.2 / 2 ^ i &&& 1 = 0) then nI 1 else nI 0 := hw
      subst hw
      by_cases b_22 : ¬ ((kS1 Ar.1 L Fl 0).2.2 / 2 ^ i &&& 1 = 0)
      · refine kv_i (y := nI 1) (if_pos b_22) ?_
        refine lv_if_eq (tgt := 41) hx hb dX0_pairUp_25 (by decide) (fun h => absurd h (by decide)) (fun _ => ?_)
        refine lv_aload_n hx hb dX0_pairUp_28 rfl (lv_at hl 0 rfl) ?_
        refine lv_aload_n hx hb dX0_pairUp_29 rfl (lv_at hl 1 rfl) ?_
        refine va_get (D := D) (ci := 3) (v := .ref (a 16)) (C := RX3) (T := TX3) (N := 14) hx hb hts (by decide +kernel) hown hK hP 7 rfl rfl 13 (by decide) (hts (.fieldLink RX0 92 "DanceHall$State" "danceOf" "[[I") (by decide +kernel)) (fun _ h9 => h9) rfl dX0_pairUp_30 ?_
        refine lv_iload_n hx hb dX0_pairUp_33 rfl (lv_at hl 3 rfl) ?_
        refine va_aldA hx hb hK hP 23 4 rfl rfl (vp_in_nI (n := i) (N := 8) (by omega) (by omega)) dX0_pairUp_34 ?_
        refine kv_w (y := .ref (a (17 + i))) (by rw [nI_clamp (n := i) (by omega)]; rfl) ?_
        refine kc_i (Cs := [fW cy fa ((kS2 Ar.1 L F Fl 0).1, Fl.2.1, (kS1 Ar.1 L Fl 0).2.1, (kS2 Ar.1 L F Fl 0).2.1, (kS1 Ar.1 L Fl 0).2.2, (kS2 Ar.1 L F Fl 0).2.2, kcp (fun q => nI (kM Ar.1 L F Fl d q)) Fl.2.2.2.2.2.2.1 i, Fl.2.2.2.2.2.2.2), rW cy a d]) (Rs := [sO a C, gW cy a 1 L, gW cy a 7 F, sA cy a Ar]) (Bs := [fW cy fa ((kS2 Ar.1 L F Fl 0).1, Fl.2.1, (kS1 Ar.1 L Fl 0).2.1, (kS2 Ar.1 L F Fl 0).2.1, (kS1 Ar.1 L Fl 0).2.2, (kS2 Ar.1 L F Fl 0).2.2, kcp (fun q => nI (kM Ar.1 L F Fl d q)) Fl.2.2.2.2.2.2.1 i, Fl.2.2.2.2.2.2.2), sO a C, gW cy a 1 L, gW cy a 7 F, sA cy a Ar, rW cy a d]) (Cs' := fun u_ : Unit => [fW cy fa ((kS2 Ar.1 L F Fl 0).1, Fl.2.1, (kS1 Ar.1 L Fl 0).2.1, (kS2 Ar.1 L F Fl 0).2.1, (kS1 Ar.1 L Fl 0).2.2, (kS2 Ar.1 L F Fl 0).2.2, kcp (fun q => nI (kM Ar.1 L F Fl d q)) Fl.2.2.2.2.2.2.1 i, Fl.2.2.2.2.2.2.2), rW cy a d]) (Fs := fun u_ : Unit => [fW cy fa ((kS2 Ar.1 L F Fl 0).1, Fl.2.1, (kS1 Ar.1 L Fl 0).2.1, (kS2 Ar.1 L F Fl 0).2.1, (kS1 Ar.1 L Fl 0).2.2, (kS2 Ar.1 L F Fl 0).2.2, kcp (fun q => nI (kM Ar.1 L F Fl d q)) Fl.2.2.2.2.2.2.1 i, Fl.2.2.2.2.2.2.2), sO a C, gW cy a 1 L, gW cy a 7 F, sA cy a Ar, rW cy a d]) hP hD hS hA [0, 5] [1, 2, 3, 4] [4, 0, 1, 2, 3, 5] rfl rfl (by decide) (by decide) (fun _ => rfl) (va_runV (As := [.ref (a (17 + i))]) (rest := [.int (nI i), .ref (fa 5)]) ⟨hx, hb, hml, hown, hts⟩ (c_X0_newFollowers l D cy fa (kS2 Ar.1 L F Fl 0).1 Fl.2.1 (kS1 Ar.1 L Fl 0).2.1 (kS2 Ar.1 L F Fl 0).2.1 (kS1 Ar.1 L Fl 0).2.2 (kS2 Ar.1 L F Fl 0).2.2 (kcp (fun q => nI (kM Ar.1 L F Fl d q)) Fl.2.2.2.2.2.2.1 i) Fl.2.2.2.2.2.2.2.1 Fl.2.2.2.2.2.2.2.2 a d i (by first | assumption | omega | decide) (kLn_256 _ _ _ hnf) H.size) (cwV 1 hts gX0_pairUp_X0_newFollowers rfl rfl rfl (by decide +kernel) ⟨Nat.le_of_ble_eq_true rfl, Nat.le_of_ble_eq_true rfl⟩) (kPre_V (ci := 0) hK hN hP hD [0, 5] (by decide) rfl 0 rfl rfl) rfl rfl hl.1 rfl (lv_room (Nat.le_of_ble_eq_true rfl)) dX0_pairUp_35 ⟨Nat.le_of_ble_eq_true rfl, Nat.le_of_ble_eq_true rfl⟩) (fun r_ u_ H locs hw hP hD hS => ?_)
        have hw : r_ = nI (knf (kS2 Ar.1 L F Fl 0).2.2 (d i) 8) := hw
        subst hw
        refine lv_goto (tgt := 42) hx hb dX0_pairUp_38 (by decide) ?_
        refine va_iast hx hb hK hP hD hS 5 0 rfl rfl (vp_in_nI (n := i) (N := 8) (by omega) (by omega)) dX0_pairUp_42 (fun H locs hP hD hS => ?_)
        rw [nI_clamp (n := i) (by omega)] at hP hD
        have hP : va_P D vwCl (bkF [fW cy fa ((kS2 Ar.1 L F Fl 0).1, Fl.2.1, (kS1 Ar.1 L Fl 0).2.1, (kS2 Ar.1 L F Fl 0).2.1, (kS1 Ar.1 L Fl 0).2.2, (kS2 Ar.1 L F Fl 0).2.2, upd (kcp (fun q => nI (kM Ar.1 L F Fl d q)) Fl.2.2.2.2.2.2.1 i) i (nI (knf (kS2 Ar.1 L F Fl 0).2.2 (d i) 8)), Fl.2.2.2.2.2.2.2), sO a C, gW cy a 1 L, gW cy a 7 F, sA cy a Ar, rW cy a d]) H := hP
        have hD : va_D A (bkF [fW cy fa ((kS2 Ar.1 L F Fl 0).1, Fl.2.1, (kS1 Ar.1 L Fl 0).2.1, (kS2 Ar.1 L F Fl 0).2.1, (kS1 Ar.1 L Fl 0).2.2, (kS2 Ar.1 L F Fl 0).2.2, upd (kcp (fun q => nI (kM Ar.1 L F Fl d q)) Fl.2.2.2.2.2.2.1 i) i (nI (knf (kS2 Ar.1 L F Fl 0).2.2 (d i) 8)), Fl.2.2.2.2.2.2.2), sO a C, gW cy a 1 L, gW cy a 7 F, sA cy a Ar, rW cy a d]) := hD
        refine lv_iinc (v := nI (i + 1)) (lv' := [(3, .int (nI (i + 1))), (0, .ref (fa 0)), (1, .ref (a 0)), (2, .int (nI ro))]) hx hb dX0_pairUp_43 hl (k := 3) rfl (nI_add i 1) (by decide) rfl (fun ls hl => ?_)
        refine lv_goto (tgt := 8) hx hb dX0_pairUp_46 (by decide) ?_
        have hP := kP_cell (g := (kcp (fun q => nI (kM Ar.1 L F Fl d q)) Fl.2.2.2.2.2.2.1 (i + 1))) hP 5 rfl (fun j _ => kcp_x (by show nI _ = nI (kMay _ _ _ i); unfold kMay; rw [if_pos b_22]) j)
        have hD := hD.set (p := 5) (e := .inl (cy 0, 8, .inl (kcp (fun q => nI (kM Ar.1 L F Fl d q)) Fl.2.2.2.2.2.2.1 (i + 1)))) rfl
        have hP : va_P D vwCl (bkF [fW cy fa ((kS2 Ar.1 L F Fl 0).1, Fl.2.1, (kS1 Ar.1 L Fl 0).2.1, (kS2 Ar.1 L F Fl 0).2.1, (kS1 Ar.1 L Fl 0).2.2, (kS2 Ar.1 L F Fl 0).2.2, kcp (fun q => nI (kM Ar.1 L F Fl d q)) Fl.2.2.2.2.2.2.1 (i + 1), Fl.2.2.2.2.2.2.2), sO a C, gW cy a 1 L, gW cy a 7 F, sA cy a Ar, rW cy a d]) H := hP
        have hD : va_D A (bkF [fW cy fa ((kS2 Ar.1 L F Fl 0).1, Fl.2.1, (kS1 Ar.1 L Fl 0).2.1, (kS2 Ar.1 L F Fl 0).2.1, (kS1 Ar.1 L Fl 0).2.2, (kS2 Ar.1 L F Fl 0).2.2, kcp (fun q => nI (kM Ar.1 L F Fl d q)) Fl.2.2.2.2.2.2.1 (i + 1), Fl.2.2.2.2.2.2.2), sO a C, gW cy a 1 L, gW cy a 7 F, sA cy a Ar, rW cy a d]) := hD
        exact ih_8 _ (by omega) (i + 1) rfl (by omega) ls H locs hP hD hS (lv_sub hl [1, 2, 3, 0] rfl)
      · refine kv_i (y := nI 0) (if_neg b_22) ?_
        refine lv_if_eq (tgt := 41) hx hb dX0_pairUp_25 (by decide) (fun _ => ?_) (fun h => absurd h (by decide))
        refine lv_iconst (v := nI 0) hx hb dX0_pairUp_41 (by decide) ?_
        refine va_iast hx hb hK hP hD hS 5 0 rfl rfl (vp_in_nI (n := i) (N := 8) (by omega) (by omega)) dX0_pairUp_42 (fun H locs hP hD hS => ?_)
        rw [nI_clamp (n := i) (by omega)] at hP hD
        have hP : va_P D vwCl (bkF [fW cy fa ((kS2 Ar.1 L F Fl 0).1, Fl.2.1, (kS1 Ar.1 L Fl 0).2.1, (kS2 Ar.1 L F Fl 0).2.1, (kS1 Ar.1 L Fl 0).2.2, (kS2 Ar.1 L F Fl 0).2.2, upd (kcp (fun q => nI (kM Ar.1 L F Fl d q)) Fl.2.2.2.2.2.2.1 i) i (nI 0), Fl.2.2.2.2.2.2.2), sO a C, gW cy a 1 L, gW cy a 7 F, sA cy a Ar, rW cy a d]) H := hP
        have hD : va_D A (bkF [fW cy fa ((kS2 Ar.1 L F Fl 0).1, Fl.2.1, (kS1 Ar.1 L Fl 0).2.1, (kS2 Ar.1 L F Fl 0).2.1, (kS1 Ar.1 L Fl 0).2.2, (kS2 Ar.1 L F Fl 0).2.2, upd (kcp (fun q => nI (kM Ar.1 L F Fl d q)) Fl.2.2.2.2.2.2.1 i) i (nI 0), Fl.2.2.2.2.2.2.2), sO a C, gW cy a 1 L, gW cy a 7 F, sA cy a Ar, rW cy a d]) := hD
        refine lv_iinc (v := nI (i + 1)) (lv' := [(3, .int (nI (i + 1))), (0, .ref (fa 0)), (1, .ref (a 0)), (2, .int (nI ro))]) hx hb dX0_pairUp_43 hl (k := 3) rfl (nI_add i 1) (by decide) rfl (fun ls hl => ?_)
        refine lv_goto (tgt := 8) hx hb dX0_pairUp_46 (by decide) ?_
        have hP := kP_cell (g := (kcp (fun q => nI (kM Ar.1 L F Fl d q)) Fl.2.2.2.2.2.2.1 (i + 1))) hP 5 rfl (fun j _ => kcp_x (by show nI _ = nI (kMay _ _ _ i); unfold kMay; rw [if_neg b_22]) j)
        have hD := hD.set (p := 5) (e := .inl (cy 0, 8, .inl (kcp (fun q => nI (kM Ar.1 L F Fl d q)) Fl.2.2.2.2.2.2.1 (i + 1)))) rfl
        have hP : va_P D vwCl (bkF [fW cy fa ((kS2 Ar.1 L F Fl 0).1, Fl.2.1, (kS1 Ar.1 L Fl 0).2.1, (kS2 Ar.1 L F Fl 0).2.1, (kS1 Ar.1 L Fl 0).2.2, (kS2 Ar.1 L F Fl 0).2.2, kcp (fun q => nI (kM Ar.1 L F Fl d q)) Fl.2.2.2.2.2.2.1 (i + 1), Fl.2.2.2.2.2.2.2), sO a C, gW cy a 1 L, gW cy a 7 F, sA cy a Ar, rW cy a d]) H := hP
        have hD : va_D A (bkF [fW cy fa ((kS2 Ar.1 L F Fl 0).1, Fl.2.1, (kS1 Ar.1 L Fl 0).2.1, (kS2 Ar.1 L F Fl 0).2.1, (kS1 Ar.1 L Fl 0).2.2, (kS2 Ar.1 L F Fl 0).2.2, kcp (fun q => nI (kM Ar.1 L F Fl d q)) Fl.2.2.2.2.2.2.1 (i + 1), Fl.2.2.2.2.2.2.2), sO a C, gW cy a 1 L, gW cy a 7 F, sA cy a Ar, rW cy a d]) := hD
        exact ih_8 _ (by omega) (i + 1) rfl (by omega) ls H locs hP hD hS (lv_sub hl [1, 2, 3, 0] rfl)
  exact L_8 _ 0  rfl (by omega) ls H locs hP hD hS (lv_sub hl [1, 2, 3, 0] rfl)
