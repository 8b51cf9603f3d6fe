abbrev rm_X5_litOf_q : Room := { frames := 0, cells := 0, slots := 0, locals := 0 }
set_option maxHeartbeats 1000000 in
set_option maxRecDepth 100000 in
/-- litOf, amid a dance -/
theorem c_X5_litOf_q (l : Launch) (D : va_G) (cy : Nat → ClassId) (ra : Nat → Nat) (al : Nat → Int32) (T : rV) (k : Nat) (oi : Nat) (hk6 : k ≤ 6) (ho9 : oi ≤ 999) (hal3 : al 3 = nI oi) (sz : Nat) : Met l yX5_litOf wsX5_litOf rm_X5_litOf_q (va_Pc [.ref (ra 0), .int (nI k)] (kPre D (kT cy) [mW cy ra (al, T)] sz)) (va_Qi (fun r_ (u_ : Unit) => r_ = nI (min k (oi / 2))) (kFr D (kT cy) [mW cy ra (al, T)] sz (fun u_ : Unit => [mW cy ra (al, T)])) (va_A (bkF [mW cy ra (al, T)]) sz)) 0 0 (va_A (bkF [mW cy ra (al, T)]) sz) := by
  refine kOpen (y := yX5_litOf) (ws := wsX5_litOf) (cc := cX5_litOf) (maxL := 2) (ret := (some .int)) (av := [.ref (ra 0), .int (nI k)]) (Bs := [mW cy ra (al, T)]) (Qc := fun A => (va_Qi (fun r_ (u_ : Unit) => r_ = nI (min k (oi / 2))) (fun (u_ : Unit) t9 => kEnd D (kT cy) A [mW cy ra (al, T)] t9) A)) (by decide) rfl (Nat.le_of_ble_eq_true rfl) ?_
  intro p e s m args below meth c A Q ls hQ hx hb hml hr hlocks hin hts hown hN hK hP hD hS hA hsz hAe hl
  clear hAe
  have hl : lv_has ls 2 [(0, .ref (ra 0)), (1, .int (nI k))] := hl
  suffices K9 : ∀ (H : Heap) (locs : List Loc), va_P D vwCl (bkF [mW cy ra (al, T)]) H → va_S A s.heap H locs → W p l e (headSpec wsX5_litOf rm_X5_litOf_q).room s m args below meth c H locs 0 0 Q (F0 m 0 ls []) from K9 _ _ hP hS
  clear hP hS
  intro H locs hP hS
  refine lv_iload_n hx hb dX5_litOf_0 rfl (lv_at hl 1 rfl) ?_
  refine lv_aload_n hx hb dX5_litOf_1 rfl (lv_at hl 0 rfl) ?_
  refine va_get (D := D) (ci := 5) (v := .ref (ra 1)) (C := RX5) (T := TX5) (N := 16) hx hb hts (by decide +kernel) hown hK hP 0 rfl rfl 0 (by decide) (hts (.fieldLink RX5 7 "DanceHallModel" "all" "[I") (by decide +kernel)) (fun _ h9 => h9) rfl dX5_litOf_2 ?_
  refine lv_iconst (v := nI 3) hx hb dX5_litOf_5 (by decide) ?_
  refine va_iald hx hb hK hP 1 0 rfl rfl (vp_in_nI (n := 3) (N := 188) (by omega) (by omega)) dX5_litOf_6 ?_
  refine kv_i (y := nI oi) (show (al) (nI 3).toNatClampNeg = nI oi from hal3) ?_
  refine lv_iconst (v := nI 2) hx hb dX5_litOf_7 (by decide) ?_
  refine lv_idiv hx hb dX5_litOf_8 (by decide) ?_
  refine kv_i (y := nI (oi / 2)) (pk_div (by omega) (by omega) (by omega)) ?_
  refine lv_icmp_ge (tgt := 16) hx hb dX5_litOf_9 (by decide) (fun c_9 => ?_) (fun c_9 => ?_)
  · skip
    have c_9 : (oi / 2) ≤ k := (nI_leI (a := oi / 2) (b := k) (by omega) (by omega)).mp c_9
    refine lv_aload_n hx hb dX5_litOf_16 rfl (lv_at hl 0 rfl) ?_
    refine va_get (D := D) (ci := 5) (v := .ref (ra 1)) (C := RX5) (T := TX5) (N := 16) hx hb hts (by decide +kernel) hown hK hP 0 rfl rfl 0 (by decide) (hts (.fieldLink RX5 7 "DanceHallModel" "all" "[I") (by decide +kernel)) (fun _ h9 => h9) rfl dX5_litOf_17 ?_
    refine lv_iconst (v := nI 3) hx hb dX5_litOf_20 (by decide) ?_
    refine va_iald hx hb hK hP 1 0 rfl rfl (vp_in_nI (n := 3) (N := 188) (by omega) (by omega)) dX5_litOf_21 ?_
    refine kv_i (y := nI oi) (show (al) (nI 3).toNatClampNeg = nI oi from hal3) ?_
    refine lv_iconst (v := nI 2) hx hb dX5_litOf_22 (by decide) ?_
    refine lv_idiv hx hb dX5_litOf_23 (by decide) ?_
    refine kv_i (y := nI (oi / 2)) (pk_div (by omega) (by omega) (by omega)) ?_
    exact kr_i (post := fun r_ (u_ : Unit) => r_ = nI (min k (oi / 2))) (Bs := fun u_ : Unit => [mW cy ra (al, T)]) hx hb hr hlocks rfl () hP hK hD hS (congrArg nI (by omega)) dX5_litOf_24 hQ
  · skip
    have c_9 : ¬ ((oi / 2) ≤ k) := fun h => c_9 ((nI_leI (a := oi / 2) (b := k) (by omega) (by omega)).mpr h)
    refine lv_iload_n hx hb dX5_litOf_12 rfl (lv_at hl 1 rfl) ?_
    refine lv_goto (tgt := 24) hx hb dX5_litOf_13 (by decide) ?_
    exact kr_i (post := fun r_ (u_ : Unit) => r_ = nI (min k (oi / 2))) (Bs := fun u_ : Unit => [mW cy ra (al, T)]) hx hb hr hlocks rfl () hP hK hD hS (congrArg nI (by omega)) dX5_litOf_24 hQ
abbrev rm_X5_pays_t : Room := { frames := 1, cells := 0, slots := 0, locals := 21 }
set_option maxHeartbeats 1000000 in
set_option maxRecDepth 100000 in
/-- pays -/
theorem c_X5_pays_t (l : Launch) (D : va_G) (cy : Nat → ClassId) (ra : Nat → Nat) (X : rS) (tL : Nat → Nat) (tF : Nat → Nat) (cp : Nat) (T : rV) (i : Nat) (hi : i < X.2.1.2.2.2.2.2) (hn : X.2.1.2.2.2.2.2 ≤ 8) (sz : Nat) : Met l yX5_pays wsX5_pays rm_X5_pays_t (va_Pc [.ref (ra 0), .int (nI i)] (kPre D (kT cy) [mW cy ra (kEq X tL tF cp, T)] sz)) (va_Qv (fun u_ : Unit => True) (kFr D (kT cy) [mW cy ra (kEq X tL tF cp, T)] sz (fun u_ : Unit => [mW cy ra (kEq (kPyL i X) (kuN tL i (tL i + 1)) tF cp, T)])) (va_A (bkF [mW cy ra (kEq X tL tF cp, T)]) sz)) 0 0 (va_A (bkF [mW cy ra (kEq X tL tF cp, T)]) sz) := by
  refine kOpen (y := yX5_pays) (ws := wsX5_pays) (cc := cX5_pays) (maxL := 2) (ret := none) (av := [.ref (ra 0), .int (nI i)]) (Bs := [mW cy ra (kEq X tL tF cp, T)]) (Qc := fun A => (va_Qv (fun u_ : Unit => True) (fun (u_ : Unit) t9 => kEnd D (kT cy) A [mW cy ra (kEq (kPyL i X) (kuN tL i (tL i + 1)) tF cp, T)] t9) A)) (by decide) rfl (Nat.le_of_ble_eq_true rfl) ?_
  intro p e s m args below meth c A Q ls hQ hx hb hml hr hlocks hin hts hown hN hK hP hD hS hA hsz hAe hl
  clear hAe
  have hl : lv_has ls 2 [(0, .ref (ra 0)), (1, .int (nI i))] := hl
  suffices K9 : ∀ (H : Heap) (locs : List Loc), va_P D vwCl (bkF [mW cy ra (kEq X tL tF cp, T)]) H → va_S A s.heap H locs → W p l e (headSpec wsX5_pays rm_X5_pays_t).room s m args below meth c H locs 0 0 Q (F0 m 0 ls []) from K9 _ _ hP hS
  clear hP hS
  intro H locs hP hS
  refine lv_aload_n hx hb dX5_pays_0 rfl (lv_at hl 0 rfl) ?_
  refine va_get (D := D) (ci := 5) (v := .ref (ra 1)) (C := RX5) (T := TX5) (N := 16) hx hb hts (by decide +kernel) hown hK hP 0 rfl rfl 0 (by decide) (hts (.fieldLink RX5 7 "DanceHallModel" "all" "[I") (by decide +kernel)) (fun _ h9 => h9) rfl dX5_pays_1 ?_
  refine lv_iload_n hx hb dX5_pays_4 rfl (lv_at hl 1 rfl) ?_
  refine lv_iconst (v := nI 0) hx hb dX5_pays_5 (by decide) ?_
  refine kc_i (Cs := []) (Rs := [mW cy ra (kEq X tL tF cp, T)]) (Bs := [mW cy ra (kEq X tL tF cp, T)]) (Cs' := fun u_ : Unit => []) (Fs := fun u_ : Unit => [mW cy ra (kEq X tL tF cp, T)]) hP hD hS hA [] [0] [0] rfl rfl (by decide) (by decide) (fun _ => rfl) (va_runS (As := [.int (nI i), .int (nI 0)]) (rest := [.ref (ra 1)]) ⟨hx, hb, hml, hown, hts⟩ (c_X5_at l D cy i 0 H.size) (va_cwS 2 hts gX5_pays_X5_at rfl rfl rfl (by decide +kernel) ⟨Nat.le_of_ble_eq_true rfl, Nat.le_of_ble_eq_true rfl⟩) (kPre_S hK hN hP hD [] (by decide) rfl) rfl rfl hl.1 rfl (lv_room (Nat.le_of_ble_eq_true rfl)) dX5_pays_6 ⟨Nat.le_of_ble_eq_true rfl, Nat.le_of_ble_eq_true rfl⟩) (fun r_ u_ H locs hw hP hD hS => ?_)
  have hw : r_ = nI (92 + 6 * i + 0) := hw
  subst hw
  refine lv_dup2_11 hx hb dX5_pays_9 rfl rfl ?_
  refine va_iald hx hb hK hP 1 0 rfl rfl (vp_in_nI (n := 92 + 6 * i + 0) (N := 188) (by omega) (by omega)) dX5_pays_10 ?_
  refine kv_i (y := X.2.1.1 i) (by rw [nI_clamp (n := 92 + 6 * i + 0) (by omega)]; exact ((kq_L (by omega) (by decide)).trans (if_pos hi))) ?_
  refine lv_iconst (v := nI 1) hx hb dX5_pays_11 (by decide) ?_
  refine lv_isub hx hb dX5_pays_12 ?_
  refine va_iast hx hb hK hP hD hS 1 0 rfl rfl (vp_in_nI (n := 92 + 6 * i + 0) (N := 188) (by omega) (by omega)) dX5_pays_13 (fun H locs hP hD hS => ?_)
  rw [nI_clamp (n := 92 + 6 * i + 0) (by omega)] at hP hD
  have hP : va_P D vwCl (bkF [mW cy ra (upd (kEq X tL tF cp) (92 + 6 * i + 0) ((X.2.1.1 i) - (nI 1)), T)]) H := hP
  have hD : va_D A (bkF [mW cy ra (upd (kEq X tL tF cp) (92 + 6 * i + 0) ((X.2.1.1 i) - (nI 1)), T)]) := hD
  have hP := kP_cell (g := (kEq (X.1, (upd X.2.1.1 i (X.2.1.1 i - nI 1), X.2.1.2), X.2.2) tL tF cp)) hP 1 rfl (fun j hj => kqu_L0 hi hn j hj)
  have hD := hD.set (p := 1) (e := .inl (cy 0, 188, .inl (kEq (X.1, (upd X.2.1.1 i (X.2.1.1 i - nI 1), X.2.1.2), X.2.2) tL tF cp))) rfl
  have hP : va_P D vwCl (bkF [mW cy ra (kEq (X.1, (upd X.2.1.1 i (X.2.1.1 i - nI 1), X.2.1.2), X.2.2) tL tF cp, T)]) H := hP
  have hD : va_D A (bkF [mW cy ra (kEq (X.1, (upd X.2.1.1 i (X.2.1.1 i - nI 1), X.2.1.2), X.2.2) tL tF cp, T)]) := hD
  refine lv_aload_n hx hb dX5_pays_14 rfl (lv_at hl 0 rfl) ?_
  refine va_get (D := D) (ci := 5) (v := .ref (ra 1)) (C := RX5) (T := TX5) (N := 16) hx hb hts (by decide +kernel) hown hK hP 0 rfl rfl 0 (by decide) (hts (.fieldLink RX5 7 "DanceHallModel" "all" "[I") (by decide +kernel)) (fun _ h9 => h9) rfl dX5_pays_15 ?_
  refine lv_iload_n hx hb dX5_pays_18 rfl (lv_at hl 1 rfl) ?_
  refine lv_iconst (v := nI 4) hx hb dX5_pays_19 (by decide) ?_
  refine kc_i (Cs := []) (Rs := [mW cy ra (kEq (X.1, (upd X.2.1.1 i (X.2.1.1 i - nI 1), X.2.1.2), X.2.2) tL tF cp, T)]) (Bs := [mW cy ra (kEq (X.1, (upd X.2.1.1 i (X.2.1.1 i - nI 1), X.2.1.2), X.2.2) tL tF cp, T)]) (Cs' := fun u_ : Unit => []) (Fs := fun u_ : Unit => [mW cy ra (kEq (X.1, (upd X.2.1.1 i (X.2.1.1 i - nI 1), X.2.1.2), X.2.2) tL tF cp, T)]) hP hD hS hA [] [0] [0] rfl rfl (by decide) (by decide) (fun _ => rfl) (va_runS (As := [.int (nI i), .int (nI 4)]) (rest := [.ref (ra 1)]) ⟨hx, hb, hml, hown, hts⟩ (c_X5_at l D cy i 4 H.size) (va_cwS 2 hts gX5_pays_X5_at rfl rfl rfl (by decide +kernel) ⟨Nat.le_of_ble_eq_true rfl, Nat.le_of_ble_eq_true rfl⟩) (kPre_S hK hN hP hD [] (by decide) rfl) rfl rfl hl.1 rfl (lv_room (Nat.le_of_ble_eq_true rfl)) dX5_pays_20 ⟨Nat.le_of_ble_eq_true rfl, Nat.le_of_ble_eq_true rfl⟩) (fun r_ u_ H locs hw hP hD hS => ?_)
  have hw : r_ = nI (92 + 6 * i + 4) := hw
  subst hw
  refine lv_dup2_11 hx hb dX5_pays_23 rfl rfl ?_
  refine va_iald hx hb hK hP 1 0 rfl rfl (vp_in_nI (n := 92 + 6 * i + 4) (N := 188) (by omega) (by omega)) dX5_pays_24 ?_
  refine kv_i (y := nI (tL i)) (by rw [nI_clamp (n := 92 + 6 * i + 4) (by omega)]; exact ((kq_L (by omega) (by decide)).trans (if_pos hi))) ?_
  refine lv_iconst (v := nI 1) hx hb dX5_pays_25 (by decide) ?_
  refine lv_iadd hx hb dX5_pays_26 ?_
  refine kv_i (y := nI ((tL i) + 1)) (nI_add (tL i) 1) ?_
  refine va_iast hx hb hK hP hD hS 1 0 rfl rfl (vp_in_nI (n := 92 + 6 * i + 4) (N := 188) (by omega) (by omega)) dX5_pays_27 (fun H locs hP hD hS => ?_)
  rw [nI_clamp (n := 92 + 6 * i + 4) (by omega)] at hP hD
  have hP : va_P D vwCl (bkF [mW cy ra (upd (kEq (X.1, (upd X.2.1.1 i (X.2.1.1 i - nI 1), X.2.1.2), X.2.2) tL tF cp) (92 + 6 * i + 4) (nI ((tL i) + 1)), T)]) H := hP
  have hD : va_D A (bkF [mW cy ra (upd (kEq (X.1, (upd X.2.1.1 i (X.2.1.1 i - nI 1), X.2.1.2), X.2.2) tL tF cp) (92 + 6 * i + 4) (nI ((tL i) + 1)), T)]) := hD
  have hP := kP_cell (g := (kEq (X.1, (upd X.2.1.1 i (X.2.1.1 i - nI 1), X.2.1.2), X.2.2) (kuN tL i (tL i + 1)) tF cp)) hP 1 rfl (fun j hj => kqu_L4 (x := (X.1, (upd X.2.1.1 i (X.2.1.1 i - nI 1), X.2.1.2), X.2.2)) hi hn j hj)
  have hD := hD.set (p := 1) (e := .inl (cy 0, 188, .inl (kEq (X.1, (upd X.2.1.1 i (X.2.1.1 i - nI 1), X.2.1.2), X.2.2) (kuN tL i (tL i + 1)) tF cp))) rfl
  have hP : va_P D vwCl (bkF [mW cy ra (kEq (X.1, (upd X.2.1.1 i (X.2.1.1 i - nI 1), X.2.1.2), X.2.2) (kuN tL i (tL i + 1)) tF cp, T)]) H := hP
  have hD : va_D A (bkF [mW cy ra (kEq (X.1, (upd X.2.1.1 i (X.2.1.1 i - nI 1), X.2.1.2), X.2.2) (kuN tL i (tL i + 1)) tF cp, T)]) := hD
  refine lv_aload_n hx hb dX5_pays_28 rfl (lv_at hl 0 rfl) ?_
  refine va_get (D := D) (ci := 5) (v := .ref (ra 1)) (C := RX5) (T := TX5) (N := 16) hx hb hts (by decide +kernel) hown hK hP 0 rfl rfl 0 (by decide) (hts (.fieldLink RX5 7 "DanceHallModel" "all" "[I") (by decide +kernel)) (fun _ h9 => h9) rfl dX5_pays_29 ?_
  refine lv_iload_n hx hb dX5_pays_32 rfl (lv_at hl 1 rfl) ?_
  refine lv_iconst (v := nI 5) hx hb dX5_pays_33 (by decide) ?_
  refine kc_i (Cs := []) (Rs := [mW cy ra (kEq (X.1, (upd X.2.1.1 i (X.2.1.1 i - nI 1), X.2.1.2), X.2.2) (kuN tL i (tL i + 1)) tF cp, T)]) (Bs := [mW cy ra (kEq (X.1, (upd X.2.1.1 i (X.2.1.1 i - nI 1), X.2.1.2), X.2.2) (kuN tL i (tL i + 1)) tF cp, T)]) (Cs' := fun u_ : Unit => []) (Fs := fun u_ : Unit => [mW cy ra (kEq (X.1, (upd X.2.1.1 i (X.2.1.1 i - nI 1), X.2.1.2), X.2.2) (kuN tL i (tL i + 1)) tF cp, T)]) hP hD hS hA [] [0] [0] rfl rfl (by decide) (by decide) (fun _ => rfl) (va_runS (As := [.int (nI i), .int (nI 5)]) (rest := [.ref (ra 1)]) ⟨hx, hb, hml, hown, hts⟩ (c_X5_at l D cy i 5 H.size) (va_cwS 2 hts gX5_pays_X5_at rfl rfl rfl (by decide +kernel) ⟨Nat.le_of_ble_eq_true rfl, Nat.le_of_ble_eq_true rfl⟩) (kPre_S hK hN hP hD [] (by decide) rfl) rfl rfl hl.1 rfl (lv_room (Nat.le_of_ble_eq_true rfl)) dX5_pays_34 ⟨Nat.le_of_ble_eq_true rfl, Nat.le_of_ble_eq_true rfl⟩) (fun r_ u_ H locs hw hP hD hS => ?_)
  have hw : r_ = nI (92 + 6 * i + 5) := hw
  subst hw
  refine lv_dup2_11 hx hb dX5_pays_37 rfl rfl ?_
  refine va_iald hx hb hK hP 1 0 rfl rfl (vp_in_nI (n := 92 + 6 * i + 5) (N := 188) (by omega) (by omega)) dX5_pays_38 ?_
  refine kv_i (y := X.2.1.2.2.2.2.1 i) (by rw [nI_clamp (n := 92 + 6 * i + 5) (by omega)]; exact ((kq_L (by omega) (by decide)).trans (if_pos hi))) ?_
  refine lv_iconst (v := nI 1) hx hb dX5_pays_39 (by decide) ?_
  refine lv_iadd hx hb dX5_pays_40 ?_
  refine va_iast hx hb hK hP hD hS 1 0 rfl rfl (vp_in_nI (n := 92 + 6 * i + 5) (N := 188) (by omega) (by omega)) dX5_pays_41 (fun H locs hP hD hS => ?_)
  rw [nI_clamp (n := 92 + 6 * i + 5) (by omega)] at hP hD
  have hP : va_P D vwCl (bkF [mW cy ra (upd (kEq (X.1, (upd X.2.1.1 i (X.2.1.1 i - nI 1), X.2.1.2), X.2.2) (kuN tL i (tL i + 1)) tF cp) (92 + 6 * i + 5) ((X.2.1.2.2.2.2.1 i) + (nI 1)), T)]) H := hP
  have hD : va_D A (bkF [mW cy ra (upd (kEq (X.1, (upd X.2.1.1 i (X.2.1.1 i - nI 1), X.2.1.2), X.2.2) (kuN tL i (tL i + 1)) tF cp) (92 + 6 * i + 5) ((X.2.1.2.2.2.2.1 i) + (nI 1)), T)]) := hD
  have hP := kP_cell (g := (kEq (X.1, (upd X.2.1.1 i (X.2.1.1 i - nI 1), X.2.1.2.1, X.2.1.2.2.1, X.2.1.2.2.2.1, upd X.2.1.2.2.2.2.1 i (X.2.1.2.2.2.2.1 i + nI 1), X.2.1.2.2.2.2.2), X.2.2) (kuN tL i (tL i + 1)) tF cp)) hP 1 rfl (fun j hj => kqu_L5 (x := (X.1, (upd X.2.1.1 i (X.2.1.1 i - nI 1), X.2.1.2), X.2.2)) hi hn j hj)
  have hD := hD.set (p := 1) (e := .inl (cy 0, 188, .inl (kEq (X.1, (upd X.2.1.1 i (X.2.1.1 i - nI 1), X.2.1.2.1, X.2.1.2.2.1, X.2.1.2.2.2.1, upd X.2.1.2.2.2.2.1 i (X.2.1.2.2.2.2.1 i + nI 1), X.2.1.2.2.2.2.2), X.2.2) (kuN tL i (tL i + 1)) tF cp))) rfl
  have hP : va_P D vwCl (bkF [mW cy ra (kEq (X.1, (upd X.2.1.1 i (X.2.1.1 i - nI 1), X.2.1.2.1, X.2.1.2.2.1, X.2.1.2.2.2.1, upd X.2.1.2.2.2.2.1 i (X.2.1.2.2.2.2.1 i + nI 1), X.2.1.2.2.2.2.2), X.2.2) (kuN tL i (tL i + 1)) tF cp, T)]) H := hP
  have hD : va_D A (bkF [mW cy ra (kEq (X.1, (upd X.2.1.1 i (X.2.1.1 i - nI 1), X.2.1.2.1, X.2.1.2.2.1, X.2.1.2.2.2.1, upd X.2.1.2.2.2.2.1 i (X.2.1.2.2.2.2.1 i + nI 1), X.2.1.2.2.2.2.2), X.2.2) (kuN tL i (tL i + 1)) tF cp, T)]) := hD
  refine lv_aload_n hx hb dX5_pays_42 rfl (lv_at hl 0 rfl) ?_
  refine va_get (D := D) (ci := 5) (v := .ref (ra 1)) (C := RX5) (T := TX5) (N := 16) hx hb hts (by decide +kernel) hown hK hP 0 rfl rfl 0 (by decide) (hts (.fieldLink RX5 7 "DanceHallModel" "all" "[I") (by decide +kernel)) (fun _ h9 => h9) rfl dX5_pays_43 ?_
  refine lv_bipush (v := nI 7) hx hb dX5_pays_46 (by decide) ?_
  refine lv_dup2_11 hx hb dX5_pays_48 rfl rfl ?_
  refine va_iald hx hb hK hP 1 0 rfl rfl (vp_in_nI (n := 7) (N := 188) (by omega) (by omega)) dX5_pays_49 ?_
  refine kv_i (y := X.1.2.2.2.2.1) (show ((kEq (X.1, (upd X.2.1.1 i (X.2.1.1 i - nI 1), X.2.1.2.1, X.2.1.2.2.1, X.2.1.2.2.2.1, upd X.2.1.2.2.2.2.1 i (X.2.1.2.2.2.2.1 i + nI 1), X.2.1.2.2.2.2.2), X.2.2) (kuN tL i (tL i + 1)) tF cp)) (nI 7).toNatClampNeg = X.1.2.2.2.2.1 from rfl) ?_
  refine lv_iconst (v := nI 1) hx hb dX5_pays_50 (by decide) ?_
  refine lv_iadd hx hb dX5_pays_51 ?_
  refine va_iast hx hb hK hP hD hS 1 0 rfl rfl (vp_in_nI (n := 7) (N := 188) (by omega) (by omega)) dX5_pays_52 (fun H locs hP hD hS => ?_)
  have hP : va_P D vwCl (bkF [mW cy ra (upd (kEq (X.1, (upd X.2.1.1 i (X.2.1.1 i - nI 1), X.2.1.2.1, X.2.1.2.2.1, X.2.1.2.2.2.1, upd X.2.1.2.2.2.2.1 i (X.2.1.2.2.2.2.1 i + nI 1), X.2.1.2.2.2.2.2), X.2.2) (kuN tL i (tL i + 1)) tF cp) 7 (X.1.2.2.2.2.1 + (nI 1)), T)]) H := hP
  have hD : va_D A (bkF [mW cy ra (upd (kEq (X.1, (upd X.2.1.1 i (X.2.1.1 i - nI 1), X.2.1.2.1, X.2.1.2.2.1, X.2.1.2.2.2.1, upd X.2.1.2.2.2.2.1 i (X.2.1.2.2.2.2.1 i + nI 1), X.2.1.2.2.2.2.2), X.2.2) (kuN tL i (tL i + 1)) tF cp) 7 (X.1.2.2.2.2.1 + (nI 1)), T)]) := hD
  have hP := kP_cell (g := (kEq (kPyL i X) (kuN tL i (tL i + 1)) tF cp)) hP 1 rfl (fun j hj => (kqu_C (C' := (X.1.1, X.1.2.1, X.1.2.2.1, X.1.2.2.2.1, X.1.2.2.2.2.1 + nI 1, X.1.2.2.2.2.2)) (i := 7) (by decide) rfl (fun j9 hj9 hne => by rcases k11 hj9 with rfl | rfl | rfl | rfl | rfl | rfl | rfl | rfl | rfl | rfl | rfl <;> first | rfl | exact absurd rfl hne)) j hj)
  have hD := hD.set (p := 1) (e := .inl (cy 0, 188, .inl (kEq (kPyL i X) (kuN tL i (tL i + 1)) tF cp))) rfl
  have hP : va_P D vwCl (bkF [mW cy ra (kEq (kPyL i X) (kuN tL i (tL i + 1)) tF cp, T)]) H := hP
  have hD : va_D A (bkF [mW cy ra (kEq (kPyL i X) (kuN tL i (tL i + 1)) tF cp, T)]) := hD
  exact kr_v (post := fun u_ : Unit => True) (Bs := fun u_ : Unit => [mW cy ra (kEq (kPyL i X) (kuN tL i (tL i + 1)) tF cp, T)]) hx hb hr hlocks () hP hK hD hS trivial dX5_pays_53 hQ
abbrev rm_X5_pays_f : Room := { frames := 1, cells := 0, slots := 0, locals := 21 }
set_option maxHeartbeats 1000000 in
set_option maxRecDepth 100000 in
/-- pays -/
theorem c_X5_pays_f (l : Launch) (D : va_G) (cy : Nat → ClassId) (ra : Nat → Nat) (X : rS) (tL : Nat → Nat) (tF : Nat → Nat) (cp : Nat) (T : rV) (i : Nat) (hi : i < X.2.2.1.2.2.2.2.2) (hn : X.2.2.1.2.2.2.2.2 ≤ 8) (sz : Nat) : Met l yX5_pays wsX5_pays rm_X5_pays_f (va_Pc [.ref (ra 0), .int (nI (8 + i))] (kPre D (kT cy) [mW cy ra (kEq X tL tF cp, T)] sz)) (va_Qv (fun u_ : Unit => True) (kFr D (kT cy) [mW cy ra (kEq X tL tF cp, T)] sz (fun u_ : Unit => [mW cy ra (kEq (kPyF i X) tL (kuN tF i (tF i + 1)) cp, T)])) (va_A (bkF [mW cy ra (kEq X tL tF cp, T)]) sz)) 0 0 (va_A (bkF [mW cy ra (kEq X tL tF cp, T)]) sz) := by
  refine kOpen (y := yX5_pays) (ws := wsX5_pays) (cc := cX5_pays) (maxL := 2) (ret := none) (av := [.ref (ra 0), .int (nI (8 + i))]) (Bs := [mW cy ra (kEq X tL tF cp, T)]) (Qc := fun A => (va_Qv (fun u_ : Unit => True) (fun (u_ : Unit) t9 => kEnd D (kT cy) A [mW cy ra (kEq (kPyF i X) tL (kuN tF i (tF i + 1)) cp, T)] t9) A)) (by decide) rfl (Nat.le_of_ble_eq_true rfl) ?_
  intro p e s m args below meth c A Q ls hQ hx hb hml hr hlocks hin hts hown hN hK hP hD hS hA hsz hAe hl
  clear hAe
  have hl : lv_has ls 2 [(0, .ref (ra 0)), (1, .int (nI (8 + i)))] := hl
  suffices K9 : ∀ (H : Heap) (locs : List Loc), va_P D vwCl (bkF [mW cy ra (kEq X tL tF cp, T)]) H → va_S A s.heap H locs → W p l e (headSpec wsX5_pays rm_X5_pays_f).room s m args below meth c H locs 0 0 Q (F0 m 0 ls []) from K9 _ _ hP hS
  clear hP hS
  intro H locs hP hS
  refine lv_aload_n hx hb dX5_pays_0 rfl (lv_at hl 0 rfl) ?_
  refine va_get (D := D) (ci := 5) (v := .ref (ra 1)) (C := RX5) (T := TX5) (N := 16) hx hb hts (by decide +kernel) hown hK hP 0 rfl rfl 0 (by decide) (hts (.fieldLink RX5 7 "DanceHallModel" "all" "[I") (by decide +kernel)) (fun _ h9 => h9) rfl dX5_pays_1 ?_
  refine lv_iload_n hx hb dX5_pays_4 rfl (lv_at hl 1 rfl) ?_
  refine lv_iconst (v := nI 0) hx hb dX5_pays_5 (by decide) ?_
  refine kc_i (Cs := []) (Rs := [mW cy ra (kEq X tL tF cp, T)]) (Bs := [mW cy ra (kEq X tL tF cp, T)]) (Cs' := fun u_ : Unit => []) (Fs := fun u_ : Unit => [mW cy ra (kEq X tL tF cp, T)]) hP hD hS hA [] [0] [0] rfl rfl (by decide) (by decide) (fun _ => rfl) (va_runS (As := [.int (nI (8 + i)), .int (nI 0)]) (rest := [.ref (ra 1)]) ⟨hx, hb, hml, hown, hts⟩ (c_X5_at l D cy (8 + i) 0 H.size) (va_cwS 2 hts gX5_pays_X5_at rfl rfl rfl (by decide +kernel) ⟨Nat.le_of_ble_eq_true rfl, Nat.le_of_ble_eq_true rfl⟩) (kPre_S hK hN hP hD [] (by decide) rfl) rfl rfl hl.1 rfl (lv_room (Nat.le_of_ble_eq_true rfl)) dX5_pays_6 ⟨Nat.le_of_ble_eq_true rfl, Nat.le_of_ble_eq_true rfl⟩) (fun r_ u_ H locs hw hP hD hS => ?_)
  have hw : r_ = nI (92 + 6 * (8 + i) + 0) := hw
  subst hw
  refine lv_dup2_11 hx hb dX5_pays_9 rfl rfl ?_
  refine va_iald hx hb hK hP 1 0 rfl rfl (vp_in_nI (n := 92 + 6 * (8 + i) + 0) (N := 188) (by omega) (by omega)) dX5_pays_10 ?_
  refine kv_i (y := X.2.2.1.1 i) (by rw [nI_clamp (n := 92 + 6 * (8 + i) + 0) (by omega)]; exact ((kq_F (by decide)).trans (if_pos hi))) ?_
  refine lv_iconst (v := nI 1) hx hb dX5_pays_11 (by decide) ?_
  refine lv_isub hx hb dX5_pays_12 ?_
  refine va_iast hx hb hK hP hD hS 1 0 rfl rfl (vp_in_nI (n := 92 + 6 * (8 + i) + 0) (N := 188) (by omega) (by omega)) dX5_pays_13 (fun H locs hP hD hS => ?_)
  rw [nI_clamp (n := 92 + 6 * (8 + i) + 0) (by omega)] at hP hD
  have hP : va_P D vwCl (bkF [mW cy ra (upd (kEq X tL tF cp) (92 + 6 * (8 + i) + 0) ((X.2.2.1.1 i) - (nI 1)), T)]) H := hP
  have hD : va_D A (bkF [mW cy ra (upd (kEq X tL tF cp) (92 + 6 * (8 + i) + 0) ((X.2.2.1.1 i) - (nI 1)), T)]) := hD
  have hP := kP_cell (g := (kEq (X.1, X.2.1, (upd X.2.2.1.1 i (X.2.2.1.1 i - nI 1), X.2.2.1.2), X.2.2.2) tL tF cp)) hP 1 rfl (fun j hj => kqu_F0 hi hn j hj)
  have hD := hD.set (p := 1) (e := .inl (cy 0, 188, .inl (kEq (X.1, X.2.1, (upd X.2.2.1.1 i (X.2.2.1.1 i - nI 1), X.2.2.1.2), X.2.2.2) tL tF cp))) rfl
  have hP : va_P D vwCl (bkF [mW cy ra (kEq (X.1, X.2.1, (upd X.2.2.1.1 i (X.2.2.1.1 i - nI 1), X.2.2.1.2), X.2.2.2) tL tF cp, T)]) H := hP
  have hD : va_D A (bkF [mW cy ra (kEq (X.1, X.2.1, (upd X.2.2.1.1 i (X.2.2.1.1 i - nI 1), X.2.2.1.2), X.2.2.2) tL tF cp, T)]) := hD
  refine lv_aload_n hx hb dX5_pays_14 rfl (lv_at hl 0 rfl) ?_
  refine va_get (D := D) (ci := 5) (v := .ref (ra 1)) (C := RX5) (T := TX5) (N := 16) hx hb hts (by decide +kernel) hown hK hP 0 rfl rfl 0 (by decide) (hts (.fieldLink RX5 7 "DanceHallModel" "all" "[I") (by decide +kernel)) (fun _ h9 => h9) rfl dX5_pays_15 ?_
  refine lv_iload_n hx hb dX5_pays_18 rfl (lv_at hl 1 rfl) ?_
  refine lv_iconst (v := nI 4) hx hb dX5_pays_19 (by decide) ?_
  refine kc_i (Cs := []) (Rs := [mW cy ra (kEq (X.1, X.2.1, (upd X.2.2.1.1 i (X.2.2.1.1 i - nI 1), X.2.2.1.2), X.2.2.2) tL tF cp, T)]) (Bs := [mW cy ra (kEq (X.1, X.2.1, (upd X.2.2.1.1 i (X.2.2.1.1 i - nI 1), X.2.2.1.2), X.2.2.2) tL tF cp, T)]) (Cs' := fun u_ : Unit => []) (Fs := fun u_ : Unit => [mW cy ra (kEq (X.1, X.2.1, (upd X.2.2.1.1 i (X.2.2.1.1 i - nI 1), X.2.2.1.2), X.2.2.2) tL tF cp, T)]) hP hD hS hA [] [0] [0] rfl rfl (by decide) (by decide) (fun _ => rfl) (va_runS (As := [.int (nI (8 + i)), .int (nI 4)]) (rest := [.ref (ra 1)]) ⟨hx, hb, hml, hown, hts⟩ (c_X5_at l D cy (8 + i) 4 H.size) (va_cwS 2 hts gX5_pays_X5_at rfl rfl rfl (by decide +kernel) ⟨Nat.le_of_ble_eq_true rfl, Nat.le_of_ble_eq_true rfl⟩) (kPre_S hK hN hP hD [] (by decide) rfl) rfl rfl hl.1 rfl (lv_room (Nat.le_of_ble_eq_true rfl)) dX5_pays_20 ⟨Nat.le_of_ble_eq_true rfl, Nat.le_of_ble_eq_true rfl⟩) (fun r_ u_ H locs hw hP hD hS => ?_)
  have hw : r_ = nI (92 + 6 * (8 + i) + 4) := hw
  subst hw
  refine lv_dup2_11 hx hb dX5_pays_23 rfl rfl ?_
  refine va_iald hx hb hK hP 1 0 rfl rfl (vp_in_nI (n := 92 + 6 * (8 + i) + 4) (N := 188) (by omega) (by omega)) dX5_pays_24 ?_
  refine kv_i (y := nI (tF i)) (by rw [nI_clamp (n := 92 + 6 * (8 + i) + 4) (by omega)]; exact ((kq_F (by decide)).trans (if_pos hi))) ?_
  refine lv_iconst (v := nI 1) hx hb dX5_pays_25 (by decide) ?_
  refine lv_iadd hx hb dX5_pays_26 ?_
  refine kv_i (y := nI ((tF i) + 1)) (nI_add (tF i) 1) ?_
  refine va_iast hx hb hK hP hD hS 1 0 rfl rfl (vp_in_nI (n := 92 + 6 * (8 + i) + 4) (N := 188) (by omega) (by omega)) dX5_pays_27 (fun H locs hP hD hS => ?_)
  rw [nI_clamp (n := 92 + 6 * (8 + i) + 4) (by omega)] at hP hD
  have hP : va_P D vwCl (bkF [mW cy ra (upd (kEq (X.1, X.2.1, (upd X.2.2.1.1 i (X.2.2.1.1 i - nI 1), X.2.2.1.2), X.2.2.2) tL tF cp) (92 + 6 * (8 + i) + 4) (nI ((tF i) + 1)), T)]) H := hP
  have hD : va_D A (bkF [mW cy ra (upd (kEq (X.1, X.2.1, (upd X.2.2.1.1 i (X.2.2.1.1 i - nI 1), X.2.2.1.2), X.2.2.2) tL tF cp) (92 + 6 * (8 + i) + 4) (nI ((tF i) + 1)), T)]) := hD
  have hP := kP_cell (g := (kEq (X.1, X.2.1, (upd X.2.2.1.1 i (X.2.2.1.1 i - nI 1), X.2.2.1.2), X.2.2.2) tL (kuN tF i (tF i + 1)) cp)) hP 1 rfl (fun j hj => kqu_F4 (x := (X.1, X.2.1, (upd X.2.2.1.1 i (X.2.2.1.1 i - nI 1), X.2.2.1.2), X.2.2.2)) hi hn j hj)
  have hD := hD.set (p := 1) (e := .inl (cy 0, 188, .inl (kEq (X.1, X.2.1, (upd X.2.2.1.1 i (X.2.2.1.1 i - nI 1), X.2.2.1.2), X.2.2.2) tL (kuN tF i (tF i + 1)) cp))) rfl
  have hP : va_P D vwCl (bkF [mW cy ra (kEq (X.1, X.2.1, (upd X.2.2.1.1 i (X.2.2.1.1 i - nI 1), X.2.2.1.2), X.2.2.2) tL (kuN tF i (tF i + 1)) cp, T)]) H := hP
  have hD : va_D A (bkF [mW cy ra (kEq (X.1, X.2.1, (upd X.2.2.1.1 i (X.2.2.1.1 i - nI 1), X.2.2.1.2), X.2.2.2) tL (kuN tF i (tF i + 1)) cp, T)]) := hD
  refine lv_aload_n hx hb dX5_pays_28 rfl (lv_at hl 0 rfl) ?_
  refine va_get (D := D) (ci := 5) (v := .ref (ra 1)) (C := RX5) (T := TX5) (N := 16) hx hb hts (by decide +kernel) hown hK hP 0 rfl rfl 0 (by decide) (hts (.fieldLink RX5 7 "DanceHallModel" "all" "[I") (by decide +kernel)) (fun _ h9 => h9) rfl dX5_pays_29 ?_
  refine lv_iload_n hx hb dX5_pays_32 rfl (lv_at hl 1 rfl) ?_
  refine lv_iconst (v := nI 5) hx hb dX5_pays_33 (by decide) ?_
  refine kc_i (Cs := []) (Rs := [mW cy ra (kEq (X.1, X.2.1, (upd X.2.2.1.1 i (X.2.2.1.1 i - nI 1), X.2.2.1.2), X.2.2.2) tL (kuN tF i (tF i + 1)) cp, T)]) (Bs := [mW cy ra (kEq (X.1, X.2.1, (upd X.2.2.1.1 i (X.2.2.1.1 i - nI 1), X.2.2.1.2), X.2.2.2) tL (kuN tF i (tF i + 1)) cp, T)]) (Cs' := fun u_ : Unit => []) (Fs := fun u_ : Unit => [mW cy ra (kEq (X.1, X.2.1, (upd X.2.2.1.1 i (X.2.2.1.1 i - nI 1), X.2.2.1.2), X.2.2.2) tL (kuN tF i (tF i + 1)) cp, T)]) hP hD hS hA [] [0] [0] rfl rfl (by decide) (by decide) (fun _ => rfl) (va_runS (As := [.int (nI (8 + i)), .int (nI 5)]) (rest := [.ref (ra 1)]) ⟨hx, hb, hml, hown, hts⟩ (c_X5_at l D cy (8 + i) 5 H.size) (va_cwS 2 hts gX5_pays_X5_at rfl rfl rfl (by decide +kernel) ⟨Nat.le_of_ble_eq_true rfl, Nat.le_of_ble_eq_true rfl⟩) (kPre_S hK hN hP hD [] (by decide) rfl) rfl rfl hl.1 rfl (lv_room (Nat.le_of_ble_eq_true rfl)) dX5_pays_34 ⟨Nat.le_of_ble_eq_true rfl, Nat.le_of_ble_eq_true rfl⟩) (fun r_ u_ H locs hw hP hD hS => ?_)
  have hw : r_ = nI (92 + 6 * (8 + i) + 5) := hw
  subst hw
  refine lv_dup2_11 hx hb dX5_pays_37 rfl rfl ?_
  refine va_iald hx hb hK hP 1 0 rfl rfl (vp_in_nI (n := 92 + 6 * (8 + i) + 5) (N := 188) (by omega) (by omega)) dX5_pays_38 ?_
  refine kv_i (y := X.2.2.1.2.2.2.2.1 i) (by rw [nI_clamp (n := 92 + 6 * (8 + i) + 5) (by omega)]; exact ((kq_F (by decide)).trans (if_pos hi))) ?_
  refine lv_iconst (v := nI 1) hx hb dX5_pays_39 (by decide) ?_
  refine lv_iadd hx hb dX5_pays_40 ?_
  refine va_iast hx hb hK hP hD hS 1 0 rfl rfl (vp_in_nI (n := 92 + 6 * (8 + i) + 5) (N := 188) (by omega) (by omega)) dX5_pays_41 (fun H locs hP hD hS => ?_)
  rw [nI_clamp (n := 92 + 6 * (8 + i) + 5) (by omega)] at hP hD
  have hP : va_P D vwCl (bkF [mW cy ra (upd (kEq (X.1, X.2.1, (upd X.2.2.1.1 i (X.2.2.1.1 i - nI 1), X.2.2.1.2), X.2.2.2) tL (kuN tF i (tF i + 1)) cp) (92 + 6 * (8 + i) + 5) ((X.2.2.1.2.2.2.2.1 i) + (nI 1)), T)]) H := hP
  have hD : va_D A (bkF [mW cy ra (upd (kEq (X.1, X.2.1, (upd X.2.2.1.1 i (X.2.2.1.1 i - nI 1), X.2.2.1.2), X.2.2.2) tL (kuN tF i (tF i + 1)) cp) (92 + 6 * (8 + i) + 5) ((X.2.2.1.2.2.2.2.1 i) + (nI 1)), T)]) := hD
  have hP := kP_cell (g := (kEq (X.1, X.2.1, (upd X.2.2.1.1 i (X.2.2.1.1 i - nI 1), X.2.2.1.2.1, X.2.2.1.2.2.1, X.2.2.1.2.2.2.1, upd X.2.2.1.2.2.2.2.1 i (X.2.2.1.2.2.2.2.1 i + nI 1), X.2.2.1.2.2.2.2.2), X.2.2.2) tL (kuN tF i (tF i + 1)) cp)) hP 1 rfl (fun j hj => kqu_F5 (x := (X.1, X.2.1, (upd X.2.2.1.1 i (X.2.2.1.1 i - nI 1), X.2.2.1.2), X.2.2.2)) hi hn j hj)
  have hD := hD.set (p := 1) (e := .inl (cy 0, 188, .inl (kEq (X.1, X.2.1, (upd X.2.2.1.1 i (X.2.2.1.1 i - nI 1), X.2.2.1.2.1, X.2.2.1.2.2.1, X.2.2.1.2.2.2.1, upd X.2.2.1.2.2.2.2.1 i (X.2.2.1.2.2.2.2.1 i + nI 1), X.2.2.1.2.2.2.2.2), X.2.2.2) tL (kuN tF i (tF i + 1)) cp))) rfl
  have hP : va_P D vwCl (bkF [mW cy ra (kEq (X.1, X.2.1, (upd X.2.2.1.1 i (X.2.2.1.1 i - nI 1), X.2.2.1.2.1, X.2.2.1.2.2.1, X.2.2.1.2.2.2.1, upd X.2.2.1.2.2.2.2.1 i (X.2.2.1.2.2.2.2.1 i + nI 1), X.2.2.1.2.2.2.2.2), X.2.2.2) tL (kuN tF i (tF i + 1)) cp, T)]) H := hP
  have hD : va_D A (bkF [mW cy ra (kEq (X.1, X.2.1, (upd X.2.2.1.1 i (X.2.2.1.1 i - nI 1), X.2.2.1.2.1, X.2.2.1.2.2.1, X.2.2.1.2.2.2.1, upd X.2.2.1.2.2.2.2.1 i (X.2.2.1.2.2.2.2.1 i + nI 1), X.2.2.1.2.2.2.2.2), X.2.2.2) tL (kuN tF i (tF i + 1)) cp, T)]) := hD
  refine lv_aload_n hx hb dX5_pays_42 rfl (lv_at hl 0 rfl) ?_
  refine va_get (D := D) (ci := 5) (v := .ref (ra 1)) (C := RX5) (T := TX5) (N := 16) hx hb hts (by decide +kernel) hown hK hP 0 rfl rfl 0 (by decide) (hts (.fieldLink RX5 7 "DanceHallModel" "all" "[I") (by decide +kernel)) (fun _ h9 => h9) rfl dX5_pays_43 ?_
  refine lv_bipush (v := nI 7) hx hb dX5_pays_46 (by decide) ?_
  refine lv_dup2_11 hx hb dX5_pays_48 rfl rfl ?_
  refine va_iald hx hb hK hP 1 0 rfl rfl (vp_in_nI (n := 7) (N := 188) (by omega) (by omega)) dX5_pays_49 ?_
  refine kv_i (y := X.1.2.2.2.2.1) (show ((kEq (X.1, X.2.1, (upd X.2.2.1.1 i (X.2.2.1.1 i - nI 1), X.2.2.1.2.1, X.2.2.1.2.2.1, X.2.2.1.2.2.2.1, upd X.2.2.1.2.2.2.2.1 i (X.2.2.1.2.2.2.2.1 i + nI 1), X.2.2.1.2.2.2.2.2), X.2.2.2) tL (kuN tF i (tF i + 1)) cp)) (nI 7).toNatClampNeg = X.1.2.2.2.2.1 from rfl) ?_
  refine lv_iconst (v := nI 1) hx hb dX5_pays_50 (by decide) ?_
  refine lv_iadd hx hb dX5_pays_51 ?_
  refine va_iast hx hb hK hP hD hS 1 0 rfl rfl (vp_in_nI (n := 7) (N := 188) (by omega) (by omega)) dX5_pays_52 (fun H locs hP hD hS => ?_)
  have hP : va_P D vwCl (bkF [mW cy ra (upd (kEq (X.1, X.2.1, (upd X.2.2.1.1 i (X.2.2.1.1 i - nI 1), X.2.2.1.2.1, X.2.2.1.2.2.1, X.2.2.1.2.2.2.1, upd X.2.2.1.2.2.2.2.1 i (X.2.2.1.2.2.2.2.1 i + nI 1), X.2.2.1.2.2.2.2.2), X.2.2.2) tL (kuN tF i (tF i + 1)) cp) 7 (X.1.2.2.2.2.1 + (nI 1)), T)]) H := hP
  have hD : va_D A (bkF [mW cy ra (upd (kEq (X.1, X.2.1, (upd X.2.2.1.1 i (X.2.2.1.1 i - nI 1), X.2.2.1.2.1, X.2.2.1.2.2.1, X.2.2.1.2.2.2.1, upd X.2.2.1.2.2.2.2.1 i (X.2.2.1.2.2.2.2.1 i + nI 1), X.2.2.1.2.2.2.2.2), X.2.2.2) tL (kuN tF i (tF i + 1)) cp) 7 (X.1.2.2.2.2.1 + (nI 1)), T)]) := hD
  have hP := kP_cell (g := (kEq (kPyF i X) tL (kuN tF i (tF i + 1)) cp)) hP 1 rfl (fun j hj => (kqu_C (C' := (X.1.1, X.1.2.1, X.1.2.2.1, X.1.2.2.2.1, X.1.2.2.2.2.1 + nI 1, X.1.2.2.2.2.2)) (i := 7) (by decide) rfl (fun j9 hj9 hne => by rcases k11 hj9 with rfl | rfl | rfl | rfl | rfl | rfl | rfl | rfl | rfl | rfl | rfl <;> first | rfl | exact absurd rfl hne)) j hj)
  have hD := hD.set (p := 1) (e := .inl (cy 0, 188, .inl (kEq (kPyF i X) tL (kuN tF i (tF i + 1)) cp))) rfl
  have hP : va_P D vwCl (bkF [mW cy ra (kEq (kPyF i X) tL (kuN tF i (tF i + 1)) cp, T)]) H := hP
  have hD : va_D A (bkF [mW cy ra (kEq (kPyF i X) tL (kuN tF i (tF i + 1)) cp, T)]) := hD
  exact kr_v (post := fun u_ : Unit => True) (Bs := fun u_ : Unit => [mW cy ra (kEq (kPyF i X) tL (kuN tF i (tF i + 1)) cp, T)]) hx hb hr hlocks () hP hK hD hS trivial dX5_pays_53 hQ
abbrev rm_X5_canBe : Room := { frames := 1, cells := 0, slots := 0, locals := 21 }
set_option maxHeartbeats 1000000 in
set_option maxRecDepth 100000 in
/-- canBe -/
theorem c_X5_canBe (l : Launch) (D : va_G) (cy : Nat → ClassId) (ra : Nat → Nat) (X : rS) (T : rV) (hoc : kOkC X.1) (sz : Nat) : Met l yX5_canBe wsX5_canBe rm_X5_canBe (va_Pc [.ref (ra 0)] (kPre D (kT cy) [mW cy ra (kEn X, T)] sz)) (va_Qi (fun r_ (u_ : Unit) => r_ = if kPoss X.1 then nI 1 else nI 0) (kFr D (kT cy) [mW cy ra (kEn X, T)] sz (fun u_ : Unit => [mW cy ra (kEn X, T)])) (va_A (bkF [mW cy ra (kEn X, T)]) sz)) 0 0 (va_A (bkF [mW cy ra (kEn X, T)]) sz) := by
  refine kOpen (y := yX5_canBe) (ws := wsX5_canBe) (cc := cX5_canBe) (maxL := 1) (ret := (some .boolean)) (av := [.ref (ra 0)]) (Bs := [mW cy ra (kEn X, T)]) (Qc := fun A => (va_Qi (fun r_ (u_ : Unit) => r_ = if kPoss X.1 then nI 1 else nI 0) (fun (u_ : Unit) t9 => kEnd D (kT cy) A [mW cy ra (kEn X, T)] t9) A)) (by decide) rfl (Nat.le_of_ble_eq_true rfl) ?_
  intro p e s m args below meth c A Q ls hQ hx hb hml hr hlocks hin hts hown hN hK hP hD hS hA hsz hAe hl
  clear hAe
  have hl : lv_has ls 1 [(0, .ref (ra 0))] := hl
  suffices K9 : ∀ (H : Heap) (locs : List Loc), va_P D vwCl (bkF [mW cy ra (kEn X, T)]) H → va_S A s.heap H locs → W p l e (headSpec wsX5_canBe rm_X5_canBe).room s m args below meth c H locs 0 0 Q (F0 m 0 ls []) from K9 _ _ hP hS
  clear hP hS
  intro H locs hP hS
  refine lv_aload_n hx hb dX5_canBe_0 rfl (lv_at hl 0 rfl) ?_
  refine lv_aload_n hx hb dX5_canBe_1 rfl (lv_at hl 0 rfl) ?_
  refine va_get (D := D) (ci := 5) (v := .ref (ra 1)) (C := RX5) (T := TX5) (N := 16) hx hb hts (by decide +kernel) hown hK hP 0 rfl rfl 0 (by decide) (hts (.fieldLink RX5 7 "DanceHallModel" "all" "[I") (by decide +kernel)) (fun _ h9 => h9) rfl dX5_canBe_2 ?_
  refine lv_iconst (v := nI 2) hx hb dX5_canBe_5 (by decide) ?_
  refine va_iald hx hb hK hP 1 0 rfl rfl (vp_in_nI (n := 2) (N := 188) (by omega) (by omega)) dX5_canBe_6 ?_
  refine kv_i (y := nI X.1.1) (show ((kEn X)) (nI 2).toNatClampNeg = nI X.1.1 from rfl) ?_
  refine kc_i (Cs := [mW cy ra (kEn X, T)]) (Rs := []) (Bs := [mW cy ra (kEn X, T)]) (Cs' := fun u_ : Unit => [mW cy ra (kEn X, T)]) (Fs := fun u_ : Unit => [mW cy ra (kEn X, T)]) hP hD hS hA [0] [] [0] rfl rfl (by decide) (by decide) (fun _ => rfl) (va_runV (As := [.int (nI X.1.1)]) (rest := []) ⟨hx, hb, hml, hown, hts⟩ (c_X5_litOf l D cy ra X T X.1.1 hoc.1 hoc.2.1 H.size) (cwV 1 hts gX5_canBe_X5_litOf rfl rfl rfl (by decide +kernel) ⟨Nat.le_of_ble_eq_true rfl, Nat.le_of_ble_eq_true rfl⟩) (kPre_V (ci := 5) hK hN hP hD [0] (by decide) rfl 0 rfl rfl) rfl rfl hl.1 rfl (lv_room (Nat.le_of_ble_eq_true rfl)) dX5_canBe_7 ⟨Nat.le_of_ble_eq_true rfl, Nat.le_of_ble_eq_true rfl⟩) (fun r_ u_ H locs hw hP hD hS => ?_)
  have hw : r_ = nI (min X.1.1 (X.1.2.1 / 2)) := hw
  subst hw
  have hoc1 := hoc.1
  have hoc3 := hoc.2.2
  refine lv_if_le (tgt := 28) hx hb dX5_canBe_10 (by decide) (fun c_10 => ?_) (fun c_10 => ?_)
  · skip
    have c_10 : (min X.1.1 (X.1.2.1 / 2)) ≤ 0 := (nI_leI (a := min X.1.1 (X.1.2.1 / 2)) (b := 0) (by omega) (by omega)).mp c_10
    refine lv_iconst (v := nI 0) hx hb dX5_canBe_28 (by decide) ?_
    exact kr_i (post := fun r_ (u_ : Unit) => r_ = if kPoss X.1 then nI 1 else nI 0) (Bs := fun u_ : Unit => [mW cy ra (kEn X, T)]) hx hb hr hlocks rfl () hP hK hD hS (if_neg (fun h => h.1 c_10)).symm dX5_canBe_29 hQ
  · skip
    have c_10 : ¬ ((min X.1.1 (X.1.2.1 / 2)) ≤ 0) := fun h => c_10 ((nI_leI (a := min X.1.1 (X.1.2.1 / 2)) (b := 0) (by omega) (by omega)).mpr h)
    refine lv_aload_n hx hb dX5_canBe_13 rfl (lv_at hl 0 rfl) ?_
    refine va_get (D := D) (ci := 5) (v := .ref (ra 1)) (C := RX5) (T := TX5) (N := 16) hx hb hts (by decide +kernel) hown hK hP 0 rfl rfl 0 (by decide) (hts (.fieldLink RX5 7 "DanceHallModel" "all" "[I") (by decide +kernel)) (fun _ h9 => h9) rfl dX5_canBe_14 ?_
    refine lv_iconst (v := nI 5) hx hb dX5_canBe_17 (by decide) ?_
    refine va_iald hx hb hK hP 1 0 rfl rfl (vp_in_nI (n := 5) (N := 188) (by omega) (by omega)) dX5_canBe_18 ?_
    refine kv_i (y := nI X.1.2.2.2.2.2.2.1) (show ((kEn X)) (nI 5).toNatClampNeg = nI X.1.2.2.2.2.2.2.1 from rfl) ?_
    refine lv_bipush (v := nI 30) hx hb dX5_canBe_19 (by decide) ?_
    refine lv_icmp_ge (tgt := 28) hx hb dX5_canBe_21 (by decide) (fun c_21 => ?_) (fun c_21 => ?_)
    · skip
      have c_21 : 30 ≤ X.1.2.2.2.2.2.2.1 := (nI_leI (a := 30) (b := X.1.2.2.2.2.2.2.1) (by omega) (by omega)).mp c_21
      refine lv_iconst (v := nI 0) hx hb dX5_canBe_28 (by decide) ?_
      exact kr_i (post := fun r_ (u_ : Unit) => r_ = if kPoss X.1 then nI 1 else nI 0) (Bs := fun u_ : Unit => [mW cy ra (kEn X, T)]) hx hb hr hlocks rfl () hP hK hD hS (if_neg (fun h => h.2 c_21)).symm dX5_canBe_29 hQ
    · skip
      have c_21 : ¬ (30 ≤ X.1.2.2.2.2.2.2.1) := fun h => c_21 ((nI_leI (a := 30) (b := X.1.2.2.2.2.2.2.1) (by omega) (by omega)).mpr h)
      refine lv_iconst (v := nI 1) hx hb dX5_canBe_24 (by decide) ?_
      refine lv_goto (tgt := 29) hx hb dX5_canBe_25 (by decide) ?_
      exact kr_i (post := fun r_ (u_ : Unit) => r_ = if kPoss X.1 then nI 1 else nI 0) (Bs := fun u_ : Unit => [mW cy ra (kEn X, T)]) hx hb hr hlocks rfl () hP hK hD hS (if_pos ⟨c_10, c_21⟩).symm dX5_canBe_29 hQ
