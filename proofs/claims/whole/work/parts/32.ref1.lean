abbrev rm_X5_in : Room := { frames := 0, cells := 0, slots := 0, locals := 0 }
set_option maxHeartbeats 1000000 in
set_option maxRecDepth 100000 in
/-- in -/
theorem c_X5_in (l : Launch) (D : va_G) (cy : Nat → ClassId) (v : Int64) (lo : Int64) (hi : Int64) (sz : Nat) : Met l yX5_in wsX5_in rm_X5_in (va_Pc [.long v, .long lo, .long hi] (kPre D (kT cy) [] sz)) (va_Qi (fun r_ (u_ : Unit) => r_ = if kIn v lo hi then nI 1 else nI 0) (kFr D (kT cy) [] sz (fun u_ : Unit => [])) (va_A (bkF []) sz)) 0 0 (va_A (bkF []) sz) := by
  refine kOpen (y := yX5_in) (ws := wsX5_in) (cc := cX5_in) (maxL := 6) (ret := (some .boolean)) (av := [.long v, .long lo, .long hi]) (Bs := []) (Qc := fun A => (va_Qi (fun r_ (u_ : Unit) => r_ = if kIn v lo hi then nI 1 else nI 0) (fun (u_ : Unit) t9 => kEnd D (kT cy) A [] t9) A)) (by decide) rfl (Nat.le_of_ble_eq_true rfl) ?_
  intro p e s m args below meth c A Q ls hQ hx hb hml hr hlocks hin hts hown hN hK hP hD hS hA hsz hAe hl
  clear hAe
  have hl : lv_has ls 6 [(0, .long v), (2, .long lo), (4, .long hi)] := hl
  suffices K9 : ∀ (H : Heap) (locs : List Loc), va_P D vwCl (bkF []) H → va_S A s.heap H locs → W p l e (headSpec wsX5_in rm_X5_in).room s m args below meth c H locs 0 0 Q (F0 m 0 ls []) from K9 _ _ hP hS
  clear hP hS
  intro H locs hP hS
  refine lv_lload_n hx hb dX5_in_0 rfl (lv_at hl 0 rfl) ?_
  refine lv_lload_n hx hb dX5_in_1 rfl (lv_at hl 1 rfl) ?_
  refine W.lcmp hx hb dX5_in_2 ?_
  refine lv_if_lt (tgt := 17) hx hb dX5_in_3 (by decide) (fun c_3 => ?_) (fun c_3 => ?_)
  · skip
    refine lv_iconst (v := nI 0) hx hb dX5_in_17 (by decide) ?_
    exact kr_i (post := fun r_ (u_ : Unit) => r_ = if kIn v lo hi then nI 1 else nI 0) (Bs := fun u_ : Unit => []) hx hb hr hlocks rfl () hP hK hD hS (by first | exact (if_pos (by first | assumption | (simp only [c_3]; done) | (constructor <;> assumption) | omega)).symm | exact (if_neg (by first | assumption | omega)).symm | simp [c_3] | (split <;> simp_all)) dX5_in_18 hQ
  · skip
    refine lv_lload_n hx hb dX5_in_6 rfl (lv_at hl 0 rfl) ?_
    refine lv_lload hx hb dX5_in_7 (lv_at hl 2 rfl) ?_
    refine W.lcmp hx hb dX5_in_9 ?_
    refine lv_if_gt (tgt := 17) hx hb dX5_in_10 (by decide) (fun c_10 => ?_) (fun c_10 => ?_)
    · skip
      refine lv_iconst (v := nI 0) hx hb dX5_in_17 (by decide) ?_
      exact kr_i (post := fun r_ (u_ : Unit) => r_ = if kIn v lo hi then nI 1 else nI 0) (Bs := fun u_ : Unit => []) hx hb hr hlocks rfl () hP hK hD hS (by first | exact (if_pos (by first | assumption | (simp only [c_3, c_10]; done) | (constructor <;> assumption) | omega)).symm | exact (if_neg (by first | assumption | omega)).symm | simp [c_3, c_10] | (split <;> simp_all)) dX5_in_18 hQ
    · skip
      refine lv_iconst (v := nI 1) hx hb dX5_in_13 (by decide) ?_
      refine lv_goto (tgt := 18) hx hb dX5_in_14 (by decide) ?_
      exact kr_i (post := fun r_ (u_ : Unit) => r_ = if kIn v lo hi then nI 1 else nI 0) (Bs := fun u_ : Unit => []) hx hb hr hlocks rfl () hP hK hD hS (by first | exact (if_pos (by first | assumption | (simp only [c_3, c_10]; done) | (constructor <;> assumption) | omega)).symm | exact (if_neg (by first | assumption | omega)).symm | simp [c_3, c_10] | (split <;> simp_all)) dX5_in_18 hQ
abbrev rm_X5_fine : Room := { frames := 0, cells := 0, slots := 0, locals := 0 }
set_option maxHeartbeats 1000000 in
set_option maxRecDepth 100000 in
/-- fine -/
theorem c_X5_fine (l : Launch) (D : va_G) (cy : Nat → ClassId) (ra : Nat → Nat) (al : Nat → Int32) (T : rV) (v : Int32) (sz : Nat) : Met l yX5_fine wsX5_fine rm_X5_fine (va_Pc [.ref (ra 0), .int v] (kPre D (kT cy) [mW cy ra (al, T)] sz)) (va_Qi (fun r_ (u_ : Unit) => r_ = v) (kFr D (kT cy) [mW cy ra (al, T)] sz (fun u_ : Unit => [mW cy ra (al, (T.1, T.2.1, T.2.2.1, nI 0, T.2.2.2.2))])) (va_A (bkF [mW cy ra (al, T)]) sz)) 0 0 (va_A (bkF [mW cy ra (al, T)]) sz) := by
  refine kOpen (y := yX5_fine) (ws := wsX5_fine) (cc := cX5_fine) (maxL := 2) (ret := (some .int)) (av := [.ref (ra 0), .int v]) (Bs := [mW cy ra (al, T)]) (Qc := fun A => (va_Qi (fun r_ (u_ : Unit) => r_ = v) (fun (u_ : Unit) t9 => kEnd D (kT cy) A [mW cy ra (al, (T.1, T.2.1, T.2.2.1, nI 0, T.2.2.2.2))] t9) A)) (by decide) rfl (Nat.le_of_ble_eq_true rfl) ?_
  intro p e s m args below meth c A Q ls hQ hx hb hml hr hlocks hin hts hown hN hK hP hD hS hA hsz hAe hl
  clear hAe
  have hl : lv_has ls 2 [(0, .ref (ra 0)), (1, .int v)] := hl
  suffices K9 : ∀ (H : Heap) (locs : List Loc), va_P D vwCl (bkF [mW cy ra (al, T)]) H → va_S A s.heap H locs → W p l e (headSpec wsX5_fine rm_X5_fine).room s m args below meth c H locs 0 0 Q (F0 m 0 ls []) from K9 _ _ hP hS
  clear hP hS
  intro H locs hP hS
  refine lv_aload_n hx hb dX5_fine_0 rfl (lv_at hl 0 rfl) ?_
  refine lv_iconst (v := nI 0) hx hb dX5_fine_1 (by decide) ?_
  refine va_put (D := D) (ci := 5) (v := .int (nI 0)) (ty := .int) (C := RX5) (T := TX5) (N := 16) hx hb hts (by decide +kernel) tyX5 tyX5_ok nmX5 hown hK hP hD hS 0 rfl rfl 4 (by decide) (hts (.fieldLink RX5 44 "DanceHallModel" "threw" "I") (by decide +kernel)) (fun _ h9 => h9) rfl (by decide +kernel) rfl rfl (Nat.le_of_ble_eq_true rfl) dX5_fine_2 (fun H locs hP hD hS => ?_)
  have hP : va_P D vwCl (bkF [mW cy ra (al, (T.1, T.2.1, T.2.2.1, nI 0, T.2.2.2.2))]) H := hP
  have hD : va_D A (bkF [mW cy ra (al, (T.1, T.2.1, T.2.2.1, nI 0, T.2.2.2.2))]) := hD
  refine lv_iload_n hx hb dX5_fine_5 rfl (lv_at hl 1 rfl) ?_
  exact kr_i (post := fun r_ (u_ : Unit) => r_ = v) (Bs := fun u_ : Unit => [mW cy ra (al, (T.1, T.2.1, T.2.2.1, nI 0, T.2.2.2.2))]) hx hb hr hlocks rfl () hP hK hD hS rfl dX5_fine_6 hQ
abbrev rm_X5_throwing : Room := { frames := 0, cells := 0, slots := 0, locals := 0 }
set_option maxHeartbeats 1000000 in
set_option maxRecDepth 100000 in
/-- throwing -/
theorem c_X5_throwing (l : Launch) (D : va_G) (cy : Nat → ClassId) (ra : Nat → Nat) (al : Nat → Int32) (T : rV) (v : Int32) (sz : Nat) : Met l yX5_throwing wsX5_throwing rm_X5_throwing (va_Pc [.ref (ra 0), .int v] (kPre D (kT cy) [mW cy ra (al, T)] sz)) (va_Qi (fun r_ (u_ : Unit) => r_ = nI 0) (kFr D (kT cy) [mW cy ra (al, T)] sz (fun u_ : Unit => [mW cy ra (al, (T.1, T.2.1, T.2.2.1, v, T.2.2.2.2))])) (va_A (bkF [mW cy ra (al, T)]) sz)) 0 0 (va_A (bkF [mW cy ra (al, T)]) sz) := by
  refine kOpen (y := yX5_throwing) (ws := wsX5_throwing) (cc := cX5_throwing) (maxL := 2) (ret := (some .int)) (av := [.ref (ra 0), .int v]) (Bs := [mW cy ra (al, T)]) (Qc := fun A => (va_Qi (fun r_ (u_ : Unit) => r_ = nI 0) (fun (u_ : Unit) t9 => kEnd D (kT cy) A [mW cy ra (al, (T.1, T.2.1, T.2.2.1, v, T.2.2.2.2))] t9) A)) (by decide) rfl (Nat.le_of_ble_eq_true rfl) ?_
  intro p e s m args below meth c A Q ls hQ hx hb hml hr hlocks hin hts hown hN hK hP hD hS hA hsz hAe hl
  clear hAe
  have hl : lv_has ls 2 [(0, .ref (ra 0)), (1, .int v)] := hl
  suffices K9 : ∀ (H : Heap) (locs : List Loc), va_P D vwCl (bkF [mW cy ra (al, T)]) H → va_S A s.heap H locs → W p l e (headSpec wsX5_throwing rm_X5_throwing).room s m args below meth c H locs 0 0 Q (F0 m 0 ls []) from K9 _ _ hP hS
  clear hP hS
  intro H locs hP hS
  refine lv_aload_n hx hb dX5_throwing_0 rfl (lv_at hl 0 rfl) ?_
  refine lv_iload_n hx hb dX5_throwing_1 rfl (lv_at hl 1 rfl) ?_
  refine va_put (D := D) (ci := 5) (v := .int v) (ty := .int) (C := RX5) (T := TX5) (N := 16) hx hb hts (by decide +kernel) tyX5 tyX5_ok nmX5 hown hK hP hD hS 0 rfl rfl 4 (by decide) (hts (.fieldLink RX5 44 "DanceHallModel" "threw" "I") (by decide +kernel)) (fun _ h9 => h9) rfl (by decide +kernel) rfl rfl (Nat.le_of_ble_eq_true rfl) dX5_throwing_2 (fun H locs hP hD hS => ?_)
  have hP : va_P D vwCl (bkF [mW cy ra (al, (T.1, T.2.1, T.2.2.1, v, T.2.2.2.2))]) H := hP
  have hD : va_D A (bkF [mW cy ra (al, (T.1, T.2.1, T.2.2.1, v, T.2.2.2.2))]) := hD
  refine lv_iconst (v := nI 0) hx hb dX5_throwing_5 (by decide) ?_
  exact kr_i (post := fun r_ (u_ : Unit) => r_ = nI 0) (Bs := fun u_ : Unit => [mW cy ra (al, (T.1, T.2.1, T.2.2.1, v, T.2.2.2.2))]) hx hb hr hlocks rfl () hP hK hD hS rfl dX5_throwing_6 hQ
abbrev rm_X5_thrown : Room := { frames := 0, cells := 0, slots := 0, locals := 0 }
set_option maxHeartbeats 1000000 in
set_option maxRecDepth 100000 in
/-- thrown -/
theorem c_X5_thrown (l : Launch) (D : va_G) (cy : Nat → ClassId) (ra : Nat → Nat) (al : Nat → Int32) (T : rV) (sz : Nat) : Met l yX5_thrown wsX5_thrown rm_X5_thrown (va_Pc [.ref (ra 0)] (kPre D (kT cy) [mW cy ra (al, T)] sz)) (va_Qi (fun r_ (u_ : Unit) => r_ = T.2.2.2.1) (kFr D (kT cy) [mW cy ra (al, T)] sz (fun u_ : Unit => [mW cy ra (al, T)])) (va_A (bkF [mW cy ra (al, T)]) sz)) 0 0 (va_A (bkF [mW cy ra (al, T)]) sz) := by
  refine kOpen (y := yX5_thrown) (ws := wsX5_thrown) (cc := cX5_thrown) (maxL := 1) (ret := (some .int)) (av := [.ref (ra 0)]) (Bs := [mW cy ra (al, T)]) (Qc := fun A => (va_Qi (fun r_ (u_ : Unit) => r_ = T.2.2.2.1) (fun (u_ : Unit) t9 => kEnd D (kT cy) A [mW cy ra (al, T)] t9) A)) (by decide) rfl (Nat.le_of_ble_eq_true rfl) ?_
  intro p e s m args below meth c A Q ls hQ hx hb hml hr hlocks hin hts hown hN hK hP hD hS hA hsz hAe hl
  clear hAe
  have hl : lv_has ls 1 [(0, .ref (ra 0))] := hl
  suffices K9 : ∀ (H : Heap) (locs : List Loc), va_P D vwCl (bkF [mW cy ra (al, T)]) H → va_S A s.heap H locs → W p l e (headSpec wsX5_thrown rm_X5_thrown).room s m args below meth c H locs 0 0 Q (F0 m 0 ls []) from K9 _ _ hP hS
  clear hP hS
  intro H locs hP hS
  refine lv_aload_n hx hb dX5_thrown_0 rfl (lv_at hl 0 rfl) ?_
  refine va_get (D := D) (ci := 5) (v := .int T.2.2.2.1) (C := RX5) (T := TX5) (N := 16) hx hb hts (by decide +kernel) hown hK hP 0 rfl rfl 4 (by decide) (hts (.fieldLink RX5 44 "DanceHallModel" "threw" "I") (by decide +kernel)) (fun _ h9 => h9) rfl dX5_thrown_1 ?_
  exact kr_i (post := fun r_ (u_ : Unit) => r_ = T.2.2.2.1) (Bs := fun u_ : Unit => [mW cy ra (al, T)]) hx hb hr hlocks rfl () hP hK hD hS rfl dX5_thrown_4 hQ
abbrev rm_X5_at : Room := { frames := 0, cells := 0, slots := 0, locals := 0 }
set_option maxHeartbeats 1000000 in
set_option maxRecDepth 100000 in
/-- at -/
theorem c_X5_at (l : Launch) (D : va_G) (cy : Nat → ClassId) (pe : Nat) (w : Nat) (sz : Nat) : Met l yX5_at wsX5_at rm_X5_at (va_Pc [.int (nI pe), .int (nI w)] (kPre D (kT cy) [] sz)) (va_Qi (fun r_ (u_ : Unit) => r_ = nI (92 + 6 * pe + w)) (kFr D (kT cy) [] sz (fun u_ : Unit => [])) (va_A (bkF []) sz)) 0 0 (va_A (bkF []) sz) := by
  refine kOpen (y := yX5_at) (ws := wsX5_at) (cc := cX5_at) (maxL := 2) (ret := (some .int)) (av := [.int (nI pe), .int (nI w)]) (Bs := []) (Qc := fun A => (va_Qi (fun r_ (u_ : Unit) => r_ = nI (92 + 6 * pe + w)) (fun (u_ : Unit) t9 => kEnd D (kT cy) A [] t9) A)) (by decide) rfl (Nat.le_of_ble_eq_true rfl) ?_
  intro p e s m args below meth c A Q ls hQ hx hb hml hr hlocks hin hts hown hN hK hP hD hS hA hsz hAe hl
  clear hAe
  have hl : lv_has ls 2 [(0, .int (nI pe)), (1, .int (nI w))] := hl
  suffices K9 : ∀ (H : Heap) (locs : List Loc), va_P D vwCl (bkF []) H → va_S A s.heap H locs → W p l e (headSpec wsX5_at rm_X5_at).room s m args below meth c H locs 0 0 Q (F0 m 0 ls []) from K9 _ _ hP hS
  clear hP hS
  intro H locs hP hS
  refine lv_bipush (v := nI 92) hx hb dX5_at_0 (by decide) ?_
  refine lv_bipush (v := nI 6) hx hb dX5_at_2 (by decide) ?_
  refine lv_iload_n hx hb dX5_at_4 rfl (lv_at hl 0 rfl) ?_
  refine lv_imul hx hb dX5_at_5 ?_
  refine kv_i (y := nI (6 * pe)) (pk_mul 6 pe) ?_
  refine lv_iadd hx hb dX5_at_6 ?_
  refine kv_i (y := nI (92 + (6 * pe))) (nI_add 92 (6 * pe)) ?_
  refine lv_iload_n hx hb dX5_at_7 rfl (lv_at hl 1 rfl) ?_
  refine lv_iadd hx hb dX5_at_8 ?_
  refine kv_i (y := nI ((92 + (6 * pe)) + w)) (nI_add (92 + (6 * pe)) w) ?_
  exact kr_i (post := fun r_ (u_ : Unit) => r_ = nI (92 + 6 * pe + w)) (Bs := fun u_ : Unit => []) hx hb hr hlocks rfl () hP hK hD hS rfl dX5_at_9 hQ
abbrev rm_X5_of : Room := { frames := 1, cells := 0, slots := 0, locals := 21 }
set_option maxHeartbeats 1000000 in
set_option maxRecDepth 100000 in
/-- of -/
theorem c_X5_of (l : Launch) (D : va_G) (cy : Nat → ClassId) (ra : Nat → Nat) (al : Nat → Int32) (T : rV) (pe : Nat) (w : Nat) (hpe : pe < 16) (hw : w < 6) (sz : Nat) : Met l yX5_of wsX5_of rm_X5_of (va_Pc [.ref (ra 0), .int (nI pe), .int (nI w)] (kPre D (kT cy) [mW cy ra (al, T)] sz)) (va_Qi (fun r_ (u_ : Unit) => r_ = al (92 + 6 * pe + w)) (kFr D (kT cy) [mW cy ra (al, T)] sz (fun u_ : Unit => [mW cy ra (al, T)])) (va_A (bkF [mW cy ra (al, T)]) sz)) 0 0 (va_A (bkF [mW cy ra (al, T)]) sz) := by
  refine kOpen (y := yX5_of) (ws := wsX5_of) (cc := cX5_of) (maxL := 3) (ret := (some .int)) (av := [.ref (ra 0), .int (nI pe), .int (nI w)]) (Bs := [mW cy ra (al, T)]) (Qc := fun A => (va_Qi (fun r_ (u_ : Unit) => r_ = al (92 + 6 * pe + w)) (fun (u_ : Unit) t9 => kEnd D (kT cy) A [mW cy ra (al, T)] t9) A)) (by decide) rfl (Nat.le_of_ble_eq_true rfl) ?_
  intro p e s m args below meth c A Q ls hQ hx hb hml hr hlocks hin hts hown hN hK hP hD hS hA hsz hAe hl
  clear hAe
  have hl : lv_has ls 3 [(0, .ref (ra 0)), (1, .int (nI pe)), (2, .int (nI w))] := hl
  suffices K9 : ∀ (H : Heap) (locs : List Loc), va_P D vwCl (bkF [mW cy ra (al, T)]) H → va_S A s.heap H locs → W p l e (headSpec wsX5_of rm_X5_of).room s m args below meth c H locs 0 0 Q (F0 m 0 ls []) from K9 _ _ hP hS
  clear hP hS
  intro H locs hP hS
  refine lv_aload_n hx hb dX5_of_0 rfl (lv_at hl 0 rfl) ?_
  refine va_get (D := D) (ci := 5) (v := .ref (ra 1)) (C := RX5) (T := TX5) (N := 16) hx hb hts (by decide +kernel) hown hK hP 0 rfl rfl 0 (by decide) (hts (.fieldLink RX5 7 "DanceHallModel" "all" "[I") (by decide +kernel)) (fun _ h9 => h9) rfl dX5_of_1 ?_
  refine lv_iload_n hx hb dX5_of_4 rfl (lv_at hl 1 rfl) ?_
  refine lv_iload_n hx hb dX5_of_5 rfl (lv_at hl 2 rfl) ?_
  refine kc_i (Cs := []) (Rs := [mW cy ra (al, T)]) (Bs := [mW cy ra (al, T)]) (Cs' := fun u_ : Unit => []) (Fs := fun u_ : Unit => [mW cy ra (al, T)]) hP hD hS hA [] [0] [0] rfl rfl (by decide) (by decide) (fun _ => rfl) (va_runS (As := [.int (nI pe), .int (nI w)]) (rest := [.ref (ra 1)]) ⟨hx, hb, hml, hown, hts⟩ (c_X5_at l D cy pe w H.size) (va_cwS 2 hts gX5_of_X5_at rfl rfl rfl (by decide +kernel) ⟨Nat.le_of_ble_eq_true rfl, Nat.le_of_ble_eq_true rfl⟩) (kPre_S hK hN hP hD [] (by decide) rfl) rfl rfl hl.1 rfl (lv_room (Nat.le_of_ble_eq_true rfl)) dX5_of_6 ⟨Nat.le_of_ble_eq_true rfl, Nat.le_of_ble_eq_true rfl⟩) (fun r_ u_ H locs hw hP hD hS => ?_)
  have hw : r_ = nI (92 + 6 * pe + w) := hw
  subst hw
  refine va_iald hx hb hK hP 1 0 rfl rfl (vp_in_nI (n := 92 + 6 * pe + w) (N := 188) (by omega) (by omega)) dX5_of_9 ?_
  refine kv_i (y := al (92 + 6 * pe + w)) (congrArg al (nI_clamp (n := 92 + 6 * pe + w) (by omega))) ?_
  exact kr_i (post := fun r_ (u_ : Unit) => r_ = al (92 + 6 * pe + w)) (Bs := fun u_ : Unit => [mW cy ra (al, T)]) hx hb hr hlocks rfl () hP hK hD hS rfl dX5_of_10 hQ
abbrev rm_X5_many_t : Room := { frames := 0, cells := 0, slots := 0, locals := 0 }
set_option maxHeartbeats 1000000 in
set_option maxRecDepth 100000 in
/-- many -/
theorem c_X5_many_t (l : Launch) (D : va_G) (cy : Nat → ClassId) (ra : Nat → Nat) (al : Nat → Int32) (T : rV) (x : Int32) (hx0 : ¬ x = 0) (sz : Nat) : Met l yX5_many wsX5_many rm_X5_many_t (va_Pc [.ref (ra 0), .int x] (kPre D (kT cy) [mW cy ra (al, T)] sz)) (va_Qi (fun r_ (u_ : Unit) => r_ = al 0) (kFr D (kT cy) [mW cy ra (al, T)] sz (fun u_ : Unit => [mW cy ra (al, T)])) (va_A (bkF [mW cy ra (al, T)]) sz)) 0 0 (va_A (bkF [mW cy ra (al, T)]) sz) := by
  refine kOpen (y := yX5_many) (ws := wsX5_many) (cc := cX5_many) (maxL := 2) (ret := (some .int)) (av := [.ref (ra 0), .int x]) (Bs := [mW cy ra (al, T)]) (Qc := fun A => (va_Qi (fun r_ (u_ : Unit) => r_ = al 0) (fun (u_ : Unit) t9 => kEnd D (kT cy) A [mW cy ra (al, T)] t9) A)) (by decide) rfl (Nat.le_of_ble_eq_true rfl) ?_
  intro p e s m args below meth c A Q ls hQ hx hb hml hr hlocks hin hts hown hN hK hP hD hS hA hsz hAe hl
  clear hAe
  have hl : lv_has ls 2 [(0, .ref (ra 0)), (1, .int x)] := hl
  suffices K9 : ∀ (H : Heap) (locs : List Loc), va_P D vwCl (bkF [mW cy ra (al, T)]) H → va_S A s.heap H locs → W p l e (headSpec wsX5_many rm_X5_many_t).room s m args below meth c H locs 0 0 Q (F0 m 0 ls []) from K9 _ _ hP hS
  clear hP hS
  intro H locs hP hS
  refine lv_aload_n hx hb dX5_many_0 rfl (lv_at hl 0 rfl) ?_
  refine va_get (D := D) (ci := 5) (v := .ref (ra 1)) (C := RX5) (T := TX5) (N := 16) hx hb hts (by decide +kernel) hown hK hP 0 rfl rfl 0 (by decide) (hts (.fieldLink RX5 7 "DanceHallModel" "all" "[I") (by decide +kernel)) (fun _ h9 => h9) rfl dX5_many_1 ?_
  refine lv_iload_n hx hb dX5_many_4 rfl (lv_at hl 1 rfl) ?_
  refine lv_if_eq (tgt := 12) hx hb dX5_many_5 (by decide) (fun c_5 => False.elim ?_) (fun c_5 => ?_)
  · skip
    exact hx0 c_5
  · skip
    refine lv_iconst (v := nI 0) hx hb dX5_many_8 (by decide) ?_
    refine lv_goto (tgt := 13) hx hb dX5_many_9 (by decide) ?_
    refine va_iald hx hb hK hP 1 0 rfl rfl (vp_in_nI (n := 0) (N := 188) (by omega) (by omega)) dX5_many_13 ?_
    refine kv_i (y := al 0) (show (al) (nI 0).toNatClampNeg = al 0 from rfl) ?_
    exact kr_i (post := fun r_ (u_ : Unit) => r_ = al 0) (Bs := fun u_ : Unit => [mW cy ra (al, T)]) hx hb hr hlocks rfl () hP hK hD hS rfl dX5_many_14 hQ
abbrev rm_X5_person_t : Room := { frames := 0, cells := 0, slots := 0, locals := 0 }
set_option maxHeartbeats 1000000 in
set_option maxRecDepth 100000 in
/-- person -/
theorem c_X5_person_t (l : Launch) (D : va_G) (cy : Nat → ClassId) (x : Int32) (g : Nat) (hx0 : ¬ x = 0) (sz : Nat) : Met l yX5_person wsX5_person rm_X5_person_t (va_Pc [.int x, .int (nI g)] (kPre D (kT cy) [] sz)) (va_Qi (fun r_ (u_ : Unit) => r_ = nI g) (kFr D (kT cy) [] sz (fun u_ : Unit => [])) (va_A (bkF []) sz)) 0 0 (va_A (bkF []) sz) := by
  refine kOpen (y := yX5_person) (ws := wsX5_person) (cc := cX5_person) (maxL := 2) (ret := (some .int)) (av := [.int x, .int (nI g)]) (Bs := []) (Qc := fun A => (va_Qi (fun r_ (u_ : Unit) => r_ = nI g) (fun (u_ : Unit) t9 => kEnd D (kT cy) A [] t9) A)) (by decide) rfl (Nat.le_of_ble_eq_true rfl) ?_
  intro p e s m args below meth c A Q ls hQ hx hb hml hr hlocks hin hts hown hN hK hP hD hS hA hsz hAe hl
  clear hAe
  have hl : lv_has ls 2 [(0, .int x), (1, .int (nI g))] := hl
  suffices K9 : ∀ (H : Heap) (locs : List Loc), va_P D vwCl (bkF []) H → va_S A s.heap H locs → W p l e (headSpec wsX5_person rm_X5_person_t).room s m args below meth c H locs 0 0 Q (F0 m 0 ls []) from K9 _ _ hP hS
  clear hP hS
  intro H locs hP hS
  refine lv_iload_n hx hb dX5_person_0 rfl (lv_at hl 0 rfl) ?_
  refine lv_if_eq (tgt := 8) hx hb dX5_person_1 (by decide) (fun c_1 => False.elim ?_) (fun c_1 => ?_)
  · skip
    exact hx0 c_1
  · skip
    refine lv_iload_n hx hb dX5_person_4 rfl (lv_at hl 1 rfl) ?_
    refine lv_goto (tgt := 12) hx hb dX5_person_5 (by decide) ?_
    exact kr_i (post := fun r_ (u_ : Unit) => r_ = nI g) (Bs := fun u_ : Unit => []) hx hb hr hlocks rfl () hP hK hD hS rfl dX5_person_12 hQ
abbrev rm_X5_isGuest_t : Room := { frames := 1, cells := 0, slots := 0, locals := 25 }
set_option maxHeartbeats 1000000 in
set_option maxRecDepth 100000 in
/-- isGuest -/
theorem c_X5_isGuest_t (l : Launch) (D : va_G) (cy : Nat → ClassId) (ra : Nat → Nat) (X : rS) (T : rV) (x : Int32) (g : Int32) (hx0 : ¬ x = 0) (hn : X.2.1.2.2.2.2.2 ≤ 8) (sz : Nat) : Met l yX5_isGuest wsX5_isGuest rm_X5_isGuest_t (va_Pc [.ref (ra 0), .int x, .int g] (kPre D (kT cy) [mW cy ra (kEn X, T)] sz)) (va_Qi (fun r_ (u_ : Unit) => r_ = if ¬ g < nI 0 ∧ ¬ nI X.2.1.2.2.2.2.2 ≤ g then nI 1 else nI 0) (kFr D (kT cy) [mW cy ra (kEn X, T)] sz (fun u_ : Unit => [mW cy ra (kEn X, T)])) (va_A (bkF [mW cy ra (kEn X, T)]) sz)) 0 0 (va_A (bkF [mW cy ra (kEn X, T)]) sz) := by
  refine kOpen (y := yX5_isGuest) (ws := wsX5_isGuest) (cc := cX5_isGuest) (maxL := 3) (ret := (some .boolean)) (av := [.ref (ra 0), .int x, .int g]) (Bs := [mW cy ra (kEn X, T)]) (Qc := fun A => (va_Qi (fun r_ (u_ : Unit) => r_ = if ¬ g < nI 0 ∧ ¬ nI X.2.1.2.2.2.2.2 ≤ g then nI 1 else nI 0) (fun (u_ : Unit) t9 => kEnd D (kT cy) A [mW cy ra (kEn X, T)] t9) A)) (by decide) rfl (Nat.le_of_ble_eq_true rfl) ?_
  intro p e s m args below meth c A Q ls hQ hx hb hml hr hlocks hin hts hown hN hK hP hD hS hA hsz hAe hl
  clear hAe
  have hl : lv_has ls 3 [(0, .ref (ra 0)), (1, .int x), (2, .int g)] := hl
  suffices K9 : ∀ (H : Heap) (locs : List Loc), va_P D vwCl (bkF [mW cy ra (kEn X, T)]) H → va_S A s.heap H locs → W p l e (headSpec wsX5_isGuest rm_X5_isGuest_t).room s m args below meth c H locs 0 0 Q (F0 m 0 ls []) from K9 _ _ hP hS
  clear hP hS
  intro H locs hP hS
  refine lv_iload_n hx hb dX5_isGuest_0 rfl (lv_at hl 2 rfl) ?_
  refine lv_i2l (v := g.toInt64) hx hb dX5_isGuest_1 rfl ?_
  refine lv_lconst (v := 0) hx hb dX5_isGuest_2 (by decide) ?_
  refine lv_aload_n hx hb dX5_isGuest_3 rfl (lv_at hl 0 rfl) ?_
  refine lv_iload_n hx hb dX5_isGuest_4 rfl (lv_at hl 1 rfl) ?_
  refine kc_i (Cs := [mW cy ra (kEn X, T)]) (Rs := []) (Bs := [mW cy ra (kEn X, T)]) (Cs' := fun u_ : Unit => [mW cy ra (kEn X, T)]) (Fs := fun u_ : Unit => [mW cy ra (kEn X, T)]) hP hD hS hA [0] [] [0] rfl rfl (by decide) (by decide) (fun _ => rfl) (va_runV (As := [.int x]) (rest := [.long 0, .long g.toInt64]) ⟨hx, hb, hml, hown, hts⟩ (c_X5_many_t l D cy ra (kEn X) T x hx0 H.size) (cwV 1 hts gX5_isGuest_X5_many rfl rfl rfl (by decide +kernel) ⟨Nat.le_of_ble_eq_true rfl, Nat.le_of_ble_eq_true rfl⟩) (kPre_V (ci := 5) hK hN hP hD [0] (by decide) rfl 0 rfl rfl) rfl rfl hl.1 rfl (lv_room (Nat.le_of_ble_eq_true rfl)) dX5_isGuest_5 ⟨Nat.le_of_ble_eq_true rfl, Nat.le_of_ble_eq_true rfl⟩) (fun r_ u_ H locs hw hP hD hS => ?_)
  have hw : r_ = (kEn X) 0 := hw
  subst hw
  refine kv_i (y := nI X.2.1.2.2.2.2.2) rfl ?_
  refine lv_i2l (v := (nI X.2.1.2.2.2.2.2).toInt64) hx hb dX5_isGuest_8 rfl ?_
  refine lv_lconst (v := 1) hx hb dX5_isGuest_9 (by decide) ?_
  refine lv_lsub hx hb dX5_isGuest_10 ?_
  refine kc_i (Cs := []) (Rs := [mW cy ra (kEn X, T)]) (Bs := [mW cy ra (kEn X, T)]) (Cs' := fun u_ : Unit => []) (Fs := fun u_ : Unit => [mW cy ra (kEn X, T)]) hP hD hS hA [] [0] [0] rfl rfl (by decide) (by decide) (fun _ => rfl) (va_runS (As := [.long g.toInt64, .long 0, .long (((nI X.2.1.2.2.2.2.2).toInt64) - 1)]) (rest := []) ⟨hx, hb, hml, hown, hts⟩ (c_X5_in l D cy g.toInt64 0 (((nI X.2.1.2.2.2.2.2).toInt64) - 1) H.size) (va_cwS 3 hts gX5_isGuest_X5_in rfl rfl rfl (by decide +kernel) ⟨Nat.le_of_ble_eq_true rfl, Nat.le_of_ble_eq_true rfl⟩) (kPre_S hK hN hP hD [] (by decide) rfl) rfl rfl hl.1 rfl (lv_room (Nat.le_of_ble_eq_true rfl)) dX5_isGuest_11 ⟨Nat.le_of_ble_eq_true rfl, Nat.le_of_ble_eq_true rfl⟩) (fun r_ u_ H locs hw hP hD hS => ?_)
  have hw : r_ = if kIn g.toInt64 0 (((nI X.2.1.2.2.2.2.2).toInt64) - 1) then nI 1 else nI 0 := hw
  subst hw
  by_cases b_11 : kIn g.toInt64 0 (((nI X.2.1.2.2.2.2.2).toInt64) - 1)
  · refine kv_i (y := nI 1) (if_pos b_11) ?_
    exact kr_i (post := fun r_ (u_ : Unit) => r_ = if ¬ g < nI 0 ∧ ¬ nI X.2.1.2.2.2.2.2 ≤ g then nI 1 else nI 0) (Bs := fun u_ : Unit => [mW cy ra (kEn X, T)]) hx hb hr hlocks rfl () hP hK hD hS (if_pos ((kInH (by omega)).mp b_11)).symm dX5_isGuest_14 hQ
  · refine kv_i (y := nI 0) (if_neg b_11) ?_
    exact kr_i (post := fun r_ (u_ : Unit) => r_ = if ¬ g < nI 0 ∧ ¬ nI X.2.1.2.2.2.2.2 ≤ g then nI 1 else nI 0) (Bs := fun u_ : Unit => [mW cy ra (kEn X, T)]) hx hb hr hlocks rfl () hP hK hD hS (if_neg (fun h => b_11 ((kInH (by omega)).mpr h))).symm dX5_isGuest_14 hQ
abbrev rm_X5_many_f : Room := { frames := 0, cells := 0, slots := 0, locals := 0 }
set_option maxHeartbeats 1000000 in
set_option maxRecDepth 100000 in
/-- many -/
theorem c_X5_many_f (l : Launch) (D : va_G) (cy : Nat → ClassId) (ra : Nat → Nat) (al : Nat → Int32) (T : rV) (x : Int32) (hx0 : x = 0) (sz : Nat) : Met l yX5_many wsX5_many rm_X5_many_f (va_Pc [.ref (ra 0), .int x] (kPre D (kT cy) [mW cy ra (al, T)] sz)) (va_Qi (fun r_ (u_ : Unit) => r_ = al 1) (kFr D (kT cy) [mW cy ra (al, T)] sz (fun u_ : Unit => [mW cy ra (al, T)])) (va_A (bkF [mW cy ra (al, T)]) sz)) 0 0 (va_A (bkF [mW cy ra (al, T)]) sz) := by
  refine kOpen (y := yX5_many) (ws := wsX5_many) (cc := cX5_many) (maxL := 2) (ret := (some .int)) (av := [.ref (ra 0), .int x]) (Bs := [mW cy ra (al, T)]) (Qc := fun A => (va_Qi (fun r_ (u_ : Unit) => r_ = al 1) (fun (u_ : Unit) t9 => kEnd D (kT cy) A [mW cy ra (al, T)] t9) A)) (by decide) rfl (Nat.le_of_ble_eq_true rfl) ?_
  intro p e s m args below meth c A Q ls hQ hx hb hml hr hlocks hin hts hown hN hK hP hD hS hA hsz hAe hl
  clear hAe
  have hl : lv_has ls 2 [(0, .ref (ra 0)), (1, .int x)] := hl
  suffices K9 : ∀ (H : Heap) (locs : List Loc), va_P D vwCl (bkF [mW cy ra (al, T)]) H → va_S A s.heap H locs → W p l e (headSpec wsX5_many rm_X5_many_f).room s m args below meth c H locs 0 0 Q (F0 m 0 ls []) from K9 _ _ hP hS
  clear hP hS
  intro H locs hP hS
  refine lv_aload_n hx hb dX5_many_0 rfl (lv_at hl 0 rfl) ?_
  refine va_get (D := D) (ci := 5) (v := .ref (ra 1)) (C := RX5) (T := TX5) (N := 16) hx hb hts (by decide +kernel) hown hK hP 0 rfl rfl 0 (by decide) (hts (.fieldLink RX5 7 "DanceHallModel" "all" "[I") (by decide +kernel)) (fun _ h9 => h9) rfl dX5_many_1 ?_
  refine lv_iload_n hx hb dX5_many_4 rfl (lv_at hl 1 rfl) ?_
  refine lv_if_eq (tgt := 12) hx hb dX5_many_5 (by decide) (fun c_5 => ?_) (fun c_5 => False.elim ?_)
  · skip
    refine lv_iconst (v := nI 1) hx hb dX5_many_12 (by decide) ?_
    refine va_iald hx hb hK hP 1 0 rfl rfl (vp_in_nI (n := 1) (N := 188) (by omega) (by omega)) dX5_many_13 ?_
    refine kv_i (y := al 1) (show (al) (nI 1).toNatClampNeg = al 1 from rfl) ?_
    exact kr_i (post := fun r_ (u_ : Unit) => r_ = al 1) (Bs := fun u_ : Unit => [mW cy ra (al, T)]) hx hb hr hlocks rfl () hP hK hD hS rfl dX5_many_14 hQ
  · skip
    exact c_5 hx0
abbrev rm_X5_person_f : Room := { frames := 0, cells := 0, slots := 0, locals := 0 }
set_option maxHeartbeats 1000000 in
set_option maxRecDepth 100000 in
/-- person -/
theorem c_X5_person_f (l : Launch) (D : va_G) (cy : Nat → ClassId) (x : Int32) (g : Nat) (hx0 : x = 0) (sz : Nat) : Met l yX5_person wsX5_person rm_X5_person_f (va_Pc [.int x, .int (nI g)] (kPre D (kT cy) [] sz)) (va_Qi (fun r_ (u_ : Unit) => r_ = nI (8 + g)) (kFr D (kT cy) [] sz (fun u_ : Unit => [])) (va_A (bkF []) sz)) 0 0 (va_A (bkF []) sz) := by
  refine kOpen (y := yX5_person) (ws := wsX5_person) (cc := cX5_person) (maxL := 2) (ret := (some .int)) (av := [.int x, .int (nI g)]) (Bs := []) (Qc := fun A => (va_Qi (fun r_ (u_ : Unit) => r_ = nI (8 + g)) (fun (u_ : Unit) t9 => kEnd D (kT cy) A [] t9) A)) (by decide) rfl (Nat.le_of_ble_eq_true rfl) ?_
  intro p e s m args below meth c A Q ls hQ hx hb hml hr hlocks hin hts hown hN hK hP hD hS hA hsz hAe hl
  clear hAe
  have hl : lv_has ls 2 [(0, .int x), (1, .int (nI g))] := hl
  suffices K9 : ∀ (H : Heap) (locs : List Loc), va_P D vwCl (bkF []) H → va_S A s.heap H locs → W p l e (headSpec wsX5_person rm_X5_person_f).room s m args below meth c H locs 0 0 Q (F0 m 0 ls []) from K9 _ _ hP hS
  clear hP hS
  intro H locs hP hS
  refine lv_iload_n hx hb dX5_person_0 rfl (lv_at hl 0 rfl) ?_
  refine lv_if_eq (tgt := 8) hx hb dX5_person_1 (by decide) (fun c_1 => ?_) (fun c_1 => False.elim ?_)
  · skip
    refine lv_bipush (v := nI 8) hx hb dX5_person_8 (by decide) ?_
    refine lv_iload_n hx hb dX5_person_10 rfl (lv_at hl 1 rfl) ?_
    refine lv_iadd hx hb dX5_person_11 ?_
    refine kv_i (y := nI (8 + g)) (nI_add 8 g) ?_
    exact kr_i (post := fun r_ (u_ : Unit) => r_ = nI (8 + g)) (Bs := fun u_ : Unit => []) hx hb hr hlocks rfl () hP hK hD hS rfl dX5_person_12 hQ
  · skip
    exact c_1 hx0
abbrev rm_X5_isGuest_f : Room := { frames := 1, cells := 0, slots := 0, locals := 25 }
set_option maxHeartbeats 1000000 in
set_option maxRecDepth 100000 in
/-- isGuest -/
theorem c_X5_isGuest_f (l : Launch) (D : va_G) (cy : Nat → ClassId) (ra : Nat → Nat) (X : rS) (T : rV) (x : Int32) (g : Int32) (hx0 : x = 0) (hn : X.2.2.1.2.2.2.2.2 ≤ 8) (sz : Nat) : Met l yX5_isGuest wsX5_isGuest rm_X5_isGuest_f (va_Pc [.ref (ra 0), .int x, .int g] (kPre D (kT cy) [mW cy ra (kEn X, T)] sz)) (va_Qi (fun r_ (u_ : Unit) => r_ = if ¬ g < nI 0 ∧ ¬ nI X.2.2.1.2.2.2.2.2 ≤ g then nI 1 else nI 0) (kFr D (kT cy) [mW cy ra (kEn X, T)] sz (fun u_ : Unit => [mW cy ra (kEn X, T)])) (va_A (bkF [mW cy ra (kEn X, T)]) sz)) 0 0 (va_A (bkF [mW cy ra (kEn X, T)]) sz) := by
  refine kOpen (y := yX5_isGuest) (ws := wsX5_isGuest) (cc := cX5_isGuest) (maxL := 3) (ret := (some .boolean)) (av := [.ref (ra 0), .int x, .int g]) (Bs := [mW cy ra (kEn X, T)]) (Qc := fun A => (va_Qi (fun r_ (u_ : Unit) => r_ = if ¬ g < nI 0 ∧ ¬ nI X.2.2.1.2.2.2.2.2 ≤ g then nI 1 else nI 0) (fun (u_ : Unit) t9 => kEnd D (kT cy) A [mW cy ra (kEn X, T)] t9) A)) (by decide) rfl (Nat.le_of_ble_eq_true rfl) ?_
  intro p e s m args below meth c A Q ls hQ hx hb hml hr hlocks hin hts hown hN hK hP hD hS hA hsz hAe hl
  clear hAe
  have hl : lv_has ls 3 [(0, .ref (ra 0)), (1, .int x), (2, .int g)] := hl
  suffices K9 : ∀ (H : Heap) (locs : List Loc), va_P D vwCl (bkF [mW cy ra (kEn X, T)]) H → va_S A s.heap H locs → W p l e (headSpec wsX5_isGuest rm_X5_isGuest_f).room s m args below meth c H locs 0 0 Q (F0 m 0 ls []) from K9 _ _ hP hS
  clear hP hS
  intro H locs hP hS
  refine lv_iload_n hx hb dX5_isGuest_0 rfl (lv_at hl 2 rfl) ?_
  refine lv_i2l (v := g.toInt64) hx hb dX5_isGuest_1 rfl ?_
  refine lv_lconst (v := 0) hx hb dX5_isGuest_2 (by decide) ?_
  refine lv_aload_n hx hb dX5_isGuest_3 rfl (lv_at hl 0 rfl) ?_
  refine lv_iload_n hx hb dX5_isGuest_4 rfl (lv_at hl 1 rfl) ?_
  refine kc_i (Cs := [mW cy ra (kEn X, T)]) (Rs := []) (Bs := [mW cy ra (kEn X, T)]) (Cs' := fun u_ : Unit => [mW cy ra (kEn X, T)]) (Fs := fun u_ : Unit => [mW cy ra (kEn X, T)]) hP hD hS hA [0] [] [0] rfl rfl (by decide) (by decide) (fun _ => rfl) (va_runV (As := [.int x]) (rest := [.long 0, .long g.toInt64]) ⟨hx, hb, hml, hown, hts⟩ (c_X5_many_f l D cy ra (kEn X) T x hx0 H.size) (cwV 1 hts gX5_isGuest_X5_many rfl rfl rfl (by decide +kernel) ⟨Nat.le_of_ble_eq_true rfl, Nat.le_of_ble_eq_true rfl⟩) (kPre_V (ci := 5) hK hN hP hD [0] (by decide) rfl 0 rfl rfl) rfl rfl hl.1 rfl (lv_room (Nat.le_of_ble_eq_true rfl)) dX5_isGuest_5 ⟨Nat.le_of_ble_eq_true rfl, Nat.le_of_ble_eq_true rfl⟩) (fun r_ u_ H locs hw hP hD hS => ?_)
  have hw : r_ = (kEn X) 1 := hw
  subst hw
  refine kv_i (y := nI X.2.2.1.2.2.2.2.2) rfl ?_
  refine lv_i2l (v := (nI X.2.2.1.2.2.2.2.2).toInt64) hx hb dX5_isGuest_8 rfl ?_
  refine lv_lconst (v := 1) hx hb dX5_isGuest_9 (by decide) ?_
  refine lv_lsub hx hb dX5_isGuest_10 ?_
  refine kc_i (Cs := []) (Rs := [mW cy ra (kEn X, T)]) (Bs := [mW cy ra (kEn X, T)]) (Cs' := fun u_ : Unit => []) (Fs := fun u_ : Unit => [mW cy ra (kEn X, T)]) hP hD hS hA [] [0] [0] rfl rfl (by decide) (by decide) (fun _ => rfl) (va_runS (As := [.long g.toInt64, .long 0, .long (((nI X.2.2.1.2.2.2.2.2).toInt64) - 1)]) (rest := []) ⟨hx, hb, hml, hown, hts⟩ (c_X5_in l D cy g.toInt64 0 (((nI X.2.2.1.2.2.2.2.2).toInt64) - 1) H.size) (va_cwS 3 hts gX5_isGuest_X5_in rfl rfl rfl (by decide +kernel) ⟨Nat.le_of_ble_eq_true rfl, Nat.le_of_ble_eq_true rfl⟩) (kPre_S hK hN hP hD [] (by decide) rfl) rfl rfl hl.1 rfl (lv_room (Nat.le_of_ble_eq_true rfl)) dX5_isGuest_11 ⟨Nat.le_of_ble_eq_true rfl, Nat.le_of_ble_eq_true rfl⟩) (fun r_ u_ H locs hw hP hD hS => ?_)
  have hw : r_ = if kIn g.toInt64 0 (((nI X.2.2.1.2.2.2.2.2).toInt64) - 1) then nI 1 else nI 0 := hw
  subst hw
  by_cases b_11 : kIn g.toInt64 0 (((nI X.2.2.1.2.2.2.2.2).toInt64) - 1)
  · refine kv_i (y := nI 1) (if_pos b_11) ?_
    exact kr_i (post := fun r_ (u_ : Unit) => r_ = if ¬ g < nI 0 ∧ ¬ nI X.2.2.1.2.2.2.2.2 ≤ g then nI 1 else nI 0) (Bs := fun u_ : Unit => [mW cy ra (kEn X, T)]) hx hb hr hlocks rfl () hP hK hD hS (if_pos ((kInH (by omega)).mp b_11)).symm dX5_isGuest_14 hQ
  · refine kv_i (y := nI 0) (if_neg b_11) ?_
    exact kr_i (post := fun r_ (u_ : Unit) => r_ = if ¬ g < nI 0 ∧ ¬ nI X.2.2.1.2.2.2.2.2 ≤ g then nI 1 else nI 0) (Bs := fun u_ : Unit => [mW cy ra (kEn X, T)]) hx hb hr hlocks rfl () hP hK hD hS (if_neg (fun h => b_11 ((kInH (by omega)).mpr h))).symm dX5_isGuest_14 hQ
abbrev rm_X5_isThere_t : Room := { frames := 0, cells := 0, slots := 0, locals := 0 }
set_option maxHeartbeats 1000000 in
set_option maxRecDepth 100000 in
/-- isThere, a leader -/
theorem c_X5_isThere_t (l : Launch) (D : va_G) (cy : Nat → ClassId) (ra : Nat → Nat) (X : rS) (T : rV) (pe : Nat) (hpe : pe < 8) (hn : X.2.1.2.2.2.2.2 ≤ 8) (sz : Nat) : Met l yX5_isThere wsX5_isThere rm_X5_isThere_t (va_Pc [.ref (ra 0), .int (nI pe)] (kPre D (kT cy) [mW cy ra (kEn X, T)] sz)) (va_Qi (fun r_ (u_ : Unit) => r_ = if pe < X.2.1.2.2.2.2.2 then nI 1 else nI 0) (kFr D (kT cy) [mW cy ra (kEn X, T)] sz (fun u_ : Unit => [mW cy ra (kEn X, T)])) (va_A (bkF [mW cy ra (kEn X, T)]) sz)) 0 0 (va_A (bkF [mW cy ra (kEn X, T)]) sz) := by
  refine kOpen (y := yX5_isThere) (ws := wsX5_isThere) (cc := cX5_isThere) (maxL := 2) (ret := (some .boolean)) (av := [.ref (ra 0), .int (nI pe)]) (Bs := [mW cy ra (kEn X, T)]) (Qc := fun A => (va_Qi (fun r_ (u_ : Unit) => r_ = if pe < X.2.1.2.2.2.2.2 then nI 1 else nI 0) (fun (u_ : Unit) t9 => kEnd D (kT cy) A [mW cy ra (kEn X, T)] t9) A)) (by decide) rfl (Nat.le_of_ble_eq_true rfl) ?_
  intro p e s m args below meth c A Q ls hQ hx hb hml hr hlocks hin hts hown hN hK hP hD hS hA hsz hAe hl
  clear hAe
  have hl : lv_has ls 2 [(0, .ref (ra 0)), (1, .int (nI pe))] := hl
  suffices K9 : ∀ (H : Heap) (locs : List Loc), va_P D vwCl (bkF [mW cy ra (kEn X, T)]) H → va_S A s.heap H locs → W p l e (headSpec wsX5_isThere rm_X5_isThere_t).room s m args below meth c H locs 0 0 Q (F0 m 0 ls []) from K9 _ _ hP hS
  clear hP hS
  intro H locs hP hS
  refine lv_iload_n hx hb dX5_isThere_0 rfl (lv_at hl 1 rfl) ?_
  refine lv_bipush (v := nI 8) hx hb dX5_isThere_1 (by decide) ?_
  refine lv_icmp_ge (tgt := 24) hx hb dX5_isThere_3 (by decide) (fun c_3 => False.elim ?_) (fun c_3 => ?_)
  · skip
    have c_3 : 8 ≤ pe := (nI_leI (a := 8) (b := pe) (by omega) (by omega)).mp c_3
    omega
  · skip
    have c_3 : ¬ (8 ≤ pe) := fun h => c_3 ((nI_leI (a := 8) (b := pe) (by omega) (by omega)).mpr h)
    refine lv_iload_n hx hb dX5_isThere_6 rfl (lv_at hl 1 rfl) ?_
    refine lv_aload_n hx hb dX5_isThere_7 rfl (lv_at hl 0 rfl) ?_
    refine va_get (D := D) (ci := 5) (v := .ref (ra 1)) (C := RX5) (T := TX5) (N := 16) hx hb hts (by decide +kernel) hown hK hP 0 rfl rfl 0 (by decide) (hts (.fieldLink RX5 7 "DanceHallModel" "all" "[I") (by decide +kernel)) (fun _ h9 => h9) rfl dX5_isThere_8 ?_
    refine lv_iconst (v := nI 0) hx hb dX5_isThere_11 (by decide) ?_
    refine va_iald hx hb hK hP 1 0 rfl rfl (vp_in_nI (n := 0) (N := 188) (by omega) (by omega)) dX5_isThere_12 ?_
    refine kv_i (y := nI X.2.1.2.2.2.2.2) (show ((kEn X)) (nI 0).toNatClampNeg = nI X.2.1.2.2.2.2.2 from rfl) ?_
    refine lv_icmp_ge (tgt := 20) hx hb dX5_isThere_13 (by decide) (fun c_13 => ?_) (fun c_13 => ?_)
    · skip
      have c_13 : X.2.1.2.2.2.2.2 ≤ pe := (nI_leI (a := X.2.1.2.2.2.2.2) (b := pe) (by omega) (by omega)).mp c_13
      refine lv_iconst (v := nI 0) hx hb dX5_isThere_20 (by decide) ?_
      refine lv_goto (tgt := 42) hx hb dX5_isThere_21 (by decide) ?_
      exact kr_i (post := fun r_ (u_ : Unit) => r_ = if pe < X.2.1.2.2.2.2.2 then nI 1 else nI 0) (Bs := fun u_ : Unit => [mW cy ra (kEn X, T)]) hx hb hr hlocks rfl () hP hK hD hS (by first | exact (if_pos (by first | assumption | (simp only [c_3, c_13]; done) | (constructor <;> assumption) | omega)).symm | exact (if_neg (by first | assumption | omega)).symm | simp [c_3, c_13] | (split <;> simp_all)) dX5_isThere_42 hQ
    · skip
      have c_13 : ¬ (X.2.1.2.2.2.2.2 ≤ pe) := fun h => c_13 ((nI_leI (a := X.2.1.2.2.2.2.2) (b := pe) (by omega) (by omega)).mpr h)
      refine lv_iconst (v := nI 1) hx hb dX5_isThere_16 (by decide) ?_
      refine lv_goto (tgt := 42) hx hb dX5_isThere_17 (by decide) ?_
      exact kr_i (post := fun r_ (u_ : Unit) => r_ = if pe < X.2.1.2.2.2.2.2 then nI 1 else nI 0) (Bs := fun u_ : Unit => [mW cy ra (kEn X, T)]) hx hb hr hlocks rfl () hP hK hD hS (by first | exact (if_pos (by first | assumption | (simp only [c_3, c_13]; done) | (constructor <;> assumption) | omega)).symm | exact (if_neg (by first | assumption | omega)).symm | simp [c_3, c_13] | (split <;> simp_all)) dX5_isThere_42 hQ
abbrev rm_X5_isThere_f : Room := { frames := 0, cells := 0, slots := 0, locals := 0 }
set_option maxHeartbeats 1000000 in
set_option maxRecDepth 100000 in
/-- isThere, a follower -/
theorem c_X5_isThere_f (l : Launch) (D : va_G) (cy : Nat → ClassId) (ra : Nat → Nat) (X : rS) (T : rV) (pe : Nat) (hpe : pe < 8) (hn : X.2.2.1.2.2.2.2.2 ≤ 8) (sz : Nat) : Met l yX5_isThere wsX5_isThere rm_X5_isThere_f (va_Pc [.ref (ra 0), .int (nI (8 + pe))] (kPre D (kT cy) [mW cy ra (kEn X, T)] sz)) (va_Qi (fun r_ (u_ : Unit) => r_ = if pe < X.2.2.1.2.2.2.2.2 then nI 1 else nI 0) (kFr D (kT cy) [mW cy ra (kEn X, T)] sz (fun u_ : Unit => [mW cy ra (kEn X, T)])) (va_A (bkF [mW cy ra (kEn X, T)]) sz)) 0 0 (va_A (bkF [mW cy ra (kEn X, T)]) sz) := by
  refine kOpen (y := yX5_isThere) (ws := wsX5_isThere) (cc := cX5_isThere) (maxL := 2) (ret := (some .boolean)) (av := [.ref (ra 0), .int (nI (8 + pe))]) (Bs := [mW cy ra (kEn X, T)]) (Qc := fun A => (va_Qi (fun r_ (u_ : Unit) => r_ = if pe < X.2.2.1.2.2.2.2.2 then nI 1 else nI 0) (fun (u_ : Unit) t9 => kEnd D (kT cy) A [mW cy ra (kEn X, T)] t9) A)) (by decide) rfl (Nat.le_of_ble_eq_true rfl) ?_
  intro p e s m args below meth c A Q ls hQ hx hb hml hr hlocks hin hts hown hN hK hP hD hS hA hsz hAe hl
  clear hAe
  have hl : lv_has ls 2 [(0, .ref (ra 0)), (1, .int (nI (8 + pe)))] := hl
  suffices K9 : ∀ (H : Heap) (locs : List Loc), va_P D vwCl (bkF [mW cy ra (kEn X, T)]) H → va_S A s.heap H locs → W p l e (headSpec wsX5_isThere rm_X5_isThere_f).room s m args below meth c H locs 0 0 Q (F0 m 0 ls []) from K9 _ _ hP hS
  clear hP hS
  intro H locs hP hS
  refine lv_iload_n hx hb dX5_isThere_0 rfl (lv_at hl 1 rfl) ?_
  refine lv_bipush (v := nI 8) hx hb dX5_isThere_1 (by decide) ?_
  refine lv_icmp_ge (tgt := 24) hx hb dX5_isThere_3 (by decide) (fun c_3 => ?_) (fun c_3 => False.elim ?_)
  · skip
    have c_3 : 8 ≤ (8 + pe) := (nI_leI (a := 8) (b := 8 + pe) (by omega) (by omega)).mp c_3
    refine lv_iload_n hx hb dX5_isThere_24 rfl (lv_at hl 1 rfl) ?_
    refine lv_bipush (v := nI 8) hx hb dX5_isThere_25 (by decide) ?_
    refine lv_isub hx hb dX5_isThere_27 ?_
    refine kv_i (y := nI pe) (by rw [pk_sub (by omega)]; exact congrArg nI (by omega)) ?_
    refine lv_aload_n hx hb dX5_isThere_28 rfl (lv_at hl 0 rfl) ?_
    refine va_get (D := D) (ci := 5) (v := .ref (ra 1)) (C := RX5) (T := TX5) (N := 16) hx hb hts (by decide +kernel) hown hK hP 0 rfl rfl 0 (by decide) (hts (.fieldLink RX5 7 "DanceHallModel" "all" "[I") (by decide +kernel)) (fun _ h9 => h9) rfl dX5_isThere_29 ?_
    refine lv_iconst (v := nI 1) hx hb dX5_isThere_32 (by decide) ?_
    refine va_iald hx hb hK hP 1 0 rfl rfl (vp_in_nI (n := 1) (N := 188) (by omega) (by omega)) dX5_isThere_33 ?_
    refine kv_i (y := nI X.2.2.1.2.2.2.2.2) (show ((kEn X)) (nI 1).toNatClampNeg = nI X.2.2.1.2.2.2.2.2 from rfl) ?_
    refine lv_icmp_ge (tgt := 41) hx hb dX5_isThere_34 (by decide) (fun c_34 => ?_) (fun c_34 => ?_)
    · skip
      have c_34 : X.2.2.1.2.2.2.2.2 ≤ pe := (nI_leI (a := X.2.2.1.2.2.2.2.2) (b := pe) (by omega) (by omega)).mp c_34
      refine lv_iconst (v := nI 0) hx hb dX5_isThere_41 (by decide) ?_
      exact kr_i (post := fun r_ (u_ : Unit) => r_ = if pe < X.2.2.1.2.2.2.2.2 then nI 1 else nI 0) (Bs := fun u_ : Unit => [mW cy ra (kEn X, T)]) hx hb hr hlocks rfl () hP hK hD hS (by first | exact (if_pos (by first | assumption | (simp only [c_3, c_34]; done) | (constructor <;> assumption) | omega)).symm | exact (if_neg (by first | assumption | omega)).symm | simp [c_3, c_34] | (split <;> simp_all)) dX5_isThere_42 hQ
    · skip
      have c_34 : ¬ (X.2.2.1.2.2.2.2.2 ≤ pe) := fun h => c_34 ((nI_leI (a := X.2.2.1.2.2.2.2.2) (b := pe) (by omega) (by omega)).mpr h)
      refine lv_iconst (v := nI 1) hx hb dX5_isThere_37 (by decide) ?_
      refine lv_goto (tgt := 42) hx hb dX5_isThere_38 (by decide) ?_
      exact kr_i (post := fun r_ (u_ : Unit) => r_ = if pe < X.2.2.1.2.2.2.2.2 then nI 1 else nI 0) (Bs := fun u_ : Unit => [mW cy ra (kEn X, T)]) hx hb hr hlocks rfl () hP hK hD hS (by first | exact (if_pos (by first | assumption | (simp only [c_3, c_34]; done) | (constructor <;> assumption) | omega)).symm | exact (if_neg (by first | assumption | omega)).symm | simp [c_3, c_34] | (split <;> simp_all)) dX5_isThere_42 hQ
  · skip
    have c_3 : ¬ (8 ≤ (8 + pe)) := fun h => c_3 ((nI_leI (a := 8) (b := 8 + pe) (by omega) (by omega)).mpr h)
    omega
abbrev rm_X5_isFiddler : Room := { frames := 1, cells := 0, slots := 0, locals := 25 }
set_option maxHeartbeats 1000000 in
set_option maxRecDepth 100000 in
/-- isFiddler -/
theorem c_X5_isFiddler (l : Launch) (D : va_G) (cy : Nat → ClassId) (ra : Nat → Nat) (X : rS) (T : rV) (g : Int32) (hfn : X.1.2.2.2.1 ≤ 4) (sz : Nat) : Met l yX5_isFiddler wsX5_isFiddler rm_X5_isFiddler (va_Pc [.ref (ra 0), .int g] (kPre D (kT cy) [mW cy ra (kEn X, T)] sz)) (va_Qi (fun r_ (u_ : Unit) => r_ = if ¬ g < nI 0 ∧ ¬ nI X.1.2.2.2.1 ≤ g then nI 1 else nI 0) (kFr D (kT cy) [mW cy ra (kEn X, T)] sz (fun u_ : Unit => [mW cy ra (kEn X, T)])) (va_A (bkF [mW cy ra (kEn X, T)]) sz)) 0 0 (va_A (bkF [mW cy ra (kEn X, T)]) sz) := by
  refine kOpen (y := yX5_isFiddler) (ws := wsX5_isFiddler) (cc := cX5_isFiddler) (maxL := 2) (ret := (some .boolean)) (av := [.ref (ra 0), .int g]) (Bs := [mW cy ra (kEn X, T)]) (Qc := fun A => (va_Qi (fun r_ (u_ : Unit) => r_ = if ¬ g < nI 0 ∧ ¬ nI X.1.2.2.2.1 ≤ g then nI 1 else nI 0) (fun (u_ : Unit) t9 => kEnd D (kT cy) A [mW cy ra (kEn X, T)] t9) A)) (by decide) rfl (Nat.le_of_ble_eq_true rfl) ?_
  intro p e s m args below meth c A Q ls hQ hx hb hml hr hlocks hin hts hown hN hK hP hD hS hA hsz hAe hl
  clear hAe
  have hl : lv_has ls 2 [(0, .ref (ra 0)), (1, .int g)] := hl
  suffices K9 : ∀ (H : Heap) (locs : List Loc), va_P D vwCl (bkF [mW cy ra (kEn X, T)]) H → va_S A s.heap H locs → W p l e (headSpec wsX5_isFiddler rm_X5_isFiddler).room s m args below meth c H locs 0 0 Q (F0 m 0 ls []) from K9 _ _ hP hS
  clear hP hS
  intro H locs hP hS
  refine lv_iload_n hx hb dX5_isFiddler_0 rfl (lv_at hl 1 rfl) ?_
  refine lv_i2l (v := g.toInt64) hx hb dX5_isFiddler_1 rfl ?_
  refine lv_lconst (v := 0) hx hb dX5_isFiddler_2 (by decide) ?_
  refine lv_aload_n hx hb dX5_isFiddler_3 rfl (lv_at hl 0 rfl) ?_
  refine va_get (D := D) (ci := 5) (v := .ref (ra 1)) (C := RX5) (T := TX5) (N := 16) hx hb hts (by decide +kernel) hown hK hP 0 rfl rfl 0 (by decide) (hts (.fieldLink RX5 7 "DanceHallModel" "all" "[I") (by decide +kernel)) (fun _ h9 => h9) rfl dX5_isFiddler_4 ?_
  refine lv_bipush (v := nI 8) hx hb dX5_isFiddler_7 (by decide) ?_
  refine va_iald hx hb hK hP 1 0 rfl rfl (vp_in_nI (n := 8) (N := 188) (by omega) (by omega)) dX5_isFiddler_9 ?_
  refine kv_i (y := nI X.1.2.2.2.1) (show ((kEn X)) (nI 8).toNatClampNeg = nI X.1.2.2.2.1 from rfl) ?_
  refine lv_i2l (v := (nI X.1.2.2.2.1).toInt64) hx hb dX5_isFiddler_10 rfl ?_
  refine lv_lconst (v := 1) hx hb dX5_isFiddler_11 (by decide) ?_
  refine lv_lsub hx hb dX5_isFiddler_12 ?_
  refine kc_i (Cs := []) (Rs := [mW cy ra (kEn X, T)]) (Bs := [mW cy ra (kEn X, T)]) (Cs' := fun u_ : Unit => []) (Fs := fun u_ : Unit => [mW cy ra (kEn X, T)]) hP hD hS hA [] [0] [0] rfl rfl (by decide) (by decide) (fun _ => rfl) (va_runS (As := [.long g.toInt64, .long 0, .long (((nI X.1.2.2.2.1).toInt64) - 1)]) (rest := []) ⟨hx, hb, hml, hown, hts⟩ (c_X5_in l D cy g.toInt64 0 (((nI X.1.2.2.2.1).toInt64) - 1) H.size) (va_cwS 3 hts gX5_isFiddler_X5_in rfl rfl rfl (by decide +kernel) ⟨Nat.le_of_ble_eq_true rfl, Nat.le_of_ble_eq_true rfl⟩) (kPre_S hK hN hP hD [] (by decide) rfl) rfl rfl hl.1 rfl (lv_room (Nat.le_of_ble_eq_true rfl)) dX5_isFiddler_13 ⟨Nat.le_of_ble_eq_true rfl, Nat.le_of_ble_eq_true rfl⟩) (fun r_ u_ H locs hw hP hD hS => ?_)
  have hw : r_ = if kIn g.toInt64 0 (((nI X.1.2.2.2.1).toInt64) - 1) then nI 1 else nI 0 := hw
  subst hw
  by_cases b_13 : kIn g.toInt64 0 (((nI X.1.2.2.2.1).toInt64) - 1)
  · refine kv_i (y := nI 1) (if_pos b_13) ?_
    exact kr_i (post := fun r_ (u_ : Unit) => r_ = if ¬ g < nI 0 ∧ ¬ nI X.1.2.2.2.1 ≤ g then nI 1 else nI 0) (Bs := fun u_ : Unit => [mW cy ra (kEn X, T)]) hx hb hr hlocks rfl () hP hK hD hS (if_pos ((kInH (by omega)).mp b_13)).symm dX5_isFiddler_16 hQ
  · refine kv_i (y := nI 0) (if_neg b_13) ?_
    exact kr_i (post := fun r_ (u_ : Unit) => r_ = if ¬ g < nI 0 ∧ ¬ nI X.1.2.2.2.1 ≤ g then nI 1 else nI 0) (Bs := fun u_ : Unit => [mW cy ra (kEn X, T)]) hx hb hr hlocks rfl () hP hK hD hS (if_neg (fun h => b_13 ((kInH (by omega)).mpr h))).symm dX5_isFiddler_16 hQ
abbrev rm_X5_litOf : Room := { frames := 0, cells := 0, slots := 0, locals := 0 }
set_option maxHeartbeats 1000000 in
set_option maxRecDepth 100000 in
/-- litOf -/
theorem c_X5_litOf (l : Launch) (D : va_G) (cy : Nat → ClassId) (ra : Nat → Nat) (X : rS) (T : rV) (k : Nat) (hk : k ≤ 6) (ho9 : X.1.2.1 ≤ 999) (sz : Nat) : Met l yX5_litOf wsX5_litOf rm_X5_litOf (va_Pc [.ref (ra 0), .int (nI k)] (kPre D (kT cy) [mW cy ra (kEn X, T)] sz)) (va_Qi (fun r_ (u_ : Unit) => r_ = nI (min k (X.1.2.1 / 2))) (kFr D (kT cy) [mW cy ra (kEn X, T)] sz (fun u_ : Unit => [mW cy ra (kEn X, T)])) (va_A (bkF [mW cy ra (kEn X, T)]) sz)) 0 0 (va_A (bkF [mW cy ra (kEn X, T)]) sz) := by
  refine kOpen (y := yX5_litOf) (ws := wsX5_litOf) (cc := cX5_litOf) (maxL := 2) (ret := (some .int)) (av := [.ref (ra 0), .int (nI k)]) (Bs := [mW cy ra (kEn X, T)]) (Qc := fun A => (va_Qi (fun r_ (u_ : Unit) => r_ = nI (min k (X.1.2.1 / 2))) (fun (u_ : Unit) t9 => kEnd D (kT cy) A [mW cy ra (kEn X, T)] t9) A)) (by decide) rfl (Nat.le_of_ble_eq_true rfl) ?_
  intro p e s m args below meth c A Q ls hQ hx hb hml hr hlocks hin hts hown hN hK hP hD hS hA hsz hAe hl
  clear hAe
  have hl : lv_has ls 2 [(0, .ref (ra 0)), (1, .int (nI k))] := hl
  suffices K9 : ∀ (H : Heap) (locs : List Loc), va_P D vwCl (bkF [mW cy ra (kEn X, T)]) H → va_S A s.heap H locs → W p l e (headSpec wsX5_litOf rm_X5_litOf).room s m args below meth c H locs 0 0 Q (F0 m 0 ls []) from K9 _ _ hP hS
  clear hP hS
  intro H locs hP hS
  refine lv_iload_n hx hb dX5_litOf_0 rfl (lv_at hl 1 rfl) ?_
  refine lv_aload_n hx hb dX5_litOf_1 rfl (lv_at hl 0 rfl) ?_
  refine va_get (D := D) (ci := 5) (v := .ref (ra 1)) (C := RX5) (T := TX5) (N := 16) hx hb hts (by decide +kernel) hown hK hP 0 rfl rfl 0 (by decide) (hts (.fieldLink RX5 7 "DanceHallModel" "all" "[I") (by decide +kernel)) (fun _ h9 => h9) rfl dX5_litOf_2 ?_
  refine lv_iconst (v := nI 3) hx hb dX5_litOf_5 (by decide) ?_
  refine va_iald hx hb hK hP 1 0 rfl rfl (vp_in_nI (n := 3) (N := 188) (by omega) (by omega)) dX5_litOf_6 ?_
  refine kv_i (y := nI X.1.2.1) (show ((kEn X)) (nI 3).toNatClampNeg = nI X.1.2.1 from rfl) ?_
  refine lv_iconst (v := nI 2) hx hb dX5_litOf_7 (by decide) ?_
  refine lv_idiv hx hb dX5_litOf_8 (by decide) ?_
  refine kv_i (y := nI (X.1.2.1 / 2)) (pk_div (by omega) (by omega) (by omega)) ?_
  refine lv_icmp_ge (tgt := 16) hx hb dX5_litOf_9 (by decide) (fun c_9 => ?_) (fun c_9 => ?_)
  · skip
    have c_9 : (X.1.2.1 / 2) ≤ k := (nI_leI (a := X.1.2.1 / 2) (b := k) (by omega) (by omega)).mp c_9
    refine lv_aload_n hx hb dX5_litOf_16 rfl (lv_at hl 0 rfl) ?_
    refine va_get (D := D) (ci := 5) (v := .ref (ra 1)) (C := RX5) (T := TX5) (N := 16) hx hb hts (by decide +kernel) hown hK hP 0 rfl rfl 0 (by decide) (hts (.fieldLink RX5 7 "DanceHallModel" "all" "[I") (by decide +kernel)) (fun _ h9 => h9) rfl dX5_litOf_17 ?_
    refine lv_iconst (v := nI 3) hx hb dX5_litOf_20 (by decide) ?_
    refine va_iald hx hb hK hP 1 0 rfl rfl (vp_in_nI (n := 3) (N := 188) (by omega) (by omega)) dX5_litOf_21 ?_
    refine kv_i (y := nI X.1.2.1) (show ((kEn X)) (nI 3).toNatClampNeg = nI X.1.2.1 from rfl) ?_
    refine lv_iconst (v := nI 2) hx hb dX5_litOf_22 (by decide) ?_
    refine lv_idiv hx hb dX5_litOf_23 (by decide) ?_
    refine kv_i (y := nI (X.1.2.1 / 2)) (pk_div (by omega) (by omega) (by omega)) ?_
    exact kr_i (post := fun r_ (u_ : Unit) => r_ = nI (min k (X.1.2.1 / 2))) (Bs := fun u_ : Unit => [mW cy ra (kEn X, T)]) hx hb hr hlocks rfl () hP hK hD hS (congrArg nI (by omega)) dX5_litOf_24 hQ
  · skip
    have c_9 : ¬ ((X.1.2.1 / 2) ≤ k) := fun h => c_9 ((nI_leI (a := X.1.2.1 / 2) (b := k) (by omega) (by omega)).mpr h)
    refine lv_iload_n hx hb dX5_litOf_12 rfl (lv_at hl 1 rfl) ?_
    refine lv_goto (tgt := 24) hx hb dX5_litOf_13 (by decide) ?_
    exact kr_i (post := fun r_ (u_ : Unit) => r_ = nI (min k (X.1.2.1 / 2))) (Bs := fun u_ : Unit => [mW cy ra (kEn X, T)]) hx hb hr hlocks rfl () hP hK hD hS (congrArg nI (by omega)) dX5_litOf_24 hQ
abbrev rm_X5_save_y : Room := { frames := 0, cells := 0, slots := 0, locals := 0 }
set_option maxHeartbeats 1000000 in
set_option maxRecDepth 100000 in
/-- save -/
theorem c_X5_save_y (l : Launch) (D : va_G) (cy : Nat → ClassId) (ra : Nat → Nat) (al : Nat → Int32) (T : rV) (hs4 : T.2.2.1 = 4) (sz : Nat) : Met l yX5_save wsX5_save rm_X5_save_y (va_Pc [.ref (ra 0)] (kPre D (kT cy) [mW cy ra (al, T)] sz)) (va_Qv (fun u_ : Unit => True) (kFr D (kT cy) [mW cy ra (al, T)] sz (fun u_ : Unit => [mW cy ra (al, (kPt9 564 al (kSh T.1 564) 188, T.2.1, 4, T.2.2.2))])) (va_A (bkF [mW cy ra (al, T)]) sz)) 0 0 (va_A (bkF [mW cy ra (al, T)]) sz) := by
  refine kOpen (y := yX5_save) (ws := wsX5_save) (cc := cX5_save) (maxL := 2) (ret := none) (av := [.ref (ra 0)]) (Bs := [mW cy ra (al, T)]) (Qc := fun A => (va_Qv (fun u_ : Unit => True) (fun (u_ : Unit) t9 => kEnd D (kT cy) A [mW cy ra (al, (kPt9 564 al (kSh T.1 564) 188, T.2.1, 4, T.2.2.2))] t9) A)) (by decide) rfl (Nat.le_of_ble_eq_true rfl) ?_
  intro p e s m args below meth c A Q ls hQ hx hb hml hr hlocks hin hts hown hN hK hP hD hS hA hsz hAe hl
  clear hAe
  have hl : lv_has ls 2 [(0, .ref (ra 0))] := hl
  suffices K9 : ∀ (H : Heap) (locs : List Loc), va_P D vwCl (bkF [mW cy ra (al, T)]) H → va_S A s.heap H locs → W p l e (headSpec wsX5_save rm_X5_save_y).room s m args below meth c H locs 0 0 Q (F0 m 0 ls []) from K9 _ _ hP hS
  clear hP hS
  intro H locs hP hS
  refine lv_aload_n hx hb dX5_save_0 rfl (lv_at hl 0 rfl) ?_
  refine va_get (D := D) (ci := 5) (v := .int (nI T.2.2.1)) (C := RX5) (T := TX5) (N := 16) hx hb hts (by decide +kernel) hown hK hP 0 rfl rfl 3 (by decide) (hts (.fieldLink RX5 48 "DanceHallModel" "savedMany" "I") (by decide +kernel)) (fun _ h9 => h9) rfl dX5_save_1 ?_
  refine lv_iconst (v := nI 4) hx hb dX5_save_4 (by decide) ?_
  refine lv_icmp_ne (tgt := 49) hx hb dX5_save_5 (by decide) (fun c_5 => False.elim ?_) (fun c_5 => ?_)
  · skip
    have c_5 : ¬ (T.2.2.1 = 4) := fun h => c_5 ((nI_eq (a := T.2.2.1) (b := 4) (by omega) (by omega)).mpr h)
    omega
  · skip
    have c_5 : T.2.2.1 = 4 := (nI_eq (a := T.2.2.1) (b := 4) (by omega) (by omega)).mp c_5
    refine lv_iconst (v := nI 0) hx hb dX5_save_8 (by decide) ?_
    refine lv_istore_n (lv' := [(1, .int (nI 0)), (0, .ref (ra 0))]) hx hb dX5_save_9 rfl hl (by decide) rfl (fun ls hl => ?_)
    have hP := kP_cell (g := (kSh T.1 0)) hP 2 rfl (fun j _ => by unfold kSh; rw [if_neg (Nat.not_lt_zero j)])
    have hD := hD.set (p := 2) (e := .inl (cy 0, 752, .inl (kSh T.1 0))) rfl
    have hP : va_P D vwCl (bkF [mW cy ra (al, (kSh T.1 0, T.2))]) H := hP
    have hD : va_D A (bkF [mW cy ra (al, (kSh T.1 0, T.2))]) := hD
    have L_10 : ∀ (n9 : Nat) (i : Nat), 564 - i = n9 → (i ≤ 564) → ∀ (ls : Array Slot) (H : Heap) (locs : List Loc), va_P D vwCl (bkF [mW cy ra (al, (kSh T.1 i, T.2))]) H → va_D A (bkF [mW cy ra (al, (kSh T.1 i, T.2))]) → va_S A s.heap H locs → lv_has ls 2 [(0, .ref (ra 0)), (1, .int (nI i))] → W p l e (headSpec wsX5_save rm_X5_save_y).room s m args below meth c H locs 0 0 Q (F0 m 10 ls []) := by
      intro n9
      induction n9 using Nat.strongRecOn with
      | _ n9 ih_10 =>
      intro i hm_10 h10_0 ls H locs hP hD hS hl
      refine lv_iload_n hx hb dX5_save_10 rfl (lv_at hl 1 rfl) ?_
      refine lv_sipush (v := nI 564) hx hb dX5_save_11 (by decide) ?_
      refine lv_icmp_ge (tgt := 39) hx hb dX5_save_14 (by decide) (fun c_14 => ?_) (fun c_14 => ?_)
      · skip
        have c_14 : 564 ≤ i := (nI_leI (a := 564) (b := i) (by omega) (by omega)).mp c_14
        obtain rfl : i = 564 := (by omega)
        refine lv_aload_n hx hb dX5_save_39 rfl (lv_at hl 0 rfl) ?_
        refine lv_dup hx hb dX5_save_40 rfl ?_
        refine va_get (D := D) (ci := 5) (v := .int (nI T.2.2.1)) (C := RX5) (T := TX5) (N := 16) hx hb hts (by decide +kernel) hown hK hP 0 rfl rfl 3 (by decide) (hts (.fieldLink RX5 48 "DanceHallModel" "savedMany" "I") (by decide +kernel)) (fun _ h9 => h9) rfl dX5_save_41 ?_
        refine lv_iconst (v := nI 1) hx hb dX5_save_44 (by decide) ?_
        refine lv_isub hx hb dX5_save_45 ?_
        refine kv_i (y := nI 3) (by rw [hs4]; decide) ?_
        refine va_put (D := D) (ci := 5) (v := .int (nI 3)) (ty := .int) (C := RX5) (T := TX5) (N := 16) hx hb hts (by decide +kernel) tyX5 tyX5_ok nmX5 hown hK hP hD hS 0 rfl rfl 3 (by decide) (hts (.fieldLink RX5 48 "DanceHallModel" "savedMany" "I") (by decide +kernel)) (fun _ h9 => h9) rfl (by decide +kernel) rfl rfl (Nat.le_of_ble_eq_true rfl) dX5_save_46 (fun H locs hP hD hS => ?_)
        have hP : va_P D vwCl (bkF [mW cy ra (al, (kSh T.1 564, T.2.1, 3, T.2.2.2))]) H := hP
        have hD : va_D A (bkF [mW cy ra (al, (kSh T.1 564, T.2.1, 3, T.2.2.2))]) := hD
        refine lv_iconst (v := nI 0) hx hb dX5_save_49 (by decide) ?_
        refine lv_istore_n (lv' := [(1, .int (nI 0)), (0, .ref (ra 0))]) hx hb dX5_save_50 rfl hl (by decide) rfl (fun ls hl => ?_)
        have hP := kP_cell (g := (kPt9 564 al (kSh T.1 564) 0)) hP 2 rfl (fun j _ => kPt9_0 j)
        have hD := hD.set (p := 2) (e := .inl (cy 0, 752, .inl (kPt9 564 al (kSh T.1 564) 0))) rfl
        have hP : va_P D vwCl (bkF [mW cy ra (al, (kPt9 564 al (kSh T.1 564) 0, T.2.1, 3, T.2.2.2))]) H := hP
        have hD : va_D A (bkF [mW cy ra (al, (kPt9 564 al (kSh T.1 564) 0, T.2.1, 3, T.2.2.2))]) := hD
        have L_51 : ∀ (n9 : Nat) (i : Nat), 188 - i = n9 → (i ≤ 188) → ∀ (ls : Array Slot) (H : Heap) (locs : List Loc), va_P D vwCl (bkF [mW cy ra (al, (kPt9 564 al (kSh T.1 564) i, T.2.1, 3, T.2.2.2))]) H → va_D A (bkF [mW cy ra (al, (kPt9 564 al (kSh T.1 564) i, T.2.1, 3, T.2.2.2))]) → va_S A s.heap H locs → lv_has ls 2 [(0, .ref (ra 0)), (1, .int (nI i))] → W p l e (headSpec wsX5_save rm_X5_save_y).room s m args below meth c H locs 0 0 Q (F0 m 51 ls []) := by
          intro n9
          induction n9 using Nat.strongRecOn with
          | _ n9 ih_51 =>
          intro i hm_51 h51_0 ls H locs hP hD hS hl
          refine lv_iload_n hx hb dX5_save_51 rfl (lv_at hl 1 rfl) ?_
          refine lv_sipush (v := nI 188) hx hb dX5_save_52 (by decide) ?_
          refine lv_icmp_ge (tgt := 85) hx hb dX5_save_55 (by decide) (fun c_55 => ?_) (fun c_55 => ?_)
          · skip
            have c_55 : 188 ≤ i := (nI_leI (a := 188) (b := i) (by omega) (by omega)).mp c_55
            refine lv_aload_n hx hb dX5_save_85 rfl (lv_at hl 0 rfl) ?_
            refine lv_dup hx hb dX5_save_86 rfl ?_
            refine va_get (D := D) (ci := 5) (v := .int (nI 3)) (C := RX5) (T := TX5) (N := 16) hx hb hts (by decide +kernel) hown hK hP 0 rfl rfl 3 (by decide) (hts (.fieldLink RX5 48 "DanceHallModel" "savedMany" "I") (by decide +kernel)) (fun _ h9 => h9) rfl dX5_save_87 ?_
            refine lv_iconst (v := nI 1) hx hb dX5_save_90 (by decide) ?_
            refine lv_iadd hx hb dX5_save_91 ?_
            refine kv_i (y := nI 4) (by decide) ?_
            refine va_put (D := D) (ci := 5) (v := .int (nI 4)) (ty := .int) (C := RX5) (T := TX5) (N := 16) hx hb hts (by decide +kernel) tyX5 tyX5_ok nmX5 hown hK hP hD hS 0 rfl rfl 3 (by decide) (hts (.fieldLink RX5 48 "DanceHallModel" "savedMany" "I") (by decide +kernel)) (fun _ h9 => h9) rfl (by decide +kernel) rfl rfl (Nat.le_of_ble_eq_true rfl) dX5_save_92 (fun H locs hP hD hS => ?_)
            have hP : va_P D vwCl (bkF [mW cy ra (al, (kPt9 564 al (kSh T.1 564) i, T.2.1, 4, T.2.2.2))]) H := hP
            have hD : va_D A (bkF [mW cy ra (al, (kPt9 564 al (kSh T.1 564) i, T.2.1, 4, T.2.2.2))]) := hD
            have hP := kP_cell (g := (kPt9 564 al (kSh T.1 564) 188)) hP 2 rfl (fun _ _ => by rw [show i = 188 from by omega])
            have hD := hD.set (p := 2) (e := .inl (cy 0, 752, .inl (kPt9 564 al (kSh T.1 564) 188))) rfl
            have hP : va_P D vwCl (bkF [mW cy ra (al, (kPt9 564 al (kSh T.1 564) 188, T.2.1, 4, T.2.2.2))]) H := hP
            have hD : va_D A (bkF [mW cy ra (al, (kPt9 564 al (kSh T.1 564) 188, T.2.1, 4, T.2.2.2))]) := hD
            exact kr_v (post := fun u_ : Unit => True) (Bs := fun u_ : Unit => [mW cy ra (al, (kPt9 564 al (kSh T.1 564) 188, T.2.1, 4, T.2.2.2))]) hx hb hr hlocks () hP hK hD hS trivial dX5_save_95 hQ
          · skip
            have c_55 : ¬ (188 ≤ i) := fun h => c_55 ((nI_leI (a := 188) (b := i) (by omega) (by omega)).mpr h)
            refine lv_aload_n hx hb dX5_save_58 rfl (lv_at hl 0 rfl) ?_
            refine va_get (D := D) (ci := 5) (v := .ref (ra 2)) (C := RX5) (T := TX5) (N := 16) hx hb hts (by decide +kernel) hown hK hP 0 rfl rfl 1 (by decide) (hts (.fieldLink RX5 13 "DanceHallModel" "saved" "[I") (by decide +kernel)) (fun _ h9 => h9) rfl dX5_save_59 ?_
            refine lv_sipush (v := nI 188) hx hb dX5_save_62 (by decide) ?_
            refine lv_aload_n hx hb dX5_save_65 rfl (lv_at hl 0 rfl) ?_
            refine va_get (D := D) (ci := 5) (v := .int (nI 3)) (C := RX5) (T := TX5) (N := 16) hx hb hts (by decide +kernel) hown hK hP 0 rfl rfl 3 (by decide) (hts (.fieldLink RX5 48 "DanceHallModel" "savedMany" "I") (by decide +kernel)) (fun _ h9 => h9) rfl dX5_save_66 ?_
            refine lv_imul hx hb dX5_save_69 ?_
            refine kv_i (y := nI 564) (by decide) ?_
            refine lv_iload_n hx hb dX5_save_70 rfl (lv_at hl 1 rfl) ?_
            refine lv_iadd hx hb dX5_save_71 ?_
            refine kv_i (y := nI (564 + i)) (nI_add 564 i) ?_
            refine lv_aload_n hx hb dX5_save_72 rfl (lv_at hl 0 rfl) ?_
            refine va_get (D := D) (ci := 5) (v := .ref (ra 1)) (C := RX5) (T := TX5) (N := 16) hx hb hts (by decide +kernel) hown hK hP 0 rfl rfl 0 (by decide) (hts (.fieldLink RX5 7 "DanceHallModel" "all" "[I") (by decide +kernel)) (fun _ h9 => h9) rfl dX5_save_73 ?_
            refine lv_iload_n hx hb dX5_save_76 rfl (lv_at hl 1 rfl) ?_
            refine va_iald hx hb hK hP 1 0 rfl rfl (vp_in_nI (n := i) (N := 188) (by omega) (by omega)) dX5_save_77 ?_
            refine kv_i (y := al i) (congrArg al (nI_clamp (n := i) (by omega))) ?_
            refine va_iast hx hb hK hP hD hS 2 0 rfl rfl (vp_in_nI (n := 564 + i) (N := 752) (by omega) (by omega)) dX5_save_78 (fun H locs hP hD hS => ?_)
            rw [nI_clamp (n := 564 + i) (by omega)] at hP hD
            have hP : va_P D vwCl (bkF [mW cy ra (al, (upd (kPt9 564 al (kSh T.1 564) i) (564 + i) (al i), T.2.1, 3, T.2.2.2))]) H := hP
            have hD : va_D A (bkF [mW cy ra (al, (upd (kPt9 564 al (kSh T.1 564) i) (564 + i) (al i), T.2.1, 3, T.2.2.2))]) := hD
            refine lv_iinc (v := nI (i + 1)) (lv' := [(1, .int (nI (i + 1))), (0, .ref (ra 0))]) hx hb dX5_save_79 hl (k := 1) rfl (nI_add i 1) (by decide) rfl (fun ls hl => ?_)
            refine lv_goto (tgt := 51) hx hb dX5_save_82 (by decide) ?_
            have hP := kP_cell (g := (kPt9 564 al (kSh T.1 564) (i + 1))) hP 2 rfl (fun j _ => kPt9_s j)
            have hD := hD.set (p := 2) (e := .inl (cy 0, 752, .inl (kPt9 564 al (kSh T.1 564) (i + 1)))) rfl
            have hP : va_P D vwCl (bkF [mW cy ra (al, (kPt9 564 al (kSh T.1 564) (i + 1), T.2.1, 3, T.2.2.2))]) H := hP
            have hD : va_D A (bkF [mW cy ra (al, (kPt9 564 al (kSh T.1 564) (i + 1), T.2.1, 3, T.2.2.2))]) := hD
            exact ih_51 _ (by omega) (i + 1) rfl (by omega) ls H locs hP hD hS (lv_sub hl [1, 0] rfl)
        exact L_51 _ 0  rfl (by omega) ls H locs hP hD hS (lv_sub hl [1, 0] rfl)
      · skip
        have c_14 : ¬ (564 ≤ i) := fun h => c_14 ((nI_leI (a := 564) (b := i) (by omega) (by omega)).mpr h)
        refine lv_aload_n hx hb dX5_save_17 rfl (lv_at hl 0 rfl) ?_
        refine va_get (D := D) (ci := 5) (v := .ref (ra 2)) (C := RX5) (T := TX5) (N := 16) hx hb hts (by decide +kernel) hown hK hP 0 rfl rfl 1 (by decide) (hts (.fieldLink RX5 13 "DanceHallModel" "saved" "[I") (by decide +kernel)) (fun _ h9 => h9) rfl dX5_save_18 ?_
        refine lv_iload_n hx hb dX5_save_21 rfl (lv_at hl 1 rfl) ?_
        refine lv_aload_n hx hb dX5_save_22 rfl (lv_at hl 0 rfl) ?_
        refine va_get (D := D) (ci := 5) (v := .ref (ra 2)) (C := RX5) (T := TX5) (N := 16) hx hb hts (by decide +kernel) hown hK hP 0 rfl rfl 1 (by decide) (hts (.fieldLink RX5 13 "DanceHallModel" "saved" "[I") (by decide +kernel)) (fun _ h9 => h9) rfl dX5_save_23 ?_
        refine lv_iload_n hx hb dX5_save_26 rfl (lv_at hl 1 rfl) ?_
        refine lv_sipush (v := nI 188) hx hb dX5_save_27 (by decide) ?_
        refine lv_iadd hx hb dX5_save_30 ?_
        refine kv_i (y := nI (i + 188)) (nI_add i 188) ?_
        refine va_iald hx hb hK hP 2 0 rfl rfl (vp_in_nI (n := i + 188) (N := 752) (by omega) (by omega)) dX5_save_31 ?_
        refine kv_i (y := (kSh T.1 i) (i + 188)) (congrArg (kSh T.1 i) (nI_clamp (n := i + 188) (by omega))) ?_
        refine va_iast hx hb hK hP hD hS 2 0 rfl rfl (vp_in_nI (n := i) (N := 752) (by omega) (by omega)) dX5_save_32 (fun H locs hP hD hS => ?_)
        rw [nI_clamp (n := i) (by omega)] at hP hD
        have hP : va_P D vwCl (bkF [mW cy ra (al, (upd (kSh T.1 i) i ((kSh T.1 i) (i + 188)), T.2))]) H := hP
        have hD : va_D A (bkF [mW cy ra (al, (upd (kSh T.1 i) i ((kSh T.1 i) (i + 188)), T.2))]) := hD
        refine lv_iinc (v := nI (i + 1)) (lv' := [(1, .int (nI (i + 1))), (0, .ref (ra 0))]) hx hb dX5_save_33 hl (k := 1) rfl (nI_add i 1) (by decide) rfl (fun ls hl => ?_)
        refine lv_goto (tgt := 10) hx hb dX5_save_36 (by decide) ?_
        have hP := kP_cell (g := (kSh T.1 (i + 1))) hP 2 rfl (fun j _ => kSh_s j)
        have hD := hD.set (p := 2) (e := .inl (cy 0, 752, .inl (kSh T.1 (i + 1)))) rfl
        have hP : va_P D vwCl (bkF [mW cy ra (al, (kSh T.1 (i + 1), T.2))]) H := hP
        have hD : va_D A (bkF [mW cy ra (al, (kSh T.1 (i + 1), T.2))]) := hD
        exact ih_10 _ (by omega) (i + 1) rfl (by omega) ls H locs hP hD hS (lv_sub hl [1, 0] rfl)
    exact L_10 _ 0  rfl (by omega) ls H locs hP hD hS (lv_sub hl [1, 0] rfl)
set_option maxHeartbeats 1000000 in
set_option maxRecDepth 100000 in
/-- save -/
theorem c_X5_save_n (l : Launch) (D : va_G) (cy : Nat → ClassId) (ra : Nat → Nat) (al : Nat → Int32) (T : rV) (hs4 : T.2.2.1 < 4) (sz : Nat) : Met l yX5_save wsX5_save rm_X5_save_y (va_Pc [.ref (ra 0)] (kPre D (kT cy) [mW cy ra (al, T)] sz)) (va_Qv (fun u_ : Unit => True) (kFr D (kT cy) [mW cy ra (al, T)] sz (fun u_ : Unit => [mW cy ra (al, (kPt9 (188 * T.2.2.1) al (T.1) 188, T.2.1, T.2.2.1 + 1, T.2.2.2))])) (va_A (bkF [mW cy ra (al, T)]) sz)) 0 0 (va_A (bkF [mW cy ra (al, T)]) sz) := by
  refine kOpen (y := yX5_save) (ws := wsX5_save) (cc := cX5_save) (maxL := 2) (ret := none) (av := [.ref (ra 0)]) (Bs := [mW cy ra (al, T)]) (Qc := fun A => (va_Qv (fun u_ : Unit => True) (fun (u_ : Unit) t9 => kEnd D (kT cy) A [mW cy ra (al, (kPt9 (188 * T.2.2.1) al (T.1) 188, T.2.1, T.2.2.1 + 1, T.2.2.2))] t9) A)) (by decide) rfl (Nat.le_of_ble_eq_true rfl) ?_
  intro p e s m args below meth c A Q ls hQ hx hb hml hr hlocks hin hts hown hN hK hP hD hS hA hsz hAe hl
  clear hAe
  have hl : lv_has ls 2 [(0, .ref (ra 0))] := hl
  suffices K9 : ∀ (H : Heap) (locs : List Loc), va_P D vwCl (bkF [mW cy ra (al, T)]) H → va_S A s.heap H locs → W p l e (headSpec wsX5_save rm_X5_save_y).room s m args below meth c H locs 0 0 Q (F0 m 0 ls []) from K9 _ _ hP hS
  clear hP hS
  intro H locs hP hS
  refine lv_aload_n hx hb dX5_save_0 rfl (lv_at hl 0 rfl) ?_
  refine va_get (D := D) (ci := 5) (v := .int (nI T.2.2.1)) (C := RX5) (T := TX5) (N := 16) hx hb hts (by decide +kernel) hown hK hP 0 rfl rfl 3 (by decide) (hts (.fieldLink RX5 48 "DanceHallModel" "savedMany" "I") (by decide +kernel)) (fun _ h9 => h9) rfl dX5_save_1 ?_
  refine lv_iconst (v := nI 4) hx hb dX5_save_4 (by decide) ?_
  refine lv_icmp_ne (tgt := 49) hx hb dX5_save_5 (by decide) (fun c_5 => ?_) (fun c_5 => False.elim ?_)
  · skip
    have c_5 : ¬ (T.2.2.1 = 4) := fun h => c_5 ((nI_eq (a := T.2.2.1) (b := 4) (by omega) (by omega)).mpr h)
    refine lv_iconst (v := nI 0) hx hb dX5_save_49 (by decide) ?_
    refine lv_istore_n (lv' := [(1, .int (nI 0)), (0, .ref (ra 0))]) hx hb dX5_save_50 rfl hl (by decide) rfl (fun ls hl => ?_)
    have hP := kP_cell (g := (kPt9 (188 * T.2.2.1) al (T.1) 0)) hP 2 rfl (fun j _ => kPt9_0 j)
    have hD := hD.set (p := 2) (e := .inl (cy 0, 752, .inl (kPt9 (188 * T.2.2.1) al (T.1) 0))) rfl
    have hP : va_P D vwCl (bkF [mW cy ra (al, (kPt9 (188 * T.2.2.1) al (T.1) 0, T.2))]) H := hP
    have hD : va_D A (bkF [mW cy ra (al, (kPt9 (188 * T.2.2.1) al (T.1) 0, T.2))]) := hD
    have L_51 : ∀ (n9 : Nat) (i : Nat), 188 - i = n9 → (i ≤ 188) → ∀ (ls : Array Slot) (H : Heap) (locs : List Loc), va_P D vwCl (bkF [mW cy ra (al, (kPt9 (188 * T.2.2.1) al (T.1) i, T.2))]) H → va_D A (bkF [mW cy ra (al, (kPt9 (188 * T.2.2.1) al (T.1) i, T.2))]) → va_S A s.heap H locs → lv_has ls 2 [(0, .ref (ra 0)), (1, .int (nI i))] → W p l e (headSpec wsX5_save rm_X5_save_y).room s m args below meth c H locs 0 0 Q (F0 m 51 ls []) := by
      intro n9
      induction n9 using Nat.strongRecOn with
      | _ n9 ih_51 =>
      intro i hm_51 h51_0 ls H locs hP hD hS hl
      refine lv_iload_n hx hb dX5_save_51 rfl (lv_at hl 1 rfl) ?_
      refine lv_sipush (v := nI 188) hx hb dX5_save_52 (by decide) ?_
      refine lv_icmp_ge (tgt := 85) hx hb dX5_save_55 (by decide) (fun c_55 => ?_) (fun c_55 => ?_)
      · skip
        have c_55 : 188 ≤ i := (nI_leI (a := 188) (b := i) (by omega) (by omega)).mp c_55
        refine lv_aload_n hx hb dX5_save_85 rfl (lv_at hl 0 rfl) ?_
        refine lv_dup hx hb dX5_save_86 rfl ?_
        refine va_get (D := D) (ci := 5) (v := .int (nI T.2.2.1)) (C := RX5) (T := TX5) (N := 16) hx hb hts (by decide +kernel) hown hK hP 0 rfl rfl 3 (by decide) (hts (.fieldLink RX5 48 "DanceHallModel" "savedMany" "I") (by decide +kernel)) (fun _ h9 => h9) rfl dX5_save_87 ?_
        refine lv_iconst (v := nI 1) hx hb dX5_save_90 (by decide) ?_
        refine lv_iadd hx hb dX5_save_91 ?_
        refine kv_i (y := nI (T.2.2.1 + 1)) (nI_add T.2.2.1 1) ?_
        refine va_put (D := D) (ci := 5) (v := .int (nI (T.2.2.1 + 1))) (ty := .int) (C := RX5) (T := TX5) (N := 16) hx hb hts (by decide +kernel) tyX5 tyX5_ok nmX5 hown hK hP hD hS 0 rfl rfl 3 (by decide) (hts (.fieldLink RX5 48 "DanceHallModel" "savedMany" "I") (by decide +kernel)) (fun _ h9 => h9) rfl (by decide +kernel) rfl rfl (Nat.le_of_ble_eq_true rfl) dX5_save_92 (fun H locs hP hD hS => ?_)
        have hP : va_P D vwCl (bkF [mW cy ra (al, (kPt9 (188 * T.2.2.1) al (T.1) i, T.2.1, T.2.2.1 + 1, T.2.2.2))]) H := hP
        have hD : va_D A (bkF [mW cy ra (al, (kPt9 (188 * T.2.2.1) al (T.1) i, T.2.1, T.2.2.1 + 1, T.2.2.2))]) := hD
        have hP := kP_cell (g := (kPt9 (188 * T.2.2.1) al (T.1) 188)) hP 2 rfl (fun _ _ => by rw [show i = 188 from by omega])
        have hD := hD.set (p := 2) (e := .inl (cy 0, 752, .inl (kPt9 (188 * T.2.2.1) al (T.1) 188))) rfl
        have hP : va_P D vwCl (bkF [mW cy ra (al, (kPt9 (188 * T.2.2.1) al (T.1) 188, T.2.1, T.2.2.1 + 1, T.2.2.2))]) H := hP
        have hD : va_D A (bkF [mW cy ra (al, (kPt9 (188 * T.2.2.1) al (T.1) 188, T.2.1, T.2.2.1 + 1, T.2.2.2))]) := hD
        exact kr_v (post := fun u_ : Unit => True) (Bs := fun u_ : Unit => [mW cy ra (al, (kPt9 (188 * T.2.2.1) al (T.1) 188, T.2.1, T.2.2.1 + 1, T.2.2.2))]) hx hb hr hlocks () hP hK hD hS trivial dX5_save_95 hQ
      · skip
        have c_55 : ¬ (188 ≤ i) := fun h => c_55 ((nI_leI (a := 188) (b := i) (by omega) (by omega)).mpr h)
        refine lv_aload_n hx hb dX5_save_58 rfl (lv_at hl 0 rfl) ?_
        refine va_get (D := D) (ci := 5) (v := .ref (ra 2)) (C := RX5) (T := TX5) (N := 16) hx hb hts (by decide +kernel) hown hK hP 0 rfl rfl 1 (by decide) (hts (.fieldLink RX5 13 "DanceHallModel" "saved" "[I") (by decide +kernel)) (fun _ h9 => h9) rfl dX5_save_59 ?_
        refine lv_sipush (v := nI 188) hx hb dX5_save_62 (by decide) ?_
        refine lv_aload_n hx hb dX5_save_65 rfl (lv_at hl 0 rfl) ?_
        refine va_get (D := D) (ci := 5) (v := .int (nI T.2.2.1)) (C := RX5) (T := TX5) (N := 16) hx hb hts (by decide +kernel) hown hK hP 0 rfl rfl 3 (by decide) (hts (.fieldLink RX5 48 "DanceHallModel" "savedMany" "I") (by decide +kernel)) (fun _ h9 => h9) rfl dX5_save_66 ?_
        refine lv_imul hx hb dX5_save_69 ?_
        refine kv_i (y := nI (188 * T.2.2.1)) (pk_mul 188 T.2.2.1) ?_
        refine lv_iload_n hx hb dX5_save_70 rfl (lv_at hl 1 rfl) ?_
        refine lv_iadd hx hb dX5_save_71 ?_
        refine kv_i (y := nI ((188 * T.2.2.1) + i)) (nI_add (188 * T.2.2.1) i) ?_
        refine lv_aload_n hx hb dX5_save_72 rfl (lv_at hl 0 rfl) ?_
        refine va_get (D := D) (ci := 5) (v := .ref (ra 1)) (C := RX5) (T := TX5) (N := 16) hx hb hts (by decide +kernel) hown hK hP 0 rfl rfl 0 (by decide) (hts (.fieldLink RX5 7 "DanceHallModel" "all" "[I") (by decide +kernel)) (fun _ h9 => h9) rfl dX5_save_73 ?_
        refine lv_iload_n hx hb dX5_save_76 rfl (lv_at hl 1 rfl) ?_
        refine va_iald hx hb hK hP 1 0 rfl rfl (vp_in_nI (n := i) (N := 188) (by omega) (by omega)) dX5_save_77 ?_
        refine kv_i (y := al i) (congrArg al (nI_clamp (n := i) (by omega))) ?_
        refine va_iast hx hb hK hP hD hS 2 0 rfl rfl (vp_in_nI (n := (188 * T.2.2.1) + i) (N := 752) (by omega) (by omega)) dX5_save_78 (fun H locs hP hD hS => ?_)
        rw [nI_clamp (n := (188 * T.2.2.1) + i) (by omega)] at hP hD
        have hP : va_P D vwCl (bkF [mW cy ra (al, (upd (kPt9 (188 * T.2.2.1) al (T.1) i) ((188 * T.2.2.1) + i) (al i), T.2))]) H := hP
        have hD : va_D A (bkF [mW cy ra (al, (upd (kPt9 (188 * T.2.2.1) al (T.1) i) ((188 * T.2.2.1) + i) (al i), T.2))]) := hD
        refine lv_iinc (v := nI (i + 1)) (lv' := [(1, .int (nI (i + 1))), (0, .ref (ra 0))]) hx hb dX5_save_79 hl (k := 1) rfl (nI_add i 1) (by decide) rfl (fun ls hl => ?_)
        refine lv_goto (tgt := 51) hx hb dX5_save_82 (by decide) ?_
        have hP := kP_cell (g := (kPt9 (188 * T.2.2.1) al (T.1) (i + 1))) hP 2 rfl (fun j _ => kPt9_s j)
        have hD := hD.set (p := 2) (e := .inl (cy 0, 752, .inl (kPt9 (188 * T.2.2.1) al (T.1) (i + 1)))) rfl
        have hP : va_P D vwCl (bkF [mW cy ra (al, (kPt9 (188 * T.2.2.1) al (T.1) (i + 1), T.2))]) H := hP
        have hD : va_D A (bkF [mW cy ra (al, (kPt9 (188 * T.2.2.1) al (T.1) (i + 1), T.2))]) := hD
        exact ih_51 _ (by omega) (i + 1) rfl (by omega) ls H locs hP hD hS (lv_sub hl [1, 0] rfl)
    exact L_51 _ 0  rfl (by omega) ls H locs hP hD hS (lv_sub hl [1, 0] rfl)
  · skip
    have c_5 : T.2.2.1 = 4 := (nI_eq (a := T.2.2.1) (b := 4) (by omega) (by omega)).mp c_5
    omega
theorem c_X5_save (l : Launch) (D : va_G) (cy : Nat → ClassId) (ra : Nat → Nat) (X : rS) (T : rV) (hsm : T.2.2.1 ≤ 4) (sz : Nat) : Met l yX5_save wsX5_save rm_X5_save_y (va_Pc [.ref (ra 0)] (kPre D (kT cy) [mW cy ra (kEn X, T)] sz)) (va_Qv (fun u_ : Unit => True) (kFr D (kT cy) [mW cy ra (kEn X, T)] sz (fun u_ : Unit => [mW cy ra (kEn X, (kRsv (kEn X) T.1 T.2.2.1, T.2.1, kSc T.2.2.1, T.2.2.2))])) (va_A (bkF [mW cy ra (kEn X, T)]) sz)) 0 0 (va_A (bkF [mW cy ra (kEn X, T)]) sz) := by
  by_cases h4 : T.2.2.1 = 4
  · have h := c_X5_save_y l D cy ra (kEn X) T h4 sz
    rw [kRsv_y h4, kSc_y h4]
    exact h
  · have h := c_X5_save_n l D cy ra (kEn X) T (by omega) sz
    rw [kRsv_n h4, kSc_n (by omega)]
    exact h
abbrev rm_X5_laysAside : Room := { frames := 0, cells := 0, slots := 0, locals := 0 }
set_option maxHeartbeats 1000000 in
set_option maxRecDepth 100000 in
/-- laysAside -/
theorem c_X5_laysAside (l : Launch) (D : va_G) (cy : Nat → ClassId) (ra : Nat → Nat) (al : Nat → Int32) (T : rV) (sz : Nat) : Met l yX5_laysAside wsX5_laysAside rm_X5_laysAside (va_Pc [.ref (ra 0)] (kPre D (kT cy) [mW cy ra (al, T)] sz)) (va_Qv (fun u_ : Unit => True) (kFr D (kT cy) [mW cy ra (al, T)] sz (fun u_ : Unit => [mW cy ra (al, (T.1, al, T.2.2))])) (va_A (bkF [mW cy ra (al, T)]) sz)) 0 0 (va_A (bkF [mW cy ra (al, T)]) sz) := by
  refine kOpen (y := yX5_laysAside) (ws := wsX5_laysAside) (cc := cX5_laysAside) (maxL := 2) (ret := none) (av := [.ref (ra 0)]) (Bs := [mW cy ra (al, T)]) (Qc := fun A => (va_Qv (fun u_ : Unit => True) (fun (u_ : Unit) t9 => kEnd D (kT cy) A [mW cy ra (al, (T.1, al, T.2.2))] t9) A)) (by decide) rfl (Nat.le_of_ble_eq_true rfl) ?_
  intro p e s m args below meth c A Q ls hQ hx hb hml hr hlocks hin hts hown hN hK hP hD hS hA hsz hAe hl
  clear hAe
  have hl : lv_has ls 2 [(0, .ref (ra 0))] := hl
  suffices K9 : ∀ (H : Heap) (locs : List Loc), va_P D vwCl (bkF [mW cy ra (al, T)]) H → va_S A s.heap H locs → W p l e (headSpec wsX5_laysAside rm_X5_laysAside).room s m args below meth c H locs 0 0 Q (F0 m 0 ls []) from K9 _ _ hP hS
  clear hP hS
  intro H locs hP hS
  refine lv_iconst (v := nI 0) hx hb dX5_laysAside_0 (by decide) ?_
  refine lv_istore_n (lv' := [(1, .int (nI 0)), (0, .ref (ra 0))]) hx hb dX5_laysAside_1 rfl hl (by decide) rfl (fun ls hl => ?_)
  have hP := kP_cell (g := (kcp al T.2.1 0)) hP 3 rfl (fun j _ => (kcp_0 _ _ j).symm)
  have hD := hD.set (p := 3) (e := .inl (cy 0, 188, .inl (kcp al T.2.1 0))) rfl
  have hP : va_P D vwCl (bkF [mW cy ra (al, (T.1, kcp al T.2.1 0, T.2.2))]) H := hP
  have hD : va_D A (bkF [mW cy ra (al, (T.1, kcp al T.2.1 0, T.2.2))]) := hD
  have L_2 : ∀ (n9 : Nat) (i : Nat), 188 - i = n9 → (i ≤ 188) → ∀ (ls : Array Slot) (H : Heap) (locs : List Loc), va_P D vwCl (bkF [mW cy ra (al, (T.1, kcp al T.2.1 i, T.2.2))]) H → va_D A (bkF [mW cy ra (al, (T.1, kcp al T.2.1 i, T.2.2))]) → va_S A s.heap H locs → lv_has ls 2 [(0, .ref (ra 0)), (1, .int (nI i))] → W p l e (headSpec wsX5_laysAside rm_X5_laysAside).room s m args below meth c H locs 0 0 Q (F0 m 2 ls []) := by
    intro n9
    induction n9 using Nat.strongRecOn with
    | _ n9 ih_2 =>
    intro i hm_2 h2_0 ls H locs hP hD hS hl
    refine lv_iload_n hx hb dX5_laysAside_2 rfl (lv_at hl 1 rfl) ?_
    refine lv_sipush (v := nI 188) hx hb dX5_laysAside_3 (by decide) ?_
    refine lv_icmp_ge (tgt := 27) hx hb dX5_laysAside_6 (by decide) (fun c_6 => ?_) (fun c_6 => ?_)
    · skip
      have c_6 : 188 ≤ i := (nI_leI (a := 188) (b := i) (by omega) (by omega)).mp c_6
      have hP := kP_cell (g := al) hP 3 rfl (fun j hj => kcp_in _ _ (by omega))
      have hD := hD.set (p := 3) (e := .inl (cy 0, 188, .inl al)) rfl
      have hP : va_P D vwCl (bkF [mW cy ra (al, (T.1, al, T.2.2))]) H := hP
      have hD : va_D A (bkF [mW cy ra (al, (T.1, al, T.2.2))]) := hD
      exact kr_v (post := fun u_ : Unit => True) (Bs := fun u_ : Unit => [mW cy ra (al, (T.1, al, T.2.2))]) hx hb hr hlocks () hP hK hD hS trivial dX5_laysAside_27 hQ
    · skip
      have c_6 : ¬ (188 ≤ i) := fun h => c_6 ((nI_leI (a := 188) (b := i) (by omega) (by omega)).mpr h)
      refine lv_aload_n hx hb dX5_laysAside_9 rfl (lv_at hl 0 rfl) ?_
      refine va_get (D := D) (ci := 5) (v := .ref (ra 3)) (C := RX5) (T := TX5) (N := 16) hx hb hts (by decide +kernel) hown hK hP 0 rfl rfl 2 (by decide) (hts (.fieldLink RX5 16 "DanceHallModel" "aside" "[I") (by decide +kernel)) (fun _ h9 => h9) rfl dX5_laysAside_10 ?_
      refine lv_iload_n hx hb dX5_laysAside_13 rfl (lv_at hl 1 rfl) ?_
      refine lv_aload_n hx hb dX5_laysAside_14 rfl (lv_at hl 0 rfl) ?_
      refine va_get (D := D) (ci := 5) (v := .ref (ra 1)) (C := RX5) (T := TX5) (N := 16) hx hb hts (by decide +kernel) hown hK hP 0 rfl rfl 0 (by decide) (hts (.fieldLink RX5 7 "DanceHallModel" "all" "[I") (by decide +kernel)) (fun _ h9 => h9) rfl dX5_laysAside_15 ?_
      refine lv_iload_n hx hb dX5_laysAside_18 rfl (lv_at hl 1 rfl) ?_
      refine va_iald hx hb hK hP 1 0 rfl rfl (vp_in_nI (n := i) (N := 188) (by omega) (by omega)) dX5_laysAside_19 ?_
      refine kv_i (y := al i) (congrArg al (nI_clamp (n := i) (by omega))) ?_
      refine va_iast hx hb hK hP hD hS 3 0 rfl rfl (vp_in_nI (n := i) (N := 188) (by omega) (by omega)) dX5_laysAside_20 (fun H locs hP hD hS => ?_)
      rw [nI_clamp (n := i) (by omega)] at hP hD
      have hP : va_P D vwCl (bkF [mW cy ra (al, (T.1, upd (kcp al T.2.1 i) i (al i), T.2.2))]) H := hP
      have hD : va_D A (bkF [mW cy ra (al, (T.1, upd (kcp al T.2.1 i) i (al i), T.2.2))]) := hD
      refine lv_iinc (v := nI (i + 1)) (lv' := [(1, .int (nI (i + 1))), (0, .ref (ra 0))]) hx hb dX5_laysAside_21 hl (k := 1) rfl (nI_add i 1) (by decide) rfl (fun ls hl => ?_)
      refine lv_goto (tgt := 2) hx hb dX5_laysAside_24 (by decide) ?_
      have hP := kP_cell (g := (kcp al T.2.1 (i + 1))) hP 3 rfl (fun j _ => kcp_s _ _ i j)
      have hD := hD.set (p := 3) (e := .inl (cy 0, 188, .inl (kcp al T.2.1 (i + 1)))) rfl
      have hP : va_P D vwCl (bkF [mW cy ra (al, (T.1, kcp al T.2.1 (i + 1), T.2.2))]) H := hP
      have hD : va_D A (bkF [mW cy ra (al, (T.1, kcp al T.2.1 (i + 1), T.2.2))]) := hD
      exact ih_2 _ (by omega) (i + 1) rfl (by omega) ls H locs hP hD hS (lv_sub hl [1, 0] rfl)
  exact L_2 _ 0  rfl (by omega) ls H locs hP hD hS (lv_sub hl [1, 0] rfl)
abbrev rm_X5_takesBack : Room := { frames := 0, cells := 0, slots := 0, locals := 0 }
set_option maxHeartbeats 1000000 in
set_option maxRecDepth 100000 in
/-- takesBack -/
theorem c_X5_takesBack (l : Launch) (D : va_G) (cy : Nat → ClassId) (ra : Nat → Nat) (al : Nat → Int32) (T : rV) (sz : Nat) : Met l yX5_takesBack wsX5_takesBack rm_X5_takesBack (va_Pc [.ref (ra 0)] (kPre D (kT cy) [mW cy ra (al, T)] sz)) (va_Qv (fun u_ : Unit => True) (kFr D (kT cy) [mW cy ra (al, T)] sz (fun u_ : Unit => [mW cy ra (T.2.1, T)])) (va_A (bkF [mW cy ra (al, T)]) sz)) 0 0 (va_A (bkF [mW cy ra (al, T)]) sz) := by
  refine kOpen (y := yX5_takesBack) (ws := wsX5_takesBack) (cc := cX5_takesBack) (maxL := 2) (ret := none) (av := [.ref (ra 0)]) (Bs := [mW cy ra (al, T)]) (Qc := fun A => (va_Qv (fun u_ : Unit => True) (fun (u_ : Unit) t9 => kEnd D (kT cy) A [mW cy ra (T.2.1, T)] t9) A)) (by decide) rfl (Nat.le_of_ble_eq_true rfl) ?_
  intro p e s m args below meth c A Q ls hQ hx hb hml hr hlocks hin hts hown hN hK hP hD hS hA hsz hAe hl
  clear hAe
  have hl : lv_has ls 2 [(0, .ref (ra 0))] := hl
  suffices K9 : ∀ (H : Heap) (locs : List Loc), va_P D vwCl (bkF [mW cy ra (al, T)]) H → va_S A s.heap H locs → W p l e (headSpec wsX5_takesBack rm_X5_takesBack).room s m args below meth c H locs 0 0 Q (F0 m 0 ls []) from K9 _ _ hP hS
  clear hP hS
  intro H locs hP hS
  refine lv_iconst (v := nI 0) hx hb dX5_takesBack_0 (by decide) ?_
  refine lv_istore_n (lv' := [(1, .int (nI 0)), (0, .ref (ra 0))]) hx hb dX5_takesBack_1 rfl hl (by decide) rfl (fun ls hl => ?_)
  have hP := kP_cell (g := (kcp T.2.1 al 0)) hP 1 rfl (fun j _ => (kcp_0 _ _ j).symm)
  have hD := hD.set (p := 1) (e := .inl (cy 0, 188, .inl (kcp T.2.1 al 0))) rfl
  have hP : va_P D vwCl (bkF [mW cy ra (kcp T.2.1 al 0, T)]) H := hP
  have hD : va_D A (bkF [mW cy ra (kcp T.2.1 al 0, T)]) := hD
  have L_2 : ∀ (n9 : Nat) (i : Nat), 188 - i = n9 → (i ≤ 188) → ∀ (ls : Array Slot) (H : Heap) (locs : List Loc), va_P D vwCl (bkF [mW cy ra (kcp T.2.1 al i, T)]) H → va_D A (bkF [mW cy ra (kcp T.2.1 al i, T)]) → va_S A s.heap H locs → lv_has ls 2 [(0, .ref (ra 0)), (1, .int (nI i))] → W p l e (headSpec wsX5_takesBack rm_X5_takesBack).room s m args below meth c H locs 0 0 Q (F0 m 2 ls []) := by
    intro n9
    induction n9 using Nat.strongRecOn with
    | _ n9 ih_2 =>
    intro i hm_2 h2_0 ls H locs hP hD hS hl
    refine lv_iload_n hx hb dX5_takesBack_2 rfl (lv_at hl 1 rfl) ?_
    refine lv_sipush (v := nI 188) hx hb dX5_takesBack_3 (by decide) ?_
    refine lv_icmp_ge (tgt := 27) hx hb dX5_takesBack_6 (by decide) (fun c_6 => ?_) (fun c_6 => ?_)
    · skip
      have c_6 : 188 ≤ i := (nI_leI (a := 188) (b := i) (by omega) (by omega)).mp c_6
      have hP := kP_cell (g := T.2.1) hP 1 rfl (fun j hj => kcp_in _ _ (by omega))
      have hD := hD.set (p := 1) (e := .inl (cy 0, 188, .inl T.2.1)) rfl
      have hP : va_P D vwCl (bkF [mW cy ra (T.2.1, T)]) H := hP
      have hD : va_D A (bkF [mW cy ra (T.2.1, T)]) := hD
      exact kr_v (post := fun u_ : Unit => True) (Bs := fun u_ : Unit => [mW cy ra (T.2.1, T)]) hx hb hr hlocks () hP hK hD hS trivial dX5_takesBack_27 hQ
    · skip
      have c_6 : ¬ (188 ≤ i) := fun h => c_6 ((nI_leI (a := 188) (b := i) (by omega) (by omega)).mpr h)
      refine lv_aload_n hx hb dX5_takesBack_9 rfl (lv_at hl 0 rfl) ?_
      refine va_get (D := D) (ci := 5) (v := .ref (ra 1)) (C := RX5) (T := TX5) (N := 16) hx hb hts (by decide +kernel) hown hK hP 0 rfl rfl 0 (by decide) (hts (.fieldLink RX5 7 "DanceHallModel" "all" "[I") (by decide +kernel)) (fun _ h9 => h9) rfl dX5_takesBack_10 ?_
      refine lv_iload_n hx hb dX5_takesBack_13 rfl (lv_at hl 1 rfl) ?_
      refine lv_aload_n hx hb dX5_takesBack_14 rfl (lv_at hl 0 rfl) ?_
      refine va_get (D := D) (ci := 5) (v := .ref (ra 3)) (C := RX5) (T := TX5) (N := 16) hx hb hts (by decide +kernel) hown hK hP 0 rfl rfl 2 (by decide) (hts (.fieldLink RX5 16 "DanceHallModel" "aside" "[I") (by decide +kernel)) (fun _ h9 => h9) rfl dX5_takesBack_15 ?_
      refine lv_iload_n hx hb dX5_takesBack_18 rfl (lv_at hl 1 rfl) ?_
      refine va_iald hx hb hK hP 3 0 rfl rfl (vp_in_nI (n := i) (N := 188) (by omega) (by omega)) dX5_takesBack_19 ?_
      refine kv_i (y := T.2.1 i) (congrArg T.2.1 (nI_clamp (n := i) (by omega))) ?_
      refine va_iast hx hb hK hP hD hS 1 0 rfl rfl (vp_in_nI (n := i) (N := 188) (by omega) (by omega)) dX5_takesBack_20 (fun H locs hP hD hS => ?_)
      rw [nI_clamp (n := i) (by omega)] at hP hD
      have hP : va_P D vwCl (bkF [mW cy ra (upd (kcp T.2.1 al i) i (T.2.1 i), T)]) H := hP
      have hD : va_D A (bkF [mW cy ra (upd (kcp T.2.1 al i) i (T.2.1 i), T)]) := hD
      refine lv_iinc (v := nI (i + 1)) (lv' := [(1, .int (nI (i + 1))), (0, .ref (ra 0))]) hx hb dX5_takesBack_21 hl (k := 1) rfl (nI_add i 1) (by decide) rfl (fun ls hl => ?_)
      refine lv_goto (tgt := 2) hx hb dX5_takesBack_24 (by decide) ?_
      have hP := kP_cell (g := (kcp T.2.1 al (i + 1))) hP 1 rfl (fun j _ => kcp_s _ _ i j)
      have hD := hD.set (p := 1) (e := .inl (cy 0, 188, .inl (kcp T.2.1 al (i + 1)))) rfl
      have hP : va_P D vwCl (bkF [mW cy ra (kcp T.2.1 al (i + 1), T)]) H := hP
      have hD : va_D A (bkF [mW cy ra (kcp T.2.1 al (i + 1), T)]) := hD
      exact ih_2 _ (by omega) (i + 1) rfl (by omega) ls H locs hP hD hS (lv_sub hl [1, 0] rfl)
  exact L_2 _ 0  rfl (by omega) ls H locs hP hD hS (lv_sub hl [1, 0] rfl)
abbrev rm_X5_adds_t : Room := { frames := 1, cells := 0, slots := 0, locals := 21 }
set_option maxHeartbeats 1000000 in
set_option maxRecDepth 100000 in
/-- adds -/
theorem c_X5_adds_t (l : Launch) (D : va_G) (cy : Nat → ClassId) (ra : Nat → Nat) (X : rS) (tL : Nat → Nat) (tF : Nat → Nat) (cp : Nat) (T : rV) (x : Int32) (a9 : Int32) (b9 : Int32) (c9 : Int32) (hx0 : ¬ x = 0) (hn8 : X.2.1.2.2.2.2.2 < 8) (ht : tL (X.2.1.2.2.2.2.2) = 0) (hc : c9 = nI 0 ∨ c9 = nI 1) (sz : Nat) : Met l yX5_adds wsX5_adds rm_X5_adds_t (va_Pc [.ref (ra 0), .int x, .int a9, .int b9, .int c9] (kPre D (kT cy) [mW cy ra (kEq X tL tF cp, T)] sz)) (va_Qv (fun u_ : Unit => True) (kFr D (kT cy) [mW cy ra (kEq X tL tF cp, T)] sz (fun u_ : Unit => [mW cy ra (kEq (X.1, kAd X.2.1 a9 b9 c9, X.2.2) tL tF cp, T)])) (va_A (bkF [mW cy ra (kEq X tL tF cp, T)]) sz)) 0 0 (va_A (bkF [mW cy ra (kEq X tL tF cp, T)]) sz) := by
  refine kOpen (y := yX5_adds) (ws := wsX5_adds) (cc := cX5_adds) (maxL := 6) (ret := none) (av := [.ref (ra 0), .int x, .int a9, .int b9, .int c9]) (Bs := [mW cy ra (kEq X tL tF cp, T)]) (Qc := fun A => (va_Qv (fun u_ : Unit => True) (fun (u_ : Unit) t9 => kEnd D (kT cy) A [mW cy ra (kEq (X.1, kAd X.2.1 a9 b9 c9, X.2.2) tL tF cp, T)] t9) A)) (by decide) rfl (Nat.le_of_ble_eq_true rfl) ?_
  intro p e s m args below meth c A Q ls hQ hx hb hml hr hlocks hin hts hown hN hK hP hD hS hA hsz hAe hl
  clear hAe
  have hl : lv_has ls 6 [(0, .ref (ra 0)), (1, .int x), (2, .int a9), (3, .int b9), (4, .int c9)] := hl
  suffices K9 : ∀ (H : Heap) (locs : List Loc), va_P D vwCl (bkF [mW cy ra (kEq X tL tF cp, T)]) H → va_S A s.heap H locs → W p l e (headSpec wsX5_adds rm_X5_adds_t).room s m args below meth c H locs 0 0 Q (F0 m 0 ls []) from K9 _ _ hP hS
  clear hP hS
  intro H locs hP hS
  rcases hc with h9 | h9
  · skip
    have hl : lv_has ls 6 [(0, .ref (ra 0)), (1, .int x), (2, .int a9), (3, .int b9), (4, .int (nI 0))] := by rw [show nI 0 = c9 from h9.symm]; exact hl
    refine lv_iload_n hx hb dX5_adds_0 rfl (lv_at hl 1 rfl) ?_
    refine lv_aload_n hx hb dX5_adds_1 rfl (lv_at hl 0 rfl) ?_
    refine lv_iload_n hx hb dX5_adds_2 rfl (lv_at hl 1 rfl) ?_
    refine kc_i (Cs := [mW cy ra (kEq X tL tF cp, T)]) (Rs := []) (Bs := [mW cy ra (kEq X tL tF cp, T)]) (Cs' := fun u_ : Unit => [mW cy ra (kEq X tL tF cp, T)]) (Fs := fun u_ : Unit => [mW cy ra (kEq X tL tF cp, T)]) hP hD hS hA [0] [] [0] rfl rfl (by decide) (by decide) (fun _ => rfl) (va_runV (As := [.int x]) (rest := [.int x]) ⟨hx, hb, hml, hown, hts⟩ (c_X5_many_t l D cy ra (kEq X tL tF cp) T x hx0 H.size) (cwV 1 hts gX5_adds_X5_many rfl rfl rfl (by decide +kernel) ⟨Nat.le_of_ble_eq_true rfl, Nat.le_of_ble_eq_true rfl⟩) (kPre_V (ci := 5) hK hN hP hD [0] (by decide) rfl 0 rfl rfl) rfl rfl hl.1 rfl (lv_room (Nat.le_of_ble_eq_true rfl)) dX5_adds_3 ⟨Nat.le_of_ble_eq_true rfl, Nat.le_of_ble_eq_true rfl⟩) (fun r_ u_ H locs hw hP hD hS => ?_)
    have hw : r_ = (kEq X tL tF cp) 0 := hw
    subst hw
    refine kv_i (y := nI X.2.1.2.2.2.2.2) rfl ?_
    refine kc_i (Cs := []) (Rs := [mW cy ra (kEq X tL tF cp, T)]) (Bs := [mW cy ra (kEq X tL tF cp, T)]) (Cs' := fun u_ : Unit => []) (Fs := fun u_ : Unit => [mW cy ra (kEq X tL tF cp, T)]) hP hD hS hA [] [0] [0] rfl rfl (by decide) (by decide) (fun _ => rfl) (va_runS (As := [.int x, .int (nI X.2.1.2.2.2.2.2)]) (rest := []) ⟨hx, hb, hml, hown, hts⟩ (c_X5_person_t l D cy x X.2.1.2.2.2.2.2 hx0 H.size) (va_cwS 2 hts gX5_adds_X5_person rfl rfl rfl (by decide +kernel) ⟨Nat.le_of_ble_eq_true rfl, Nat.le_of_ble_eq_true rfl⟩) (kPre_S hK hN hP hD [] (by decide) rfl) rfl rfl hl.1 rfl (lv_room (Nat.le_of_ble_eq_true rfl)) dX5_adds_6 ⟨Nat.le_of_ble_eq_true rfl, Nat.le_of_ble_eq_true rfl⟩) (fun r_ u_ H locs hw hP hD hS => ?_)
    have hw : r_ = nI X.2.1.2.2.2.2.2 := hw
    subst hw
    refine lv_istore (lv' := [(5, .int (nI X.2.1.2.2.2.2.2)), (0, .ref (ra 0)), (1, .int x), (2, .int a9), (3, .int b9), (4, .int (nI 0))]) hx hb dX5_adds_9 hl (by decide) rfl (fun ls hl => ?_)
    refine lv_aload_n hx hb dX5_adds_11 rfl (lv_at hl 1 rfl) ?_
    refine va_get (D := D) (ci := 5) (v := .ref (ra 1)) (C := RX5) (T := TX5) (N := 16) hx hb hts (by decide +kernel) hown hK hP 0 rfl rfl 0 (by decide) (hts (.fieldLink RX5 7 "DanceHallModel" "all" "[I") (by decide +kernel)) (fun _ h9 => h9) rfl dX5_adds_12 ?_
    refine lv_iload hx hb dX5_adds_15 (lv_at hl 0 rfl) ?_
    refine lv_iconst (v := nI 0) hx hb dX5_adds_17 (by decide) ?_
    refine kc_i (Cs := []) (Rs := [mW cy ra (kEq X tL tF cp, T)]) (Bs := [mW cy ra (kEq X tL tF cp, T)]) (Cs' := fun u_ : Unit => []) (Fs := fun u_ : Unit => [mW cy ra (kEq X tL tF cp, T)]) hP hD hS hA [] [0] [0] rfl rfl (by decide) (by decide) (fun _ => rfl) (va_runS (As := [.int (nI X.2.1.2.2.2.2.2), .int (nI 0)]) (rest := [.ref (ra 1)]) ⟨hx, hb, hml, hown, hts⟩ (c_X5_at l D cy X.2.1.2.2.2.2.2 0 H.size) (va_cwS 2 hts gX5_adds_X5_at rfl rfl rfl (by decide +kernel) ⟨Nat.le_of_ble_eq_true rfl, Nat.le_of_ble_eq_true rfl⟩) (kPre_S hK hN hP hD [] (by decide) rfl) rfl rfl hl.1 rfl (lv_room (Nat.le_of_ble_eq_true rfl)) dX5_adds_18 ⟨Nat.le_of_ble_eq_true rfl, Nat.le_of_ble_eq_true rfl⟩) (fun r_ u_ H locs hw hP hD hS => ?_)
    have hw : r_ = nI (92 + 6 * X.2.1.2.2.2.2.2 + 0) := hw
    subst hw
    refine lv_iload_n hx hb dX5_adds_21 rfl (lv_at hl 3 rfl) ?_
    refine va_iast hx hb hK hP hD hS 1 0 rfl rfl (vp_in_nI (n := 92 + 6 * X.2.1.2.2.2.2.2 + 0) (N := 188) (by omega) (by omega)) dX5_adds_22 (fun H locs hP hD hS => ?_)
    rw [nI_clamp (n := 92 + 6 * X.2.1.2.2.2.2.2 + 0) (by omega)] at hP hD
    have hP : va_P D vwCl (bkF [mW cy ra (upd (kEq X tL tF cp) (92 + 6 * X.2.1.2.2.2.2.2 + 0) a9, T)]) H := hP
    have hD : va_D A (bkF [mW cy ra (upd (kEq X tL tF cp) (92 + 6 * X.2.1.2.2.2.2.2 + 0) a9, T)]) := hD
    refine lv_aload_n hx hb dX5_adds_23 rfl (lv_at hl 1 rfl) ?_
    refine va_get (D := D) (ci := 5) (v := .ref (ra 1)) (C := RX5) (T := TX5) (N := 16) hx hb hts (by decide +kernel) hown hK hP 0 rfl rfl 0 (by decide) (hts (.fieldLink RX5 7 "DanceHallModel" "all" "[I") (by decide +kernel)) (fun _ h9 => h9) rfl dX5_adds_24 ?_
    refine lv_iload hx hb dX5_adds_27 (lv_at hl 0 rfl) ?_
    refine lv_iconst (v := nI 1) hx hb dX5_adds_29 (by decide) ?_
    refine kc_i (Cs := []) (Rs := [mW cy ra (upd (kEq X tL tF cp) (92 + 6 * X.2.1.2.2.2.2.2 + 0) a9, T)]) (Bs := [mW cy ra (upd (kEq X tL tF cp) (92 + 6 * X.2.1.2.2.2.2.2 + 0) a9, T)]) (Cs' := fun u_ : Unit => []) (Fs := fun u_ : Unit => [mW cy ra (upd (kEq X tL tF cp) (92 + 6 * X.2.1.2.2.2.2.2 + 0) a9, T)]) hP hD hS hA [] [0] [0] rfl rfl (by decide) (by decide) (fun _ => rfl) (va_runS (As := [.int (nI X.2.1.2.2.2.2.2), .int (nI 1)]) (rest := [.ref (ra 1)]) ⟨hx, hb, hml, hown, hts⟩ (c_X5_at l D cy X.2.1.2.2.2.2.2 1 H.size) (va_cwS 2 hts gX5_adds_X5_at rfl rfl rfl (by decide +kernel) ⟨Nat.le_of_ble_eq_true rfl, Nat.le_of_ble_eq_true rfl⟩) (kPre_S hK hN hP hD [] (by decide) rfl) rfl rfl hl.1 rfl (lv_room (Nat.le_of_ble_eq_true rfl)) dX5_adds_30 ⟨Nat.le_of_ble_eq_true rfl, Nat.le_of_ble_eq_true rfl⟩) (fun r_ u_ H locs hw hP hD hS => ?_)
    have hw : r_ = nI (92 + 6 * X.2.1.2.2.2.2.2 + 1) := hw
    subst hw
    refine lv_iload_n hx hb dX5_adds_33 rfl (lv_at hl 4 rfl) ?_
    refine va_iast hx hb hK hP hD hS 1 0 rfl rfl (vp_in_nI (n := 92 + 6 * X.2.1.2.2.2.2.2 + 1) (N := 188) (by omega) (by omega)) dX5_adds_34 (fun H locs hP hD hS => ?_)
    rw [nI_clamp (n := 92 + 6 * X.2.1.2.2.2.2.2 + 1) (by omega)] at hP hD
    have hP : va_P D vwCl (bkF [mW cy ra (upd (upd (kEq X tL tF cp) (92 + 6 * X.2.1.2.2.2.2.2 + 0) a9) (92 + 6 * X.2.1.2.2.2.2.2 + 1) b9, T)]) H := hP
    have hD : va_D A (bkF [mW cy ra (upd (upd (kEq X tL tF cp) (92 + 6 * X.2.1.2.2.2.2.2 + 0) a9) (92 + 6 * X.2.1.2.2.2.2.2 + 1) b9, T)]) := hD
    refine lv_aload_n hx hb dX5_adds_35 rfl (lv_at hl 1 rfl) ?_
    refine va_get (D := D) (ci := 5) (v := .ref (ra 1)) (C := RX5) (T := TX5) (N := 16) hx hb hts (by decide +kernel) hown hK hP 0 rfl rfl 0 (by decide) (hts (.fieldLink RX5 7 "DanceHallModel" "all" "[I") (by decide +kernel)) (fun _ h9 => h9) rfl dX5_adds_36 ?_
    refine lv_iload hx hb dX5_adds_39 (lv_at hl 0 rfl) ?_
    refine lv_iconst (v := nI 2) hx hb dX5_adds_41 (by decide) ?_
    refine kc_i (Cs := []) (Rs := [mW cy ra (upd (upd (kEq X tL tF cp) (92 + 6 * X.2.1.2.2.2.2.2 + 0) a9) (92 + 6 * X.2.1.2.2.2.2.2 + 1) b9, T)]) (Bs := [mW cy ra (upd (upd (kEq X tL tF cp) (92 + 6 * X.2.1.2.2.2.2.2 + 0) a9) (92 + 6 * X.2.1.2.2.2.2.2 + 1) b9, T)]) (Cs' := fun u_ : Unit => []) (Fs := fun u_ : Unit => [mW cy ra (upd (upd (kEq X tL tF cp) (92 + 6 * X.2.1.2.2.2.2.2 + 0) a9) (92 + 6 * X.2.1.2.2.2.2.2 + 1) b9, T)]) hP hD hS hA [] [0] [0] rfl rfl (by decide) (by decide) (fun _ => rfl) (va_runS (As := [.int (nI X.2.1.2.2.2.2.2), .int (nI 2)]) (rest := [.ref (ra 1)]) ⟨hx, hb, hml, hown, hts⟩ (c_X5_at l D cy X.2.1.2.2.2.2.2 2 H.size) (va_cwS 2 hts gX5_adds_X5_at rfl rfl rfl (by decide +kernel) ⟨Nat.le_of_ble_eq_true rfl, Nat.le_of_ble_eq_true rfl⟩) (kPre_S hK hN hP hD [] (by decide) rfl) rfl rfl hl.1 rfl (lv_room (Nat.le_of_ble_eq_true rfl)) dX5_adds_42 ⟨Nat.le_of_ble_eq_true rfl, Nat.le_of_ble_eq_true rfl⟩) (fun r_ u_ H locs hw hP hD hS => ?_)
    have hw : r_ = nI (92 + 6 * X.2.1.2.2.2.2.2 + 2) := hw
    subst hw
    refine lv_iload hx hb dX5_adds_45 (lv_at hl 5 rfl) ?_
    refine lv_if_eq (tgt := 54) hx hb dX5_adds_47 (by decide) (fun _ => ?_) (fun h => absurd h (by decide))
    refine lv_iconst (v := nI 0) hx hb dX5_adds_54 (by decide) ?_
    refine va_iast hx hb hK hP hD hS 1 0 rfl rfl (vp_in_nI (n := 92 + 6 * X.2.1.2.2.2.2.2 + 2) (N := 188) (by omega) (by omega)) dX5_adds_55 (fun H locs hP hD hS => ?_)
    rw [nI_clamp (n := 92 + 6 * X.2.1.2.2.2.2.2 + 2) (by omega)] at hP hD
    have hP : va_P D vwCl (bkF [mW cy ra (upd (upd (upd (kEq X tL tF cp) (92 + 6 * X.2.1.2.2.2.2.2 + 0) a9) (92 + 6 * X.2.1.2.2.2.2.2 + 1) b9) (92 + 6 * X.2.1.2.2.2.2.2 + 2) (nI 0), T)]) H := hP
    have hD : va_D A (bkF [mW cy ra (upd (upd (upd (kEq X tL tF cp) (92 + 6 * X.2.1.2.2.2.2.2 + 0) a9) (92 + 6 * X.2.1.2.2.2.2.2 + 1) b9) (92 + 6 * X.2.1.2.2.2.2.2 + 2) (nI 0), T)]) := hD
    refine lv_aload_n hx hb dX5_adds_56 rfl (lv_at hl 1 rfl) ?_
    refine va_get (D := D) (ci := 5) (v := .ref (ra 1)) (C := RX5) (T := TX5) (N := 16) hx hb hts (by decide +kernel) hown hK hP 0 rfl rfl 0 (by decide) (hts (.fieldLink RX5 7 "DanceHallModel" "all" "[I") (by decide +kernel)) (fun _ h9 => h9) rfl dX5_adds_57 ?_
    refine lv_iload hx hb dX5_adds_60 (lv_at hl 0 rfl) ?_
    refine lv_iconst (v := nI 3) hx hb dX5_adds_62 (by decide) ?_
    refine kc_i (Cs := []) (Rs := [mW cy ra (upd (upd (upd (kEq X tL tF cp) (92 + 6 * X.2.1.2.2.2.2.2 + 0) a9) (92 + 6 * X.2.1.2.2.2.2.2 + 1) b9) (92 + 6 * X.2.1.2.2.2.2.2 + 2) (nI 0), T)]) (Bs := [mW cy ra (upd (upd (upd (kEq X tL tF cp) (92 + 6 * X.2.1.2.2.2.2.2 + 0) a9) (92 + 6 * X.2.1.2.2.2.2.2 + 1) b9) (92 + 6 * X.2.1.2.2.2.2.2 + 2) (nI 0), T)]) (Cs' := fun u_ : Unit => []) (Fs := fun u_ : Unit => [mW cy ra (upd (upd (upd (kEq X tL tF cp) (92 + 6 * X.2.1.2.2.2.2.2 + 0) a9) (92 + 6 * X.2.1.2.2.2.2.2 + 1) b9) (92 + 6 * X.2.1.2.2.2.2.2 + 2) (nI 0), T)]) hP hD hS hA [] [0] [0] rfl rfl (by decide) (by decide) (fun _ => rfl) (va_runS (As := [.int (nI X.2.1.2.2.2.2.2), .int (nI 3)]) (rest := [.ref (ra 1)]) ⟨hx, hb, hml, hown, hts⟩ (c_X5_at l D cy X.2.1.2.2.2.2.2 3 H.size) (va_cwS 2 hts gX5_adds_X5_at rfl rfl rfl (by decide +kernel) ⟨Nat.le_of_ble_eq_true rfl, Nat.le_of_ble_eq_true rfl⟩) (kPre_S hK hN hP hD [] (by decide) rfl) rfl rfl hl.1 rfl (lv_room (Nat.le_of_ble_eq_true rfl)) dX5_adds_63 ⟨Nat.le_of_ble_eq_true rfl, Nat.le_of_ble_eq_true rfl⟩) (fun r_ u_ H locs hw hP hD hS => ?_)
    have hw : r_ = nI (92 + 6 * X.2.1.2.2.2.2.2 + 3) := hw
    subst hw
    refine lv_iconst (v := nI 1) hx hb dX5_adds_66 (by decide) ?_
    refine va_iast hx hb hK hP hD hS 1 0 rfl rfl (vp_in_nI (n := 92 + 6 * X.2.1.2.2.2.2.2 + 3) (N := 188) (by omega) (by omega)) dX5_adds_67 (fun H locs hP hD hS => ?_)
    rw [nI_clamp (n := 92 + 6 * X.2.1.2.2.2.2.2 + 3) (by omega)] at hP hD
    have hP : va_P D vwCl (bkF [mW cy ra (upd (upd (upd (upd (kEq X tL tF cp) (92 + 6 * X.2.1.2.2.2.2.2 + 0) a9) (92 + 6 * X.2.1.2.2.2.2.2 + 1) b9) (92 + 6 * X.2.1.2.2.2.2.2 + 2) (nI 0)) (92 + 6 * X.2.1.2.2.2.2.2 + 3) (nI 1), T)]) H := hP
    have hD : va_D A (bkF [mW cy ra (upd (upd (upd (upd (kEq X tL tF cp) (92 + 6 * X.2.1.2.2.2.2.2 + 0) a9) (92 + 6 * X.2.1.2.2.2.2.2 + 1) b9) (92 + 6 * X.2.1.2.2.2.2.2 + 2) (nI 0)) (92 + 6 * X.2.1.2.2.2.2.2 + 3) (nI 1), T)]) := hD
    refine lv_aload_n hx hb dX5_adds_68 rfl (lv_at hl 1 rfl) ?_
    refine va_get (D := D) (ci := 5) (v := .ref (ra 1)) (C := RX5) (T := TX5) (N := 16) hx hb hts (by decide +kernel) hown hK hP 0 rfl rfl 0 (by decide) (hts (.fieldLink RX5 7 "DanceHallModel" "all" "[I") (by decide +kernel)) (fun _ h9 => h9) rfl dX5_adds_69 ?_
    refine lv_iload hx hb dX5_adds_72 (lv_at hl 0 rfl) ?_
    refine lv_iconst (v := nI 4) hx hb dX5_adds_74 (by decide) ?_
    refine kc_i (Cs := []) (Rs := [mW cy ra (upd (upd (upd (upd (kEq X tL tF cp) (92 + 6 * X.2.1.2.2.2.2.2 + 0) a9) (92 + 6 * X.2.1.2.2.2.2.2 + 1) b9) (92 + 6 * X.2.1.2.2.2.2.2 + 2) (nI 0)) (92 + 6 * X.2.1.2.2.2.2.2 + 3) (nI 1), T)]) (Bs := [mW cy ra (upd (upd (upd (upd (kEq X tL tF cp) (92 + 6 * X.2.1.2.2.2.2.2 + 0) a9) (92 + 6 * X.2.1.2.2.2.2.2 + 1) b9) (92 + 6 * X.2.1.2.2.2.2.2 + 2) (nI 0)) (92 + 6 * X.2.1.2.2.2.2.2 + 3) (nI 1), T)]) (Cs' := fun u_ : Unit => []) (Fs := fun u_ : Unit => [mW cy ra (upd (upd (upd (upd (kEq X tL tF cp) (92 + 6 * X.2.1.2.2.2.2.2 + 0) a9) (92 + 6 * X.2.1.2.2.2.2.2 + 1) b9) (92 + 6 * X.2.1.2.2.2.2.2 + 2) (nI 0)) (92 + 6 * X.2.1.2.2.2.2.2 + 3) (nI 1), T)]) hP hD hS hA [] [0] [0] rfl rfl (by decide) (by decide) (fun _ => rfl) (va_runS (As := [.int (nI X.2.1.2.2.2.2.2), .int (nI 4)]) (rest := [.ref (ra 1)]) ⟨hx, hb, hml, hown, hts⟩ (c_X5_at l D cy X.2.1.2.2.2.2.2 4 H.size) (va_cwS 2 hts gX5_adds_X5_at rfl rfl rfl (by decide +kernel) ⟨Nat.le_of_ble_eq_true rfl, Nat.le_of_ble_eq_true rfl⟩) (kPre_S hK hN hP hD [] (by decide) rfl) rfl rfl hl.1 rfl (lv_room (Nat.le_of_ble_eq_true rfl)) dX5_adds_75 ⟨Nat.le_of_ble_eq_true rfl, Nat.le_of_ble_eq_true rfl⟩) (fun r_ u_ H locs hw hP hD hS => ?_)
    have hw : r_ = nI (92 + 6 * X.2.1.2.2.2.2.2 + 4) := hw
    subst hw
    refine lv_iconst (v := nI 0) hx hb dX5_adds_78 (by decide) ?_
    refine va_iast hx hb hK hP hD hS 1 0 rfl rfl (vp_in_nI (n := 92 + 6 * X.2.1.2.2.2.2.2 + 4) (N := 188) (by omega) (by omega)) dX5_adds_79 (fun H locs hP hD hS => ?_)
    rw [nI_clamp (n := 92 + 6 * X.2.1.2.2.2.2.2 + 4) (by omega)] at hP hD
    have hP : va_P D vwCl (bkF [mW cy ra (upd (upd (upd (upd (upd (kEq X tL tF cp) (92 + 6 * X.2.1.2.2.2.2.2 + 0) a9) (92 + 6 * X.2.1.2.2.2.2.2 + 1) b9) (92 + 6 * X.2.1.2.2.2.2.2 + 2) (nI 0)) (92 + 6 * X.2.1.2.2.2.2.2 + 3) (nI 1)) (92 + 6 * X.2.1.2.2.2.2.2 + 4) (nI 0), T)]) H := hP
    have hD : va_D A (bkF [mW cy ra (upd (upd (upd (upd (upd (kEq X tL tF cp) (92 + 6 * X.2.1.2.2.2.2.2 + 0) a9) (92 + 6 * X.2.1.2.2.2.2.2 + 1) b9) (92 + 6 * X.2.1.2.2.2.2.2 + 2) (nI 0)) (92 + 6 * X.2.1.2.2.2.2.2 + 3) (nI 1)) (92 + 6 * X.2.1.2.2.2.2.2 + 4) (nI 0), T)]) := hD
    refine lv_aload_n hx hb dX5_adds_80 rfl (lv_at hl 1 rfl) ?_
    refine va_get (D := D) (ci := 5) (v := .ref (ra 1)) (C := RX5) (T := TX5) (N := 16) hx hb hts (by decide +kernel) hown hK hP 0 rfl rfl 0 (by decide) (hts (.fieldLink RX5 7 "DanceHallModel" "all" "[I") (by decide +kernel)) (fun _ h9 => h9) rfl dX5_adds_81 ?_
    refine lv_iload hx hb dX5_adds_84 (lv_at hl 0 rfl) ?_
    refine lv_iconst (v := nI 5) hx hb dX5_adds_86 (by decide) ?_
    refine kc_i (Cs := []) (Rs := [mW cy ra (upd (upd (upd (upd (upd (kEq X tL tF cp) (92 + 6 * X.2.1.2.2.2.2.2 + 0) a9) (92 + 6 * X.2.1.2.2.2.2.2 + 1) b9) (92 + 6 * X.2.1.2.2.2.2.2 + 2) (nI 0)) (92 + 6 * X.2.1.2.2.2.2.2 + 3) (nI 1)) (92 + 6 * X.2.1.2.2.2.2.2 + 4) (nI 0), T)]) (Bs := [mW cy ra (upd (upd (upd (upd (upd (kEq X tL tF cp) (92 + 6 * X.2.1.2.2.2.2.2 + 0) a9) (92 + 6 * X.2.1.2.2.2.2.2 + 1) b9) (92 + 6 * X.2.1.2.2.2.2.2 + 2) (nI 0)) (92 + 6 * X.2.1.2.2.2.2.2 + 3) (nI 1)) (92 + 6 * X.2.1.2.2.2.2.2 + 4) (nI 0), T)]) (Cs' := fun u_ : Unit => []) (Fs := fun u_ : Unit => [mW cy ra (upd (upd (upd (upd (upd (kEq X tL tF cp) (92 + 6 * X.2.1.2.2.2.2.2 + 0) a9) (92 + 6 * X.2.1.2.2.2.2.2 + 1) b9) (92 + 6 * X.2.1.2.2.2.2.2 + 2) (nI 0)) (92 + 6 * X.2.1.2.2.2.2.2 + 3) (nI 1)) (92 + 6 * X.2.1.2.2.2.2.2 + 4) (nI 0), T)]) hP hD hS hA [] [0] [0] rfl rfl (by decide) (by decide) (fun _ => rfl) (va_runS (As := [.int (nI X.2.1.2.2.2.2.2), .int (nI 5)]) (rest := [.ref (ra 1)]) ⟨hx, hb, hml, hown, hts⟩ (c_X5_at l D cy X.2.1.2.2.2.2.2 5 H.size) (va_cwS 2 hts gX5_adds_X5_at rfl rfl rfl (by decide +kernel) ⟨Nat.le_of_ble_eq_true rfl, Nat.le_of_ble_eq_true rfl⟩) (kPre_S hK hN hP hD [] (by decide) rfl) rfl rfl hl.1 rfl (lv_room (Nat.le_of_ble_eq_true rfl)) dX5_adds_87 ⟨Nat.le_of_ble_eq_true rfl, Nat.le_of_ble_eq_true rfl⟩) (fun r_ u_ H locs hw hP hD hS => ?_)
    have hw : r_ = nI (92 + 6 * X.2.1.2.2.2.2.2 + 5) := hw
    subst hw
    refine lv_iconst (v := nI 0) hx hb dX5_adds_90 (by decide) ?_
    refine va_iast hx hb hK hP hD hS 1 0 rfl rfl (vp_in_nI (n := 92 + 6 * X.2.1.2.2.2.2.2 + 5) (N := 188) (by omega) (by omega)) dX5_adds_91 (fun H locs hP hD hS => ?_)
    rw [nI_clamp (n := 92 + 6 * X.2.1.2.2.2.2.2 + 5) (by omega)] at hP hD
    have hP : va_P D vwCl (bkF [mW cy ra (upd (upd (upd (upd (upd (upd (kEq X tL tF cp) (92 + 6 * X.2.1.2.2.2.2.2 + 0) a9) (92 + 6 * X.2.1.2.2.2.2.2 + 1) b9) (92 + 6 * X.2.1.2.2.2.2.2 + 2) (nI 0)) (92 + 6 * X.2.1.2.2.2.2.2 + 3) (nI 1)) (92 + 6 * X.2.1.2.2.2.2.2 + 4) (nI 0)) (92 + 6 * X.2.1.2.2.2.2.2 + 5) (nI 0), T)]) H := hP
    have hD : va_D A (bkF [mW cy ra (upd (upd (upd (upd (upd (upd (kEq X tL tF cp) (92 + 6 * X.2.1.2.2.2.2.2 + 0) a9) (92 + 6 * X.2.1.2.2.2.2.2 + 1) b9) (92 + 6 * X.2.1.2.2.2.2.2 + 2) (nI 0)) (92 + 6 * X.2.1.2.2.2.2.2 + 3) (nI 1)) (92 + 6 * X.2.1.2.2.2.2.2 + 4) (nI 0)) (92 + 6 * X.2.1.2.2.2.2.2 + 5) (nI 0), T)]) := hD
    refine lv_aload_n hx hb dX5_adds_92 rfl (lv_at hl 1 rfl) ?_
    refine va_get (D := D) (ci := 5) (v := .ref (ra 1)) (C := RX5) (T := TX5) (N := 16) hx hb hts (by decide +kernel) hown hK hP 0 rfl rfl 0 (by decide) (hts (.fieldLink RX5 7 "DanceHallModel" "all" "[I") (by decide +kernel)) (fun _ h9 => h9) rfl dX5_adds_93 ?_
    refine lv_iload_n hx hb dX5_adds_96 rfl (lv_at hl 2 rfl) ?_
    refine lv_if_eq (tgt := 104) hx hb dX5_adds_97 (by decide) (fun c_97 => False.elim ?_) (fun c_97 => ?_)
    · skip
      exact hx0 c_97
    · skip
      refine lv_iconst (v := nI 0) hx hb dX5_adds_100 (by decide) ?_
      refine lv_goto (tgt := 105) hx hb dX5_adds_101 (by decide) ?_
      refine lv_dup2_11 hx hb dX5_adds_105 rfl rfl ?_
      refine va_iald hx hb hK hP 1 0 rfl rfl (vp_in_nI (n := 0) (N := 188) (by omega) (by omega)) dX5_adds_106 ?_
      refine kv_i (y := nI X.2.1.2.2.2.2.2) (show ((upd (upd (upd (upd (upd (upd (kEq X tL tF cp) (92 + 6 * X.2.1.2.2.2.2.2 + 0) a9) (92 + 6 * X.2.1.2.2.2.2.2 + 1) b9) (92 + 6 * X.2.1.2.2.2.2.2 + 2) (nI 0)) (92 + 6 * X.2.1.2.2.2.2.2 + 3) (nI 1)) (92 + 6 * X.2.1.2.2.2.2.2 + 4) (nI 0)) (92 + 6 * X.2.1.2.2.2.2.2 + 5) (nI 0))) (nI 0).toNatClampNeg = nI X.2.1.2.2.2.2.2 from (by show upd _ _ _ 0 = _; rw [pk_un (by omega), pk_un (by omega), pk_un (by omega), pk_un (by omega), pk_un (by omega), pk_un (by omega)]; rfl)) ?_
      refine lv_iconst (v := nI 1) hx hb dX5_adds_107 (by decide) ?_
      refine lv_iadd hx hb dX5_adds_108 ?_
      refine kv_i (y := nI (X.2.1.2.2.2.2.2 + 1)) (nI_add X.2.1.2.2.2.2.2 1) ?_
      refine va_iast hx hb hK hP hD hS 1 0 rfl rfl (vp_in_nI (n := 0) (N := 188) (by omega) (by omega)) dX5_adds_109 (fun H locs hP hD hS => ?_)
      have hP : va_P D vwCl (bkF [mW cy ra (upd (upd (upd (upd (upd (upd (upd (kEq X tL tF cp) (92 + 6 * X.2.1.2.2.2.2.2 + 0) a9) (92 + 6 * X.2.1.2.2.2.2.2 + 1) b9) (92 + 6 * X.2.1.2.2.2.2.2 + 2) (nI 0)) (92 + 6 * X.2.1.2.2.2.2.2 + 3) (nI 1)) (92 + 6 * X.2.1.2.2.2.2.2 + 4) (nI 0)) (92 + 6 * X.2.1.2.2.2.2.2 + 5) (nI 0)) 0 (nI (X.2.1.2.2.2.2.2 + 1)), T)]) H := hP
      have hD : va_D A (bkF [mW cy ra (upd (upd (upd (upd (upd (upd (upd (kEq X tL tF cp) (92 + 6 * X.2.1.2.2.2.2.2 + 0) a9) (92 + 6 * X.2.1.2.2.2.2.2 + 1) b9) (92 + 6 * X.2.1.2.2.2.2.2 + 2) (nI 0)) (92 + 6 * X.2.1.2.2.2.2.2 + 3) (nI 1)) (92 + 6 * X.2.1.2.2.2.2.2 + 4) (nI 0)) (92 + 6 * X.2.1.2.2.2.2.2 + 5) (nI 0)) 0 (nI (X.2.1.2.2.2.2.2 + 1)), T)]) := hD
      have hP := kP_cell (g := (kEq (X.1, kAd X.2.1 a9 b9 c9, X.2.2) tL tF cp)) hP 1 rfl (fun j hj => by rw [h9]; exact kqu_adL rfl hn8 ht j hj)
      have hD := hD.set (p := 1) (e := .inl (cy 0, 188, .inl (kEq (X.1, kAd X.2.1 a9 b9 c9, X.2.2) tL tF cp))) rfl
      have hP : va_P D vwCl (bkF [mW cy ra (kEq (X.1, kAd X.2.1 a9 b9 c9, X.2.2) tL tF cp, T)]) H := hP
      have hD : va_D A (bkF [mW cy ra (kEq (X.1, kAd X.2.1 a9 b9 c9, X.2.2) tL tF cp, T)]) := hD
      exact kr_v (post := fun u_ : Unit => True) (Bs := fun u_ : Unit => [mW cy ra (kEq (X.1, kAd X.2.1 a9 b9 c9, X.2.2) tL tF cp, T)]) hx hb hr hlocks () hP hK hD hS trivial dX5_adds_110 hQ
  · skip
    have hl : lv_has ls 6 [(0, .ref (ra 0)), (1, .int x), (2, .int a9), (3, .int b9), (4, .int (nI 1))] := by rw [show nI 1 = c9 from h9.symm]; exact hl
    refine lv_iload_n hx hb dX5_adds_0 rfl (lv_at hl 1 rfl) ?_
    refine lv_aload_n hx hb dX5_adds_1 rfl (lv_at hl 0 rfl) ?_
    refine lv_iload_n hx hb dX5_adds_2 rfl (lv_at hl 1 rfl) ?_
    refine kc_i (Cs := [mW cy ra (kEq X tL tF cp, T)]) (Rs := []) (Bs := [mW cy ra (kEq X tL tF cp, T)]) (Cs' := fun u_ : Unit => [mW cy ra (kEq X tL tF cp, T)]) (Fs := fun u_ : Unit => [mW cy ra (kEq X tL tF cp, T)]) hP hD hS hA [0] [] [0] rfl rfl (by decide) (by decide) (fun _ => rfl) (va_runV (As := [.int x]) (rest := [.int x]) ⟨hx, hb, hml, hown, hts⟩ (c_X5_many_t l D cy ra (kEq X tL tF cp) T x hx0 H.size) (cwV 1 hts gX5_adds_X5_many rfl rfl rfl (by decide +kernel) ⟨Nat.le_of_ble_eq_true rfl, Nat.le_of_ble_eq_true rfl⟩) (kPre_V (ci := 5) hK hN hP hD [0] (by decide) rfl 0 rfl rfl) rfl rfl hl.1 rfl (lv_room (Nat.le_of_ble_eq_true rfl)) dX5_adds_3 ⟨Nat.le_of_ble_eq_true rfl, Nat.le_of_ble_eq_true rfl⟩) (fun r_ u_ H locs hw hP hD hS => ?_)
    have hw : r_ = (kEq X tL tF cp) 0 := hw
    subst hw
    refine kv_i (y := nI X.2.1.2.2.2.2.2) rfl ?_
    refine kc_i (Cs := []) (Rs := [mW cy ra (kEq X tL tF cp, T)]) (Bs := [mW cy ra (kEq X tL tF cp, T)]) (Cs' := fun u_ : Unit => []) (Fs := fun u_ : Unit => [mW cy ra (kEq X tL tF cp, T)]) hP hD hS hA [] [0] [0] rfl rfl (by decide) (by decide) (fun _ => rfl) (va_runS (As := [.int x, .int (nI X.2.1.2.2.2.2.2)]) (rest := []) ⟨hx, hb, hml, hown, hts⟩ (c_X5_person_t l D cy x X.2.1.2.2.2.2.2 hx0 H.size) (va_cwS 2 hts gX5_adds_X5_person rfl rfl rfl (by decide +kernel) ⟨Nat.le_of_ble_eq_true rfl, Nat.le_of_ble_eq_true rfl⟩) (kPre_S hK hN hP hD [] (by decide) rfl) rfl rfl hl.1 rfl (lv_room (Nat.le_of_ble_eq_true rfl)) dX5_adds_6 ⟨Nat.le_of_ble_eq_true rfl, Nat.le_of_ble_eq_true rfl⟩) (fun r_ u_ H locs hw hP hD hS => ?_)
    have hw : r_ = nI X.2.1.2.2.2.2.2 := hw
    subst hw
    refine lv_istore (lv' := [(5, .int (nI X.2.1.2.2.2.2.2)), (0, .ref (ra 0)), (1, .int x), (2, .int a9), (3, .int b9), (4, .int (nI 1))]) hx hb dX5_adds_9 hl (by decide) rfl (fun ls hl => ?_)
    refine lv_aload_n hx hb dX5_adds_11 rfl (lv_at hl 1 rfl) ?_
    refine va_get (D := D) (ci := 5) (v := .ref (ra 1)) (C := RX5) (T := TX5) (N := 16) hx hb hts (by decide +kernel) hown hK hP 0 rfl rfl 0 (by decide) (hts (.fieldLink RX5 7 "DanceHallModel" "all" "[I") (by decide +kernel)) (fun _ h9 => h9) rfl dX5_adds_12 ?_
    refine lv_iload hx hb dX5_adds_15 (lv_at hl 0 rfl) ?_
    refine lv_iconst (v := nI 0) hx hb dX5_adds_17 (by decide) ?_
    refine kc_i (Cs := []) (Rs := [mW cy ra (kEq X tL tF cp, T)]) (Bs := [mW cy ra (kEq X tL tF cp, T)]) (Cs' := fun u_ : Unit => []) (Fs := fun u_ : Unit => [mW cy ra (kEq X tL tF cp, T)]) hP hD hS hA [] [0] [0] rfl rfl (by decide) (by decide) (fun _ => rfl) (va_runS (As := [.int (nI X.2.1.2.2.2.2.2), .int (nI 0)]) (rest := [.ref (ra 1)]) ⟨hx, hb, hml, hown, hts⟩ (c_X5_at l D cy X.2.1.2.2.2.2.2 0 H.size) (va_cwS 2 hts gX5_adds_X5_at rfl rfl rfl (by decide +kernel) ⟨Nat.le_of_ble_eq_true rfl, Nat.le_of_ble_eq_true rfl⟩) (kPre_S hK hN hP hD [] (by decide) rfl) rfl rfl hl.1 rfl (lv_room (Nat.le_of_ble_eq_true rfl)) dX5_adds_18 ⟨Nat.le_of_ble_eq_true rfl, Nat.le_of_ble_eq_true rfl⟩) (fun r_ u_ H locs hw hP hD hS => ?_)
    have hw : r_ = nI (92 + 6 * X.2.1.2.2.2.2.2 + 0) := hw
    subst hw
    refine lv_iload_n hx hb dX5_adds_21 rfl (lv_at hl 3 rfl) ?_
    refine va_iast hx hb hK hP hD hS 1 0 rfl rfl (vp_in_nI (n := 92 + 6 * X.2.1.2.2.2.2.2 + 0) (N := 188) (by omega) (by omega)) dX5_adds_22 (fun H locs hP hD hS => ?_)
    rw [nI_clamp (n := 92 + 6 * X.2.1.2.2.2.2.2 + 0) (by omega)] at hP hD
    have hP : va_P D vwCl (bkF [mW cy ra (upd (kEq X tL tF cp) (92 + 6 * X.2.1.2.2.2.2.2 + 0) a9, T)]) H := hP
    have hD : va_D A (bkF [mW cy ra (upd (kEq X tL tF cp) (92 + 6 * X.2.1.2.2.2.2.2 + 0) a9, T)]) := hD
    refine lv_aload_n hx hb dX5_adds_23 rfl (lv_at hl 1 rfl) ?_
    refine va_get (D := D) (ci := 5) (v := .ref (ra 1)) (C := RX5) (T := TX5) (N := 16) hx hb hts (by decide +kernel) hown hK hP 0 rfl rfl 0 (by decide) (hts (.fieldLink RX5 7 "DanceHallModel" "all" "[I") (by decide +kernel)) (fun _ h9 => h9) rfl dX5_adds_24 ?_
    refine lv_iload hx hb dX5_adds_27 (lv_at hl 0 rfl) ?_
    refine lv_iconst (v := nI 1) hx hb dX5_adds_29 (by decide) ?_
    refine kc_i (Cs := []) (Rs := [mW cy ra (upd (kEq X tL tF cp) (92 + 6 * X.2.1.2.2.2.2.2 + 0) a9, T)]) (Bs := [mW cy ra (upd (kEq X tL tF cp) (92 + 6 * X.2.1.2.2.2.2.2 + 0) a9, T)]) (Cs' := fun u_ : Unit => []) (Fs := fun u_ : Unit => [mW cy ra (upd (kEq X tL tF cp) (92 + 6 * X.2.1.2.2.2.2.2 + 0) a9, T)]) hP hD hS hA [] [0] [0] rfl rfl (by decide) (by decide) (fun _ => rfl) (va_runS (As := [.int (nI X.2.1.2.2.2.2.2), .int (nI 1)]) (rest := [.ref (ra 1)]) ⟨hx, hb, hml, hown, hts⟩ (c_X5_at l D cy X.2.1.2.2.2.2.2 1 H.size) (va_cwS 2 hts gX5_adds_X5_at rfl rfl rfl (by decide +kernel) ⟨Nat.le_of_ble_eq_true rfl, Nat.le_of_ble_eq_true rfl⟩) (kPre_S hK hN hP hD [] (by decide) rfl) rfl rfl hl.1 rfl (lv_room (Nat.le_of_ble_eq_true rfl)) dX5_adds_30 ⟨Nat.le_of_ble_eq_true rfl, Nat.le_of_ble_eq_true rfl⟩) (fun r_ u_ H locs hw hP hD hS => ?_)
    have hw : r_ = nI (92 + 6 * X.2.1.2.2.2.2.2 + 1) := hw
    subst hw
    refine lv_iload_n hx hb dX5_adds_33 rfl (lv_at hl 4 rfl) ?_
    refine va_iast hx hb hK hP hD hS 1 0 rfl rfl (vp_in_nI (n := 92 + 6 * X.2.1.2.2.2.2.2 + 1) (N := 188) (by omega) (by omega)) dX5_adds_34 (fun H locs hP hD hS => ?_)
    rw [nI_clamp (n := 92 + 6 * X.2.1.2.2.2.2.2 + 1) (by omega)] at hP hD
    have hP : va_P D vwCl (bkF [mW cy ra (upd (upd (kEq X tL tF cp) (92 + 6 * X.2.1.2.2.2.2.2 + 0) a9) (92 + 6 * X.2.1.2.2.2.2.2 + 1) b9, T)]) H := hP
    have hD : va_D A (bkF [mW cy ra (upd (upd (kEq X tL tF cp) (92 + 6 * X.2.1.2.2.2.2.2 + 0) a9) (92 + 6 * X.2.1.2.2.2.2.2 + 1) b9, T)]) := hD
    refine lv_aload_n hx hb dX5_adds_35 rfl (lv_at hl 1 rfl) ?_
    refine va_get (D := D) (ci := 5) (v := .ref (ra 1)) (C := RX5) (T := TX5) (N := 16) hx hb hts (by decide +kernel) hown hK hP 0 rfl rfl 0 (by decide) (hts (.fieldLink RX5 7 "DanceHallModel" "all" "[I") (by decide +kernel)) (fun _ h9 => h9) rfl dX5_adds_36 ?_
    refine lv_iload hx hb dX5_adds_39 (lv_at hl 0 rfl) ?_
    refine lv_iconst (v := nI 2) hx hb dX5_adds_41 (by decide) ?_
    refine kc_i (Cs := []) (Rs := [mW cy ra (upd (upd (kEq X tL tF cp) (92 + 6 * X.2.1.2.2.2.2.2 + 0) a9) (92 + 6 * X.2.1.2.2.2.2.2 + 1) b9, T)]) (Bs := [mW cy ra (upd (upd (kEq X tL tF cp) (92 + 6 * X.2.1.2.2.2.2.2 + 0) a9) (92 + 6 * X.2.1.2.2.2.2.2 + 1) b9, T)]) (Cs' := fun u_ : Unit => []) (Fs := fun u_ : Unit => [mW cy ra (upd (upd (kEq X tL tF cp) (92 + 6 * X.2.1.2.2.2.2.2 + 0) a9) (92 + 6 * X.2.1.2.2.2.2.2 + 1) b9, T)]) hP hD hS hA [] [0] [0] rfl rfl (by decide) (by decide) (fun _ => rfl) (va_runS (As := [.int (nI X.2.1.2.2.2.2.2), .int (nI 2)]) (rest := [.ref (ra 1)]) ⟨hx, hb, hml, hown, hts⟩ (c_X5_at l D cy X.2.1.2.2.2.2.2 2 H.size) (va_cwS 2 hts gX5_adds_X5_at rfl rfl rfl (by decide +kernel) ⟨Nat.le_of_ble_eq_true rfl, Nat.le_of_ble_eq_true rfl⟩) (kPre_S hK hN hP hD [] (by decide) rfl) rfl rfl hl.1 rfl (lv_room (Nat.le_of_ble_eq_true rfl)) dX5_adds_42 ⟨Nat.le_of_ble_eq_true rfl, Nat.le_of_ble_eq_true rfl⟩) (fun r_ u_ H locs hw hP hD hS => ?_)
    have hw : r_ = nI (92 + 6 * X.2.1.2.2.2.2.2 + 2) := hw
    subst hw
    refine lv_iload hx hb dX5_adds_45 (lv_at hl 5 rfl) ?_
    refine lv_if_eq (tgt := 54) hx hb dX5_adds_47 (by decide) (fun h => absurd h (by decide)) (fun _ => ?_)
    refine lv_iconst (v := nI 1) hx hb dX5_adds_50 (by decide) ?_
    refine lv_goto (tgt := 55) hx hb dX5_adds_51 (by decide) ?_
    refine va_iast hx hb hK hP hD hS 1 0 rfl rfl (vp_in_nI (n := 92 + 6 * X.2.1.2.2.2.2.2 + 2) (N := 188) (by omega) (by omega)) dX5_adds_55 (fun H locs hP hD hS => ?_)
    rw [nI_clamp (n := 92 + 6 * X.2.1.2.2.2.2.2 + 2) (by omega)] at hP hD
    have hP : va_P D vwCl (bkF [mW cy ra (upd (upd (upd (kEq X tL tF cp) (92 + 6 * X.2.1.2.2.2.2.2 + 0) a9) (92 + 6 * X.2.1.2.2.2.2.2 + 1) b9) (92 + 6 * X.2.1.2.2.2.2.2 + 2) (nI 1), T)]) H := hP
    have hD : va_D A (bkF [mW cy ra (upd (upd (upd (kEq X tL tF cp) (92 + 6 * X.2.1.2.2.2.2.2 + 0) a9) (92 + 6 * X.2.1.2.2.2.2.2 + 1) b9) (92 + 6 * X.2.1.2.2.2.2.2 + 2) (nI 1), T)]) := hD
    refine lv_aload_n hx hb dX5_adds_56 rfl (lv_at hl 1 rfl) ?_
    refine va_get (D := D) (ci := 5) (v := .ref (ra 1)) (C := RX5) (T := TX5) (N := 16) hx hb hts (by decide +kernel) hown hK hP 0 rfl rfl 0 (by decide) (hts (.fieldLink RX5 7 "DanceHallModel" "all" "[I") (by decide +kernel)) (fun _ h9 => h9) rfl dX5_adds_57 ?_
    refine lv_iload hx hb dX5_adds_60 (lv_at hl 0 rfl) ?_
    refine lv_iconst (v := nI 3) hx hb dX5_adds_62 (by decide) ?_
    refine kc_i (Cs := []) (Rs := [mW cy ra (upd (upd (upd (kEq X tL tF cp) (92 + 6 * X.2.1.2.2.2.2.2 + 0) a9) (92 + 6 * X.2.1.2.2.2.2.2 + 1) b9) (92 + 6 * X.2.1.2.2.2.2.2 + 2) (nI 1), T)]) (Bs := [mW cy ra (upd (upd (upd (kEq X tL tF cp) (92 + 6 * X.2.1.2.2.2.2.2 + 0) a9) (92 + 6 * X.2.1.2.2.2.2.2 + 1) b9) (92 + 6 * X.2.1.2.2.2.2.2 + 2) (nI 1), T)]) (Cs' := fun u_ : Unit => []) (Fs := fun u_ : Unit => [mW cy ra (upd (upd (upd (kEq X tL tF cp) (92 + 6 * X.2.1.2.2.2.2.2 + 0) a9) (92 + 6 * X.2.1.2.2.2.2.2 + 1) b9) (92 + 6 * X.2.1.2.2.2.2.2 + 2) (nI 1), T)]) hP hD hS hA [] [0] [0] rfl rfl (by decide) (by decide) (fun _ => rfl) (va_runS (As := [.int (nI X.2.1.2.2.2.2.2), .int (nI 3)]) (rest := [.ref (ra 1)]) ⟨hx, hb, hml, hown, hts⟩ (c_X5_at l D cy X.2.1.2.2.2.2.2 3 H.size) (va_cwS 2 hts gX5_adds_X5_at rfl rfl rfl (by decide +kernel) ⟨Nat.le_of_ble_eq_true rfl, Nat.le_of_ble_eq_true rfl⟩) (kPre_S hK hN hP hD [] (by decide) rfl) rfl rfl hl.1 rfl (lv_room (Nat.le_of_ble_eq_true rfl)) dX5_adds_63 ⟨Nat.le_of_ble_eq_true rfl, Nat.le_of_ble_eq_true rfl⟩) (fun r_ u_ H locs hw hP hD hS => ?_)
    have hw : r_ = nI (92 + 6 * X.2.1.2.2.2.2.2 + 3) := hw
    subst hw
    refine lv_iconst (v := nI 1) hx hb dX5_adds_66 (by decide) ?_
    refine va_iast hx hb hK hP hD hS 1 0 rfl rfl (vp_in_nI (n := 92 + 6 * X.2.1.2.2.2.2.2 + 3) (N := 188) (by omega) (by omega)) dX5_adds_67 (fun H locs hP hD hS => ?_)
    rw [nI_clamp (n := 92 + 6 * X.2.1.2.2.2.2.2 + 3) (by omega)] at hP hD
    have hP : va_P D vwCl (bkF [mW cy ra (upd (upd (upd (upd (kEq X tL tF cp) (92 + 6 * X.2.1.2.2.2.2.2 + 0) a9) (92 + 6 * X.2.1.2.2.2.2.2 + 1) b9) (92 + 6 * X.2.1.2.2.2.2.2 + 2) (nI 1)) (92 + 6 * X.2.1.2.2.2.2.2 + 3) (nI 1), T)]) H := hP
    have hD : va_D A (bkF [mW cy ra (upd (upd (upd (upd (kEq X tL tF cp) (92 + 6 * X.2.1.2.2.2.2.2 + 0) a9) (92 + 6 * X.2.1.2.2.2.2.2 + 1) b9) (92 + 6 * X.2.1.2.2.2.2.2 + 2) (nI 1)) (92 + 6 * X.2.1.2.2.2.2.2 + 3) (nI 1), T)]) := hD
    refine lv_aload_n hx hb dX5_adds_68 rfl (lv_at hl 1 rfl) ?_
    refine va_get (D := D) (ci := 5) (v := .ref (ra 1)) (C := RX5) (T := TX5) (N := 16) hx hb hts (by decide +kernel) hown hK hP 0 rfl rfl 0 (by decide) (hts (.fieldLink RX5 7 "DanceHallModel" "all" "[I") (by decide +kernel)) (fun _ h9 => h9) rfl dX5_adds_69 ?_
    refine lv_iload hx hb dX5_adds_72 (lv_at hl 0 rfl) ?_
    refine lv_iconst (v := nI 4) hx hb dX5_adds_74 (by decide) ?_
    refine kc_i (Cs := []) (Rs := [mW cy ra (upd (upd (upd (upd (kEq X tL tF cp) (92 + 6 * X.2.1.2.2.2.2.2 + 0) a9) (92 + 6 * X.2.1.2.2.2.2.2 + 1) b9) (92 + 6 * X.2.1.2.2.2.2.2 + 2) (nI 1)) (92 + 6 * X.2.1.2.2.2.2.2 + 3) (nI 1), T)]) (Bs := [mW cy ra (upd (upd (upd (upd (kEq X tL tF cp) (92 + 6 * X.2.1.2.2.2.2.2 + 0) a9) (92 + 6 * X.2.1.2.2.2.2.2 + 1) b9) (92 + 6 * X.2.1.2.2.2.2.2 + 2) (nI 1)) (92 + 6 * X.2.1.2.2.2.2.2 + 3) (nI 1), T)]) (Cs' := fun u_ : Unit => []) (Fs := fun u_ : Unit => [mW cy ra (upd (upd (upd (upd (kEq X tL tF cp) (92 + 6 * X.2.1.2.2.2.2.2 + 0) a9) (92 + 6 * X.2.1.2.2.2.2.2 + 1) b9) (92 + 6 * X.2.1.2.2.2.2.2 + 2) (nI 1)) (92 + 6 * X.2.1.2.2.2.2.2 + 3) (nI 1), T)]) hP hD hS hA [] [0] [0] rfl rfl (by decide) (by decide) (fun _ => rfl) (va_runS (As := [.int (nI X.2.1.2.2.2.2.2), .int (nI 4)]) (rest := [.ref (ra 1)]) ⟨hx, hb, hml, hown, hts⟩ (c_X5_at l D cy X.2.1.2.2.2.2.2 4 H.size) (va_cwS 2 hts gX5_adds_X5_at rfl rfl rfl (by decide +kernel) ⟨Nat.le_of_ble_eq_true rfl, Nat.le_of_ble_eq_true rfl⟩) (kPre_S hK hN hP hD [] (by decide) rfl) rfl rfl hl.1 rfl (lv_room (Nat.le_of_ble_eq_true rfl)) dX5_adds_75 ⟨Nat.le_of_ble_eq_true rfl, Nat.le_of_ble_eq_true rfl⟩) (fun r_ u_ H locs hw hP hD hS => ?_)
    have hw : r_ = nI (92 + 6 * X.2.1.2.2.2.2.2 + 4) := hw
    subst hw
    refine lv_iconst (v := nI 0) hx hb dX5_adds_78 (by decide) ?_
    refine va_iast hx hb hK hP hD hS 1 0 rfl rfl (vp_in_nI (n := 92 + 6 * X.2.1.2.2.2.2.2 + 4) (N := 188) (by omega) (by omega)) dX5_adds_79 (fun H locs hP hD hS => ?_)
    rw [nI_clamp (n := 92 + 6 * X.2.1.2.2.2.2.2 + 4) (by omega)] at hP hD
    have hP : va_P D vwCl (bkF [mW cy ra (upd (upd (upd (upd (upd (kEq X tL tF cp) (92 + 6 * X.2.1.2.2.2.2.2 + 0) a9) (92 + 6 * X.2.1.2.2.2.2.2 + 1) b9) (92 + 6 * X.2.1.2.2.2.2.2 + 2) (nI 1)) (92 + 6 * X.2.1.2.2.2.2.2 + 3) (nI 1)) (92 + 6 * X.2.1.2.2.2.2.2 + 4) (nI 0), T)]) H := hP
    have hD : va_D A (bkF [mW cy ra (upd (upd (upd (upd (upd (kEq X tL tF cp) (92 + 6 * X.2.1.2.2.2.2.2 + 0) a9) (92 + 6 * X.2.1.2.2.2.2.2 + 1) b9) (92 + 6 * X.2.1.2.2.2.2.2 + 2) (nI 1)) (92 + 6 * X.2.1.2.2.2.2.2 + 3) (nI 1)) (92 + 6 * X.2.1.2.2.2.2.2 + 4) (nI 0), T)]) := hD
    refine lv_aload_n hx hb dX5_adds_80 rfl (lv_at hl 1 rfl) ?_
    refine va_get (D := D) (ci := 5) (v := .ref (ra 1)) (C := RX5) (T := TX5) (N := 16) hx hb hts (by decide +kernel) hown hK hP 0 rfl rfl 0 (by decide) (hts (.fieldLink RX5 7 "DanceHallModel" "all" "[I") (by decide +kernel)) (fun _ h9 => h9) rfl dX5_adds_81 ?_
    refine lv_iload hx hb dX5_adds_84 (lv_at hl 0 rfl) ?_
    refine lv_iconst (v := nI 5) hx hb dX5_adds_86 (by decide) ?_
    refine kc_i (Cs := []) (Rs := [mW cy ra (upd (upd (upd (upd (upd (kEq X tL tF cp) (92 + 6 * X.2.1.2.2.2.2.2 + 0) a9) (92 + 6 * X.2.1.2.2.2.2.2 + 1) b9) (92 + 6 * X.2.1.2.2.2.2.2 + 2) (nI 1)) (92 + 6 * X.2.1.2.2.2.2.2 + 3) (nI 1)) (92 + 6 * X.2.1.2.2.2.2.2 + 4) (nI 0), T)]) (Bs := [mW cy ra (upd (upd (upd (upd (upd (kEq X tL tF cp) (92 + 6 * X.2.1.2.2.2.2.2 + 0) a9) (92 + 6 * X.2.1.2.2.2.2.2 + 1) b9) (92 + 6 * X.2.1.2.2.2.2.2 + 2) (nI 1)) (92 + 6 * X.2.1.2.2.2.2.2 + 3) (nI 1)) (92 + 6 * X.2.1.2.2.2.2.2 + 4) (nI 0), T)]) (Cs' := fun u_ : Unit => []) (Fs := fun u_ : Unit => [mW cy ra (upd (upd (upd (upd (upd (kEq X tL tF cp) (92 + 6 * X.2.1.2.2.2.2.2 + 0) a9) (92 + 6 * X.2.1.2.2.2.2.2 + 1) b9) (92 + 6 * X.2.1.2.2.2.2.2 + 2) (nI 1)) (92 + 6 * X.2.1.2.2.2.2.2 + 3) (nI 1)) (92 + 6 * X.2.1.2.2.2.2.2 + 4) (nI 0), T)]) hP hD hS hA [] [0] [0] rfl rfl (by decide) (by decide) (fun _ => rfl) (va_runS (As := [.int (nI X.2.1.2.2.2.2.2), .int (nI 5)]) (rest := [.ref (ra 1)]) ⟨hx, hb, hml, hown, hts⟩ (c_X5_at l D cy X.2.1.2.2.2.2.2 5 H.size) (va_cwS 2 hts gX5_adds_X5_at rfl rfl rfl (by decide +kernel) ⟨Nat.le_of_ble_eq_true rfl, Nat.le_of_ble_eq_true rfl⟩) (kPre_S hK hN hP hD [] (by decide) rfl) rfl rfl hl.1 rfl (lv_room (Nat.le_of_ble_eq_true rfl)) dX5_adds_87 ⟨Nat.le_of_ble_eq_true rfl, Nat.le_of_ble_eq_true rfl⟩) (fun r_ u_ H locs hw hP hD hS => ?_)
    have hw : r_ = nI (92 + 6 * X.2.1.2.2.2.2.2 + 5) := hw
    subst hw
    refine lv_iconst (v := nI 0) hx hb dX5_adds_90 (by decide) ?_
    refine va_iast hx hb hK hP hD hS 1 0 rfl rfl (vp_in_nI (n := 92 + 6 * X.2.1.2.2.2.2.2 + 5) (N := 188) (by omega) (by omega)) dX5_adds_91 (fun H locs hP hD hS => ?_)
    rw [nI_clamp (n := 92 + 6 * X.2.1.2.2.2.2.2 + 5) (by omega)] at hP hD
    have hP : va_P D vwCl (bkF [mW cy ra (upd (upd (upd (upd (upd (upd (kEq X tL tF cp) (92 + 6 * X.2.1.2.2.2.2.2 + 0) a9) (92 + 6 * X.2.1.2.2.2.2.2 + 1) b9) (92 + 6 * X.2.1.2.2.2.2.2 + 2) (nI 1)) (92 + 6 * X.2.1.2.2.2.2.2 + 3) (nI 1)) (92 + 6 * X.2.1.2.2.2.2.2 + 4) (nI 0)) (92 + 6 * X.2.1.2.2.2.2.2 + 5) (nI 0), T)]) H := hP
    have hD : va_D A (bkF [mW cy ra (upd (upd (upd (upd (upd (upd (kEq X tL tF cp) (92 + 6 * X.2.1.2.2.2.2.2 + 0) a9) (92 + 6 * X.2.1.2.2.2.2.2 + 1) b9) (92 + 6 * X.2.1.2.2.2.2.2 + 2) (nI 1)) (92 + 6 * X.2.1.2.2.2.2.2 + 3) (nI 1)) (92 + 6 * X.2.1.2.2.2.2.2 + 4) (nI 0)) (92 + 6 * X.2.1.2.2.2.2.2 + 5) (nI 0), T)]) := hD
    refine lv_aload_n hx hb dX5_adds_92 rfl (lv_at hl 1 rfl) ?_
    refine va_get (D := D) (ci := 5) (v := .ref (ra 1)) (C := RX5) (T := TX5) (N := 16) hx hb hts (by decide +kernel) hown hK hP 0 rfl rfl 0 (by decide) (hts (.fieldLink RX5 7 "DanceHallModel" "all" "[I") (by decide +kernel)) (fun _ h9 => h9) rfl dX5_adds_93 ?_
    refine lv_iload_n hx hb dX5_adds_96 rfl (lv_at hl 2 rfl) ?_
    refine lv_if_eq (tgt := 104) hx hb dX5_adds_97 (by decide) (fun c_97 => False.elim ?_) (fun c_97 => ?_)
    · skip
      exact hx0 c_97
    · skip
      refine lv_iconst (v := nI 0) hx hb dX5_adds_100 (by decide) ?_
      refine lv_goto (tgt := 105) hx hb dX5_adds_101 (by decide) ?_
      refine lv_dup2_11 hx hb dX5_adds_105 rfl rfl ?_
      refine va_iald hx hb hK hP 1 0 rfl rfl (vp_in_nI (n := 0) (N := 188) (by omega) (by omega)) dX5_adds_106 ?_
      refine kv_i (y := nI X.2.1.2.2.2.2.2) (show ((upd (upd (upd (upd (upd (upd (kEq X tL tF cp) (92 + 6 * X.2.1.2.2.2.2.2 + 0) a9) (92 + 6 * X.2.1.2.2.2.2.2 + 1) b9) (92 + 6 * X.2.1.2.2.2.2.2 + 2) (nI 1)) (92 + 6 * X.2.1.2.2.2.2.2 + 3) (nI 1)) (92 + 6 * X.2.1.2.2.2.2.2 + 4) (nI 0)) (92 + 6 * X.2.1.2.2.2.2.2 + 5) (nI 0))) (nI 0).toNatClampNeg = nI X.2.1.2.2.2.2.2 from (by show upd _ _ _ 0 = _; rw [pk_un (by omega), pk_un (by omega), pk_un (by omega), pk_un (by omega), pk_un (by omega), pk_un (by omega)]; rfl)) ?_
      refine lv_iconst (v := nI 1) hx hb dX5_adds_107 (by decide) ?_
      refine lv_iadd hx hb dX5_adds_108 ?_
      refine kv_i (y := nI (X.2.1.2.2.2.2.2 + 1)) (nI_add X.2.1.2.2.2.2.2 1) ?_
      refine va_iast hx hb hK hP hD hS 1 0 rfl rfl (vp_in_nI (n := 0) (N := 188) (by omega) (by omega)) dX5_adds_109 (fun H locs hP hD hS => ?_)
      have hP : va_P D vwCl (bkF [mW cy ra (upd (upd (upd (upd (upd (upd (upd (kEq X tL tF cp) (92 + 6 * X.2.1.2.2.2.2.2 + 0) a9) (92 + 6 * X.2.1.2.2.2.2.2 + 1) b9) (92 + 6 * X.2.1.2.2.2.2.2 + 2) (nI 1)) (92 + 6 * X.2.1.2.2.2.2.2 + 3) (nI 1)) (92 + 6 * X.2.1.2.2.2.2.2 + 4) (nI 0)) (92 + 6 * X.2.1.2.2.2.2.2 + 5) (nI 0)) 0 (nI (X.2.1.2.2.2.2.2 + 1)), T)]) H := hP
      have hD : va_D A (bkF [mW cy ra (upd (upd (upd (upd (upd (upd (upd (kEq X tL tF cp) (92 + 6 * X.2.1.2.2.2.2.2 + 0) a9) (92 + 6 * X.2.1.2.2.2.2.2 + 1) b9) (92 + 6 * X.2.1.2.2.2.2.2 + 2) (nI 1)) (92 + 6 * X.2.1.2.2.2.2.2 + 3) (nI 1)) (92 + 6 * X.2.1.2.2.2.2.2 + 4) (nI 0)) (92 + 6 * X.2.1.2.2.2.2.2 + 5) (nI 0)) 0 (nI (X.2.1.2.2.2.2.2 + 1)), T)]) := hD
      have hP := kP_cell (g := (kEq (X.1, kAd X.2.1 a9 b9 c9, X.2.2) tL tF cp)) hP 1 rfl (fun j hj => by rw [h9]; exact kqu_adL rfl hn8 ht j hj)
      have hD := hD.set (p := 1) (e := .inl (cy 0, 188, .inl (kEq (X.1, kAd X.2.1 a9 b9 c9, X.2.2) tL tF cp))) rfl
      have hP : va_P D vwCl (bkF [mW cy ra (kEq (X.1, kAd X.2.1 a9 b9 c9, X.2.2) tL tF cp, T)]) H := hP
      have hD : va_D A (bkF [mW cy ra (kEq (X.1, kAd X.2.1 a9 b9 c9, X.2.2) tL tF cp, T)]) := hD
      exact kr_v (post := fun u_ : Unit => True) (Bs := fun u_ : Unit => [mW cy ra (kEq (X.1, kAd X.2.1 a9 b9 c9, X.2.2) tL tF cp, T)]) hx hb hr hlocks () hP hK hD hS trivial dX5_adds_110 hQ
abbrev rm_X5_addGuest_t : Room := { frames := 2, cells := 0, slots := 0, locals := 46 }
set_option maxHeartbeats 1000000 in
set_option maxRecDepth 100000 in
/-- addGuest -/
theorem c_X5_addGuest_t (l : Launch) (D : va_G) (cy : Nat → ClassId) (ra : Nat → Nat) (X : rS) (T : rV) (x : Int32) (tk : Nat) (z : Nat) (sh : Int32) (hx0 : ¬ x = 0) (htk : tk ≤ 99) (hz1 : 1 ≤ z) (hz : z ≤ 9) (hsh : sh = nI 0 ∨ sh = nI 1) (hn8 : X.2.1.2.2.2.2.2 < 8) (htn : kTL X.2.2.2.2 (X.2.1.2.2.2.2.2) = 0) (hsm : T.2.2.1 ≤ 4) (sz : Nat) : Met l yX5_addGuest wsX5_addGuest rm_X5_addGuest_t (va_Pc [.ref (ra 0), .int x, .int (nI tk), .int (nI z), .int sh] (kPre D (kT cy) [mW cy ra (kEn X, T)] sz)) (va_Qi (fun r_ (u_ : Unit) => r_ = nI X.2.1.2.2.2.2.2) (kFr D (kT cy) [mW cy ra (kEn X, T)] sz (fun u_ : Unit => [mW cy ra (kEn (X.1, kAd X.2.1 (nI tk) (nI z) sh, X.2.2), (kRsv (kEn X) T.1 T.2.2.1, T.2.1, kSc T.2.2.1, nI 0, T.2.2.2.2))])) (va_A (bkF [mW cy ra (kEn X, T)]) sz)) 0 0 (va_A (bkF [mW cy ra (kEn X, T)]) sz) := by
  refine kOpen (y := yX5_addGuest) (ws := wsX5_addGuest) (cc := cX5_addGuest) (maxL := 5) (ret := (some .int)) (av := [.ref (ra 0), .int x, .int (nI tk), .int (nI z), .int sh]) (Bs := [mW cy ra (kEn X, T)]) (Qc := fun A => (va_Qi (fun r_ (u_ : Unit) => r_ = nI X.2.1.2.2.2.2.2) (fun (u_ : Unit) t9 => kEnd D (kT cy) A [mW cy ra (kEn (X.1, kAd X.2.1 (nI tk) (nI z) sh, X.2.2), (kRsv (kEn X) T.1 T.2.2.1, T.2.1, kSc T.2.2.1, nI 0, T.2.2.2.2))] t9) A)) (by decide) rfl (Nat.le_of_ble_eq_true rfl) ?_
  intro p e s m args below meth c A Q ls hQ hx hb hml hr hlocks hin hts hown hN hK hP hD hS hA hsz hAe hl
  clear hAe
  have hl : lv_has ls 5 [(0, .ref (ra 0)), (1, .int x), (2, .int (nI tk)), (3, .int (nI z)), (4, .int sh)] := hl
  suffices K9 : ∀ (H : Heap) (locs : List Loc), va_P D vwCl (bkF [mW cy ra (kEn X, T)]) H → va_S A s.heap H locs → W p l e (headSpec wsX5_addGuest rm_X5_addGuest_t).room s m args below meth c H locs 0 0 Q (F0 m 0 ls []) from K9 _ _ hP hS
  clear hP hS
  intro H locs hP hS
  refine lv_iload_n hx hb dX5_addGuest_0 rfl (lv_at hl 2 rfl) ?_
  refine lv_i2l (v := (nI tk).toInt64) hx hb dX5_addGuest_1 rfl ?_
  refine lv_lconst (v := 0) hx hb dX5_addGuest_2 (by decide) ?_
  refine lv_ldc2 hx hb hown (hts (.constantLong RX5 67 (99)) (by decide +kernel)) dX5_addGuest_3 ?_
  refine kc_i (Cs := []) (Rs := [mW cy ra (kEn X, T)]) (Bs := [mW cy ra (kEn X, T)]) (Cs' := fun u_ : Unit => []) (Fs := fun u_ : Unit => [mW cy ra (kEn X, T)]) hP hD hS hA [] [0] [0] rfl rfl (by decide) (by decide) (fun _ => rfl) (va_runS (As := [.long ((nI tk).toInt64), .long 0, .long (99)]) (rest := []) ⟨hx, hb, hml, hown, hts⟩ (c_X5_in l D cy ((nI tk).toInt64) 0 (99) H.size) (va_cwS 3 hts gX5_addGuest_X5_in rfl rfl rfl (by decide +kernel) ⟨Nat.le_of_ble_eq_true rfl, Nat.le_of_ble_eq_true rfl⟩) (kPre_S hK hN hP hD [] (by decide) rfl) rfl rfl hl.1 rfl (lv_room (Nat.le_of_ble_eq_true rfl)) dX5_addGuest_6 ⟨Nat.le_of_ble_eq_true rfl, Nat.le_of_ble_eq_true rfl⟩) (fun r_ u_ H locs hw hP hD hS => ?_)
  have hw : r_ = if kIn ((nI tk).toInt64) 0 (99) then nI 1 else nI 0 := hw
  subst hw
  refine kv_i (y := nI 1) (if_pos ((kIn32 (y := nI 0) (z := nI 99) (by decide) (by decide)).mpr (kwin (by omega) (by omega) (by decide)))) ?_
  refine lv_if_eq (tgt := 24) hx hb dX5_addGuest_9 (by decide) (fun h => absurd h (by decide)) (fun _ => ?_)
  refine lv_iload_n hx hb dX5_addGuest_12 rfl (lv_at hl 3 rfl) ?_
  refine lv_i2l (v := (nI z).toInt64) hx hb dX5_addGuest_13 rfl ?_
  refine lv_lconst (v := 1) hx hb dX5_addGuest_14 (by decide) ?_
  refine lv_ldc2 hx hb hown (hts (.constantLong RX5 69 (9)) (by decide +kernel)) dX5_addGuest_15 ?_
  refine kc_i (Cs := []) (Rs := [mW cy ra (kEn X, T)]) (Bs := [mW cy ra (kEn X, T)]) (Cs' := fun u_ : Unit => []) (Fs := fun u_ : Unit => [mW cy ra (kEn X, T)]) hP hD hS hA [] [0] [0] rfl rfl (by decide) (by decide) (fun _ => rfl) (va_runS (As := [.long ((nI z).toInt64), .long 1, .long (9)]) (rest := []) ⟨hx, hb, hml, hown, hts⟩ (c_X5_in l D cy ((nI z).toInt64) 1 (9) H.size) (va_cwS 3 hts gX5_addGuest_X5_in rfl rfl rfl (by decide +kernel) ⟨Nat.le_of_ble_eq_true rfl, Nat.le_of_ble_eq_true rfl⟩) (kPre_S hK hN hP hD [] (by decide) rfl) rfl rfl hl.1 rfl (lv_room (Nat.le_of_ble_eq_true rfl)) dX5_addGuest_18 ⟨Nat.le_of_ble_eq_true rfl, Nat.le_of_ble_eq_true rfl⟩) (fun r_ u_ H locs hw hP hD hS => ?_)
  have hw : r_ = if kIn ((nI z).toInt64) 1 (9) then nI 1 else nI 0 := hw
  subst hw
  refine kv_i (y := nI 1) (if_pos ((kIn32 (y := nI 1) (z := nI 9) (by decide) (by decide)).mpr (kwin (by omega) (by omega) (by decide)))) ?_
  refine lv_if_ne (tgt := 30) hx hb dX5_addGuest_21 (by decide) (fun _ => ?_) (fun h => absurd h (by decide))
  refine lv_aload_n hx hb dX5_addGuest_30 rfl (lv_at hl 0 rfl) ?_
  refine lv_iload_n hx hb dX5_addGuest_31 rfl (lv_at hl 1 rfl) ?_
  refine kc_i (Cs := [mW cy ra (kEn X, T)]) (Rs := []) (Bs := [mW cy ra (kEn X, T)]) (Cs' := fun u_ : Unit => [mW cy ra (kEn X, T)]) (Fs := fun u_ : Unit => [mW cy ra (kEn X, T)]) hP hD hS hA [0] [] [0] rfl rfl (by decide) (by decide) (fun _ => rfl) (va_runV (As := [.int x]) (rest := []) ⟨hx, hb, hml, hown, hts⟩ (c_X5_many_t l D cy ra (kEn X) T x hx0 H.size) (cwV 1 hts gX5_addGuest_X5_many rfl rfl rfl (by decide +kernel) ⟨Nat.le_of_ble_eq_true rfl, Nat.le_of_ble_eq_true rfl⟩) (kPre_V (ci := 5) hK hN hP hD [0] (by decide) rfl 0 rfl rfl) rfl rfl hl.1 rfl (lv_room (Nat.le_of_ble_eq_true rfl)) dX5_addGuest_32 ⟨Nat.le_of_ble_eq_true rfl, Nat.le_of_ble_eq_true rfl⟩) (fun r_ u_ H locs hw hP hD hS => ?_)
  have hw : r_ = (kEn X) 0 := hw
  subst hw
  refine kv_i (y := nI X.2.1.2.2.2.2.2) rfl ?_
  refine lv_bipush (v := nI 8) hx hb dX5_addGuest_35 (by decide) ?_
  refine lv_icmp_ne (tgt := 46) hx hb dX5_addGuest_37 (by decide) (fun c_37 => ?_) (fun c_37 => False.elim ?_)
  · skip
    have c_37 : ¬ (X.2.1.2.2.2.2.2 = 8) := fun h => c_37 ((nI_eq (a := X.2.1.2.2.2.2.2) (b := 8) (by omega) (by omega)).mpr h)
    refine lv_aload_n hx hb dX5_addGuest_46 rfl (lv_at hl 0 rfl) ?_
    refine kc_v (Cs := [mW cy ra (kEn X, T)]) (Rs := []) (Bs := [mW cy ra (kEn X, T)]) (Cs' := fun u_ : Unit => [mW cy ra (kEn X, (kRsv (kEn X) T.1 T.2.2.1, T.2.1, kSc T.2.2.1, T.2.2.2))]) (Fs := fun u_ : Unit => [mW cy ra (kEn X, (kRsv (kEn X) T.1 T.2.2.1, T.2.1, kSc T.2.2.1, T.2.2.2))]) hP hD hS hA [0] [] [0] rfl rfl (by decide) (by decide) (fun _ => rfl) (va_runV (As := []) (rest := []) ⟨hx, hb, hml, hown, hts⟩ (c_X5_save l D cy ra X T (by first | assumption | omega | decide) H.size) (cwV 0 hts gX5_addGuest_X5_save rfl rfl rfl (by decide +kernel) ⟨Nat.le_of_ble_eq_true rfl, Nat.le_of_ble_eq_true rfl⟩) (kPre_V (ci := 5) hK hN hP hD [0] (by decide) rfl 0 rfl rfl) rfl rfl hl.1 rfl (lv_room (Nat.le_of_ble_eq_true rfl)) dX5_addGuest_47 ⟨Nat.le_of_ble_eq_true rfl, Nat.le_of_ble_eq_true rfl⟩) (fun u_ H locs hw hP hD hS => ?_)
    refine lv_aload_n hx hb dX5_addGuest_50 rfl (lv_at hl 0 rfl) ?_
    refine lv_iload_n hx hb dX5_addGuest_51 rfl (lv_at hl 1 rfl) ?_
    refine lv_iload_n hx hb dX5_addGuest_52 rfl (lv_at hl 2 rfl) ?_
    refine lv_iload_n hx hb dX5_addGuest_53 rfl (lv_at hl 3 rfl) ?_
    refine lv_iload hx hb dX5_addGuest_54 (lv_at hl 4 rfl) ?_
    have hP : va_P D vwCl (bkF [mW cy ra (kEq X (kTL X.2.2.2.2) (kTF X.2.2.2.2) (kCp X.2.2.2.2), (kRsv (kEn X) T.1 T.2.2.1, T.2.1, kSc T.2.2.1, T.2.2.2))]) H := hP
    have hD : va_D A (bkF [mW cy ra (kEq X (kTL X.2.2.2.2) (kTF X.2.2.2.2) (kCp X.2.2.2.2), (kRsv (kEn X) T.1 T.2.2.1, T.2.1, kSc T.2.2.1, T.2.2.2))]) := hD
    refine kc_v (Cs := [mW cy ra (kEq X (kTL X.2.2.2.2) (kTF X.2.2.2.2) (kCp X.2.2.2.2), (kRsv (kEn X) T.1 T.2.2.1, T.2.1, kSc T.2.2.1, T.2.2.2))]) (Rs := []) (Bs := [mW cy ra (kEq X (kTL X.2.2.2.2) (kTF X.2.2.2.2) (kCp X.2.2.2.2), (kRsv (kEn X) T.1 T.2.2.1, T.2.1, kSc T.2.2.1, T.2.2.2))]) (Cs' := fun u_ : Unit => [mW cy ra (kEq (X.1, kAd X.2.1 (nI tk) (nI z) sh, X.2.2) (kTL X.2.2.2.2) (kTF X.2.2.2.2) (kCp X.2.2.2.2), ((kRsv (kEn X) T.1 T.2.2.1), T.2.1, (kSc T.2.2.1), T.2.2.2))]) (Fs := fun u_ : Unit => [mW cy ra (kEq (X.1, kAd X.2.1 (nI tk) (nI z) sh, X.2.2) (kTL X.2.2.2.2) (kTF X.2.2.2.2) (kCp X.2.2.2.2), ((kRsv (kEn X) T.1 T.2.2.1), T.2.1, (kSc T.2.2.1), T.2.2.2))]) hP hD hS hA [0] [] [0] rfl rfl (by decide) (by decide) (fun _ => rfl) (va_runV (As := [.int x, .int (nI tk), .int (nI z), .int sh]) (rest := []) ⟨hx, hb, hml, hown, hts⟩ (c_X5_adds_t l D cy ra X (kTL X.2.2.2.2) (kTF X.2.2.2.2) (kCp X.2.2.2.2) (kRsv (kEn X) T.1 T.2.2.1, T.2.1, kSc T.2.2.1, T.2.2.2) x (nI tk) (nI z) sh hx0 (by first | assumption | omega | decide) htn hsh H.size) (cwV 4 hts gX5_addGuest_X5_adds rfl rfl rfl (by decide +kernel) ⟨Nat.le_of_ble_eq_true rfl, Nat.le_of_ble_eq_true rfl⟩) (kPre_V (ci := 5) hK hN hP hD [0] (by decide) rfl 0 rfl rfl) rfl rfl hl.1 rfl (lv_room (Nat.le_of_ble_eq_true rfl)) dX5_addGuest_56 ⟨Nat.le_of_ble_eq_true rfl, Nat.le_of_ble_eq_true rfl⟩) (fun u_ H locs hw hP hD hS => ?_)
    have hP : va_P D vwCl (bkF [mW cy ra (kEn (X.1, kAd X.2.1 (nI tk) (nI z) sh, X.2.2), ((kRsv (kEn X) T.1 T.2.2.1), T.2.1, (kSc T.2.2.1), T.2.2.2))]) H := hP
    have hD : va_D A (bkF [mW cy ra (kEn (X.1, kAd X.2.1 (nI tk) (nI z) sh, X.2.2), ((kRsv (kEn X) T.1 T.2.2.1), T.2.1, (kSc T.2.2.1), T.2.2.2))]) := hD
    refine lv_aload_n hx hb dX5_addGuest_59 rfl (lv_at hl 0 rfl) ?_
    refine lv_aload_n hx hb dX5_addGuest_60 rfl (lv_at hl 0 rfl) ?_
    refine lv_iload_n hx hb dX5_addGuest_61 rfl (lv_at hl 1 rfl) ?_
    refine kc_i (Cs := [mW cy ra (kEn (X.1, kAd X.2.1 (nI tk) (nI z) sh, X.2.2), ((kRsv (kEn X) T.1 T.2.2.1), T.2.1, (kSc T.2.2.1), T.2.2.2))]) (Rs := []) (Bs := [mW cy ra (kEn (X.1, kAd X.2.1 (nI tk) (nI z) sh, X.2.2), ((kRsv (kEn X) T.1 T.2.2.1), T.2.1, (kSc T.2.2.1), T.2.2.2))]) (Cs' := fun u_ : Unit => [mW cy ra (kEn (X.1, kAd X.2.1 (nI tk) (nI z) sh, X.2.2), ((kRsv (kEn X) T.1 T.2.2.1), T.2.1, (kSc T.2.2.1), T.2.2.2))]) (Fs := fun u_ : Unit => [mW cy ra (kEn (X.1, kAd X.2.1 (nI tk) (nI z) sh, X.2.2), ((kRsv (kEn X) T.1 T.2.2.1), T.2.1, (kSc T.2.2.1), T.2.2.2))]) hP hD hS hA [0] [] [0] rfl rfl (by decide) (by decide) (fun _ => rfl) (va_runV (As := [.int x]) (rest := [.ref (ra 0)]) ⟨hx, hb, hml, hown, hts⟩ (c_X5_many_t l D cy ra (kEn (X.1, kAd X.2.1 (nI tk) (nI z) sh, X.2.2)) ((kRsv (kEn X) T.1 T.2.2.1), T.2.1, (kSc T.2.2.1), T.2.2.2) x hx0 H.size) (cwV 1 hts gX5_addGuest_X5_many rfl rfl rfl (by decide +kernel) ⟨Nat.le_of_ble_eq_true rfl, Nat.le_of_ble_eq_true rfl⟩) (kPre_V (ci := 5) hK hN hP hD [0] (by decide) rfl 0 rfl rfl) rfl rfl hl.1 rfl (lv_room (Nat.le_of_ble_eq_true rfl)) dX5_addGuest_62 ⟨Nat.le_of_ble_eq_true rfl, Nat.le_of_ble_eq_true rfl⟩) (fun r_ u_ H locs hw hP hD hS => ?_)
    have hw : r_ = (kEn (X.1, kAd X.2.1 (nI tk) (nI z) sh, X.2.2)) 0 := hw
    subst hw
    refine kv_i (y := nI (X.2.1.2.2.2.2.2 + 1)) rfl ?_
    refine lv_iconst (v := nI 1) hx hb dX5_addGuest_65 (by decide) ?_
    refine lv_isub hx hb dX5_addGuest_66 ?_
    refine kv_i (y := nI X.2.1.2.2.2.2.2) (by rw [pk_sub (by omega)]; rfl) ?_
    refine kc_i (Cs := [mW cy ra (kEn (X.1, kAd X.2.1 (nI tk) (nI z) sh, X.2.2), ((kRsv (kEn X) T.1 T.2.2.1), T.2.1, (kSc T.2.2.1), T.2.2.2))]) (Rs := []) (Bs := [mW cy ra (kEn (X.1, kAd X.2.1 (nI tk) (nI z) sh, X.2.2), ((kRsv (kEn X) T.1 T.2.2.1), T.2.1, (kSc T.2.2.1), T.2.2.2))]) (Cs' := fun u_ : Unit => [mW cy ra ((kEn (X.1, kAd X.2.1 (nI tk) (nI z) sh, X.2.2)), ((kRsv (kEn X) T.1 T.2.2.1), T.2.1, (kSc T.2.2.1), nI 0, T.2.2.2.2))]) (Fs := fun u_ : Unit => [mW cy ra ((kEn (X.1, kAd X.2.1 (nI tk) (nI z) sh, X.2.2)), ((kRsv (kEn X) T.1 T.2.2.1), T.2.1, (kSc T.2.2.1), nI 0, T.2.2.2.2))]) hP hD hS hA [0] [] [0] rfl rfl (by decide) (by decide) (fun _ => rfl) (va_runV (As := [.int (nI X.2.1.2.2.2.2.2)]) (rest := []) ⟨hx, hb, hml, hown, hts⟩ (c_X5_fine l D cy ra (kEn (X.1, kAd X.2.1 (nI tk) (nI z) sh, X.2.2)) ((kRsv (kEn X) T.1 T.2.2.1), T.2.1, (kSc T.2.2.1), T.2.2.2) (nI X.2.1.2.2.2.2.2) H.size) (cwV 1 hts gX5_addGuest_X5_fine rfl rfl rfl (by decide +kernel) ⟨Nat.le_of_ble_eq_true rfl, Nat.le_of_ble_eq_true rfl⟩) (kPre_V (ci := 5) hK hN hP hD [0] (by decide) rfl 0 rfl rfl) rfl rfl hl.1 rfl (lv_room (Nat.le_of_ble_eq_true rfl)) dX5_addGuest_67 ⟨Nat.le_of_ble_eq_true rfl, Nat.le_of_ble_eq_true rfl⟩) (fun r_ u_ H locs hw hP hD hS => ?_)
    have hw : r_ = (nI X.2.1.2.2.2.2.2) := hw
    subst hw
    exact kr_i (post := fun r_ (u_ : Unit) => r_ = nI X.2.1.2.2.2.2.2) (Bs := fun u_ : Unit => [mW cy ra (kEn (X.1, kAd X.2.1 (nI tk) (nI z) sh, X.2.2), (kRsv (kEn X) T.1 T.2.2.1, T.2.1, kSc T.2.2.1, nI 0, T.2.2.2.2))]) hx hb hr hlocks rfl () hP hK hD hS rfl dX5_addGuest_70 hQ
  · skip
    have c_37 : X.2.1.2.2.2.2.2 = 8 := (nI_eq (a := X.2.1.2.2.2.2.2) (b := 8) (by omega) (by omega)).mp c_37
    omega
abbrev rm_X5_addGuest_st : Room := { frames := 1, cells := 0, slots := 0, locals := 25 }
set_option maxHeartbeats 1000000 in
set_option maxRecDepth 100000 in
/-- addGuest, no place -/
theorem c_X5_addGuest_st (l : Launch) (D : va_G) (cy : Nat → ClassId) (ra : Nat → Nat) (X : rS) (T : rV) (x : Int32) (tk : Nat) (z : Nat) (sh : Int32) (hx0 : ¬ x = 0) (htk : tk ≤ 99) (hz1 : 1 ≤ z) (hz : z ≤ 9) (hn8 : X.2.1.2.2.2.2.2 = 8) (sz : Nat) : Met l yX5_addGuest wsX5_addGuest rm_X5_addGuest_st (va_Pc [.ref (ra 0), .int x, .int (nI tk), .int (nI z), .int sh] (kPre D (kT cy) [mW cy ra (kEn X, T)] sz)) (va_Qi (fun r_ (u_ : Unit) => r_ = nI 0) (kFr D (kT cy) [mW cy ra (kEn X, T)] sz (fun u_ : Unit => [mW cy ra (kEn X, (T.1, T.2.1, T.2.2.1, nI 2, T.2.2.2.2))])) (va_A (bkF [mW cy ra (kEn X, T)]) sz)) 0 0 (va_A (bkF [mW cy ra (kEn X, T)]) sz) := by
  refine kOpen (y := yX5_addGuest) (ws := wsX5_addGuest) (cc := cX5_addGuest) (maxL := 5) (ret := (some .int)) (av := [.ref (ra 0), .int x, .int (nI tk), .int (nI z), .int sh]) (Bs := [mW cy ra (kEn X, T)]) (Qc := fun A => (va_Qi (fun r_ (u_ : Unit) => r_ = nI 0) (fun (u_ : Unit) t9 => kEnd D (kT cy) A [mW cy ra (kEn X, (T.1, T.2.1, T.2.2.1, nI 2, T.2.2.2.2))] t9) A)) (by decide) rfl (Nat.le_of_ble_eq_true rfl) ?_
  intro p e s m args below meth c A Q ls hQ hx hb hml hr hlocks hin hts hown hN hK hP hD hS hA hsz hAe hl
  clear hAe
  have hl : lv_has ls 5 [(0, .ref (ra 0)), (1, .int x), (2, .int (nI tk)), (3, .int (nI z)), (4, .int sh)] := hl
  suffices K9 : ∀ (H : Heap) (locs : List Loc), va_P D vwCl (bkF [mW cy ra (kEn X, T)]) H → va_S A s.heap H locs → W p l e (headSpec wsX5_addGuest rm_X5_addGuest_st).room s m args below meth c H locs 0 0 Q (F0 m 0 ls []) from K9 _ _ hP hS
  clear hP hS
  intro H locs hP hS
  refine lv_iload_n hx hb dX5_addGuest_0 rfl (lv_at hl 2 rfl) ?_
  refine lv_i2l (v := (nI tk).toInt64) hx hb dX5_addGuest_1 rfl ?_
  refine lv_lconst (v := 0) hx hb dX5_addGuest_2 (by decide) ?_
  refine lv_ldc2 hx hb hown (hts (.constantLong RX5 67 (99)) (by decide +kernel)) dX5_addGuest_3 ?_
  refine kc_i (Cs := []) (Rs := [mW cy ra (kEn X, T)]) (Bs := [mW cy ra (kEn X, T)]) (Cs' := fun u_ : Unit => []) (Fs := fun u_ : Unit => [mW cy ra (kEn X, T)]) hP hD hS hA [] [0] [0] rfl rfl (by decide) (by decide) (fun _ => rfl) (va_runS (As := [.long ((nI tk).toInt64), .long 0, .long (99)]) (rest := []) ⟨hx, hb, hml, hown, hts⟩ (c_X5_in l D cy ((nI tk).toInt64) 0 (99) H.size) (va_cwS 3 hts gX5_addGuest_X5_in rfl rfl rfl (by decide +kernel) ⟨Nat.le_of_ble_eq_true rfl, Nat.le_of_ble_eq_true rfl⟩) (kPre_S hK hN hP hD [] (by decide) rfl) rfl rfl hl.1 rfl (lv_room (Nat.le_of_ble_eq_true rfl)) dX5_addGuest_6 ⟨Nat.le_of_ble_eq_true rfl, Nat.le_of_ble_eq_true rfl⟩) (fun r_ u_ H locs hw hP hD hS => ?_)
  have hw : r_ = if kIn ((nI tk).toInt64) 0 (99) then nI 1 else nI 0 := hw
  subst hw
  refine kv_i (y := nI 1) (if_pos ((kIn32 (y := nI 0) (z := nI 99) (by decide) (by decide)).mpr (kwin (by omega) (by omega) (by decide)))) ?_
  refine lv_if_eq (tgt := 24) hx hb dX5_addGuest_9 (by decide) (fun h => absurd h (by decide)) (fun _ => ?_)
  refine lv_iload_n hx hb dX5_addGuest_12 rfl (lv_at hl 3 rfl) ?_
  refine lv_i2l (v := (nI z).toInt64) hx hb dX5_addGuest_13 rfl ?_
  refine lv_lconst (v := 1) hx hb dX5_addGuest_14 (by decide) ?_
  refine lv_ldc2 hx hb hown (hts (.constantLong RX5 69 (9)) (by decide +kernel)) dX5_addGuest_15 ?_
  refine kc_i (Cs := []) (Rs := [mW cy ra (kEn X, T)]) (Bs := [mW cy ra (kEn X, T)]) (Cs' := fun u_ : Unit => []) (Fs := fun u_ : Unit => [mW cy ra (kEn X, T)]) hP hD hS hA [] [0] [0] rfl rfl (by decide) (by decide) (fun _ => rfl) (va_runS (As := [.long ((nI z).toInt64), .long 1, .long (9)]) (rest := []) ⟨hx, hb, hml, hown, hts⟩ (c_X5_in l D cy ((nI z).toInt64) 1 (9) H.size) (va_cwS 3 hts gX5_addGuest_X5_in rfl rfl rfl (by decide +kernel) ⟨Nat.le_of_ble_eq_true rfl, Nat.le_of_ble_eq_true rfl⟩) (kPre_S hK hN hP hD [] (by decide) rfl) rfl rfl hl.1 rfl (lv_room (Nat.le_of_ble_eq_true rfl)) dX5_addGuest_18 ⟨Nat.le_of_ble_eq_true rfl, Nat.le_of_ble_eq_true rfl⟩) (fun r_ u_ H locs hw hP hD hS => ?_)
  have hw : r_ = if kIn ((nI z).toInt64) 1 (9) then nI 1 else nI 0 := hw
  subst hw
  refine kv_i (y := nI 1) (if_pos ((kIn32 (y := nI 1) (z := nI 9) (by decide) (by decide)).mpr (kwin (by omega) (by omega) (by decide)))) ?_
  refine lv_if_ne (tgt := 30) hx hb dX5_addGuest_21 (by decide) (fun _ => ?_) (fun h => absurd h (by decide))
  refine lv_aload_n hx hb dX5_addGuest_30 rfl (lv_at hl 0 rfl) ?_
  refine lv_iload_n hx hb dX5_addGuest_31 rfl (lv_at hl 1 rfl) ?_
  refine kc_i (Cs := [mW cy ra (kEn X, T)]) (Rs := []) (Bs := [mW cy ra (kEn X, T)]) (Cs' := fun u_ : Unit => [mW cy ra (kEn X, T)]) (Fs := fun u_ : Unit => [mW cy ra (kEn X, T)]) hP hD hS hA [0] [] [0] rfl rfl (by decide) (by decide) (fun _ => rfl) (va_runV (As := [.int x]) (rest := []) ⟨hx, hb, hml, hown, hts⟩ (c_X5_many_t l D cy ra (kEn X) T x hx0 H.size) (cwV 1 hts gX5_addGuest_X5_many rfl rfl rfl (by decide +kernel) ⟨Nat.le_of_ble_eq_true rfl, Nat.le_of_ble_eq_true rfl⟩) (kPre_V (ci := 5) hK hN hP hD [0] (by decide) rfl 0 rfl rfl) rfl rfl hl.1 rfl (lv_room (Nat.le_of_ble_eq_true rfl)) dX5_addGuest_32 ⟨Nat.le_of_ble_eq_true rfl, Nat.le_of_ble_eq_true rfl⟩) (fun r_ u_ H locs hw hP hD hS => ?_)
  have hw : r_ = (kEn X) 0 := hw
  subst hw
  refine kv_i (y := nI X.2.1.2.2.2.2.2) rfl ?_
  refine lv_bipush (v := nI 8) hx hb dX5_addGuest_35 (by decide) ?_
  refine lv_icmp_ne (tgt := 46) hx hb dX5_addGuest_37 (by decide) (fun c_37 => False.elim ?_) (fun c_37 => ?_)
  · skip
    have c_37 : ¬ (X.2.1.2.2.2.2.2 = 8) := fun h => c_37 ((nI_eq (a := X.2.1.2.2.2.2.2) (b := 8) (by omega) (by omega)).mpr h)
    omega
  · skip
    have c_37 : X.2.1.2.2.2.2.2 = 8 := (nI_eq (a := X.2.1.2.2.2.2.2) (b := 8) (by omega) (by omega)).mp c_37
    refine lv_aload_n hx hb dX5_addGuest_40 rfl (lv_at hl 0 rfl) ?_
    refine lv_iconst (v := nI 2) hx hb dX5_addGuest_41 (by decide) ?_
    refine kc_i (Cs := [mW cy ra (kEn X, T)]) (Rs := []) (Bs := [mW cy ra (kEn X, T)]) (Cs' := fun u_ : Unit => [mW cy ra ((kEn X), (T.1, T.2.1, T.2.2.1, (nI 2), T.2.2.2.2))]) (Fs := fun u_ : Unit => [mW cy ra ((kEn X), (T.1, T.2.1, T.2.2.1, (nI 2), T.2.2.2.2))]) hP hD hS hA [0] [] [0] rfl rfl (by decide) (by decide) (fun _ => rfl) (va_runV (As := [.int (nI 2)]) (rest := []) ⟨hx, hb, hml, hown, hts⟩ (c_X5_throwing l D cy ra (kEn X) T (nI 2) H.size) (cwV 1 hts gX5_addGuest_X5_throwing rfl rfl rfl (by decide +kernel) ⟨Nat.le_of_ble_eq_true rfl, Nat.le_of_ble_eq_true rfl⟩) (kPre_V (ci := 5) hK hN hP hD [0] (by decide) rfl 0 rfl rfl) rfl rfl hl.1 rfl (lv_room (Nat.le_of_ble_eq_true rfl)) dX5_addGuest_42 ⟨Nat.le_of_ble_eq_true rfl, Nat.le_of_ble_eq_true rfl⟩) (fun r_ u_ H locs hw hP hD hS => ?_)
    have hw : r_ = nI 0 := hw
    subst hw
    exact kr_i (post := fun r_ (u_ : Unit) => r_ = nI 0) (Bs := fun u_ : Unit => [mW cy ra (kEn X, (T.1, T.2.1, T.2.2.1, nI 2, T.2.2.2.2))]) hx hb hr hlocks rfl () hP hK hD hS rfl dX5_addGuest_45 hQ
abbrev rm_X5_giveTokens_t : Room := { frames := 2, cells := 0, slots := 0, locals := 47 }
set_option maxHeartbeats 1000000 in
set_option maxRecDepth 100000 in
/-- giveTokens -/
theorem c_X5_giveTokens_t (l : Launch) (D : va_G) (cy : Nat → ClassId) (ra : Nat → Nat) (X : rS) (T : rV) (x : Int32) (i : Nat) (v : Int32) (hx0 : ¬ x = 0) (hn : X.2.1.2.2.2.2.2 ≤ 8) (hi : i < X.2.1.2.2.2.2.2) (hv : ¬ v < (-99) ∧ ¬ nI 99 < v) (hsum : ¬ (X.2.1.1 i + v) < nI 0 ∧ ¬ nI 99 < (X.2.1.1 i + v)) (hsm : T.2.2.1 ≤ 4) (sz : Nat) : Met l yX5_giveTokens wsX5_giveTokens rm_X5_giveTokens_t (va_Pc [.ref (ra 0), .int x, .int (nI i), .int v] (kPre D (kT cy) [mW cy ra (kEn X, T)] sz)) (va_Qi (fun r_ (u_ : Unit) => r_ = X.2.1.1 i + v) (kFr D (kT cy) [mW cy ra (kEn X, T)] sz (fun u_ : Unit => [mW cy ra (kEn (X.1, (upd X.2.1.1 i (X.2.1.1 i + v), X.2.1.2), X.2.2), (kRsv (kEn X) T.1 T.2.2.1, T.2.1, kSc T.2.2.1, nI 0, T.2.2.2.2))])) (va_A (bkF [mW cy ra (kEn X, T)]) sz)) 0 0 (va_A (bkF [mW cy ra (kEn X, T)]) sz) := by
  refine kOpen (y := yX5_giveTokens) (ws := wsX5_giveTokens) (cc := cX5_giveTokens) (maxL := 5) (ret := (some .int)) (av := [.ref (ra 0), .int x, .int (nI i), .int v]) (Bs := [mW cy ra (kEn X, T)]) (Qc := fun A => (va_Qi (fun r_ (u_ : Unit) => r_ = X.2.1.1 i + v) (fun (u_ : Unit) t9 => kEnd D (kT cy) A [mW cy ra (kEn (X.1, (upd X.2.1.1 i (X.2.1.1 i + v), X.2.1.2), X.2.2), (kRsv (kEn X) T.1 T.2.2.1, T.2.1, kSc T.2.2.1, nI 0, T.2.2.2.2))] t9) A)) (by decide) rfl (Nat.le_of_ble_eq_true rfl) ?_
  intro p e s m args below meth c A Q ls hQ hx hb hml hr hlocks hin hts hown hN hK hP hD hS hA hsz hAe hl
  clear hAe
  have hl : lv_has ls 5 [(0, .ref (ra 0)), (1, .int x), (2, .int (nI i)), (3, .int v)] := hl
  suffices K9 : ∀ (H : Heap) (locs : List Loc), va_P D vwCl (bkF [mW cy ra (kEn X, T)]) H → va_S A s.heap H locs → W p l e (headSpec wsX5_giveTokens rm_X5_giveTokens_t).room s m args below meth c H locs 0 0 Q (F0 m 0 ls []) from K9 _ _ hP hS
  clear hP hS
  intro H locs hP hS
  refine lv_aload_n hx hb dX5_giveTokens_0 rfl (lv_at hl 0 rfl) ?_
  refine lv_iload_n hx hb dX5_giveTokens_1 rfl (lv_at hl 1 rfl) ?_
  refine lv_iload_n hx hb dX5_giveTokens_2 rfl (lv_at hl 2 rfl) ?_
  refine kc_i (Cs := [mW cy ra (kEn X, T)]) (Rs := []) (Bs := [mW cy ra (kEn X, T)]) (Cs' := fun u_ : Unit => [mW cy ra (kEn X, T)]) (Fs := fun u_ : Unit => [mW cy ra (kEn X, T)]) hP hD hS hA [0] [] [0] rfl rfl (by decide) (by decide) (fun _ => rfl) (va_runV (As := [.int x, .int (nI i)]) (rest := []) ⟨hx, hb, hml, hown, hts⟩ (c_X5_isGuest_t l D cy ra X T x (nI i) hx0 (by first | assumption | omega | decide) H.size) (cwV 2 hts gX5_giveTokens_X5_isGuest rfl rfl rfl (by decide +kernel) ⟨Nat.le_of_ble_eq_true rfl, Nat.le_of_ble_eq_true rfl⟩) (kPre_V (ci := 5) hK hN hP hD [0] (by decide) rfl 0 rfl rfl) rfl rfl hl.1 rfl (lv_room (Nat.le_of_ble_eq_true rfl)) dX5_giveTokens_3 ⟨Nat.le_of_ble_eq_true rfl, Nat.le_of_ble_eq_true rfl⟩) (fun r_ u_ H locs hw hP hD hS => ?_)
  have hw : r_ = if ¬ (nI i) < nI 0 ∧ ¬ nI X.2.1.2.2.2.2.2 ≤ (nI i) then nI 1 else nI 0 := hw
  subst hw
  refine kv_i (y := nI 1) (if_pos (khas (by omega) (by omega))) ?_
  refine lv_if_ne (tgt := 15) hx hb dX5_giveTokens_6 (by decide) (fun _ => ?_) (fun h => absurd h (by decide))
  refine lv_iload_n hx hb dX5_giveTokens_15 rfl (lv_at hl 3 rfl) ?_
  refine lv_i2l (v := v.toInt64) hx hb dX5_giveTokens_16 rfl ?_
  refine lv_ldc2 hx hb hown (hts (.constantLong RX5 89 (-99)) (by decide +kernel)) dX5_giveTokens_17 ?_
  refine lv_ldc2 hx hb hown (hts (.constantLong RX5 67 (99)) (by decide +kernel)) dX5_giveTokens_20 ?_
  refine kc_i (Cs := []) (Rs := [mW cy ra (kEn X, T)]) (Bs := [mW cy ra (kEn X, T)]) (Cs' := fun u_ : Unit => []) (Fs := fun u_ : Unit => [mW cy ra (kEn X, T)]) hP hD hS hA [] [0] [0] rfl rfl (by decide) (by decide) (fun _ => rfl) (va_runS (As := [.long v.toInt64, .long (-99), .long (99)]) (rest := []) ⟨hx, hb, hml, hown, hts⟩ (c_X5_in l D cy v.toInt64 (-99) (99) H.size) (va_cwS 3 hts gX5_giveTokens_X5_in rfl rfl rfl (by decide +kernel) ⟨Nat.le_of_ble_eq_true rfl, Nat.le_of_ble_eq_true rfl⟩) (kPre_S hK hN hP hD [] (by decide) rfl) rfl rfl hl.1 rfl (lv_room (Nat.le_of_ble_eq_true rfl)) dX5_giveTokens_23 ⟨Nat.le_of_ble_eq_true rfl, Nat.le_of_ble_eq_true rfl⟩) (fun r_ u_ H locs hw hP hD hS => ?_)
  have hw : r_ = if kIn v.toInt64 (-99) (99) then nI 1 else nI 0 := hw
  subst hw
  refine kv_i (y := nI 1) (if_pos ((kIn32 (y := (-99)) (z := nI 99) (by decide) (by decide)).mpr hv)) ?_
  refine lv_if_ne (tgt := 35) hx hb dX5_giveTokens_26 (by decide) (fun _ => ?_) (fun h => absurd h (by decide))
  refine lv_iload_n hx hb dX5_giveTokens_35 rfl (lv_at hl 1 rfl) ?_
  refine lv_iload_n hx hb dX5_giveTokens_36 rfl (lv_at hl 2 rfl) ?_
  refine kc_i (Cs := []) (Rs := [mW cy ra (kEn X, T)]) (Bs := [mW cy ra (kEn X, T)]) (Cs' := fun u_ : Unit => []) (Fs := fun u_ : Unit => [mW cy ra (kEn X, T)]) hP hD hS hA [] [0] [0] rfl rfl (by decide) (by decide) (fun _ => rfl) (va_runS (As := [.int x, .int (nI i)]) (rest := []) ⟨hx, hb, hml, hown, hts⟩ (c_X5_person_t l D cy x i hx0 H.size) (va_cwS 2 hts gX5_giveTokens_X5_person rfl rfl rfl (by decide +kernel) ⟨Nat.le_of_ble_eq_true rfl, Nat.le_of_ble_eq_true rfl⟩) (kPre_S hK hN hP hD [] (by decide) rfl) rfl rfl hl.1 rfl (lv_room (Nat.le_of_ble_eq_true rfl)) dX5_giveTokens_37 ⟨Nat.le_of_ble_eq_true rfl, Nat.le_of_ble_eq_true rfl⟩) (fun r_ u_ H locs hw hP hD hS => ?_)
  have hw : r_ = nI i := hw
  subst hw
  refine lv_istore (lv' := [(4, .int (nI i)), (0, .ref (ra 0)), (1, .int x), (2, .int (nI i)), (3, .int v)]) hx hb dX5_giveTokens_40 hl (by decide) rfl (fun ls hl => ?_)
  refine lv_aload_n hx hb dX5_giveTokens_42 rfl (lv_at hl 1 rfl) ?_
  refine lv_iload hx hb dX5_giveTokens_43 (lv_at hl 0 rfl) ?_
  refine lv_iconst (v := nI 0) hx hb dX5_giveTokens_45 (by decide) ?_
  refine kc_i (Cs := [mW cy ra (kEn X, T)]) (Rs := []) (Bs := [mW cy ra (kEn X, T)]) (Cs' := fun u_ : Unit => [mW cy ra (kEn X, T)]) (Fs := fun u_ : Unit => [mW cy ra (kEn X, T)]) hP hD hS hA [0] [] [0] rfl rfl (by decide) (by decide) (fun _ => rfl) (va_runV (As := [.int (nI i), .int (nI 0)]) (rest := []) ⟨hx, hb, hml, hown, hts⟩ (c_X5_of l D cy ra (kEn X) T i 0 (by first | assumption | omega | decide) (by first | assumption | omega | decide) H.size) (cwV 2 hts gX5_giveTokens_X5_of rfl rfl rfl (by decide +kernel) ⟨Nat.le_of_ble_eq_true rfl, Nat.le_of_ble_eq_true rfl⟩) (kPre_V (ci := 5) hK hN hP hD [0] (by decide) rfl 0 rfl rfl) rfl rfl hl.1 rfl (lv_room (Nat.le_of_ble_eq_true rfl)) dX5_giveTokens_46 ⟨Nat.le_of_ble_eq_true rfl, Nat.le_of_ble_eq_true rfl⟩) (fun r_ u_ H locs hw hP hD hS => ?_)
  have hw : r_ = (kEn X) (92 + 6 * i + 0) := hw
  subst hw
  refine kv_i (y := X.2.1.1 i) ((kq_L (by omega) (by decide)).trans (if_pos hi)) ?_
  refine lv_iload_n hx hb dX5_giveTokens_49 rfl (lv_at hl 4 rfl) ?_
  refine lv_iadd hx hb dX5_giveTokens_50 ?_
  refine lv_i2l (v := ((X.2.1.1 i) + v).toInt64) hx hb dX5_giveTokens_51 rfl ?_
  refine lv_lconst (v := 0) hx hb dX5_giveTokens_52 (by decide) ?_
  refine lv_ldc2 hx hb hown (hts (.constantLong RX5 67 (99)) (by decide +kernel)) dX5_giveTokens_53 ?_
  refine kc_i (Cs := []) (Rs := [mW cy ra (kEn X, T)]) (Bs := [mW cy ra (kEn X, T)]) (Cs' := fun u_ : Unit => []) (Fs := fun u_ : Unit => [mW cy ra (kEn X, T)]) hP hD hS hA [] [0] [0] rfl rfl (by decide) (by decide) (fun _ => rfl) (va_runS (As := [.long (((X.2.1.1 i) + v).toInt64), .long 0, .long (99)]) (rest := []) ⟨hx, hb, hml, hown, hts⟩ (c_X5_in l D cy (((X.2.1.1 i) + v).toInt64) 0 (99) H.size) (va_cwS 3 hts gX5_giveTokens_X5_in rfl rfl rfl (by decide +kernel) ⟨Nat.le_of_ble_eq_true rfl, Nat.le_of_ble_eq_true rfl⟩) (kPre_S hK hN hP hD [] (by decide) rfl) rfl rfl hl.1 rfl (lv_room (Nat.le_of_ble_eq_true rfl)) dX5_giveTokens_56 ⟨Nat.le_of_ble_eq_true rfl, Nat.le_of_ble_eq_true rfl⟩) (fun r_ u_ H locs hw hP hD hS => ?_)
  have hw : r_ = if kIn (((X.2.1.1 i) + v).toInt64) 0 (99) then nI 1 else nI 0 := hw
  subst hw
  refine kv_i (y := nI 1) (if_pos ((kIn32 (y := nI 0) (z := nI 99) (by decide) (by decide)).mpr hsum)) ?_
  refine lv_if_ne (tgt := 68) hx hb dX5_giveTokens_59 (by decide) (fun _ => ?_) (fun h => absurd h (by decide))
  refine lv_aload_n hx hb dX5_giveTokens_68 rfl (lv_at hl 1 rfl) ?_
  refine kc_v (Cs := [mW cy ra (kEn X, T)]) (Rs := []) (Bs := [mW cy ra (kEn X, T)]) (Cs' := fun u_ : Unit => [mW cy ra (kEn X, (kRsv (kEn X) T.1 T.2.2.1, T.2.1, kSc T.2.2.1, T.2.2.2))]) (Fs := fun u_ : Unit => [mW cy ra (kEn X, (kRsv (kEn X) T.1 T.2.2.1, T.2.1, kSc T.2.2.1, T.2.2.2))]) hP hD hS hA [0] [] [0] rfl rfl (by decide) (by decide) (fun _ => rfl) (va_runV (As := []) (rest := []) ⟨hx, hb, hml, hown, hts⟩ (c_X5_save l D cy ra X T (by first | assumption | omega | decide) H.size) (cwV 0 hts gX5_giveTokens_X5_save rfl rfl rfl (by decide +kernel) ⟨Nat.le_of_ble_eq_true rfl, Nat.le_of_ble_eq_true rfl⟩) (kPre_V (ci := 5) hK hN hP hD [0] (by decide) rfl 0 rfl rfl) rfl rfl hl.1 rfl (lv_room (Nat.le_of_ble_eq_true rfl)) dX5_giveTokens_69 ⟨Nat.le_of_ble_eq_true rfl, Nat.le_of_ble_eq_true rfl⟩) (fun u_ H locs hw hP hD hS => ?_)
  refine lv_aload_n hx hb dX5_giveTokens_72 rfl (lv_at hl 1 rfl) ?_
  refine va_get (D := D) (ci := 5) (v := .ref (ra 1)) (C := RX5) (T := TX5) (N := 16) hx hb hts (by decide +kernel) hown hK hP 0 rfl rfl 0 (by decide) (hts (.fieldLink RX5 7 "DanceHallModel" "all" "[I") (by decide +kernel)) (fun _ h9 => h9) rfl dX5_giveTokens_73 ?_
  refine lv_iload hx hb dX5_giveTokens_76 (lv_at hl 0 rfl) ?_
  refine lv_iconst (v := nI 0) hx hb dX5_giveTokens_78 (by decide) ?_
  refine kc_i (Cs := []) (Rs := [mW cy ra (kEn X, (kRsv (kEn X) T.1 T.2.2.1, T.2.1, kSc T.2.2.1, T.2.2.2))]) (Bs := [mW cy ra (kEn X, (kRsv (kEn X) T.1 T.2.2.1, T.2.1, kSc T.2.2.1, T.2.2.2))]) (Cs' := fun u_ : Unit => []) (Fs := fun u_ : Unit => [mW cy ra (kEn X, (kRsv (kEn X) T.1 T.2.2.1, T.2.1, kSc T.2.2.1, T.2.2.2))]) hP hD hS hA [] [0] [0] rfl rfl (by decide) (by decide) (fun _ => rfl) (va_runS (As := [.int (nI i), .int (nI 0)]) (rest := [.ref (ra 1)]) ⟨hx, hb, hml, hown, hts⟩ (c_X5_at l D cy i 0 H.size) (va_cwS 2 hts gX5_giveTokens_X5_at rfl rfl rfl (by decide +kernel) ⟨Nat.le_of_ble_eq_true rfl, Nat.le_of_ble_eq_true rfl⟩) (kPre_S hK hN hP hD [] (by decide) rfl) rfl rfl hl.1 rfl (lv_room (Nat.le_of_ble_eq_true rfl)) dX5_giveTokens_79 ⟨Nat.le_of_ble_eq_true rfl, Nat.le_of_ble_eq_true rfl⟩) (fun r_ u_ H locs hw hP hD hS => ?_)
  have hw : r_ = nI (92 + 6 * i + 0) := hw
  subst hw
  refine lv_dup2_11 hx hb dX5_giveTokens_82 rfl rfl ?_
  refine va_iald hx hb hK hP 1 0 rfl rfl (vp_in_nI (n := 92 + 6 * i + 0) (N := 188) (by omega) (by omega)) dX5_giveTokens_83 ?_
  refine kv_i (y := X.2.1.1 i) (by rw [nI_clamp (n := 92 + 6 * i + 0) (by omega)]; exact ((kq_L (by omega) (by decide)).trans (if_pos hi))) ?_
  refine lv_iload_n hx hb dX5_giveTokens_84 rfl (lv_at hl 4 rfl) ?_
  refine lv_iadd hx hb dX5_giveTokens_85 ?_
  refine va_iast hx hb hK hP hD hS 1 0 rfl rfl (vp_in_nI (n := 92 + 6 * i + 0) (N := 188) (by omega) (by omega)) dX5_giveTokens_86 (fun H locs hP hD hS => ?_)
  rw [nI_clamp (n := 92 + 6 * i + 0) (by omega)] at hP hD
  have hP : va_P D vwCl (bkF [mW cy ra (upd (kEn X) (92 + 6 * i + 0) ((X.2.1.1 i) + v), (kRsv (kEn X) T.1 T.2.2.1, T.2.1, kSc T.2.2.1, T.2.2.2))]) H := hP
  have hD : va_D A (bkF [mW cy ra (upd (kEn X) (92 + 6 * i + 0) ((X.2.1.1 i) + v), (kRsv (kEn X) T.1 T.2.2.1, T.2.1, kSc T.2.2.1, T.2.2.2))]) := hD
  have hP := kP_cell (g := (kEn (X.1, (upd X.2.1.1 i (X.2.1.1 i + v), X.2.1.2), X.2.2))) hP 1 rfl (fun j hj => kqu_L0 hi hn j hj)
  have hD := hD.set (p := 1) (e := .inl (cy 0, 188, .inl (kEn (X.1, (upd X.2.1.1 i (X.2.1.1 i + v), X.2.1.2), X.2.2)))) rfl
  have hP : va_P D vwCl (bkF [mW cy ra (kEn (X.1, (upd X.2.1.1 i (X.2.1.1 i + v), X.2.1.2), X.2.2), (kRsv (kEn X) T.1 T.2.2.1, T.2.1, kSc T.2.2.1, T.2.2.2))]) H := hP
  have hD : va_D A (bkF [mW cy ra (kEn (X.1, (upd X.2.1.1 i (X.2.1.1 i + v), X.2.1.2), X.2.2), (kRsv (kEn X) T.1 T.2.2.1, T.2.1, kSc T.2.2.1, T.2.2.2))]) := hD
  refine lv_aload_n hx hb dX5_giveTokens_87 rfl (lv_at hl 1 rfl) ?_
  refine lv_aload_n hx hb dX5_giveTokens_88 rfl (lv_at hl 1 rfl) ?_
  refine lv_iload hx hb dX5_giveTokens_89 (lv_at hl 0 rfl) ?_
  refine lv_iconst (v := nI 0) hx hb dX5_giveTokens_91 (by decide) ?_
  refine kc_i (Cs := [mW cy ra (kEn (X.1, (upd X.2.1.1 i (X.2.1.1 i + v), X.2.1.2), X.2.2), (kRsv (kEn X) T.1 T.2.2.1, T.2.1, kSc T.2.2.1, T.2.2.2))]) (Rs := []) (Bs := [mW cy ra (kEn (X.1, (upd X.2.1.1 i (X.2.1.1 i + v), X.2.1.2), X.2.2), (kRsv (kEn X) T.1 T.2.2.1, T.2.1, kSc T.2.2.1, T.2.2.2))]) (Cs' := fun u_ : Unit => [mW cy ra (kEn (X.1, (upd X.2.1.1 i (X.2.1.1 i + v), X.2.1.2), X.2.2), (kRsv (kEn X) T.1 T.2.2.1, T.2.1, kSc T.2.2.1, T.2.2.2))]) (Fs := fun u_ : Unit => [mW cy ra (kEn (X.1, (upd X.2.1.1 i (X.2.1.1 i + v), X.2.1.2), X.2.2), (kRsv (kEn X) T.1 T.2.2.1, T.2.1, kSc T.2.2.1, T.2.2.2))]) hP hD hS hA [0] [] [0] rfl rfl (by decide) (by decide) (fun _ => rfl) (va_runV (As := [.int (nI i), .int (nI 0)]) (rest := [.ref (ra 0)]) ⟨hx, hb, hml, hown, hts⟩ (c_X5_of l D cy ra (kEn (X.1, (upd X.2.1.1 i (X.2.1.1 i + v), X.2.1.2), X.2.2)) (kRsv (kEn X) T.1 T.2.2.1, T.2.1, kSc T.2.2.1, T.2.2.2) i 0 (by first | assumption | omega | decide) (by first | assumption | omega | decide) H.size) (cwV 2 hts gX5_giveTokens_X5_of rfl rfl rfl (by decide +kernel) ⟨Nat.le_of_ble_eq_true rfl, Nat.le_of_ble_eq_true rfl⟩) (kPre_V (ci := 5) hK hN hP hD [0] (by decide) rfl 0 rfl rfl) rfl rfl hl.1 rfl (lv_room (Nat.le_of_ble_eq_true rfl)) dX5_giveTokens_92 ⟨Nat.le_of_ble_eq_true rfl, Nat.le_of_ble_eq_true rfl⟩) (fun r_ u_ H locs hw hP hD hS => ?_)
  have hw : r_ = (kEn (X.1, (upd X.2.1.1 i (X.2.1.1 i + v), X.2.1.2), X.2.2)) (92 + 6 * i + 0) := hw
  subst hw
  refine kv_i (y := X.2.1.1 i + v) ((kq_L (by omega) (by decide)).trans ((if_pos hi).trans pk_us)) ?_
  refine kc_i (Cs := [mW cy ra (kEn (X.1, (upd X.2.1.1 i (X.2.1.1 i + v), X.2.1.2), X.2.2), (kRsv (kEn X) T.1 T.2.2.1, T.2.1, kSc T.2.2.1, T.2.2.2))]) (Rs := []) (Bs := [mW cy ra (kEn (X.1, (upd X.2.1.1 i (X.2.1.1 i + v), X.2.1.2), X.2.2), (kRsv (kEn X) T.1 T.2.2.1, T.2.1, kSc T.2.2.1, T.2.2.2))]) (Cs' := fun u_ : Unit => [mW cy ra ((kEn (X.1, (upd X.2.1.1 i (X.2.1.1 i + v), X.2.1.2), X.2.2)), ((kRsv (kEn X) T.1 T.2.2.1), T.2.1, (kSc T.2.2.1), nI 0, T.2.2.2.2))]) (Fs := fun u_ : Unit => [mW cy ra ((kEn (X.1, (upd X.2.1.1 i (X.2.1.1 i + v), X.2.1.2), X.2.2)), ((kRsv (kEn X) T.1 T.2.2.1), T.2.1, (kSc T.2.2.1), nI 0, T.2.2.2.2))]) hP hD hS hA [0] [] [0] rfl rfl (by decide) (by decide) (fun _ => rfl) (va_runV (As := [.int (X.2.1.1 i + v)]) (rest := []) ⟨hx, hb, hml, hown, hts⟩ (c_X5_fine l D cy ra (kEn (X.1, (upd X.2.1.1 i (X.2.1.1 i + v), X.2.1.2), X.2.2)) (kRsv (kEn X) T.1 T.2.2.1, T.2.1, kSc T.2.2.1, T.2.2.2) (X.2.1.1 i + v) H.size) (cwV 1 hts gX5_giveTokens_X5_fine rfl rfl rfl (by decide +kernel) ⟨Nat.le_of_ble_eq_true rfl, Nat.le_of_ble_eq_true rfl⟩) (kPre_V (ci := 5) hK hN hP hD [0] (by decide) rfl 0 rfl rfl) rfl rfl hl.1 rfl (lv_room (Nat.le_of_ble_eq_true rfl)) dX5_giveTokens_95 ⟨Nat.le_of_ble_eq_true rfl, Nat.le_of_ble_eq_true rfl⟩) (fun r_ u_ H locs hw hP hD hS => ?_)
  have hw : r_ = (X.2.1.1 i + v) := hw
  subst hw
  exact kr_i (post := fun r_ (u_ : Unit) => r_ = X.2.1.1 i + v) (Bs := fun u_ : Unit => [mW cy ra (kEn (X.1, (upd X.2.1.1 i (X.2.1.1 i + v), X.2.1.2), X.2.2), (kRsv (kEn X) T.1 T.2.2.1, T.2.1, kSc T.2.2.1, nI 0, T.2.2.2.2))]) hx hb hr hlocks rfl () hP hK hD hS rfl dX5_giveTokens_98 hQ
abbrev rm_X5_giveTokens_it : Room := { frames := 2, cells := 0, slots := 0, locals := 47 }
set_option maxHeartbeats 1000000 in
set_option maxRecDepth 100000 in
/-- giveTokens, no guest -/
theorem c_X5_giveTokens_it (l : Launch) (D : va_G) (cy : Nat → ClassId) (ra : Nat → Nat) (X : rS) (T : rV) (x : Int32) (i : Int32) (v : Int32) (hx0 : ¬ x = 0) (hn : X.2.1.2.2.2.2.2 ≤ 8) (hbad : ¬ (¬ i < nI 0 ∧ ¬ nI X.2.1.2.2.2.2.2 ≤ i)) (sz : Nat) : Met l yX5_giveTokens wsX5_giveTokens rm_X5_giveTokens_it (va_Pc [.ref (ra 0), .int x, .int i, .int v] (kPre D (kT cy) [mW cy ra (kEn X, T)] sz)) (va_Qi (fun r_ (u_ : Unit) => r_ = nI 0) (kFr D (kT cy) [mW cy ra (kEn X, T)] sz (fun u_ : Unit => [mW cy ra (kEn X, (T.1, T.2.1, T.2.2.1, nI 1, T.2.2.2.2))])) (va_A (bkF [mW cy ra (kEn X, T)]) sz)) 0 0 (va_A (bkF [mW cy ra (kEn X, T)]) sz) := by
  refine kOpen (y := yX5_giveTokens) (ws := wsX5_giveTokens) (cc := cX5_giveTokens) (maxL := 5) (ret := (some .int)) (av := [.ref (ra 0), .int x, .int i, .int v]) (Bs := [mW cy ra (kEn X, T)]) (Qc := fun A => (va_Qi (fun r_ (u_ : Unit) => r_ = nI 0) (fun (u_ : Unit) t9 => kEnd D (kT cy) A [mW cy ra (kEn X, (T.1, T.2.1, T.2.2.1, nI 1, T.2.2.2.2))] t9) A)) (by decide) rfl (Nat.le_of_ble_eq_true rfl) ?_
  intro p e s m args below meth c A Q ls hQ hx hb hml hr hlocks hin hts hown hN hK hP hD hS hA hsz hAe hl
  clear hAe
  have hl : lv_has ls 5 [(0, .ref (ra 0)), (1, .int x), (2, .int i), (3, .int v)] := hl
  suffices K9 : ∀ (H : Heap) (locs : List Loc), va_P D vwCl (bkF [mW cy ra (kEn X, T)]) H → va_S A s.heap H locs → W p l e (headSpec wsX5_giveTokens rm_X5_giveTokens_it).room s m args below meth c H locs 0 0 Q (F0 m 0 ls []) from K9 _ _ hP hS
  clear hP hS
  intro H locs hP hS
  refine lv_aload_n hx hb dX5_giveTokens_0 rfl (lv_at hl 0 rfl) ?_
  refine lv_iload_n hx hb dX5_giveTokens_1 rfl (lv_at hl 1 rfl) ?_
  refine lv_iload_n hx hb dX5_giveTokens_2 rfl (lv_at hl 2 rfl) ?_
  refine kc_i (Cs := [mW cy ra (kEn X, T)]) (Rs := []) (Bs := [mW cy ra (kEn X, T)]) (Cs' := fun u_ : Unit => [mW cy ra (kEn X, T)]) (Fs := fun u_ : Unit => [mW cy ra (kEn X, T)]) hP hD hS hA [0] [] [0] rfl rfl (by decide) (by decide) (fun _ => rfl) (va_runV (As := [.int x, .int i]) (rest := []) ⟨hx, hb, hml, hown, hts⟩ (c_X5_isGuest_t l D cy ra X T x i hx0 (by first | assumption | omega | decide) H.size) (cwV 2 hts gX5_giveTokens_X5_isGuest rfl rfl rfl (by decide +kernel) ⟨Nat.le_of_ble_eq_true rfl, Nat.le_of_ble_eq_true rfl⟩) (kPre_V (ci := 5) hK hN hP hD [0] (by decide) rfl 0 rfl rfl) rfl rfl hl.1 rfl (lv_room (Nat.le_of_ble_eq_true rfl)) dX5_giveTokens_3 ⟨Nat.le_of_ble_eq_true rfl, Nat.le_of_ble_eq_true rfl⟩) (fun r_ u_ H locs hw hP hD hS => ?_)
  have hw : r_ = if ¬ i < nI 0 ∧ ¬ nI X.2.1.2.2.2.2.2 ≤ i then nI 1 else nI 0 := hw
  subst hw
  refine kv_i (y := nI 0) (if_neg hbad) ?_
  refine lv_if_ne (tgt := 15) hx hb dX5_giveTokens_6 (by decide) (fun h => absurd h (by decide)) (fun _ => ?_)
  refine lv_aload_n hx hb dX5_giveTokens_9 rfl (lv_at hl 0 rfl) ?_
  refine lv_iconst (v := nI 1) hx hb dX5_giveTokens_10 (by decide) ?_
  refine kc_i (Cs := [mW cy ra (kEn X, T)]) (Rs := []) (Bs := [mW cy ra (kEn X, T)]) (Cs' := fun u_ : Unit => [mW cy ra ((kEn X), (T.1, T.2.1, T.2.2.1, (nI 1), T.2.2.2.2))]) (Fs := fun u_ : Unit => [mW cy ra ((kEn X), (T.1, T.2.1, T.2.2.1, (nI 1), T.2.2.2.2))]) hP hD hS hA [0] [] [0] rfl rfl (by decide) (by decide) (fun _ => rfl) (va_runV (As := [.int (nI 1)]) (rest := []) ⟨hx, hb, hml, hown, hts⟩ (c_X5_throwing l D cy ra (kEn X) T (nI 1) H.size) (cwV 1 hts gX5_giveTokens_X5_throwing rfl rfl rfl (by decide +kernel) ⟨Nat.le_of_ble_eq_true rfl, Nat.le_of_ble_eq_true rfl⟩) (kPre_V (ci := 5) hK hN hP hD [0] (by decide) rfl 0 rfl rfl) rfl rfl hl.1 rfl (lv_room (Nat.le_of_ble_eq_true rfl)) dX5_giveTokens_11 ⟨Nat.le_of_ble_eq_true rfl, Nat.le_of_ble_eq_true rfl⟩) (fun r_ u_ H locs hw hP hD hS => ?_)
  have hw : r_ = nI 0 := hw
  subst hw
  exact kr_i (post := fun r_ (u_ : Unit) => r_ = nI 0) (Bs := fun u_ : Unit => [mW cy ra (kEn X, (T.1, T.2.1, T.2.2.1, nI 1, T.2.2.2.2))]) hx hb hr hlocks rfl () hP hK hD hS rfl dX5_giveTokens_14 hQ
abbrev rm_X5_giveTokens_at : Room := { frames := 2, cells := 0, slots := 0, locals := 47 }
set_option maxHeartbeats 1000000 in
set_option maxRecDepth 100000 in
/-- giveTokens, out of range -/
theorem c_X5_giveTokens_at (l : Launch) (D : va_G) (cy : Nat → ClassId) (ra : Nat → Nat) (X : rS) (T : rV) (x : Int32) (i : Nat) (v : Int32) (hx0 : ¬ x = 0) (hn : X.2.1.2.2.2.2.2 ≤ 8) (hi : i < X.2.1.2.2.2.2.2) (hbad : ¬ (¬ v < (-99) ∧ ¬ nI 99 < v)) (sz : Nat) : Met l yX5_giveTokens wsX5_giveTokens rm_X5_giveTokens_at (va_Pc [.ref (ra 0), .int x, .int (nI i), .int v] (kPre D (kT cy) [mW cy ra (kEn X, T)] sz)) (va_Qi (fun r_ (u_ : Unit) => r_ = nI 0) (kFr D (kT cy) [mW cy ra (kEn X, T)] sz (fun u_ : Unit => [mW cy ra (kEn X, (T.1, T.2.1, T.2.2.1, nI 2, T.2.2.2.2))])) (va_A (bkF [mW cy ra (kEn X, T)]) sz)) 0 0 (va_A (bkF [mW cy ra (kEn X, T)]) sz) := by
  refine kOpen (y := yX5_giveTokens) (ws := wsX5_giveTokens) (cc := cX5_giveTokens) (maxL := 5) (ret := (some .int)) (av := [.ref (ra 0), .int x, .int (nI i), .int v]) (Bs := [mW cy ra (kEn X, T)]) (Qc := fun A => (va_Qi (fun r_ (u_ : Unit) => r_ = nI 0) (fun (u_ : Unit) t9 => kEnd D (kT cy) A [mW cy ra (kEn X, (T.1, T.2.1, T.2.2.1, nI 2, T.2.2.2.2))] t9) A)) (by decide) rfl (Nat.le_of_ble_eq_true rfl) ?_
  intro p e s m args below meth c A Q ls hQ hx hb hml hr hlocks hin hts hown hN hK hP hD hS hA hsz hAe hl
  clear hAe
  have hl : lv_has ls 5 [(0, .ref (ra 0)), (1, .int x), (2, .int (nI i)), (3, .int v)] := hl
  suffices K9 : ∀ (H : Heap) (locs : List Loc), va_P D vwCl (bkF [mW cy ra (kEn X, T)]) H → va_S A s.heap H locs → W p l e (headSpec wsX5_giveTokens rm_X5_giveTokens_at).room s m args below meth c H locs 0 0 Q (F0 m 0 ls []) from K9 _ _ hP hS
  clear hP hS
  intro H locs hP hS
  refine lv_aload_n hx hb dX5_giveTokens_0 rfl (lv_at hl 0 rfl) ?_
  refine lv_iload_n hx hb dX5_giveTokens_1 rfl (lv_at hl 1 rfl) ?_
  refine lv_iload_n hx hb dX5_giveTokens_2 rfl (lv_at hl 2 rfl) ?_
  refine kc_i (Cs := [mW cy ra (kEn X, T)]) (Rs := []) (Bs := [mW cy ra (kEn X, T)]) (Cs' := fun u_ : Unit => [mW cy ra (kEn X, T)]) (Fs := fun u_ : Unit => [mW cy ra (kEn X, T)]) hP hD hS hA [0] [] [0] rfl rfl (by decide) (by decide) (fun _ => rfl) (va_runV (As := [.int x, .int (nI i)]) (rest := []) ⟨hx, hb, hml, hown, hts⟩ (c_X5_isGuest_t l D cy ra X T x (nI i) hx0 (by first | assumption | omega | decide) H.size) (cwV 2 hts gX5_giveTokens_X5_isGuest rfl rfl rfl (by decide +kernel) ⟨Nat.le_of_ble_eq_true rfl, Nat.le_of_ble_eq_true rfl⟩) (kPre_V (ci := 5) hK hN hP hD [0] (by decide) rfl 0 rfl rfl) rfl rfl hl.1 rfl (lv_room (Nat.le_of_ble_eq_true rfl)) dX5_giveTokens_3 ⟨Nat.le_of_ble_eq_true rfl, Nat.le_of_ble_eq_true rfl⟩) (fun r_ u_ H locs hw hP hD hS => ?_)
  have hw : r_ = if ¬ (nI i) < nI 0 ∧ ¬ nI X.2.1.2.2.2.2.2 ≤ (nI i) then nI 1 else nI 0 := hw
  subst hw
  refine kv_i (y := nI 1) (if_pos (khas (by omega) (by omega))) ?_
  refine lv_if_ne (tgt := 15) hx hb dX5_giveTokens_6 (by decide) (fun _ => ?_) (fun h => absurd h (by decide))
  refine lv_iload_n hx hb dX5_giveTokens_15 rfl (lv_at hl 3 rfl) ?_
  refine lv_i2l (v := v.toInt64) hx hb dX5_giveTokens_16 rfl ?_
  refine lv_ldc2 hx hb hown (hts (.constantLong RX5 89 (-99)) (by decide +kernel)) dX5_giveTokens_17 ?_
  refine lv_ldc2 hx hb hown (hts (.constantLong RX5 67 (99)) (by decide +kernel)) dX5_giveTokens_20 ?_
  refine kc_i (Cs := []) (Rs := [mW cy ra (kEn X, T)]) (Bs := [mW cy ra (kEn X, T)]) (Cs' := fun u_ : Unit => []) (Fs := fun u_ : Unit => [mW cy ra (kEn X, T)]) hP hD hS hA [] [0] [0] rfl rfl (by decide) (by decide) (fun _ => rfl) (va_runS (As := [.long v.toInt64, .long (-99), .long (99)]) (rest := []) ⟨hx, hb, hml, hown, hts⟩ (c_X5_in l D cy v.toInt64 (-99) (99) H.size) (va_cwS 3 hts gX5_giveTokens_X5_in rfl rfl rfl (by decide +kernel) ⟨Nat.le_of_ble_eq_true rfl, Nat.le_of_ble_eq_true rfl⟩) (kPre_S hK hN hP hD [] (by decide) rfl) rfl rfl hl.1 rfl (lv_room (Nat.le_of_ble_eq_true rfl)) dX5_giveTokens_23 ⟨Nat.le_of_ble_eq_true rfl, Nat.le_of_ble_eq_true rfl⟩) (fun r_ u_ H locs hw hP hD hS => ?_)
  have hw : r_ = if kIn v.toInt64 (-99) (99) then nI 1 else nI 0 := hw
  subst hw
  refine kv_i (y := nI 0) (if_neg (fun h => hbad ((kIn32 (y := (-99)) (z := nI 99) (by decide) (by decide)).mp h))) ?_
  refine lv_if_ne (tgt := 35) hx hb dX5_giveTokens_26 (by decide) (fun h => absurd h (by decide)) (fun _ => ?_)
  refine lv_aload_n hx hb dX5_giveTokens_29 rfl (lv_at hl 0 rfl) ?_
  refine lv_iconst (v := nI 2) hx hb dX5_giveTokens_30 (by decide) ?_
  refine kc_i (Cs := [mW cy ra (kEn X, T)]) (Rs := []) (Bs := [mW cy ra (kEn X, T)]) (Cs' := fun u_ : Unit => [mW cy ra ((kEn X), (T.1, T.2.1, T.2.2.1, (nI 2), T.2.2.2.2))]) (Fs := fun u_ : Unit => [mW cy ra ((kEn X), (T.1, T.2.1, T.2.2.1, (nI 2), T.2.2.2.2))]) hP hD hS hA [0] [] [0] rfl rfl (by decide) (by decide) (fun _ => rfl) (va_runV (As := [.int (nI 2)]) (rest := []) ⟨hx, hb, hml, hown, hts⟩ (c_X5_throwing l D cy ra (kEn X) T (nI 2) H.size) (cwV 1 hts gX5_giveTokens_X5_throwing rfl rfl rfl (by decide +kernel) ⟨Nat.le_of_ble_eq_true rfl, Nat.le_of_ble_eq_true rfl⟩) (kPre_V (ci := 5) hK hN hP hD [0] (by decide) rfl 0 rfl rfl) rfl rfl hl.1 rfl (lv_room (Nat.le_of_ble_eq_true rfl)) dX5_giveTokens_31 ⟨Nat.le_of_ble_eq_true rfl, Nat.le_of_ble_eq_true rfl⟩) (fun r_ u_ H locs hw hP hD hS => ?_)
  have hw : r_ = nI 0 := hw
  subst hw
  exact kr_i (post := fun r_ (u_ : Unit) => r_ = nI 0) (Bs := fun u_ : Unit => [mW cy ra (kEn X, (T.1, T.2.1, T.2.2.1, nI 2, T.2.2.2.2))]) hx hb hr hlocks rfl () hP hK hD hS rfl dX5_giveTokens_34 hQ
abbrev rm_X5_giveTokens_st : Room := { frames := 2, cells := 0, slots := 0, locals := 47 }
set_option maxHeartbeats 1000000 in
set_option maxRecDepth 100000 in
/-- giveTokens, too few or many -/
theorem c_X5_giveTokens_st (l : Launch) (D : va_G) (cy : Nat → ClassId) (ra : Nat → Nat) (X : rS) (T : rV) (x : Int32) (i : Nat) (v : Int32) (hx0 : ¬ x = 0) (hn : X.2.1.2.2.2.2.2 ≤ 8) (hi : i < X.2.1.2.2.2.2.2) (hv : ¬ v < (-99) ∧ ¬ nI 99 < v) (hbad : ¬ (¬ (X.2.1.1 i + v) < nI 0 ∧ ¬ nI 99 < (X.2.1.1 i + v))) (sz : Nat) : Met l yX5_giveTokens wsX5_giveTokens rm_X5_giveTokens_st (va_Pc [.ref (ra 0), .int x, .int (nI i), .int v] (kPre D (kT cy) [mW cy ra (kEn X, T)] sz)) (va_Qi (fun r_ (u_ : Unit) => r_ = nI 0) (kFr D (kT cy) [mW cy ra (kEn X, T)] sz (fun u_ : Unit => [mW cy ra (kEn X, (T.1, T.2.1, T.2.2.1, nI 3, T.2.2.2.2))])) (va_A (bkF [mW cy ra (kEn X, T)]) sz)) 0 0 (va_A (bkF [mW cy ra (kEn X, T)]) sz) := by
  refine kOpen (y := yX5_giveTokens) (ws := wsX5_giveTokens) (cc := cX5_giveTokens) (maxL := 5) (ret := (some .int)) (av := [.ref (ra 0), .int x, .int (nI i), .int v]) (Bs := [mW cy ra (kEn X, T)]) (Qc := fun A => (va_Qi (fun r_ (u_ : Unit) => r_ = nI 0) (fun (u_ : Unit) t9 => kEnd D (kT cy) A [mW cy ra (kEn X, (T.1, T.2.1, T.2.2.1, nI 3, T.2.2.2.2))] t9) A)) (by decide) rfl (Nat.le_of_ble_eq_true rfl) ?_
  intro p e s m args below meth c A Q ls hQ hx hb hml hr hlocks hin hts hown hN hK hP hD hS hA hsz hAe hl
  clear hAe
  have hl : lv_has ls 5 [(0, .ref (ra 0)), (1, .int x), (2, .int (nI i)), (3, .int v)] := hl
  suffices K9 : ∀ (H : Heap) (locs : List Loc), va_P D vwCl (bkF [mW cy ra (kEn X, T)]) H → va_S A s.heap H locs → W p l e (headSpec wsX5_giveTokens rm_X5_giveTokens_st).room s m args below meth c H locs 0 0 Q (F0 m 0 ls []) from K9 _ _ hP hS
  clear hP hS
  intro H locs hP hS
  refine lv_aload_n hx hb dX5_giveTokens_0 rfl (lv_at hl 0 rfl) ?_
  refine lv_iload_n hx hb dX5_giveTokens_1 rfl (lv_at hl 1 rfl) ?_
  refine lv_iload_n hx hb dX5_giveTokens_2 rfl (lv_at hl 2 rfl) ?_
  refine kc_i (Cs := [mW cy ra (kEn X, T)]) (Rs := []) (Bs := [mW cy ra (kEn X, T)]) (Cs' := fun u_ : Unit => [mW cy ra (kEn X, T)]) (Fs := fun u_ : Unit => [mW cy ra (kEn X, T)]) hP hD hS hA [0] [] [0] rfl rfl (by decide) (by decide) (fun _ => rfl) (va_runV (As := [.int x, .int (nI i)]) (rest := []) ⟨hx, hb, hml, hown, hts⟩ (c_X5_isGuest_t l D cy ra X T x (nI i) hx0 (by first | assumption | omega | decide) H.size) (cwV 2 hts gX5_giveTokens_X5_isGuest rfl rfl rfl (by decide +kernel) ⟨Nat.le_of_ble_eq_true rfl, Nat.le_of_ble_eq_true rfl⟩) (kPre_V (ci := 5) hK hN hP hD [0] (by decide) rfl 0 rfl rfl) rfl rfl hl.1 rfl (lv_room (Nat.le_of_ble_eq_true rfl)) dX5_giveTokens_3 ⟨Nat.le_of_ble_eq_true rfl, Nat.le_of_ble_eq_true rfl⟩) (fun r_ u_ H locs hw hP hD hS => ?_)
  have hw : r_ = if ¬ (nI i) < nI 0 ∧ ¬ nI X.2.1.2.2.2.2.2 ≤ (nI i) then nI 1 else nI 0 := hw
  subst hw
  refine kv_i (y := nI 1) (if_pos (khas (by omega) (by omega))) ?_
  refine lv_if_ne (tgt := 15) hx hb dX5_giveTokens_6 (by decide) (fun _ => ?_) (fun h => absurd h (by decide))
  refine lv_iload_n hx hb dX5_giveTokens_15 rfl (lv_at hl 3 rfl) ?_
  refine lv_i2l (v := v.toInt64) hx hb dX5_giveTokens_16 rfl ?_
  refine lv_ldc2 hx hb hown (hts (.constantLong RX5 89 (-99)) (by decide +kernel)) dX5_giveTokens_17 ?_
  refine lv_ldc2 hx hb hown (hts (.constantLong RX5 67 (99)) (by decide +kernel)) dX5_giveTokens_20 ?_
  refine kc_i (Cs := []) (Rs := [mW cy ra (kEn X, T)]) (Bs := [mW cy ra (kEn X, T)]) (Cs' := fun u_ : Unit => []) (Fs := fun u_ : Unit => [mW cy ra (kEn X, T)]) hP hD hS hA [] [0] [0] rfl rfl (by decide) (by decide) (fun _ => rfl) (va_runS (As := [.long v.toInt64, .long (-99), .long (99)]) (rest := []) ⟨hx, hb, hml, hown, hts⟩ (c_X5_in l D cy v.toInt64 (-99) (99) H.size) (va_cwS 3 hts gX5_giveTokens_X5_in rfl rfl rfl (by decide +kernel) ⟨Nat.le_of_ble_eq_true rfl, Nat.le_of_ble_eq_true rfl⟩) (kPre_S hK hN hP hD [] (by decide) rfl) rfl rfl hl.1 rfl (lv_room (Nat.le_of_ble_eq_true rfl)) dX5_giveTokens_23 ⟨Nat.le_of_ble_eq_true rfl, Nat.le_of_ble_eq_true rfl⟩) (fun r_ u_ H locs hw hP hD hS => ?_)
  have hw : r_ = if kIn v.toInt64 (-99) (99) then nI 1 else nI 0 := hw
  subst hw
  refine kv_i (y := nI 1) (if_pos ((kIn32 (y := (-99)) (z := nI 99) (by decide) (by decide)).mpr hv)) ?_
  refine lv_if_ne (tgt := 35) hx hb dX5_giveTokens_26 (by decide) (fun _ => ?_) (fun h => absurd h (by decide))
  refine lv_iload_n hx hb dX5_giveTokens_35 rfl (lv_at hl 1 rfl) ?_
  refine lv_iload_n hx hb dX5_giveTokens_36 rfl (lv_at hl 2 rfl) ?_
  refine kc_i (Cs := []) (Rs := [mW cy ra (kEn X, T)]) (Bs := [mW cy ra (kEn X, T)]) (Cs' := fun u_ : Unit => []) (Fs := fun u_ : Unit => [mW cy ra (kEn X, T)]) hP hD hS hA [] [0] [0] rfl rfl (by decide) (by decide) (fun _ => rfl) (va_runS (As := [.int x, .int (nI i)]) (rest := []) ⟨hx, hb, hml, hown, hts⟩ (c_X5_person_t l D cy x i hx0 H.size) (va_cwS 2 hts gX5_giveTokens_X5_person rfl rfl rfl (by decide +kernel) ⟨Nat.le_of_ble_eq_true rfl, Nat.le_of_ble_eq_true rfl⟩) (kPre_S hK hN hP hD [] (by decide) rfl) rfl rfl hl.1 rfl (lv_room (Nat.le_of_ble_eq_true rfl)) dX5_giveTokens_37 ⟨Nat.le_of_ble_eq_true rfl, Nat.le_of_ble_eq_true rfl⟩) (fun r_ u_ H locs hw hP hD hS => ?_)
  have hw : r_ = nI i := hw
  subst hw
  refine lv_istore (lv' := [(4, .int (nI i)), (0, .ref (ra 0)), (1, .int x), (2, .int (nI i)), (3, .int v)]) hx hb dX5_giveTokens_40 hl (by decide) rfl (fun ls hl => ?_)
  refine lv_aload_n hx hb dX5_giveTokens_42 rfl (lv_at hl 1 rfl) ?_
  refine lv_iload hx hb dX5_giveTokens_43 (lv_at hl 0 rfl) ?_
  refine lv_iconst (v := nI 0) hx hb dX5_giveTokens_45 (by decide) ?_
  refine kc_i (Cs := [mW cy ra (kEn X, T)]) (Rs := []) (Bs := [mW cy ra (kEn X, T)]) (Cs' := fun u_ : Unit => [mW cy ra (kEn X, T)]) (Fs := fun u_ : Unit => [mW cy ra (kEn X, T)]) hP hD hS hA [0] [] [0] rfl rfl (by decide) (by decide) (fun _ => rfl) (va_runV (As := [.int (nI i), .int (nI 0)]) (rest := []) ⟨hx, hb, hml, hown, hts⟩ (c_X5_of l D cy ra (kEn X) T i 0 (by first | assumption | omega | decide) (by first | assumption | omega | decide) H.size) (cwV 2 hts gX5_giveTokens_X5_of rfl rfl rfl (by decide +kernel) ⟨Nat.le_of_ble_eq_true rfl, Nat.le_of_ble_eq_true rfl⟩) (kPre_V (ci := 5) hK hN hP hD [0] (by decide) rfl 0 rfl rfl) rfl rfl hl.1 rfl (lv_room (Nat.le_of_ble_eq_true rfl)) dX5_giveTokens_46 ⟨Nat.le_of_ble_eq_true rfl, Nat.le_of_ble_eq_true rfl⟩) (fun r_ u_ H locs hw hP hD hS => ?_)
  have hw : r_ = (kEn X) (92 + 6 * i + 0) := hw
  subst hw
  refine kv_i (y := X.2.1.1 i) ((kq_L (by omega) (by decide)).trans (if_pos hi)) ?_
  refine lv_iload_n hx hb dX5_giveTokens_49 rfl (lv_at hl 4 rfl) ?_
  refine lv_iadd hx hb dX5_giveTokens_50 ?_
  refine lv_i2l (v := ((X.2.1.1 i) + v).toInt64) hx hb dX5_giveTokens_51 rfl ?_
  refine lv_lconst (v := 0) hx hb dX5_giveTokens_52 (by decide) ?_
  refine lv_ldc2 hx hb hown (hts (.constantLong RX5 67 (99)) (by decide +kernel)) dX5_giveTokens_53 ?_
  refine kc_i (Cs := []) (Rs := [mW cy ra (kEn X, T)]) (Bs := [mW cy ra (kEn X, T)]) (Cs' := fun u_ : Unit => []) (Fs := fun u_ : Unit => [mW cy ra (kEn X, T)]) hP hD hS hA [] [0] [0] rfl rfl (by decide) (by decide) (fun _ => rfl) (va_runS (As := [.long (((X.2.1.1 i) + v).toInt64), .long 0, .long (99)]) (rest := []) ⟨hx, hb, hml, hown, hts⟩ (c_X5_in l D cy (((X.2.1.1 i) + v).toInt64) 0 (99) H.size) (va_cwS 3 hts gX5_giveTokens_X5_in rfl rfl rfl (by decide +kernel) ⟨Nat.le_of_ble_eq_true rfl, Nat.le_of_ble_eq_true rfl⟩) (kPre_S hK hN hP hD [] (by decide) rfl) rfl rfl hl.1 rfl (lv_room (Nat.le_of_ble_eq_true rfl)) dX5_giveTokens_56 ⟨Nat.le_of_ble_eq_true rfl, Nat.le_of_ble_eq_true rfl⟩) (fun r_ u_ H locs hw hP hD hS => ?_)
  have hw : r_ = if kIn (((X.2.1.1 i) + v).toInt64) 0 (99) then nI 1 else nI 0 := hw
  subst hw
  refine kv_i (y := nI 0) (if_neg (fun h => hbad ((kIn32 (y := nI 0) (z := nI 99) (by decide) (by decide)).mp h))) ?_
  refine lv_if_ne (tgt := 68) hx hb dX5_giveTokens_59 (by decide) (fun h => absurd h (by decide)) (fun _ => ?_)
  refine lv_aload_n hx hb dX5_giveTokens_62 rfl (lv_at hl 1 rfl) ?_
  refine lv_iconst (v := nI 3) hx hb dX5_giveTokens_63 (by decide) ?_
  refine kc_i (Cs := [mW cy ra (kEn X, T)]) (Rs := []) (Bs := [mW cy ra (kEn X, T)]) (Cs' := fun u_ : Unit => [mW cy ra ((kEn X), (T.1, T.2.1, T.2.2.1, (nI 3), T.2.2.2.2))]) (Fs := fun u_ : Unit => [mW cy ra ((kEn X), (T.1, T.2.1, T.2.2.1, (nI 3), T.2.2.2.2))]) hP hD hS hA [0] [] [0] rfl rfl (by decide) (by decide) (fun _ => rfl) (va_runV (As := [.int (nI 3)]) (rest := []) ⟨hx, hb, hml, hown, hts⟩ (c_X5_throwing l D cy ra (kEn X) T (nI 3) H.size) (cwV 1 hts gX5_giveTokens_X5_throwing rfl rfl rfl (by decide +kernel) ⟨Nat.le_of_ble_eq_true rfl, Nat.le_of_ble_eq_true rfl⟩) (kPre_V (ci := 5) hK hN hP hD [0] (by decide) rfl 0 rfl rfl) rfl rfl hl.1 rfl (lv_room (Nat.le_of_ble_eq_true rfl)) dX5_giveTokens_64 ⟨Nat.le_of_ble_eq_true rfl, Nat.le_of_ble_eq_true rfl⟩) (fun r_ u_ H locs hw hP hD hS => ?_)
  have hw : r_ = nI 0 := hw
  subst hw
  exact kr_i (post := fun r_ (u_ : Unit) => r_ = nI 0) (Bs := fun u_ : Unit => [mW cy ra (kEn X, (T.1, T.2.1, T.2.2.1, nI 3, T.2.2.2.2))]) hx hb hr hlocks rfl () hP hK hD hS rfl dX5_giveTokens_67 hQ
abbrev rm_X5_setHere_t : Room := { frames := 2, cells := 0, slots := 0, locals := 47 }
set_option maxHeartbeats 1000000 in
set_option maxRecDepth 100000 in
/-- setHere -/
theorem c_X5_setHere_t (l : Launch) (D : va_G) (cy : Nat → ClassId) (ra : Nat → Nat) (X : rS) (T : rV) (x : Int32) (i : Nat) (y : Int32) (hx0 : ¬ x = 0) (hn : X.2.1.2.2.2.2.2 ≤ 8) (hi : i < X.2.1.2.2.2.2.2) (hy : y = nI 0 ∨ y = nI 1) (hsm : T.2.2.1 ≤ 4) (sz : Nat) : Met l yX5_setHere wsX5_setHere rm_X5_setHere_t (va_Pc [.ref (ra 0), .int x, .int (nI i), .int y] (kPre D (kT cy) [mW cy ra (kEn X, T)] sz)) (va_Qi (fun r_ (u_ : Unit) => r_ = X.2.1.2.2.2.1 i) (kFr D (kT cy) [mW cy ra (kEn X, T)] sz (fun u_ : Unit => [mW cy ra (kEn (X.1, (X.2.1.1, X.2.1.2.1, X.2.1.2.2.1, upd X.2.1.2.2.2.1 i y, X.2.1.2.2.2.2), X.2.2), (kRsv (kEn X) T.1 T.2.2.1, T.2.1, kSc T.2.2.1, nI 0, T.2.2.2.2))])) (va_A (bkF [mW cy ra (kEn X, T)]) sz)) 0 0 (va_A (bkF [mW cy ra (kEn X, T)]) sz) := by
  refine kOpen (y := yX5_setHere) (ws := wsX5_setHere) (cc := cX5_setHere) (maxL := 6) (ret := (some .int)) (av := [.ref (ra 0), .int x, .int (nI i), .int y]) (Bs := [mW cy ra (kEn X, T)]) (Qc := fun A => (va_Qi (fun r_ (u_ : Unit) => r_ = X.2.1.2.2.2.1 i) (fun (u_ : Unit) t9 => kEnd D (kT cy) A [mW cy ra (kEn (X.1, (X.2.1.1, X.2.1.2.1, X.2.1.2.2.1, upd X.2.1.2.2.2.1 i y, X.2.1.2.2.2.2), X.2.2), (kRsv (kEn X) T.1 T.2.2.1, T.2.1, kSc T.2.2.1, nI 0, T.2.2.2.2))] t9) A)) (by decide) rfl (Nat.le_of_ble_eq_true rfl) ?_
  intro p e s m args below meth c A Q ls hQ hx hb hml hr hlocks hin hts hown hN hK hP hD hS hA hsz hAe hl
  clear hAe
  have hl : lv_has ls 6 [(0, .ref (ra 0)), (1, .int x), (2, .int (nI i)), (3, .int y)] := hl
  suffices K9 : ∀ (H : Heap) (locs : List Loc), va_P D vwCl (bkF [mW cy ra (kEn X, T)]) H → va_S A s.heap H locs → W p l e (headSpec wsX5_setHere rm_X5_setHere_t).room s m args below meth c H locs 0 0 Q (F0 m 0 ls []) from K9 _ _ hP hS
  clear hP hS
  intro H locs hP hS
  refine lv_aload_n hx hb dX5_setHere_0 rfl (lv_at hl 0 rfl) ?_
  refine lv_iload_n hx hb dX5_setHere_1 rfl (lv_at hl 1 rfl) ?_
  refine lv_iload_n hx hb dX5_setHere_2 rfl (lv_at hl 2 rfl) ?_
  refine kc_i (Cs := [mW cy ra (kEn X, T)]) (Rs := []) (Bs := [mW cy ra (kEn X, T)]) (Cs' := fun u_ : Unit => [mW cy ra (kEn X, T)]) (Fs := fun u_ : Unit => [mW cy ra (kEn X, T)]) hP hD hS hA [0] [] [0] rfl rfl (by decide) (by decide) (fun _ => rfl) (va_runV (As := [.int x, .int (nI i)]) (rest := []) ⟨hx, hb, hml, hown, hts⟩ (c_X5_isGuest_t l D cy ra X T x (nI i) hx0 (by first | assumption | omega | decide) H.size) (cwV 2 hts gX5_setHere_X5_isGuest rfl rfl rfl (by decide +kernel) ⟨Nat.le_of_ble_eq_true rfl, Nat.le_of_ble_eq_true rfl⟩) (kPre_V (ci := 5) hK hN hP hD [0] (by decide) rfl 0 rfl rfl) rfl rfl hl.1 rfl (lv_room (Nat.le_of_ble_eq_true rfl)) dX5_setHere_3 ⟨Nat.le_of_ble_eq_true rfl, Nat.le_of_ble_eq_true rfl⟩) (fun r_ u_ H locs hw hP hD hS => ?_)
  have hw : r_ = if ¬ (nI i) < nI 0 ∧ ¬ nI X.2.1.2.2.2.2.2 ≤ (nI i) then nI 1 else nI 0 := hw
  subst hw
  refine kv_i (y := nI 1) (if_pos (khas (by omega) (by omega))) ?_
  refine lv_if_ne (tgt := 15) hx hb dX5_setHere_6 (by decide) (fun _ => ?_) (fun h => absurd h (by decide))
  refine lv_aload_n hx hb dX5_setHere_15 rfl (lv_at hl 0 rfl) ?_
  refine kc_v (Cs := [mW cy ra (kEn X, T)]) (Rs := []) (Bs := [mW cy ra (kEn X, T)]) (Cs' := fun u_ : Unit => [mW cy ra (kEn X, (kRsv (kEn X) T.1 T.2.2.1, T.2.1, kSc T.2.2.1, T.2.2.2))]) (Fs := fun u_ : Unit => [mW cy ra (kEn X, (kRsv (kEn X) T.1 T.2.2.1, T.2.1, kSc T.2.2.1, T.2.2.2))]) hP hD hS hA [0] [] [0] rfl rfl (by decide) (by decide) (fun _ => rfl) (va_runV (As := []) (rest := []) ⟨hx, hb, hml, hown, hts⟩ (c_X5_save l D cy ra X T (by first | assumption | omega | decide) H.size) (cwV 0 hts gX5_setHere_X5_save rfl rfl rfl (by decide +kernel) ⟨Nat.le_of_ble_eq_true rfl, Nat.le_of_ble_eq_true rfl⟩) (kPre_V (ci := 5) hK hN hP hD [0] (by decide) rfl 0 rfl rfl) rfl rfl hl.1 rfl (lv_room (Nat.le_of_ble_eq_true rfl)) dX5_setHere_16 ⟨Nat.le_of_ble_eq_true rfl, Nat.le_of_ble_eq_true rfl⟩) (fun u_ H locs hw hP hD hS => ?_)
  refine lv_iload_n hx hb dX5_setHere_19 rfl (lv_at hl 1 rfl) ?_
  refine lv_iload_n hx hb dX5_setHere_20 rfl (lv_at hl 2 rfl) ?_
  refine kc_i (Cs := []) (Rs := [mW cy ra (kEn X, (kRsv (kEn X) T.1 T.2.2.1, T.2.1, kSc T.2.2.1, T.2.2.2))]) (Bs := [mW cy ra (kEn X, (kRsv (kEn X) T.1 T.2.2.1, T.2.1, kSc T.2.2.1, T.2.2.2))]) (Cs' := fun u_ : Unit => []) (Fs := fun u_ : Unit => [mW cy ra (kEn X, (kRsv (kEn X) T.1 T.2.2.1, T.2.1, kSc T.2.2.1, T.2.2.2))]) hP hD hS hA [] [0] [0] rfl rfl (by decide) (by decide) (fun _ => rfl) (va_runS (As := [.int x, .int (nI i)]) (rest := []) ⟨hx, hb, hml, hown, hts⟩ (c_X5_person_t l D cy x i hx0 H.size) (va_cwS 2 hts gX5_setHere_X5_person rfl rfl rfl (by decide +kernel) ⟨Nat.le_of_ble_eq_true rfl, Nat.le_of_ble_eq_true rfl⟩) (kPre_S hK hN hP hD [] (by decide) rfl) rfl rfl hl.1 rfl (lv_room (Nat.le_of_ble_eq_true rfl)) dX5_setHere_21 ⟨Nat.le_of_ble_eq_true rfl, Nat.le_of_ble_eq_true rfl⟩) (fun r_ u_ H locs hw hP hD hS => ?_)
  have hw : r_ = nI i := hw
  subst hw
  refine lv_istore (lv' := [(4, .int (nI i)), (0, .ref (ra 0)), (1, .int x), (2, .int (nI i)), (3, .int y)]) hx hb dX5_setHere_24 hl (by decide) rfl (fun ls hl => ?_)
  refine lv_aload_n hx hb dX5_setHere_26 rfl (lv_at hl 1 rfl) ?_
  refine lv_iload hx hb dX5_setHere_27 (lv_at hl 0 rfl) ?_
  refine lv_iconst (v := nI 3) hx hb dX5_setHere_29 (by decide) ?_
  refine kc_i (Cs := [mW cy ra (kEn X, (kRsv (kEn X) T.1 T.2.2.1, T.2.1, kSc T.2.2.1, T.2.2.2))]) (Rs := []) (Bs := [mW cy ra (kEn X, (kRsv (kEn X) T.1 T.2.2.1, T.2.1, kSc T.2.2.1, T.2.2.2))]) (Cs' := fun u_ : Unit => [mW cy ra (kEn X, (kRsv (kEn X) T.1 T.2.2.1, T.2.1, kSc T.2.2.1, T.2.2.2))]) (Fs := fun u_ : Unit => [mW cy ra (kEn X, (kRsv (kEn X) T.1 T.2.2.1, T.2.1, kSc T.2.2.1, T.2.2.2))]) hP hD hS hA [0] [] [0] rfl rfl (by decide) (by decide) (fun _ => rfl) (va_runV (As := [.int (nI i), .int (nI 3)]) (rest := []) ⟨hx, hb, hml, hown, hts⟩ (c_X5_of l D cy ra (kEn X) (kRsv (kEn X) T.1 T.2.2.1, T.2.1, kSc T.2.2.1, T.2.2.2) i 3 (by first | assumption | omega | decide) (by first | assumption | omega | decide) H.size) (cwV 2 hts gX5_setHere_X5_of rfl rfl rfl (by decide +kernel) ⟨Nat.le_of_ble_eq_true rfl, Nat.le_of_ble_eq_true rfl⟩) (kPre_V (ci := 5) hK hN hP hD [0] (by decide) rfl 0 rfl rfl) rfl rfl hl.1 rfl (lv_room (Nat.le_of_ble_eq_true rfl)) dX5_setHere_30 ⟨Nat.le_of_ble_eq_true rfl, Nat.le_of_ble_eq_true rfl⟩) (fun r_ u_ H locs hw hP hD hS => ?_)
  have hw : r_ = (kEn X) (92 + 6 * i + 3) := hw
  subst hw
  refine kv_i (y := X.2.1.2.2.2.1 i) ((kq_L (by omega) (by decide)).trans (if_pos hi)) ?_
  refine lv_istore (lv' := [(5, .int (X.2.1.2.2.2.1 i)), (4, .int (nI i)), (0, .ref (ra 0)), (1, .int x), (2, .int (nI i)), (3, .int y)]) hx hb dX5_setHere_33 hl (by decide) rfl (fun ls hl => ?_)
  refine lv_aload_n hx hb dX5_setHere_35 rfl (lv_at hl 2 rfl) ?_
  refine va_get (D := D) (ci := 5) (v := .ref (ra 1)) (C := RX5) (T := TX5) (N := 16) hx hb hts (by decide +kernel) hown hK hP 0 rfl rfl 0 (by decide) (hts (.fieldLink RX5 7 "DanceHallModel" "all" "[I") (by decide +kernel)) (fun _ h9 => h9) rfl dX5_setHere_36 ?_
  refine lv_iload hx hb dX5_setHere_39 (lv_at hl 1 rfl) ?_
  refine lv_iconst (v := nI 3) hx hb dX5_setHere_41 (by decide) ?_
  refine kc_i (Cs := []) (Rs := [mW cy ra (kEn X, (kRsv (kEn X) T.1 T.2.2.1, T.2.1, kSc T.2.2.1, T.2.2.2))]) (Bs := [mW cy ra (kEn X, (kRsv (kEn X) T.1 T.2.2.1, T.2.1, kSc T.2.2.1, T.2.2.2))]) (Cs' := fun u_ : Unit => []) (Fs := fun u_ : Unit => [mW cy ra (kEn X, (kRsv (kEn X) T.1 T.2.2.1, T.2.1, kSc T.2.2.1, T.2.2.2))]) hP hD hS hA [] [0] [0] rfl rfl (by decide) (by decide) (fun _ => rfl) (va_runS (As := [.int (nI i), .int (nI 3)]) (rest := [.ref (ra 1)]) ⟨hx, hb, hml, hown, hts⟩ (c_X5_at l D cy i 3 H.size) (va_cwS 2 hts gX5_setHere_X5_at rfl rfl rfl (by decide +kernel) ⟨Nat.le_of_ble_eq_true rfl, Nat.le_of_ble_eq_true rfl⟩) (kPre_S hK hN hP hD [] (by decide) rfl) rfl rfl hl.1 rfl (lv_room (Nat.le_of_ble_eq_true rfl)) dX5_setHere_42 ⟨Nat.le_of_ble_eq_true rfl, Nat.le_of_ble_eq_true rfl⟩) (fun r_ u_ H locs hw hP hD hS => ?_)
  have hw : r_ = nI (92 + 6 * i + 3) := hw
  subst hw
  rcases hy with h9 | h9
  · skip
    have hl : lv_has ls 6 [(5, .int (X.2.1.2.2.2.1 i)), (4, .int (nI i)), (0, .ref (ra 0)), (1, .int x), (2, .int (nI i)), (3, .int (nI 0))] := by rw [show nI 0 = y from h9.symm]; exact hl
    refine lv_iload_n hx hb dX5_setHere_45 rfl (lv_at hl 5 rfl) ?_
    refine lv_if_eq (tgt := 53) hx hb dX5_setHere_46 (by decide) (fun _ => ?_) (fun h => absurd h (by decide))
    refine lv_iconst (v := nI 0) hx hb dX5_setHere_53 (by decide) ?_
    refine va_iast hx hb hK hP hD hS 1 0 rfl rfl (vp_in_nI (n := 92 + 6 * i + 3) (N := 188) (by omega) (by omega)) dX5_setHere_54 (fun H locs hP hD hS => ?_)
    rw [nI_clamp (n := 92 + 6 * i + 3) (by omega)] at hP hD
    have hP : va_P D vwCl (bkF [mW cy ra (upd (kEn X) (92 + 6 * i + 3) (nI 0), (kRsv (kEn X) T.1 T.2.2.1, T.2.1, kSc T.2.2.1, T.2.2.2))]) H := hP
    have hD : va_D A (bkF [mW cy ra (upd (kEn X) (92 + 6 * i + 3) (nI 0), (kRsv (kEn X) T.1 T.2.2.1, T.2.1, kSc T.2.2.1, T.2.2.2))]) := hD
    have hP := kP_cell (g := (kEn (X.1, (X.2.1.1, X.2.1.2.1, X.2.1.2.2.1, upd X.2.1.2.2.2.1 i y, X.2.1.2.2.2.2), X.2.2))) hP 1 rfl (fun j hj => by rw [h9]; exact kqu_L3 hi hn j hj)
    have hD := hD.set (p := 1) (e := .inl (cy 0, 188, .inl (kEn (X.1, (X.2.1.1, X.2.1.2.1, X.2.1.2.2.1, upd X.2.1.2.2.2.1 i y, X.2.1.2.2.2.2), X.2.2)))) rfl
    have hP : va_P D vwCl (bkF [mW cy ra (kEn (X.1, (X.2.1.1, X.2.1.2.1, X.2.1.2.2.1, upd X.2.1.2.2.2.1 i y, X.2.1.2.2.2.2), X.2.2), (kRsv (kEn X) T.1 T.2.2.1, T.2.1, kSc T.2.2.1, T.2.2.2))]) H := hP
    have hD : va_D A (bkF [mW cy ra (kEn (X.1, (X.2.1.1, X.2.1.2.1, X.2.1.2.2.1, upd X.2.1.2.2.2.1 i y, X.2.1.2.2.2.2), X.2.2), (kRsv (kEn X) T.1 T.2.2.1, T.2.1, kSc T.2.2.1, T.2.2.2))]) := hD
    refine lv_aload_n hx hb dX5_setHere_55 rfl (lv_at hl 2 rfl) ?_
    refine lv_iload hx hb dX5_setHere_56 (lv_at hl 0 rfl) ?_
    refine kc_i (Cs := [mW cy ra (kEn (X.1, (X.2.1.1, X.2.1.2.1, X.2.1.2.2.1, upd X.2.1.2.2.2.1 i y, X.2.1.2.2.2.2), X.2.2), (kRsv (kEn X) T.1 T.2.2.1, T.2.1, kSc T.2.2.1, T.2.2.2))]) (Rs := []) (Bs := [mW cy ra (kEn (X.1, (X.2.1.1, X.2.1.2.1, X.2.1.2.2.1, upd X.2.1.2.2.2.1 i y, X.2.1.2.2.2.2), X.2.2), (kRsv (kEn X) T.1 T.2.2.1, T.2.1, kSc T.2.2.1, T.2.2.2))]) (Cs' := fun u_ : Unit => [mW cy ra ((kEn (X.1, (X.2.1.1, X.2.1.2.1, X.2.1.2.2.1, upd X.2.1.2.2.2.1 i y, X.2.1.2.2.2.2), X.2.2)), ((kRsv (kEn X) T.1 T.2.2.1), T.2.1, (kSc T.2.2.1), nI 0, T.2.2.2.2))]) (Fs := fun u_ : Unit => [mW cy ra ((kEn (X.1, (X.2.1.1, X.2.1.2.1, X.2.1.2.2.1, upd X.2.1.2.2.2.1 i y, X.2.1.2.2.2.2), X.2.2)), ((kRsv (kEn X) T.1 T.2.2.1), T.2.1, (kSc T.2.2.1), nI 0, T.2.2.2.2))]) hP hD hS hA [0] [] [0] rfl rfl (by decide) (by decide) (fun _ => rfl) (va_runV (As := [.int (X.2.1.2.2.2.1 i)]) (rest := []) ⟨hx, hb, hml, hown, hts⟩ (c_X5_fine l D cy ra (kEn (X.1, (X.2.1.1, X.2.1.2.1, X.2.1.2.2.1, upd X.2.1.2.2.2.1 i y, X.2.1.2.2.2.2), X.2.2)) (kRsv (kEn X) T.1 T.2.2.1, T.2.1, kSc T.2.2.1, T.2.2.2) (X.2.1.2.2.2.1 i) H.size) (cwV 1 hts gX5_setHere_X5_fine rfl rfl rfl (by decide +kernel) ⟨Nat.le_of_ble_eq_true rfl, Nat.le_of_ble_eq_true rfl⟩) (kPre_V (ci := 5) hK hN hP hD [0] (by decide) rfl 0 rfl rfl) rfl rfl hl.1 rfl (lv_room (Nat.le_of_ble_eq_true rfl)) dX5_setHere_58 ⟨Nat.le_of_ble_eq_true rfl, Nat.le_of_ble_eq_true rfl⟩) (fun r_ u_ H locs hw hP hD hS => ?_)
    have hw : r_ = (X.2.1.2.2.2.1 i) := hw
    subst hw
    exact kr_i (post := fun r_ (u_ : Unit) => r_ = X.2.1.2.2.2.1 i) (Bs := fun u_ : Unit => [mW cy ra (kEn (X.1, (X.2.1.1, X.2.1.2.1, X.2.1.2.2.1, upd X.2.1.2.2.2.1 i y, X.2.1.2.2.2.2), X.2.2), (kRsv (kEn X) T.1 T.2.2.1, T.2.1, kSc T.2.2.1, nI 0, T.2.2.2.2))]) hx hb hr hlocks rfl () hP hK hD hS rfl dX5_setHere_61 hQ
  · skip
    have hl : lv_has ls 6 [(5, .int (X.2.1.2.2.2.1 i)), (4, .int (nI i)), (0, .ref (ra 0)), (1, .int x), (2, .int (nI i)), (3, .int (nI 1))] := by rw [show nI 1 = y from h9.symm]; exact hl
    refine lv_iload_n hx hb dX5_setHere_45 rfl (lv_at hl 5 rfl) ?_
    refine lv_if_eq (tgt := 53) hx hb dX5_setHere_46 (by decide) (fun h => absurd h (by decide)) (fun _ => ?_)
    refine lv_iconst (v := nI 1) hx hb dX5_setHere_49 (by decide) ?_
    refine lv_goto (tgt := 54) hx hb dX5_setHere_50 (by decide) ?_
    refine va_iast hx hb hK hP hD hS 1 0 rfl rfl (vp_in_nI (n := 92 + 6 * i + 3) (N := 188) (by omega) (by omega)) dX5_setHere_54 (fun H locs hP hD hS => ?_)
    rw [nI_clamp (n := 92 + 6 * i + 3) (by omega)] at hP hD
    have hP : va_P D vwCl (bkF [mW cy ra (upd (kEn X) (92 + 6 * i + 3) (nI 1), (kRsv (kEn X) T.1 T.2.2.1, T.2.1, kSc T.2.2.1, T.2.2.2))]) H := hP
    have hD : va_D A (bkF [mW cy ra (upd (kEn X) (92 + 6 * i + 3) (nI 1), (kRsv (kEn X) T.1 T.2.2.1, T.2.1, kSc T.2.2.1, T.2.2.2))]) := hD
    have hP := kP_cell (g := (kEn (X.1, (X.2.1.1, X.2.1.2.1, X.2.1.2.2.1, upd X.2.1.2.2.2.1 i y, X.2.1.2.2.2.2), X.2.2))) hP 1 rfl (fun j hj => by rw [h9]; exact kqu_L3 hi hn j hj)
    have hD := hD.set (p := 1) (e := .inl (cy 0, 188, .inl (kEn (X.1, (X.2.1.1, X.2.1.2.1, X.2.1.2.2.1, upd X.2.1.2.2.2.1 i y, X.2.1.2.2.2.2), X.2.2)))) rfl
    have hP : va_P D vwCl (bkF [mW cy ra (kEn (X.1, (X.2.1.1, X.2.1.2.1, X.2.1.2.2.1, upd X.2.1.2.2.2.1 i y, X.2.1.2.2.2.2), X.2.2), (kRsv (kEn X) T.1 T.2.2.1, T.2.1, kSc T.2.2.1, T.2.2.2))]) H := hP
    have hD : va_D A (bkF [mW cy ra (kEn (X.1, (X.2.1.1, X.2.1.2.1, X.2.1.2.2.1, upd X.2.1.2.2.2.1 i y, X.2.1.2.2.2.2), X.2.2), (kRsv (kEn X) T.1 T.2.2.1, T.2.1, kSc T.2.2.1, T.2.2.2))]) := hD
    refine lv_aload_n hx hb dX5_setHere_55 rfl (lv_at hl 2 rfl) ?_
    refine lv_iload hx hb dX5_setHere_56 (lv_at hl 0 rfl) ?_
    refine kc_i (Cs := [mW cy ra (kEn (X.1, (X.2.1.1, X.2.1.2.1, X.2.1.2.2.1, upd X.2.1.2.2.2.1 i y, X.2.1.2.2.2.2), X.2.2), (kRsv (kEn X) T.1 T.2.2.1, T.2.1, kSc T.2.2.1, T.2.2.2))]) (Rs := []) (Bs := [mW cy ra (kEn (X.1, (X.2.1.1, X.2.1.2.1, X.2.1.2.2.1, upd X.2.1.2.2.2.1 i y, X.2.1.2.2.2.2), X.2.2), (kRsv (kEn X) T.1 T.2.2.1, T.2.1, kSc T.2.2.1, T.2.2.2))]) (Cs' := fun u_ : Unit => [mW cy ra ((kEn (X.1, (X.2.1.1, X.2.1.2.1, X.2.1.2.2.1, upd X.2.1.2.2.2.1 i y, X.2.1.2.2.2.2), X.2.2)), ((kRsv (kEn X) T.1 T.2.2.1), T.2.1, (kSc T.2.2.1), nI 0, T.2.2.2.2))]) (Fs := fun u_ : Unit => [mW cy ra ((kEn (X.1, (X.2.1.1, X.2.1.2.1, X.2.1.2.2.1, upd X.2.1.2.2.2.1 i y, X.2.1.2.2.2.2), X.2.2)), ((kRsv (kEn X) T.1 T.2.2.1), T.2.1, (kSc T.2.2.1), nI 0, T.2.2.2.2))]) hP hD hS hA [0] [] [0] rfl rfl (by decide) (by decide) (fun _ => rfl) (va_runV (As := [.int (X.2.1.2.2.2.1 i)]) (rest := []) ⟨hx, hb, hml, hown, hts⟩ (c_X5_fine l D cy ra (kEn (X.1, (X.2.1.1, X.2.1.2.1, X.2.1.2.2.1, upd X.2.1.2.2.2.1 i y, X.2.1.2.2.2.2), X.2.2)) (kRsv (kEn X) T.1 T.2.2.1, T.2.1, kSc T.2.2.1, T.2.2.2) (X.2.1.2.2.2.1 i) H.size) (cwV 1 hts gX5_setHere_X5_fine rfl rfl rfl (by decide +kernel) ⟨Nat.le_of_ble_eq_true rfl, Nat.le_of_ble_eq_true rfl⟩) (kPre_V (ci := 5) hK hN hP hD [0] (by decide) rfl 0 rfl rfl) rfl rfl hl.1 rfl (lv_room (Nat.le_of_ble_eq_true rfl)) dX5_setHere_58 ⟨Nat.le_of_ble_eq_true rfl, Nat.le_of_ble_eq_true rfl⟩) (fun r_ u_ H locs hw hP hD hS => ?_)
    have hw : r_ = (X.2.1.2.2.2.1 i) := hw
    subst hw
    exact kr_i (post := fun r_ (u_ : Unit) => r_ = X.2.1.2.2.2.1 i) (Bs := fun u_ : Unit => [mW cy ra (kEn (X.1, (X.2.1.1, X.2.1.2.1, X.2.1.2.2.1, upd X.2.1.2.2.2.1 i y, X.2.1.2.2.2.2), X.2.2), (kRsv (kEn X) T.1 T.2.2.1, T.2.1, kSc T.2.2.1, nI 0, T.2.2.2.2))]) hx hb hr hlocks rfl () hP hK hD hS rfl dX5_setHere_61 hQ
abbrev rm_X5_setHere_it : Room := { frames := 2, cells := 0, slots := 0, locals := 47 }
set_option maxHeartbeats 1000000 in
set_option maxRecDepth 100000 in
/-- setHere, no guest -/
theorem c_X5_setHere_it (l : Launch) (D : va_G) (cy : Nat → ClassId) (ra : Nat → Nat) (X : rS) (T : rV) (x : Int32) (i : Int32) (y : Int32) (hx0 : ¬ x = 0) (hn : X.2.1.2.2.2.2.2 ≤ 8) (hbad : ¬ (¬ i < nI 0 ∧ ¬ nI X.2.1.2.2.2.2.2 ≤ i)) (sz : Nat) : Met l yX5_setHere wsX5_setHere rm_X5_setHere_it (va_Pc [.ref (ra 0), .int x, .int i, .int y] (kPre D (kT cy) [mW cy ra (kEn X, T)] sz)) (va_Qi (fun r_ (u_ : Unit) => r_ = nI 0) (kFr D (kT cy) [mW cy ra (kEn X, T)] sz (fun u_ : Unit => [mW cy ra (kEn X, (T.1, T.2.1, T.2.2.1, nI 1, T.2.2.2.2))])) (va_A (bkF [mW cy ra (kEn X, T)]) sz)) 0 0 (va_A (bkF [mW cy ra (kEn X, T)]) sz) := by
  refine kOpen (y := yX5_setHere) (ws := wsX5_setHere) (cc := cX5_setHere) (maxL := 6) (ret := (some .int)) (av := [.ref (ra 0), .int x, .int i, .int y]) (Bs := [mW cy ra (kEn X, T)]) (Qc := fun A => (va_Qi (fun r_ (u_ : Unit) => r_ = nI 0) (fun (u_ : Unit) t9 => kEnd D (kT cy) A [mW cy ra (kEn X, (T.1, T.2.1, T.2.2.1, nI 1, T.2.2.2.2))] t9) A)) (by decide) rfl (Nat.le_of_ble_eq_true rfl) ?_
  intro p e s m args below meth c A Q ls hQ hx hb hml hr hlocks hin hts hown hN hK hP hD hS hA hsz hAe hl
  clear hAe
  have hl : lv_has ls 6 [(0, .ref (ra 0)), (1, .int x), (2, .int i), (3, .int y)] := hl
  suffices K9 : ∀ (H : Heap) (locs : List Loc), va_P D vwCl (bkF [mW cy ra (kEn X, T)]) H → va_S A s.heap H locs → W p l e (headSpec wsX5_setHere rm_X5_setHere_it).room s m args below meth c H locs 0 0 Q (F0 m 0 ls []) from K9 _ _ hP hS
  clear hP hS
  intro H locs hP hS
  refine lv_aload_n hx hb dX5_setHere_0 rfl (lv_at hl 0 rfl) ?_
  refine lv_iload_n hx hb dX5_setHere_1 rfl (lv_at hl 1 rfl) ?_
  refine lv_iload_n hx hb dX5_setHere_2 rfl (lv_at hl 2 rfl) ?_
  refine kc_i (Cs := [mW cy ra (kEn X, T)]) (Rs := []) (Bs := [mW cy ra (kEn X, T)]) (Cs' := fun u_ : Unit => [mW cy ra (kEn X, T)]) (Fs := fun u_ : Unit => [mW cy ra (kEn X, T)]) hP hD hS hA [0] [] [0] rfl rfl (by decide) (by decide) (fun _ => rfl) (va_runV (As := [.int x, .int i]) (rest := []) ⟨hx, hb, hml, hown, hts⟩ (c_X5_isGuest_t l D cy ra X T x i hx0 (by first | assumption | omega | decide) H.size) (cwV 2 hts gX5_setHere_X5_isGuest rfl rfl rfl (by decide +kernel) ⟨Nat.le_of_ble_eq_true rfl, Nat.le_of_ble_eq_true rfl⟩) (kPre_V (ci := 5) hK hN hP hD [0] (by decide) rfl 0 rfl rfl) rfl rfl hl.1 rfl (lv_room (Nat.le_of_ble_eq_true rfl)) dX5_setHere_3 ⟨Nat.le_of_ble_eq_true rfl, Nat.le_of_ble_eq_true rfl⟩) (fun r_ u_ H locs hw hP hD hS => ?_)
  have hw : r_ = if ¬ i < nI 0 ∧ ¬ nI X.2.1.2.2.2.2.2 ≤ i then nI 1 else nI 0 := hw
  subst hw
  refine kv_i (y := nI 0) (if_neg hbad) ?_
  refine lv_if_ne (tgt := 15) hx hb dX5_setHere_6 (by decide) (fun h => absurd h (by decide)) (fun _ => ?_)
  refine lv_aload_n hx hb dX5_setHere_9 rfl (lv_at hl 0 rfl) ?_
  refine lv_iconst (v := nI 1) hx hb dX5_setHere_10 (by decide) ?_
  refine kc_i (Cs := [mW cy ra (kEn X, T)]) (Rs := []) (Bs := [mW cy ra (kEn X, T)]) (Cs' := fun u_ : Unit => [mW cy ra ((kEn X), (T.1, T.2.1, T.2.2.1, (nI 1), T.2.2.2.2))]) (Fs := fun u_ : Unit => [mW cy ra ((kEn X), (T.1, T.2.1, T.2.2.1, (nI 1), T.2.2.2.2))]) hP hD hS hA [0] [] [0] rfl rfl (by decide) (by decide) (fun _ => rfl) (va_runV (As := [.int (nI 1)]) (rest := []) ⟨hx, hb, hml, hown, hts⟩ (c_X5_throwing l D cy ra (kEn X) T (nI 1) H.size) (cwV 1 hts gX5_setHere_X5_throwing rfl rfl rfl (by decide +kernel) ⟨Nat.le_of_ble_eq_true rfl, Nat.le_of_ble_eq_true rfl⟩) (kPre_V (ci := 5) hK hN hP hD [0] (by decide) rfl 0 rfl rfl) rfl rfl hl.1 rfl (lv_room (Nat.le_of_ble_eq_true rfl)) dX5_setHere_11 ⟨Nat.le_of_ble_eq_true rfl, Nat.le_of_ble_eq_true rfl⟩) (fun r_ u_ H locs hw hP hD hS => ?_)
  have hw : r_ = nI 0 := hw
  subst hw
  exact kr_i (post := fun r_ (u_ : Unit) => r_ = nI 0) (Bs := fun u_ : Unit => [mW cy ra (kEn X, (T.1, T.2.1, T.2.2.1, nI 1, T.2.2.2.2))]) hx hb hr hlocks rfl () hP hK hD hS rfl dX5_setHere_14 hQ
abbrev rm_X5_adds_f : Room := { frames := 1, cells := 0, slots := 0, locals := 21 }
set_option maxHeartbeats 1000000 in
set_option maxRecDepth 100000 in
/-- adds -/
theorem c_X5_adds_f (l : Launch) (D : va_G) (cy : Nat → ClassId) (ra : Nat → Nat) (X : rS) (tL : Nat → Nat) (tF : Nat → Nat) (cp : Nat) (T : rV) (x : Int32) (a9 : Int32) (b9 : Int32) (c9 : Int32) (hx0 : x = 0) (hn8 : X.2.2.1.2.2.2.2.2 < 8) (ht : tF (X.2.2.1.2.2.2.2.2) = 0) (hc : c9 = nI 0 ∨ c9 = nI 1) (sz : Nat) : Met l yX5_adds wsX5_adds rm_X5_adds_f (va_Pc [.ref (ra 0), .int x, .int a9, .int b9, .int c9] (kPre D (kT cy) [mW cy ra (kEq X tL tF cp, T)] sz)) (va_Qv (fun u_ : Unit => True) (kFr D (kT cy) [mW cy ra (kEq X tL tF cp, T)] sz (fun u_ : Unit => [mW cy ra (kEq (X.1, X.2.1, kAd X.2.2.1 a9 b9 c9, X.2.2.2) tL tF cp, T)])) (va_A (bkF [mW cy ra (kEq X tL tF cp, T)]) sz)) 0 0 (va_A (bkF [mW cy ra (kEq X tL tF cp, T)]) sz) := by
  refine kOpen (y := yX5_adds) (ws := wsX5_adds) (cc := cX5_adds) (maxL := 6) (ret := none) (av := [.ref (ra 0), .int x, .int a9, .int b9, .int c9]) (Bs := [mW cy ra (kEq X tL tF cp, T)]) (Qc := fun A => (va_Qv (fun u_ : Unit => True) (fun (u_ : Unit) t9 => kEnd D (kT cy) A [mW cy ra (kEq (X.1, X.2.1, kAd X.2.2.1 a9 b9 c9, X.2.2.2) tL tF cp, T)] t9) A)) (by decide) rfl (Nat.le_of_ble_eq_true rfl) ?_
  intro p e s m args below meth c A Q ls hQ hx hb hml hr hlocks hin hts hown hN hK hP hD hS hA hsz hAe hl
  clear hAe
  have hl : lv_has ls 6 [(0, .ref (ra 0)), (1, .int x), (2, .int a9), (3, .int b9), (4, .int c9)] := hl
  suffices K9 : ∀ (H : Heap) (locs : List Loc), va_P D vwCl (bkF [mW cy ra (kEq X tL tF cp, T)]) H → va_S A s.heap H locs → W p l e (headSpec wsX5_adds rm_X5_adds_f).room s m args below meth c H locs 0 0 Q (F0 m 0 ls []) from K9 _ _ hP hS
  clear hP hS
  intro H locs hP hS
  rcases hc with h9 | h9
  · skip
    have hl : lv_has ls 6 [(0, .ref (ra 0)), (1, .int x), (2, .int a9), (3, .int b9), (4, .int (nI 0))] := by rw [show nI 0 = c9 from h9.symm]; exact hl
    refine lv_iload_n hx hb dX5_adds_0 rfl (lv_at hl 1 rfl) ?_
    refine lv_aload_n hx hb dX5_adds_1 rfl (lv_at hl 0 rfl) ?_
    refine lv_iload_n hx hb dX5_adds_2 rfl (lv_at hl 1 rfl) ?_
    refine kc_i (Cs := [mW cy ra (kEq X tL tF cp, T)]) (Rs := []) (Bs := [mW cy ra (kEq X tL tF cp, T)]) (Cs' := fun u_ : Unit => [mW cy ra (kEq X tL tF cp, T)]) (Fs := fun u_ : Unit => [mW cy ra (kEq X tL tF cp, T)]) hP hD hS hA [0] [] [0] rfl rfl (by decide) (by decide) (fun _ => rfl) (va_runV (As := [.int x]) (rest := [.int x]) ⟨hx, hb, hml, hown, hts⟩ (c_X5_many_f l D cy ra (kEq X tL tF cp) T x hx0 H.size) (cwV 1 hts gX5_adds_X5_many rfl rfl rfl (by decide +kernel) ⟨Nat.le_of_ble_eq_true rfl, Nat.le_of_ble_eq_true rfl⟩) (kPre_V (ci := 5) hK hN hP hD [0] (by decide) rfl 0 rfl rfl) rfl rfl hl.1 rfl (lv_room (Nat.le_of_ble_eq_true rfl)) dX5_adds_3 ⟨Nat.le_of_ble_eq_true rfl, Nat.le_of_ble_eq_true rfl⟩) (fun r_ u_ H locs hw hP hD hS => ?_)
    have hw : r_ = (kEq X tL tF cp) 1 := hw
    subst hw
    refine kv_i (y := nI X.2.2.1.2.2.2.2.2) rfl ?_
    refine kc_i (Cs := []) (Rs := [mW cy ra (kEq X tL tF cp, T)]) (Bs := [mW cy ra (kEq X tL tF cp, T)]) (Cs' := fun u_ : Unit => []) (Fs := fun u_ : Unit => [mW cy ra (kEq X tL tF cp, T)]) hP hD hS hA [] [0] [0] rfl rfl (by decide) (by decide) (fun _ => rfl) (va_runS (As := [.int x, .int (nI X.2.2.1.2.2.2.2.2)]) (rest := []) ⟨hx, hb, hml, hown, hts⟩ (c_X5_person_f l D cy x X.2.2.1.2.2.2.2.2 hx0 H.size) (va_cwS 2 hts gX5_adds_X5_person rfl rfl rfl (by decide +kernel) ⟨Nat.le_of_ble_eq_true rfl, Nat.le_of_ble_eq_true rfl⟩) (kPre_S hK hN hP hD [] (by decide) rfl) rfl rfl hl.1 rfl (lv_room (Nat.le_of_ble_eq_true rfl)) dX5_adds_6 ⟨Nat.le_of_ble_eq_true rfl, Nat.le_of_ble_eq_true rfl⟩) (fun r_ u_ H locs hw hP hD hS => ?_)
    have hw : r_ = nI (8 + X.2.2.1.2.2.2.2.2) := hw
    subst hw
    refine lv_istore (lv' := [(5, .int (nI (8 + X.2.2.1.2.2.2.2.2))), (0, .ref (ra 0)), (1, .int x), (2, .int a9), (3, .int b9), (4, .int (nI 0))]) hx hb dX5_adds_9 hl (by decide) rfl (fun ls hl => ?_)
    refine lv_aload_n hx hb dX5_adds_11 rfl (lv_at hl 1 rfl) ?_
    refine va_get (D := D) (ci := 5) (v := .ref (ra 1)) (C := RX5) (T := TX5) (N := 16) hx hb hts (by decide +kernel) hown hK hP 0 rfl rfl 0 (by decide) (hts (.fieldLink RX5 7 "DanceHallModel" "all" "[I") (by decide +kernel)) (fun _ h9 => h9) rfl dX5_adds_12 ?_
    refine lv_iload hx hb dX5_adds_15 (lv_at hl 0 rfl) ?_
    refine lv_iconst (v := nI 0) hx hb dX5_adds_17 (by decide) ?_
    refine kc_i (Cs := []) (Rs := [mW cy ra (kEq X tL tF cp, T)]) (Bs := [mW cy ra (kEq X tL tF cp, T)]) (Cs' := fun u_ : Unit => []) (Fs := fun u_ : Unit => [mW cy ra (kEq X tL tF cp, T)]) hP hD hS hA [] [0] [0] rfl rfl (by decide) (by decide) (fun _ => rfl) (va_runS (As := [.int (nI (8 + X.2.2.1.2.2.2.2.2)), .int (nI 0)]) (rest := [.ref (ra 1)]) ⟨hx, hb, hml, hown, hts⟩ (c_X5_at l D cy (8 + X.2.2.1.2.2.2.2.2) 0 H.size) (va_cwS 2 hts gX5_adds_X5_at rfl rfl rfl (by decide +kernel) ⟨Nat.le_of_ble_eq_true rfl, Nat.le_of_ble_eq_true rfl⟩) (kPre_S hK hN hP hD [] (by decide) rfl) rfl rfl hl.1 rfl (lv_room (Nat.le_of_ble_eq_true rfl)) dX5_adds_18 ⟨Nat.le_of_ble_eq_true rfl, Nat.le_of_ble_eq_true rfl⟩) (fun r_ u_ H locs hw hP hD hS => ?_)
    have hw : r_ = nI (92 + 6 * (8 + X.2.2.1.2.2.2.2.2) + 0) := hw
    subst hw
    refine lv_iload_n hx hb dX5_adds_21 rfl (lv_at hl 3 rfl) ?_
    refine va_iast hx hb hK hP hD hS 1 0 rfl rfl (vp_in_nI (n := 92 + 6 * (8 + X.2.2.1.2.2.2.2.2) + 0) (N := 188) (by omega) (by omega)) dX5_adds_22 (fun H locs hP hD hS => ?_)
    rw [nI_clamp (n := 92 + 6 * (8 + X.2.2.1.2.2.2.2.2) + 0) (by omega)] at hP hD
    have hP : va_P D vwCl (bkF [mW cy ra (upd (kEq X tL tF cp) (92 + 6 * (8 + X.2.2.1.2.2.2.2.2) + 0) a9, T)]) H := hP
    have hD : va_D A (bkF [mW cy ra (upd (kEq X tL tF cp) (92 + 6 * (8 + X.2.2.1.2.2.2.2.2) + 0) a9, T)]) := hD
    refine lv_aload_n hx hb dX5_adds_23 rfl (lv_at hl 1 rfl) ?_
    refine va_get (D := D) (ci := 5) (v := .ref (ra 1)) (C := RX5) (T := TX5) (N := 16) hx hb hts (by decide +kernel) hown hK hP 0 rfl rfl 0 (by decide) (hts (.fieldLink RX5 7 "DanceHallModel" "all" "[I") (by decide +kernel)) (fun _ h9 => h9) rfl dX5_adds_24 ?_
    refine lv_iload hx hb dX5_adds_27 (lv_at hl 0 rfl) ?_
    refine lv_iconst (v := nI 1) hx hb dX5_adds_29 (by decide) ?_
    refine kc_i (Cs := []) (Rs := [mW cy ra (upd (kEq X tL tF cp) (92 + 6 * (8 + X.2.2.1.2.2.2.2.2) + 0) a9, T)]) (Bs := [mW cy ra (upd (kEq X tL tF cp) (92 + 6 * (8 + X.2.2.1.2.2.2.2.2) + 0) a9, T)]) (Cs' := fun u_ : Unit => []) (Fs := fun u_ : Unit => [mW cy ra (upd (kEq X tL tF cp) (92 + 6 * (8 + X.2.2.1.2.2.2.2.2) + 0) a9, T)]) hP hD hS hA [] [0] [0] rfl rfl (by decide) (by decide) (fun _ => rfl) (va_runS (As := [.int (nI (8 + X.2.2.1.2.2.2.2.2)), .int (nI 1)]) (rest := [.ref (ra 1)]) ⟨hx, hb, hml, hown, hts⟩ (c_X5_at l D cy (8 + X.2.2.1.2.2.2.2.2) 1 H.size) (va_cwS 2 hts gX5_adds_X5_at rfl rfl rfl (by decide +kernel) ⟨Nat.le_of_ble_eq_true rfl, Nat.le_of_ble_eq_true rfl⟩) (kPre_S hK hN hP hD [] (by decide) rfl) rfl rfl hl.1 rfl (lv_room (Nat.le_of_ble_eq_true rfl)) dX5_adds_30 ⟨Nat.le_of_ble_eq_true rfl, Nat.le_of_ble_eq_true rfl⟩) (fun r_ u_ H locs hw hP hD hS => ?_)
    have hw : r_ = nI (92 + 6 * (8 + X.2.2.1.2.2.2.2.2) + 1) := hw
    subst hw
    refine lv_iload_n hx hb dX5_adds_33 rfl (lv_at hl 4 rfl) ?_
    refine va_iast hx hb hK hP hD hS 1 0 rfl rfl (vp_in_nI (n := 92 + 6 * (8 + X.2.2.1.2.2.2.2.2) + 1) (N := 188) (by omega) (by omega)) dX5_adds_34 (fun H locs hP hD hS => ?_)
    rw [nI_clamp (n := 92 + 6 * (8 + X.2.2.1.2.2.2.2.2) + 1) (by omega)] at hP hD
    have hP : va_P D vwCl (bkF [mW cy ra (upd (upd (kEq X tL tF cp) (92 + 6 * (8 + X.2.2.1.2.2.2.2.2) + 0) a9) (92 + 6 * (8 + X.2.2.1.2.2.2.2.2) + 1) b9, T)]) H := hP
    have hD : va_D A (bkF [mW cy ra (upd (upd (kEq X tL tF cp) (92 + 6 * (8 + X.2.2.1.2.2.2.2.2) + 0) a9) (92 + 6 * (8 + X.2.2.1.2.2.2.2.2) + 1) b9, T)]) := hD
    refine lv_aload_n hx hb dX5_adds_35 rfl (lv_at hl 1 rfl) ?_
    refine va_get (D := D) (ci := 5) (v := .ref (ra 1)) (C := RX5) (T := TX5) (N := 16) hx hb hts (by decide +kernel) hown hK hP 0 rfl rfl 0 (by decide) (hts (.fieldLink RX5 7 "DanceHallModel" "all" "[I") (by decide +kernel)) (fun _ h9 => h9) rfl dX5_adds_36 ?_
    refine lv_iload hx hb dX5_adds_39 (lv_at hl 0 rfl) ?_
    refine lv_iconst (v := nI 2) hx hb dX5_adds_41 (by decide) ?_
    refine kc_i (Cs := []) (Rs := [mW cy ra (upd (upd (kEq X tL tF cp) (92 + 6 * (8 + X.2.2.1.2.2.2.2.2) + 0) a9) (92 + 6 * (8 + X.2.2.1.2.2.2.2.2) + 1) b9, T)]) (Bs := [mW cy ra (upd (upd (kEq X tL tF cp) (92 + 6 * (8 + X.2.2.1.2.2.2.2.2) + 0) a9) (92 + 6 * (8 + X.2.2.1.2.2.2.2.2) + 1) b9, T)]) (Cs' := fun u_ : Unit => []) (Fs := fun u_ : Unit => [mW cy ra (upd (upd (kEq X tL tF cp) (92 + 6 * (8 + X.2.2.1.2.2.2.2.2) + 0) a9) (92 + 6 * (8 + X.2.2.1.2.2.2.2.2) + 1) b9, T)]) hP hD hS hA [] [0] [0] rfl rfl (by decide) (by decide) (fun _ => rfl) (va_runS (As := [.int (nI (8 + X.2.2.1.2.2.2.2.2)), .int (nI 2)]) (rest := [.ref (ra 1)]) ⟨hx, hb, hml, hown, hts⟩ (c_X5_at l D cy (8 + X.2.2.1.2.2.2.2.2) 2 H.size) (va_cwS 2 hts gX5_adds_X5_at rfl rfl rfl (by decide +kernel) ⟨Nat.le_of_ble_eq_true rfl, Nat.le_of_ble_eq_true rfl⟩) (kPre_S hK hN hP hD [] (by decide) rfl) rfl rfl hl.1 rfl (lv_room (Nat.le_of_ble_eq_true rfl)) dX5_adds_42 ⟨Nat.le_of_ble_eq_true rfl, Nat.le_of_ble_eq_true rfl⟩) (fun r_ u_ H locs hw hP hD hS => ?_)
    have hw : r_ = nI (92 + 6 * (8 + X.2.2.1.2.2.2.2.2) + 2) := hw
    subst hw
    refine lv_iload hx hb dX5_adds_45 (lv_at hl 5 rfl) ?_
    refine lv_if_eq (tgt := 54) hx hb dX5_adds_47 (by decide) (fun _ => ?_) (fun h => absurd h (by decide))
    refine lv_iconst (v := nI 0) hx hb dX5_adds_54 (by decide) ?_
    refine va_iast hx hb hK hP hD hS 1 0 rfl rfl (vp_in_nI (n := 92 + 6 * (8 + X.2.2.1.2.2.2.2.2) + 2) (N := 188) (by omega) (by omega)) dX5_adds_55 (fun H locs hP hD hS => ?_)
    rw [nI_clamp (n := 92 + 6 * (8 + X.2.2.1.2.2.2.2.2) + 2) (by omega)] at hP hD
    have hP : va_P D vwCl (bkF [mW cy ra (upd (upd (upd (kEq X tL tF cp) (92 + 6 * (8 + X.2.2.1.2.2.2.2.2) + 0) a9) (92 + 6 * (8 + X.2.2.1.2.2.2.2.2) + 1) b9) (92 + 6 * (8 + X.2.2.1.2.2.2.2.2) + 2) (nI 0), T)]) H := hP
    have hD : va_D A (bkF [mW cy ra (upd (upd (upd (kEq X tL tF cp) (92 + 6 * (8 + X.2.2.1.2.2.2.2.2) + 0) a9) (92 + 6 * (8 + X.2.2.1.2.2.2.2.2) + 1) b9) (92 + 6 * (8 + X.2.2.1.2.2.2.2.2) + 2) (nI 0), T)]) := hD
    refine lv_aload_n hx hb dX5_adds_56 rfl (lv_at hl 1 rfl) ?_
    refine va_get (D := D) (ci := 5) (v := .ref (ra 1)) (C := RX5) (T := TX5) (N := 16) hx hb hts (by decide +kernel) hown hK hP 0 rfl rfl 0 (by decide) (hts (.fieldLink RX5 7 "DanceHallModel" "all" "[I") (by decide +kernel)) (fun _ h9 => h9) rfl dX5_adds_57 ?_
    refine lv_iload hx hb dX5_adds_60 (lv_at hl 0 rfl) ?_
    refine lv_iconst (v := nI 3) hx hb dX5_adds_62 (by decide) ?_
    refine kc_i (Cs := []) (Rs := [mW cy ra (upd (upd (upd (kEq X tL tF cp) (92 + 6 * (8 + X.2.2.1.2.2.2.2.2) + 0) a9) (92 + 6 * (8 + X.2.2.1.2.2.2.2.2) + 1) b9) (92 + 6 * (8 + X.2.2.1.2.2.2.2.2) + 2) (nI 0), T)]) (Bs := [mW cy ra (upd (upd (upd (kEq X tL tF cp) (92 + 6 * (8 + X.2.2.1.2.2.2.2.2) + 0) a9) (92 + 6 * (8 + X.2.2.1.2.2.2.2.2) + 1) b9) (92 + 6 * (8 + X.2.2.1.2.2.2.2.2) + 2) (nI 0), T)]) (Cs' := fun u_ : Unit => []) (Fs := fun u_ : Unit => [mW cy ra (upd (upd (upd (kEq X tL tF cp) (92 + 6 * (8 + X.2.2.1.2.2.2.2.2) + 0) a9) (92 + 6 * (8 + X.2.2.1.2.2.2.2.2) + 1) b9) (92 + 6 * (8 + X.2.2.1.2.2.2.2.2) + 2) (nI 0), T)]) hP hD hS hA [] [0] [0] rfl rfl (by decide) (by decide) (fun _ => rfl) (va_runS (As := [.int (nI (8 + X.2.2.1.2.2.2.2.2)), .int (nI 3)]) (rest := [.ref (ra 1)]) ⟨hx, hb, hml, hown, hts⟩ (c_X5_at l D cy (8 + X.2.2.1.2.2.2.2.2) 3 H.size) (va_cwS 2 hts gX5_adds_X5_at rfl rfl rfl (by decide +kernel) ⟨Nat.le_of_ble_eq_true rfl, Nat.le_of_ble_eq_true rfl⟩) (kPre_S hK hN hP hD [] (by decide) rfl) rfl rfl hl.1 rfl (lv_room (Nat.le_of_ble_eq_true rfl)) dX5_adds_63 ⟨Nat.le_of_ble_eq_true rfl, Nat.le_of_ble_eq_true rfl⟩) (fun r_ u_ H locs hw hP hD hS => ?_)
    have hw : r_ = nI (92 + 6 * (8 + X.2.2.1.2.2.2.2.2) + 3) := hw
    subst hw
    refine lv_iconst (v := nI 1) hx hb dX5_adds_66 (by decide) ?_
    refine va_iast hx hb hK hP hD hS 1 0 rfl rfl (vp_in_nI (n := 92 + 6 * (8 + X.2.2.1.2.2.2.2.2) + 3) (N := 188) (by omega) (by omega)) dX5_adds_67 (fun H locs hP hD hS => ?_)
    rw [nI_clamp (n := 92 + 6 * (8 + X.2.2.1.2.2.2.2.2) + 3) (by omega)] at hP hD
    have hP : va_P D vwCl (bkF [mW cy ra (upd (upd (upd (upd (kEq X tL tF cp) (92 + 6 * (8 + X.2.2.1.2.2.2.2.2) + 0) a9) (92 + 6 * (8 + X.2.2.1.2.2.2.2.2) + 1) b9) (92 + 6 * (8 + X.2.2.1.2.2.2.2.2) + 2) (nI 0)) (92 + 6 * (8 + X.2.2.1.2.2.2.2.2) + 3) (nI 1), T)]) H := hP
    have hD : va_D A (bkF [mW cy ra (upd (upd (upd (upd (kEq X tL tF cp) (92 + 6 * (8 + X.2.2.1.2.2.2.2.2) + 0) a9) (92 + 6 * (8 + X.2.2.1.2.2.2.2.2) + 1) b9) (92 + 6 * (8 + X.2.2.1.2.2.2.2.2) + 2) (nI 0)) (92 + 6 * (8 + X.2.2.1.2.2.2.2.2) + 3) (nI 1), T)]) := hD
    refine lv_aload_n hx hb dX5_adds_68 rfl (lv_at hl 1 rfl) ?_
    refine va_get (D := D) (ci := 5) (v := .ref (ra 1)) (C := RX5) (T := TX5) (N := 16) hx hb hts (by decide +kernel) hown hK hP 0 rfl rfl 0 (by decide) (hts (.fieldLink RX5 7 "DanceHallModel" "all" "[I") (by decide +kernel)) (fun _ h9 => h9) rfl dX5_adds_69 ?_
    refine lv_iload hx hb dX5_adds_72 (lv_at hl 0 rfl) ?_
    refine lv_iconst (v := nI 4) hx hb dX5_adds_74 (by decide) ?_
    refine kc_i (Cs := []) (Rs := [mW cy ra (upd (upd (upd (upd (kEq X tL tF cp) (92 + 6 * (8 + X.2.2.1.2.2.2.2.2) + 0) a9) (92 + 6 * (8 + X.2.2.1.2.2.2.2.2) + 1) b9) (92 + 6 * (8 + X.2.2.1.2.2.2.2.2) + 2) (nI 0)) (92 + 6 * (8 + X.2.2.1.2.2.2.2.2) + 3) (nI 1), T)]) (Bs := [mW cy ra (upd (upd (upd (upd (kEq X tL tF cp) (92 + 6 * (8 + X.2.2.1.2.2.2.2.2) + 0) a9) (92 + 6 * (8 + X.2.2.1.2.2.2.2.2) + 1) b9) (92 + 6 * (8 + X.2.2.1.2.2.2.2.2) + 2) (nI 0)) (92 + 6 * (8 + X.2.2.1.2.2.2.2.2) + 3) (nI 1), T)]) (Cs' := fun u_ : Unit => []) (Fs := fun u_ : Unit => [mW cy ra (upd (upd (upd (upd (kEq X tL tF cp) (92 + 6 * (8 + X.2.2.1.2.2.2.2.2) + 0) a9) (92 + 6 * (8 + X.2.2.1.2.2.2.2.2) + 1) b9) (92 + 6 * (8 + X.2.2.1.2.2.2.2.2) + 2) (nI 0)) (92 + 6 * (8 + X.2.2.1.2.2.2.2.2) + 3) (nI 1), T)]) hP hD hS hA [] [0] [0] rfl rfl (by decide) (by decide) (fun _ => rfl) (va_runS (As := [.int (nI (8 + X.2.2.1.2.2.2.2.2)), .int (nI 4)]) (rest := [.ref (ra 1)]) ⟨hx, hb, hml, hown, hts⟩ (c_X5_at l D cy (8 + X.2.2.1.2.2.2.2.2) 4 H.size) (va_cwS 2 hts gX5_adds_X5_at rfl rfl rfl (by decide +kernel) ⟨Nat.le_of_ble_eq_true rfl, Nat.le_of_ble_eq_true rfl⟩) (kPre_S hK hN hP hD [] (by decide) rfl) rfl rfl hl.1 rfl (lv_room (Nat.le_of_ble_eq_true rfl)) dX5_adds_75 ⟨Nat.le_of_ble_eq_true rfl, Nat.le_of_ble_eq_true rfl⟩) (fun r_ u_ H locs hw hP hD hS => ?_)
    have hw : r_ = nI (92 + 6 * (8 + X.2.2.1.2.2.2.2.2) + 4) := hw
    subst hw
    refine lv_iconst (v := nI 0) hx hb dX5_adds_78 (by decide) ?_
    refine va_iast hx hb hK hP hD hS 1 0 rfl rfl (vp_in_nI (n := 92 + 6 * (8 + X.2.2.1.2.2.2.2.2) + 4) (N := 188) (by omega) (by omega)) dX5_adds_79 (fun H locs hP hD hS => ?_)
    rw [nI_clamp (n := 92 + 6 * (8 + X.2.2.1.2.2.2.2.2) + 4) (by omega)] at hP hD
    have hP : va_P D vwCl (bkF [mW cy ra (upd (upd (upd (upd (upd (kEq X tL tF cp) (92 + 6 * (8 + X.2.2.1.2.2.2.2.2) + 0) a9) (92 + 6 * (8 + X.2.2.1.2.2.2.2.2) + 1) b9) (92 + 6 * (8 + X.2.2.1.2.2.2.2.2) + 2) (nI 0)) (92 + 6 * (8 + X.2.2.1.2.2.2.2.2) + 3) (nI 1)) (92 + 6 * (8 + X.2.2.1.2.2.2.2.2) + 4) (nI 0), T)]) H := hP
    have hD : va_D A (bkF [mW cy ra (upd (upd (upd (upd (upd (kEq X tL tF cp) (92 + 6 * (8 + X.2.2.1.2.2.2.2.2) + 0) a9) (92 + 6 * (8 + X.2.2.1.2.2.2.2.2) + 1) b9) (92 + 6 * (8 + X.2.2.1.2.2.2.2.2) + 2) (nI 0)) (92 + 6 * (8 + X.2.2.1.2.2.2.2.2) + 3) (nI 1)) (92 + 6 * (8 + X.2.2.1.2.2.2.2.2) + 4) (nI 0), T)]) := hD
    refine lv_aload_n hx hb dX5_adds_80 rfl (lv_at hl 1 rfl) ?_
    refine va_get (D := D) (ci := 5) (v := .ref (ra 1)) (C := RX5) (T := TX5) (N := 16) hx hb hts (by decide +kernel) hown hK hP 0 rfl rfl 0 (by decide) (hts (.fieldLink RX5 7 "DanceHallModel" "all" "[I") (by decide +kernel)) (fun _ h9 => h9) rfl dX5_adds_81 ?_
    refine lv_iload hx hb dX5_adds_84 (lv_at hl 0 rfl) ?_
    refine lv_iconst (v := nI 5) hx hb dX5_adds_86 (by decide) ?_
    refine kc_i (Cs := []) (Rs := [mW cy ra (upd (upd (upd (upd (upd (kEq X tL tF cp) (92 + 6 * (8 + X.2.2.1.2.2.2.2.2) + 0) a9) (92 + 6 * (8 + X.2.2.1.2.2.2.2.2) + 1) b9) (92 + 6 * (8 + X.2.2.1.2.2.2.2.2) + 2) (nI 0)) (92 + 6 * (8 + X.2.2.1.2.2.2.2.2) + 3) (nI 1)) (92 + 6 * (8 + X.2.2.1.2.2.2.2.2) + 4) (nI 0), T)]) (Bs := [mW cy ra (upd (upd (upd (upd (upd (kEq X tL tF cp) (92 + 6 * (8 + X.2.2.1.2.2.2.2.2) + 0) a9) (92 + 6 * (8 + X.2.2.1.2.2.2.2.2) + 1) b9) (92 + 6 * (8 + X.2.2.1.2.2.2.2.2) + 2) (nI 0)) (92 + 6 * (8 + X.2.2.1.2.2.2.2.2) + 3) (nI 1)) (92 + 6 * (8 + X.2.2.1.2.2.2.2.2) + 4) (nI 0), T)]) (Cs' := fun u_ : Unit => []) (Fs := fun u_ : Unit => [mW cy ra (upd (upd (upd (upd (upd (kEq X tL tF cp) (92 + 6 * (8 + X.2.2.1.2.2.2.2.2) + 0) a9) (92 + 6 * (8 + X.2.2.1.2.2.2.2.2) + 1) b9) (92 + 6 * (8 + X.2.2.1.2.2.2.2.2) + 2) (nI 0)) (92 + 6 * (8 + X.2.2.1.2.2.2.2.2) + 3) (nI 1)) (92 + 6 * (8 + X.2.2.1.2.2.2.2.2) + 4) (nI 0), T)]) hP hD hS hA [] [0] [0] rfl rfl (by decide) (by decide) (fun _ => rfl) (va_runS (As := [.int (nI (8 + X.2.2.1.2.2.2.2.2)), .int (nI 5)]) (rest := [.ref (ra 1)]) ⟨hx, hb, hml, hown, hts⟩ (c_X5_at l D cy (8 + X.2.2.1.2.2.2.2.2) 5 H.size) (va_cwS 2 hts gX5_adds_X5_at rfl rfl rfl (by decide +kernel) ⟨Nat.le_of_ble_eq_true rfl, Nat.le_of_ble_eq_true rfl⟩) (kPre_S hK hN hP hD [] (by decide) rfl) rfl rfl hl.1 rfl (lv_room (Nat.le_of_ble_eq_true rfl)) dX5_adds_87 ⟨Nat.le_of_ble_eq_true rfl, Nat.le_of_ble_eq_true rfl⟩) (fun r_ u_ H locs hw hP hD hS => ?_)
    have hw : r_ = nI (92 + 6 * (8 + X.2.2.1.2.2.2.2.2) + 5) := hw
    subst hw
    refine lv_iconst (v := nI 0) hx hb dX5_adds_90 (by decide) ?_
    refine va_iast hx hb hK hP hD hS 1 0 rfl rfl (vp_in_nI (n := 92 + 6 * (8 + X.2.2.1.2.2.2.2.2) + 5) (N := 188) (by omega) (by omega)) dX5_adds_91 (fun H locs hP hD hS => ?_)
    rw [nI_clamp (n := 92 + 6 * (8 + X.2.2.1.2.2.2.2.2) + 5) (by omega)] at hP hD
    have hP : va_P D vwCl (bkF [mW cy ra (upd (upd (upd (upd (upd (upd (kEq X tL tF cp) (92 + 6 * (8 + X.2.2.1.2.2.2.2.2) + 0) a9) (92 + 6 * (8 + X.2.2.1.2.2.2.2.2) + 1) b9) (92 + 6 * (8 + X.2.2.1.2.2.2.2.2) + 2) (nI 0)) (92 + 6 * (8 + X.2.2.1.2.2.2.2.2) + 3) (nI 1)) (92 + 6 * (8 + X.2.2.1.2.2.2.2.2) + 4) (nI 0)) (92 + 6 * (8 + X.2.2.1.2.2.2.2.2) + 5) (nI 0), T)]) H := hP
    have hD : va_D A (bkF [mW cy ra (upd (upd (upd (upd (upd (upd (kEq X tL tF cp) (92 + 6 * (8 + X.2.2.1.2.2.2.2.2) + 0) a9) (92 + 6 * (8 + X.2.2.1.2.2.2.2.2) + 1) b9) (92 + 6 * (8 + X.2.2.1.2.2.2.2.2) + 2) (nI 0)) (92 + 6 * (8 + X.2.2.1.2.2.2.2.2) + 3) (nI 1)) (92 + 6 * (8 + X.2.2.1.2.2.2.2.2) + 4) (nI 0)) (92 + 6 * (8 + X.2.2.1.2.2.2.2.2) + 5) (nI 0), T)]) := hD
    refine lv_aload_n hx hb dX5_adds_92 rfl (lv_at hl 1 rfl) ?_
    refine va_get (D := D) (ci := 5) (v := .ref (ra 1)) (C := RX5) (T := TX5) (N := 16) hx hb hts (by decide +kernel) hown hK hP 0 rfl rfl 0 (by decide) (hts (.fieldLink RX5 7 "DanceHallModel" "all" "[I") (by decide +kernel)) (fun _ h9 => h9) rfl dX5_adds_93 ?_
    refine lv_iload_n hx hb dX5_adds_96 rfl (lv_at hl 2 rfl) ?_
    refine lv_if_eq (tgt := 104) hx hb dX5_adds_97 (by decide) (fun c_97 => ?_) (fun c_97 => False.elim ?_)
    · skip
      refine lv_iconst (v := nI 1) hx hb dX5_adds_104 (by decide) ?_
      refine lv_dup2_11 hx hb dX5_adds_105 rfl rfl ?_
      refine va_iald hx hb hK hP 1 0 rfl rfl (vp_in_nI (n := 1) (N := 188) (by omega) (by omega)) dX5_adds_106 ?_
      refine kv_i (y := nI X.2.2.1.2.2.2.2.2) (show ((upd (upd (upd (upd (upd (upd (kEq X tL tF cp) (92 + 6 * (8 + X.2.2.1.2.2.2.2.2) + 0) a9) (92 + 6 * (8 + X.2.2.1.2.2.2.2.2) + 1) b9) (92 + 6 * (8 + X.2.2.1.2.2.2.2.2) + 2) (nI 0)) (92 + 6 * (8 + X.2.2.1.2.2.2.2.2) + 3) (nI 1)) (92 + 6 * (8 + X.2.2.1.2.2.2.2.2) + 4) (nI 0)) (92 + 6 * (8 + X.2.2.1.2.2.2.2.2) + 5) (nI 0))) (nI 1).toNatClampNeg = nI X.2.2.1.2.2.2.2.2 from (by show upd _ _ _ 1 = _; rw [pk_un (by omega), pk_un (by omega), pk_un (by omega), pk_un (by omega), pk_un (by omega), pk_un (by omega)]; rfl)) ?_
      refine lv_iconst (v := nI 1) hx hb dX5_adds_107 (by decide) ?_
      refine lv_iadd hx hb dX5_adds_108 ?_
      refine kv_i (y := nI (X.2.2.1.2.2.2.2.2 + 1)) (nI_add X.2.2.1.2.2.2.2.2 1) ?_
      refine va_iast hx hb hK hP hD hS 1 0 rfl rfl (vp_in_nI (n := 1) (N := 188) (by omega) (by omega)) dX5_adds_109 (fun H locs hP hD hS => ?_)
      have hP : va_P D vwCl (bkF [mW cy ra (upd (upd (upd (upd (upd (upd (upd (kEq X tL tF cp) (92 + 6 * (8 + X.2.2.1.2.2.2.2.2) + 0) a9) (92 + 6 * (8 + X.2.2.1.2.2.2.2.2) + 1) b9) (92 + 6 * (8 + X.2.2.1.2.2.2.2.2) + 2) (nI 0)) (92 + 6 * (8 + X.2.2.1.2.2.2.2.2) + 3) (nI 1)) (92 + 6 * (8 + X.2.2.1.2.2.2.2.2) + 4) (nI 0)) (92 + 6 * (8 + X.2.2.1.2.2.2.2.2) + 5) (nI 0)) 1 (nI (X.2.2.1.2.2.2.2.2 + 1)), T)]) H := hP
      have hD : va_D A (bkF [mW cy ra (upd (upd (upd (upd (upd (upd (upd (kEq X tL tF cp) (92 + 6 * (8 + X.2.2.1.2.2.2.2.2) + 0) a9) (92 + 6 * (8 + X.2.2.1.2.2.2.2.2) + 1) b9) (92 + 6 * (8 + X.2.2.1.2.2.2.2.2) + 2) (nI 0)) (92 + 6 * (8 + X.2.2.1.2.2.2.2.2) + 3) (nI 1)) (92 + 6 * (8 + X.2.2.1.2.2.2.2.2) + 4) (nI 0)) (92 + 6 * (8 + X.2.2.1.2.2.2.2.2) + 5) (nI 0)) 1 (nI (X.2.2.1.2.2.2.2.2 + 1)), T)]) := hD
      have hP := kP_cell (g := (kEq (X.1, X.2.1, kAd X.2.2.1 a9 b9 c9, X.2.2.2) tL tF cp)) hP 1 rfl (fun j hj => by rw [h9]; exact kqu_adF rfl hn8 ht j hj)
      have hD := hD.set (p := 1) (e := .inl (cy 0, 188, .inl (kEq (X.1, X.2.1, kAd X.2.2.1 a9 b9 c9, X.2.2.2) tL tF cp))) rfl
      have hP : va_P D vwCl (bkF [mW cy ra (kEq (X.1, X.2.1, kAd X.2.2.1 a9 b9 c9, X.2.2.2) tL tF cp, T)]) H := hP
      have hD : va_D A (bkF [mW cy ra (kEq (X.1, X.2.1, kAd X.2.2.1 a9 b9 c9, X.2.2.2) tL tF cp, T)]) := hD
      exact kr_v (post := fun u_ : Unit => True) (Bs := fun u_ : Unit => [mW cy ra (kEq (X.1, X.2.1, kAd X.2.2.1 a9 b9 c9, X.2.2.2) tL tF cp, T)]) hx hb hr hlocks () hP hK hD hS trivial dX5_adds_110 hQ
    · skip
      exact c_97 hx0
  · skip
    have hl : lv_has ls 6 [(0, .ref (ra 0)), (1, .int x), (2, .int a9), (3, .int b9), (4, .int (nI 1))] := by rw [show nI 1 = c9 from h9.symm]; exact hl
    refine lv_iload_n hx hb dX5_adds_0 rfl (lv_at hl 1 rfl) ?_
    refine lv_aload_n hx hb dX5_adds_1 rfl (lv_at hl 0 rfl) ?_
    refine lv_iload_n hx hb dX5_adds_2 rfl (lv_at hl 1 rfl) ?_
    refine kc_i (Cs := [mW cy ra (kEq X tL tF cp, T)]) (Rs := []) (Bs := [mW cy ra (kEq X tL tF cp, T)]) (Cs' := fun u_ : Unit => [mW cy ra (kEq X tL tF cp, T)]) (Fs := fun u_ : Unit => [mW cy ra (kEq X tL tF cp, T)]) hP hD hS hA [0] [] [0] rfl rfl (by decide) (by decide) (fun _ => rfl) (va_runV (As := [.int x]) (rest := [.int x]) ⟨hx, hb, hml, hown, hts⟩ (c_X5_many_f l D cy ra (kEq X tL tF cp) T x hx0 H.size) (cwV 1 hts gX5_adds_X5_many rfl rfl rfl (by decide +kernel) ⟨Nat.le_of_ble_eq_true rfl, Nat.le_of_ble_eq_true rfl⟩) (kPre_V (ci := 5) hK hN hP hD [0] (by decide) rfl 0 rfl rfl) rfl rfl hl.1 rfl (lv_room (Nat.le_of_ble_eq_true rfl)) dX5_adds_3 ⟨Nat.le_of_ble_eq_true rfl, Nat.le_of_ble_eq_true rfl⟩) (fun r_ u_ H locs hw hP hD hS => ?_)
    have hw : r_ = (kEq X tL tF cp) 1 := hw
    subst hw
    refine kv_i (y := nI X.2.2.1.2.2.2.2.2) rfl ?_
    refine kc_i (Cs := []) (Rs := [mW cy ra (kEq X tL tF cp, T)]) (Bs := [mW cy ra (kEq X tL tF cp, T)]) (Cs' := fun u_ : Unit => []) (Fs := fun u_ : Unit => [mW cy ra (kEq X tL tF cp, T)]) hP hD hS hA [] [0] [0] rfl rfl (by decide) (by decide) (fun _ => rfl) (va_runS (As := [.int x, .int (nI X.2.2.1.2.2.2.2.2)]) (rest := []) ⟨hx, hb, hml, hown, hts⟩ (c_X5_person_f l D cy x X.2.2.1.2.2.2.2.2 hx0 H.size) (va_cwS 2 hts gX5_adds_X5_person rfl rfl rfl (by decide +kernel) ⟨Nat.le_of_ble_eq_true rfl, Nat.le_of_ble_eq_true rfl⟩) (kPre_S hK hN hP hD [] (by decide) rfl) rfl rfl hl.1 rfl (lv_room (Nat.le_of_ble_eq_true rfl)) dX5_adds_6 ⟨Nat.le_of_ble_eq_true rfl, Nat.le_of_ble_eq_true rfl⟩) (fun r_ u_ H locs hw hP hD hS => ?_)
    have hw : r_ = nI (8 + X.2.2.1.2.2.2.2.2) := hw
    subst hw
    refine lv_istore (lv' := [(5, .int (nI (8 + X.2.2.1.2.2.2.2.2))), (0, .ref (ra 0)), (1, .int x), (2, .int a9), (3, .int b9), (4, .int (nI 1))]) hx hb dX5_adds_9 hl (by decide) rfl (fun ls hl => ?_)
    refine lv_aload_n hx hb dX5_adds_11 rfl (lv_at hl 1 rfl) ?_
    refine va_get (D := D) (ci := 5) (v := .ref (ra 1)) (C := RX5) (T := TX5) (N := 16) hx hb hts (by decide +kernel) hown hK hP 0 rfl rfl 0 (by decide) (hts (.fieldLink RX5 7 "DanceHallModel" "all" "[I") (by decide +kernel)) (fun _ h9 => h9) rfl dX5_adds_12 ?_
    refine lv_iload hx hb dX5_adds_15 (lv_at hl 0 rfl) ?_
    refine lv_iconst (v := nI 0) hx hb dX5_adds_17 (by decide) ?_
    refine kc_i (Cs := []) (Rs := [mW cy ra (kEq X tL tF cp, T)]) (Bs := [mW cy ra (kEq X tL tF cp, T)]) (Cs' := fun u_ : Unit => []) (Fs := fun u_ : Unit => [mW cy ra (kEq X tL tF cp, T)]) hP hD hS hA [] [0] [0] rfl rfl (by decide) (by decide) (fun _ => rfl) (va_runS (As := [.int (nI (8 + X.2.2.1.2.2.2.2.2)), .int (nI 0)]) (rest := [.ref (ra 1)]) ⟨hx, hb, hml, hown, hts⟩ (c_X5_at l D cy (8 + X.2.2.1.2.2.2.2.2) 0 H.size) (va_cwS 2 hts gX5_adds_X5_at rfl rfl rfl (by decide +kernel) ⟨Nat.le_of_ble_eq_true rfl, Nat.le_of_ble_eq_true rfl⟩) (kPre_S hK hN hP hD [] (by decide) rfl) rfl rfl hl.1 rfl (lv_room (Nat.le_of_ble_eq_true rfl)) dX5_adds_18 ⟨Nat.le_of_ble_eq_true rfl, Nat.le_of_ble_eq_true rfl⟩) (fun r_ u_ H locs hw hP hD hS => ?_)
    have hw : r_ = nI (92 + 6 * (8 + X.2.2.1.2.2.2.2.2) + 0) := hw
    subst hw
    refine lv_iload_n hx hb dX5_adds_21 rfl (lv_at hl 3 rfl) ?_
    refine va_iast hx hb hK hP hD hS 1 0 rfl rfl (vp_in_nI (n := 92 + 6 * (8 + X.2.2.1.2.2.2.2.2) + 0) (N := 188) (by omega) (by omega)) dX5_adds_22 (fun H locs hP hD hS => ?_)
    rw [nI_clamp (n := 92 + 6 * (8 + X.2.2.1.2.2.2.2.2) + 0) (by omega)] at hP hD
    have hP : va_P D vwCl (bkF [mW cy ra (upd (kEq X tL tF cp) (92 + 6 * (8 + X.2.2.1.2.2.2.2.2) + 0) a9, T)]) H := hP
    have hD : va_D A (bkF [mW cy ra (upd (kEq X tL tF cp) (92 + 6 * (8 + X.2.2.1.2.2.2.2.2) + 0) a9, T)]) := hD
    refine lv_aload_n hx hb dX5_adds_23 rfl (lv_at hl 1 rfl) ?_
    refine va_get (D := D) (ci := 5) (v := .ref (ra 1)) (C := RX5) (T := TX5) (N := 16) hx hb hts (by decide +kernel) hown hK hP 0 rfl rfl 0 (by decide) (hts (.fieldLink RX5 7 "DanceHallModel" "all" "[I") (by decide +kernel)) (fun _ h9 => h9) rfl dX5_adds_24 ?_
    refine lv_iload hx hb dX5_adds_27 (lv_at hl 0 rfl) ?_
    refine lv_iconst (v := nI 1) hx hb dX5_adds_29 (by decide) ?_
    refine kc_i (Cs := []) (Rs := [mW cy ra (upd (kEq X tL tF cp) (92 + 6 * (8 + X.2.2.1.2.2.2.2.2) + 0) a9, T)]) (Bs := [mW cy ra (upd (kEq X tL tF cp) (92 + 6 * (8 + X.2.2.1.2.2.2.2.2) + 0) a9, T)]) (Cs' := fun u_ : Unit => []) (Fs := fun u_ : Unit => [mW cy ra (upd (kEq X tL tF cp) (92 + 6 * (8 + X.2.2.1.2.2.2.2.2) + 0) a9, T)]) hP hD hS hA [] [0] [0] rfl rfl (by decide) (by decide) (fun _ => rfl) (va_runS (As := [.int (nI (8 + X.2.2.1.2.2.2.2.2)), .int (nI 1)]) (rest := [.ref (ra 1)]) ⟨hx, hb, hml, hown, hts⟩ (c_X5_at l D cy (8 + X.2.2.1.2.2.2.2.2) 1 H.size) (va_cwS 2 hts gX5_adds_X5_at rfl rfl rfl (by decide +kernel) ⟨Nat.le_of_ble_eq_true rfl, Nat.le_of_ble_eq_true rfl⟩) (kPre_S hK hN hP hD [] (by decide) rfl) rfl rfl hl.1 rfl (lv_room (Nat.le_of_ble_eq_true rfl)) dX5_adds_30 ⟨Nat.le_of_ble_eq_true rfl, Nat.le_of_ble_eq_true rfl⟩) (fun r_ u_ H locs hw hP hD hS => ?_)
    have hw : r_ = nI (92 + 6 * (8 + X.2.2.1.2.2.2.2.2) + 1) := hw
    subst hw
    refine lv_iload_n hx hb dX5_adds_33 rfl (lv_at hl 4 rfl) ?_
    refine va_iast hx hb hK hP hD hS 1 0 rfl rfl (vp_in_nI (n := 92 + 6 * (8 + X.2.2.1.2.2.2.2.2) + 1) (N := 188) (by omega) (by omega)) dX5_adds_34 (fun H locs hP hD hS => ?_)
    rw [nI_clamp (n := 92 + 6 * (8 + X.2.2.1.2.2.2.2.2) + 1) (by omega)] at hP hD
    have hP : va_P D vwCl (bkF [mW cy ra (upd (upd (kEq X tL tF cp) (92 + 6 * (8 + X.2.2.1.2.2.2.2.2) + 0) a9) (92 + 6 * (8 + X.2.2.1.2.2.2.2.2) + 1) b9, T)]) H := hP
    have hD : va_D A (bkF [mW cy ra (upd (upd (kEq X tL tF cp) (92 + 6 * (8 + X.2.2.1.2.2.2.2.2) + 0) a9) (92 + 6 * (8 + X.2.2.1.2.2.2.2.2) + 1) b9, T)]) := hD
    refine lv_aload_n hx hb dX5_adds_35 rfl (lv_at hl 1 rfl) ?_
    refine va_get (D := D) (ci := 5) (v := .ref (ra 1)) (C := RX5) (T := TX5) (N := 16) hx hb hts (by decide +kernel) hown hK hP 0 rfl rfl 0 (by decide) (hts (.fieldLink RX5 7 "DanceHallModel" "all" "[I") (by decide +kernel)) (fun _ h9 => h9) rfl dX5_adds_36 ?_
    refine lv_iload hx hb dX5_adds_39 (lv_at hl 0 rfl) ?_
    refine lv_iconst (v := nI 2) hx hb dX5_adds_41 (by decide) ?_
    refine kc_i (Cs := []) (Rs := [mW cy ra (upd (upd (kEq X tL tF cp) (92 + 6 * (8 + X.2.2.1.2.2.2.2.2) + 0) a9) (92 + 6 * (8 + X.2.2.1.2.2.2.2.2) + 1) b9, T)]) (Bs := [mW cy ra (upd (upd (kEq X tL tF cp) (92 + 6 * (8 + X.2.2.1.2.2.2.2.2) + 0) a9) (92 + 6 * (8 + X.2.2.1.2.2.2.2.2) + 1) b9, T)]) (Cs' := fun u_ : Unit => []) (Fs := fun u_ : Unit => [mW cy ra (upd (upd (kEq X tL tF cp) (92 + 6 * (8 + X.2.2.1.2.2.2.2.2) + 0) a9) (92 + 6 * (8 + X.2.2.1.2.2.2.2.2) + 1) b9, T)]) hP hD hS hA [] [0] [0] rfl rfl (by decide) (by decide) (fun _ => rfl) (va_runS (As := [.int (nI (8 + X.2.2.1.2.2.2.2.2)), .int (nI 2)]) (rest := [.ref (ra 1)]) ⟨hx, hb, hml, hown, hts⟩ (c_X5_at l D cy (8 + X.2.2.1.2.2.2.2.2) 2 H.size) (va_cwS 2 hts gX5_adds_X5_at rfl rfl rfl (by decide +kernel) ⟨Nat.le_of_ble_eq_true rfl, Nat.le_of_ble_eq_true rfl⟩) (kPre_S hK hN hP hD [] (by decide) rfl) rfl rfl hl.1 rfl (lv_room (Nat.le_of_ble_eq_true rfl)) dX5_adds_42 ⟨Nat.le_of_ble_eq_true rfl, Nat.le_of_ble_eq_true rfl⟩) (fun r_ u_ H locs hw hP hD hS => ?_)
    have hw : r_ = nI (92 + 6 * (8 + X.2.2.1.2.2.2.2.2) + 2) := hw
    subst hw
    refine lv_iload hx hb dX5_adds_45 (lv_at hl 5 rfl) ?_
    refine lv_if_eq (tgt := 54) hx hb dX5_adds_47 (by decide) (fun h => absurd h (by decide)) (fun _ => ?_)
    refine lv_iconst (v := nI 1) hx hb dX5_adds_50 (by decide) ?_
    refine lv_goto (tgt := 55) hx hb dX5_adds_51 (by decide) ?_
    refine va_iast hx hb hK hP hD hS 1 0 rfl rfl (vp_in_nI (n := 92 + 6 * (8 + X.2.2.1.2.2.2.2.2) + 2) (N := 188) (by omega) (by omega)) dX5_adds_55 (fun H locs hP hD hS => ?_)
    rw [nI_clamp (n := 92 + 6 * (8 + X.2.2.1.2.2.2.2.2) + 2) (by omega)] at hP hD
    have hP : va_P D vwCl (bkF [mW cy ra (upd (upd (upd (kEq X tL tF cp) (92 + 6 * (8 + X.2.2.1.2.2.2.2.2) + 0) a9) (92 + 6 * (8 + X.2.2.1.2.2.2.2.2) + 1) b9) (92 + 6 * (8 + X.2.2.1.2.2.2.2.2) + 2) (nI 1), T)]) H := hP
    have hD : va_D A (bkF [mW cy ra (upd (upd (upd (kEq X tL tF cp) (92 + 6 * (8 + X.2.2.1.2.2.2.2.2) + 0) a9) (92 + 6 * (8 + X.2.2.1.2.2.2.2.2) + 1) b9) (92 + 6 * (8 + X.2.2.1.2.2.2.2.2) + 2) (nI 1), T)]) := hD
    refine lv_aload_n hx hb dX5_adds_56 rfl (lv_at hl 1 rfl) ?_
    refine va_get (D := D) (ci := 5) (v := .ref (ra 1)) (C := RX5) (T := TX5) (N := 16) hx hb hts (by decide +kernel) hown hK hP 0 rfl rfl 0 (by decide) (hts (.fieldLink RX5 7 "DanceHallModel" "all" "[I") (by decide +kernel)) (fun _ h9 => h9) rfl dX5_adds_57 ?_
    refine lv_iload hx hb dX5_adds_60 (lv_at hl 0 rfl) ?_
    refine lv_iconst (v := nI 3) hx hb dX5_adds_62 (by decide) ?_
    refine kc_i (Cs := []) (Rs := [mW cy ra (upd (upd (upd (kEq X tL tF cp) (92 + 6 * (8 + X.2.2.1.2.2.2.2.2) + 0) a9) (92 + 6 * (8 + X.2.2.1.2.2.2.2.2) + 1) b9) (92 + 6 * (8 + X.2.2.1.2.2.2.2.2) + 2) (nI 1), T)]) (Bs := [mW cy ra (upd (upd (upd (kEq X tL tF cp) (92 + 6 * (8 + X.2.2.1.2.2.2.2.2) + 0) a9) (92 + 6 * (8 + X.2.2.1.2.2.2.2.2) + 1) b9) (92 + 6 * (8 + X.2.2.1.2.2.2.2.2) + 2) (nI 1), T)]) (Cs' := fun u_ : Unit => []) (Fs := fun u_ : Unit => [mW cy ra (upd (upd (upd (kEq X tL tF cp) (92 + 6 * (8 + X.2.2.1.2.2.2.2.2) + 0) a9) (92 + 6 * (8 + X.2.2.1.2.2.2.2.2) + 1) b9) (92 + 6 * (8 + X.2.2.1.2.2.2.2.2) + 2) (nI 1), T)]) hP hD hS hA [] [0] [0] rfl rfl (by decide) (by decide) (fun _ => rfl) (va_runS (As := [.int (nI (8 + X.2.2.1.2.2.2.2.2)), .int (nI 3)]) (rest := [.ref (ra 1)]) ⟨hx, hb, hml, hown, hts⟩ (c_X5_at l D cy (8 + X.2.2.1.2.2.2.2.2) 3 H.size) (va_cwS 2 hts gX5_adds_X5_at rfl rfl rfl (by decide +kernel) ⟨Nat.le_of_ble_eq_true rfl, Nat.le_of_ble_eq_true rfl⟩) (kPre_S hK hN hP hD [] (by decide) rfl) rfl rfl hl.1 rfl (lv_room (Nat.le_of_ble_eq_true rfl)) dX5_adds_63 ⟨Nat.le_of_ble_eq_true rfl, Nat.le_of_ble_eq_true rfl⟩) (fun r_ u_ H locs hw hP hD hS => ?_)
    have hw : r_ = nI (92 + 6 * (8 + X.2.2.1.2.2.2.2.2) + 3) := hw
    subst hw
    refine lv_iconst (v := nI 1) hx hb dX5_adds_66 (by decide) ?_
    refine va_iast hx hb hK hP hD hS 1 0 rfl rfl (vp_in_nI (n := 92 + 6 * (8 + X.2.2.1.2.2.2.2.2) + 3) (N := 188) (by omega) (by omega)) dX5_adds_67 (fun H locs hP hD hS => ?_)
    rw [nI_clamp (n := 92 + 6 * (8 + X.2.2.1.2.2.2.2.2) + 3) (by omega)] at hP hD
    have hP : va_P D vwCl (bkF [mW cy ra (upd (upd (upd (upd (kEq X tL tF cp) (92 + 6 * (8 + X.2.2.1.2.2.2.2.2) + 0) a9) (92 + 6 * (8 + X.2.2.1.2.2.2.2.2) + 1) b9) (92 + 6 * (8 + X.2.2.1.2.2.2.2.2) + 2) (nI 1)) (92 + 6 * (8 + X.2.2.1.2.2.2.2.2) + 3) (nI 1), T)]) H := hP
    have hD : va_D A (bkF [mW cy ra (upd (upd (upd (upd (kEq X tL tF cp) (92 + 6 * (8 + X.2.2.1.2.2.2.2.2) + 0) a9) (92 + 6 * (8 + X.2.2.1.2.2.2.2.2) + 1) b9) (92 + 6 * (8 + X.2.2.1.2.2.2.2.2) + 2) (nI 1)) (92 + 6 * (8 + X.2.2.1.2.2.2.2.2) + 3) (nI 1), T)]) := hD
    refine lv_aload_n hx hb dX5_adds_68 rfl (lv_at hl 1 rfl) ?_
    refine va_get (D := D) (ci := 5) (v := .ref (ra 1)) (C := RX5) (T := TX5) (N := 16) hx hb hts (by decide +kernel) hown hK hP 0 rfl rfl 0 (by decide) (hts (.fieldLink RX5 7 "DanceHallModel" "all" "[I") (by decide +kernel)) (fun _ h9 => h9) rfl dX5_adds_69 ?_
    refine lv_iload hx hb dX5_adds_72 (lv_at hl 0 rfl) ?_
    refine lv_iconst (v := nI 4) hx hb dX5_adds_74 (by decide) ?_
    refine kc_i (Cs := []) (Rs := [mW cy ra (upd (upd (upd (upd (kEq X tL tF cp) (92 + 6 * (8 + X.2.2.1.2.2.2.2.2) + 0) a9) (92 + 6 * (8 + X.2.2.1.2.2.2.2.2) + 1) b9) (92 + 6 * (8 + X.2.2.1.2.2.2.2.2) + 2) (nI 1)) (92 + 6 * (8 + X.2.2.1.2.2.2.2.2) + 3) (nI 1), T)]) (Bs := [mW cy ra (upd (upd (upd (upd (kEq X tL tF cp) (92 + 6 * (8 + X.2.2.1.2.2.2.2.2) + 0) a9) (92 + 6 * (8 + X.2.2.1.2.2.2.2.2) + 1) b9) (92 + 6 * (8 + X.2.2.1.2.2.2.2.2) + 2) (nI 1)) (92 + 6 * (8 + X.2.2.1.2.2.2.2.2) + 3) (nI 1), T)]) (Cs' := fun u_ : Unit => []) (Fs := fun u_ : Unit => [mW cy ra (upd (upd (upd (upd (kEq X tL tF cp) (92 + 6 * (8 + X.2.2.1.2.2.2.2.2) + 0) a9) (92 + 6 * (8 + X.2.2.1.2.2.2.2.2) + 1) b9) (92 + 6 * (8 + X.2.2.1.2.2.2.2.2) + 2) (nI 1)) (92 + 6 * (8 + X.2.2.1.2.2.2.2.2) + 3) (nI 1), T)]) hP hD hS hA [] [0] [0] rfl rfl (by decide) (by decide) (fun _ => rfl) (va_runS (As := [.int (nI (8 + X.2.2.1.2.2.2.2.2)), .int (nI 4)]) (rest := [.ref (ra 1)]) ⟨hx, hb, hml, hown, hts⟩ (c_X5_at l D cy (8 + X.2.2.1.2.2.2.2.2) 4 H.size) (va_cwS 2 hts gX5_adds_X5_at rfl rfl rfl (by decide +kernel) ⟨Nat.le_of_ble_eq_true rfl, Nat.le_of_ble_eq_true rfl⟩) (kPre_S hK hN hP hD [] (by decide) rfl) rfl rfl hl.1 rfl (lv_room (Nat.le_of_ble_eq_true rfl)) dX5_adds_75 ⟨Nat.le_of_ble_eq_true rfl, Nat.le_of_ble_eq_true rfl⟩) (fun r_ u_ H locs hw hP hD hS => ?_)
    have hw : r_ = nI (92 + 6 * (8 + X.2.2.1.2.2.2.2.2) + 4) := hw
    subst hw
    refine lv_iconst (v := nI 0) hx hb dX5_adds_78 (by decide) ?_
    refine va_iast hx hb hK hP hD hS 1 0 rfl rfl (vp_in_nI (n := 92 + 6 * (8 + X.2.2.1.2.2.2.2.2) + 4) (N := 188) (by omega) (by omega)) dX5_adds_79 (fun H locs hP hD hS => ?_)
    rw [nI_clamp (n := 92 + 6 * (8 + X.2.2.1.2.2.2.2.2) + 4) (by omega)] at hP hD
    have hP : va_P D vwCl (bkF [mW cy ra (upd (upd (upd (upd (upd (kEq X tL tF cp) (92 + 6 * (8 + X.2.2.1.2.2.2.2.2) + 0) a9) (92 + 6 * (8 + X.2.2.1.2.2.2.2.2) + 1) b9) (92 + 6 * (8 + X.2.2.1.2.2.2.2.2) + 2) (nI 1)) (92 + 6 * (8 + X.2.2.1.2.2.2.2.2) + 3) (nI 1)) (92 + 6 * (8 + X.2.2.1.2.2.2.2.2) + 4) (nI 0), T)]) H := hP
    have hD : va_D A (bkF [mW cy ra (upd (upd (upd (upd (upd (kEq X tL tF cp) (92 + 6 * (8 + X.2.2.1.2.2.2.2.2) + 0) a9) (92 + 6 * (8 + X.2.2.1.2.2.2.2.2) + 1) b9) (92 + 6 * (8 + X.2.2.1.2.2.2.2.2) + 2) (nI 1)) (92 + 6 * (8 + X.2.2.1.2.2.2.2.2) + 3) (nI 1)) (92 + 6 * (8 + X.2.2.1.2.2.2.2.2) + 4) (nI 0), T)]) := hD
    refine lv_aload_n hx hb dX5_adds_80 rfl (lv_at hl 1 rfl) ?_
    refine va_get (D := D) (ci := 5) (v := .ref (ra 1)) (C := RX5) (T := TX5) (N := 16) hx hb hts (by decide +kernel) hown hK hP 0 rfl rfl 0 (by decide) (hts (.fieldLink RX5 7 "DanceHallModel" "all" "[I") (by decide +kernel)) (fun _ h9 => h9) rfl dX5_adds_81 ?_
    refine lv_iload hx hb dX5_adds_84 (lv_at hl 0 rfl) ?_
    refine lv_iconst (v := nI 5) hx hb dX5_adds_86 (by decide) ?_
    refine kc_i (Cs := []) (Rs := [mW cy ra (upd (upd (upd (upd (upd (kEq X tL tF cp) (92 + 6 * (8 + X.2.2.1.2.2.2.2.2) + 0) a9) (92 + 6 * (8 + X.2.2.1.2.2.2.2.2) + 1) b9) (92 + 6 * (8 + X.2.2.1.2.2.2.2.2) + 2) (nI 1)) (92 + 6 * (8 + X.2.2.1.2.2.2.2.2) + 3) (nI 1)) (92 + 6 * (8 + X.2.2.1.2.2.2.2.2) + 4) (nI 0), T)]) (Bs := [mW cy ra (upd (upd (upd (upd (upd (kEq X tL tF cp) (92 + 6 * (8 + X.2.2.1.2.2.2.2.2) + 0) a9) (92 + 6 * (8 + X.2.2.1.2.2.2.2.2) + 1) b9) (92 + 6 * (8 + X.2.2.1.2.2.2.2.2) + 2) (nI 1)) (92 + 6 * (8 + X.2.2.1.2.2.2.2.2) + 3) (nI 1)) (92 + 6 * (8 + X.2.2.1.2.2.2.2.2) + 4) (nI 0), T)]) (Cs' := fun u_ : Unit => []) (Fs := fun u_ : Unit => [mW cy ra (upd (upd (upd (upd (upd (kEq X tL tF cp) (92 + 6 * (8 + X.2.2.1.2.2.2.2.2) + 0) a9) (92 + 6 * (8 + X.2.2.1.2.2.2.2.2) + 1) b9) (92 + 6 * (8 + X.2.2.1.2.2.2.2.2) + 2) (nI 1)) (92 + 6 * (8 + X.2.2.1.2.2.2.2.2) + 3) (nI 1)) (92 + 6 * (8 + X.2.2.1.2.2.2.2.2) + 4) (nI 0), T)]) hP hD hS hA [] [0] [0] rfl rfl (by decide) (by decide) (fun _ => rfl) (va_runS (As := [.int (nI (8 + X.2.2.1.2.2.2.2.2)), .int (nI 5)]) (rest := [.ref (ra 1)]) ⟨hx, hb, hml, hown, hts⟩ (c_X5_at l D cy (8 + X.2.2.1.2.2.2.2.2) 5 H.size) (va_cwS 2 hts gX5_adds_X5_at rfl rfl rfl (by decide +kernel) ⟨Nat.le_of_ble_eq_true rfl, Nat.le_of_ble_eq_true rfl⟩) (kPre_S hK hN hP hD [] (by decide) rfl) rfl rfl hl.1 rfl (lv_room (Nat.le_of_ble_eq_true rfl)) dX5_adds_87 ⟨Nat.le_of_ble_eq_true rfl, Nat.le_of_ble_eq_true rfl⟩) (fun r_ u_ H locs hw hP hD hS => ?_)
    have hw : r_ = nI (92 + 6 * (8 + X.2.2.1.2.2.2.2.2) + 5) := hw
    subst hw
    refine lv_iconst (v := nI 0) hx hb dX5_adds_90 (by decide) ?_
    refine va_iast hx hb hK hP hD hS 1 0 rfl rfl (vp_in_nI (n := 92 + 6 * (8 + X.2.2.1.2.2.2.2.2) + 5) (N := 188) (by omega) (by omega)) dX5_adds_91 (fun H locs hP hD hS => ?_)
    rw [nI_clamp (n := 92 + 6 * (8 + X.2.2.1.2.2.2.2.2) + 5) (by omega)] at hP hD
    have hP : va_P D vwCl (bkF [mW cy ra (upd (upd (upd (upd (upd (upd (kEq X tL tF cp) (92 + 6 * (8 + X.2.2.1.2.2.2.2.2) + 0) a9) (92 + 6 * (8 + X.2.2.1.2.2.2.2.2) + 1) b9) (92 + 6 * (8 + X.2.2.1.2.2.2.2.2) + 2) (nI 1)) (92 + 6 * (8 + X.2.2.1.2.2.2.2.2) + 3) (nI 1)) (92 + 6 * (8 + X.2.2.1.2.2.2.2.2) + 4) (nI 0)) (92 + 6 * (8 + X.2.2.1.2.2.2.2.2) + 5) (nI 0), T)]) H := hP
    have hD : va_D A (bkF [mW cy ra (upd (upd (upd (upd (upd (upd (kEq X tL tF cp) (92 + 6 * (8 + X.2.2.1.2.2.2.2.2) + 0) a9) (92 + 6 * (8 + X.2.2.1.2.2.2.2.2) + 1) b9) (92 + 6 * (8 + X.2.2.1.2.2.2.2.2) + 2) (nI 1)) (92 + 6 * (8 + X.2.2.1.2.2.2.2.2) + 3) (nI 1)) (92 + 6 * (8 + X.2.2.1.2.2.2.2.2) + 4) (nI 0)) (92 + 6 * (8 + X.2.2.1.2.2.2.2.2) + 5) (nI 0), T)]) := hD
    refine lv_aload_n hx hb dX5_adds_92 rfl (lv_at hl 1 rfl) ?_
    refine va_get (D := D) (ci := 5) (v := .ref (ra 1)) (C := RX5) (T := TX5) (N := 16) hx hb hts (by decide +kernel) hown hK hP 0 rfl rfl 0 (by decide) (hts (.fieldLink RX5 7 "DanceHallModel" "all" "[I") (by decide +kernel)) (fun _ h9 => h9) rfl dX5_adds_93 ?_
    refine lv_iload_n hx hb dX5_adds_96 rfl (lv_at hl 2 rfl) ?_
    refine lv_if_eq (tgt := 104) hx hb dX5_adds_97 (by decide) (fun c_97 => ?_) (fun c_97 => False.elim ?_)
    · skip
      refine lv_iconst (v := nI 1) hx hb dX5_adds_104 (by decide) ?_
      refine lv_dup2_11 hx hb dX5_adds_105 rfl rfl ?_
      refine va_iald hx hb hK hP 1 0 rfl rfl (vp_in_nI (n := 1) (N := 188) (by omega) (by omega)) dX5_adds_106 ?_
      refine kv_i (y := nI X.2.2.1.2.2.2.2.2) (show ((upd (upd (upd (upd (upd (upd (kEq X tL tF cp) (92 + 6 * (8 + X.2.2.1.2.2.2.2.2) + 0) a9) (92 + 6 * (8 + X.2.2.1.2.2.2.2.2) + 1) b9) (92 + 6 * (8 + X.2.2.1.2.2.2.2.2) + 2) (nI 1)) (92 + 6 * (8 + X.2.2.1.2.2.2.2.2) + 3) (nI 1)) (92 + 6 * (8 + X.2.2.1.2.2.2.2.2) + 4) (nI 0)) (92 + 6 * (8 + X.2.2.1.2.2.2.2.2) + 5) (nI 0))) (nI 1).toNatClampNeg = nI X.2.2.1.2.2.2.2.2 from (by show upd _ _ _ 1 = _; rw [pk_un (by omega), pk_un (by omega), pk_un (by omega), pk_un (by omega), pk_un (by omega), pk_un (by omega)]; rfl)) ?_
      refine lv_iconst (v := nI 1) hx hb dX5_adds_107 (by decide) ?_
      refine lv_iadd hx hb dX5_adds_108 ?_
      refine kv_i (y := nI (X.2.2.1.2.2.2.2.2 + 1)) (nI_add X.2.2.1.2.2.2.2.2 1) ?_
      refine va_iast hx hb hK hP hD hS 1 0 rfl rfl (vp_in_nI (n := 1) (N := 188) (by omega) (by omega)) dX5_adds_109 (fun H locs hP hD hS => ?_)
      have hP : va_P D vwCl (bkF [mW cy ra (upd (upd (upd (upd (upd (upd (upd (kEq X tL tF cp) (92 + 6 * (8 + X.2.2.1.2.2.2.2.2) + 0) a9) (92 + 6 * (8 + X.2.2.1.2.2.2.2.2) + 1) b9) (92 + 6 * (8 + X.2.2.1.2.2.2.2.2) + 2) (nI 1)) (92 + 6 * (8 + X.2.2.1.2.2.2.2.2) + 3) (nI 1)) (92 + 6 * (8 + X.2.2.1.2.2.2.2.2) + 4) (nI 0)) (92 + 6 * (8 + X.2.2.1.2.2.2.2.2) + 5) (nI 0)) 1 (nI (X.2.2.1.2.2.2.2.2 + 1)), T)]) H := hP
      have hD : va_D A (bkF [mW cy ra (upd (upd (upd (upd (upd (upd (upd (kEq X tL tF cp) (92 + 6 * (8 + X.2.2.1.2.2.2.2.2) + 0) a9) (92 + 6 * (8 + X.2.2.1.2.2.2.2.2) + 1) b9) (92 + 6 * (8 + X.2.2.1.2.2.2.2.2) + 2) (nI 1)) (92 + 6 * (8 + X.2.2.1.2.2.2.2.2) + 3) (nI 1)) (92 + 6 * (8 + X.2.2.1.2.2.2.2.2) + 4) (nI 0)) (92 + 6 * (8 + X.2.2.1.2.2.2.2.2) + 5) (nI 0)) 1 (nI (X.2.2.1.2.2.2.2.2 + 1)), T)]) := hD
      have hP := kP_cell (g := (kEq (X.1, X.2.1, kAd X.2.2.1 a9 b9 c9, X.2.2.2) tL tF cp)) hP 1 rfl (fun j hj => by rw [h9]; exact kqu_adF rfl hn8 ht j hj)
      have hD := hD.set (p := 1) (e := .inl (cy 0, 188, .inl (kEq (X.1, X.2.1, kAd X.2.2.1 a9 b9 c9, X.2.2.2) tL tF cp))) rfl
      have hP : va_P D vwCl (bkF [mW cy ra (kEq (X.1, X.2.1, kAd X.2.2.1 a9 b9 c9, X.2.2.2) tL tF cp, T)]) H := hP
      have hD : va_D A (bkF [mW cy ra (kEq (X.1, X.2.1, kAd X.2.2.1 a9 b9 c9, X.2.2.2) tL tF cp, T)]) := hD
      exact kr_v (post := fun u_ : Unit => True) (Bs := fun u_ : Unit => [mW cy ra (kEq (X.1, X.2.1, kAd X.2.2.1 a9 b9 c9, X.2.2.2) tL tF cp, T)]) hx hb hr hlocks () hP hK hD hS trivial dX5_adds_110 hQ
    · skip
      exact c_97 hx0
abbrev rm_X5_addGuest_f : Room := { frames := 2, cells := 0, slots := 0, locals := 46 }
set_option maxHeartbeats 1000000 in
set_option maxRecDepth 100000 in
/-- addGuest -/
theorem c_X5_addGuest_f (l : Launch) (D : va_G) (cy : Nat → ClassId) (ra : Nat → Nat) (X : rS) (T : rV) (x : Int32) (tk : Nat) (z : Nat) (sh : Int32) (hx0 : x = 0) (htk : tk ≤ 99) (hz1 : 1 ≤ z) (hz : z ≤ 9) (hsh : sh = nI 0 ∨ sh = nI 1) (hn8 : X.2.2.1.2.2.2.2.2 < 8) (htn : kTF X.2.2.2.2 (X.2.2.1.2.2.2.2.2) = 0) (hsm : T.2.2.1 ≤ 4) (sz : Nat) : Met l yX5_addGuest wsX5_addGuest rm_X5_addGuest_f (va_Pc [.ref (ra 0), .int x, .int (nI tk), .int (nI z), .int sh] (kPre D (kT cy) [mW cy ra (kEn X, T)] sz)) (va_Qi (fun r_ (u_ : Unit) => r_ = nI X.2.2.1.2.2.2.2.2) (kFr D (kT cy) [mW cy ra (kEn X, T)] sz (fun u_ : Unit => [mW cy ra (kEn (X.1, X.2.1, kAd X.2.2.1 (nI tk) (nI z) sh, X.2.2.2), (kRsv (kEn X) T.1 T.2.2.1, T.2.1, kSc T.2.2.1, nI 0, T.2.2.2.2))])) (va_A (bkF [mW cy ra (kEn X, T)]) sz)) 0 0 (va_A (bkF [mW cy ra (kEn X, T)]) sz) := by
  refine kOpen (y := yX5_addGuest) (ws := wsX5_addGuest) (cc := cX5_addGuest) (maxL := 5) (ret := (some .int)) (av := [.ref (ra 0), .int x, .int (nI tk), .int (nI z), .int sh]) (Bs := [mW cy ra (kEn X, T)]) (Qc := fun A => (va_Qi (fun r_ (u_ : Unit) => r_ = nI X.2.2.1.2.2.2.2.2) (fun (u_ : Unit) t9 => kEnd D (kT cy) A [mW cy ra (kEn (X.1, X.2.1, kAd X.2.2.1 (nI tk) (nI z) sh, X.2.2.2), (kRsv (kEn X) T.1 T.2.2.1, T.2.1, kSc T.2.2.1, nI 0, T.2.2.2.2))] t9) A)) (by decide) rfl (Nat.le_of_ble_eq_true rfl) ?_
  intro p e s m args below meth c A Q ls hQ hx hb hml hr hlocks hin hts hown hN hK hP hD hS hA hsz hAe hl
  clear hAe
  have hl : lv_has ls 5 [(0, .ref (ra 0)), (1, .int x), (2, .int (nI tk)), (3, .int (nI z)), (4, .int sh)] := hl
  suffices K9 : ∀ (H : Heap) (locs : List Loc), va_P D vwCl (bkF [mW cy ra (kEn X, T)]) H → va_S A s.heap H locs → W p l e (headSpec wsX5_addGuest rm_X5_addGuest_f).room s m args below meth c H locs 0 0 Q (F0 m 0 ls []) from K9 _ _ hP hS
  clear hP hS
  intro H locs hP hS
  refine lv_iload_n hx hb dX5_addGuest_0 rfl (lv_at hl 2 rfl) ?_
  refine lv_i2l (v := (nI tk).toInt64) hx hb dX5_addGuest_1 rfl ?_
  refine lv_lconst (v := 0) hx hb dX5_addGuest_2 (by decide) ?_
  refine lv_ldc2 hx hb hown (hts (.constantLong RX5 67 (99)) (by decide +kernel)) dX5_addGuest_3 ?_
  refine kc_i (Cs := []) (Rs := [mW cy ra (kEn X, T)]) (Bs := [mW cy ra (kEn X, T)]) (Cs' := fun u_ : Unit => []) (Fs := fun u_ : Unit => [mW cy ra (kEn X, T)]) hP hD hS hA [] [0] [0] rfl rfl (by decide) (by decide) (fun _ => rfl) (va_runS (As := [.long ((nI tk).toInt64), .long 0, .long (99)]) (rest := []) ⟨hx, hb, hml, hown, hts⟩ (c_X5_in l D cy ((nI tk).toInt64) 0 (99) H.size) (va_cwS 3 hts gX5_addGuest_X5_in rfl rfl rfl (by decide +kernel) ⟨Nat.le_of_ble_eq_true rfl, Nat.le_of_ble_eq_true rfl⟩) (kPre_S hK hN hP hD [] (by decide) rfl) rfl rfl hl.1 rfl (lv_room (Nat.le_of_ble_eq_true rfl)) dX5_addGuest_6 ⟨Nat.le_of_ble_eq_true rfl, Nat.le_of_ble_eq_true rfl⟩) (fun r_ u_ H locs hw hP hD hS => ?_)
  have hw : r_ = if kIn ((nI tk).toInt64) 0 (99) then nI 1 else nI 0 := hw
  subst hw
  refine kv_i (y := nI 1) (if_pos ((kIn32 (y := nI 0) (z := nI 99) (by decide) (by decide)).mpr (kwin (by omega) (by omega) (by decide)))) ?_
  refine lv_if_eq (tgt := 24) hx hb dX5_addGuest_9 (by decide) (fun h => absurd h (by decide)) (fun _ => ?_)
  refine lv_iload_n hx hb dX5_addGuest_12 rfl (lv_at hl 3 rfl) ?_
  refine lv_i2l (v := (nI z).toInt64) hx hb dX5_addGuest_13 rfl ?_
  refine lv_lconst (v := 1) hx hb dX5_addGuest_14 (by decide) ?_
  refine lv_ldc2 hx hb hown (hts (.constantLong RX5 69 (9)) (by decide +kernel)) dX5_addGuest_15 ?_
  refine kc_i (Cs := []) (Rs := [mW cy ra (kEn X, T)]) (Bs := [mW cy ra (kEn X, T)]) (Cs' := fun u_ : Unit => []) (Fs := fun u_ : Unit => [mW cy ra (kEn X, T)]) hP hD hS hA [] [0] [0] rfl rfl (by decide) (by decide) (fun _ => rfl) (va_runS (As := [.long ((nI z).toInt64), .long 1, .long (9)]) (rest := []) ⟨hx, hb, hml, hown, hts⟩ (c_X5_in l D cy ((nI z).toInt64) 1 (9) H.size) (va_cwS 3 hts gX5_addGuest_X5_in rfl rfl rfl (by decide +kernel) ⟨Nat.le_of_ble_eq_true rfl, Nat.le_of_ble_eq_true rfl⟩) (kPre_S hK hN hP hD [] (by decide) rfl) rfl rfl hl.1 rfl (lv_room (Nat.le_of_ble_eq_true rfl)) dX5_addGuest_18 ⟨Nat.le_of_ble_eq_true rfl, Nat.le_of_ble_eq_true rfl⟩) (fun r_ u_ H locs hw hP hD hS => ?_)
  have hw : r_ = if kIn ((nI z).toInt64) 1 (9) then nI 1 else nI 0 := hw
  subst hw
  refine kv_i (y := nI 1) (if_pos ((kIn32 (y := nI 1) (z := nI 9) (by decide) (by decide)).mpr (kwin (by omega) (by omega) (by decide)))) ?_
  refine lv_if_ne (tgt := 30) hx hb dX5_addGuest_21 (by decide) (fun _ => ?_) (fun h => absurd h (by decide))
  refine lv_aload_n hx hb dX5_addGuest_30 rfl (lv_at hl 0 rfl) ?_
  refine lv_iload_n hx hb dX5_addGuest_31 rfl (lv_at hl 1 rfl) ?_
  refine kc_i (Cs := [mW cy ra (kEn X, T)]) (Rs := []) (Bs := [mW cy ra (kEn X, T)]) (Cs' := fun u_ : Unit => [mW cy ra (kEn X, T)]) (Fs := fun u_ : Unit => [mW cy ra (kEn X, T)]) hP hD hS hA [0] [] [0] rfl rfl (by decide) (by decide) (fun _ => rfl) (va_runV (As := [.int x]) (rest := []) ⟨hx, hb, hml, hown, hts⟩ (c_X5_many_f l D cy ra (kEn X) T x hx0 H.size) (cwV 1 hts gX5_addGuest_X5_many rfl rfl rfl (by decide +kernel) ⟨Nat.le_of_ble_eq_true rfl, Nat.le_of_ble_eq_true rfl⟩) (kPre_V (ci := 5) hK hN hP hD [0] (by decide) rfl 0 rfl rfl) rfl rfl hl.1 rfl (lv_room (Nat.le_of_ble_eq_true rfl)) dX5_addGuest_32 ⟨Nat.le_of_ble_eq_true rfl, Nat.le_of_ble_eq_true rfl⟩) (fun r_ u_ H locs hw hP hD hS => ?_)
  have hw : r_ = (kEn X) 1 := hw
  subst hw
  refine kv_i (y := nI X.2.2.1.2.2.2.2.2) rfl ?_
  refine lv_bipush (v := nI 8) hx hb dX5_addGuest_35 (by decide) ?_
  refine lv_icmp_ne (tgt := 46) hx hb dX5_addGuest_37 (by decide) (fun c_37 => ?_) (fun c_37 => False.elim ?_)
  · skip
    have c_37 : ¬ (X.2.2.1.2.2.2.2.2 = 8) := fun h => c_37 ((nI_eq (a := X.2.2.1.2.2.2.2.2) (b := 8) (by omega) (by omega)).mpr h)
    refine lv_aload_n hx hb dX5_addGuest_46 rfl (lv_at hl 0 rfl) ?_
    refine kc_v (Cs := [mW cy ra (kEn X, T)]) (Rs := []) (Bs := [mW cy ra (kEn X, T)]) (Cs' := fun u_ : Unit => [mW cy ra (kEn X, (kRsv (kEn X) T.1 T.2.2.1, T.2.1, kSc T.2.2.1, T.2.2.2))]) (Fs := fun u_ : Unit => [mW cy ra (kEn X, (kRsv (kEn X) T.1 T.2.2.1, T.2.1, kSc T.2.2.1, T.2.2.2))]) hP hD hS hA [0] [] [0] rfl rfl (by decide) (by decide) (fun _ => rfl) (va_runV (As := []) (rest := []) ⟨hx, hb, hml, hown, hts⟩ (c_X5_save l D cy ra X T (by first | assumption | omega | decide) H.size) (cwV 0 hts gX5_addGuest_X5_save rfl rfl rfl (by decide +kernel) ⟨Nat.le_of_ble_eq_true rfl, Nat.le_of_ble_eq_true rfl⟩) (kPre_V (ci := 5) hK hN hP hD [0] (by decide) rfl 0 rfl rfl) rfl rfl hl.1 rfl (lv_room (Nat.le_of_ble_eq_true rfl)) dX5_addGuest_47 ⟨Nat.le_of_ble_eq_true rfl, Nat.le_of_ble_eq_true rfl⟩) (fun u_ H locs hw hP hD hS => ?_)
    refine lv_aload_n hx hb dX5_addGuest_50 rfl (lv_at hl 0 rfl) ?_
    refine lv_iload_n hx hb dX5_addGuest_51 rfl (lv_at hl 1 rfl) ?_
    refine lv_iload_n hx hb dX5_addGuest_52 rfl (lv_at hl 2 rfl) ?_
    refine lv_iload_n hx hb dX5_addGuest_53 rfl (lv_at hl 3 rfl) ?_
    refine lv_iload hx hb dX5_addGuest_54 (lv_at hl 4 rfl) ?_
    have hP : va_P D vwCl (bkF [mW cy ra (kEq X (kTL X.2.2.2.2) (kTF X.2.2.2.2) (kCp X.2.2.2.2), (kRsv (kEn X) T.1 T.2.2.1, T.2.1, kSc T.2.2.1, T.2.2.2))]) H := hP
    have hD : va_D A (bkF [mW cy ra (kEq X (kTL X.2.2.2.2) (kTF X.2.2.2.2) (kCp X.2.2.2.2), (kRsv (kEn X) T.1 T.2.2.1, T.2.1, kSc T.2.2.1, T.2.2.2))]) := hD
    refine kc_v (Cs := [mW cy ra (kEq X (kTL X.2.2.2.2) (kTF X.2.2.2.2) (kCp X.2.2.2.2), (kRsv (kEn X) T.1 T.2.2.1, T.2.1, kSc T.2.2.1, T.2.2.2))]) (Rs := []) (Bs := [mW cy ra (kEq X (kTL X.2.2.2.2) (kTF X.2.2.2.2) (kCp X.2.2.2.2), (kRsv (kEn X) T.1 T.2.2.1, T.2.1, kSc T.2.2.1, T.2.2.2))]) (Cs' := fun u_ : Unit => [mW cy ra (kEq (X.1, X.2.1, kAd X.2.2.1 (nI tk) (nI z) sh, X.2.2.2) (kTL X.2.2.2.2) (kTF X.2.2.2.2) (kCp X.2.2.2.2), ((kRsv (kEn X) T.1 T.2.2.1), T.2.1, (kSc T.2.2.1), T.2.2.2))]) (Fs := fun u_ : Unit => [mW cy ra (kEq (X.1, X.2.1, kAd X.2.2.1 (nI tk) (nI z) sh, X.2.2.2) (kTL X.2.2.2.2) (kTF X.2.2.2.2) (kCp X.2.2.2.2), ((kRsv (kEn X) T.1 T.2.2.1), T.2.1, (kSc T.2.2.1), T.2.2.2))]) hP hD hS hA [0] [] [0] rfl rfl (by decide) (by decide) (fun _ => rfl) (va_runV (As := [.int x, .int (nI tk), .int (nI z), .int sh]) (rest := []) ⟨hx, hb, hml, hown, hts⟩ (c_X5_adds_f l D cy ra X (kTL X.2.2.2.2) (kTF X.2.2.2.2) (kCp X.2.2.2.2) (kRsv (kEn X) T.1 T.2.2.1, T.2.1, kSc T.2.2.1, T.2.2.2) x (nI tk) (nI z) sh hx0 (by first | assumption | omega | decide) htn hsh H.size) (cwV 4 hts gX5_addGuest_X5_adds rfl rfl rfl (by decide +kernel) ⟨Nat.le_of_ble_eq_true rfl, Nat.le_of_ble_eq_true rfl⟩) (kPre_V (ci := 5) hK hN hP hD [0] (by decide) rfl 0 rfl rfl) rfl rfl hl.1 rfl (lv_room (Nat.le_of_ble_eq_true rfl)) dX5_addGuest_56 ⟨Nat.le_of_ble_eq_true rfl, Nat.le_of_ble_eq_true rfl⟩) (fun u_ H locs hw hP hD hS => ?_)
    have hP : va_P D vwCl (bkF [mW cy ra (kEn (X.1, X.2.1, kAd X.2.2.1 (nI tk) (nI z) sh, X.2.2.2), ((kRsv (kEn X) T.1 T.2.2.1), T.2.1, (kSc T.2.2.1), T.2.2.2))]) H := hP
    have hD : va_D A (bkF [mW cy ra (kEn (X.1, X.2.1, kAd X.2.2.1 (nI tk) (nI z) sh, X.2.2.2), ((kRsv (kEn X) T.1 T.2.2.1), T.2.1, (kSc T.2.2.1), T.2.2.2))]) := hD
    refine lv_aload_n hx hb dX5_addGuest_59 rfl (lv_at hl 0 rfl) ?_
    refine lv_aload_n hx hb dX5_addGuest_60 rfl (lv_at hl 0 rfl) ?_
    refine lv_iload_n hx hb dX5_addGuest_61 rfl (lv_at hl 1 rfl) ?_
    refine kc_i (Cs := [mW cy ra (kEn (X.1, X.2.1, kAd X.2.2.1 (nI tk) (nI z) sh, X.2.2.2), ((kRsv (kEn X) T.1 T.2.2.1), T.2.1, (kSc T.2.2.1), T.2.2.2))]) (Rs := []) (Bs := [mW cy ra (kEn (X.1, X.2.1, kAd X.2.2.1 (nI tk) (nI z) sh, X.2.2.2), ((kRsv (kEn X) T.1 T.2.2.1), T.2.1, (kSc T.2.2.1), T.2.2.2))]) (Cs' := fun u_ : Unit => [mW cy ra (kEn (X.1, X.2.1, kAd X.2.2.1 (nI tk) (nI z) sh, X.2.2.2), ((kRsv (kEn X) T.1 T.2.2.1), T.2.1, (kSc T.2.2.1), T.2.2.2))]) (Fs := fun u_ : Unit => [mW cy ra (kEn (X.1, X.2.1, kAd X.2.2.1 (nI tk) (nI z) sh, X.2.2.2), ((kRsv (kEn X) T.1 T.2.2.1), T.2.1, (kSc T.2.2.1), T.2.2.2))]) hP hD hS hA [0] [] [0] rfl rfl (by decide) (by decide) (fun _ => rfl) (va_runV (As := [.int x]) (rest := [.ref (ra 0)]) ⟨hx, hb, hml, hown, hts⟩ (c_X5_many_f l D cy ra (kEn (X.1, X.2.1, kAd X.2.2.1 (nI tk) (nI z) sh, X.2.2.2)) ((kRsv (kEn X) T.1 T.2.2.1), T.2.1, (kSc T.2.2.1), T.2.2.2) x hx0 H.size) (cwV 1 hts gX5_addGuest_X5_many rfl rfl rfl (by decide +kernel) ⟨Nat.le_of_ble_eq_true rfl, Nat.le_of_ble_eq_true rfl⟩) (kPre_V (ci := 5) hK hN hP hD [0] (by decide) rfl 0 rfl rfl) rfl rfl hl.1 rfl (lv_room (Nat.le_of_ble_eq_true rfl)) dX5_addGuest_62 ⟨Nat.le_of_ble_eq_true rfl, Nat.le_of_ble_eq_true rfl⟩) (fun r_ u_ H locs hw hP hD hS => ?_)
    have hw : r_ = (kEn (X.1, X.2.1, kAd X.2.2.1 (nI tk) (nI z) sh, X.2.2.2)) 1 := hw
    subst hw
    refine kv_i (y := nI (X.2.2.1.2.2.2.2.2 + 1)) rfl ?_
    refine lv_iconst (v := nI 1) hx hb dX5_addGuest_65 (by decide) ?_
    refine lv_isub hx hb dX5_addGuest_66 ?_
    refine kv_i (y := nI X.2.2.1.2.2.2.2.2) (by rw [pk_sub (by omega)]; rfl) ?_
    refine kc_i (Cs := [mW cy ra (kEn (X.1, X.2.1, kAd X.2.2.1 (nI tk) (nI z) sh, X.2.2.2), ((kRsv (kEn X) T.1 T.2.2.1), T.2.1, (kSc T.2.2.1), T.2.2.2))]) (Rs := []) (Bs := [mW cy ra (kEn (X.1, X.2.1, kAd X.2.2.1 (nI tk) (nI z) sh, X.2.2.2), ((kRsv (kEn X) T.1 T.2.2.1), T.2.1, (kSc T.2.2.1), T.2.2.2))]) (Cs' := fun u_ : Unit => [mW cy ra ((kEn (X.1, X.2.1, kAd X.2.2.1 (nI tk) (nI z) sh, X.2.2.2)), ((kRsv (kEn X) T.1 T.2.2.1), T.2.1, (kSc T.2.2.1), nI 0, T.2.2.2.2))]) (Fs := fun u_ : Unit => [mW cy ra ((kEn (X.1, X.2.1, kAd X.2.2.1 (nI tk) (nI z) sh, X.2.2.2)), ((kRsv (kEn X) T.1 T.2.2.1), T.2.1, (kSc T.2.2.1), nI 0, T.2.2.2.2))]) hP hD hS hA [0] [] [0] rfl rfl (by decide) (by decide) (fun _ => rfl) (va_runV (As := [.int (nI X.2.2.1.2.2.2.2.2)]) (rest := []) ⟨hx, hb, hml, hown, hts⟩ (c_X5_fine l D cy ra (kEn (X.1, X.2.1, kAd X.2.2.1 (nI tk) (nI z) sh, X.2.2.2)) ((kRsv (kEn X) T.1 T.2.2.1), T.2.1, (kSc T.2.2.1), T.2.2.2) (nI X.2.2.1.2.2.2.2.2) H.size) (cwV 1 hts gX5_addGuest_X5_fine rfl rfl rfl (by decide +kernel) ⟨Nat.le_of_ble_eq_true rfl, Nat.le_of_ble_eq_true rfl⟩) (kPre_V (ci := 5) hK hN hP hD [0] (by decide) rfl 0 rfl rfl) rfl rfl hl.1 rfl (lv_room (Nat.le_of_ble_eq_true rfl)) dX5_addGuest_67 ⟨Nat.le_of_ble_eq_true rfl, Nat.le_of_ble_eq_true rfl⟩) (fun r_ u_ H locs hw hP hD hS => ?_)
    have hw : r_ = (nI X.2.2.1.2.2.2.2.2) := hw
    subst hw
    exact kr_i (post := fun r_ (u_ : Unit) => r_ = nI X.2.2.1.2.2.2.2.2) (Bs := fun u_ : Unit => [mW cy ra (kEn (X.1, X.2.1, kAd X.2.2.1 (nI tk) (nI z) sh, X.2.2.2), (kRsv (kEn X) T.1 T.2.2.1, T.2.1, kSc T.2.2.1, nI 0, T.2.2.2.2))]) hx hb hr hlocks rfl () hP hK hD hS rfl dX5_addGuest_70 hQ
  · skip
    have c_37 : X.2.2.1.2.2.2.2.2 = 8 := (nI_eq (a := X.2.2.1.2.2.2.2.2) (b := 8) (by omega) (by omega)).mp c_37
    omega
abbrev rm_X5_addGuest_sf : Room := { frames := 1, cells := 0, slots := 0, locals := 25 }
set_option maxHeartbeats 1000000 in
set_option maxRecDepth 100000 in
/-- addGuest, no place -/
theorem c_X5_addGuest_sf (l : Launch) (D : va_G) (cy : Nat → ClassId) (ra : Nat → Nat) (X : rS) (T : rV) (x : Int32) (tk : Nat) (z : Nat) (sh : Int32) (hx0 : x = 0) (htk : tk ≤ 99) (hz1 : 1 ≤ z) (hz : z ≤ 9) (hn8 : X.2.2.1.2.2.2.2.2 = 8) (sz : Nat) : Met l yX5_addGuest wsX5_addGuest rm_X5_addGuest_sf (va_Pc [.ref (ra 0), .int x, .int (nI tk), .int (nI z), .int sh] (kPre D (kT cy) [mW cy ra (kEn X, T)] sz)) (va_Qi (fun r_ (u_ : Unit) => r_ = nI 0) (kFr D (kT cy) [mW cy ra (kEn X, T)] sz (fun u_ : Unit => [mW cy ra (kEn X, (T.1, T.2.1, T.2.2.1, nI 2, T.2.2.2.2))])) (va_A (bkF [mW cy ra (kEn X, T)]) sz)) 0 0 (va_A (bkF [mW cy ra (kEn X, T)]) sz) := by
  refine kOpen (y := yX5_addGuest) (ws := wsX5_addGuest) (cc := cX5_addGuest) (maxL := 5) (ret := (some .int)) (av := [.ref (ra 0), .int x, .int (nI tk), .int (nI z), .int sh]) (Bs := [mW cy ra (kEn X, T)]) (Qc := fun A => (va_Qi (fun r_ (u_ : Unit) => r_ = nI 0) (fun (u_ : Unit) t9 => kEnd D (kT cy) A [mW cy ra (kEn X, (T.1, T.2.1, T.2.2.1, nI 2, T.2.2.2.2))] t9) A)) (by decide) rfl (Nat.le_of_ble_eq_true rfl) ?_
  intro p e s m args below meth c A Q ls hQ hx hb hml hr hlocks hin hts hown hN hK hP hD hS hA hsz hAe hl
  clear hAe
  have hl : lv_has ls 5 [(0, .ref (ra 0)), (1, .int x), (2, .int (nI tk)), (3, .int (nI z)), (4, .int sh)] := hl
  suffices K9 : ∀ (H : Heap) (locs : List Loc), va_P D vwCl (bkF [mW cy ra (kEn X, T)]) H → va_S A s.heap H locs → W p l e (headSpec wsX5_addGuest rm_X5_addGuest_sf).room s m args below meth c H locs 0 0 Q (F0 m 0 ls []) from K9 _ _ hP hS
  clear hP hS
  intro H locs hP hS
  refine lv_iload_n hx hb dX5_addGuest_0 rfl (lv_at hl 2 rfl) ?_
  refine lv_i2l (v := (nI tk).toInt64) hx hb dX5_addGuest_1 rfl ?_
  refine lv_lconst (v := 0) hx hb dX5_addGuest_2 (by decide) ?_
  refine lv_ldc2 hx hb hown (hts (.constantLong RX5 67 (99)) (by decide +kernel)) dX5_addGuest_3 ?_
  refine kc_i (Cs := []) (Rs := [mW cy ra (kEn X, T)]) (Bs := [mW cy ra (kEn X, T)]) (Cs' := fun u_ : Unit => []) (Fs := fun u_ : Unit => [mW cy ra (kEn X, T)]) hP hD hS hA [] [0] [0] rfl rfl (by decide) (by decide) (fun _ => rfl) (va_runS (As := [.long ((nI tk).toInt64), .long 0, .long (99)]) (rest := []) ⟨hx, hb, hml, hown, hts⟩ (c_X5_in l D cy ((nI tk).toInt64) 0 (99) H.size) (va_cwS 3 hts gX5_addGuest_X5_in rfl rfl rfl (by decide +kernel) ⟨Nat.le_of_ble_eq_true rfl, Nat.le_of_ble_eq_true rfl⟩) (kPre_S hK hN hP hD [] (by decide) rfl) rfl rfl hl.1 rfl (lv_room (Nat.le_of_ble_eq_true rfl)) dX5_addGuest_6 ⟨Nat.le_of_ble_eq_true rfl, Nat.le_of_ble_eq_true rfl⟩) (fun r_ u_ H locs hw hP hD hS => ?_)
  have hw : r_ = if kIn ((nI tk).toInt64) 0 (99) then nI 1 else nI 0 := hw
  subst hw
  refine kv_i (y := nI 1) (if_pos ((kIn32 (y := nI 0) (z := nI 99) (by decide) (by decide)).mpr (kwin (by omega) (by omega) (by decide)))) ?_
  refine lv_if_eq (tgt := 24) hx hb dX5_addGuest_9 (by decide) (fun h => absurd h (by decide)) (fun _ => ?_)
  refine lv_iload_n hx hb dX5_addGuest_12 rfl (lv_at hl 3 rfl) ?_
  refine lv_i2l (v := (nI z).toInt64) hx hb dX5_addGuest_13 rfl ?_
  refine lv_lconst (v := 1) hx hb dX5_addGuest_14 (by decide) ?_
  refine lv_ldc2 hx hb hown (hts (.constantLong RX5 69 (9)) (by decide +kernel)) dX5_addGuest_15 ?_
  refine kc_i (Cs := []) (Rs := [mW cy ra (kEn X, T)]) (Bs := [mW cy ra (kEn X, T)]) (Cs' := fun u_ : Unit => []) (Fs := fun u_ : Unit => [mW cy ra (kEn X, T)]) hP hD hS hA [] [0] [0] rfl rfl (by decide) (by decide) (fun _ => rfl) (va_runS (As := [.long ((nI z).toInt64), .long 1, .long (9)]) (rest := []) ⟨hx, hb, hml, hown, hts⟩ (c_X5_in l D cy ((nI z).toInt64) 1 (9) H.size) (va_cwS 3 hts gX5_addGuest_X5_in rfl rfl rfl (by decide +kernel) ⟨Nat.le_of_ble_eq_true rfl, Nat.le_of_ble_eq_true rfl⟩) (kPre_S hK hN hP hD [] (by decide) rfl) rfl rfl hl.1 rfl (lv_room (Nat.le_of_ble_eq_true rfl)) dX5_addGuest_18 ⟨Nat.le_of_ble_eq_true rfl, Nat.le_of_ble_eq_true rfl⟩) (fun r_ u_ H locs hw hP hD hS => ?_)
  have hw : r_ = if kIn ((nI z).toInt64) 1 (9) then nI 1 else nI 0 := hw
  subst hw
  refine kv_i (y := nI 1) (if_pos ((kIn32 (y := nI 1) (z := nI 9) (by decide) (by decide)).mpr (kwin (by omega) (by omega) (by decide)))) ?_
  refine lv_if_ne (tgt := 30) hx hb dX5_addGuest_21 (by decide) (fun _ => ?_) (fun h => absurd h (by decide))
  refine lv_aload_n hx hb dX5_addGuest_30 rfl (lv_at hl 0 rfl) ?_
  refine lv_iload_n hx hb dX5_addGuest_31 rfl (lv_at hl 1 rfl) ?_
  refine kc_i (Cs := [mW cy ra (kEn X, T)]) (Rs := []) (Bs := [mW cy ra (kEn X, T)]) (Cs' := fun u_ : Unit => [mW cy ra (kEn X, T)]) (Fs := fun u_ : Unit => [mW cy ra (kEn X, T)]) hP hD hS hA [0] [] [0] rfl rfl (by decide) (by decide) (fun _ => rfl) (va_runV (As := [.int x]) (rest := []) ⟨hx, hb, hml, hown, hts⟩ (c_X5_many_f l D cy ra (kEn X) T x hx0 H.size) (cwV 1 hts gX5_addGuest_X5_many rfl rfl rfl (by decide +kernel) ⟨Nat.le_of_ble_eq_true rfl, Nat.le_of_ble_eq_true rfl⟩) (kPre_V (ci := 5) hK hN hP hD [0] (by decide) rfl 0 rfl rfl) rfl rfl hl.1 rfl (lv_room (Nat.le_of_ble_eq_true rfl)) dX5_addGuest_32 ⟨Nat.le_of_ble_eq_true rfl, Nat.le_of_ble_eq_true rfl⟩) (fun r_ u_ H locs hw hP hD hS => ?_)
  have hw : r_ = (kEn X) 1 := hw
  subst hw
  refine kv_i (y := nI X.2.2.1.2.2.2.2.2) rfl ?_
  refine lv_bipush (v := nI 8) hx hb dX5_addGuest_35 (by decide) ?_
  refine lv_icmp_ne (tgt := 46) hx hb dX5_addGuest_37 (by decide) (fun c_37 => False.elim ?_) (fun c_37 => ?_)
  · skip
    have c_37 : ¬ (X.2.2.1.2.2.2.2.2 = 8) := fun h => c_37 ((nI_eq (a := X.2.2.1.2.2.2.2.2) (b := 8) (by omega) (by omega)).mpr h)
    omega
  · skip
    have c_37 : X.2.2.1.2.2.2.2.2 = 8 := (nI_eq (a := X.2.2.1.2.2.2.2.2) (b := 8) (by omega) (by omega)).mp c_37
    refine lv_aload_n hx hb dX5_addGuest_40 rfl (lv_at hl 0 rfl) ?_
    refine lv_iconst (v := nI 2) hx hb dX5_addGuest_41 (by decide) ?_
    refine kc_i (Cs := [mW cy ra (kEn X, T)]) (Rs := []) (Bs := [mW cy ra (kEn X, T)]) (Cs' := fun u_ : Unit => [mW cy ra ((kEn X), (T.1, T.2.1, T.2.2.1, (nI 2), T.2.2.2.2))]) (Fs := fun u_ : Unit => [mW cy ra ((kEn X), (T.1, T.2.1, T.2.2.1, (nI 2), T.2.2.2.2))]) hP hD hS hA [0] [] [0] rfl rfl (by decide) (by decide) (fun _ => rfl) (va_runV (As := [.int (nI 2)]) (rest := []) ⟨hx, hb, hml, hown, hts⟩ (c_X5_throwing l D cy ra (kEn X) T (nI 2) H.size) (cwV 1 hts gX5_addGuest_X5_throwing rfl rfl rfl (by decide +kernel) ⟨Nat.le_of_ble_eq_true rfl, Nat.le_of_ble_eq_true rfl⟩) (kPre_V (ci := 5) hK hN hP hD [0] (by decide) rfl 0 rfl rfl) rfl rfl hl.1 rfl (lv_room (Nat.le_of_ble_eq_true rfl)) dX5_addGuest_42 ⟨Nat.le_of_ble_eq_true rfl, Nat.le_of_ble_eq_true rfl⟩) (fun r_ u_ H locs hw hP hD hS => ?_)
    have hw : r_ = nI 0 := hw
    subst hw
    exact kr_i (post := fun r_ (u_ : Unit) => r_ = nI 0) (Bs := fun u_ : Unit => [mW cy ra (kEn X, (T.1, T.2.1, T.2.2.1, nI 2, T.2.2.2.2))]) hx hb hr hlocks rfl () hP hK hD hS rfl dX5_addGuest_45 hQ
abbrev rm_X5_giveTokens_f : Room := { frames := 2, cells := 0, slots := 0, locals := 47 }
set_option maxHeartbeats 1000000 in
set_option maxRecDepth 100000 in
/-- giveTokens -/
theorem c_X5_giveTokens_f (l : Launch) (D : va_G) (cy : Nat → ClassId) (ra : Nat → Nat) (X : rS) (T : rV) (x : Int32) (i : Nat) (v : Int32) (hx0 : x = 0) (hn : X.2.2.1.2.2.2.2.2 ≤ 8) (hi : i < X.2.2.1.2.2.2.2.2) (hv : ¬ v < (-99) ∧ ¬ nI 99 < v) (hsum : ¬ (X.2.2.1.1 i + v) < nI 0 ∧ ¬ nI 99 < (X.2.2.1.1 i + v)) (hsm : T.2.2.1 ≤ 4) (sz : Nat) : Met l yX5_giveTokens wsX5_giveTokens rm_X5_giveTokens_f (va_Pc [.ref (ra 0), .int x, .int (nI i), .int v] (kPre D (kT cy) [mW cy ra (kEn X, T)] sz)) (va_Qi (fun r_ (u_ : Unit) => r_ = X.2.2.1.1 i + v) (kFr D (kT cy) [mW cy ra (kEn X, T)] sz (fun u_ : Unit => [mW cy ra (kEn (X.1, X.2.1, (upd X.2.2.1.1 i (X.2.2.1.1 i + v), X.2.2.1.2), X.2.2.2), (kRsv (kEn X) T.1 T.2.2.1, T.2.1, kSc T.2.2.1, nI 0, T.2.2.2.2))])) (va_A (bkF [mW cy ra (kEn X, T)]) sz)) 0 0 (va_A (bkF [mW cy ra (kEn X, T)]) sz) := by
  refine kOpen (y := yX5_giveTokens) (ws := wsX5_giveTokens) (cc := cX5_giveTokens) (maxL := 5) (ret := (some .int)) (av := [.ref (ra 0), .int x, .int (nI i), .int v]) (Bs := [mW cy ra (kEn X, T)]) (Qc := fun A => (va_Qi (fun r_ (u_ : Unit) => r_ = X.2.2.1.1 i + v) (fun (u_ : Unit) t9 => kEnd D (kT cy) A [mW cy ra (kEn (X.1, X.2.1, (upd X.2.2.1.1 i (X.2.2.1.1 i + v), X.2.2.1.2), X.2.2.2), (kRsv (kEn X) T.1 T.2.2.1, T.2.1, kSc T.2.2.1, nI 0, T.2.2.2.2))] t9) A)) (by decide) rfl (Nat.le_of_ble_eq_true rfl) ?_
  intro p e s m args below meth c A Q ls hQ hx hb hml hr hlocks hin hts hown hN hK hP hD hS hA hsz hAe hl
  clear hAe
  have hl : lv_has ls 5 [(0, .ref (ra 0)), (1, .int x), (2, .int (nI i)), (3, .int v)] := hl
  suffices K9 : ∀ (H : Heap) (locs : List Loc), va_P D vwCl (bkF [mW cy ra (kEn X, T)]) H → va_S A s.heap H locs → W p l e (headSpec wsX5_giveTokens rm_X5_giveTokens_f).room s m args below meth c H locs 0 0 Q (F0 m 0 ls []) from K9 _ _ hP hS
  clear hP hS
  intro H locs hP hS
  refine lv_aload_n hx hb dX5_giveTokens_0 rfl (lv_at hl 0 rfl) ?_
  refine lv_iload_n hx hb dX5_giveTokens_1 rfl (lv_at hl 1 rfl) ?_
  refine lv_iload_n hx hb dX5_giveTokens_2 rfl (lv_at hl 2 rfl) ?_
  refine kc_i (Cs := [mW cy ra (kEn X, T)]) (Rs := []) (Bs := [mW cy ra (kEn X, T)]) (Cs' := fun u_ : Unit => [mW cy ra (kEn X, T)]) (Fs := fun u_ : Unit => [mW cy ra (kEn X, T)]) hP hD hS hA [0] [] [0] rfl rfl (by decide) (by decide) (fun _ => rfl) (va_runV (As := [.int x, .int (nI i)]) (rest := []) ⟨hx, hb, hml, hown, hts⟩ (c_X5_isGuest_f l D cy ra X T x (nI i) hx0 (by first | assumption | omega | decide) H.size) (cwV 2 hts gX5_giveTokens_X5_isGuest rfl rfl rfl (by decide +kernel) ⟨Nat.le_of_ble_eq_true rfl, Nat.le_of_ble_eq_true rfl⟩) (kPre_V (ci := 5) hK hN hP hD [0] (by decide) rfl 0 rfl rfl) rfl rfl hl.1 rfl (lv_room (Nat.le_of_ble_eq_true rfl)) dX5_giveTokens_3 ⟨Nat.le_of_ble_eq_true rfl, Nat.le_of_ble_eq_true rfl⟩) (fun r_ u_ H locs hw hP hD hS => ?_)
  have hw : r_ = if ¬ (nI i) < nI 0 ∧ ¬ nI X.2.2.1.2.2.2.2.2 ≤ (nI i) then nI 1 else nI 0 := hw
  subst hw
  refine kv_i (y := nI 1) (if_pos (khas (by omega) (by omega))) ?_
  refine lv_if_ne (tgt := 15) hx hb dX5_giveTokens_6 (by decide) (fun _ => ?_) (fun h => absurd h (by decide))
  refine lv_iload_n hx hb dX5_giveTokens_15 rfl (lv_at hl 3 rfl) ?_
  refine lv_i2l (v := v.toInt64) hx hb dX5_giveTokens_16 rfl ?_
  refine lv_ldc2 hx hb hown (hts (.constantLong RX5 89 (-99)) (by decide +kernel)) dX5_giveTokens_17 ?_
  refine lv_ldc2 hx hb hown (hts (.constantLong RX5 67 (99)) (by decide +kernel)) dX5_giveTokens_20 ?_
  refine kc_i (Cs := []) (Rs := [mW cy ra (kEn X, T)]) (Bs := [mW cy ra (kEn X, T)]) (Cs' := fun u_ : Unit => []) (Fs := fun u_ : Unit => [mW cy ra (kEn X, T)]) hP hD hS hA [] [0] [0] rfl rfl (by decide) (by decide) (fun _ => rfl) (va_runS (As := [.long v.toInt64, .long (-99), .long (99)]) (rest := []) ⟨hx, hb, hml, hown, hts⟩ (c_X5_in l D cy v.toInt64 (-99) (99) H.size) (va_cwS 3 hts gX5_giveTokens_X5_in rfl rfl rfl (by decide +kernel) ⟨Nat.le_of_ble_eq_true rfl, Nat.le_of_ble_eq_true rfl⟩) (kPre_S hK hN hP hD [] (by decide) rfl) rfl rfl hl.1 rfl (lv_room (Nat.le_of_ble_eq_true rfl)) dX5_giveTokens_23 ⟨Nat.le_of_ble_eq_true rfl, Nat.le_of_ble_eq_true rfl⟩) (fun r_ u_ H locs hw hP hD hS => ?_)
  have hw : r_ = if kIn v.toInt64 (-99) (99) then nI 1 else nI 0 := hw
  subst hw
  refine kv_i (y := nI 1) (if_pos ((kIn32 (y := (-99)) (z := nI 99) (by decide) (by decide)).mpr hv)) ?_
  refine lv_if_ne (tgt := 35) hx hb dX5_giveTokens_26 (by decide) (fun _ => ?_) (fun h => absurd h (by decide))
  refine lv_iload_n hx hb dX5_giveTokens_35 rfl (lv_at hl 1 rfl) ?_
  refine lv_iload_n hx hb dX5_giveTokens_36 rfl (lv_at hl 2 rfl) ?_
  refine kc_i (Cs := []) (Rs := [mW cy ra (kEn X, T)]) (Bs := [mW cy ra (kEn X, T)]) (Cs' := fun u_ : Unit => []) (Fs := fun u_ : Unit => [mW cy ra (kEn X, T)]) hP hD hS hA [] [0] [0] rfl rfl (by decide) (by decide) (fun _ => rfl) (va_runS (As := [.int x, .int (nI i)]) (rest := []) ⟨hx, hb, hml, hown, hts⟩ (c_X5_person_f l D cy x i hx0 H.size) (va_cwS 2 hts gX5_giveTokens_X5_person rfl rfl rfl (by decide +kernel) ⟨Nat.le_of_ble_eq_true rfl, Nat.le_of_ble_eq_true rfl⟩) (kPre_S hK hN hP hD [] (by decide) rfl) rfl rfl hl.1 rfl (lv_room (Nat.le_of_ble_eq_true rfl)) dX5_giveTokens_37 ⟨Nat.le_of_ble_eq_true rfl, Nat.le_of_ble_eq_true rfl⟩) (fun r_ u_ H locs hw hP hD hS => ?_)
  have hw : r_ = nI (8 + i) := hw
  subst hw
  refine lv_istore (lv' := [(4, .int (nI (8 + i))), (0, .ref (ra 0)), (1, .int x), (2, .int (nI i)), (3, .int v)]) hx hb dX5_giveTokens_40 hl (by decide) rfl (fun ls hl => ?_)
  refine lv_aload_n hx hb dX5_giveTokens_42 rfl (lv_at hl 1 rfl) ?_
  refine lv_iload hx hb dX5_giveTokens_43 (lv_at hl 0 rfl) ?_
  refine lv_iconst (v := nI 0) hx hb dX5_giveTokens_45 (by decide) ?_
  refine kc_i (Cs := [mW cy ra (kEn X, T)]) (Rs := []) (Bs := [mW cy ra (kEn X, T)]) (Cs' := fun u_ : Unit => [mW cy ra (kEn X, T)]) (Fs := fun u_ : Unit => [mW cy ra (kEn X, T)]) hP hD hS hA [0] [] [0] rfl rfl (by decide) (by decide) (fun _ => rfl) (va_runV (As := [.int (nI (8 + i)), .int (nI 0)]) (rest := []) ⟨hx, hb, hml, hown, hts⟩ (c_X5_of l D cy ra (kEn X) T (8 + i) 0 (by first | assumption | omega | decide) (by first | assumption | omega | decide) H.size) (cwV 2 hts gX5_giveTokens_X5_of rfl rfl rfl (by decide +kernel) ⟨Nat.le_of_ble_eq_true rfl, Nat.le_of_ble_eq_true rfl⟩) (kPre_V (ci := 5) hK hN hP hD [0] (by decide) rfl 0 rfl rfl) rfl rfl hl.1 rfl (lv_room (Nat.le_of_ble_eq_true rfl)) dX5_giveTokens_46 ⟨Nat.le_of_ble_eq_true rfl, Nat.le_of_ble_eq_true rfl⟩) (fun r_ u_ H locs hw hP hD hS => ?_)
  have hw : r_ = (kEn X) (92 + 6 * (8 + i) + 0) := hw
  subst hw
  refine kv_i (y := X.2.2.1.1 i) ((kq_F (by decide)).trans (if_pos hi)) ?_
  refine lv_iload_n hx hb dX5_giveTokens_49 rfl (lv_at hl 4 rfl) ?_
  refine lv_iadd hx hb dX5_giveTokens_50 ?_
  refine lv_i2l (v := ((X.2.2.1.1 i) + v).toInt64) hx hb dX5_giveTokens_51 rfl ?_
  refine lv_lconst (v := 0) hx hb dX5_giveTokens_52 (by decide) ?_
  refine lv_ldc2 hx hb hown (hts (.constantLong RX5 67 (99)) (by decide +kernel)) dX5_giveTokens_53 ?_
  refine kc_i (Cs := []) (Rs := [mW cy ra (kEn X, T)]) (Bs := [mW cy ra (kEn X, T)]) (Cs' := fun u_ : Unit => []) (Fs := fun u_ : Unit => [mW cy ra (kEn X, T)]) hP hD hS hA [] [0] [0] rfl rfl (by decide) (by decide) (fun _ => rfl) (va_runS (As := [.long (((X.2.2.1.1 i) + v).toInt64), .long 0, .long (99)]) (rest := []) ⟨hx, hb, hml, hown, hts⟩ (c_X5_in l D cy (((X.2.2.1.1 i) + v).toInt64) 0 (99) H.size) (va_cwS 3 hts gX5_giveTokens_X5_in rfl rfl rfl (by decide +kernel) ⟨Nat.le_of_ble_eq_true rfl, Nat.le_of_ble_eq_true rfl⟩) (kPre_S hK hN hP hD [] (by decide) rfl) rfl rfl hl.1 rfl (lv_room (Nat.le_of_ble_eq_true rfl)) dX5_giveTokens_56 ⟨Nat.le_of_ble_eq_true rfl, Nat.le_of_ble_eq_true rfl⟩) (fun r_ u_ H locs hw hP hD hS => ?_)
  have hw : r_ = if kIn (((X.2.2.1.1 i) + v).toInt64) 0 (99) then nI 1 else nI 0 := hw
  subst hw
  refine kv_i (y := nI 1) (if_pos ((kIn32 (y := nI 0) (z := nI 99) (by decide) (by decide)).mpr hsum)) ?_
  refine lv_if_ne (tgt := 68) hx hb dX5_giveTokens_59 (by decide) (fun _ => ?_) (fun h => absurd h (by decide))
  refine lv_aload_n hx hb dX5_giveTokens_68 rfl (lv_at hl 1 rfl) ?_
  refine kc_v (Cs := [mW cy ra (kEn X, T)]) (Rs := []) (Bs := [mW cy ra (kEn X, T)]) (Cs' := fun u_ : Unit => [mW cy ra (kEn X, (kRsv (kEn X) T.1 T.2.2.1, T.2.1, kSc T.2.2.1, T.2.2.2))]) (Fs := fun u_ : Unit => [mW cy ra (kEn X, (kRsv (kEn X) T.1 T.2.2.1, T.2.1, kSc T.2.2.1, T.2.2.2))]) hP hD hS hA [0] [] [0] rfl rfl (by decide) (by decide) (fun _ => rfl) (va_runV (As := []) (rest := []) ⟨hx, hb, hml, hown, hts⟩ (c_X5_save l D cy ra X T (by first | assumption | omega | decide) H.size) (cwV 0 hts gX5_giveTokens_X5_save rfl rfl rfl (by decide +kernel) ⟨Nat.le_of_ble_eq_true rfl, Nat.le_of_ble_eq_true rfl⟩) (kPre_V (ci := 5) hK hN hP hD [0] (by decide) rfl 0 rfl rfl) rfl rfl hl.1 rfl (lv_room (Nat.le_of_ble_eq_true rfl)) dX5_giveTokens_69 ⟨Nat.le_of_ble_eq_true rfl, Nat.le_of_ble_eq_true rfl⟩) (fun u_ H locs hw hP hD hS => ?_)
  refine lv_aload_n hx hb dX5_giveTokens_72 rfl (lv_at hl 1 rfl) ?_
  refine va_get (D := D) (ci := 5) (v := .ref (ra 1)) (C := RX5) (T := TX5) (N := 16) hx hb hts (by decide +kernel) hown hK hP 0 rfl rfl 0 (by decide) (hts (.fieldLink RX5 7 "DanceHallModel" "all" "[I") (by decide +kernel)) (fun _ h9 => h9) rfl dX5_giveTokens_73 ?_
  refine lv_iload hx hb dX5_giveTokens_76 (lv_at hl 0 rfl) ?_
  refine lv_iconst (v := nI 0) hx hb dX5_giveTokens_78 (by decide) ?_
  refine kc_i (Cs := []) (Rs := [mW cy ra (kEn X, (kRsv (kEn X) T.1 T.2.2.1, T.2.1, kSc T.2.2.1, T.2.2.2))]) (Bs := [mW cy ra (kEn X, (kRsv (kEn X) T.1 T.2.2.1, T.2.1, kSc T.2.2.1, T.2.2.2))]) (Cs' := fun u_ : Unit => []) (Fs := fun u_ : Unit => [mW cy ra (kEn X, (kRsv (kEn X) T.1 T.2.2.1, T.2.1, kSc T.2.2.1, T.2.2.2))]) hP hD hS hA [] [0] [0] rfl rfl (by decide) (by decide) (fun _ => rfl) (va_runS (As := [.int (nI (8 + i)), .int (nI 0)]) (rest := [.ref (ra 1)]) ⟨hx, hb, hml, hown, hts⟩ (c_X5_at l D cy (8 + i) 0 H.size) (va_cwS 2 hts gX5_giveTokens_X5_at rfl rfl rfl (by decide +kernel) ⟨Nat.le_of_ble_eq_true rfl, Nat.le_of_ble_eq_true rfl⟩) (kPre_S hK hN hP hD [] (by decide) rfl) rfl rfl hl.1 rfl (lv_room (Nat.le_of_ble_eq_true rfl)) dX5_giveTokens_79 ⟨Nat.le_of_ble_eq_true rfl, Nat.le_of_ble_eq_true rfl⟩) (fun r_ u_ H locs hw hP hD hS => ?_)
  have hw : r_ = nI (92 + 6 * (8 + i) + 0) := hw
  subst hw
  refine lv_dup2_11 hx hb dX5_giveTokens_82 rfl rfl ?_
  refine va_iald hx hb hK hP 1 0 rfl rfl (vp_in_nI (n := 92 + 6 * (8 + i) + 0) (N := 188) (by omega) (by omega)) dX5_giveTokens_83 ?_
  refine kv_i (y := X.2.2.1.1 i) (by rw [nI_clamp (n := 92 + 6 * (8 + i) + 0) (by omega)]; exact ((kq_F (by decide)).trans (if_pos hi))) ?_
  refine lv_iload_n hx hb dX5_giveTokens_84 rfl (lv_at hl 4 rfl) ?_
  refine lv_iadd hx hb dX5_giveTokens_85 ?_
  refine va_iast hx hb hK hP hD hS 1 0 rfl rfl (vp_in_nI (n := 92 + 6 * (8 + i) + 0) (N := 188) (by omega) (by omega)) dX5_giveTokens_86 (fun H locs hP hD hS => ?_)
  rw [nI_clamp (n := 92 + 6 * (8 + i) + 0) (by omega)] at hP hD
  have hP : va_P D vwCl (bkF [mW cy ra (upd (kEn X) (92 + 6 * (8 + i) + 0) ((X.2.2.1.1 i) + v), (kRsv (kEn X) T.1 T.2.2.1, T.2.1, kSc T.2.2.1, T.2.2.2))]) H := hP
  have hD : va_D A (bkF [mW cy ra (upd (kEn X) (92 + 6 * (8 + i) + 0) ((X.2.2.1.1 i) + v), (kRsv (kEn X) T.1 T.2.2.1, T.2.1, kSc T.2.2.1, T.2.2.2))]) := hD
  have hP := kP_cell (g := (kEn (X.1, X.2.1, (upd X.2.2.1.1 i (X.2.2.1.1 i + v), X.2.2.1.2), X.2.2.2))) hP 1 rfl (fun j hj => kqu_F0 hi hn j hj)
  have hD := hD.set (p := 1) (e := .inl (cy 0, 188, .inl (kEn (X.1, X.2.1, (upd X.2.2.1.1 i (X.2.2.1.1 i + v), X.2.2.1.2), X.2.2.2)))) rfl
  have hP : va_P D vwCl (bkF [mW cy ra (kEn (X.1, X.2.1, (upd X.2.2.1.1 i (X.2.2.1.1 i + v), X.2.2.1.2), X.2.2.2), (kRsv (kEn X) T.1 T.2.2.1, T.2.1, kSc T.2.2.1, T.2.2.2))]) H := hP
  have hD : va_D A (bkF [mW cy ra (kEn (X.1, X.2.1, (upd X.2.2.1.1 i (X.2.2.1.1 i + v), X.2.2.1.2), X.2.2.2), (kRsv (kEn X) T.1 T.2.2.1, T.2.1, kSc T.2.2.1, T.2.2.2))]) := hD
  refine lv_aload_n hx hb dX5_giveTokens_87 rfl (lv_at hl 1 rfl) ?_
  refine lv_aload_n hx hb dX5_giveTokens_88 rfl (lv_at hl 1 rfl) ?_
  refine lv_iload hx hb dX5_giveTokens_89 (lv_at hl 0 rfl) ?_
  refine lv_iconst (v := nI 0) hx hb dX5_giveTokens_91 (by decide) ?_
  refine kc_i (Cs := [mW cy ra (kEn (X.1, X.2.1, (upd X.2.2.1.1 i (X.2.2.1.1 i + v), X.2.2.1.2), X.2.2.2), (kRsv (kEn X) T.1 T.2.2.1, T.2.1, kSc T.2.2.1, T.2.2.2))]) (Rs := []) (Bs := [mW cy ra (kEn (X.1, X.2.1, (upd X.2.2.1.1 i (X.2.2.1.1 i + v), X.2.2.1.2), X.2.2.2), (kRsv (kEn X) T.1 T.2.2.1, T.2.1, kSc T.2.2.1, T.2.2.2))]) (Cs' := fun u_ : Unit => [mW cy ra (kEn (X.1, X.2.1, (upd X.2.2.1.1 i (X.2.2.1.1 i + v), X.2.2.1.2), X.2.2.2), (kRsv (kEn X) T.1 T.2.2.1, T.2.1, kSc T.2.2.1, T.2.2.2))]) (Fs := fun u_ : Unit => [mW cy ra (kEn (X.1, X.2.1, (upd X.2.2.1.1 i (X.2.2.1.1 i + v), X.2.2.1.2), X.2.2.2), (kRsv (kEn X) T.1 T.2.2.1, T.2.1, kSc T.2.2.1, T.2.2.2))]) hP hD hS hA [0] [] [0] rfl rfl (by decide) (by decide) (fun _ => rfl) (va_runV (As := [.int (nI (8 + i)), .int (nI 0)]) (rest := [.ref (ra 0)]) ⟨hx, hb, hml, hown, hts⟩ (c_X5_of l D cy ra (kEn (X.1, X.2.1, (upd X.2.2.1.1 i (X.2.2.1.1 i + v), X.2.2.1.2), X.2.2.2)) (kRsv (kEn X) T.1 T.2.2.1, T.2.1, kSc T.2.2.1, T.2.2.2) (8 + i) 0 (by first | assumption | omega | decide) (by first | assumption | omega | decide) H.size) (cwV 2 hts gX5_giveTokens_X5_of rfl rfl rfl (by decide +kernel) ⟨Nat.le_of_ble_eq_true rfl, Nat.le_of_ble_eq_true rfl⟩) (kPre_V (ci := 5) hK hN hP hD [0] (by decide) rfl 0 rfl rfl) rfl rfl hl.1 rfl (lv_room (Nat.le_of_ble_eq_true rfl)) dX5_giveTokens_92 ⟨Nat.le_of_ble_eq_true rfl, Nat.le_of_ble_eq_true rfl⟩) (fun r_ u_ H locs hw hP hD hS => ?_)
  have hw : r_ = (kEn (X.1, X.2.1, (upd X.2.2.1.1 i (X.2.2.1.1 i + v), X.2.2.1.2), X.2.2.2)) (92 + 6 * (8 + i) + 0) := hw
  subst hw
  refine kv_i (y := X.2.2.1.1 i + v) ((kq_F (by decide)).trans ((if_pos hi).trans pk_us)) ?_
  refine kc_i (Cs := [mW cy ra (kEn (X.1, X.2.1, (upd X.2.2.1.1 i (X.2.2.1.1 i + v), X.2.2.1.2), X.2.2.2), (kRsv (kEn X) T.1 T.2.2.1, T.2.1, kSc T.2.2.1, T.2.2.2))]) (Rs := []) (Bs := [mW cy ra (kEn (X.1, X.2.1, (upd X.2.2.1.1 i (X.2.2.1.1 i + v), X.2.2.1.2), X.2.2.2), (kRsv (kEn X) T.1 T.2.2.1, T.2.1, kSc T.2.2.1, T.2.2.2))]) (Cs' := fun u_ : Unit => [mW cy ra ((kEn (X.1, X.2.1, (upd X.2.2.1.1 i (X.2.2.1.1 i + v), X.2.2.1.2), X.2.2.2)), ((kRsv (kEn X) T.1 T.2.2.1), T.2.1, (kSc T.2.2.1), nI 0, T.2.2.2.2))]) (Fs := fun u_ : Unit => [mW cy ra ((kEn (X.1, X.2.1, (upd X.2.2.1.1 i (X.2.2.1.1 i + v), X.2.2.1.2), X.2.2.2)), ((kRsv (kEn X) T.1 T.2.2.1), T.2.1, (kSc T.2.2.1), nI 0, T.2.2.2.2))]) hP hD hS hA [0] [] [0] rfl rfl (by decide) (by decide) (fun _ => rfl) (va_runV (As := [.int (X.2.2.1.1 i + v)]) (rest := []) ⟨hx, hb, hml, hown, hts⟩ (c_X5_fine l D cy ra (kEn (X.1, X.2.1, (upd X.2.2.1.1 i (X.2.2.1.1 i + v), X.2.2.1.2), X.2.2.2)) (kRsv (kEn X) T.1 T.2.2.1, T.2.1, kSc T.2.2.1, T.2.2.2) (X.2.2.1.1 i + v) H.size) (cwV 1 hts gX5_giveTokens_X5_fine rfl rfl rfl (by decide +kernel) ⟨Nat.le_of_ble_eq_true rfl, Nat.le_of_ble_eq_true rfl⟩) (kPre_V (ci := 5) hK hN hP hD [0] (by decide) rfl 0 rfl rfl) rfl rfl hl.1 rfl (lv_room (Nat.le_of_ble_eq_true rfl)) dX5_giveTokens_95 ⟨Nat.le_of_ble_eq_true rfl, Nat.le_of_ble_eq_true rfl⟩) (fun r_ u_ H locs hw hP hD hS => ?_)
  have hw : r_ = (X.2.2.1.1 i + v) := hw
  subst hw
  exact kr_i (post := fun r_ (u_ : Unit) => r_ = X.2.2.1.1 i + v) (Bs := fun u_ : Unit => [mW cy ra (kEn (X.1, X.2.1, (upd X.2.2.1.1 i (X.2.2.1.1 i + v), X.2.2.1.2), X.2.2.2), (kRsv (kEn X) T.1 T.2.2.1, T.2.1, kSc T.2.2.1, nI 0, T.2.2.2.2))]) hx hb hr hlocks rfl () hP hK hD hS rfl dX5_giveTokens_98 hQ
abbrev rm_X5_giveTokens_if : Room := { frames := 2, cells := 0, slots := 0, locals := 47 }
set_option maxHeartbeats 1000000 in
set_option maxRecDepth 100000 in
/-- giveTokens, no guest -/
theorem c_X5_giveTokens_if (l : Launch) (D : va_G) (cy : Nat → ClassId) (ra : Nat → Nat) (X : rS) (T : rV) (x : Int32) (i : Int32) (v : Int32) (hx0 : x = 0) (hn : X.2.2.1.2.2.2.2.2 ≤ 8) (hbad : ¬ (¬ i < nI 0 ∧ ¬ nI X.2.2.1.2.2.2.2.2 ≤ i)) (sz : Nat) : Met l yX5_giveTokens wsX5_giveTokens rm_X5_giveTokens_if (va_Pc [.ref (ra 0), .int x, .int i, .int v] (kPre D (kT cy) [mW cy ra (kEn X, T)] sz)) (va_Qi (fun r_ (u_ : Unit) => r_ = nI 0) (kFr D (kT cy) [mW cy ra (kEn X, T)] sz (fun u_ : Unit => [mW cy ra (kEn X, (T.1, T.2.1, T.2.2.1, nI 1, T.2.2.2.2))])) (va_A (bkF [mW cy ra (kEn X, T)]) sz)) 0 0 (va_A (bkF [mW cy ra (kEn X, T)]) sz) := by
  refine kOpen (y := yX5_giveTokens) (ws := wsX5_giveTokens) (cc := cX5_giveTokens) (maxL := 5) (ret := (some .int)) (av := [.ref (ra 0), .int x, .int i, .int v]) (Bs := [mW cy ra (kEn X, T)]) (Qc := fun A => (va_Qi (fun r_ (u_ : Unit) => r_ = nI 0) (fun (u_ : Unit) t9 => kEnd D (kT cy) A [mW cy ra (kEn X, (T.1, T.2.1, T.2.2.1, nI 1, T.2.2.2.2))] t9) A)) (by decide) rfl (Nat.le_of_ble_eq_true rfl) ?_
  intro p e s m args below meth c A Q ls hQ hx hb hml hr hlocks hin hts hown hN hK hP hD hS hA hsz hAe hl
  clear hAe
  have hl : lv_has ls 5 [(0, .ref (ra 0)), (1, .int x), (2, .int i), (3, .int v)] := hl
  suffices K9 : ∀ (H : Heap) (locs : List Loc), va_P D vwCl (bkF [mW cy ra (kEn X, T)]) H → va_S A s.heap H locs → W p l e (headSpec wsX5_giveTokens rm_X5_giveTokens_if).room s m args below meth c H locs 0 0 Q (F0 m 0 ls []) from K9 _ _ hP hS
  clear hP hS
  intro H locs hP hS
  refine lv_aload_n hx hb dX5_giveTokens_0 rfl (lv_at hl 0 rfl) ?_
  refine lv_iload_n hx hb dX5_giveTokens_1 rfl (lv_at hl 1 rfl) ?_
  refine lv_iload_n hx hb dX5_giveTokens_2 rfl (lv_at hl 2 rfl) ?_
  refine kc_i (Cs := [mW cy ra (kEn X, T)]) (Rs := []) (Bs := [mW cy ra (kEn X, T)]) (Cs' := fun u_ : Unit => [mW cy ra (kEn X, T)]) (Fs := fun u_ : Unit => [mW cy ra (kEn X, T)]) hP hD hS hA [0] [] [0] rfl rfl (by decide) (by decide) (fun _ => rfl) (va_runV (As := [.int x, .int i]) (rest := []) ⟨hx, hb, hml, hown, hts⟩ (c_X5_isGuest_f l D cy ra X T x i hx0 (by first | assumption | omega | decide) H.size) (cwV 2 hts gX5_giveTokens_X5_isGuest rfl rfl rfl (by decide +kernel) ⟨Nat.le_of_ble_eq_true rfl, Nat.le_of_ble_eq_true rfl⟩) (kPre_V (ci := 5) hK hN hP hD [0] (by decide) rfl 0 rfl rfl) rfl rfl hl.1 rfl (lv_room (Nat.le_of_ble_eq_true rfl)) dX5_giveTokens_3 ⟨Nat.le_of_ble_eq_true rfl, Nat.le_of_ble_eq_true rfl⟩) (fun r_ u_ H locs hw hP hD hS => ?_)
  have hw : r_ = if ¬ i < nI 0 ∧ ¬ nI X.2.2.1.2.2.2.2.2 ≤ i then nI 1 else nI 0 := hw
  subst hw
  refine kv_i (y := nI 0) (if_neg hbad) ?_
  refine lv_if_ne (tgt := 15) hx hb dX5_giveTokens_6 (by decide) (fun h => absurd h (by decide)) (fun _ => ?_)
  refine lv_aload_n hx hb dX5_giveTokens_9 rfl (lv_at hl 0 rfl) ?_
  refine lv_iconst (v := nI 1) hx hb dX5_giveTokens_10 (by decide) ?_
  refine kc_i (Cs := [mW cy ra (kEn X, T)]) (Rs := []) (Bs := [mW cy ra (kEn X, T)]) (Cs' := fun u_ : Unit => [mW cy ra ((kEn X), (T.1, T.2.1, T.2.2.1, (nI 1), T.2.2.2.2))]) (Fs := fun u_ : Unit => [mW cy ra ((kEn X), (T.1, T.2.1, T.2.2.1, (nI 1), T.2.2.2.2))]) hP hD hS hA [0] [] [0] rfl rfl (by decide) (by decide) (fun _ => rfl) (va_runV (As := [.int (nI 1)]) (rest := []) ⟨hx, hb, hml, hown, hts⟩ (c_X5_throwing l D cy ra (kEn X) T (nI 1) H.size) (cwV 1 hts gX5_giveTokens_X5_throwing rfl rfl rfl (by decide +kernel) ⟨Nat.le_of_ble_eq_true rfl, Nat.le_of_ble_eq_true rfl⟩) (kPre_V (ci := 5) hK hN hP hD [0] (by decide) rfl 0 rfl rfl) rfl rfl hl.1 rfl (lv_room (Nat.le_of_ble_eq_true rfl)) dX5_giveTokens_11 ⟨Nat.le_of_ble_eq_true rfl, Nat.le_of_ble_eq_true rfl⟩) (fun r_ u_ H locs hw hP hD hS => ?_)
  have hw : r_ = nI 0 := hw
  subst hw
  exact kr_i (post := fun r_ (u_ : Unit) => r_ = nI 0) (Bs := fun u_ : Unit => [mW cy ra (kEn X, (T.1, T.2.1, T.2.2.1, nI 1, T.2.2.2.2))]) hx hb hr hlocks rfl () hP hK hD hS rfl dX5_giveTokens_14 hQ
abbrev rm_X5_giveTokens_af : Room := { frames := 2, cells := 0, slots := 0, locals := 47 }
set_option maxHeartbeats 1000000 in
set_option maxRecDepth 100000 in
/-- giveTokens, out of range -/
theorem c_X5_giveTokens_af (l : Launch) (D : va_G) (cy : Nat → ClassId) (ra : Nat → Nat) (X : rS) (T : rV) (x : Int32) (i : Nat) (v : Int32) (hx0 : x = 0) (hn : X.2.2.1.2.2.2.2.2 ≤ 8) (hi : i < X.2.2.1.2.2.2.2.2) (hbad : ¬ (¬ v < (-99) ∧ ¬ nI 99 < v)) (sz : Nat) : Met l yX5_giveTokens wsX5_giveTokens rm_X5_giveTokens_af (va_Pc [.ref (ra 0), .int x, .int (nI i), .int v] (kPre D (kT cy) [mW cy ra (kEn X, T)] sz)) (va_Qi (fun r_ (u_ : Unit) => r_ = nI 0) (kFr D (kT cy) [mW cy ra (kEn X, T)] sz (fun u_ : Unit => [mW cy ra (kEn X, (T.1, T.2.1, T.2.2.1, nI 2, T.2.2.2.2))])) (va_A (bkF [mW cy ra (kEn X, T)]) sz)) 0 0 (va_A (bkF [mW cy ra (kEn X, T)]) sz) := by
  refine kOpen (y := yX5_giveTokens) (ws := wsX5_giveTokens) (cc := cX5_giveTokens) (maxL := 5) (ret := (some .int)) (av := [.ref (ra 0), .int x, .int (nI i), .int v]) (Bs := [mW cy ra (kEn X, T)]) (Qc := fun A => (va_Qi (fun r_ (u_ : Unit) => r_ = nI 0) (fun (u_ : Unit) t9 => kEnd D (kT cy) A [mW cy ra (kEn X, (T.1, T.2.1, T.2.2.1, nI 2, T.2.2.2.2))] t9) A)) (by decide) rfl (Nat.le_of_ble_eq_true rfl) ?_
  intro p e s m args below meth c A Q ls hQ hx hb hml hr hlocks hin hts hown hN hK hP hD hS hA hsz hAe hl
  clear hAe
  have hl : lv_has ls 5 [(0, .ref (ra 0)), (1, .int x), (2, .int (nI i)), (3, .int v)] := hl
  suffices K9 : ∀ (H : Heap) (locs : List Loc), va_P D vwCl (bkF [mW cy ra (kEn X, T)]) H → va_S A s.heap H locs → W p l e (headSpec wsX5_giveTokens rm_X5_giveTokens_af).room s m args below meth c H locs 0 0 Q (F0 m 0 ls []) from K9 _ _ hP hS
  clear hP hS
  intro H locs hP hS
  refine lv_aload_n hx hb dX5_giveTokens_0 rfl (lv_at hl 0 rfl) ?_
  refine lv_iload_n hx hb dX5_giveTokens_1 rfl (lv_at hl 1 rfl) ?_
  refine lv_iload_n hx hb dX5_giveTokens_2 rfl (lv_at hl 2 rfl) ?_
  refine kc_i (Cs := [mW cy ra (kEn X, T)]) (Rs := []) (Bs := [mW cy ra (kEn X, T)]) (Cs' := fun u_ : Unit => [mW cy ra (kEn X, T)]) (Fs := fun u_ : Unit => [mW cy ra (kEn X, T)]) hP hD hS hA [0] [] [0] rfl rfl (by decide) (by decide) (fun _ => rfl) (va_runV (As := [.int x, .int (nI i)]) (rest := []) ⟨hx, hb, hml, hown, hts⟩ (c_X5_isGuest_f l D cy ra X T x (nI i) hx0 (by first | assumption | omega | decide) H.size) (cwV 2 hts gX5_giveTokens_X5_isGuest rfl rfl rfl (by decide +kernel) ⟨Nat.le_of_ble_eq_true rfl, Nat.le_of_ble_eq_true rfl⟩) (kPre_V (ci := 5) hK hN hP hD [0] (by decide) rfl 0 rfl rfl) rfl rfl hl.1 rfl (lv_room (Nat.le_of_ble_eq_true rfl)) dX5_giveTokens_3 ⟨Nat.le_of_ble_eq_true rfl, Nat.le_of_ble_eq_true rfl⟩) (fun r_ u_ H locs hw hP hD hS => ?_)
  have hw : r_ = if ¬ (nI i) < nI 0 ∧ ¬ nI X.2.2.1.2.2.2.2.2 ≤ (nI i) then nI 1 else nI 0 := hw
  subst hw
  refine kv_i (y := nI 1) (if_pos (khas (by omega) (by omega))) ?_
  refine lv_if_ne (tgt := 15) hx hb dX5_giveTokens_6 (by decide) (fun _ => ?_) (fun h => absurd h (by decide))
  refine lv_iload_n hx hb dX5_giveTokens_15 rfl (lv_at hl 3 rfl) ?_
  refine lv_i2l (v := v.toInt64) hx hb dX5_giveTokens_16 rfl ?_
  refine lv_ldc2 hx hb hown (hts (.constantLong RX5 89 (-99)) (by decide +kernel)) dX5_giveTokens_17 ?_
  refine lv_ldc2 hx hb hown (hts (.constantLong RX5 67 (99)) (by decide +kernel)) dX5_giveTokens_20 ?_
  refine kc_i (Cs := []) (Rs := [mW cy ra (kEn X, T)]) (Bs := [mW cy ra (kEn X, T)]) (Cs' := fun u_ : Unit => []) (Fs := fun u_ : Unit => [mW cy ra (kEn X, T)]) hP hD hS hA [] [0] [0] rfl rfl (by decide) (by decide) (fun _ => rfl) (va_runS (As := [.long v.toInt64, .long (-99), .long (99)]) (rest := []) ⟨hx, hb, hml, hown, hts⟩ (c_X5_in l D cy v.toInt64 (-99) (99) H.size) (va_cwS 3 hts gX5_giveTokens_X5_in rfl rfl rfl (by decide +kernel) ⟨Nat.le_of_ble_eq_true rfl, Nat.le_of_ble_eq_true rfl⟩) (kPre_S hK hN hP hD [] (by decide) rfl) rfl rfl hl.1 rfl (lv_room (Nat.le_of_ble_eq_true rfl)) dX5_giveTokens_23 ⟨Nat.le_of_ble_eq_true rfl, Nat.le_of_ble_eq_true rfl⟩) (fun r_ u_ H locs hw hP hD hS => ?_)
  have hw : r_ = if kIn v.toInt64 (-99) (99) then nI 1 else nI 0 := hw
  subst hw
  refine kv_i (y := nI 0) (if_neg (fun h => hbad ((kIn32 (y := (-99)) (z := nI 99) (by decide) (by decide)).mp h))) ?_
  refine lv_if_ne (tgt := 35) hx hb dX5_giveTokens_26 (by decide) (fun h => absurd h (by decide)) (fun _ => ?_)
  refine lv_aload_n hx hb dX5_giveTokens_29 rfl (lv_at hl 0 rfl) ?_
  refine lv_iconst (v := nI 2) hx hb dX5_giveTokens_30 (by decide) ?_
  refine kc_i (Cs := [mW cy ra (kEn X, T)]) (Rs := []) (Bs := [mW cy ra (kEn X, T)]) (Cs' := fun u_ : Unit => [mW cy ra ((kEn X), (T.1, T.2.1, T.2.2.1, (nI 2), T.2.2.2.2))]) (Fs := fun u_ : Unit => [mW cy ra ((kEn X), (T.1, T.2.1, T.2.2.1, (nI 2), T.2.2.2.2))]) hP hD hS hA [0] [] [0] rfl rfl (by decide) (by decide) (fun _ => rfl) (va_runV (As := [.int (nI 2)]) (rest := []) ⟨hx, hb, hml, hown, hts⟩ (c_X5_throwing l D cy ra (kEn X) T (nI 2) H.size) (cwV 1 hts gX5_giveTokens_X5_throwing rfl rfl rfl (by decide +kernel) ⟨Nat.le_of_ble_eq_true rfl, Nat.le_of_ble_eq_true rfl⟩) (kPre_V (ci := 5) hK hN hP hD [0] (by decide) rfl 0 rfl rfl) rfl rfl hl.1 rfl (lv_room (Nat.le_of_ble_eq_true rfl)) dX5_giveTokens_31 ⟨Nat.le_of_ble_eq_true rfl, Nat.le_of_ble_eq_true rfl⟩) (fun r_ u_ H locs hw hP hD hS => ?_)
  have hw : r_ = nI 0 := hw
  subst hw
  exact kr_i (post := fun r_ (u_ : Unit) => r_ = nI 0) (Bs := fun u_ : Unit => [mW cy ra (kEn X, (T.1, T.2.1, T.2.2.1, nI 2, T.2.2.2.2))]) hx hb hr hlocks rfl () hP hK hD hS rfl dX5_giveTokens_34 hQ
abbrev rm_X5_giveTokens_sf : Room := { frames := 2, cells := 0, slots := 0, locals := 47 }
set_option maxHeartbeats 1000000 in
set_option maxRecDepth 100000 in
/-- giveTokens, too few or many -/
theorem c_X5_giveTokens_sf (l : Launch) (D : va_G) (cy : Nat → ClassId) (ra : Nat → Nat) (X : rS) (T : rV) (x : Int32) (i : Nat) (v : Int32) (hx0 : x = 0) (hn : X.2.2.1.2.2.2.2.2 ≤ 8) (hi : i < X.2.2.1.2.2.2.2.2) (hv : ¬ v < (-99) ∧ ¬ nI 99 < v) (hbad : ¬ (¬ (X.2.2.1.1 i + v) < nI 0 ∧ ¬ nI 99 < (X.2.2.1.1 i + v))) (sz : Nat) : Met l yX5_giveTokens wsX5_giveTokens rm_X5_giveTokens_sf (va_Pc [.ref (ra 0), .int x, .int (nI i), .int v] (kPre D (kT cy) [mW cy ra (kEn X, T)] sz)) (va_Qi (fun r_ (u_ : Unit) => r_ = nI 0) (kFr D (kT cy) [mW cy ra (kEn X, T)] sz (fun u_ : Unit => [mW cy ra (kEn X, (T.1, T.2.1, T.2.2.1, nI 3, T.2.2.2.2))])) (va_A (bkF [mW cy ra (kEn X, T)]) sz)) 0 0 (va_A (bkF [mW cy ra (kEn X, T)]) sz) := by
  refine kOpen (y := yX5_giveTokens) (ws := wsX5_giveTokens) (cc := cX5_giveTokens) (maxL := 5) (ret := (some .int)) (av := [.ref (ra 0), .int x, .int (nI i), .int v]) (Bs := [mW cy ra (kEn X, T)]) (Qc := fun A => (va_Qi (fun r_ (u_ : Unit) => r_ = nI 0) (fun (u_ : Unit) t9 => kEnd D (kT cy) A [mW cy ra (kEn X, (T.1, T.2.1, T.2.2.1, nI 3, T.2.2.2.2))] t9) A)) (by decide) rfl (Nat.le_of_ble_eq_true rfl) ?_
  intro p e s m args below meth c A Q ls hQ hx hb hml hr hlocks hin hts hown hN hK hP hD hS hA hsz hAe hl
  clear hAe
  have hl : lv_has ls 5 [(0, .ref (ra 0)), (1, .int x), (2, .int (nI i)), (3, .int v)] := hl
  suffices K9 : ∀ (H : Heap) (locs : List Loc), va_P D vwCl (bkF [mW cy ra (kEn X, T)]) H → va_S A s.heap H locs → W p l e (headSpec wsX5_giveTokens rm_X5_giveTokens_sf).room s m args below meth c H locs 0 0 Q (F0 m 0 ls []) from K9 _ _ hP hS
  clear hP hS
  intro H locs hP hS
  refine lv_aload_n hx hb dX5_giveTokens_0 rfl (lv_at hl 0 rfl) ?_
  refine lv_iload_n hx hb dX5_giveTokens_1 rfl (lv_at hl 1 rfl) ?_
  refine lv_iload_n hx hb dX5_giveTokens_2 rfl (lv_at hl 2 rfl) ?_
  refine kc_i (Cs := [mW cy ra (kEn X, T)]) (Rs := []) (Bs := [mW cy ra (kEn X, T)]) (Cs' := fun u_ : Unit => [mW cy ra (kEn X, T)]) (Fs := fun u_ : Unit => [mW cy ra (kEn X, T)]) hP hD hS hA [0] [] [0] rfl rfl (by decide) (by decide) (fun _ => rfl) (va_runV (As := [.int x, .int (nI i)]) (rest := []) ⟨hx, hb, hml, hown, hts⟩ (c_X5_isGuest_f l D cy ra X T x (nI i) hx0 (by first | assumption | omega | decide) H.size) (cwV 2 hts gX5_giveTokens_X5_isGuest rfl rfl rfl (by decide +kernel) ⟨Nat.le_of_ble_eq_true rfl, Nat.le_of_ble_eq_true rfl⟩) (kPre_V (ci := 5) hK hN hP hD [0] (by decide) rfl 0 rfl rfl) rfl rfl hl.1 rfl (lv_room (Nat.le_of_ble_eq_true rfl)) dX5_giveTokens_3 ⟨Nat.le_of_ble_eq_true rfl, Nat.le_of_ble_eq_true rfl⟩) (fun r_ u_ H locs hw hP hD hS => ?_)
  have hw : r_ = if ¬ (nI i) < nI 0 ∧ ¬ nI X.2.2.1.2.2.2.2.2 ≤ (nI i) then nI 1 else nI 0 := hw
  subst hw
  refine kv_i (y := nI 1) (if_pos (khas (by omega) (by omega))) ?_
  refine lv_if_ne (tgt := 15) hx hb dX5_giveTokens_6 (by decide) (fun _ => ?_) (fun h => absurd h (by decide))
  refine lv_iload_n hx hb dX5_giveTokens_15 rfl (lv_at hl 3 rfl) ?_
  refine lv_i2l (v := v.toInt64) hx hb dX5_giveTokens_16 rfl ?_
  refine lv_ldc2 hx hb hown (hts (.constantLong RX5 89 (-99)) (by decide +kernel)) dX5_giveTokens_17 ?_
  refine lv_ldc2 hx hb hown (hts (.constantLong RX5 67 (99)) (by decide +kernel)) dX5_giveTokens_20 ?_
  refine kc_i (Cs := []) (Rs := [mW cy ra (kEn X, T)]) (Bs := [mW cy ra (kEn X, T)]) (Cs' := fun u_ : Unit => []) (Fs := fun u_ : Unit => [mW cy ra (kEn X, T)]) hP hD hS hA [] [0] [0] rfl rfl (by decide) (by decide) (fun _ => rfl) (va_runS (As := [.long v.toInt64, .long (-99), .long (99)]) (rest := []) ⟨hx, hb, hml, hown, hts⟩ (c_X5_in l D cy v.toInt64 (-99) (99) H.size) (va_cwS 3 hts gX5_giveTokens_X5_in rfl rfl rfl (by decide +kernel) ⟨Nat.le_of_ble_eq_true rfl, Nat.le_of_ble_eq_true rfl⟩) (kPre_S hK hN hP hD [] (by decide) rfl) rfl rfl hl.1 rfl (lv_room (Nat.le_of_ble_eq_true rfl)) dX5_giveTokens_23 ⟨Nat.le_of_ble_eq_true rfl, Nat.le_of_ble_eq_true rfl⟩) (fun r_ u_ H locs hw hP hD hS => ?_)
  have hw : r_ = if kIn v.toInt64 (-99) (99) then nI 1 else nI 0 := hw
  subst hw
  refine kv_i (y := nI 1) (if_pos ((kIn32 (y := (-99)) (z := nI 99) (by decide) (by decide)).mpr hv)) ?_
  refine lv_if_ne (tgt := 35) hx hb dX5_giveTokens_26 (by decide) (fun _ => ?_) (fun h => absurd h (by decide))
  refine lv_iload_n hx hb dX5_giveTokens_35 rfl (lv_at hl 1 rfl) ?_
  refine lv_iload_n hx hb dX5_giveTokens_36 rfl (lv_at hl 2 rfl) ?_
  refine kc_i (Cs := []) (Rs := [mW cy ra (kEn X, T)]) (Bs := [mW cy ra (kEn X, T)]) (Cs' := fun u_ : Unit => []) (Fs := fun u_ : Unit => [mW cy ra (kEn X, T)]) hP hD hS hA [] [0] [0] rfl rfl (by decide) (by decide) (fun _ => rfl) (va_runS (As := [.int x, .int (nI i)]) (rest := []) ⟨hx, hb, hml, hown, hts⟩ (c_X5_person_f l D cy x i hx0 H.size) (va_cwS 2 hts gX5_giveTokens_X5_person rfl rfl rfl (by decide +kernel) ⟨Nat.le_of_ble_eq_true rfl, Nat.le_of_ble_eq_true rfl⟩) (kPre_S hK hN hP hD [] (by decide) rfl) rfl rfl hl.1 rfl (lv_room (Nat.le_of_ble_eq_true rfl)) dX5_giveTokens_37 ⟨Nat.le_of_ble_eq_true rfl, Nat.le_of_ble_eq_true rfl⟩) (fun r_ u_ H locs hw hP hD hS => ?_)
  have hw : r_ = nI (8 + i) := hw
  subst hw
  refine lv_istore (lv' := [(4, .int (nI (8 + i))), (0, .ref (ra 0)), (1, .int x), (2, .int (nI i)), (3, .int v)]) hx hb dX5_giveTokens_40 hl (by decide) rfl (fun ls hl => ?_)
  refine lv_aload_n hx hb dX5_giveTokens_42 rfl (lv_at hl 1 rfl) ?_
  refine lv_iload hx hb dX5_giveTokens_43 (lv_at hl 0 rfl) ?_
  refine lv_iconst (v := nI 0) hx hb dX5_giveTokens_45 (by decide) ?_
  refine kc_i (Cs := [mW cy ra (kEn X, T)]) (Rs := []) (Bs := [mW cy ra (kEn X, T)]) (Cs' := fun u_ : Unit => [mW cy ra (kEn X, T)]) (Fs := fun u_ : Unit => [mW cy ra (kEn X, T)]) hP hD hS hA [0] [] [0] rfl rfl (by decide) (by decide) (fun _ => rfl) (va_runV (As := [.int (nI (8 + i)), .int (nI 0)]) (rest := []) ⟨hx, hb, hml, hown, hts⟩ (c_X5_of l D cy ra (kEn X) T (8 + i) 0 (by first | assumption | omega | decide) (by first | assumption | omega | decide) H.size) (cwV 2 hts gX5_giveTokens_X5_of rfl rfl rfl (by decide +kernel) ⟨Nat.le_of_ble_eq_true rfl, Nat.le_of_ble_eq_true rfl⟩) (kPre_V (ci := 5) hK hN hP hD [0] (by decide) rfl 0 rfl rfl) rfl rfl hl.1 rfl (lv_room (Nat.le_of_ble_eq_true rfl)) dX5_giveTokens_46 ⟨Nat.le_of_ble_eq_true rfl, Nat.le_of_ble_eq_true rfl⟩) (fun r_ u_ H locs hw hP hD hS => ?_)
  have hw : r_ = (kEn X) (92 + 6 * (8 + i) + 0) := hw
  subst hw
  refine kv_i (y := X.2.2.1.1 i) ((kq_F (by decide)).trans (if_pos hi)) ?_
  refine lv_iload_n hx hb dX5_giveTokens_49 rfl (lv_at hl 4 rfl) ?_
  refine lv_iadd hx hb dX5_giveTokens_50 ?_
  refine lv_i2l (v := ((X.2.2.1.1 i) + v).toInt64) hx hb dX5_giveTokens_51 rfl ?_
  refine lv_lconst (v := 0) hx hb dX5_giveTokens_52 (by decide) ?_
  refine lv_ldc2 hx hb hown (hts (.constantLong RX5 67 (99)) (by decide +kernel)) dX5_giveTokens_53 ?_
  refine kc_i (Cs := []) (Rs := [mW cy ra (kEn X, T)]) (Bs := [mW cy ra (kEn X, T)]) (Cs' := fun u_ : Unit => []) (Fs := fun u_ : Unit => [mW cy ra (kEn X, T)]) hP hD hS hA [] [0] [0] rfl rfl (by decide) (by decide) (fun _ => rfl) (va_runS (As := [.long (((X.2.2.1.1 i) + v).toInt64), .long 0, .long (99)]) (rest := []) ⟨hx, hb, hml, hown, hts⟩ (c_X5_in l D cy (((X.2.2.1.1 i) + v).toInt64) 0 (99) H.size) (va_cwS 3 hts gX5_giveTokens_X5_in rfl rfl rfl (by decide +kernel) ⟨Nat.le_of_ble_eq_true rfl, Nat.le_of_ble_eq_true rfl⟩) (kPre_S hK hN hP hD [] (by decide) rfl) rfl rfl hl.1 rfl (lv_room (Nat.le_of_ble_eq_true rfl)) dX5_giveTokens_56 ⟨Nat.le_of_ble_eq_true rfl, Nat.le_of_ble_eq_true rfl⟩) (fun r_ u_ H locs hw hP hD hS => ?_)
  have hw : r_ = if kIn (((X.2.2.1.1 i) + v).toInt64) 0 (99) then nI 1 else nI 0 := hw
  subst hw
  refine kv_i (y := nI 0) (if_neg (fun h => hbad ((kIn32 (y := nI 0) (z := nI 99) (by decide) (by decide)).mp h))) ?_
  refine lv_if_ne (tgt := 68) hx hb dX5_giveTokens_59 (by decide) (fun h => absurd h (by decide)) (fun _ => ?_)
  refine lv_aload_n hx hb dX5_giveTokens_62 rfl (lv_at hl 1 rfl) ?_
  refine lv_iconst (v := nI 3) hx hb dX5_giveTokens_63 (by decide) ?_
  refine kc_i (Cs := [mW cy ra (kEn X, T)]) (Rs := []) (Bs := [mW cy ra (kEn X, T)]) (Cs' := fun u_ : Unit => [mW cy ra ((kEn X), (T.1, T.2.1, T.2.2.1, (nI 3), T.2.2.2.2))]) (Fs := fun u_ : Unit => [mW cy ra ((kEn X), (T.1, T.2.1, T.2.2.1, (nI 3), T.2.2.2.2))]) hP hD hS hA [0] [] [0] rfl rfl (by decide) (by decide) (fun _ => rfl) (va_runV (As := [.int (nI 3)]) (rest := []) ⟨hx, hb, hml, hown, hts⟩ (c_X5_throwing l D cy ra (kEn X) T (nI 3) H.size) (cwV 1 hts gX5_giveTokens_X5_throwing rfl rfl rfl (by decide +kernel) ⟨Nat.le_of_ble_eq_true rfl, Nat.le_of_ble_eq_true rfl⟩) (kPre_V (ci := 5) hK hN hP hD [0] (by decide) rfl 0 rfl rfl) rfl rfl hl.1 rfl (lv_room (Nat.le_of_ble_eq_true rfl)) dX5_giveTokens_64 ⟨Nat.le_of_ble_eq_true rfl, Nat.le_of_ble_eq_true rfl⟩) (fun r_ u_ H locs hw hP hD hS => ?_)
  have hw : r_ = nI 0 := hw
  subst hw
  exact kr_i (post := fun r_ (u_ : Unit) => r_ = nI 0) (Bs := fun u_ : Unit => [mW cy ra (kEn X, (T.1, T.2.1, T.2.2.1, nI 3, T.2.2.2.2))]) hx hb hr hlocks rfl () hP hK hD hS rfl dX5_giveTokens_67 hQ
abbrev rm_X5_setHere_f : Room := { frames := 2, cells := 0, slots := 0, locals := 47 }
set_option maxHeartbeats 1000000 in
set_option maxRecDepth 100000 in
/-- setHere -/
theorem c_X5_setHere_f (l : Launch) (D : va_G) (cy : Nat → ClassId) (ra : Nat → Nat) (X : rS) (T : rV) (x : Int32) (i : Nat) (y : Int32) (hx0 : x = 0) (hn : X.2.2.1.2.2.2.2.2 ≤ 8) (hi : i < X.2.2.1.2.2.2.2.2) (hy : y = nI 0 ∨ y = nI 1) (hsm : T.2.2.1 ≤ 4) (sz : Nat) : Met l yX5_setHere wsX5_setHere rm_X5_setHere_f (va_Pc [.ref (ra 0), .int x, .int (nI i), .int y] (kPre D (kT cy) [mW cy ra (kEn X, T)] sz)) (va_Qi (fun r_ (u_ : Unit) => r_ = X.2.2.1.2.2.2.1 i) (kFr D (kT cy) [mW cy ra (kEn X, T)] sz (fun u_ : Unit => [mW cy ra (kEn (X.1, X.2.1, (X.2.2.1.1, X.2.2.1.2.1, X.2.2.1.2.2.1, upd X.2.2.1.2.2.2.1 i y, X.2.2.1.2.2.2.2), X.2.2.2), (kRsv (kEn X) T.1 T.2.2.1, T.2.1, kSc T.2.2.1, nI 0, T.2.2.2.2))])) (va_A (bkF [mW cy ra (kEn X, T)]) sz)) 0 0 (va_A (bkF [mW cy ra (kEn X, T)]) sz) := by
  refine kOpen (y := yX5_setHere) (ws := wsX5_setHere) (cc := cX5_setHere) (maxL := 6) (ret := (some .int)) (av := [.ref (ra 0), .int x, .int (nI i), .int y]) (Bs := [mW cy ra (kEn X, T)]) (Qc := fun A => (va_Qi (fun r_ (u_ : Unit) => r_ = X.2.2.1.2.2.2.1 i) (fun (u_ : Unit) t9 => kEnd D (kT cy) A [mW cy ra (kEn (X.1, X.2.1, (X.2.2.1.1, X.2.2.1.2.1, X.2.2.1.2.2.1, upd X.2.2.1.2.2.2.1 i y, X.2.2.1.2.2.2.2), X.2.2.2), (kRsv (kEn X) T.1 T.2.2.1, T.2.1, kSc T.2.2.1, nI 0, T.2.2.2.2))] t9) A)) (by decide) rfl (Nat.le_of_ble_eq_true rfl) ?_
  intro p e s m args below meth c A Q ls hQ hx hb hml hr hlocks hin hts hown hN hK hP hD hS hA hsz hAe hl
  clear hAe
  have hl : lv_has ls 6 [(0, .ref (ra 0)), (1, .int x), (2, .int (nI i)), (3, .int y)] := hl
  suffices K9 : ∀ (H : Heap) (locs : List Loc), va_P D vwCl (bkF [mW cy ra (kEn X, T)]) H → va_S A s.heap H locs → W p l e (headSpec wsX5_setHere rm_X5_setHere_f).room s m args below meth c H locs 0 0 Q (F0 m 0 ls []) from K9 _ _ hP hS
  clear hP hS
  intro H locs hP hS
  refine lv_aload_n hx hb dX5_setHere_0 rfl (lv_at hl 0 rfl) ?_
  refine lv_iload_n hx hb dX5_setHere_1 rfl (lv_at hl 1 rfl) ?_
  refine lv_iload_n hx hb dX5_setHere_2 rfl (lv_at hl 2 rfl) ?_
  refine kc_i (Cs := [mW cy ra (kEn X, T)]) (Rs := []) (Bs := [mW cy ra (kEn X, T)]) (Cs' := fun u_ : Unit => [mW cy ra (kEn X, T)]) (Fs := fun u_ : Unit => [mW cy ra (kEn X, T)]) hP hD hS hA [0] [] [0] rfl rfl (by decide) (by decide) (fun _ => rfl) (va_runV (As := [.int x, .int (nI i)]) (rest := []) ⟨hx, hb, hml, hown, hts⟩ (c_X5_isGuest_f l D cy ra X T x (nI i) hx0 (by first | assumption | omega | decide) H.size) (cwV 2 hts gX5_setHere_X5_isGuest rfl rfl rfl (by decide +kernel) ⟨Nat.le_of_ble_eq_true rfl, Nat.le_of_ble_eq_true rfl⟩) (kPre_V (ci := 5) hK hN hP hD [0] (by decide) rfl 0 rfl rfl) rfl rfl hl.1 rfl (lv_room (Nat.le_of_ble_eq_true rfl)) dX5_setHere_3 ⟨Nat.le_of_ble_eq_true rfl, Nat.le_of_ble_eq_true rfl⟩) (fun r_ u_ H locs hw hP hD hS => ?_)
  have hw : r_ = if ¬ (nI i) < nI 0 ∧ ¬ nI X.2.2.1.2.2.2.2.2 ≤ (nI i) then nI 1 else nI 0 := hw
  subst hw
  refine kv_i (y := nI 1) (if_pos (khas (by omega) (by omega))) ?_
  refine lv_if_ne (tgt := 15) hx hb dX5_setHere_6 (by decide) (fun _ => ?_) (fun h => absurd h (by decide))
  refine lv_aload_n hx hb dX5_setHere_15 rfl (lv_at hl 0 rfl) ?_
  refine kc_v (Cs := [mW cy ra (kEn X, T)]) (Rs := []) (Bs := [mW cy ra (kEn X, T)]) (Cs' := fun u_ : Unit => [mW cy ra (kEn X, (kRsv (kEn X) T.1 T.2.2.1, T.2.1, kSc T.2.2.1, T.2.2.2))]) (Fs := fun u_ : Unit => [mW cy ra (kEn X, (kRsv (kEn X) T.1 T.2.2.1, T.2.1, kSc T.2.2.1, T.2.2.2))]) hP hD hS hA [0] [] [0] rfl rfl (by decide) (by decide) (fun _ => rfl) (va_runV (As := []) (rest := []) ⟨hx, hb, hml, hown, hts⟩ (c_X5_save l D cy ra X T (by first | assumption | omega | decide) H.size) (cwV 0 hts gX5_setHere_X5_save rfl rfl rfl (by decide +kernel) ⟨Nat.le_of_ble_eq_true rfl, Nat.le_of_ble_eq_true rfl⟩) (kPre_V (ci := 5) hK hN hP hD [0] (by decide) rfl 0 rfl rfl) rfl rfl hl.1 rfl (lv_room (Nat.le_of_ble_eq_true rfl)) dX5_setHere_16 ⟨Nat.le_of_ble_eq_true rfl, Nat.le_of_ble_eq_true rfl⟩) (fun u_ H locs hw hP hD hS => ?_)
  refine lv_iload_n hx hb dX5_setHere_19 rfl (lv_at hl 1 rfl) ?_
  refine lv_iload_n hx hb dX5_setHere_20 rfl (lv_at hl 2 rfl) ?_
  refine kc_i (Cs := []) (Rs := [mW cy ra (kEn X, (kRsv (kEn X) T.1 T.2.2.1, T.2.1, kSc T.2.2.1, T.2.2.2))]) (Bs := [mW cy ra (kEn X, (kRsv (kEn X) T.1 T.2.2.1, T.2.1, kSc T.2.2.1, T.2.2.2))]) (Cs' := fun u_ : Unit => []) (Fs := fun u_ : Unit => [mW cy ra (kEn X, (kRsv (kEn X) T.1 T.2.2.1, T.2.1, kSc T.2.2.1, T.2.2.2))]) hP hD hS hA [] [0] [0] rfl rfl (by decide) (by decide) (fun _ => rfl) (va_runS (As := [.int x, .int (nI i)]) (rest := []) ⟨hx, hb, hml, hown, hts⟩ (c_X5_person_f l D cy x i hx0 H.size) (va_cwS 2 hts gX5_setHere_X5_person rfl rfl rfl (by decide +kernel) ⟨Nat.le_of_ble_eq_true rfl, Nat.le_of_ble_eq_true rfl⟩) (kPre_S hK hN hP hD [] (by decide) rfl) rfl rfl hl.1 rfl (lv_room (Nat.le_of_ble_eq_true rfl)) dX5_setHere_21 ⟨Nat.le_of_ble_eq_true rfl, Nat.le_of_ble_eq_true rfl⟩) (fun r_ u_ H locs hw hP hD hS => ?_)
  have hw : r_ = nI (8 + i) := hw
  subst hw
  refine lv_istore (lv' := [(4, .int (nI (8 + i))), (0, .ref (ra 0)), (1, .int x), (2, .int (nI i)), (3, .int y)]) hx hb dX5_setHere_24 hl (by decide) rfl (fun ls hl => ?_)
  refine lv_aload_n hx hb dX5_setHere_26 rfl (lv_at hl 1 rfl) ?_
  refine lv_iload hx hb dX5_setHere_27 (lv_at hl 0 rfl) ?_
  refine lv_iconst (v := nI 3) hx hb dX5_setHere_29 (by decide) ?_
  refine kc_i (Cs := [mW cy ra (kEn X, (kRsv (kEn X) T.1 T.2.2.1, T.2.1, kSc T.2.2.1, T.2.2.2))]) (Rs := []) (Bs := [mW cy ra (kEn X, (kRsv (kEn X) T.1 T.2.2.1, T.2.1, kSc T.2.2.1, T.2.2.2))]) (Cs' := fun u_ : Unit => [mW cy ra (kEn X, (kRsv (kEn X) T.1 T.2.2.1, T.2.1, kSc T.2.2.1, T.2.2.2))]) (Fs := fun u_ : Unit => [mW cy ra (kEn X, (kRsv (kEn X) T.1 T.2.2.1, T.2.1, kSc T.2.2.1, T.2.2.2))]) hP hD hS hA [0] [] [0] rfl rfl (by decide) (by decide) (fun _ => rfl) (va_runV (As := [.int (nI (8 + i)), .int (nI 3)]) (rest := []) ⟨hx, hb, hml, hown, hts⟩ (c_X5_of l D cy ra (kEn X) (kRsv (kEn X) T.1 T.2.2.1, T.2.1, kSc T.2.2.1, T.2.2.2) (8 + i) 3 (by first | assumption | omega | decide) (by first | assumption | omega | decide) H.size) (cwV 2 hts gX5_setHere_X5_of rfl rfl rfl (by decide +kernel) ⟨Nat.le_of_ble_eq_true rfl, Nat.le_of_ble_eq_true rfl⟩) (kPre_V (ci := 5) hK hN hP hD [0] (by decide) rfl 0 rfl rfl) rfl rfl hl.1 rfl (lv_room (Nat.le_of_ble_eq_true rfl)) dX5_setHere_30 ⟨Nat.le_of_ble_eq_true rfl, Nat.le_of_ble_eq_true rfl⟩) (fun r_ u_ H locs hw hP hD hS => ?_)
  have hw : r_ = (kEn X) (92 + 6 * (8 + i) + 3) := hw
  subst hw
  refine kv_i (y := X.2.2.1.2.2.2.1 i) ((kq_F (by decide)).trans (if_pos hi)) ?_
  refine lv_istore (lv' := [(5, .int (X.2.2.1.2.2.2.1 i)), (4, .int (nI (8 + i))), (0, .ref (ra 0)), (1, .int x), (2, .int (nI i)), (3, .int y)]) hx hb dX5_setHere_33 hl (by decide) rfl (fun ls hl => ?_)
  refine lv_aload_n hx hb dX5_setHere_35 rfl (lv_at hl 2 rfl) ?_
  refine va_get (D := D) (ci := 5) (v := .ref (ra 1)) (C := RX5) (T := TX5) (N := 16) hx hb hts (by decide +kernel) hown hK hP 0 rfl rfl 0 (by decide) (hts (.fieldLink RX5 7 "DanceHallModel" "all" "[I") (by decide +kernel)) (fun _ h9 => h9) rfl dX5_setHere_36 ?_
  refine lv_iload hx hb dX5_setHere_39 (lv_at hl 1 rfl) ?_
  refine lv_iconst (v := nI 3) hx hb dX5_setHere_41 (by decide) ?_
  refine kc_i (Cs := []) (Rs := [mW cy ra (kEn X, (kRsv (kEn X) T.1 T.2.2.1, T.2.1, kSc T.2.2.1, T.2.2.2))]) (Bs := [mW cy ra (kEn X, (kRsv (kEn X) T.1 T.2.2.1, T.2.1, kSc T.2.2.1, T.2.2.2))]) (Cs' := fun u_ : Unit => []) (Fs := fun u_ : Unit => [mW cy ra (kEn X, (kRsv (kEn X) T.1 T.2.2.1, T.2.1, kSc T.2.2.1, T.2.2.2))]) hP hD hS hA [] [0] [0] rfl rfl (by decide) (by decide) (fun _ => rfl) (va_runS (As := [.int (nI (8 + i)), .int (nI 3)]) (rest := [.ref (ra 1)]) ⟨hx, hb, hml, hown, hts⟩ (c_X5_at l D cy (8 + i) 3 H.size) (va_cwS 2 hts gX5_setHere_X5_at rfl rfl rfl (by decide +kernel) ⟨Nat.le_of_ble_eq_true rfl, Nat.le_of_ble_eq_true rfl⟩) (kPre_S hK hN hP hD [] (by decide) rfl) rfl rfl hl.1 rfl (lv_room (Nat.le_of_ble_eq_true rfl)) dX5_setHere_42 ⟨Nat.le_of_ble_eq_true rfl, Nat.le_of_ble_eq_true rfl⟩) (fun r_ u_ H locs hw hP hD hS => ?_)
  have hw : r_ = nI (92 + 6 * (8 + i) + 3) := hw
  subst hw
  rcases hy with h9 | h9
  · skip
    have hl : lv_has ls 6 [(5, .int (X.2.2.1.2.2.2.1 i)), (4, .int (nI (8 + i))), (0, .ref (ra 0)), (1, .int x), (2, .int (nI i)), (3, .int (nI 0))] := by rw [show nI 0 = y from h9.symm]; exact hl
    refine lv_iload_n hx hb dX5_setHere_45 rfl (lv_at hl 5 rfl) ?_
    refine lv_if_eq (tgt := 53) hx hb dX5_setHere_46 (by decide) (fun _ => ?_) (fun h => absurd h (by decide))
    refine lv_iconst (v := nI 0) hx hb dX5_setHere_53 (by decide) ?_
    refine va_iast hx hb hK hP hD hS 1 0 rfl rfl (vp_in_nI (n := 92 + 6 * (8 + i) + 3) (N := 188) (by omega) (by omega)) dX5_setHere_54 (fun H locs hP hD hS => ?_)
    rw [nI_clamp (n := 92 + 6 * (8 + i) + 3) (by omega)] at hP hD
    have hP : va_P D vwCl (bkF [mW cy ra (upd (kEn X) (92 + 6 * (8 + i) + 3) (nI 0), (kRsv (kEn X) T.1 T.2.2.1, T.2.1, kSc T.2.2.1, T.2.2.2))]) H := hP
    have hD : va_D A (bkF [mW cy ra (upd (kEn X) (92 + 6 * (8 + i) + 3) (nI 0), (kRsv (kEn X) T.1 T.2.2.1, T.2.1, kSc T.2.2.1, T.2.2.2))]) := hD
    have hP := kP_cell (g := (kEn (X.1, X.2.1, (X.2.2.1.1, X.2.2.1.2.1, X.2.2.1.2.2.1, upd X.2.2.1.2.2.2.1 i y, X.2.2.1.2.2.2.2), X.2.2.2))) hP 1 rfl (fun j hj => by rw [h9]; exact kqu_F3 hi hn j hj)
    have hD := hD.set (p := 1) (e := .inl (cy 0, 188, .inl (kEn (X.1, X.2.1, (X.2.2.1.1, X.2.2.1.2.1, X.2.2.1.2.2.1, upd X.2.2.1.2.2.2.1 i y, X.2.2.1.2.2.2.2), X.2.2.2)))) rfl
    have hP : va_P D vwCl (bkF [mW cy ra (kEn (X.1, X.2.1, (X.2.2.1.1, X.2.2.1.2.1, X.2.2.1.2.2.1, upd X.2.2.1.2.2.2.1 i y, X.2.2.1.2.2.2.2), X.2.2.2), (kRsv (kEn X) T.1 T.2.2.1, T.2.1, kSc T.2.2.1, T.2.2.2))]) H := hP
    have hD : va_D A (bkF [mW cy ra (kEn (X.1, X.2.1, (X.2.2.1.1, X.2.2.1.2.1, X.2.2.1.2.2.1, upd X.2.2.1.2.2.2.1 i y, X.2.2.1.2.2.2.2), X.2.2.2), (kRsv (kEn X) T.1 T.2.2.1, T.2.1, kSc T.2.2.1, T.2.2.2))]) := hD
    refine lv_aload_n hx hb dX5_setHere_55 rfl (lv_at hl 2 rfl) ?_
    refine lv_iload hx hb dX5_setHere_56 (lv_at hl 0 rfl) ?_
    refine kc_i (Cs := [mW cy ra (kEn (X.1, X.2.1, (X.2.2.1.1, X.2.2.1.2.1, X.2.2.1.2.2.1, upd X.2.2.1.2.2.2.1 i y, X.2.2.1.2.2.2.2), X.2.2.2), (kRsv (kEn X) T.1 T.2.2.1, T.2.1, kSc T.2.2.1, T.2.2.2))]) (Rs := []) (Bs := [mW cy ra (kEn (X.1, X.2.1, (X.2.2.1.1, X.2.2.1.2.1, X.2.2.1.2.2.1, upd X.2.2.1.2.2.2.1 i y, X.2.2.1.2.2.2.2), X.2.2.2), (kRsv (kEn X) T.1 T.2.2.1, T.2.1, kSc T.2.2.1, T.2.2.2))]) (Cs' := fun u_ : Unit => [mW cy ra ((kEn (X.1, X.2.1, (X.2.2.1.1, X.2.2.1.2.1, X.2.2.1.2.2.1, upd X.2.2.1.2.2.2.1 i y, X.2.2.1.2.2.2.2), X.2.2.2)), ((kRsv (kEn X) T.1 T.2.2.1), T.2.1, (kSc T.2.2.1), nI 0, T.2.2.2.2))]) (Fs := fun u_ : Unit => [mW cy ra ((kEn (X.1, X.2.1, (X.2.2.1.1, X.2.2.1.2.1, X.2.2.1.2.2.1, upd X.2.2.1.2.2.2.1 i y, X.2.2.1.2.2.2.2), X.2.2.2)), ((kRsv (kEn X) T.1 T.2.2.1), T.2.1, (kSc T.2.2.1), nI 0, T.2.2.2.2))]) hP hD hS hA [0] [] [0] rfl rfl (by decide) (by decide) (fun _ => rfl) (va_runV (As := [.int (X.2.2.1.2.2.2.1 i)]) (rest := []) ⟨hx, hb, hml, hown, hts⟩ (c_X5_fine l D cy ra (kEn (X.1, X.2.1, (X.2.2.1.1, X.2.2.1.2.1, X.2.2.1.2.2.1, upd X.2.2.1.2.2.2.1 i y, X.2.2.1.2.2.2.2), X.2.2.2)) (kRsv (kEn X) T.1 T.2.2.1, T.2.1, kSc T.2.2.1, T.2.2.2) (X.2.2.1.2.2.2.1 i) H.size) (cwV 1 hts gX5_setHere_X5_fine rfl rfl rfl (by decide +kernel) ⟨Nat.le_of_ble_eq_true rfl, Nat.le_of_ble_eq_true rfl⟩) (kPre_V (ci := 5) hK hN hP hD [0] (by decide) rfl 0 rfl rfl) rfl rfl hl.1 rfl (lv_room (Nat.le_of_ble_eq_true rfl)) dX5_setHere_58 ⟨Nat.le_of_ble_eq_true rfl, Nat.le_of_ble_eq_true rfl⟩) (fun r_ u_ H locs hw hP hD hS => ?_)
    have hw : r_ = (X.2.2.1.2.2.2.1 i) := hw
    subst hw
    exact kr_i (post := fun r_ (u_ : Unit) => r_ = X.2.2.1.2.2.2.1 i) (Bs := fun u_ : Unit => [mW cy ra (kEn (X.1, X.2.1, (X.2.2.1.1, X.2.2.1.2.1, X.2.2.1.2.2.1, upd X.2.2.1.2.2.2.1 i y, X.2.2.1.2.2.2.2), X.2.2.2), (kRsv (kEn X) T.1 T.2.2.1, T.2.1, kSc T.2.2.1, nI 0, T.2.2.2.2))]) hx hb hr hlocks rfl () hP hK hD hS rfl dX5_setHere_61 hQ
  · skip
    have hl : lv_has ls 6 [(5, .int (X.2.2.1.2.2.2.1 i)), (4, .int (nI (8 + i))), (0, .ref (ra 0)), (1, .int x), (2, .int (nI i)), (3, .int (nI 1))] := by rw [show nI 1 = y from h9.symm]; exact hl
    refine lv_iload_n hx hb dX5_setHere_45 rfl (lv_at hl 5 rfl) ?_
    refine lv_if_eq (tgt := 53) hx hb dX5_setHere_46 (by decide) (fun h => absurd h (by decide)) (fun _ => ?_)
    refine lv_iconst (v := nI 1) hx hb dX5_setHere_49 (by decide) ?_
    refine lv_goto (tgt := 54) hx hb dX5_setHere_50 (by decide) ?_
    refine va_iast hx hb hK hP hD hS 1 0 rfl rfl (vp_in_nI (n := 92 + 6 * (8 + i) + 3) (N := 188) (by omega) (by omega)) dX5_setHere_54 (fun H locs hP hD hS => ?_)
    rw [nI_clamp (n := 92 + 6 * (8 + i) + 3) (by omega)] at hP hD
    have hP : va_P D vwCl (bkF [mW cy ra (upd (kEn X) (92 + 6 * (8 + i) + 3) (nI 1), (kRsv (kEn X) T.1 T.2.2.1, T.2.1, kSc T.2.2.1, T.2.2.2))]) H := hP
    have hD : va_D A (bkF [mW cy ra (upd (kEn X) (92 + 6 * (8 + i) + 3) (nI 1), (kRsv (kEn X) T.1 T.2.2.1, T.2.1, kSc T.2.2.1, T.2.2.2))]) := hD
    have hP := kP_cell (g := (kEn (X.1, X.2.1, (X.2.2.1.1, X.2.2.1.2.1, X.2.2.1.2.2.1, upd X.2.2.1.2.2.2.1 i y, X.2.2.1.2.2.2.2), X.2.2.2))) hP 1 rfl (fun j hj => by rw [h9]; exact kqu_F3 hi hn j hj)
    have hD := hD.set (p := 1) (e := .inl (cy 0, 188, .inl (kEn (X.1, X.2.1, (X.2.2.1.1, X.2.2.1.2.1, X.2.2.1.2.2.1, upd X.2.2.1.2.2.2.1 i y, X.2.2.1.2.2.2.2), X.2.2.2)))) rfl
    have hP : va_P D vwCl (bkF [mW cy ra (kEn (X.1, X.2.1, (X.2.2.1.1, X.2.2.1.2.1, X.2.2.1.2.2.1, upd X.2.2.1.2.2.2.1 i y, X.2.2.1.2.2.2.2), X.2.2.2), (kRsv (kEn X) T.1 T.2.2.1, T.2.1, kSc T.2.2.1, T.2.2.2))]) H := hP
    have hD : va_D A (bkF [mW cy ra (kEn (X.1, X.2.1, (X.2.2.1.1, X.2.2.1.2.1, X.2.2.1.2.2.1, upd X.2.2.1.2.2.2.1 i y, X.2.2.1.2.2.2.2), X.2.2.2), (kRsv (kEn X) T.1 T.2.2.1, T.2.1, kSc T.2.2.1, T.2.2.2))]) := hD
    refine lv_aload_n hx hb dX5_setHere_55 rfl (lv_at hl 2 rfl) ?_
    refine lv_iload hx hb dX5_setHere_56 (lv_at hl 0 rfl) ?_
    refine kc_i (Cs := [mW cy ra (kEn (X.1, X.2.1, (X.2.2.1.1, X.2.2.1.2.1, X.2.2.1.2.2.1, upd X.2.2.1.2.2.2.1 i y, X.2.2.1.2.2.2.2), X.2.2.2), (kRsv (kEn X) T.1 T.2.2.1, T.2.1, kSc T.2.2.1, T.2.2.2))]) (Rs := []) (Bs := [mW cy ra (kEn (X.1, X.2.1, (X.2.2.1.1, X.2.2.1.2.1, X.2.2.1.2.2.1, upd X.2.2.1.2.2.2.1 i y, X.2.2.1.2.2.2.2), X.2.2.2), (kRsv (kEn X) T.1 T.2.2.1, T.2.1, kSc T.2.2.1, T.2.2.2))]) (Cs' := fun u_ : Unit => [mW cy ra ((kEn (X.1, X.2.1, (X.2.2.1.1, X.2.2.1.2.1, X.2.2.1.2.2.1, upd X.2.2.1.2.2.2.1 i y, X.2.2.1.2.2.2.2), X.2.2.2)), ((kRsv (kEn X) T.1 T.2.2.1), T.2.1, (kSc T.2.2.1), nI 0, T.2.2.2.2))]) (Fs := fun u_ : Unit => [mW cy ra ((kEn (X.1, X.2.1, (X.2.2.1.1, X.2.2.1.2.1, X.2.2.1.2.2.1, upd X.2.2.1.2.2.2.1 i y, X.2.2.1.2.2.2.2), X.2.2.2)), ((kRsv (kEn X) T.1 T.2.2.1), T.2.1, (kSc T.2.2.1), nI 0, T.2.2.2.2))]) hP hD hS hA [0] [] [0] rfl rfl (by decide) (by decide) (fun _ => rfl) (va_runV (As := [.int (X.2.2.1.2.2.2.1 i)]) (rest := []) ⟨hx, hb, hml, hown, hts⟩ (c_X5_fine l D cy ra (kEn (X.1, X.2.1, (X.2.2.1.1, X.2.2.1.2.1, X.2.2.1.2.2.1, upd X.2.2.1.2.2.2.1 i y, X.2.2.1.2.2.2.2), X.2.2.2)) (kRsv (kEn X) T.1 T.2.2.1, T.2.1, kSc T.2.2.1, T.2.2.2) (X.2.2.1.2.2.2.1 i) H.size) (cwV 1 hts gX5_setHere_X5_fine rfl rfl rfl (by decide +kernel) ⟨Nat.le_of_ble_eq_true rfl, Nat.le_of_ble_eq_true rfl⟩) (kPre_V (ci := 5) hK hN hP hD [0] (by decide) rfl 0 rfl rfl) rfl rfl hl.1 rfl (lv_room (Nat.le_of_ble_eq_true rfl)) dX5_setHere_58 ⟨Nat.le_of_ble_eq_true rfl, Nat.le_of_ble_eq_true rfl⟩) (fun r_ u_ H locs hw hP hD hS => ?_)
    have hw : r_ = (X.2.2.1.2.2.2.1 i) := hw
    subst hw
    exact kr_i (post := fun r_ (u_ : Unit) => r_ = X.2.2.1.2.2.2.1 i) (Bs := fun u_ : Unit => [mW cy ra (kEn (X.1, X.2.1, (X.2.2.1.1, X.2.2.1.2.1, X.2.2.1.2.2.1, upd X.2.2.1.2.2.2.1 i y, X.2.2.1.2.2.2.2), X.2.2.2), (kRsv (kEn X) T.1 T.2.2.1, T.2.1, kSc T.2.2.1, nI 0, T.2.2.2.2))]) hx hb hr hlocks rfl () hP hK hD hS rfl dX5_setHere_61 hQ
abbrev rm_X5_setHere_if : Room := { frames := 2, cells := 0, slots := 0, locals := 47 }
set_option maxHeartbeats 1000000 in
set_option maxRecDepth 100000 in
/-- setHere, no guest -/
theorem c_X5_setHere_if (l : Launch) (D : va_G) (cy : Nat → ClassId) (ra : Nat → Nat) (X : rS) (T : rV) (x : Int32) (i : Int32) (y : Int32) (hx0 : x = 0) (hn : X.2.2.1.2.2.2.2.2 ≤ 8) (hbad : ¬ (¬ i < nI 0 ∧ ¬ nI X.2.2.1.2.2.2.2.2 ≤ i)) (sz : Nat) : Met l yX5_setHere wsX5_setHere rm_X5_setHere_if (va_Pc [.ref (ra 0), .int x, .int i, .int y] (kPre D (kT cy) [mW cy ra (kEn X, T)] sz)) (va_Qi (fun r_ (u_ : Unit) => r_ = nI 0) (kFr D (kT cy) [mW cy ra (kEn X, T)] sz (fun u_ : Unit => [mW cy ra (kEn X, (T.1, T.2.1, T.2.2.1, nI 1, T.2.2.2.2))])) (va_A (bkF [mW cy ra (kEn X, T)]) sz)) 0 0 (va_A (bkF [mW cy ra (kEn X, T)]) sz) := by
  refine kOpen (y := yX5_setHere) (ws := wsX5_setHere) (cc := cX5_setHere) (maxL := 6) (ret := (some .int)) (av := [.ref (ra 0), .int x, .int i, .int y]) (Bs := [mW cy ra (kEn X, T)]) (Qc := fun A => (va_Qi (fun r_ (u_ : Unit) => r_ = nI 0) (fun (u_ : Unit) t9 => kEnd D (kT cy) A [mW cy ra (kEn X, (T.1, T.2.1, T.2.2.1, nI 1, T.2.2.2.2))] t9) A)) (by decide) rfl (Nat.le_of_ble_eq_true rfl) ?_
  intro p e s m args below meth c A Q ls hQ hx hb hml hr hlocks hin hts hown hN hK hP hD hS hA hsz hAe hl
  clear hAe
  have hl : lv_has ls 6 [(0, .ref (ra 0)), (1, .int x), (2, .int i), (3, .int y)] := hl
  suffices K9 : ∀ (H : Heap) (locs : List Loc), va_P D vwCl (bkF [mW cy ra (kEn X, T)]) H → va_S A s.heap H locs → W p l e (headSpec wsX5_setHere rm_X5_setHere_if).room s m args below meth c H locs 0 0 Q (F0 m 0 ls []) from K9 _ _ hP hS
  clear hP hS
  intro H locs hP hS
  refine lv_aload_n hx hb dX5_setHere_0 rfl (lv_at hl 0 rfl) ?_
  refine lv_iload_n hx hb dX5_setHere_1 rfl (lv_at hl 1 rfl) ?_
  refine lv_iload_n hx hb dX5_setHere_2 rfl (lv_at hl 2 rfl) ?_
  refine kc_i (Cs := [mW cy ra (kEn X, T)]) (Rs := []) (Bs := [mW cy ra (kEn X, T)]) (Cs' := fun u_ : Unit => [mW cy ra (kEn X, T)]) (Fs := fun u_ : Unit => [mW cy ra (kEn X, T)]) hP hD hS hA [0] [] [0] rfl rfl (by decide) (by decide) (fun _ => rfl) (va_runV (As := [.int x, .int i]) (rest := []) ⟨hx, hb, hml, hown, hts⟩ (c_X5_isGuest_f l D cy ra X T x i hx0 (by first | assumption | omega | decide) H.size) (cwV 2 hts gX5_setHere_X5_isGuest rfl rfl rfl (by decide +kernel) ⟨Nat.le_of_ble_eq_true rfl, Nat.le_of_ble_eq_true rfl⟩) (kPre_V (ci := 5) hK hN hP hD [0] (by decide) rfl 0 rfl rfl) rfl rfl hl.1 rfl (lv_room (Nat.le_of_ble_eq_true rfl)) dX5_setHere_3 ⟨Nat.le_of_ble_eq_true rfl, Nat.le_of_ble_eq_true rfl⟩) (fun r_ u_ H locs hw hP hD hS => ?_)
  have hw : r_ = if ¬ i < nI 0 ∧ ¬ nI X.2.2.1.2.2.2.2.2 ≤ i then nI 1 else nI 0 := hw
  subst hw
  refine kv_i (y := nI 0) (if_neg hbad) ?_
  refine lv_if_ne (tgt := 15) hx hb dX5_setHere_6 (by decide) (fun h => absurd h (by decide)) (fun _ => ?_)
  refine lv_aload_n hx hb dX5_setHere_9 rfl (lv_at hl 0 rfl) ?_
  refine lv_iconst (v := nI 1) hx hb dX5_setHere_10 (by decide) ?_
  refine kc_i (Cs := [mW cy ra (kEn X, T)]) (Rs := []) (Bs := [mW cy ra (kEn X, T)]) (Cs' := fun u_ : Unit => [mW cy ra ((kEn X), (T.1, T.2.1, T.2.2.1, (nI 1), T.2.2.2.2))]) (Fs := fun u_ : Unit => [mW cy ra ((kEn X), (T.1, T.2.1, T.2.2.1, (nI 1), T.2.2.2.2))]) hP hD hS hA [0] [] [0] rfl rfl (by decide) (by decide) (fun _ => rfl) (va_runV (As := [.int (nI 1)]) (rest := []) ⟨hx, hb, hml, hown, hts⟩ (c_X5_throwing l D cy ra (kEn X) T (nI 1) H.size) (cwV 1 hts gX5_setHere_X5_throwing rfl rfl rfl (by decide +kernel) ⟨Nat.le_of_ble_eq_true rfl, Nat.le_of_ble_eq_true rfl⟩) (kPre_V (ci := 5) hK hN hP hD [0] (by decide) rfl 0 rfl rfl) rfl rfl hl.1 rfl (lv_room (Nat.le_of_ble_eq_true rfl)) dX5_setHere_11 ⟨Nat.le_of_ble_eq_true rfl, Nat.le_of_ble_eq_true rfl⟩) (fun r_ u_ H locs hw hP hD hS => ?_)
  have hw : r_ = nI 0 := hw
  subst hw
  exact kr_i (post := fun r_ (u_ : Unit) => r_ = nI 0) (Bs := fun u_ : Unit => [mW cy ra (kEn X, (T.1, T.2.1, T.2.2.1, nI 1, T.2.2.2.2))]) hx hb hr hlocks rfl () hP hK hD hS rfl dX5_setHere_14 hQ
abbrev rm_X5_addGuest_a : Room := { frames := 1, cells := 0, slots := 0, locals := 25 }
set_option maxHeartbeats 1000000 in
set_option maxRecDepth 100000 in
/-- addGuest, out of range -/
theorem c_X5_addGuest_a (l : Launch) (D : va_G) (cy : Nat → ClassId) (ra : Nat → Nat) (X : rS) (T : rV) (x : Int32) (tk : Int32) (z : Int32) (sh : Int32) (hbad : ¬ ((¬ tk < nI 0 ∧ ¬ nI 99 < tk) ∧ (¬ z < nI 1 ∧ ¬ nI 9 < z))) (sz : Nat) : Met l yX5_addGuest wsX5_addGuest rm_X5_addGuest_a (va_Pc [.ref (ra 0), .int x, .int tk, .int z, .int sh] (kPre D (kT cy) [mW cy ra (kEn X, T)] sz)) (va_Qi (fun r_ (u_ : Unit) => r_ = nI 0) (kFr D (kT cy) [mW cy ra (kEn X, T)] sz (fun u_ : Unit => [mW cy ra (kEn X, (T.1, T.2.1, T.2.2.1, nI 1, T.2.2.2.2))])) (va_A (bkF [mW cy ra (kEn X, T)]) sz)) 0 0 (va_A (bkF [mW cy ra (kEn X, T)]) sz) := by
  refine kOpen (y := yX5_addGuest) (ws := wsX5_addGuest) (cc := cX5_addGuest) (maxL := 5) (ret := (some .int)) (av := [.ref (ra 0), .int x, .int tk, .int z, .int sh]) (Bs := [mW cy ra (kEn X, T)]) (Qc := fun A => (va_Qi (fun r_ (u_ : Unit) => r_ = nI 0) (fun (u_ : Unit) t9 => kEnd D (kT cy) A [mW cy ra (kEn X, (T.1, T.2.1, T.2.2.1, nI 1, T.2.2.2.2))] t9) A)) (by decide) rfl (Nat.le_of_ble_eq_true rfl) ?_
  intro p e s m args below meth c A Q ls hQ hx hb hml hr hlocks hin hts hown hN hK hP hD hS hA hsz hAe hl
  clear hAe
  have hl : lv_has ls 5 [(0, .ref (ra 0)), (1, .int x), (2, .int tk), (3, .int z), (4, .int sh)] := hl
  suffices K9 : ∀ (H : Heap) (locs : List Loc), va_P D vwCl (bkF [mW cy ra (kEn X, T)]) H → va_S A s.heap H locs → W p l e (headSpec wsX5_addGuest rm_X5_addGuest_a).room s m args below meth c H locs 0 0 Q (F0 m 0 ls []) from K9 _ _ hP hS
  clear hP hS
  intro H locs hP hS
  refine lv_iload_n hx hb dX5_addGuest_0 rfl (lv_at hl 2 rfl) ?_
  refine lv_i2l (v := tk.toInt64) hx hb dX5_addGuest_1 rfl ?_
  refine lv_lconst (v := 0) hx hb dX5_addGuest_2 (by decide) ?_
  refine lv_ldc2 hx hb hown (hts (.constantLong RX5 67 (99)) (by decide +kernel)) dX5_addGuest_3 ?_
  refine kc_i (Cs := []) (Rs := [mW cy ra (kEn X, T)]) (Bs := [mW cy ra (kEn X, T)]) (Cs' := fun u_ : Unit => []) (Fs := fun u_ : Unit => [mW cy ra (kEn X, T)]) hP hD hS hA [] [0] [0] rfl rfl (by decide) (by decide) (fun _ => rfl) (va_runS (As := [.long tk.toInt64, .long 0, .long (99)]) (rest := []) ⟨hx, hb, hml, hown, hts⟩ (c_X5_in l D cy tk.toInt64 0 (99) H.size) (va_cwS 3 hts gX5_addGuest_X5_in rfl rfl rfl (by decide +kernel) ⟨Nat.le_of_ble_eq_true rfl, Nat.le_of_ble_eq_true rfl⟩) (kPre_S hK hN hP hD [] (by decide) rfl) rfl rfl hl.1 rfl (lv_room (Nat.le_of_ble_eq_true rfl)) dX5_addGuest_6 ⟨Nat.le_of_ble_eq_true rfl, Nat.le_of_ble_eq_true rfl⟩) (fun r_ u_ H locs hw hP hD hS => ?_)
  have hw : r_ = if kIn tk.toInt64 0 (99) then nI 1 else nI 0 := hw
  subst hw
  by_cases b_6 : kIn tk.toInt64 0 (99)
  · refine kv_i (y := nI 1) (if_pos b_6) ?_
    refine lv_if_eq (tgt := 24) hx hb dX5_addGuest_9 (by decide) (fun h => absurd h (by decide)) (fun _ => ?_)
    refine lv_iload_n hx hb dX5_addGuest_12 rfl (lv_at hl 3 rfl) ?_
    refine lv_i2l (v := z.toInt64) hx hb dX5_addGuest_13 rfl ?_
    refine lv_lconst (v := 1) hx hb dX5_addGuest_14 (by decide) ?_
    refine lv_ldc2 hx hb hown (hts (.constantLong RX5 69 (9)) (by decide +kernel)) dX5_addGuest_15 ?_
    refine kc_i (Cs := []) (Rs := [mW cy ra (kEn X, T)]) (Bs := [mW cy ra (kEn X, T)]) (Cs' := fun u_ : Unit => []) (Fs := fun u_ : Unit => [mW cy ra (kEn X, T)]) hP hD hS hA [] [0] [0] rfl rfl (by decide) (by decide) (fun _ => rfl) (va_runS (As := [.long z.toInt64, .long 1, .long (9)]) (rest := []) ⟨hx, hb, hml, hown, hts⟩ (c_X5_in l D cy z.toInt64 1 (9) H.size) (va_cwS 3 hts gX5_addGuest_X5_in rfl rfl rfl (by decide +kernel) ⟨Nat.le_of_ble_eq_true rfl, Nat.le_of_ble_eq_true rfl⟩) (kPre_S hK hN hP hD [] (by decide) rfl) rfl rfl hl.1 rfl (lv_room (Nat.le_of_ble_eq_true rfl)) dX5_addGuest_18 ⟨Nat.le_of_ble_eq_true rfl, Nat.le_of_ble_eq_true rfl⟩) (fun r_ u_ H locs hw hP hD hS => ?_)
    have hw : r_ = if kIn z.toInt64 1 (9) then nI 1 else nI 0 := hw
    subst hw
    by_cases b_18 : kIn z.toInt64 1 (9)
    · refine kv_i (y := nI 1) (if_pos b_18) ?_
      refine lv_if_ne (tgt := 30) hx hb dX5_addGuest_21 (by decide) (fun _ => ?_) (fun h => absurd h (by decide))
      exact absurd (⟨(kIn32 (y := nI 0) (z := nI 99) (by decide) (by decide)).mp b_6, (kIn32 (y := nI 1) (z := nI 9) (by decide) (by decide)).mp b_18⟩) hbad
    · refine kv_i (y := nI 0) (if_neg b_18) ?_
      refine lv_if_ne (tgt := 30) hx hb dX5_addGuest_21 (by decide) (fun h => absurd h (by decide)) (fun _ => ?_)
      refine lv_aload_n hx hb dX5_addGuest_24 rfl (lv_at hl 0 rfl) ?_
      refine lv_iconst (v := nI 1) hx hb dX5_addGuest_25 (by decide) ?_
      refine kc_i (Cs := [mW cy ra (kEn X, T)]) (Rs := []) (Bs := [mW cy ra (kEn X, T)]) (Cs' := fun u_ : Unit => [mW cy ra ((kEn X), (T.1, T.2.1, T.2.2.1, (nI 1), T.2.2.2.2))]) (Fs := fun u_ : Unit => [mW cy ra ((kEn X), (T.1, T.2.1, T.2.2.1, (nI 1), T.2.2.2.2))]) hP hD hS hA [0] [] [0] rfl rfl (by decide) (by decide) (fun _ => rfl) (va_runV (As := [.int (nI 1)]) (rest := []) ⟨hx, hb, hml, hown, hts⟩ (c_X5_throwing l D cy ra (kEn X) T (nI 1) H.size) (cwV 1 hts gX5_addGuest_X5_throwing rfl rfl rfl (by decide +kernel) ⟨Nat.le_of_ble_eq_true rfl, Nat.le_of_ble_eq_true rfl⟩) (kPre_V (ci := 5) hK hN hP hD [0] (by decide) rfl 0 rfl rfl) rfl rfl hl.1 rfl (lv_room (Nat.le_of_ble_eq_true rfl)) dX5_addGuest_26 ⟨Nat.le_of_ble_eq_true rfl, Nat.le_of_ble_eq_true rfl⟩) (fun r_ u_ H locs hw hP hD hS => ?_)
      have hw : r_ = nI 0 := hw
      subst hw
      exact kr_i (post := fun r_ (u_ : Unit) => r_ = nI 0) (Bs := fun u_ : Unit => [mW cy ra (kEn X, (T.1, T.2.1, T.2.2.1, nI 1, T.2.2.2.2))]) hx hb hr hlocks rfl () hP hK hD hS rfl dX5_addGuest_29 hQ
  · refine kv_i (y := nI 0) (if_neg b_6) ?_
    refine lv_if_eq (tgt := 24) hx hb dX5_addGuest_9 (by decide) (fun _ => ?_) (fun h => absurd h (by decide))
    refine lv_aload_n hx hb dX5_addGuest_24 rfl (lv_at hl 0 rfl) ?_
    refine lv_iconst (v := nI 1) hx hb dX5_addGuest_25 (by decide) ?_
    refine kc_i (Cs := [mW cy ra (kEn X, T)]) (Rs := []) (Bs := [mW cy ra (kEn X, T)]) (Cs' := fun u_ : Unit => [mW cy ra ((kEn X), (T.1, T.2.1, T.2.2.1, (nI 1), T.2.2.2.2))]) (Fs := fun u_ : Unit => [mW cy ra ((kEn X), (T.1, T.2.1, T.2.2.1, (nI 1), T.2.2.2.2))]) hP hD hS hA [0] [] [0] rfl rfl (by decide) (by decide) (fun _ => rfl) (va_runV (As := [.int (nI 1)]) (rest := []) ⟨hx, hb, hml, hown, hts⟩ (c_X5_throwing l D cy ra (kEn X) T (nI 1) H.size) (cwV 1 hts gX5_addGuest_X5_throwing rfl rfl rfl (by decide +kernel) ⟨Nat.le_of_ble_eq_true rfl, Nat.le_of_ble_eq_true rfl⟩) (kPre_V (ci := 5) hK hN hP hD [0] (by decide) rfl 0 rfl rfl) rfl rfl hl.1 rfl (lv_room (Nat.le_of_ble_eq_true rfl)) dX5_addGuest_26 ⟨Nat.le_of_ble_eq_true rfl, Nat.le_of_ble_eq_true rfl⟩) (fun r_ u_ H locs hw hP hD hS => ?_)
    have hw : r_ = nI 0 := hw
    subst hw
    exact kr_i (post := fun r_ (u_ : Unit) => r_ = nI 0) (Bs := fun u_ : Unit => [mW cy ra (kEn X, (T.1, T.2.1, T.2.2.1, nI 1, T.2.2.2.2))]) hx hb hr hlocks rfl () hP hK hD hS rfl dX5_addGuest_29 hQ
abbrev rm_X5_setShoes : Room := { frames := 1, cells := 0, slots := 0, locals := 25 }
set_option maxHeartbeats 1000000 in
set_option maxRecDepth 100000 in
/-- setShoes -/
theorem c_X5_setShoes (l : Launch) (D : va_G) (cy : Nat → ClassId) (ra : Nat → Nat) (X : rS) (T : rV) (z : Nat) (pr : Nat) (hz1 : 1 ≤ z) (hz : z ≤ 9) (hpr : pr ≤ 9) (hsm : T.2.2.1 ≤ 4) (sz : Nat) : Met l yX5_setShoes wsX5_setShoes rm_X5_setShoes (va_Pc [.ref (ra 0), .int (nI z), .int (nI pr)] (kPre D (kT cy) [mW cy ra (kEn X, T)] sz)) (va_Qi (fun r_ (u_ : Unit) => r_ = X.2.2.2.1.1 z) (kFr D (kT cy) [mW cy ra (kEn X, T)] sz (fun u_ : Unit => [mW cy ra (kEn (X.1, X.2.1, X.2.2.1, (upd X.2.2.2.1.1 z (nI pr), X.2.2.2.1.2), X.2.2.2.2), (kRsv (kEn X) T.1 T.2.2.1, T.2.1, kSc T.2.2.1, nI 0, T.2.2.2.2))])) (va_A (bkF [mW cy ra (kEn X, T)]) sz)) 0 0 (va_A (bkF [mW cy ra (kEn X, T)]) sz) := by
  refine kOpen (y := yX5_setShoes) (ws := wsX5_setShoes) (cc := cX5_setShoes) (maxL := 4) (ret := (some .int)) (av := [.ref (ra 0), .int (nI z), .int (nI pr)]) (Bs := [mW cy ra (kEn X, T)]) (Qc := fun A => (va_Qi (fun r_ (u_ : Unit) => r_ = X.2.2.2.1.1 z) (fun (u_ : Unit) t9 => kEnd D (kT cy) A [mW cy ra (kEn (X.1, X.2.1, X.2.2.1, (upd X.2.2.2.1.1 z (nI pr), X.2.2.2.1.2), X.2.2.2.2), (kRsv (kEn X) T.1 T.2.2.1, T.2.1, kSc T.2.2.1, nI 0, T.2.2.2.2))] t9) A)) (by decide) rfl (Nat.le_of_ble_eq_true rfl) ?_
  intro p e s m args below meth c A Q ls hQ hx hb hml hr hlocks hin hts hown hN hK hP hD hS hA hsz hAe hl
  clear hAe
  have hl : lv_has ls 4 [(0, .ref (ra 0)), (1, .int (nI z)), (2, .int (nI pr))] := hl
  suffices K9 : ∀ (H : Heap) (locs : List Loc), va_P D vwCl (bkF [mW cy ra (kEn X, T)]) H → va_S A s.heap H locs → W p l e (headSpec wsX5_setShoes rm_X5_setShoes).room s m args below meth c H locs 0 0 Q (F0 m 0 ls []) from K9 _ _ hP hS
  clear hP hS
  intro H locs hP hS
  refine lv_iload_n hx hb dX5_setShoes_0 rfl (lv_at hl 1 rfl) ?_
  refine lv_i2l (v := (nI z).toInt64) hx hb dX5_setShoes_1 rfl ?_
  refine lv_lconst (v := 1) hx hb dX5_setShoes_2 (by decide) ?_
  refine lv_ldc2 hx hb hown (hts (.constantLong RX5 69 (9)) (by decide +kernel)) dX5_setShoes_3 ?_
  refine kc_i (Cs := []) (Rs := [mW cy ra (kEn X, T)]) (Bs := [mW cy ra (kEn X, T)]) (Cs' := fun u_ : Unit => []) (Fs := fun u_ : Unit => [mW cy ra (kEn X, T)]) hP hD hS hA [] [0] [0] rfl rfl (by decide) (by decide) (fun _ => rfl) (va_runS (As := [.long ((nI z).toInt64), .long 1, .long (9)]) (rest := []) ⟨hx, hb, hml, hown, hts⟩ (c_X5_in l D cy ((nI z).toInt64) 1 (9) H.size) (va_cwS 3 hts gX5_setShoes_X5_in rfl rfl rfl (by decide +kernel) ⟨Nat.le_of_ble_eq_true rfl, Nat.le_of_ble_eq_true rfl⟩) (kPre_S hK hN hP hD [] (by decide) rfl) rfl rfl hl.1 rfl (lv_room (Nat.le_of_ble_eq_true rfl)) dX5_setShoes_6 ⟨Nat.le_of_ble_eq_true rfl, Nat.le_of_ble_eq_true rfl⟩) (fun r_ u_ H locs hw hP hD hS => ?_)
  have hw : r_ = if kIn ((nI z).toInt64) 1 (9) then nI 1 else nI 0 := hw
  subst hw
  refine kv_i (y := nI 1) (if_pos ((kIn32 (y := nI 1) (z := nI 9) (by decide) (by decide)).mpr (kwin (by omega) (by omega) (by decide)))) ?_
  refine lv_if_ne (tgt := 18) hx hb dX5_setShoes_9 (by decide) (fun _ => ?_) (fun h => absurd h (by decide))
  refine lv_iload_n hx hb dX5_setShoes_18 rfl (lv_at hl 2 rfl) ?_
  refine lv_i2l (v := (nI pr).toInt64) hx hb dX5_setShoes_19 rfl ?_
  refine lv_lconst (v := 0) hx hb dX5_setShoes_20 (by decide) ?_
  refine lv_ldc2 hx hb hown (hts (.constantLong RX5 69 (9)) (by decide +kernel)) dX5_setShoes_21 ?_
  refine kc_i (Cs := []) (Rs := [mW cy ra (kEn X, T)]) (Bs := [mW cy ra (kEn X, T)]) (Cs' := fun u_ : Unit => []) (Fs := fun u_ : Unit => [mW cy ra (kEn X, T)]) hP hD hS hA [] [0] [0] rfl rfl (by decide) (by decide) (fun _ => rfl) (va_runS (As := [.long ((nI pr).toInt64), .long 0, .long (9)]) (rest := []) ⟨hx, hb, hml, hown, hts⟩ (c_X5_in l D cy ((nI pr).toInt64) 0 (9) H.size) (va_cwS 3 hts gX5_setShoes_X5_in rfl rfl rfl (by decide +kernel) ⟨Nat.le_of_ble_eq_true rfl, Nat.le_of_ble_eq_true rfl⟩) (kPre_S hK hN hP hD [] (by decide) rfl) rfl rfl hl.1 rfl (lv_room (Nat.le_of_ble_eq_true rfl)) dX5_setShoes_24 ⟨Nat.le_of_ble_eq_true rfl, Nat.le_of_ble_eq_true rfl⟩) (fun r_ u_ H locs hw hP hD hS => ?_)
  have hw : r_ = if kIn ((nI pr).toInt64) 0 (9) then nI 1 else nI 0 := hw
  subst hw
  refine kv_i (y := nI 1) (if_pos ((kIn32 (y := nI 0) (z := nI 9) (by decide) (by decide)).mpr (kwin (by omega) (by omega) (by decide)))) ?_
  refine lv_if_ne (tgt := 36) hx hb dX5_setShoes_27 (by decide) (fun _ => ?_) (fun h => absurd h (by decide))
  refine lv_aload_n hx hb dX5_setShoes_36 rfl (lv_at hl 0 rfl) ?_
  refine kc_v (Cs := [mW cy ra (kEn X, T)]) (Rs := []) (Bs := [mW cy ra (kEn X, T)]) (Cs' := fun u_ : Unit => [mW cy ra (kEn X, (kRsv (kEn X) T.1 T.2.2.1, T.2.1, kSc T.2.2.1, T.2.2.2))]) (Fs := fun u_ : Unit => [mW cy ra (kEn X, (kRsv (kEn X) T.1 T.2.2.1, T.2.1, kSc T.2.2.1, T.2.2.2))]) hP hD hS hA [0] [] [0] rfl rfl (by decide) (by decide) (fun _ => rfl) (va_runV (As := []) (rest := []) ⟨hx, hb, hml, hown, hts⟩ (c_X5_save l D cy ra X T (by first | assumption | omega | decide) H.size) (cwV 0 hts gX5_setShoes_X5_save rfl rfl rfl (by decide +kernel) ⟨Nat.le_of_ble_eq_true rfl, Nat.le_of_ble_eq_true rfl⟩) (kPre_V (ci := 5) hK hN hP hD [0] (by decide) rfl 0 rfl rfl) rfl rfl hl.1 rfl (lv_room (Nat.le_of_ble_eq_true rfl)) dX5_setShoes_37 ⟨Nat.le_of_ble_eq_true rfl, Nat.le_of_ble_eq_true rfl⟩) (fun u_ H locs hw hP hD hS => ?_)
  refine lv_aload_n hx hb dX5_setShoes_40 rfl (lv_at hl 0 rfl) ?_
  refine va_get (D := D) (ci := 5) (v := .ref (ra 1)) (C := RX5) (T := TX5) (N := 16) hx hb hts (by decide +kernel) hown hK hP 0 rfl rfl 0 (by decide) (hts (.fieldLink RX5 7 "DanceHallModel" "all" "[I") (by decide +kernel)) (fun _ h9 => h9) rfl dX5_setShoes_41 ?_
  refine lv_bipush (v := nI 11) hx hb dX5_setShoes_44 (by decide) ?_
  refine lv_iload_n hx hb dX5_setShoes_46 rfl (lv_at hl 1 rfl) ?_
  refine lv_iadd hx hb dX5_setShoes_47 ?_
  refine kv_i (y := nI (11 + z)) (nI_add 11 z) ?_
  refine lv_iconst (v := nI 1) hx hb dX5_setShoes_48 (by decide) ?_
  refine lv_isub hx hb dX5_setShoes_49 ?_
  refine kv_i (y := nI (10 + z)) (by rw [pk_sub (by omega)]; exact congrArg nI (by omega)) ?_
  refine va_iald hx hb hK hP 1 0 rfl rfl (vp_in_nI (n := 10 + z) (N := 188) (by omega) (by omega)) dX5_setShoes_50 ?_
  refine kv_i (y := X.2.2.2.1.1 z) (by rw [nI_clamp (n := 10 + z) (by omega)]; exact (kq_s hz1 hz)) ?_
  refine lv_istore_n (lv' := [(3, .int (X.2.2.2.1.1 z)), (0, .ref (ra 0)), (1, .int (nI z)), (2, .int (nI pr))]) hx hb dX5_setShoes_51 rfl hl (by decide) rfl (fun ls hl => ?_)
  refine lv_aload_n hx hb dX5_setShoes_52 rfl (lv_at hl 1 rfl) ?_
  refine va_get (D := D) (ci := 5) (v := .ref (ra 1)) (C := RX5) (T := TX5) (N := 16) hx hb hts (by decide +kernel) hown hK hP 0 rfl rfl 0 (by decide) (hts (.fieldLink RX5 7 "DanceHallModel" "all" "[I") (by decide +kernel)) (fun _ h9 => h9) rfl dX5_setShoes_53 ?_
  refine lv_bipush (v := nI 11) hx hb dX5_setShoes_56 (by decide) ?_
  refine lv_iload_n hx hb dX5_setShoes_58 rfl (lv_at hl 2 rfl) ?_
  refine lv_iadd hx hb dX5_setShoes_59 ?_
  refine kv_i (y := nI (11 + z)) (nI_add 11 z) ?_
  refine lv_iconst (v := nI 1) hx hb dX5_setShoes_60 (by decide) ?_
  refine lv_isub hx hb dX5_setShoes_61 ?_
  refine kv_i (y := nI (10 + z)) (by rw [pk_sub (by omega)]; exact congrArg nI (by omega)) ?_
  refine lv_iload_n hx hb dX5_setShoes_62 rfl (lv_at hl 3 rfl) ?_
  refine va_iast hx hb hK hP hD hS 1 0 rfl rfl (vp_in_nI (n := 10 + z) (N := 188) (by omega) (by omega)) dX5_setShoes_63 (fun H locs hP hD hS => ?_)
  rw [nI_clamp (n := 10 + z) (by omega)] at hP hD
  have hP : va_P D vwCl (bkF [mW cy ra (upd (kEn X) (10 + z) (nI pr), (kRsv (kEn X) T.1 T.2.2.1, T.2.1, kSc T.2.2.1, T.2.2.2))]) H := hP
  have hD : va_D A (bkF [mW cy ra (upd (kEn X) (10 + z) (nI pr), (kRsv (kEn X) T.1 T.2.2.1, T.2.1, kSc T.2.2.1, T.2.2.2))]) := hD
  have hP := kP_cell (g := (kEn (X.1, X.2.1, X.2.2.1, (upd X.2.2.2.1.1 z (nI pr), X.2.2.2.1.2), X.2.2.2.2))) hP 1 rfl (fun j hj => kqu_s hz1 hz j hj)
  have hD := hD.set (p := 1) (e := .inl (cy 0, 188, .inl (kEn (X.1, X.2.1, X.2.2.1, (upd X.2.2.2.1.1 z (nI pr), X.2.2.2.1.2), X.2.2.2.2)))) rfl
  have hP : va_P D vwCl (bkF [mW cy ra (kEn (X.1, X.2.1, X.2.2.1, (upd X.2.2.2.1.1 z (nI pr), X.2.2.2.1.2), X.2.2.2.2), (kRsv (kEn X) T.1 T.2.2.1, T.2.1, kSc T.2.2.1, T.2.2.2))]) H := hP
  have hD : va_D A (bkF [mW cy ra (kEn (X.1, X.2.1, X.2.2.1, (upd X.2.2.2.1.1 z (nI pr), X.2.2.2.1.2), X.2.2.2.2), (kRsv (kEn X) T.1 T.2.2.1, T.2.1, kSc T.2.2.1, T.2.2.2))]) := hD
  refine lv_aload_n hx hb dX5_setShoes_64 rfl (lv_at hl 1 rfl) ?_
  refine lv_iload_n hx hb dX5_setShoes_65 rfl (lv_at hl 0 rfl) ?_
  refine kc_i (Cs := [mW cy ra (kEn (X.1, X.2.1, X.2.2.1, (upd X.2.2.2.1.1 z (nI pr), X.2.2.2.1.2), X.2.2.2.2), (kRsv (kEn X) T.1 T.2.2.1, T.2.1, kSc T.2.2.1, T.2.2.2))]) (Rs := []) (Bs := [mW cy ra (kEn (X.1, X.2.1, X.2.2.1, (upd X.2.2.2.1.1 z (nI pr), X.2.2.2.1.2), X.2.2.2.2), (kRsv (kEn X) T.1 T.2.2.1, T.2.1, kSc T.2.2.1, T.2.2.2))]) (Cs' := fun u_ : Unit => [mW cy ra ((kEn (X.1, X.2.1, X.2.2.1, (upd X.2.2.2.1.1 z (nI pr), X.2.2.2.1.2), X.2.2.2.2)), ((kRsv (kEn X) T.1 T.2.2.1), T.2.1, (kSc T.2.2.1), nI 0, T.2.2.2.2))]) (Fs := fun u_ : Unit => [mW cy ra ((kEn (X.1, X.2.1, X.2.2.1, (upd X.2.2.2.1.1 z (nI pr), X.2.2.2.1.2), X.2.2.2.2)), ((kRsv (kEn X) T.1 T.2.2.1), T.2.1, (kSc T.2.2.1), nI 0, T.2.2.2.2))]) hP hD hS hA [0] [] [0] rfl rfl (by decide) (by decide) (fun _ => rfl) (va_runV (As := [.int (X.2.2.2.1.1 z)]) (rest := []) ⟨hx, hb, hml, hown, hts⟩ (c_X5_fine l D cy ra (kEn (X.1, X.2.1, X.2.2.1, (upd X.2.2.2.1.1 z (nI pr), X.2.2.2.1.2), X.2.2.2.2)) (kRsv (kEn X) T.1 T.2.2.1, T.2.1, kSc T.2.2.1, T.2.2.2) (X.2.2.2.1.1 z) H.size) (cwV 1 hts gX5_setShoes_X5_fine rfl rfl rfl (by decide +kernel) ⟨Nat.le_of_ble_eq_true rfl, Nat.le_of_ble_eq_true rfl⟩) (kPre_V (ci := 5) hK hN hP hD [0] (by decide) rfl 0 rfl rfl) rfl rfl hl.1 rfl (lv_room (Nat.le_of_ble_eq_true rfl)) dX5_setShoes_66 ⟨Nat.le_of_ble_eq_true rfl, Nat.le_of_ble_eq_true rfl⟩) (fun r_ u_ H locs hw hP hD hS => ?_)
  have hw : r_ = (X.2.2.2.1.1 z) := hw
  subst hw
  exact kr_i (post := fun r_ (u_ : Unit) => r_ = X.2.2.2.1.1 z) (Bs := fun u_ : Unit => [mW cy ra (kEn (X.1, X.2.1, X.2.2.1, (upd X.2.2.2.1.1 z (nI pr), X.2.2.2.1.2), X.2.2.2.2), (kRsv (kEn X) T.1 T.2.2.1, T.2.1, kSc T.2.2.1, nI 0, T.2.2.2.2))]) hx hb hr hlocks rfl () hP hK hD hS rfl dX5_setShoes_69 hQ
abbrev rm_X5_setShoes_i : Room := { frames := 1, cells := 0, slots := 0, locals := 25 }
set_option maxHeartbeats 1000000 in
set_option maxRecDepth 100000 in
/-- setShoes, no size -/
theorem c_X5_setShoes_i (l : Launch) (D : va_G) (cy : Nat → ClassId) (ra : Nat → Nat) (X : rS) (T : rV) (z : Int32) (pr : Int32) (hbad : ¬ (¬ z < nI 1 ∧ ¬ nI 9 < z)) (sz : Nat) : Met l yX5_setShoes wsX5_setShoes rm_X5_setShoes_i (va_Pc [.ref (ra 0), .int z, .int pr] (kPre D (kT cy) [mW cy ra (kEn X, T)] sz)) (va_Qi (fun r_ (u_ : Unit) => r_ = nI 0) (kFr D (kT cy) [mW cy ra (kEn X, T)] sz (fun u_ : Unit => [mW cy ra (kEn X, (T.1, T.2.1, T.2.2.1, nI 1, T.2.2.2.2))])) (va_A (bkF [mW cy ra (kEn X, T)]) sz)) 0 0 (va_A (bkF [mW cy ra (kEn X, T)]) sz) := by
  refine kOpen (y := yX5_setShoes) (ws := wsX5_setShoes) (cc := cX5_setShoes) (maxL := 4) (ret := (some .int)) (av := [.ref (ra 0), .int z, .int pr]) (Bs := [mW cy ra (kEn X, T)]) (Qc := fun A => (va_Qi (fun r_ (u_ : Unit) => r_ = nI 0) (fun (u_ : Unit) t9 => kEnd D (kT cy) A [mW cy ra (kEn X, (T.1, T.2.1, T.2.2.1, nI 1, T.2.2.2.2))] t9) A)) (by decide) rfl (Nat.le_of_ble_eq_true rfl) ?_
  intro p e s m args below meth c A Q ls hQ hx hb hml hr hlocks hin hts hown hN hK hP hD hS hA hsz hAe hl
  clear hAe
  have hl : lv_has ls 4 [(0, .ref (ra 0)), (1, .int z), (2, .int pr)] := hl
  suffices K9 : ∀ (H : Heap) (locs : List Loc), va_P D vwCl (bkF [mW cy ra (kEn X, T)]) H → va_S A s.heap H locs → W p l e (headSpec wsX5_setShoes rm_X5_setShoes_i).room s m args below meth c H locs 0 0 Q (F0 m 0 ls []) from K9 _ _ hP hS
  clear hP hS
  intro H locs hP hS
  refine lv_iload_n hx hb dX5_setShoes_0 rfl (lv_at hl 1 rfl) ?_
  refine lv_i2l (v := z.toInt64) hx hb dX5_setShoes_1 rfl ?_
  refine lv_lconst (v := 1) hx hb dX5_setShoes_2 (by decide) ?_
  refine lv_ldc2 hx hb hown (hts (.constantLong RX5 69 (9)) (by decide +kernel)) dX5_setShoes_3 ?_
  refine kc_i (Cs := []) (Rs := [mW cy ra (kEn X, T)]) (Bs := [mW cy ra (kEn X, T)]) (Cs' := fun u_ : Unit => []) (Fs := fun u_ : Unit => [mW cy ra (kEn X, T)]) hP hD hS hA [] [0] [0] rfl rfl (by decide) (by decide) (fun _ => rfl) (va_runS (As := [.long z.toInt64, .long 1, .long (9)]) (rest := []) ⟨hx, hb, hml, hown, hts⟩ (c_X5_in l D cy z.toInt64 1 (9) H.size) (va_cwS 3 hts gX5_setShoes_X5_in rfl rfl rfl (by decide +kernel) ⟨Nat.le_of_ble_eq_true rfl, Nat.le_of_ble_eq_true rfl⟩) (kPre_S hK hN hP hD [] (by decide) rfl) rfl rfl hl.1 rfl (lv_room (Nat.le_of_ble_eq_true rfl)) dX5_setShoes_6 ⟨Nat.le_of_ble_eq_true rfl, Nat.le_of_ble_eq_true rfl⟩) (fun r_ u_ H locs hw hP hD hS => ?_)
  have hw : r_ = if kIn z.toInt64 1 (9) then nI 1 else nI 0 := hw
  subst hw
  refine kv_i (y := nI 0) (if_neg (fun h => hbad ((kIn32 (y := nI 1) (z := nI 9) (by decide) (by decide)).mp h))) ?_
  refine lv_if_ne (tgt := 18) hx hb dX5_setShoes_9 (by decide) (fun h => absurd h (by decide)) (fun _ => ?_)
  refine lv_aload_n hx hb dX5_setShoes_12 rfl (lv_at hl 0 rfl) ?_
  refine lv_iconst (v := nI 1) hx hb dX5_setShoes_13 (by decide) ?_
  refine kc_i (Cs := [mW cy ra (kEn X, T)]) (Rs := []) (Bs := [mW cy ra (kEn X, T)]) (Cs' := fun u_ : Unit => [mW cy ra ((kEn X), (T.1, T.2.1, T.2.2.1, (nI 1), T.2.2.2.2))]) (Fs := fun u_ : Unit => [mW cy ra ((kEn X), (T.1, T.2.1, T.2.2.1, (nI 1), T.2.2.2.2))]) hP hD hS hA [0] [] [0] rfl rfl (by decide) (by decide) (fun _ => rfl) (va_runV (As := [.int (nI 1)]) (rest := []) ⟨hx, hb, hml, hown, hts⟩ (c_X5_throwing l D cy ra (kEn X) T (nI 1) H.size) (cwV 1 hts gX5_setShoes_X5_throwing rfl rfl rfl (by decide +kernel) ⟨Nat.le_of_ble_eq_true rfl, Nat.le_of_ble_eq_true rfl⟩) (kPre_V (ci := 5) hK hN hP hD [0] (by decide) rfl 0 rfl rfl) rfl rfl hl.1 rfl (lv_room (Nat.le_of_ble_eq_true rfl)) dX5_setShoes_14 ⟨Nat.le_of_ble_eq_true rfl, Nat.le_of_ble_eq_true rfl⟩) (fun r_ u_ H locs hw hP hD hS => ?_)
  have hw : r_ = nI 0 := hw
  subst hw
  exact kr_i (post := fun r_ (u_ : Unit) => r_ = nI 0) (Bs := fun u_ : Unit => [mW cy ra (kEn X, (T.1, T.2.1, T.2.2.1, nI 1, T.2.2.2.2))]) hx hb hr hlocks rfl () hP hK hD hS rfl dX5_setShoes_17 hQ
abbrev rm_X5_setShoes_a : Room := { frames := 1, cells := 0, slots := 0, locals := 25 }
set_option maxHeartbeats 1000000 in
set_option maxRecDepth 100000 in
/-- setShoes, out of range -/
theorem c_X5_setShoes_a (l : Launch) (D : va_G) (cy : Nat → ClassId) (ra : Nat → Nat) (X : rS) (T : rV) (z : Nat) (pr : Int32) (hz1 : 1 ≤ z) (hz : z ≤ 9) (hbad : ¬ (¬ pr < nI 0 ∧ ¬ nI 9 < pr)) (sz : Nat) : Met l yX5_setShoes wsX5_setShoes rm_X5_setShoes_a (va_Pc [.ref (ra 0), .int (nI z), .int pr] (kPre D (kT cy) [mW cy ra (kEn X, T)] sz)) (va_Qi (fun r_ (u_ : Unit) => r_ = nI 0) (kFr D (kT cy) [mW cy ra (kEn X, T)] sz (fun u_ : Unit => [mW cy ra (kEn X, (T.1, T.2.1, T.2.2.1, nI 2, T.2.2.2.2))])) (va_A (bkF [mW cy ra (kEn X, T)]) sz)) 0 0 (va_A (bkF [mW cy ra (kEn X, T)]) sz) := by
  refine kOpen (y := yX5_setShoes) (ws := wsX5_setShoes) (cc := cX5_setShoes) (maxL := 4) (ret := (some .int)) (av := [.ref (ra 0), .int (nI z), .int pr]) (Bs := [mW cy ra (kEn X, T)]) (Qc := fun A => (va_Qi (fun r_ (u_ : Unit) => r_ = nI 0) (fun (u_ : Unit) t9 => kEnd D (kT cy) A [mW cy ra (kEn X, (T.1, T.2.1, T.2.2.1, nI 2, T.2.2.2.2))] t9) A)) (by decide) rfl (Nat.le_of_ble_eq_true rfl) ?_
  intro p e s m args below meth c A Q ls hQ hx hb hml hr hlocks hin hts hown hN hK hP hD hS hA hsz hAe hl
  clear hAe
  have hl : lv_has ls 4 [(0, .ref (ra 0)), (1, .int (nI z)), (2, .int pr)] := hl
  suffices K9 : ∀ (H : Heap) (locs : List Loc), va_P D vwCl (bkF [mW cy ra (kEn X, T)]) H → va_S A s.heap H locs → W p l e (headSpec wsX5_setShoes rm_X5_setShoes_a).room s m args below meth c H locs 0 0 Q (F0 m 0 ls []) from K9 _ _ hP hS
  clear hP hS
  intro H locs hP hS
  refine lv_iload_n hx hb dX5_setShoes_0 rfl (lv_at hl 1 rfl) ?_
  refine lv_i2l (v := (nI z).toInt64) hx hb dX5_setShoes_1 rfl ?_
  refine lv_lconst (v := 1) hx hb dX5_setShoes_2 (by decide) ?_
  refine lv_ldc2 hx hb hown (hts (.constantLong RX5 69 (9)) (by decide +kernel)) dX5_setShoes_3 ?_
  refine kc_i (Cs := []) (Rs := [mW cy ra (kEn X, T)]) (Bs := [mW cy ra (kEn X, T)]) (Cs' := fun u_ : Unit => []) (Fs := fun u_ : Unit => [mW cy ra (kEn X, T)]) hP hD hS hA [] [0] [0] rfl rfl (by decide) (by decide) (fun _ => rfl) (va_runS (As := [.long ((nI z).toInt64), .long 1, .long (9)]) (rest := []) ⟨hx, hb, hml, hown, hts⟩ (c_X5_in l D cy ((nI z).toInt64) 1 (9) H.size) (va_cwS 3 hts gX5_setShoes_X5_in rfl rfl rfl (by decide +kernel) ⟨Nat.le_of_ble_eq_true rfl, Nat.le_of_ble_eq_true rfl⟩) (kPre_S hK hN hP hD [] (by decide) rfl) rfl rfl hl.1 rfl (lv_room (Nat.le_of_ble_eq_true rfl)) dX5_setShoes_6 ⟨Nat.le_of_ble_eq_true rfl, Nat.le_of_ble_eq_true rfl⟩) (fun r_ u_ H locs hw hP hD hS => ?_)
  have hw : r_ = if kIn ((nI z).toInt64) 1 (9) then nI 1 else nI 0 := hw
  subst hw
  refine kv_i (y := nI 1) (if_pos ((kIn32 (y := nI 1) (z := nI 9) (by decide) (by decide)).mpr (kwin (by omega) (by omega) (by decide)))) ?_
  refine lv_if_ne (tgt := 18) hx hb dX5_setShoes_9 (by decide) (fun _ => ?_) (fun h => absurd h (by decide))
  refine lv_iload_n hx hb dX5_setShoes_18 rfl (lv_at hl 2 rfl) ?_
  refine lv_i2l (v := pr.toInt64) hx hb dX5_setShoes_19 rfl ?_
  refine lv_lconst (v := 0) hx hb dX5_setShoes_20 (by decide) ?_
  refine lv_ldc2 hx hb hown (hts (.constantLong RX5 69 (9)) (by decide +kernel)) dX5_setShoes_21 ?_
  refine kc_i (Cs := []) (Rs := [mW cy ra (kEn X, T)]) (Bs := [mW cy ra (kEn X, T)]) (Cs' := fun u_ : Unit => []) (Fs := fun u_ : Unit => [mW cy ra (kEn X, T)]) hP hD hS hA [] [0] [0] rfl rfl (by decide) (by decide) (fun _ => rfl) (va_runS (As := [.long pr.toInt64, .long 0, .long (9)]) (rest := []) ⟨hx, hb, hml, hown, hts⟩ (c_X5_in l D cy pr.toInt64 0 (9) H.size) (va_cwS 3 hts gX5_setShoes_X5_in rfl rfl rfl (by decide +kernel) ⟨Nat.le_of_ble_eq_true rfl, Nat.le_of_ble_eq_true rfl⟩) (kPre_S hK hN hP hD [] (by decide) rfl) rfl rfl hl.1 rfl (lv_room (Nat.le_of_ble_eq_true rfl)) dX5_setShoes_24 ⟨Nat.le_of_ble_eq_true rfl, Nat.le_of_ble_eq_true rfl⟩) (fun r_ u_ H locs hw hP hD hS => ?_)
  have hw : r_ = if kIn pr.toInt64 0 (9) then nI 1 else nI 0 := hw
  subst hw
  refine kv_i (y := nI 0) (if_neg (fun h => hbad ((kIn32 (y := nI 0) (z := nI 9) (by decide) (by decide)).mp h))) ?_
  refine lv_if_ne (tgt := 36) hx hb dX5_setShoes_27 (by decide) (fun h => absurd h (by decide)) (fun _ => ?_)
  refine lv_aload_n hx hb dX5_setShoes_30 rfl (lv_at hl 0 rfl) ?_
  refine lv_iconst (v := nI 2) hx hb dX5_setShoes_31 (by decide) ?_
  refine kc_i (Cs := [mW cy ra (kEn X, T)]) (Rs := []) (Bs := [mW cy ra (kEn X, T)]) (Cs' := fun u_ : Unit => [mW cy ra ((kEn X), (T.1, T.2.1, T.2.2.1, (nI 2), T.2.2.2.2))]) (Fs := fun u_ : Unit => [mW cy ra ((kEn X), (T.1, T.2.1, T.2.2.1, (nI 2), T.2.2.2.2))]) hP hD hS hA [0] [] [0] rfl rfl (by decide) (by decide) (fun _ => rfl) (va_runV (As := [.int (nI 2)]) (rest := []) ⟨hx, hb, hml, hown, hts⟩ (c_X5_throwing l D cy ra (kEn X) T (nI 2) H.size) (cwV 1 hts gX5_setShoes_X5_throwing rfl rfl rfl (by decide +kernel) ⟨Nat.le_of_ble_eq_true rfl, Nat.le_of_ble_eq_true rfl⟩) (kPre_V (ci := 5) hK hN hP hD [0] (by decide) rfl 0 rfl rfl) rfl rfl hl.1 rfl (lv_room (Nat.le_of_ble_eq_true rfl)) dX5_setShoes_32 ⟨Nat.le_of_ble_eq_true rfl, Nat.le_of_ble_eq_true rfl⟩) (fun r_ u_ H locs hw hP hD hS => ?_)
  have hw : r_ = nI 0 := hw
  subst hw
  exact kr_i (post := fun r_ (u_ : Unit) => r_ = nI 0) (Bs := fun u_ : Unit => [mW cy ra (kEn X, (T.1, T.2.1, T.2.2.1, nI 2, T.2.2.2.2))]) hx hb hr hlocks rfl () hP hK hD hS rfl dX5_setShoes_35 hQ
abbrev rm_X5_setLamps : Room := { frames := 1, cells := 0, slots := 0, locals := 25 }
set_option maxHeartbeats 1000000 in
set_option maxRecDepth 100000 in
/-- setLamps -/
theorem c_X5_setLamps (l : Launch) (D : va_G) (cy : Nat → ClassId) (ra : Nat → Nat) (X : rS) (T : rV) (lm : Nat) (oi : Nat) (hlm1 : 1 ≤ lm) (hlm : lm ≤ 6) (hoi : oi ≤ 999) (hsm : T.2.2.1 ≤ 4) (sz : Nat) : Met l yX5_setLamps wsX5_setLamps rm_X5_setLamps (va_Pc [.ref (ra 0), .int (nI lm), .int (nI oi)] (kPre D (kT cy) [mW cy ra (kEn X, T)] sz)) (va_Qi (fun r_ (u_ : Unit) => r_ = nI X.1.2.1) (kFr D (kT cy) [mW cy ra (kEn X, T)] sz (fun u_ : Unit => [mW cy ra (kEn ((lm, oi, X.1.2.2), X.2), (kRsv (kEn X) T.1 T.2.2.1, T.2.1, kSc T.2.2.1, nI 0, T.2.2.2.2))])) (va_A (bkF [mW cy ra (kEn X, T)]) sz)) 0 0 (va_A (bkF [mW cy ra (kEn X, T)]) sz) := by
  refine kOpen (y := yX5_setLamps) (ws := wsX5_setLamps) (cc := cX5_setLamps) (maxL := 4) (ret := (some .int)) (av := [.ref (ra 0), .int (nI lm), .int (nI oi)]) (Bs := [mW cy ra (kEn X, T)]) (Qc := fun A => (va_Qi (fun r_ (u_ : Unit) => r_ = nI X.1.2.1) (fun (u_ : Unit) t9 => kEnd D (kT cy) A [mW cy ra (kEn ((lm, oi, X.1.2.2), X.2), (kRsv (kEn X) T.1 T.2.2.1, T.2.1, kSc T.2.2.1, nI 0, T.2.2.2.2))] t9) A)) (by decide) rfl (Nat.le_of_ble_eq_true rfl) ?_
  intro p e s m args below meth c A Q ls hQ hx hb hml hr hlocks hin hts hown hN hK hP hD hS hA hsz hAe hl
  clear hAe
  have hl : lv_has ls 4 [(0, .ref (ra 0)), (1, .int (nI lm)), (2, .int (nI oi))] := hl
  suffices K9 : ∀ (H : Heap) (locs : List Loc), va_P D vwCl (bkF [mW cy ra (kEn X, T)]) H → va_S A s.heap H locs → W p l e (headSpec wsX5_setLamps rm_X5_setLamps).room s m args below meth c H locs 0 0 Q (F0 m 0 ls []) from K9 _ _ hP hS
  clear hP hS
  intro H locs hP hS
  refine lv_iload_n hx hb dX5_setLamps_0 rfl (lv_at hl 1 rfl) ?_
  refine lv_i2l (v := (nI lm).toInt64) hx hb dX5_setLamps_1 rfl ?_
  refine lv_lconst (v := 1) hx hb dX5_setLamps_2 (by decide) ?_
  refine lv_ldc2 hx hb hown (hts (.constantLong RX5 94 (6)) (by decide +kernel)) dX5_setLamps_3 ?_
  refine kc_i (Cs := []) (Rs := [mW cy ra (kEn X, T)]) (Bs := [mW cy ra (kEn X, T)]) (Cs' := fun u_ : Unit => []) (Fs := fun u_ : Unit => [mW cy ra (kEn X, T)]) hP hD hS hA [] [0] [0] rfl rfl (by decide) (by decide) (fun _ => rfl) (va_runS (As := [.long ((nI lm).toInt64), .long 1, .long (6)]) (rest := []) ⟨hx, hb, hml, hown, hts⟩ (c_X5_in l D cy ((nI lm).toInt64) 1 (6) H.size) (va_cwS 3 hts gX5_setLamps_X5_in rfl rfl rfl (by decide +kernel) ⟨Nat.le_of_ble_eq_true rfl, Nat.le_of_ble_eq_true rfl⟩) (kPre_S hK hN hP hD [] (by decide) rfl) rfl rfl hl.1 rfl (lv_room (Nat.le_of_ble_eq_true rfl)) dX5_setLamps_6 ⟨Nat.le_of_ble_eq_true rfl, Nat.le_of_ble_eq_true rfl⟩) (fun r_ u_ H locs hw hP hD hS => ?_)
  have hw : r_ = if kIn ((nI lm).toInt64) 1 (6) then nI 1 else nI 0 := hw
  subst hw
  refine kv_i (y := nI 1) (if_pos ((kIn32 (y := nI 1) (z := nI 6) (by decide) (by decide)).mpr (kwin (by omega) (by omega) (by decide)))) ?_
  refine lv_if_eq (tgt := 24) hx hb dX5_setLamps_9 (by decide) (fun h => absurd h (by decide)) (fun _ => ?_)
  refine lv_iload_n hx hb dX5_setLamps_12 rfl (lv_at hl 2 rfl) ?_
  refine lv_i2l (v := (nI oi).toInt64) hx hb dX5_setLamps_13 rfl ?_
  refine lv_lconst (v := 0) hx hb dX5_setLamps_14 (by decide) ?_
  refine lv_ldc2 hx hb hown (hts (.constantLong RX5 96 (999)) (by decide +kernel)) dX5_setLamps_15 ?_
  refine kc_i (Cs := []) (Rs := [mW cy ra (kEn X, T)]) (Bs := [mW cy ra (kEn X, T)]) (Cs' := fun u_ : Unit => []) (Fs := fun u_ : Unit => [mW cy ra (kEn X, T)]) hP hD hS hA [] [0] [0] rfl rfl (by decide) (by decide) (fun _ => rfl) (va_runS (As := [.long ((nI oi).toInt64), .long 0, .long (999)]) (rest := []) ⟨hx, hb, hml, hown, hts⟩ (c_X5_in l D cy ((nI oi).toInt64) 0 (999) H.size) (va_cwS 3 hts gX5_setLamps_X5_in rfl rfl rfl (by decide +kernel) ⟨Nat.le_of_ble_eq_true rfl, Nat.le_of_ble_eq_true rfl⟩) (kPre_S hK hN hP hD [] (by decide) rfl) rfl rfl hl.1 rfl (lv_room (Nat.le_of_ble_eq_true rfl)) dX5_setLamps_18 ⟨Nat.le_of_ble_eq_true rfl, Nat.le_of_ble_eq_true rfl⟩) (fun r_ u_ H locs hw hP hD hS => ?_)
  have hw : r_ = if kIn ((nI oi).toInt64) 0 (999) then nI 1 else nI 0 := hw
  subst hw
  refine kv_i (y := nI 1) (if_pos ((kIn32 (y := nI 0) (z := nI 999) (by decide) (by decide)).mpr (kwin (by omega) (by omega) (by decide)))) ?_
  refine lv_if_ne (tgt := 30) hx hb dX5_setLamps_21 (by decide) (fun _ => ?_) (fun h => absurd h (by decide))
  refine lv_aload_n hx hb dX5_setLamps_30 rfl (lv_at hl 0 rfl) ?_
  refine kc_v (Cs := [mW cy ra (kEn X, T)]) (Rs := []) (Bs := [mW cy ra (kEn X, T)]) (Cs' := fun u_ : Unit => [mW cy ra (kEn X, (kRsv (kEn X) T.1 T.2.2.1, T.2.1, kSc T.2.2.1, T.2.2.2))]) (Fs := fun u_ : Unit => [mW cy ra (kEn X, (kRsv (kEn X) T.1 T.2.2.1, T.2.1, kSc T.2.2.1, T.2.2.2))]) hP hD hS hA [0] [] [0] rfl rfl (by decide) (by decide) (fun _ => rfl) (va_runV (As := []) (rest := []) ⟨hx, hb, hml, hown, hts⟩ (c_X5_save l D cy ra X T (by first | assumption | omega | decide) H.size) (cwV 0 hts gX5_setLamps_X5_save rfl rfl rfl (by decide +kernel) ⟨Nat.le_of_ble_eq_true rfl, Nat.le_of_ble_eq_true rfl⟩) (kPre_V (ci := 5) hK hN hP hD [0] (by decide) rfl 0 rfl rfl) rfl rfl hl.1 rfl (lv_room (Nat.le_of_ble_eq_true rfl)) dX5_setLamps_31 ⟨Nat.le_of_ble_eq_true rfl, Nat.le_of_ble_eq_true rfl⟩) (fun u_ H locs hw hP hD hS => ?_)
  refine lv_aload_n hx hb dX5_setLamps_34 rfl (lv_at hl 0 rfl) ?_
  refine va_get (D := D) (ci := 5) (v := .ref (ra 1)) (C := RX5) (T := TX5) (N := 16) hx hb hts (by decide +kernel) hown hK hP 0 rfl rfl 0 (by decide) (hts (.fieldLink RX5 7 "DanceHallModel" "all" "[I") (by decide +kernel)) (fun _ h9 => h9) rfl dX5_setLamps_35 ?_
  refine lv_iconst (v := nI 3) hx hb dX5_setLamps_38 (by decide) ?_
  refine va_iald hx hb hK hP 1 0 rfl rfl (vp_in_nI (n := 3) (N := 188) (by omega) (by omega)) dX5_setLamps_39 ?_
  refine kv_i (y := (kEn X) 3) (show ((kEn X)) (nI 3).toNatClampNeg = (kEn X) 3 from rfl) ?_
  refine lv_istore_n (lv' := [(3, .int ((kEn X) 3)), (0, .ref (ra 0)), (1, .int (nI lm)), (2, .int (nI oi))]) hx hb dX5_setLamps_40 rfl hl (by decide) rfl (fun ls hl => ?_)
  refine lv_aload_n hx hb dX5_setLamps_41 rfl (lv_at hl 1 rfl) ?_
  refine va_get (D := D) (ci := 5) (v := .ref (ra 1)) (C := RX5) (T := TX5) (N := 16) hx hb hts (by decide +kernel) hown hK hP 0 rfl rfl 0 (by decide) (hts (.fieldLink RX5 7 "DanceHallModel" "all" "[I") (by decide +kernel)) (fun _ h9 => h9) rfl dX5_setLamps_42 ?_
  refine lv_iconst (v := nI 2) hx hb dX5_setLamps_45 (by decide) ?_
  refine lv_iload_n hx hb dX5_setLamps_46 rfl (lv_at hl 2 rfl) ?_
  refine va_iast hx hb hK hP hD hS 1 0 rfl rfl (vp_in_nI (n := 2) (N := 188) (by omega) (by omega)) dX5_setLamps_47 (fun H locs hP hD hS => ?_)
  have hP : va_P D vwCl (bkF [mW cy ra (upd (kEn X) 2 (nI lm), (kRsv (kEn X) T.1 T.2.2.1, T.2.1, kSc T.2.2.1, T.2.2.2))]) H := hP
  have hD : va_D A (bkF [mW cy ra (upd (kEn X) 2 (nI lm), (kRsv (kEn X) T.1 T.2.2.1, T.2.1, kSc T.2.2.1, T.2.2.2))]) := hD
  refine lv_aload_n hx hb dX5_setLamps_48 rfl (lv_at hl 1 rfl) ?_
  have hP := kP_cell (g := (kEn ((lm, X.1.2), X.2))) hP 1 rfl (fun j hj => (kqu_C (C' := (lm, X.1.2)) (i := 2) (by decide) rfl (fun j9 hj9 hne => by rcases k11 hj9 with rfl | rfl | rfl | rfl | rfl | rfl | rfl | rfl | rfl | rfl | rfl <;> first | rfl | exact absurd rfl hne)) j hj)
  have hD := hD.set (p := 1) (e := .inl (cy 0, 188, .inl (kEn ((lm, X.1.2), X.2)))) rfl
  have hP : va_P D vwCl (bkF [mW cy ra (kEn ((lm, X.1.2), X.2), (kRsv (kEn X) T.1 T.2.2.1, T.2.1, kSc T.2.2.1, T.2.2.2))]) H := hP
  have hD : va_D A (bkF [mW cy ra (kEn ((lm, X.1.2), X.2), (kRsv (kEn X) T.1 T.2.2.1, T.2.1, kSc T.2.2.1, T.2.2.2))]) := hD
  refine va_get (D := D) (ci := 5) (v := .ref (ra 1)) (C := RX5) (T := TX5) (N := 16) hx hb hts (by decide +kernel) hown hK hP 0 rfl rfl 0 (by decide) (hts (.fieldLink RX5 7 "DanceHallModel" "all" "[I") (by decide +kernel)) (fun _ h9 => h9) rfl dX5_setLamps_49 ?_
  refine lv_iconst (v := nI 3) hx hb dX5_setLamps_52 (by decide) ?_
  refine lv_iload_n hx hb dX5_setLamps_53 rfl (lv_at hl 3 rfl) ?_
  refine va_iast hx hb hK hP hD hS 1 0 rfl rfl (vp_in_nI (n := 3) (N := 188) (by omega) (by omega)) dX5_setLamps_54 (fun H locs hP hD hS => ?_)
  have hP : va_P D vwCl (bkF [mW cy ra (upd (kEn ((lm, X.1.2), X.2)) 3 (nI oi), (kRsv (kEn X) T.1 T.2.2.1, T.2.1, kSc T.2.2.1, T.2.2.2))]) H := hP
  have hD : va_D A (bkF [mW cy ra (upd (kEn ((lm, X.1.2), X.2)) 3 (nI oi), (kRsv (kEn X) T.1 T.2.2.1, T.2.1, kSc T.2.2.1, T.2.2.2))]) := hD
  refine lv_aload_n hx hb dX5_setLamps_55 rfl (lv_at hl 1 rfl) ?_
  have hP := kP_cell (g := (kEn ((lm, oi, X.1.2.2), X.2))) hP 1 rfl (fun j hj => (kqu_C (C' := (lm, oi, X.1.2.2)) (i := 3) (by decide) rfl (fun j9 hj9 hne => by rcases k11 hj9 with rfl | rfl | rfl | rfl | rfl | rfl | rfl | rfl | rfl | rfl | rfl <;> first | rfl | exact absurd rfl hne)) j hj)
  have hD := hD.set (p := 1) (e := .inl (cy 0, 188, .inl (kEn ((lm, oi, X.1.2.2), X.2)))) rfl
  have hP : va_P D vwCl (bkF [mW cy ra (kEn ((lm, oi, X.1.2.2), X.2), (kRsv (kEn X) T.1 T.2.2.1, T.2.1, kSc T.2.2.1, T.2.2.2))]) H := hP
  have hD : va_D A (bkF [mW cy ra (kEn ((lm, oi, X.1.2.2), X.2), (kRsv (kEn X) T.1 T.2.2.1, T.2.1, kSc T.2.2.1, T.2.2.2))]) := hD
  refine lv_iload_n hx hb dX5_setLamps_56 rfl (lv_at hl 0 rfl) ?_
  refine kc_i (Cs := [mW cy ra (kEn ((lm, oi, X.1.2.2), X.2), (kRsv (kEn X) T.1 T.2.2.1, T.2.1, kSc T.2.2.1, T.2.2.2))]) (Rs := []) (Bs := [mW cy ra (kEn ((lm, oi, X.1.2.2), X.2), (kRsv (kEn X) T.1 T.2.2.1, T.2.1, kSc T.2.2.1, T.2.2.2))]) (Cs' := fun u_ : Unit => [mW cy ra ((kEn ((lm, oi, X.1.2.2), X.2)), ((kRsv (kEn X) T.1 T.2.2.1), T.2.1, (kSc T.2.2.1), nI 0, T.2.2.2.2))]) (Fs := fun u_ : Unit => [mW cy ra ((kEn ((lm, oi, X.1.2.2), X.2)), ((kRsv (kEn X) T.1 T.2.2.1), T.2.1, (kSc T.2.2.1), nI 0, T.2.2.2.2))]) hP hD hS hA [0] [] [0] rfl rfl (by decide) (by decide) (fun _ => rfl) (va_runV (As := [.int ((kEn X) 3)]) (rest := []) ⟨hx, hb, hml, hown, hts⟩ (c_X5_fine l D cy ra (kEn ((lm, oi, X.1.2.2), X.2)) (kRsv (kEn X) T.1 T.2.2.1, T.2.1, kSc T.2.2.1, T.2.2.2) ((kEn X) 3) H.size) (cwV 1 hts gX5_setLamps_X5_fine rfl rfl rfl (by decide +kernel) ⟨Nat.le_of_ble_eq_true rfl, Nat.le_of_ble_eq_true rfl⟩) (kPre_V (ci := 5) hK hN hP hD [0] (by decide) rfl 0 rfl rfl) rfl rfl hl.1 rfl (lv_room (Nat.le_of_ble_eq_true rfl)) dX5_setLamps_57 ⟨Nat.le_of_ble_eq_true rfl, Nat.le_of_ble_eq_true rfl⟩) (fun r_ u_ H locs hw hP hD hS => ?_)
  have hw : r_ = ((kEn X) 3) := hw
  subst hw
  exact kr_i (post := fun r_ (u_ : Unit) => r_ = nI X.1.2.1) (Bs := fun u_ : Unit => [mW cy ra (kEn ((lm, oi, X.1.2.2), X.2), (kRsv (kEn X) T.1 T.2.2.1, T.2.1, kSc T.2.2.1, nI 0, T.2.2.2.2))]) hx hb hr hlocks rfl () hP hK hD hS (by first | rfl | simp []) dX5_setLamps_60 hQ
abbrev rm_X5_setLamps_a : Room := { frames := 1, cells := 0, slots := 0, locals := 25 }
set_option maxHeartbeats 1000000 in
set_option maxRecDepth 100000 in
/-- setLamps, out of range -/
theorem c_X5_setLamps_a (l : Launch) (D : va_G) (cy : Nat → ClassId) (ra : Nat → Nat) (X : rS) (T : rV) (lm : Int32) (oi : Int32) (hbad : ¬ ((¬ lm < nI 1 ∧ ¬ nI 6 < lm) ∧ (¬ oi < nI 0 ∧ ¬ nI 999 < oi))) (sz : Nat) : Met l yX5_setLamps wsX5_setLamps rm_X5_setLamps_a (va_Pc [.ref (ra 0), .int lm, .int oi] (kPre D (kT cy) [mW cy ra (kEn X, T)] sz)) (va_Qi (fun r_ (u_ : Unit) => r_ = nI 0) (kFr D (kT cy) [mW cy ra (kEn X, T)] sz (fun u_ : Unit => [mW cy ra (kEn X, (T.1, T.2.1, T.2.2.1, nI 1, T.2.2.2.2))])) (va_A (bkF [mW cy ra (kEn X, T)]) sz)) 0 0 (va_A (bkF [mW cy ra (kEn X, T)]) sz) := by
  refine kOpen (y := yX5_setLamps) (ws := wsX5_setLamps) (cc := cX5_setLamps) (maxL := 4) (ret := (some .int)) (av := [.ref (ra 0), .int lm, .int oi]) (Bs := [mW cy ra (kEn X, T)]) (Qc := fun A => (va_Qi (fun r_ (u_ : Unit) => r_ = nI 0) (fun (u_ : Unit) t9 => kEnd D (kT cy) A [mW cy ra (kEn X, (T.1, T.2.1, T.2.2.1, nI 1, T.2.2.2.2))] t9) A)) (by decide) rfl (Nat.le_of_ble_eq_true rfl) ?_
  intro p e s m args below meth c A Q ls hQ hx hb hml hr hlocks hin hts hown hN hK hP hD hS hA hsz hAe hl
  clear hAe
  have hl : lv_has ls 4 [(0, .ref (ra 0)), (1, .int lm), (2, .int oi)] := hl
  suffices K9 : ∀ (H : Heap) (locs : List Loc), va_P D vwCl (bkF [mW cy ra (kEn X, T)]) H → va_S A s.heap H locs → W p l e (headSpec wsX5_setLamps rm_X5_setLamps_a).room s m args below meth c H locs 0 0 Q (F0 m 0 ls []) from K9 _ _ hP hS
  clear hP hS
  intro H locs hP hS
  refine lv_iload_n hx hb dX5_setLamps_0 rfl (lv_at hl 1 rfl) ?_
  refine lv_i2l (v := lm.toInt64) hx hb dX5_setLamps_1 rfl ?_
  refine lv_lconst (v := 1) hx hb dX5_setLamps_2 (by decide) ?_
  refine lv_ldc2 hx hb hown (hts (.constantLong RX5 94 (6)) (by decide +kernel)) dX5_setLamps_3 ?_
  refine kc_i (Cs := []) (Rs := [mW cy ra (kEn X, T)]) (Bs := [mW cy ra (kEn X, T)]) (Cs' := fun u_ : Unit => []) (Fs := fun u_ : Unit => [mW cy ra (kEn X, T)]) hP hD hS hA [] [0] [0] rfl rfl (by decide) (by decide) (fun _ => rfl) (va_runS (As := [.long lm.toInt64, .long 1, .long (6)]) (rest := []) ⟨hx, hb, hml, hown, hts⟩ (c_X5_in l D cy lm.toInt64 1 (6) H.size) (va_cwS 3 hts gX5_setLamps_X5_in rfl rfl rfl (by decide +kernel) ⟨Nat.le_of_ble_eq_true rfl, Nat.le_of_ble_eq_true rfl⟩) (kPre_S hK hN hP hD [] (by decide) rfl) rfl rfl hl.1 rfl (lv_room (Nat.le_of_ble_eq_true rfl)) dX5_setLamps_6 ⟨Nat.le_of_ble_eq_true rfl, Nat.le_of_ble_eq_true rfl⟩) (fun r_ u_ H locs hw hP hD hS => ?_)
  have hw : r_ = if kIn lm.toInt64 1 (6) then nI 1 else nI 0 := hw
  subst hw
  by_cases b_6 : kIn lm.toInt64 1 (6)
  · refine kv_i (y := nI 1) (if_pos b_6) ?_
    refine lv_if_eq (tgt := 24) hx hb dX5_setLamps_9 (by decide) (fun h => absurd h (by decide)) (fun _ => ?_)
    refine lv_iload_n hx hb dX5_setLamps_12 rfl (lv_at hl 2 rfl) ?_
    refine lv_i2l (v := oi.toInt64) hx hb dX5_setLamps_13 rfl ?_
    refine lv_lconst (v := 0) hx hb dX5_setLamps_14 (by decide) ?_
    refine lv_ldc2 hx hb hown (hts (.constantLong RX5 96 (999)) (by decide +kernel)) dX5_setLamps_15 ?_
    refine kc_i (Cs := []) (Rs := [mW cy ra (kEn X, T)]) (Bs := [mW cy ra (kEn X, T)]) (Cs' := fun u_ : Unit => []) (Fs := fun u_ : Unit => [mW cy ra (kEn X, T)]) hP hD hS hA [] [0] [0] rfl rfl (by decide) (by decide) (fun _ => rfl) (va_runS (As := [.long oi.toInt64, .long 0, .long (999)]) (rest := []) ⟨hx, hb, hml, hown, hts⟩ (c_X5_in l D cy oi.toInt64 0 (999) H.size) (va_cwS 3 hts gX5_setLamps_X5_in rfl rfl rfl (by decide +kernel) ⟨Nat.le_of_ble_eq_true rfl, Nat.le_of_ble_eq_true rfl⟩) (kPre_S hK hN hP hD [] (by decide) rfl) rfl rfl hl.1 rfl (lv_room (Nat.le_of_ble_eq_true rfl)) dX5_setLamps_18 ⟨Nat.le_of_ble_eq_true rfl, Nat.le_of_ble_eq_true rfl⟩) (fun r_ u_ H locs hw hP hD hS => ?_)
    have hw : r_ = if kIn oi.toInt64 0 (999) then nI 1 else nI 0 := hw
    subst hw
    by_cases b_18 : kIn oi.toInt64 0 (999)
    · refine kv_i (y := nI 1) (if_pos b_18) ?_
      refine lv_if_ne (tgt := 30) hx hb dX5_setLamps_21 (by decide) (fun _ => ?_) (fun h => absurd h (by decide))
      exact absurd (⟨(kIn32 (y := nI 1) (z := nI 6) (by decide) (by decide)).mp b_6, (kIn32 (y := nI 0) (z := nI 999) (by decide) (by decide)).mp b_18⟩) hbad
    · refine kv_i (y := nI 0) (if_neg b_18) ?_
      refine lv_if_ne (tgt := 30) hx hb dX5_setLamps_21 (by decide) (fun h => absurd h (by decide)) (fun _ => ?_)
      refine lv_aload_n hx hb dX5_setLamps_24 rfl (lv_at hl 0 rfl) ?_
      refine lv_iconst (v := nI 1) hx hb dX5_setLamps_25 (by decide) ?_
      refine kc_i (Cs := [mW cy ra (kEn X, T)]) (Rs := []) (Bs := [mW cy ra (kEn X, T)]) (Cs' := fun u_ : Unit => [mW cy ra ((kEn X), (T.1, T.2.1, T.2.2.1, (nI 1), T.2.2.2.2))]) (Fs := fun u_ : Unit => [mW cy ra ((kEn X), (T.1, T.2.1, T.2.2.1, (nI 1), T.2.2.2.2))]) hP hD hS hA [0] [] [0] rfl rfl (by decide) (by decide) (fun _ => rfl) (va_runV (As := [.int (nI 1)]) (rest := []) ⟨hx, hb, hml, hown, hts⟩ (c_X5_throwing l D cy ra (kEn X) T (nI 1) H.size) (cwV 1 hts gX5_setLamps_X5_throwing rfl rfl rfl (by decide +kernel) ⟨Nat.le_of_ble_eq_true rfl, Nat.le_of_ble_eq_true rfl⟩) (kPre_V (ci := 5) hK hN hP hD [0] (by decide) rfl 0 rfl rfl) rfl rfl hl.1 rfl (lv_room (Nat.le_of_ble_eq_true rfl)) dX5_setLamps_26 ⟨Nat.le_of_ble_eq_true rfl, Nat.le_of_ble_eq_true rfl⟩) (fun r_ u_ H locs hw hP hD hS => ?_)
      have hw : r_ = nI 0 := hw
      subst hw
      exact kr_i (post := fun r_ (u_ : Unit) => r_ = nI 0) (Bs := fun u_ : Unit => [mW cy ra (kEn X, (T.1, T.2.1, T.2.2.1, nI 1, T.2.2.2.2))]) hx hb hr hlocks rfl () hP hK hD hS rfl dX5_setLamps_29 hQ
  · refine kv_i (y := nI 0) (if_neg b_6) ?_
    refine lv_if_eq (tgt := 24) hx hb dX5_setLamps_9 (by decide) (fun _ => ?_) (fun h => absurd h (by decide))
    refine lv_aload_n hx hb dX5_setLamps_24 rfl (lv_at hl 0 rfl) ?_
    refine lv_iconst (v := nI 1) hx hb dX5_setLamps_25 (by decide) ?_
    refine kc_i (Cs := [mW cy ra (kEn X, T)]) (Rs := []) (Bs := [mW cy ra (kEn X, T)]) (Cs' := fun u_ : Unit => [mW cy ra ((kEn X), (T.1, T.2.1, T.2.2.1, (nI 1), T.2.2.2.2))]) (Fs := fun u_ : Unit => [mW cy ra ((kEn X), (T.1, T.2.1, T.2.2.1, (nI 1), T.2.2.2.2))]) hP hD hS hA [0] [] [0] rfl rfl (by decide) (by decide) (fun _ => rfl) (va_runV (As := [.int (nI 1)]) (rest := []) ⟨hx, hb, hml, hown, hts⟩ (c_X5_throwing l D cy ra (kEn X) T (nI 1) H.size) (cwV 1 hts gX5_setLamps_X5_throwing rfl rfl rfl (by decide +kernel) ⟨Nat.le_of_ble_eq_true rfl, Nat.le_of_ble_eq_true rfl⟩) (kPre_V (ci := 5) hK hN hP hD [0] (by decide) rfl 0 rfl rfl) rfl rfl hl.1 rfl (lv_room (Nat.le_of_ble_eq_true rfl)) dX5_setLamps_26 ⟨Nat.le_of_ble_eq_true rfl, Nat.le_of_ble_eq_true rfl⟩) (fun r_ u_ H locs hw hP hD hS => ?_)
    have hw : r_ = nI 0 := hw
    subst hw
    exact kr_i (post := fun r_ (u_ : Unit) => r_ = nI 0) (Bs := fun u_ : Unit => [mW cy ra (kEn X, (T.1, T.2.1, T.2.2.1, nI 1, T.2.2.2.2))]) hx hb hr hlocks rfl () hP hK hD hS rfl dX5_setLamps_29 hQ
abbrev rm_X5_setFiddlers : Room := { frames := 1, cells := 0, slots := 0, locals := 25 }
set_option maxHeartbeats 1000000 in
set_option maxRecDepth 100000 in
/-- setFiddlers -/
theorem c_X5_setFiddlers (l : Launch) (D : va_G) (cy : Nat → ClassId) (ra : Nat → Nat) (X : rS) (T : rV) (k : Nat) (hk1 : 1 ≤ k) (hk4 : k ≤ 4) (hsm : T.2.2.1 ≤ 4) (sz : Nat) : Met l yX5_setFiddlers wsX5_setFiddlers rm_X5_setFiddlers (va_Pc [.ref (ra 0), .int (nI k)] (kPre D (kT cy) [mW cy ra (kEn X, T)] sz)) (va_Qi (fun r_ (u_ : Unit) => r_ = nI X.1.2.2.2.1) (kFr D (kT cy) [mW cy ra (kEn X, T)] sz (fun u_ : Unit => [mW cy ra (kEn ((X.1.1, X.1.2.1, X.1.2.2.1, k, X.1.2.2.2.2), X.2.1, X.2.2.1, (X.2.2.2.1.1, (fun _ => nI 1), X.2.2.2.1.2.2), X.2.2.2.2), (kRsv (kEn X) T.1 T.2.2.1, T.2.1, kSc T.2.2.1, nI 0, T.2.2.2.2))])) (va_A (bkF [mW cy ra (kEn X, T)]) sz)) 0 0 (va_A (bkF [mW cy ra (kEn X, T)]) sz) := by
  refine kOpen (y := yX5_setFiddlers) (ws := wsX5_setFiddlers) (cc := cX5_setFiddlers) (maxL := 4) (ret := (some .int)) (av := [.ref (ra 0), .int (nI k)]) (Bs := [mW cy ra (kEn X, T)]) (Qc := fun A => (va_Qi (fun r_ (u_ : Unit) => r_ = nI X.1.2.2.2.1) (fun (u_ : Unit) t9 => kEnd D (kT cy) A [mW cy ra (kEn ((X.1.1, X.1.2.1, X.1.2.2.1, k, X.1.2.2.2.2), X.2.1, X.2.2.1, (X.2.2.2.1.1, (fun _ => nI 1), X.2.2.2.1.2.2), X.2.2.2.2), (kRsv (kEn X) T.1 T.2.2.1, T.2.1, kSc T.2.2.1, nI 0, T.2.2.2.2))] t9) A)) (by decide) rfl (Nat.le_of_ble_eq_true rfl) ?_
  intro p e s m args below meth c A Q ls hQ hx hb hml hr hlocks hin hts hown hN hK hP hD hS hA hsz hAe hl
  clear hAe
  have hl : lv_has ls 4 [(0, .ref (ra 0)), (1, .int (nI k))] := hl
  suffices K9 : ∀ (H : Heap) (locs : List Loc), va_P D vwCl (bkF [mW cy ra (kEn X, T)]) H → va_S A s.heap H locs → W p l e (headSpec wsX5_setFiddlers rm_X5_setFiddlers).room s m args below meth c H locs 0 0 Q (F0 m 0 ls []) from K9 _ _ hP hS
  clear hP hS
  intro H locs hP hS
  refine lv_iload_n hx hb dX5_setFiddlers_0 rfl (lv_at hl 1 rfl) ?_
  refine lv_i2l (v := (nI k).toInt64) hx hb dX5_setFiddlers_1 rfl ?_
  refine lv_lconst (v := 1) hx hb dX5_setFiddlers_2 (by decide) ?_
  refine lv_ldc2 hx hb hown (hts (.constantLong RX5 98 (4)) (by decide +kernel)) dX5_setFiddlers_3 ?_
  refine kc_i (Cs := []) (Rs := [mW cy ra (kEn X, T)]) (Bs := [mW cy ra (kEn X, T)]) (Cs' := fun u_ : Unit => []) (Fs := fun u_ : Unit => [mW cy ra (kEn X, T)]) hP hD hS hA [] [0] [0] rfl rfl (by decide) (by decide) (fun _ => rfl) (va_runS (As := [.long ((nI k).toInt64), .long 1, .long (4)]) (rest := []) ⟨hx, hb, hml, hown, hts⟩ (c_X5_in l D cy ((nI k).toInt64) 1 (4) H.size) (va_cwS 3 hts gX5_setFiddlers_X5_in rfl rfl rfl (by decide +kernel) ⟨Nat.le_of_ble_eq_true rfl, Nat.le_of_ble_eq_true rfl⟩) (kPre_S hK hN hP hD [] (by decide) rfl) rfl rfl hl.1 rfl (lv_room (Nat.le_of_ble_eq_true rfl)) dX5_setFiddlers_6 ⟨Nat.le_of_ble_eq_true rfl, Nat.le_of_ble_eq_true rfl⟩) (fun r_ u_ H locs hw hP hD hS => ?_)
  have hw : r_ = if kIn ((nI k).toInt64) 1 (4) then nI 1 else nI 0 := hw
  subst hw
  refine kv_i (y := nI 1) (if_pos ((kIn32 (y := nI 1) (z := nI 4) (by decide) (by decide)).mpr (kwin (by omega) (by omega) (by decide)))) ?_
  refine lv_if_ne (tgt := 18) hx hb dX5_setFiddlers_9 (by decide) (fun _ => ?_) (fun h => absurd h (by decide))
  refine lv_aload_n hx hb dX5_setFiddlers_18 rfl (lv_at hl 0 rfl) ?_
  refine kc_v (Cs := [mW cy ra (kEn X, T)]) (Rs := []) (Bs := [mW cy ra (kEn X, T)]) (Cs' := fun u_ : Unit => [mW cy ra (kEn X, (kRsv (kEn X) T.1 T.2.2.1, T.2.1, kSc T.2.2.1, T.2.2.2))]) (Fs := fun u_ : Unit => [mW cy ra (kEn X, (kRsv (kEn X) T.1 T.2.2.1, T.2.1, kSc T.2.2.1, T.2.2.2))]) hP hD hS hA [0] [] [0] rfl rfl (by decide) (by decide) (fun _ => rfl) (va_runV (As := []) (rest := []) ⟨hx, hb, hml, hown, hts⟩ (c_X5_save l D cy ra X T (by first | assumption | omega | decide) H.size) (cwV 0 hts gX5_setFiddlers_X5_save rfl rfl rfl (by decide +kernel) ⟨Nat.le_of_ble_eq_true rfl, Nat.le_of_ble_eq_true rfl⟩) (kPre_V (ci := 5) hK hN hP hD [0] (by decide) rfl 0 rfl rfl) rfl rfl hl.1 rfl (lv_room (Nat.le_of_ble_eq_true rfl)) dX5_setFiddlers_19 ⟨Nat.le_of_ble_eq_true rfl, Nat.le_of_ble_eq_true rfl⟩) (fun u_ H locs hw hP hD hS => ?_)
  refine lv_aload_n hx hb dX5_setFiddlers_22 rfl (lv_at hl 0 rfl) ?_
  refine va_get (D := D) (ci := 5) (v := .ref (ra 1)) (C := RX5) (T := TX5) (N := 16) hx hb hts (by decide +kernel) hown hK hP 0 rfl rfl 0 (by decide) (hts (.fieldLink RX5 7 "DanceHallModel" "all" "[I") (by decide +kernel)) (fun _ h9 => h9) rfl dX5_setFiddlers_23 ?_
  refine lv_bipush (v := nI 8) hx hb dX5_setFiddlers_26 (by decide) ?_
  refine va_iald hx hb hK hP 1 0 rfl rfl (vp_in_nI (n := 8) (N := 188) (by omega) (by omega)) dX5_setFiddlers_28 ?_
  refine kv_i (y := nI X.1.2.2.2.1) (show ((kEn X)) (nI 8).toNatClampNeg = nI X.1.2.2.2.1 from rfl) ?_
  refine lv_istore_n (lv' := [(2, .int (nI X.1.2.2.2.1)), (0, .ref (ra 0)), (1, .int (nI k))]) hx hb dX5_setFiddlers_29 rfl hl (by decide) rfl (fun ls hl => ?_)
  refine lv_aload_n hx hb dX5_setFiddlers_30 rfl (lv_at hl 1 rfl) ?_
  refine va_get (D := D) (ci := 5) (v := .ref (ra 1)) (C := RX5) (T := TX5) (N := 16) hx hb hts (by decide +kernel) hown hK hP 0 rfl rfl 0 (by decide) (hts (.fieldLink RX5 7 "DanceHallModel" "all" "[I") (by decide +kernel)) (fun _ h9 => h9) rfl dX5_setFiddlers_31 ?_
  refine lv_bipush (v := nI 8) hx hb dX5_setFiddlers_34 (by decide) ?_
  refine lv_iload_n hx hb dX5_setFiddlers_36 rfl (lv_at hl 2 rfl) ?_
  refine va_iast hx hb hK hP hD hS 1 0 rfl rfl (vp_in_nI (n := 8) (N := 188) (by omega) (by omega)) dX5_setFiddlers_37 (fun H locs hP hD hS => ?_)
  have hP : va_P D vwCl (bkF [mW cy ra (upd (kEn X) 8 (nI k), (kRsv (kEn X) T.1 T.2.2.1, T.2.1, kSc T.2.2.1, T.2.2.2))]) H := hP
  have hD : va_D A (bkF [mW cy ra (upd (kEn X) 8 (nI k), (kRsv (kEn X) T.1 T.2.2.1, T.2.1, kSc T.2.2.1, T.2.2.2))]) := hD
  have hP := kP_cell (g := (kEn ((X.1.1, X.1.2.1, X.1.2.2.1, k, X.1.2.2.2.2), X.2))) hP 1 rfl (fun j hj => (kqu_C (C' := (X.1.1, X.1.2.1, X.1.2.2.1, k, X.1.2.2.2.2)) (i := 8) (by decide) rfl (fun j9 hj9 hne => by rcases k11 hj9 with rfl | rfl | rfl | rfl | rfl | rfl | rfl | rfl | rfl | rfl | rfl <;> first | rfl | exact absurd rfl hne)) j hj)
  have hD := hD.set (p := 1) (e := .inl (cy 0, 188, .inl (kEn ((X.1.1, X.1.2.1, X.1.2.2.1, k, X.1.2.2.2.2), X.2)))) rfl
  have hP : va_P D vwCl (bkF [mW cy ra (kEn ((X.1.1, X.1.2.1, X.1.2.2.1, k, X.1.2.2.2.2), X.2), (kRsv (kEn X) T.1 T.2.2.1, T.2.1, kSc T.2.2.1, T.2.2.2))]) H := hP
  have hD : va_D A (bkF [mW cy ra (kEn ((X.1.1, X.1.2.1, X.1.2.2.1, k, X.1.2.2.2.2), X.2), (kRsv (kEn X) T.1 T.2.2.1, T.2.1, kSc T.2.2.1, T.2.2.2))]) := hD
  refine lv_iconst (v := nI 0) hx hb dX5_setFiddlers_38 (by decide) ?_
  refine lv_istore_n (lv' := [(3, .int (nI 0)), (2, .int (nI X.1.2.2.2.1)), (0, .ref (ra 0)), (1, .int (nI k))]) hx hb dX5_setFiddlers_39 rfl hl (by decide) rfl (fun ls hl => ?_)
  have hP := kP_cell (g := (kEn ((X.1.1, X.1.2.1, X.1.2.2.1, k, X.1.2.2.2.2), X.2.1, X.2.2.1, (X.2.2.2.1.1, kcp (fun _ => nI 1) X.2.2.2.1.2.1 0, X.2.2.2.1.2.2), X.2.2.2.2))) hP 1 rfl (fun j hj => kq_c (fun _ => rfl) (fun _ _ => rfl) (fun _ _ => (kcp_0 (fun _ => nI 1) X.2.2.2.1.2.1 _).symm) (fun _ _ => rfl) (fun _ _ => rfl) (fun _ _ => rfl) (fun _ _ => rfl))
  have hD := hD.set (p := 1) (e := .inl (cy 0, 188, .inl (kEn ((X.1.1, X.1.2.1, X.1.2.2.1, k, X.1.2.2.2.2), X.2.1, X.2.2.1, (X.2.2.2.1.1, kcp (fun _ => nI 1) X.2.2.2.1.2.1 0, X.2.2.2.1.2.2), X.2.2.2.2)))) rfl
  have hP : va_P D vwCl (bkF [mW cy ra (kEn ((X.1.1, X.1.2.1, X.1.2.2.1, k, X.1.2.2.2.2), X.2.1, X.2.2.1, (X.2.2.2.1.1, kcp (fun _ => nI 1) X.2.2.2.1.2.1 0, X.2.2.2.1.2.2), X.2.2.2.2), (kRsv (kEn X) T.1 T.2.2.1, T.2.1, kSc T.2.2.1, T.2.2.2))]) H := hP
  have hD : va_D A (bkF [mW cy ra (kEn ((X.1.1, X.1.2.1, X.1.2.2.1, k, X.1.2.2.2.2), X.2.1, X.2.2.1, (X.2.2.2.1.1, kcp (fun _ => nI 1) X.2.2.2.1.2.1 0, X.2.2.2.1.2.2), X.2.2.2.2), (kRsv (kEn X) T.1 T.2.2.1, T.2.1, kSc T.2.2.1, T.2.2.2))]) := hD
  have L_40 : ∀ (n9 : Nat) (i : Nat), 4 - i = n9 → (i ≤ 4) → ∀ (ls : Array Slot) (H : Heap) (locs : List Loc), va_P D vwCl (bkF [mW cy ra (kEn ((X.1.1, X.1.2.1, X.1.2.2.1, k, X.1.2.2.2.2), X.2.1, X.2.2.1, (X.2.2.2.1.1, kcp (fun _ => nI 1) X.2.2.2.1.2.1 i, X.2.2.2.1.2.2), X.2.2.2.2), ((kRsv (kEn X) T.1 T.2.2.1), T.2.1, (kSc T.2.2.1), T.2.2.2))]) H → va_D A (bkF [mW cy ra (kEn ((X.1.1, X.1.2.1, X.1.2.2.1, k, X.1.2.2.2.2), X.2.1, X.2.2.1, (X.2.2.2.1.1, kcp (fun _ => nI 1) X.2.2.2.1.2.1 i, X.2.2.2.1.2.2), X.2.2.2.2), ((kRsv (kEn X) T.1 T.2.2.1), T.2.1, (kSc T.2.2.1), T.2.2.2))]) → va_S A s.heap H locs → lv_has ls 4 [(0, .ref (ra 0)), (2, .int (nI X.1.2.2.2.1)), (3, .int (nI i))] → W p l e (headSpec wsX5_setFiddlers rm_X5_setFiddlers).room s m args below meth c H locs 0 0 Q (F0 m 40 ls []) := by
    intro n9
    induction n9 using Nat.strongRecOn with
    | _ n9 ih_40 =>
    intro i hm_40 h40_0 ls H locs hP hD hS hl
    refine lv_iload_n hx hb dX5_setFiddlers_40 rfl (lv_at hl 2 rfl) ?_
    refine lv_iconst (v := nI 4) hx hb dX5_setFiddlers_41 (by decide) ?_
    refine lv_icmp_ge (tgt := 61) hx hb dX5_setFiddlers_42 (by decide) (fun c_42 => ?_) (fun c_42 => ?_)
    · skip
      have c_42 : 4 ≤ i := (nI_leI (a := 4) (b := i) (by omega) (by omega)).mp c_42
      have hP := kP_cell (g := (kEn ((X.1.1, X.1.2.1, X.1.2.2.1, k, X.1.2.2.2.2), X.2.1, X.2.2.1, (X.2.2.2.1.1, (fun _ => nI 1), X.2.2.2.1.2.2), X.2.2.2.2))) hP 1 rfl (fun j hj => kq_c (fun _ => rfl) (fun _ _ => rfl) (fun q1 q2 => kcp_in (fun _ => nI 1) X.2.2.2.1.2.1 (show j - 20 < i by omega)) (fun _ _ => rfl) (fun _ _ => rfl) (fun _ _ => rfl) (fun _ _ => rfl))
      have hD := hD.set (p := 1) (e := .inl (cy 0, 188, .inl (kEn ((X.1.1, X.1.2.1, X.1.2.2.1, k, X.1.2.2.2.2), X.2.1, X.2.2.1, (X.2.2.2.1.1, (fun _ => nI 1), X.2.2.2.1.2.2), X.2.2.2.2)))) rfl
      have hP : va_P D vwCl (bkF [mW cy ra (kEn ((X.1.1, X.1.2.1, X.1.2.2.1, k, X.1.2.2.2.2), X.2.1, X.2.2.1, (X.2.2.2.1.1, (fun _ => nI 1), X.2.2.2.1.2.2), X.2.2.2.2), ((kRsv (kEn X) T.1 T.2.2.1), T.2.1, (kSc T.2.2.1), T.2.2.2))]) H := hP
      have hD : va_D A (bkF [mW cy ra (kEn ((X.1.1, X.1.2.1, X.1.2.2.1, k, X.1.2.2.2.2), X.2.1, X.2.2.1, (X.2.2.2.1.1, (fun _ => nI 1), X.2.2.2.1.2.2), X.2.2.2.2), ((kRsv (kEn X) T.1 T.2.2.1), T.2.1, (kSc T.2.2.1), T.2.2.2))]) := hD
      refine lv_aload_n hx hb dX5_setFiddlers_61 rfl (lv_at hl 0 rfl) ?_
      refine lv_iload_n hx hb dX5_setFiddlers_62 rfl (lv_at hl 1 rfl) ?_
      refine kc_i (Cs := [mW cy ra (kEn ((X.1.1, X.1.2.1, X.1.2.2.1, k, X.1.2.2.2.2), X.2.1, X.2.2.1, (X.2.2.2.1.1, (fun _ => nI 1), X.2.2.2.1.2.2), X.2.2.2.2), ((kRsv (kEn X) T.1 T.2.2.1), T.2.1, (kSc T.2.2.1), T.2.2.2))]) (Rs := []) (Bs := [mW cy ra (kEn ((X.1.1, X.1.2.1, X.1.2.2.1, k, X.1.2.2.2.2), X.2.1, X.2.2.1, (X.2.2.2.1.1, (fun _ => nI 1), X.2.2.2.1.2.2), X.2.2.2.2), ((kRsv (kEn X) T.1 T.2.2.1), T.2.1, (kSc T.2.2.1), T.2.2.2))]) (Cs' := fun u_ : Unit => [mW cy ra ((kEn ((X.1.1, X.1.2.1, X.1.2.2.1, k, X.1.2.2.2.2), X.2.1, X.2.2.1, (X.2.2.2.1.1, (fun _ => nI 1), X.2.2.2.1.2.2), X.2.2.2.2)), ((kRsv (kEn X) T.1 T.2.2.1), T.2.1, (kSc T.2.2.1), nI 0, T.2.2.2.2))]) (Fs := fun u_ : Unit => [mW cy ra ((kEn ((X.1.1, X.1.2.1, X.1.2.2.1, k, X.1.2.2.2.2), X.2.1, X.2.2.1, (X.2.2.2.1.1, (fun _ => nI 1), X.2.2.2.1.2.2), X.2.2.2.2)), ((kRsv (kEn X) T.1 T.2.2.1), T.2.1, (kSc T.2.2.1), nI 0, T.2.2.2.2))]) hP hD hS hA [0] [] [0] rfl rfl (by decide) (by decide) (fun _ => rfl) (va_runV (As := [.int (nI X.1.2.2.2.1)]) (rest := []) ⟨hx, hb, hml, hown, hts⟩ (c_X5_fine l D cy ra (kEn ((X.1.1, X.1.2.1, X.1.2.2.1, k, X.1.2.2.2.2), X.2.1, X.2.2.1, (X.2.2.2.1.1, (fun _ => nI 1), X.2.2.2.1.2.2), X.2.2.2.2)) ((kRsv (kEn X) T.1 T.2.2.1), T.2.1, (kSc T.2.2.1), T.2.2.2) (nI X.1.2.2.2.1) H.size) (cwV 1 hts gX5_setFiddlers_X5_fine rfl rfl rfl (by decide +kernel) ⟨Nat.le_of_ble_eq_true rfl, Nat.le_of_ble_eq_true rfl⟩) (kPre_V (ci := 5) hK hN hP hD [0] (by decide) rfl 0 rfl rfl) rfl rfl hl.1 rfl (lv_room (Nat.le_of_ble_eq_true rfl)) dX5_setFiddlers_63 ⟨Nat.le_of_ble_eq_true rfl, Nat.le_of_ble_eq_true rfl⟩) (fun r_ u_ H locs hw hP hD hS => ?_)
      have hw : r_ = (nI X.1.2.2.2.1) := hw
      subst hw
      exact kr_i (post := fun r_ (u_ : Unit) => r_ = nI X.1.2.2.2.1) (Bs := fun u_ : Unit => [mW cy ra (kEn ((X.1.1, X.1.2.1, X.1.2.2.1, k, X.1.2.2.2.2), X.2.1, X.2.2.1, (X.2.2.2.1.1, (fun _ => nI 1), X.2.2.2.1.2.2), X.2.2.2.2), (kRsv (kEn X) T.1 T.2.2.1, T.2.1, kSc T.2.2.1, nI 0, T.2.2.2.2))]) hx hb hr hlocks rfl () hP hK hD hS rfl dX5_setFiddlers_66 hQ
    · skip
      have c_42 : ¬ (4 ≤ i) := fun h => c_42 ((nI_leI (a := 4) (b := i) (by omega) (by omega)).mpr h)
      refine lv_aload_n hx hb dX5_setFiddlers_45 rfl (lv_at hl 0 rfl) ?_
      refine va_get (D := D) (ci := 5) (v := .ref (ra 1)) (C := RX5) (T := TX5) (N := 16) hx hb hts (by decide +kernel) hown hK hP 0 rfl rfl 0 (by decide) (hts (.fieldLink RX5 7 "DanceHallModel" "all" "[I") (by decide +kernel)) (fun _ h9 => h9) rfl dX5_setFiddlers_46 ?_
      refine lv_bipush (v := nI 20) hx hb dX5_setFiddlers_49 (by decide) ?_
      refine lv_iload_n hx hb dX5_setFiddlers_51 rfl (lv_at hl 2 rfl) ?_
      refine lv_iadd hx hb dX5_setFiddlers_52 ?_
      refine kv_i (y := nI (20 + i)) (nI_add 20 i) ?_
      refine lv_iconst (v := nI 1) hx hb dX5_setFiddlers_53 (by decide) ?_
      refine va_iast hx hb hK hP hD hS 1 0 rfl rfl (vp_in_nI (n := 20 + i) (N := 188) (by omega) (by omega)) dX5_setFiddlers_54 (fun H locs hP hD hS => ?_)
      rw [nI_clamp (n := 20 + i) (by omega)] at hP hD
      have hP : va_P D vwCl (bkF [mW cy ra (upd (kEn ((X.1.1, X.1.2.1, X.1.2.2.1, k, X.1.2.2.2.2), X.2.1, X.2.2.1, (X.2.2.2.1.1, kcp (fun _ => nI 1) X.2.2.2.1.2.1 i, X.2.2.2.1.2.2), X.2.2.2.2)) (20 + i) (nI 1), ((kRsv (kEn X) T.1 T.2.2.1), T.2.1, (kSc T.2.2.1), T.2.2.2))]) H := hP
      have hD : va_D A (bkF [mW cy ra (upd (kEn ((X.1.1, X.1.2.1, X.1.2.2.1, k, X.1.2.2.2.2), X.2.1, X.2.2.1, (X.2.2.2.1.1, kcp (fun _ => nI 1) X.2.2.2.1.2.1 i, X.2.2.2.1.2.2), X.2.2.2.2)) (20 + i) (nI 1), ((kRsv (kEn X) T.1 T.2.2.1), T.2.1, (kSc T.2.2.1), T.2.2.2))]) := hD
      refine lv_iinc (v := nI (i + 1)) (lv' := [(3, .int (nI (i + 1))), (0, .ref (ra 0)), (2, .int (nI X.1.2.2.2.1))]) hx hb dX5_setFiddlers_55 hl (k := 2) rfl (nI_add i 1) (by decide) rfl (fun ls hl => ?_)
      refine lv_goto (tgt := 40) hx hb dX5_setFiddlers_58 (by decide) ?_
      have hP := kP_cell (g := (kEn ((X.1.1, X.1.2.1, X.1.2.2.1, k, X.1.2.2.2.2), X.2.1, X.2.2.1, (X.2.2.2.1.1, kcp (fun _ => nI 1) X.2.2.2.1.2.1 (i + 1), X.2.2.2.1.2.2), X.2.2.2.2))) hP 1 rfl (fun j hj => (kqu_p (by omega) j hj).trans (kq_c (fun _ => rfl) (fun _ _ => rfl) (fun _ _ => kcp_s (fun _ => nI 1) _ _ _) (fun _ _ => rfl) (fun _ _ => rfl) (fun _ _ => rfl) (fun _ _ => rfl)))
      have hD := hD.set (p := 1) (e := .inl (cy 0, 188, .inl (kEn ((X.1.1, X.1.2.1, X.1.2.2.1, k, X.1.2.2.2.2), X.2.1, X.2.2.1, (X.2.2.2.1.1, kcp (fun _ => nI 1) X.2.2.2.1.2.1 (i + 1), X.2.2.2.1.2.2), X.2.2.2.2)))) rfl
      have hP : va_P D vwCl (bkF [mW cy ra (kEn ((X.1.1, X.1.2.1, X.1.2.2.1, k, X.1.2.2.2.2), X.2.1, X.2.2.1, (X.2.2.2.1.1, kcp (fun _ => nI 1) X.2.2.2.1.2.1 (i + 1), X.2.2.2.1.2.2), X.2.2.2.2), ((kRsv (kEn X) T.1 T.2.2.1), T.2.1, (kSc T.2.2.1), T.2.2.2))]) H := hP
      have hD : va_D A (bkF [mW cy ra (kEn ((X.1.1, X.1.2.1, X.1.2.2.1, k, X.1.2.2.2.2), X.2.1, X.2.2.1, (X.2.2.2.1.1, kcp (fun _ => nI 1) X.2.2.2.1.2.1 (i + 1), X.2.2.2.1.2.2), X.2.2.2.2), ((kRsv (kEn X) T.1 T.2.2.1), T.2.1, (kSc T.2.2.1), T.2.2.2))]) := hD
      exact ih_40 _ (by omega) (i + 1) rfl (by omega) ls H locs hP hD hS (lv_sub hl [1, 2, 0] rfl)
  exact L_40 _ 0  rfl (by omega) ls H locs hP hD hS (lv_sub hl [2, 1, 0] rfl)
abbrev rm_X5_setFiddlers_a : Room := { frames := 1, cells := 0, slots := 0, locals := 25 }
set_option maxHeartbeats 1000000 in
set_option maxRecDepth 100000 in
/-- setFiddlers, out of range -/
theorem c_X5_setFiddlers_a (l : Launch) (D : va_G) (cy : Nat → ClassId) (ra : Nat → Nat) (X : rS) (T : rV) (k : Int32) (hbad : ¬ (¬ k < nI 1 ∧ ¬ nI 4 < k)) (sz : Nat) : Met l yX5_setFiddlers wsX5_setFiddlers rm_X5_setFiddlers_a (va_Pc [.ref (ra 0), .int k] (kPre D (kT cy) [mW cy ra (kEn X, T)] sz)) (va_Qi (fun r_ (u_ : Unit) => r_ = nI 0) (kFr D (kT cy) [mW cy ra (kEn X, T)] sz (fun u_ : Unit => [mW cy ra (kEn X, (T.1, T.2.1, T.2.2.1, nI 1, T.2.2.2.2))])) (va_A (bkF [mW cy ra (kEn X, T)]) sz)) 0 0 (va_A (bkF [mW cy ra (kEn X, T)]) sz) := by
  refine kOpen (y := yX5_setFiddlers) (ws := wsX5_setFiddlers) (cc := cX5_setFiddlers) (maxL := 4) (ret := (some .int)) (av := [.ref (ra 0), .int k]) (Bs := [mW cy ra (kEn X, T)]) (Qc := fun A => (va_Qi (fun r_ (u_ : Unit) => r_ = nI 0) (fun (u_ : Unit) t9 => kEnd D (kT cy) A [mW cy ra (kEn X, (T.1, T.2.1, T.2.2.1, nI 1, T.2.2.2.2))] t9) A)) (by decide) rfl (Nat.le_of_ble_eq_true rfl) ?_
  intro p e s m args below meth c A Q ls hQ hx hb hml hr hlocks hin hts hown hN hK hP hD hS hA hsz hAe hl
  clear hAe
  have hl : lv_has ls 4 [(0, .ref (ra 0)), (1, .int k)] := hl
  suffices K9 : ∀ (H : Heap) (locs : List Loc), va_P D vwCl (bkF [mW cy ra (kEn X, T)]) H → va_S A s.heap H locs → W p l e (headSpec wsX5_setFiddlers rm_X5_setFiddlers_a).room s m args below meth c H locs 0 0 Q (F0 m 0 ls []) from K9 _ _ hP hS
  clear hP hS
  intro H locs hP hS
  refine lv_iload_n hx hb dX5_setFiddlers_0 rfl (lv_at hl 1 rfl) ?_
  refine lv_i2l (v := k.toInt64) hx hb dX5_setFiddlers_1 rfl ?_
  refine lv_lconst (v := 1) hx hb dX5_setFiddlers_2 (by decide) ?_
  refine lv_ldc2 hx hb hown (hts (.constantLong RX5 98 (4)) (by decide +kernel)) dX5_setFiddlers_3 ?_
  refine kc_i (Cs := []) (Rs := [mW cy ra (kEn X, T)]) (Bs := [mW cy ra (kEn X, T)]) (Cs' := fun u_ : Unit => []) (Fs := fun u_ : Unit => [mW cy ra (kEn X, T)]) hP hD hS hA [] [0] [0] rfl rfl (by decide) (by decide) (fun _ => rfl) (va_runS (As := [.long k.toInt64, .long 1, .long (4)]) (rest := []) ⟨hx, hb, hml, hown, hts⟩ (c_X5_in l D cy k.toInt64 1 (4) H.size) (va_cwS 3 hts gX5_setFiddlers_X5_in rfl rfl rfl (by decide +kernel) ⟨Nat.le_of_ble_eq_true rfl, Nat.le_of_ble_eq_true rfl⟩) (kPre_S hK hN hP hD [] (by decide) rfl) rfl rfl hl.1 rfl (lv_room (Nat.le_of_ble_eq_true rfl)) dX5_setFiddlers_6 ⟨Nat.le_of_ble_eq_true rfl, Nat.le_of_ble_eq_true rfl⟩) (fun r_ u_ H locs hw hP hD hS => ?_)
  have hw : r_ = if kIn k.toInt64 1 (4) then nI 1 else nI 0 := hw
  subst hw
  refine kv_i (y := nI 0) (if_neg (fun h => hbad ((kIn32 (y := nI 1) (z := nI 4) (by decide) (by decide)).mp h))) ?_
  refine lv_if_ne (tgt := 18) hx hb dX5_setFiddlers_9 (by decide) (fun h => absurd h (by decide)) (fun _ => ?_)
  refine lv_aload_n hx hb dX5_setFiddlers_12 rfl (lv_at hl 0 rfl) ?_
  refine lv_iconst (v := nI 1) hx hb dX5_setFiddlers_13 (by decide) ?_
  refine kc_i (Cs := [mW cy ra (kEn X, T)]) (Rs := []) (Bs := [mW cy ra (kEn X, T)]) (Cs' := fun u_ : Unit => [mW cy ra ((kEn X), (T.1, T.2.1, T.2.2.1, (nI 1), T.2.2.2.2))]) (Fs := fun u_ : Unit => [mW cy ra ((kEn X), (T.1, T.2.1, T.2.2.1, (nI 1), T.2.2.2.2))]) hP hD hS hA [0] [] [0] rfl rfl (by decide) (by decide) (fun _ => rfl) (va_runV (As := [.int (nI 1)]) (rest := []) ⟨hx, hb, hml, hown, hts⟩ (c_X5_throwing l D cy ra (kEn X) T (nI 1) H.size) (cwV 1 hts gX5_setFiddlers_X5_throwing rfl rfl rfl (by decide +kernel) ⟨Nat.le_of_ble_eq_true rfl, Nat.le_of_ble_eq_true rfl⟩) (kPre_V (ci := 5) hK hN hP hD [0] (by decide) rfl 0 rfl rfl) rfl rfl hl.1 rfl (lv_room (Nat.le_of_ble_eq_true rfl)) dX5_setFiddlers_14 ⟨Nat.le_of_ble_eq_true rfl, Nat.le_of_ble_eq_true rfl⟩) (fun r_ u_ H locs hw hP hD hS => ?_)
  have hw : r_ = nI 0 := hw
  subst hw
  exact kr_i (post := fun r_ (u_ : Unit) => r_ = nI 0) (Bs := fun u_ : Unit => [mW cy ra (kEn X, (T.1, T.2.1, T.2.2.1, nI 1, T.2.2.2.2))]) hx hb hr hlocks rfl () hP hK hD hS rfl dX5_setFiddlers_17 hQ
abbrev rm_X5_setPart : Room := { frames := 2, cells := 0, slots := 0, locals := 46 }
set_option maxHeartbeats 1000000 in
set_option maxRecDepth 100000 in
/-- setPart -/
theorem c_X5_setPart (l : Launch) (D : va_G) (cy : Nat → ClassId) (ra : Nat → Nat) (X : rS) (T : rV) (f : Nat) (k : Nat) (hfn : X.1.2.2.2.1 ≤ 4) (hf : f < X.1.2.2.2.1) (hk1 : 1 ≤ k) (hk9 : k ≤ 9) (hsm : T.2.2.1 ≤ 4) (sz : Nat) : Met l yX5_setPart wsX5_setPart rm_X5_setPart (va_Pc [.ref (ra 0), .int (nI f), .int (nI k)] (kPre D (kT cy) [mW cy ra (kEn X, T)] sz)) (va_Qi (fun r_ (u_ : Unit) => r_ = X.2.2.2.1.2.1 f) (kFr D (kT cy) [mW cy ra (kEn X, T)] sz (fun u_ : Unit => [mW cy ra (kEn (X.1, X.2.1, X.2.2.1, (X.2.2.2.1.1, upd X.2.2.2.1.2.1 f (nI k), X.2.2.2.1.2.2), X.2.2.2.2), (kRsv (kEn X) T.1 T.2.2.1, T.2.1, kSc T.2.2.1, nI 0, T.2.2.2.2))])) (va_A (bkF [mW cy ra (kEn X, T)]) sz)) 0 0 (va_A (bkF [mW cy ra (kEn X, T)]) sz) := by
  refine kOpen (y := yX5_setPart) (ws := wsX5_setPart) (cc := cX5_setPart) (maxL := 4) (ret := (some .int)) (av := [.ref (ra 0), .int (nI f), .int (nI k)]) (Bs := [mW cy ra (kEn X, T)]) (Qc := fun A => (va_Qi (fun r_ (u_ : Unit) => r_ = X.2.2.2.1.2.1 f) (fun (u_ : Unit) t9 => kEnd D (kT cy) A [mW cy ra (kEn (X.1, X.2.1, X.2.2.1, (X.2.2.2.1.1, upd X.2.2.2.1.2.1 f (nI k), X.2.2.2.1.2.2), X.2.2.2.2), (kRsv (kEn X) T.1 T.2.2.1, T.2.1, kSc T.2.2.1, nI 0, T.2.2.2.2))] t9) A)) (by decide) rfl (Nat.le_of_ble_eq_true rfl) ?_
  intro p e s m args below meth c A Q ls hQ hx hb hml hr hlocks hin hts hown hN hK hP hD hS hA hsz hAe hl
  clear hAe
  have hl : lv_has ls 4 [(0, .ref (ra 0)), (1, .int (nI f)), (2, .int (nI k))] := hl
  suffices K9 : ∀ (H : Heap) (locs : List Loc), va_P D vwCl (bkF [mW cy ra (kEn X, T)]) H → va_S A s.heap H locs → W p l e (headSpec wsX5_setPart rm_X5_setPart).room s m args below meth c H locs 0 0 Q (F0 m 0 ls []) from K9 _ _ hP hS
  clear hP hS
  intro H locs hP hS
  refine lv_aload_n hx hb dX5_setPart_0 rfl (lv_at hl 0 rfl) ?_
  refine lv_iload_n hx hb dX5_setPart_1 rfl (lv_at hl 1 rfl) ?_
  refine kc_i (Cs := [mW cy ra (kEn X, T)]) (Rs := []) (Bs := [mW cy ra (kEn X, T)]) (Cs' := fun u_ : Unit => [mW cy ra (kEn X, T)]) (Fs := fun u_ : Unit => [mW cy ra (kEn X, T)]) hP hD hS hA [0] [] [0] rfl rfl (by decide) (by decide) (fun _ => rfl) (va_runV (As := [.int (nI f)]) (rest := []) ⟨hx, hb, hml, hown, hts⟩ (c_X5_isFiddler l D cy ra X T (nI f) (by first | assumption | omega | decide) H.size) (cwV 1 hts gX5_setPart_X5_isFiddler rfl rfl rfl (by decide +kernel) ⟨Nat.le_of_ble_eq_true rfl, Nat.le_of_ble_eq_true rfl⟩) (kPre_V (ci := 5) hK hN hP hD [0] (by decide) rfl 0 rfl rfl) rfl rfl hl.1 rfl (lv_room (Nat.le_of_ble_eq_true rfl)) dX5_setPart_2 ⟨Nat.le_of_ble_eq_true rfl, Nat.le_of_ble_eq_true rfl⟩) (fun r_ u_ H locs hw hP hD hS => ?_)
  have hw : r_ = if ¬ (nI f) < nI 0 ∧ ¬ nI X.1.2.2.2.1 ≤ (nI f) then nI 1 else nI 0 := hw
  subst hw
  refine kv_i (y := nI 1) (if_pos (khas (by omega) (by omega))) ?_
  refine lv_if_ne (tgt := 14) hx hb dX5_setPart_5 (by decide) (fun _ => ?_) (fun h => absurd h (by decide))
  refine lv_iload_n hx hb dX5_setPart_14 rfl (lv_at hl 2 rfl) ?_
  refine lv_i2l (v := (nI k).toInt64) hx hb dX5_setPart_15 rfl ?_
  refine lv_lconst (v := 1) hx hb dX5_setPart_16 (by decide) ?_
  refine lv_ldc2 hx hb hown (hts (.constantLong RX5 69 (9)) (by decide +kernel)) dX5_setPart_17 ?_
  refine kc_i (Cs := []) (Rs := [mW cy ra (kEn X, T)]) (Bs := [mW cy ra (kEn X, T)]) (Cs' := fun u_ : Unit => []) (Fs := fun u_ : Unit => [mW cy ra (kEn X, T)]) hP hD hS hA [] [0] [0] rfl rfl (by decide) (by decide) (fun _ => rfl) (va_runS (As := [.long ((nI k).toInt64), .long 1, .long (9)]) (rest := []) ⟨hx, hb, hml, hown, hts⟩ (c_X5_in l D cy ((nI k).toInt64) 1 (9) H.size) (va_cwS 3 hts gX5_setPart_X5_in rfl rfl rfl (by decide +kernel) ⟨Nat.le_of_ble_eq_true rfl, Nat.le_of_ble_eq_true rfl⟩) (kPre_S hK hN hP hD [] (by decide) rfl) rfl rfl hl.1 rfl (lv_room (Nat.le_of_ble_eq_true rfl)) dX5_setPart_20 ⟨Nat.le_of_ble_eq_true rfl, Nat.le_of_ble_eq_true rfl⟩) (fun r_ u_ H locs hw hP hD hS => ?_)
  have hw : r_ = if kIn ((nI k).toInt64) 1 (9) then nI 1 else nI 0 := hw
  subst hw
  refine kv_i (y := nI 1) (if_pos ((kIn32 (y := nI 1) (z := nI 9) (by decide) (by decide)).mpr (kwin (by omega) (by omega) (by decide)))) ?_
  refine lv_if_ne (tgt := 32) hx hb dX5_setPart_23 (by decide) (fun _ => ?_) (fun h => absurd h (by decide))
  refine lv_aload_n hx hb dX5_setPart_32 rfl (lv_at hl 0 rfl) ?_
  refine kc_v (Cs := [mW cy ra (kEn X, T)]) (Rs := []) (Bs := [mW cy ra (kEn X, T)]) (Cs' := fun u_ : Unit => [mW cy ra (kEn X, (kRsv (kEn X) T.1 T.2.2.1, T.2.1, kSc T.2.2.1, T.2.2.2))]) (Fs := fun u_ : Unit => [mW cy ra (kEn X, (kRsv (kEn X) T.1 T.2.2.1, T.2.1, kSc T.2.2.1, T.2.2.2))]) hP hD hS hA [0] [] [0] rfl rfl (by decide) (by decide) (fun _ => rfl) (va_runV (As := []) (rest := []) ⟨hx, hb, hml, hown, hts⟩ (c_X5_save l D cy ra X T (by first | assumption | omega | decide) H.size) (cwV 0 hts gX5_setPart_X5_save rfl rfl rfl (by decide +kernel) ⟨Nat.le_of_ble_eq_true rfl, Nat.le_of_ble_eq_true rfl⟩) (kPre_V (ci := 5) hK hN hP hD [0] (by decide) rfl 0 rfl rfl) rfl rfl hl.1 rfl (lv_room (Nat.le_of_ble_eq_true rfl)) dX5_setPart_33 ⟨Nat.le_of_ble_eq_true rfl, Nat.le_of_ble_eq_true rfl⟩) (fun u_ H locs hw hP hD hS => ?_)
  refine lv_aload_n hx hb dX5_setPart_36 rfl (lv_at hl 0 rfl) ?_
  refine va_get (D := D) (ci := 5) (v := .ref (ra 1)) (C := RX5) (T := TX5) (N := 16) hx hb hts (by decide +kernel) hown hK hP 0 rfl rfl 0 (by decide) (hts (.fieldLink RX5 7 "DanceHallModel" "all" "[I") (by decide +kernel)) (fun _ h9 => h9) rfl dX5_setPart_37 ?_
  refine lv_bipush (v := nI 20) hx hb dX5_setPart_40 (by decide) ?_
  refine lv_iload_n hx hb dX5_setPart_42 rfl (lv_at hl 1 rfl) ?_
  refine lv_iadd hx hb dX5_setPart_43 ?_
  refine kv_i (y := nI (20 + f)) (nI_add 20 f) ?_
  refine va_iald hx hb hK hP 1 0 rfl rfl (vp_in_nI (n := 20 + f) (N := 188) (by omega) (by omega)) dX5_setPart_44 ?_
  refine kv_i (y := X.2.2.2.1.2.1 f) (by rw [nI_clamp (n := 20 + f) (by omega)]; exact (kq_p (by omega))) ?_
  refine lv_istore_n (lv' := [(3, .int (X.2.2.2.1.2.1 f)), (0, .ref (ra 0)), (1, .int (nI f)), (2, .int (nI k))]) hx hb dX5_setPart_45 rfl hl (by decide) rfl (fun ls hl => ?_)
  refine lv_aload_n hx hb dX5_setPart_46 rfl (lv_at hl 1 rfl) ?_
  refine va_get (D := D) (ci := 5) (v := .ref (ra 1)) (C := RX5) (T := TX5) (N := 16) hx hb hts (by decide +kernel) hown hK hP 0 rfl rfl 0 (by decide) (hts (.fieldLink RX5 7 "DanceHallModel" "all" "[I") (by decide +kernel)) (fun _ h9 => h9) rfl dX5_setPart_47 ?_
  refine lv_bipush (v := nI 20) hx hb dX5_setPart_50 (by decide) ?_
  refine lv_iload_n hx hb dX5_setPart_52 rfl (lv_at hl 2 rfl) ?_
  refine lv_iadd hx hb dX5_setPart_53 ?_
  refine kv_i (y := nI (20 + f)) (nI_add 20 f) ?_
  refine lv_iload_n hx hb dX5_setPart_54 rfl (lv_at hl 3 rfl) ?_
  refine va_iast hx hb hK hP hD hS 1 0 rfl rfl (vp_in_nI (n := 20 + f) (N := 188) (by omega) (by omega)) dX5_setPart_55 (fun H locs hP hD hS => ?_)
  rw [nI_clamp (n := 20 + f) (by omega)] at hP hD
  have hP : va_P D vwCl (bkF [mW cy ra (upd (kEn X) (20 + f) (nI k), (kRsv (kEn X) T.1 T.2.2.1, T.2.1, kSc T.2.2.1, T.2.2.2))]) H := hP
  have hD : va_D A (bkF [mW cy ra (upd (kEn X) (20 + f) (nI k), (kRsv (kEn X) T.1 T.2.2.1, T.2.1, kSc T.2.2.1, T.2.2.2))]) := hD
  have hP := kP_cell (g := (kEn (X.1, X.2.1, X.2.2.1, (X.2.2.2.1.1, upd X.2.2.2.1.2.1 f (nI k), X.2.2.2.1.2.2), X.2.2.2.2))) hP 1 rfl (fun j hj => kqu_p (by omega) j hj)
  have hD := hD.set (p := 1) (e := .inl (cy 0, 188, .inl (kEn (X.1, X.2.1, X.2.2.1, (X.2.2.2.1.1, upd X.2.2.2.1.2.1 f (nI k), X.2.2.2.1.2.2), X.2.2.2.2)))) rfl
  have hP : va_P D vwCl (bkF [mW cy ra (kEn (X.1, X.2.1, X.2.2.1, (X.2.2.2.1.1, upd X.2.2.2.1.2.1 f (nI k), X.2.2.2.1.2.2), X.2.2.2.2), (kRsv (kEn X) T.1 T.2.2.1, T.2.1, kSc T.2.2.1, T.2.2.2))]) H := hP
  have hD : va_D A (bkF [mW cy ra (kEn (X.1, X.2.1, X.2.2.1, (X.2.2.2.1.1, upd X.2.2.2.1.2.1 f (nI k), X.2.2.2.1.2.2), X.2.2.2.2), (kRsv (kEn X) T.1 T.2.2.1, T.2.1, kSc T.2.2.1, T.2.2.2))]) := hD
  refine lv_aload_n hx hb dX5_setPart_56 rfl (lv_at hl 1 rfl) ?_
  refine lv_iload_n hx hb dX5_setPart_57 rfl (lv_at hl 0 rfl) ?_
  refine kc_i (Cs := [mW cy ra (kEn (X.1, X.2.1, X.2.2.1, (X.2.2.2.1.1, upd X.2.2.2.1.2.1 f (nI k), X.2.2.2.1.2.2), X.2.2.2.2), (kRsv (kEn X) T.1 T.2.2.1, T.2.1, kSc T.2.2.1, T.2.2.2))]) (Rs := []) (Bs := [mW cy ra (kEn (X.1, X.2.1, X.2.2.1, (X.2.2.2.1.1, upd X.2.2.2.1.2.1 f (nI k), X.2.2.2.1.2.2), X.2.2.2.2), (kRsv (kEn X) T.1 T.2.2.1, T.2.1, kSc T.2.2.1, T.2.2.2))]) (Cs' := fun u_ : Unit => [mW cy ra ((kEn (X.1, X.2.1, X.2.2.1, (X.2.2.2.1.1, upd X.2.2.2.1.2.1 f (nI k), X.2.2.2.1.2.2), X.2.2.2.2)), ((kRsv (kEn X) T.1 T.2.2.1), T.2.1, (kSc T.2.2.1), nI 0, T.2.2.2.2))]) (Fs := fun u_ : Unit => [mW cy ra ((kEn (X.1, X.2.1, X.2.2.1, (X.2.2.2.1.1, upd X.2.2.2.1.2.1 f (nI k), X.2.2.2.1.2.2), X.2.2.2.2)), ((kRsv (kEn X) T.1 T.2.2.1), T.2.1, (kSc T.2.2.1), nI 0, T.2.2.2.2))]) hP hD hS hA [0] [] [0] rfl rfl (by decide) (by decide) (fun _ => rfl) (va_runV (As := [.int (X.2.2.2.1.2.1 f)]) (rest := []) ⟨hx, hb, hml, hown, hts⟩ (c_X5_fine l D cy ra (kEn (X.1, X.2.1, X.2.2.1, (X.2.2.2.1.1, upd X.2.2.2.1.2.1 f (nI k), X.2.2.2.1.2.2), X.2.2.2.2)) (kRsv (kEn X) T.1 T.2.2.1, T.2.1, kSc T.2.2.1, T.2.2.2) (X.2.2.2.1.2.1 f) H.size) (cwV 1 hts gX5_setPart_X5_fine rfl rfl rfl (by decide +kernel) ⟨Nat.le_of_ble_eq_true rfl, Nat.le_of_ble_eq_true rfl⟩) (kPre_V (ci := 5) hK hN hP hD [0] (by decide) rfl 0 rfl rfl) rfl rfl hl.1 rfl (lv_room (Nat.le_of_ble_eq_true rfl)) dX5_setPart_58 ⟨Nat.le_of_ble_eq_true rfl, Nat.le_of_ble_eq_true rfl⟩) (fun r_ u_ H locs hw hP hD hS => ?_)
  have hw : r_ = (X.2.2.2.1.2.1 f) := hw
  subst hw
  exact kr_i (post := fun r_ (u_ : Unit) => r_ = X.2.2.2.1.2.1 f) (Bs := fun u_ : Unit => [mW cy ra (kEn (X.1, X.2.1, X.2.2.1, (X.2.2.2.1.1, upd X.2.2.2.1.2.1 f (nI k), X.2.2.2.1.2.2), X.2.2.2.2), (kRsv (kEn X) T.1 T.2.2.1, T.2.1, kSc T.2.2.1, nI 0, T.2.2.2.2))]) hx hb hr hlocks rfl () hP hK hD hS rfl dX5_setPart_61 hQ
abbrev rm_X5_setPart_i : Room := { frames := 2, cells := 0, slots := 0, locals := 46 }
set_option maxHeartbeats 1000000 in
set_option maxRecDepth 100000 in
/-- setPart, no fiddler -/
theorem c_X5_setPart_i (l : Launch) (D : va_G) (cy : Nat → ClassId) (ra : Nat → Nat) (X : rS) (T : rV) (f : Int32) (k : Int32) (hfn : X.1.2.2.2.1 ≤ 4) (hbad : ¬ (¬ f < nI 0 ∧ ¬ nI X.1.2.2.2.1 ≤ f)) (sz : Nat) : Met l yX5_setPart wsX5_setPart rm_X5_setPart_i (va_Pc [.ref (ra 0), .int f, .int k] (kPre D (kT cy) [mW cy ra (kEn X, T)] sz)) (va_Qi (fun r_ (u_ : Unit) => r_ = nI 0) (kFr D (kT cy) [mW cy ra (kEn X, T)] sz (fun u_ : Unit => [mW cy ra (kEn X, (T.1, T.2.1, T.2.2.1, nI 1, T.2.2.2.2))])) (va_A (bkF [mW cy ra (kEn X, T)]) sz)) 0 0 (va_A (bkF [mW cy ra (kEn X, T)]) sz) := by
  refine kOpen (y := yX5_setPart) (ws := wsX5_setPart) (cc := cX5_setPart) (maxL := 4) (ret := (some .int)) (av := [.ref (ra 0), .int f, .int k]) (Bs := [mW cy ra (kEn X, T)]) (Qc := fun A => (va_Qi (fun r_ (u_ : Unit) => r_ = nI 0) (fun (u_ : Unit) t9 => kEnd D (kT cy) A [mW cy ra (kEn X, (T.1, T.2.1, T.2.2.1, nI 1, T.2.2.2.2))] t9) A)) (by decide) rfl (Nat.le_of_ble_eq_true rfl) ?_
  intro p e s m args below meth c A Q ls hQ hx hb hml hr hlocks hin hts hown hN hK hP hD hS hA hsz hAe hl
  clear hAe
  have hl : lv_has ls 4 [(0, .ref (ra 0)), (1, .int f), (2, .int k)] := hl
  suffices K9 : ∀ (H : Heap) (locs : List Loc), va_P D vwCl (bkF [mW cy ra (kEn X, T)]) H → va_S A s.heap H locs → W p l e (headSpec wsX5_setPart rm_X5_setPart_i).room s m args below meth c H locs 0 0 Q (F0 m 0 ls []) from K9 _ _ hP hS
  clear hP hS
  intro H locs hP hS
  refine lv_aload_n hx hb dX5_setPart_0 rfl (lv_at hl 0 rfl) ?_
  refine lv_iload_n hx hb dX5_setPart_1 rfl (lv_at hl 1 rfl) ?_
  refine kc_i (Cs := [mW cy ra (kEn X, T)]) (Rs := []) (Bs := [mW cy ra (kEn X, T)]) (Cs' := fun u_ : Unit => [mW cy ra (kEn X, T)]) (Fs := fun u_ : Unit => [mW cy ra (kEn X, T)]) hP hD hS hA [0] [] [0] rfl rfl (by decide) (by decide) (fun _ => rfl) (va_runV (As := [.int f]) (rest := []) ⟨hx, hb, hml, hown, hts⟩ (c_X5_isFiddler l D cy ra X T f (by first | assumption | omega | decide) H.size) (cwV 1 hts gX5_setPart_X5_isFiddler rfl rfl rfl (by decide +kernel) ⟨Nat.le_of_ble_eq_true rfl, Nat.le_of_ble_eq_true rfl⟩) (kPre_V (ci := 5) hK hN hP hD [0] (by decide) rfl 0 rfl rfl) rfl rfl hl.1 rfl (lv_room (Nat.le_of_ble_eq_true rfl)) dX5_setPart_2 ⟨Nat.le_of_ble_eq_true rfl, Nat.le_of_ble_eq_true rfl⟩) (fun r_ u_ H locs hw hP hD hS => ?_)
  have hw : r_ = if ¬ f < nI 0 ∧ ¬ nI X.1.2.2.2.1 ≤ f then nI 1 else nI 0 := hw
  subst hw
  refine kv_i (y := nI 0) (if_neg hbad) ?_
  refine lv_if_ne (tgt := 14) hx hb dX5_setPart_5 (by decide) (fun h => absurd h (by decide)) (fun _ => ?_)
  refine lv_aload_n hx hb dX5_setPart_8 rfl (lv_at hl 0 rfl) ?_
  refine lv_iconst (v := nI 1) hx hb dX5_setPart_9 (by decide) ?_
  refine kc_i (Cs := [mW cy ra (kEn X, T)]) (Rs := []) (Bs := [mW cy ra (kEn X, T)]) (Cs' := fun u_ : Unit => [mW cy ra ((kEn X), (T.1, T.2.1, T.2.2.1, (nI 1), T.2.2.2.2))]) (Fs := fun u_ : Unit => [mW cy ra ((kEn X), (T.1, T.2.1, T.2.2.1, (nI 1), T.2.2.2.2))]) hP hD hS hA [0] [] [0] rfl rfl (by decide) (by decide) (fun _ => rfl) (va_runV (As := [.int (nI 1)]) (rest := []) ⟨hx, hb, hml, hown, hts⟩ (c_X5_throwing l D cy ra (kEn X) T (nI 1) H.size) (cwV 1 hts gX5_setPart_X5_throwing rfl rfl rfl (by decide +kernel) ⟨Nat.le_of_ble_eq_true rfl, Nat.le_of_ble_eq_true rfl⟩) (kPre_V (ci := 5) hK hN hP hD [0] (by decide) rfl 0 rfl rfl) rfl rfl hl.1 rfl (lv_room (Nat.le_of_ble_eq_true rfl)) dX5_setPart_10 ⟨Nat.le_of_ble_eq_true rfl, Nat.le_of_ble_eq_true rfl⟩) (fun r_ u_ H locs hw hP hD hS => ?_)
  have hw : r_ = nI 0 := hw
  subst hw
  exact kr_i (post := fun r_ (u_ : Unit) => r_ = nI 0) (Bs := fun u_ : Unit => [mW cy ra (kEn X, (T.1, T.2.1, T.2.2.1, nI 1, T.2.2.2.2))]) hx hb hr hlocks rfl () hP hK hD hS rfl dX5_setPart_13 hQ
abbrev rm_X5_setPart_a : Room := { frames := 2, cells := 0, slots := 0, locals := 46 }
set_option maxHeartbeats 1000000 in
set_option maxRecDepth 100000 in
/-- setPart, out of range -/
theorem c_X5_setPart_a (l : Launch) (D : va_G) (cy : Nat → ClassId) (ra : Nat → Nat) (X : rS) (T : rV) (f : Nat) (k : Int32) (hfn : X.1.2.2.2.1 ≤ 4) (hf : f < X.1.2.2.2.1) (hbad : ¬ (¬ k < nI 1 ∧ ¬ nI 9 < k)) (sz : Nat) : Met l yX5_setPart wsX5_setPart rm_X5_setPart_a (va_Pc [.ref (ra 0), .int (nI f), .int k] (kPre D (kT cy) [mW cy ra (kEn X, T)] sz)) (va_Qi (fun r_ (u_ : Unit) => r_ = nI 0) (kFr D (kT cy) [mW cy ra (kEn X, T)] sz (fun u_ : Unit => [mW cy ra (kEn X, (T.1, T.2.1, T.2.2.1, nI 2, T.2.2.2.2))])) (va_A (bkF [mW cy ra (kEn X, T)]) sz)) 0 0 (va_A (bkF [mW cy ra (kEn X, T)]) sz) := by
  refine kOpen (y := yX5_setPart) (ws := wsX5_setPart) (cc := cX5_setPart) (maxL := 4) (ret := (some .int)) (av := [.ref (ra 0), .int (nI f), .int k]) (Bs := [mW cy ra (kEn X, T)]) (Qc := fun A => (va_Qi (fun r_ (u_ : Unit) => r_ = nI 0) (fun (u_ : Unit) t9 => kEnd D (kT cy) A [mW cy ra (kEn X, (T.1, T.2.1, T.2.2.1, nI 2, T.2.2.2.2))] t9) A)) (by decide) rfl (Nat.le_of_ble_eq_true rfl) ?_
  intro p e s m args below meth c A Q ls hQ hx hb hml hr hlocks hin hts hown hN hK hP hD hS hA hsz hAe hl
  clear hAe
  have hl : lv_has ls 4 [(0, .ref (ra 0)), (1, .int (nI f)), (2, .int k)] := hl
  suffices K9 : ∀ (H : Heap) (locs : List Loc), va_P D vwCl (bkF [mW cy ra (kEn X, T)]) H → va_S A s.heap H locs → W p l e (headSpec wsX5_setPart rm_X5_setPart_a).room s m args below meth c H locs 0 0 Q (F0 m 0 ls []) from K9 _ _ hP hS
  clear hP hS
  intro H locs hP hS
  refine lv_aload_n hx hb dX5_setPart_0 rfl (lv_at hl 0 rfl) ?_
  refine lv_iload_n hx hb dX5_setPart_1 rfl (lv_at hl 1 rfl) ?_
  refine kc_i (Cs := [mW cy ra (kEn X, T)]) (Rs := []) (Bs := [mW cy ra (kEn X, T)]) (Cs' := fun u_ : Unit => [mW cy ra (kEn X, T)]) (Fs := fun u_ : Unit => [mW cy ra (kEn X, T)]) hP hD hS hA [0] [] [0] rfl rfl (by decide) (by decide) (fun _ => rfl) (va_runV (As := [.int (nI f)]) (rest := []) ⟨hx, hb, hml, hown, hts⟩ (c_X5_isFiddler l D cy ra X T (nI f) (by first | assumption | omega | decide) H.size) (cwV 1 hts gX5_setPart_X5_isFiddler rfl rfl rfl (by decide +kernel) ⟨Nat.le_of_ble_eq_true rfl, Nat.le_of_ble_eq_true rfl⟩) (kPre_V (ci := 5) hK hN hP hD [0] (by decide) rfl 0 rfl rfl) rfl rfl hl.1 rfl (lv_room (Nat.le_of_ble_eq_true rfl)) dX5_setPart_2 ⟨Nat.le_of_ble_eq_true rfl, Nat.le_of_ble_eq_true rfl⟩) (fun r_ u_ H locs hw hP hD hS => ?_)
  have hw : r_ = if ¬ (nI f) < nI 0 ∧ ¬ nI X.1.2.2.2.1 ≤ (nI f) then nI 1 else nI 0 := hw
  subst hw
  refine kv_i (y := nI 1) (if_pos (khas (by omega) (by omega))) ?_
  refine lv_if_ne (tgt := 14) hx hb dX5_setPart_5 (by decide) (fun _ => ?_) (fun h => absurd h (by decide))
  refine lv_iload_n hx hb dX5_setPart_14 rfl (lv_at hl 2 rfl) ?_
  refine lv_i2l (v := k.toInt64) hx hb dX5_setPart_15 rfl ?_
  refine lv_lconst (v := 1) hx hb dX5_setPart_16 (by decide) ?_
  refine lv_ldc2 hx hb hown (hts (.constantLong RX5 69 (9)) (by decide +kernel)) dX5_setPart_17 ?_
  refine kc_i (Cs := []) (Rs := [mW cy ra (kEn X, T)]) (Bs := [mW cy ra (kEn X, T)]) (Cs' := fun u_ : Unit => []) (Fs := fun u_ : Unit => [mW cy ra (kEn X, T)]) hP hD hS hA [] [0] [0] rfl rfl (by decide) (by decide) (fun _ => rfl) (va_runS (As := [.long k.toInt64, .long 1, .long (9)]) (rest := []) ⟨hx, hb, hml, hown, hts⟩ (c_X5_in l D cy k.toInt64 1 (9) H.size) (va_cwS 3 hts gX5_setPart_X5_in rfl rfl rfl (by decide +kernel) ⟨Nat.le_of_ble_eq_true rfl, Nat.le_of_ble_eq_true rfl⟩) (kPre_S hK hN hP hD [] (by decide) rfl) rfl rfl hl.1 rfl (lv_room (Nat.le_of_ble_eq_true rfl)) dX5_setPart_20 ⟨Nat.le_of_ble_eq_true rfl, Nat.le_of_ble_eq_true rfl⟩) (fun r_ u_ H locs hw hP hD hS => ?_)
  have hw : r_ = if kIn k.toInt64 1 (9) then nI 1 else nI 0 := hw
  subst hw
  refine kv_i (y := nI 0) (if_neg (fun h => hbad ((kIn32 (y := nI 1) (z := nI 9) (by decide) (by decide)).mp h))) ?_
  refine lv_if_ne (tgt := 32) hx hb dX5_setPart_23 (by decide) (fun h => absurd h (by decide)) (fun _ => ?_)
  refine lv_aload_n hx hb dX5_setPart_26 rfl (lv_at hl 0 rfl) ?_
  refine lv_iconst (v := nI 2) hx hb dX5_setPart_27 (by decide) ?_
  refine kc_i (Cs := [mW cy ra (kEn X, T)]) (Rs := []) (Bs := [mW cy ra (kEn X, T)]) (Cs' := fun u_ : Unit => [mW cy ra ((kEn X), (T.1, T.2.1, T.2.2.1, (nI 2), T.2.2.2.2))]) (Fs := fun u_ : Unit => [mW cy ra ((kEn X), (T.1, T.2.1, T.2.2.1, (nI 2), T.2.2.2.2))]) hP hD hS hA [0] [] [0] rfl rfl (by decide) (by decide) (fun _ => rfl) (va_runV (As := [.int (nI 2)]) (rest := []) ⟨hx, hb, hml, hown, hts⟩ (c_X5_throwing l D cy ra (kEn X) T (nI 2) H.size) (cwV 1 hts gX5_setPart_X5_throwing rfl rfl rfl (by decide +kernel) ⟨Nat.le_of_ble_eq_true rfl, Nat.le_of_ble_eq_true rfl⟩) (kPre_V (ci := 5) hK hN hP hD [0] (by decide) rfl 0 rfl rfl) rfl rfl hl.1 rfl (lv_room (Nat.le_of_ble_eq_true rfl)) dX5_setPart_28 ⟨Nat.le_of_ble_eq_true rfl, Nat.le_of_ble_eq_true rfl⟩) (fun r_ u_ H locs hw hP hD hS => ?_)
  have hw : r_ = nI 0 := hw
  subst hw
  exact kr_i (post := fun r_ (u_ : Unit) => r_ = nI 0) (Bs := fun u_ : Unit => [mW cy ra (kEn X, (T.1, T.2.1, T.2.2.1, nI 2, T.2.2.2.2))]) hx hb hr hlocks rfl () hP hK hD hS rfl dX5_setPart_31 hQ
