abbrev rm_X2_init_1 : Room := { frames := 1, cells := 5, slots := 40, locals := 12 }
set_option maxHeartbeats 1000000 in
set_option maxRecDepth 100000 in
theorem c_X2_init_1 (l : Launch) (D : va_G) (cy : Nat → ClassId) (b : Nat) (sz : Nat) : Met l yX2_init wsX2_init rm_X2_init_1 (va_Pc [.ref b] (kPre D (kT cy) [[(b, .inr (2, [.null, .null, .null, .null, .null, .int (nI 0)]))]] sz)) (va_Qv (fun u_ : (Nat → Nat) => u_ 1 = b) (kFr D (kT cy) [[(b, .inr (2, [.null, .null, .null, .null, .null, .int (nI 0)]))]] sz (fun u_ : (Nat → Nat) => [gW cy u_ 1 kG00])) (va_A (bkF [[(b, .inr (2, [.null, .null, .null, .null, .null, .int (nI 0)]))]]) sz)) 5 40 (va_A (bkF [[(b, .inr (2, [.null, .null, .null, .null, .null, .int (nI 0)]))]]) sz) := by
  refine kOpen (y := yX2_init) (ws := wsX2_init) (cc := cX2_init) (maxL := 1) (ret := none) (av := [.ref b]) (Bs := [[(b, .inr (2, [.null, .null, .null, .null, .null, .int (nI 0)]))]]) (Qc := fun A => (va_Qv (fun u_ : (Nat → Nat) => u_ 1 = b) (fun (u_ : (Nat → Nat)) t9 => kEnd D (kT cy) A [gW cy u_ 1 kG00] t9) A)) (by decide) rfl (Nat.le_of_ble_eq_true rfl) ?_
  intro p e s m args below meth c A Q ls hQ hx hb hml hr hlocks hin hts hown hN hK hP hD hS hA hsz hAe hl
  clear hAe
  have hl : lv_has ls 1 [(0, .ref b)] := hl
  suffices K9 : ∀ (H : Heap) (locs : List Loc), va_P D vwCl (bkF [[(b, .inr (2, [.null, .null, .null, .null, .null, .int (nI 0)]))]]) H → va_S A s.heap H locs → W p l e (headSpec wsX2_init rm_X2_init_1).room s m args below meth c H locs 0 0 Q (F0 m 0 ls []) from K9 _ _ hP hS
  clear hP hS
  intro H locs hP hS
  refine lv_aload_n hx hb dX2_init_0 rfl (lv_at hl 0 rfl) ?_
  refine W.objInit hx hb hown (hts (.methodLink RX2 3 objectInit) (by decide +kernel)) (hts (.instanceMethod objectInit) (by decide +kernel)) (hts (.code objectInit ⟨#[0xb1]⟩ 1 none) (by decide +kernel)) rfl (by rw [hml]; exact hl.1) rfl dX2_init_1 (Nat.le_of_ble_eq_true rfl) (Nat.le_of_ble_eq_true rfl) ?_
  refine W.eq (g2 := F0 m 4 ls []) rfl ?_
  refine lv_aload_n hx hb dX2_init_4 rfl (lv_at hl 0 rfl) ?_
  refine lv_bipush (v := nI 8) hx hb dX2_init_5 (by decide) ?_
  refine va_newa (atype := .int) (a0 := (8, .inl k0)) (ty := .int) (N' := 8) hx hb (hts (.arrayClass .int) (by decide +kernel)) rfl hK hP hD hS hA (fun c9 => by rw [vp_cell_i]; rfl) (by decide +kernel) (by decide +kernel) (by decide +kernel) (Nat.le_of_ble_eq_true rfl) (Nat.le_of_ble_eq_true rfl) dX2_init_7 (fun q7 cA H hK9 hP hD hS => ?_)
  obtain rfl := kcy hK9 0 rfl
  clear hK9
  have hP : va_P D vwCl (bkF [[(b, .inr (2, [.null, .null, .null, .null, .null, .int (nI 0)]))], [(q7, .inl (cy 0, 8, .inl k0))]]) H := hP
  have hD : va_D A (bkF [[(b, .inr (2, [.null, .null, .null, .null, .null, .int (nI 0)]))], [(q7, .inl (cy 0, 8, .inl k0))]]) := hD
  refine va_putF (D := D) (ci := 2) (v := .ref q7) (ty := .array .int) (C := RX2) (T := TX2) (N := 6) hx hb hts (by decide +kernel) tyX2 tyX2_ok nmX2 hown hK hP hD hS 0 rfl rfl 0 (by decide) (hts (.fieldLink RX2 9 "DanceHall$Guests" "tokens" "[I") (by decide +kernel)) (fun _ h9 => h9) rfl hin rfl (by decide +kernel) rfl rfl (Nat.le_of_ble_eq_true rfl) dX2_init_9 (fun H locs hP hD hS => ?_)
  have hP : va_P D vwCl (bkF [[(b, .inr (2, [.ref q7, .null, .null, .null, .null, .int (nI 0)]))], [(q7, .inl (cy 0, 8, .inl k0))]]) H := hP
  have hD : va_D A (bkF [[(b, .inr (2, [.ref q7, .null, .null, .null, .null, .int (nI 0)]))], [(q7, .inl (cy 0, 8, .inl k0))]]) := hD
  refine lv_aload_n hx hb dX2_init_12 rfl (lv_at hl 0 rfl) ?_
  refine lv_bipush (v := nI 8) hx hb dX2_init_13 (by decide) ?_
  refine va_newa (atype := .int) (a0 := (8, .inl k0)) (ty := .int) (N' := 8) hx hb (hts (.arrayClass .int) (by decide +kernel)) rfl hK hP hD hS hA (fun c9 => by rw [vp_cell_i]; rfl) (by decide +kernel) (by decide +kernel) (by decide +kernel) (Nat.le_of_ble_eq_true rfl) (Nat.le_of_ble_eq_true rfl) dX2_init_15 (fun q15 cA H hK9 hP hD hS => ?_)
  obtain rfl := kcy hK9 0 rfl
  clear hK9
  have hP : va_P D vwCl (bkF [[(b, .inr (2, [.ref q7, .null, .null, .null, .null, .int (nI 0)]))], [(q7, .inl (cy 0, 8, .inl k0))], [(q15, .inl (cy 0, 8, .inl k0))]]) H := hP
  have hD : va_D A (bkF [[(b, .inr (2, [.ref q7, .null, .null, .null, .null, .int (nI 0)]))], [(q7, .inl (cy 0, 8, .inl k0))], [(q15, .inl (cy 0, 8, .inl k0))]]) := hD
  refine va_putF (D := D) (ci := 2) (v := .ref q15) (ty := .array .int) (C := RX2) (T := TX2) (N := 6) hx hb hts (by decide +kernel) tyX2 tyX2_ok nmX2 hown hK hP hD hS 0 rfl rfl 1 (by decide) (hts (.fieldLink RX2 15 "DanceHall$Guests" "sizes" "[I") (by decide +kernel)) (fun _ h9 => h9) rfl hin rfl (by decide +kernel) rfl rfl (Nat.le_of_ble_eq_true rfl) dX2_init_17 (fun H locs hP hD hS => ?_)
  have hP : va_P D vwCl (bkF [[(b, .inr (2, [.ref q7, .ref q15, .null, .null, .null, .int (nI 0)]))], [(q7, .inl (cy 0, 8, .inl k0))], [(q15, .inl (cy 0, 8, .inl k0))]]) H := hP
  have hD : va_D A (bkF [[(b, .inr (2, [.ref q7, .ref q15, .null, .null, .null, .int (nI 0)]))], [(q7, .inl (cy 0, 8, .inl k0))], [(q15, .inl (cy 0, 8, .inl k0))]]) := hD
  refine lv_aload_n hx hb dX2_init_20 rfl (lv_at hl 0 rfl) ?_
  refine lv_bipush (v := nI 8) hx hb dX2_init_21 (by decide) ?_
  refine va_newa (atype := .boolean) (a0 := (8, .inl k0)) (ty := .boolean) (N' := 8) hx hb (hts (.arrayClass .boolean) (by decide +kernel)) rfl hK hP hD hS hA (fun c9 => by rw [vp_cell_i]; rfl) (by decide +kernel) (by decide +kernel) (by decide +kernel) (Nat.le_of_ble_eq_true rfl) (Nat.le_of_ble_eq_true rfl) dX2_init_23 (fun q23 cA H hK9 hP hD hS => ?_)
  obtain rfl := kcy hK9 1 rfl
  clear hK9
  have hP : va_P D vwCl (bkF [[(b, .inr (2, [.ref q7, .ref q15, .null, .null, .null, .int (nI 0)]))], [(q7, .inl (cy 0, 8, .inl k0))], [(q15, .inl (cy 0, 8, .inl k0))], [(q23, .inl (cy 1, 8, .inl k0))]]) H := hP
  have hD : va_D A (bkF [[(b, .inr (2, [.ref q7, .ref q15, .null, .null, .null, .int (nI 0)]))], [(q7, .inl (cy 0, 8, .inl k0))], [(q15, .inl (cy 0, 8, .inl k0))], [(q23, .inl (cy 1, 8, .inl k0))]]) := hD
  refine va_putF (D := D) (ci := 2) (v := .ref q23) (ty := .array .boolean) (C := RX2) (T := TX2) (N := 6) hx hb hts (by decide +kernel) tyX2 tyX2_ok nmX2 hown hK hP hD hS 0 rfl rfl 2 (by decide) (hts (.fieldLink RX2 18 "DanceHall$Guests" "ownShoes" "[Z") (by decide +kernel)) (fun _ h9 => h9) rfl hin rfl (by decide +kernel) rfl rfl (Nat.le_of_ble_eq_true rfl) dX2_init_25 (fun H locs hP hD hS => ?_)
  have hP : va_P D vwCl (bkF [[(b, .inr (2, [.ref q7, .ref q15, .ref q23, .null, .null, .int (nI 0)]))], [(q7, .inl (cy 0, 8, .inl k0))], [(q15, .inl (cy 0, 8, .inl k0))], [(q23, .inl (cy 1, 8, .inl k0))]]) H := hP
  have hD : va_D A (bkF [[(b, .inr (2, [.ref q7, .ref q15, .ref q23, .null, .null, .int (nI 0)]))], [(q7, .inl (cy 0, 8, .inl k0))], [(q15, .inl (cy 0, 8, .inl k0))], [(q23, .inl (cy 1, 8, .inl k0))]]) := hD
  refine lv_aload_n hx hb dX2_init_28 rfl (lv_at hl 0 rfl) ?_
  refine lv_bipush (v := nI 8) hx hb dX2_init_29 (by decide) ?_
  refine va_newa (atype := .boolean) (a0 := (8, .inl k0)) (ty := .boolean) (N' := 8) hx hb (hts (.arrayClass .boolean) (by decide +kernel)) rfl hK hP hD hS hA (fun c9 => by rw [vp_cell_i]; rfl) (by decide +kernel) (by decide +kernel) (by decide +kernel) (Nat.le_of_ble_eq_true rfl) (Nat.le_of_ble_eq_true rfl) dX2_init_31 (fun q31 cA H hK9 hP hD hS => ?_)
  obtain rfl := kcy hK9 1 rfl
  clear hK9
  have hP : va_P D vwCl (bkF [[(b, .inr (2, [.ref q7, .ref q15, .ref q23, .null, .null, .int (nI 0)]))], [(q7, .inl (cy 0, 8, .inl k0))], [(q15, .inl (cy 0, 8, .inl k0))], [(q23, .inl (cy 1, 8, .inl k0))], [(q31, .inl (cy 1, 8, .inl k0))]]) H := hP
  have hD : va_D A (bkF [[(b, .inr (2, [.ref q7, .ref q15, .ref q23, .null, .null, .int (nI 0)]))], [(q7, .inl (cy 0, 8, .inl k0))], [(q15, .inl (cy 0, 8, .inl k0))], [(q23, .inl (cy 1, 8, .inl k0))], [(q31, .inl (cy 1, 8, .inl k0))]]) := hD
  refine va_putF (D := D) (ci := 2) (v := .ref q31) (ty := .array .boolean) (C := RX2) (T := TX2) (N := 6) hx hb hts (by decide +kernel) tyX2 tyX2_ok nmX2 hown hK hP hD hS 0 rfl rfl 3 (by decide) (hts (.fieldLink RX2 22 "DanceHall$Guests" "here" "[Z") (by decide +kernel)) (fun _ h9 => h9) rfl hin rfl (by decide +kernel) rfl rfl (Nat.le_of_ble_eq_true rfl) dX2_init_33 (fun H locs hP hD hS => ?_)
  have hP : va_P D vwCl (bkF [[(b, .inr (2, [.ref q7, .ref q15, .ref q23, .ref q31, .null, .int (nI 0)]))], [(q7, .inl (cy 0, 8, .inl k0))], [(q15, .inl (cy 0, 8, .inl k0))], [(q23, .inl (cy 1, 8, .inl k0))], [(q31, .inl (cy 1, 8, .inl k0))]]) H := hP
  have hD : va_D A (bkF [[(b, .inr (2, [.ref q7, .ref q15, .ref q23, .ref q31, .null, .int (nI 0)]))], [(q7, .inl (cy 0, 8, .inl k0))], [(q15, .inl (cy 0, 8, .inl k0))], [(q23, .inl (cy 1, 8, .inl k0))], [(q31, .inl (cy 1, 8, .inl k0))]]) := hD
  refine lv_aload_n hx hb dX2_init_36 rfl (lv_at hl 0 rfl) ?_
  refine lv_bipush (v := nI 8) hx hb dX2_init_37 (by decide) ?_
  refine va_newa (atype := .int) (a0 := (8, .inl k0)) (ty := .int) (N' := 8) hx hb (hts (.arrayClass .int) (by decide +kernel)) rfl hK hP hD hS hA (fun c9 => by rw [vp_cell_i]; rfl) (by decide +kernel) (by decide +kernel) (by decide +kernel) (Nat.le_of_ble_eq_true rfl) (Nat.le_of_ble_eq_true rfl) dX2_init_39 (fun q39 cA H hK9 hP hD hS => ?_)
  obtain rfl := kcy hK9 0 rfl
  clear hK9
  have hP : va_P D vwCl (bkF [[(b, .inr (2, [.ref q7, .ref q15, .ref q23, .ref q31, .null, .int (nI 0)]))], [(q7, .inl (cy 0, 8, .inl k0))], [(q15, .inl (cy 0, 8, .inl k0))], [(q23, .inl (cy 1, 8, .inl k0))], [(q31, .inl (cy 1, 8, .inl k0))], [(q39, .inl (cy 0, 8, .inl k0))]]) H := hP
  have hD : va_D A (bkF [[(b, .inr (2, [.ref q7, .ref q15, .ref q23, .ref q31, .null, .int (nI 0)]))], [(q7, .inl (cy 0, 8, .inl k0))], [(q15, .inl (cy 0, 8, .inl k0))], [(q23, .inl (cy 1, 8, .inl k0))], [(q31, .inl (cy 1, 8, .inl k0))], [(q39, .inl (cy 0, 8, .inl k0))]]) := hD
  refine va_putF (D := D) (ci := 2) (v := .ref q39) (ty := .array .int) (C := RX2) (T := TX2) (N := 6) hx hb hts (by decide +kernel) tyX2 tyX2_ok nmX2 hown hK hP hD hS 0 rfl rfl 4 (by decide) (hts (.fieldLink RX2 25 "DanceHall$Guests" "allDances" "[I") (by decide +kernel)) (fun _ h9 => h9) rfl hin rfl (by decide +kernel) rfl rfl (Nat.le_of_ble_eq_true rfl) dX2_init_41 (fun H locs hP hD hS => ?_)
  have hP : va_P D vwCl (bkF [[(b, .inr (2, [.ref q7, .ref q15, .ref q23, .ref q31, .ref q39, .int (nI 0)]))], [(q7, .inl (cy 0, 8, .inl k0))], [(q15, .inl (cy 0, 8, .inl k0))], [(q23, .inl (cy 1, 8, .inl k0))], [(q31, .inl (cy 1, 8, .inl k0))], [(q39, .inl (cy 0, 8, .inl k0))]]) H := hP
  have hD : va_D A (bkF [[(b, .inr (2, [.ref q7, .ref q15, .ref q23, .ref q31, .ref q39, .int (nI 0)]))], [(q7, .inl (cy 0, 8, .inl k0))], [(q15, .inl (cy 0, 8, .inl k0))], [(q23, .inl (cy 1, 8, .inl k0))], [(q31, .inl (cy 1, 8, .inl k0))], [(q39, .inl (cy 0, 8, .inl k0))]]) := hD
  exact kr_v (post := fun u_ : (Nat → Nat) => u_ 1 = b) (Bs := fun u_ : (Nat → Nat) => [gW cy u_ 1 kG00]) hx hb hr hlocks ((fun i9 => if i9 = 1 then b else if i9 = 2 then q7 else if i9 = 3 then q15 else if i9 = 4 then q23 else if i9 = 5 then q31 else if i9 = 6 then q39 else 0)) hP hK hD hS rfl dX2_init_44 hQ
abbrev rm_X2_init_7 : Room := { frames := 1, cells := 5, slots := 40, locals := 12 }
set_option maxHeartbeats 1000000 in
set_option maxRecDepth 100000 in
theorem c_X2_init_7 (l : Launch) (D : va_G) (cy : Nat → ClassId) (b : Nat) (sz : Nat) : Met l yX2_init wsX2_init rm_X2_init_7 (va_Pc [.ref b] (kPre D (kT cy) [[(b, .inr (2, [.null, .null, .null, .null, .null, .int (nI 0)]))]] sz)) (va_Qv (fun u_ : (Nat → Nat) => u_ 7 = b) (kFr D (kT cy) [[(b, .inr (2, [.null, .null, .null, .null, .null, .int (nI 0)]))]] sz (fun u_ : (Nat → Nat) => [gW cy u_ 7 kG00])) (va_A (bkF [[(b, .inr (2, [.null, .null, .null, .null, .null, .int (nI 0)]))]]) sz)) 5 40 (va_A (bkF [[(b, .inr (2, [.null, .null, .null, .null, .null, .int (nI 0)]))]]) sz) := by
  refine kOpen (y := yX2_init) (ws := wsX2_init) (cc := cX2_init) (maxL := 1) (ret := none) (av := [.ref b]) (Bs := [[(b, .inr (2, [.null, .null, .null, .null, .null, .int (nI 0)]))]]) (Qc := fun A => (va_Qv (fun u_ : (Nat → Nat) => u_ 7 = b) (fun (u_ : (Nat → Nat)) t9 => kEnd D (kT cy) A [gW cy u_ 7 kG00] t9) A)) (by decide) rfl (Nat.le_of_ble_eq_true rfl) ?_
  intro p e s m args below meth c A Q ls hQ hx hb hml hr hlocks hin hts hown hN hK hP hD hS hA hsz hAe hl
  clear hAe
  have hl : lv_has ls 1 [(0, .ref b)] := hl
  suffices K9 : ∀ (H : Heap) (locs : List Loc), va_P D vwCl (bkF [[(b, .inr (2, [.null, .null, .null, .null, .null, .int (nI 0)]))]]) H → va_S A s.heap H locs → W p l e (headSpec wsX2_init rm_X2_init_7).room s m args below meth c H locs 0 0 Q (F0 m 0 ls []) from K9 _ _ hP hS
  clear hP hS
  intro H locs hP hS
  refine lv_aload_n hx hb dX2_init_0 rfl (lv_at hl 0 rfl) ?_
  refine W.objInit hx hb hown (hts (.methodLink RX2 3 objectInit) (by decide +kernel)) (hts (.instanceMethod objectInit) (by decide +kernel)) (hts (.code objectInit ⟨#[0xb1]⟩ 1 none) (by decide +kernel)) rfl (by rw [hml]; exact hl.1) rfl dX2_init_1 (Nat.le_of_ble_eq_true rfl) (Nat.le_of_ble_eq_true rfl) ?_
  refine W.eq (g2 := F0 m 4 ls []) rfl ?_
  refine lv_aload_n hx hb dX2_init_4 rfl (lv_at hl 0 rfl) ?_
  refine lv_bipush (v := nI 8) hx hb dX2_init_5 (by decide) ?_
  refine va_newa (atype := .int) (a0 := (8, .inl k0)) (ty := .int) (N' := 8) hx hb (hts (.arrayClass .int) (by decide +kernel)) rfl hK hP hD hS hA (fun c9 => by rw [vp_cell_i]; rfl) (by decide +kernel) (by decide +kernel) (by decide +kernel) (Nat.le_of_ble_eq_true rfl) (Nat.le_of_ble_eq_true rfl) dX2_init_7 (fun q7 cA H hK9 hP hD hS => ?_)
  obtain rfl := kcy hK9 0 rfl
  clear hK9
  have hP : va_P D vwCl (bkF [[(b, .inr (2, [.null, .null, .null, .null, .null, .int (nI 0)]))], [(q7, .inl (cy 0, 8, .inl k0))]]) H := hP
  have hD : va_D A (bkF [[(b, .inr (2, [.null, .null, .null, .null, .null, .int (nI 0)]))], [(q7, .inl (cy 0, 8, .inl k0))]]) := hD
  refine va_putF (D := D) (ci := 2) (v := .ref q7) (ty := .array .int) (C := RX2) (T := TX2) (N := 6) hx hb hts (by decide +kernel) tyX2 tyX2_ok nmX2 hown hK hP hD hS 0 rfl rfl 0 (by decide) (hts (.fieldLink RX2 9 "DanceHall$Guests" "tokens" "[I") (by decide +kernel)) (fun _ h9 => h9) rfl hin rfl (by decide +kernel) rfl rfl (Nat.le_of_ble_eq_true rfl) dX2_init_9 (fun H locs hP hD hS => ?_)
  have hP : va_P D vwCl (bkF [[(b, .inr (2, [.ref q7, .null, .null, .null, .null, .int (nI 0)]))], [(q7, .inl (cy 0, 8, .inl k0))]]) H := hP
  have hD : va_D A (bkF [[(b, .inr (2, [.ref q7, .null, .null, .null, .null, .int (nI 0)]))], [(q7, .inl (cy 0, 8, .inl k0))]]) := hD
  refine lv_aload_n hx hb dX2_init_12 rfl (lv_at hl 0 rfl) ?_
  refine lv_bipush (v := nI 8) hx hb dX2_init_13 (by decide) ?_
  refine va_newa (atype := .int) (a0 := (8, .inl k0)) (ty := .int) (N' := 8) hx hb (hts (.arrayClass .int) (by decide +kernel)) rfl hK hP hD hS hA (fun c9 => by rw [vp_cell_i]; rfl) (by decide +kernel) (by decide +kernel) (by decide +kernel) (Nat.le_of_ble_eq_true rfl) (Nat.le_of_ble_eq_true rfl) dX2_init_15 (fun q15 cA H hK9 hP hD hS => ?_)
  obtain rfl := kcy hK9 0 rfl
  clear hK9
  have hP : va_P D vwCl (bkF [[(b, .inr (2, [.ref q7, .null, .null, .null, .null, .int (nI 0)]))], [(q7, .inl (cy 0, 8, .inl k0))], [(q15, .inl (cy 0, 8, .inl k0))]]) H := hP
  have hD : va_D A (bkF [[(b, .inr (2, [.ref q7, .null, .null, .null, .null, .int (nI 0)]))], [(q7, .inl (cy 0, 8, .inl k0))], [(q15, .inl (cy 0, 8, .inl k0))]]) := hD
  refine va_putF (D := D) (ci := 2) (v := .ref q15) (ty := .array .int) (C := RX2) (T := TX2) (N := 6) hx hb hts (by decide +kernel) tyX2 tyX2_ok nmX2 hown hK hP hD hS 0 rfl rfl 1 (by decide) (hts (.fieldLink RX2 15 "DanceHall$Guests" "sizes" "[I") (by decide +kernel)) (fun _ h9 => h9) rfl hin rfl (by decide +kernel) rfl rfl (Nat.le_of_ble_eq_true rfl) dX2_init_17 (fun H locs hP hD hS => ?_)
  have hP : va_P D vwCl (bkF [[(b, .inr (2, [.ref q7, .ref q15, .null, .null, .null, .int (nI 0)]))], [(q7, .inl (cy 0, 8, .inl k0))], [(q15, .inl (cy 0, 8, .inl k0))]]) H := hP
  have hD : va_D A (bkF [[(b, .inr (2, [.ref q7, .ref q15, .null, .null, .null, .int (nI 0)]))], [(q7, .inl (cy 0, 8, .inl k0))], [(q15, .inl (cy 0, 8, .inl k0))]]) := hD
  refine lv_aload_n hx hb dX2_init_20 rfl (lv_at hl 0 rfl) ?_
  refine lv_bipush (v := nI 8) hx hb dX2_init_21 (by decide) ?_
  refine va_newa (atype := .boolean) (a0 := (8, .inl k0)) (ty := .boolean) (N' := 8) hx hb (hts (.arrayClass .boolean) (by decide +kernel)) rfl hK hP hD hS hA (fun c9 => by rw [vp_cell_i]; rfl) (by decide +kernel) (by decide +kernel) (by decide +kernel) (Nat.le_of_ble_eq_true rfl) (Nat.le_of_ble_eq_true rfl) dX2_init_23 (fun q23 cA H hK9 hP hD hS => ?_)
  obtain rfl := kcy hK9 1 rfl
  clear hK9
  have hP : va_P D vwCl (bkF [[(b, .inr (2, [.ref q7, .ref q15, .null, .null, .null, .int (nI 0)]))], [(q7, .inl (cy 0, 8, .inl k0))], [(q15, .inl (cy 0, 8, .inl k0))], [(q23, .inl (cy 1, 8, .inl k0))]]) H := hP
  have hD : va_D A (bkF [[(b, .inr (2, [.ref q7, .ref q15, .null, .null, .null, .int (nI 0)]))], [(q7, .inl (cy 0, 8, .inl k0))], [(q15, .inl (cy 0, 8, .inl k0))], [(q23, .inl (cy 1, 8, .inl k0))]]) := hD
  refine va_putF (D := D) (ci := 2) (v := .ref q23) (ty := .array .boolean) (C := RX2) (T := TX2) (N := 6) hx hb hts (by decide +kernel) tyX2 tyX2_ok nmX2 hown hK hP hD hS 0 rfl rfl 2 (by decide) (hts (.fieldLink RX2 18 "DanceHall$Guests" "ownShoes" "[Z") (by decide +kernel)) (fun _ h9 => h9) rfl hin rfl (by decide +kernel) rfl rfl (Nat.le_of_ble_eq_true rfl) dX2_init_25 (fun H locs hP hD hS => ?_)
  have hP : va_P D vwCl (bkF [[(b, .inr (2, [.ref q7, .ref q15, .ref q23, .null, .null, .int (nI 0)]))], [(q7, .inl (cy 0, 8, .inl k0))], [(q15, .inl (cy 0, 8, .inl k0))], [(q23, .inl (cy 1, 8, .inl k0))]]) H := hP
  have hD : va_D A (bkF [[(b, .inr (2, [.ref q7, .ref q15, .ref q23, .null, .null, .int (nI 0)]))], [(q7, .inl (cy 0, 8, .inl k0))], [(q15, .inl (cy 0, 8, .inl k0))], [(q23, .inl (cy 1, 8, .inl k0))]]) := hD
  refine lv_aload_n hx hb dX2_init_28 rfl (lv_at hl 0 rfl) ?_
  refine lv_bipush (v := nI 8) hx hb dX2_init_29 (by decide) ?_
  refine va_newa (atype := .boolean) (a0 := (8, .inl k0)) (ty := .boolean) (N' := 8) hx hb (hts (.arrayClass .boolean) (by decide +kernel)) rfl hK hP hD hS hA (fun c9 => by rw [vp_cell_i]; rfl) (by decide +kernel) (by decide +kernel) (by decide +kernel) (Nat.le_of_ble_eq_true rfl) (Nat.le_of_ble_eq_true rfl) dX2_init_31 (fun q31 cA H hK9 hP hD hS => ?_)
  obtain rfl := kcy hK9 1 rfl
  clear hK9
  have hP : va_P D vwCl (bkF [[(b, .inr (2, [.ref q7, .ref q15, .ref q23, .null, .null, .int (nI 0)]))], [(q7, .inl (cy 0, 8, .inl k0))], [(q15, .inl (cy 0, 8, .inl k0))], [(q23, .inl (cy 1, 8, .inl k0))], [(q31, .inl (cy 1, 8, .inl k0))]]) H := hP
  have hD : va_D A (bkF [[(b, .inr (2, [.ref q7, .ref q15, .ref q23, .null, .null, .int (nI 0)]))], [(q7, .inl (cy 0, 8, .inl k0))], [(q15, .inl (cy 0, 8, .inl k0))], [(q23, .inl (cy 1, 8, .inl k0))], [(q31, .inl (cy 1, 8, .inl k0))]]) := hD
  refine va_putF (D := D) (ci := 2) (v := .ref q31) (ty := .array .boolean) (C := RX2) (T := TX2) (N := 6) hx hb hts (by decide +kernel) tyX2 tyX2_ok nmX2 hown hK hP hD hS 0 rfl rfl 3 (by decide) (hts (.fieldLink RX2 22 "DanceHall$Guests" "here" "[Z") (by decide +kernel)) (fun _ h9 => h9) rfl hin rfl (by decide +kernel) rfl rfl (Nat.le_of_ble_eq_true rfl) dX2_init_33 (fun H locs hP hD hS => ?_)
  have hP : va_P D vwCl (bkF [[(b, .inr (2, [.ref q7, .ref q15, .ref q23, .ref q31, .null, .int (nI 0)]))], [(q7, .inl (cy 0, 8, .inl k0))], [(q15, .inl (cy 0, 8, .inl k0))], [(q23, .inl (cy 1, 8, .inl k0))], [(q31, .inl (cy 1, 8, .inl k0))]]) H := hP
  have hD : va_D A (bkF [[(b, .inr (2, [.ref q7, .ref q15, .ref q23, .ref q31, .null, .int (nI 0)]))], [(q7, .inl (cy 0, 8, .inl k0))], [(q15, .inl (cy 0, 8, .inl k0))], [(q23, .inl (cy 1, 8, .inl k0))], [(q31, .inl (cy 1, 8, .inl k0))]]) := hD
  refine lv_aload_n hx hb dX2_init_36 rfl (lv_at hl 0 rfl) ?_
  refine lv_bipush (v := nI 8) hx hb dX2_init_37 (by decide) ?_
  refine va_newa (atype := .int) (a0 := (8, .inl k0)) (ty := .int) (N' := 8) hx hb (hts (.arrayClass .int) (by decide +kernel)) rfl hK hP hD hS hA (fun c9 => by rw [vp_cell_i]; rfl) (by decide +kernel) (by decide +kernel) (by decide +kernel) (Nat.le_of_ble_eq_true rfl) (Nat.le_of_ble_eq_true rfl) dX2_init_39 (fun q39 cA H hK9 hP hD hS => ?_)
  obtain rfl := kcy hK9 0 rfl
  clear hK9
  have hP : va_P D vwCl (bkF [[(b, .inr (2, [.ref q7, .ref q15, .ref q23, .ref q31, .null, .int (nI 0)]))], [(q7, .inl (cy 0, 8, .inl k0))], [(q15, .inl (cy 0, 8, .inl k0))], [(q23, .inl (cy 1, 8, .inl k0))], [(q31, .inl (cy 1, 8, .inl k0))], [(q39, .inl (cy 0, 8, .inl k0))]]) H := hP
  have hD : va_D A (bkF [[(b, .inr (2, [.ref q7, .ref q15, .ref q23, .ref q31, .null, .int (nI 0)]))], [(q7, .inl (cy 0, 8, .inl k0))], [(q15, .inl (cy 0, 8, .inl k0))], [(q23, .inl (cy 1, 8, .inl k0))], [(q31, .inl (cy 1, 8, .inl k0))], [(q39, .inl (cy 0, 8, .inl k0))]]) := hD
  refine va_putF (D := D) (ci := 2) (v := .ref q39) (ty := .array .int) (C := RX2) (T := TX2) (N := 6) hx hb hts (by decide +kernel) tyX2 tyX2_ok nmX2 hown hK hP hD hS 0 rfl rfl 4 (by decide) (hts (.fieldLink RX2 25 "DanceHall$Guests" "allDances" "[I") (by decide +kernel)) (fun _ h9 => h9) rfl hin rfl (by decide +kernel) rfl rfl (Nat.le_of_ble_eq_true rfl) dX2_init_41 (fun H locs hP hD hS => ?_)
  have hP : va_P D vwCl (bkF [[(b, .inr (2, [.ref q7, .ref q15, .ref q23, .ref q31, .ref q39, .int (nI 0)]))], [(q7, .inl (cy 0, 8, .inl k0))], [(q15, .inl (cy 0, 8, .inl k0))], [(q23, .inl (cy 1, 8, .inl k0))], [(q31, .inl (cy 1, 8, .inl k0))], [(q39, .inl (cy 0, 8, .inl k0))]]) H := hP
  have hD : va_D A (bkF [[(b, .inr (2, [.ref q7, .ref q15, .ref q23, .ref q31, .ref q39, .int (nI 0)]))], [(q7, .inl (cy 0, 8, .inl k0))], [(q15, .inl (cy 0, 8, .inl k0))], [(q23, .inl (cy 1, 8, .inl k0))], [(q31, .inl (cy 1, 8, .inl k0))], [(q39, .inl (cy 0, 8, .inl k0))]]) := hD
  exact kr_v (post := fun u_ : (Nat → Nat) => u_ 7 = b) (Bs := fun u_ : (Nat → Nat) => [gW cy u_ 7 kG00]) hx hb hr hlocks ((fun i9 => if i9 = 7 then b else if i9 = 8 then q7 else if i9 = 9 then q15 else if i9 = 10 then q23 else if i9 = 11 then q31 else if i9 = 12 then q39 else 0)) hP hK hD hS rfl dX2_init_44 hQ
abbrev rm_X0_init : Room := { frames := 1, cells := 6, slots := 50, locals := 12 }
set_option maxHeartbeats 1000000 in
set_option maxRecDepth 100000 in
theorem c_X0_init (l : Launch) (D : va_G) (cy : Nat → ClassId) (b : Nat) (sz : Nat) : Met l yX0_init wsX0_init rm_X0_init (va_Pc [.ref b] (kPre D (kT cy) [[(b, .inr (0, [.null, .null, .null, .null, .int (nI 0), .int (nI 0), .null, .null, .int (nI 0)]))]] sz)) (va_Qv (fun u_ : (Nat → Nat) => u_ 0 = b) (kFr D (kT cy) [[(b, .inr (0, [.null, .null, .null, .null, .int (nI 0), .int (nI 0), .null, .null, .int (nI 0)]))]] sz (fun u_ : (Nat → Nat) => [fW cy u_ (k0, k0, k0, k0, 0, 0, k0, k0, 0)])) (va_A (bkF [[(b, .inr (0, [.null, .null, .null, .null, .int (nI 0), .int (nI 0), .null, .null, .int (nI 0)]))]]) sz)) 6 50 (va_A (bkF [[(b, .inr (0, [.null, .null, .null, .null, .int (nI 0), .int (nI 0), .null, .null, .int (nI 0)]))]]) sz) := by
  refine kOpen (y := yX0_init) (ws := wsX0_init) (cc := cX0_init) (maxL := 1) (ret := none) (av := [.ref b]) (Bs := [[(b, .inr (0, [.null, .null, .null, .null, .int (nI 0), .int (nI 0), .null, .null, .int (nI 0)]))]]) (Qc := fun A => (va_Qv (fun u_ : (Nat → Nat) => u_ 0 = b) (fun (u_ : (Nat → Nat)) t9 => kEnd D (kT cy) A [fW cy u_ (k0, k0, k0, k0, 0, 0, k0, k0, 0)] t9) A)) (by decide) rfl (Nat.le_of_ble_eq_true rfl) ?_
  intro p e s m args below meth c A Q ls hQ hx hb hml hr hlocks hin hts hown hN hK hP hD hS hA hsz hAe hl
  clear hAe
  have hl : lv_has ls 1 [(0, .ref b)] := hl
  suffices K9 : ∀ (H : Heap) (locs : List Loc), va_P D vwCl (bkF [[(b, .inr (0, [.null, .null, .null, .null, .int (nI 0), .int (nI 0), .null, .null, .int (nI 0)]))]]) H → va_S A s.heap H locs → W p l e (headSpec wsX0_init rm_X0_init).room s m args below meth c H locs 0 0 Q (F0 m 0 ls []) from K9 _ _ hP hS
  clear hP hS
  intro H locs hP hS
  refine lv_aload_n hx hb dX0_init_0 rfl (lv_at hl 0 rfl) ?_
  refine W.objInit hx hb hown (hts (.methodLink RX0 3 objectInit) (by decide +kernel)) (hts (.instanceMethod objectInit) (by decide +kernel)) (hts (.code objectInit ⟨#[0xb1]⟩ 1 none) (by decide +kernel)) rfl (by rw [hml]; exact hl.1) rfl dX0_init_1 (Nat.le_of_ble_eq_true rfl) (Nat.le_of_ble_eq_true rfl) ?_
  refine W.eq (g2 := F0 m 4 ls []) rfl ?_
  refine lv_aload_n hx hb dX0_init_4 rfl (lv_at hl 0 rfl) ?_
  refine lv_bipush (v := nI 10) hx hb dX0_init_5 (by decide) ?_
  refine va_newa (atype := .int) (a0 := (10, .inl k0)) (ty := .int) (N' := 10) hx hb (hts (.arrayClass .int) (by decide +kernel)) rfl hK hP hD hS hA (fun c9 => by rw [vp_cell_i]; rfl) (by decide +kernel) (by decide +kernel) (by decide +kernel) (Nat.le_of_ble_eq_true rfl) (Nat.le_of_ble_eq_true rfl) dX0_init_7 (fun q7 cA H hK9 hP hD hS => ?_)
  obtain rfl := kcy hK9 0 rfl
  clear hK9
  have hP : va_P D vwCl (bkF [[(b, .inr (0, [.null, .null, .null, .null, .int (nI 0), .int (nI 0), .null, .null, .int (nI 0)]))], [(q7, .inl (cy 0, 10, .inl k0))]]) H := hP
  have hD : va_D A (bkF [[(b, .inr (0, [.null, .null, .null, .null, .int (nI 0), .int (nI 0), .null, .null, .int (nI 0)]))], [(q7, .inl (cy 0, 10, .inl k0))]]) := hD
  refine va_putF (D := D) (ci := 0) (v := .ref q7) (ty := .array .int) (C := RX0) (T := TX0) (N := 9) hx hb hts (by decide +kernel) tyX0 tyX0_ok nmX0 hown hK hP hD hS 0 rfl rfl 0 (by decide) (hts (.fieldLink RX0 9 "DanceHall$Floor" "left" "[I") (by decide +kernel)) (fun _ h9 => h9) rfl hin rfl (by decide +kernel) rfl rfl (Nat.le_of_ble_eq_true rfl) dX0_init_9 (fun H locs hP hD hS => ?_)
  have hP : va_P D vwCl (bkF [[(b, .inr (0, [.ref q7, .null, .null, .null, .int (nI 0), .int (nI 0), .null, .null, .int (nI 0)]))], [(q7, .inl (cy 0, 10, .inl k0))]]) H := hP
  have hD : va_D A (bkF [[(b, .inr (0, [.ref q7, .null, .null, .null, .int (nI 0), .int (nI 0), .null, .null, .int (nI 0)]))], [(q7, .inl (cy 0, 10, .inl k0))]]) := hD
  refine lv_aload_n hx hb dX0_init_12 rfl (lv_at hl 0 rfl) ?_
  refine lv_bipush (v := nI 8) hx hb dX0_init_13 (by decide) ?_
  refine va_newa (atype := .int) (a0 := (8, .inl k0)) (ty := .int) (N' := 8) hx hb (hts (.arrayClass .int) (by decide +kernel)) rfl hK hP hD hS hA (fun c9 => by rw [vp_cell_i]; rfl) (by decide +kernel) (by decide +kernel) (by decide +kernel) (Nat.le_of_ble_eq_true rfl) (Nat.le_of_ble_eq_true rfl) dX0_init_15 (fun q15 cA H hK9 hP hD hS => ?_)
  obtain rfl := kcy hK9 0 rfl
  clear hK9
  have hP : va_P D vwCl (bkF [[(b, .inr (0, [.ref q7, .null, .null, .null, .int (nI 0), .int (nI 0), .null, .null, .int (nI 0)]))], [(q7, .inl (cy 0, 10, .inl k0))], [(q15, .inl (cy 0, 8, .inl k0))]]) H := hP
  have hD : va_D A (bkF [[(b, .inr (0, [.ref q7, .null, .null, .null, .int (nI 0), .int (nI 0), .null, .null, .int (nI 0)]))], [(q7, .inl (cy 0, 10, .inl k0))], [(q15, .inl (cy 0, 8, .inl k0))]]) := hD
  refine va_putF (D := D) (ci := 0) (v := .ref q15) (ty := .array .int) (C := RX0) (T := TX0) (N := 9) hx hb hts (by decide +kernel) tyX0 tyX0_ok nmX0 hown hK hP hD hS 0 rfl rfl 1 (by decide) (hts (.fieldLink RX0 15 "DanceHall$Floor" "follower" "[I") (by decide +kernel)) (fun _ h9 => h9) rfl hin rfl (by decide +kernel) rfl rfl (Nat.le_of_ble_eq_true rfl) dX0_init_17 (fun H locs hP hD hS => ?_)
  have hP : va_P D vwCl (bkF [[(b, .inr (0, [.ref q7, .ref q15, .null, .null, .int (nI 0), .int (nI 0), .null, .null, .int (nI 0)]))], [(q7, .inl (cy 0, 10, .inl k0))], [(q15, .inl (cy 0, 8, .inl k0))]]) H := hP
  have hD : va_D A (bkF [[(b, .inr (0, [.ref q7, .ref q15, .null, .null, .int (nI 0), .int (nI 0), .null, .null, .int (nI 0)]))], [(q7, .inl (cy 0, 10, .inl k0))], [(q15, .inl (cy 0, 8, .inl k0))]]) := hD
  refine lv_aload_n hx hb dX0_init_20 rfl (lv_at hl 0 rfl) ?_
  refine lv_bipush (v := nI 8) hx hb dX0_init_21 (by decide) ?_
  refine va_newa (atype := .int) (a0 := (8, .inl k0)) (ty := .int) (N' := 8) hx hb (hts (.arrayClass .int) (by decide +kernel)) rfl hK hP hD hS hA (fun c9 => by rw [vp_cell_i]; rfl) (by decide +kernel) (by decide +kernel) (by decide +kernel) (Nat.le_of_ble_eq_true rfl) (Nat.le_of_ble_eq_true rfl) dX0_init_23 (fun q23 cA H hK9 hP hD hS => ?_)
  obtain rfl := kcy hK9 0 rfl
  clear hK9
  have hP : va_P D vwCl (bkF [[(b, .inr (0, [.ref q7, .ref q15, .null, .null, .int (nI 0), .int (nI 0), .null, .null, .int (nI 0)]))], [(q7, .inl (cy 0, 10, .inl k0))], [(q15, .inl (cy 0, 8, .inl k0))], [(q23, .inl (cy 0, 8, .inl k0))]]) H := hP
  have hD : va_D A (bkF [[(b, .inr (0, [.ref q7, .ref q15, .null, .null, .int (nI 0), .int (nI 0), .null, .null, .int (nI 0)]))], [(q7, .inl (cy 0, 10, .inl k0))], [(q15, .inl (cy 0, 8, .inl k0))], [(q23, .inl (cy 0, 8, .inl k0))]]) := hD
  refine va_putF (D := D) (ci := 0) (v := .ref q23) (ty := .array .int) (C := RX0) (T := TX0) (N := 9) hx hb hts (by decide +kernel) tyX0 tyX0_ok nmX0 hown hK hP hD hS 0 rfl rfl 2 (by decide) (hts (.fieldLink RX0 18 "DanceHall$Floor" "lentToLeaders" "[I") (by decide +kernel)) (fun _ h9 => h9) rfl hin rfl (by decide +kernel) rfl rfl (Nat.le_of_ble_eq_true rfl) dX0_init_25 (fun H locs hP hD hS => ?_)
  have hP : va_P D vwCl (bkF [[(b, .inr (0, [.ref q7, .ref q15, .ref q23, .null, .int (nI 0), .int (nI 0), .null, .null, .int (nI 0)]))], [(q7, .inl (cy 0, 10, .inl k0))], [(q15, .inl (cy 0, 8, .inl k0))], [(q23, .inl (cy 0, 8, .inl k0))]]) H := hP
  have hD : va_D A (bkF [[(b, .inr (0, [.ref q7, .ref q15, .ref q23, .null, .int (nI 0), .int (nI 0), .null, .null, .int (nI 0)]))], [(q7, .inl (cy 0, 10, .inl k0))], [(q15, .inl (cy 0, 8, .inl k0))], [(q23, .inl (cy 0, 8, .inl k0))]]) := hD
  refine lv_aload_n hx hb dX0_init_28 rfl (lv_at hl 0 rfl) ?_
  refine lv_bipush (v := nI 8) hx hb dX0_init_29 (by decide) ?_
  refine va_newa (atype := .int) (a0 := (8, .inl k0)) (ty := .int) (N' := 8) hx hb (hts (.arrayClass .int) (by decide +kernel)) rfl hK hP hD hS hA (fun c9 => by rw [vp_cell_i]; rfl) (by decide +kernel) (by decide +kernel) (by decide +kernel) (Nat.le_of_ble_eq_true rfl) (Nat.le_of_ble_eq_true rfl) dX0_init_31 (fun q31 cA H hK9 hP hD hS => ?_)
  obtain rfl := kcy hK9 0 rfl
  clear hK9
  have hP : va_P D vwCl (bkF [[(b, .inr (0, [.ref q7, .ref q15, .ref q23, .null, .int (nI 0), .int (nI 0), .null, .null, .int (nI 0)]))], [(q7, .inl (cy 0, 10, .inl k0))], [(q15, .inl (cy 0, 8, .inl k0))], [(q23, .inl (cy 0, 8, .inl k0))], [(q31, .inl (cy 0, 8, .inl k0))]]) H := hP
  have hD : va_D A (bkF [[(b, .inr (0, [.ref q7, .ref q15, .ref q23, .null, .int (nI 0), .int (nI 0), .null, .null, .int (nI 0)]))], [(q7, .inl (cy 0, 10, .inl k0))], [(q15, .inl (cy 0, 8, .inl k0))], [(q23, .inl (cy 0, 8, .inl k0))], [(q31, .inl (cy 0, 8, .inl k0))]]) := hD
  refine va_putF (D := D) (ci := 0) (v := .ref q31) (ty := .array .int) (C := RX0) (T := TX0) (N := 9) hx hb hts (by decide +kernel) tyX0 tyX0_ok nmX0 hown hK hP hD hS 0 rfl rfl 3 (by decide) (hts (.fieldLink RX0 21 "DanceHall$Floor" "lentToFollowers" "[I") (by decide +kernel)) (fun _ h9 => h9) rfl hin rfl (by decide +kernel) rfl rfl (Nat.le_of_ble_eq_true rfl) dX0_init_33 (fun H locs hP hD hS => ?_)
  have hP : va_P D vwCl (bkF [[(b, .inr (0, [.ref q7, .ref q15, .ref q23, .ref q31, .int (nI 0), .int (nI 0), .null, .null, .int (nI 0)]))], [(q7, .inl (cy 0, 10, .inl k0))], [(q15, .inl (cy 0, 8, .inl k0))], [(q23, .inl (cy 0, 8, .inl k0))], [(q31, .inl (cy 0, 8, .inl k0))]]) H := hP
  have hD : va_D A (bkF [[(b, .inr (0, [.ref q7, .ref q15, .ref q23, .ref q31, .int (nI 0), .int (nI 0), .null, .null, .int (nI 0)]))], [(q7, .inl (cy 0, 10, .inl k0))], [(q15, .inl (cy 0, 8, .inl k0))], [(q23, .inl (cy 0, 8, .inl k0))], [(q31, .inl (cy 0, 8, .inl k0))]]) := hD
  refine lv_aload_n hx hb dX0_init_36 rfl (lv_at hl 0 rfl) ?_
  refine lv_bipush (v := nI 8) hx hb dX0_init_37 (by decide) ?_
  refine va_newa (atype := .int) (a0 := (8, .inl k0)) (ty := .int) (N' := 8) hx hb (hts (.arrayClass .int) (by decide +kernel)) rfl hK hP hD hS hA (fun c9 => by rw [vp_cell_i]; rfl) (by decide +kernel) (by decide +kernel) (by decide +kernel) (Nat.le_of_ble_eq_true rfl) (Nat.le_of_ble_eq_true rfl) dX0_init_39 (fun q39 cA H hK9 hP hD hS => ?_)
  obtain rfl := kcy hK9 0 rfl
  clear hK9
  have hP : va_P D vwCl (bkF [[(b, .inr (0, [.ref q7, .ref q15, .ref q23, .ref q31, .int (nI 0), .int (nI 0), .null, .null, .int (nI 0)]))], [(q7, .inl (cy 0, 10, .inl k0))], [(q15, .inl (cy 0, 8, .inl k0))], [(q23, .inl (cy 0, 8, .inl k0))], [(q31, .inl (cy 0, 8, .inl k0))], [(q39, .inl (cy 0, 8, .inl k0))]]) H := hP
  have hD : va_D A (bkF [[(b, .inr (0, [.ref q7, .ref q15, .ref q23, .ref q31, .int (nI 0), .int (nI 0), .null, .null, .int (nI 0)]))], [(q7, .inl (cy 0, 10, .inl k0))], [(q15, .inl (cy 0, 8, .inl k0))], [(q23, .inl (cy 0, 8, .inl k0))], [(q31, .inl (cy 0, 8, .inl k0))], [(q39, .inl (cy 0, 8, .inl k0))]]) := hD
  refine va_putF (D := D) (ci := 0) (v := .ref q39) (ty := .array .int) (C := RX0) (T := TX0) (N := 9) hx hb hts (by decide +kernel) tyX0 tyX0_ok nmX0 hown hK hP hD hS 0 rfl rfl 6 (by decide) (hts (.fieldLink RX0 24 "DanceHall$Floor" "may" "[I") (by decide +kernel)) (fun _ h9 => h9) rfl hin rfl (by decide +kernel) rfl rfl (Nat.le_of_ble_eq_true rfl) dX0_init_41 (fun H locs hP hD hS => ?_)
  have hP : va_P D vwCl (bkF [[(b, .inr (0, [.ref q7, .ref q15, .ref q23, .ref q31, .int (nI 0), .int (nI 0), .ref q39, .null, .int (nI 0)]))], [(q7, .inl (cy 0, 10, .inl k0))], [(q15, .inl (cy 0, 8, .inl k0))], [(q23, .inl (cy 0, 8, .inl k0))], [(q31, .inl (cy 0, 8, .inl k0))], [(q39, .inl (cy 0, 8, .inl k0))]]) H := hP
  have hD : va_D A (bkF [[(b, .inr (0, [.ref q7, .ref q15, .ref q23, .ref q31, .int (nI 0), .int (nI 0), .ref q39, .null, .int (nI 0)]))], [(q7, .inl (cy 0, 10, .inl k0))], [(q15, .inl (cy 0, 8, .inl k0))], [(q23, .inl (cy 0, 8, .inl k0))], [(q31, .inl (cy 0, 8, .inl k0))], [(q39, .inl (cy 0, 8, .inl k0))]]) := hD
  refine lv_aload_n hx hb dX0_init_44 rfl (lv_at hl 0 rfl) ?_
  refine lv_bipush (v := nI 8) hx hb dX0_init_45 (by decide) ?_
  refine va_newa (atype := .int) (a0 := (8, .inl k0)) (ty := .int) (N' := 8) hx hb (hts (.arrayClass .int) (by decide +kernel)) rfl hK hP hD hS hA (fun c9 => by rw [vp_cell_i]; rfl) (by decide +kernel) (by decide +kernel) (by decide +kernel) (Nat.le_of_ble_eq_true rfl) (Nat.le_of_ble_eq_true rfl) dX0_init_47 (fun q47 cA H hK9 hP hD hS => ?_)
  obtain rfl := kcy hK9 0 rfl
  clear hK9
  have hP : va_P D vwCl (bkF [[(b, .inr (0, [.ref q7, .ref q15, .ref q23, .ref q31, .int (nI 0), .int (nI 0), .ref q39, .null, .int (nI 0)]))], [(q7, .inl (cy 0, 10, .inl k0))], [(q15, .inl (cy 0, 8, .inl k0))], [(q23, .inl (cy 0, 8, .inl k0))], [(q31, .inl (cy 0, 8, .inl k0))], [(q39, .inl (cy 0, 8, .inl k0))], [(q47, .inl (cy 0, 8, .inl k0))]]) H := hP
  have hD : va_D A (bkF [[(b, .inr (0, [.ref q7, .ref q15, .ref q23, .ref q31, .int (nI 0), .int (nI 0), .ref q39, .null, .int (nI 0)]))], [(q7, .inl (cy 0, 10, .inl k0))], [(q15, .inl (cy 0, 8, .inl k0))], [(q23, .inl (cy 0, 8, .inl k0))], [(q31, .inl (cy 0, 8, .inl k0))], [(q39, .inl (cy 0, 8, .inl k0))], [(q47, .inl (cy 0, 8, .inl k0))]]) := hD
  refine va_putF (D := D) (ci := 0) (v := .ref q47) (ty := .array .int) (C := RX0) (T := TX0) (N := 9) hx hb hts (by decide +kernel) tyX0 tyX0_ok nmX0 hown hK hP hD hS 0 rfl rfl 7 (by decide) (hts (.fieldLink RX0 27 "DanceHall$Floor" "leaderOf" "[I") (by decide +kernel)) (fun _ h9 => h9) rfl hin rfl (by decide +kernel) rfl rfl (Nat.le_of_ble_eq_true rfl) dX0_init_49 (fun H locs hP hD hS => ?_)
  have hP : va_P D vwCl (bkF [[(b, .inr (0, [.ref q7, .ref q15, .ref q23, .ref q31, .int (nI 0), .int (nI 0), .ref q39, .ref q47, .int (nI 0)]))], [(q7, .inl (cy 0, 10, .inl k0))], [(q15, .inl (cy 0, 8, .inl k0))], [(q23, .inl (cy 0, 8, .inl k0))], [(q31, .inl (cy 0, 8, .inl k0))], [(q39, .inl (cy 0, 8, .inl k0))], [(q47, .inl (cy 0, 8, .inl k0))]]) H := hP
  have hD : va_D A (bkF [[(b, .inr (0, [.ref q7, .ref q15, .ref q23, .ref q31, .int (nI 0), .int (nI 0), .ref q39, .ref q47, .int (nI 0)]))], [(q7, .inl (cy 0, 10, .inl k0))], [(q15, .inl (cy 0, 8, .inl k0))], [(q23, .inl (cy 0, 8, .inl k0))], [(q31, .inl (cy 0, 8, .inl k0))], [(q39, .inl (cy 0, 8, .inl k0))], [(q47, .inl (cy 0, 8, .inl k0))]]) := hD
  exact kr_v (post := fun u_ : (Nat → Nat) => u_ 0 = b) (Bs := fun u_ : (Nat → Nat) => [fW cy u_ (k0, k0, k0, k0, 0, 0, k0, k0, 0)]) hx hb hr hlocks ((fun i9 => if i9 = 0 then b else if i9 = 1 then q7 else if i9 = 2 then q15 else if i9 = 3 then q23 else if i9 = 4 then q31 else if i9 = 5 then q39 else if i9 = 6 then q47 else 0)) hP hK hD hS rfl dX0_init_52 hQ
abbrev rm_X1_init : Room := { frames := 1, cells := 1, slots := 100, locals := 12 }
set_option maxHeartbeats 1000000 in
set_option maxRecDepth 100000 in
theorem c_X1_init (l : Launch) (D : va_G) (cy : Nat → ClassId) (b : Nat) (sz : Nat) : Met l yX1_init wsX1_init rm_X1_init (va_Pc [.ref b] (kPre D (kT cy) [[(b, .inr (1, [.null, .int (nI 0), .int (nI 0)]))]] sz)) (va_Qv (fun u_ : (Nat → Nat) => u_ 0 = b) (kFr D (kT cy) [[(b, .inr (1, [.null, .int (nI 0), .int (nI 0)]))]] sz (fun u_ : (Nat → Nat) => [tW cy u_ (k0, 0, 0)])) (va_A (bkF [[(b, .inr (1, [.null, .int (nI 0), .int (nI 0)]))]]) sz)) 1 100 (va_A (bkF [[(b, .inr (1, [.null, .int (nI 0), .int (nI 0)]))]]) sz) := by
  refine kOpen (y := yX1_init) (ws := wsX1_init) (cc := cX1_init) (maxL := 1) (ret := none) (av := [.ref b]) (Bs := [[(b, .inr (1, [.null, .int (nI 0), .int (nI 0)]))]]) (Qc := fun A => (va_Qv (fun u_ : (Nat → Nat) => u_ 0 = b) (fun (u_ : (Nat → Nat)) t9 => kEnd D (kT cy) A [tW cy u_ (k0, 0, 0)] t9) A)) (by decide) rfl (Nat.le_of_ble_eq_true rfl) ?_
  intro p e s m args below meth c A Q ls hQ hx hb hml hr hlocks hin hts hown hN hK hP hD hS hA hsz hAe hl
  clear hAe
  have hl : lv_has ls 1 [(0, .ref b)] := hl
  suffices K9 : ∀ (H : Heap) (locs : List Loc), va_P D vwCl (bkF [[(b, .inr (1, [.null, .int (nI 0), .int (nI 0)]))]]) H → va_S A s.heap H locs → W p l e (headSpec wsX1_init rm_X1_init).room s m args below meth c H locs 0 0 Q (F0 m 0 ls []) from K9 _ _ hP hS
  clear hP hS
  intro H locs hP hS
  refine lv_aload_n hx hb dX1_init_0 rfl (lv_at hl 0 rfl) ?_
  refine W.objInit hx hb hown (hts (.methodLink RX1 3 objectInit) (by decide +kernel)) (hts (.instanceMethod objectInit) (by decide +kernel)) (hts (.code objectInit ⟨#[0xb1]⟩ 1 none) (by decide +kernel)) rfl (by rw [hml]; exact hl.1) rfl dX1_init_1 (Nat.le_of_ble_eq_true rfl) (Nat.le_of_ble_eq_true rfl) ?_
  refine W.eq (g2 := F0 m 4 ls []) rfl ?_
  refine lv_aload_n hx hb dX1_init_4 rfl (lv_at hl 0 rfl) ?_
  refine lv_bipush (v := nI 100) hx hb dX1_init_5 (by decide) ?_
  refine va_newa (atype := .byte) (a0 := (100, .inl k0)) (ty := .byte) (N' := 100) hx hb (hts (.arrayClass .byte) (by decide +kernel)) rfl hK hP hD hS hA (fun c9 => by rw [vp_cell_i]; rfl) (by decide +kernel) (by decide +kernel) (by decide +kernel) (Nat.le_of_ble_eq_true rfl) (Nat.le_of_ble_eq_true rfl) dX1_init_7 (fun q7 cA H hK9 hP hD hS => ?_)
  obtain rfl := kcy hK9 2 rfl
  clear hK9
  have hP : va_P D vwCl (bkF [[(b, .inr (1, [.null, .int (nI 0), .int (nI 0)]))], [(q7, .inl (cy 2, 100, .inl k0))]]) H := hP
  have hD : va_D A (bkF [[(b, .inr (1, [.null, .int (nI 0), .int (nI 0)]))], [(q7, .inl (cy 2, 100, .inl k0))]]) := hD
  refine va_putF (D := D) (ci := 1) (v := .ref q7) (ty := .array .byte) (C := RX1) (T := TX1) (N := 3) hx hb hts (by decide +kernel) tyX1 tyX1_ok nmX1 hown hK hP hD hS 0 rfl rfl 0 (by decide) (hts (.fieldLink RX1 9 "DanceHall$GuestList" "bytes" "[B") (by decide +kernel)) (fun _ h9 => h9) rfl hin rfl (by decide +kernel) rfl rfl (Nat.le_of_ble_eq_true rfl) dX1_init_9 (fun H locs hP hD hS => ?_)
  have hP : va_P D vwCl (bkF [[(b, .inr (1, [.ref q7, .int (nI 0), .int (nI 0)]))], [(q7, .inl (cy 2, 100, .inl k0))]]) H := hP
  have hD : va_D A (bkF [[(b, .inr (1, [.ref q7, .int (nI 0), .int (nI 0)]))], [(q7, .inl (cy 2, 100, .inl k0))]]) := hD
  exact kr_v (post := fun u_ : (Nat → Nat) => u_ 0 = b) (Bs := fun u_ : (Nat → Nat) => [tW cy u_ (k0, 0, 0)]) hx hb hr hlocks ((fun i9 => if i9 = 0 then b else if i9 = 1 then q7 else 0)) hP hK hD hS rfl dX1_init_12 hQ
