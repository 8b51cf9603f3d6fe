abbrev rm_X3_side_t : Room := { frames := 0, cells := 0, slots := 0, locals := 0 }
set_option maxHeartbeats 1000000 in
set_option maxRecDepth 100000 in
/-- side: the leaders -/
theorem c_X3_side_t (l : Launch) (D : va_G) (cy : Nat → ClassId) (a : Nat → Nat) (C : rC) (x : Int32) (hx0 : ¬ x = 0) (sz : Nat) : Met l yX3_side wsX3_side rm_X3_side_t (va_Pc [.ref (a 0), .int x] (kPre D (kT cy) [sO a C] sz)) (va_Qr (fun _ : Unit => True) (fun u_ b9 t9 => b9 = (a 1) ∧ (kFr D (kT cy) [sO a C] sz (fun u_ : Unit => [sO a C])) u_ t9) (va_A (bkF [sO a C]) sz)) 0 0 (va_A (bkF [sO a C]) sz) := by
  refine kOpen (y := yX3_side) (ws := wsX3_side) (cc := cX3_side) (maxL := 2) (ret := (some (.object "DanceHall$Guests"))) (av := [.ref (a 0), .int x]) (Bs := [sO a C]) (Qc := fun A => (va_Qr (fun _ : Unit => True) (fun u_ b9 t9 => b9 = (a 1) ∧ (fun (u_ : Unit) t9 => kEnd D (kT cy) A [sO a C] t9) u_ t9) A)) (by decide) rfl (Nat.le_of_ble_eq_true rfl) ?_
  intro p e s m args below meth c A Q ls hQ hx hb hml hr hlocks hin hts hown hN hK hP hD hS hA hsz hAe hl
  clear hAe
  have hl : lv_has ls 2 [(0, .ref (a 0)), (1, .int x)] := hl
  suffices K9 : ∀ (H : Heap) (locs : List Loc), va_P D vwCl (bkF [sO a C]) H → va_S A s.heap H locs → W p l e (headSpec wsX3_side rm_X3_side_t).room s m args below meth c H locs 0 0 Q (F0 m 0 ls []) from K9 _ _ hP hS
  clear hP hS
  intro H locs hP hS
  refine lv_iload_n hx hb dX3_side_0 rfl (lv_at hl 1 rfl) ?_
  refine lv_if_eq (tgt := 11) hx hb dX3_side_1 (by decide) (fun c_1 => False.elim ?_) (fun c_1 => ?_)
  · skip
    exact hx0 c_1
  · skip
    refine lv_aload_n hx hb dX3_side_4 rfl (lv_at hl 0 rfl) ?_
    refine va_get (D := D) (ci := 3) (v := .ref (a 1)) (C := RX3) (T := TX3) (N := 14) hx hb hts (by decide +kernel) hown hK hP 0 rfl rfl 0 (by decide) (hts (.fieldLink RX3 12 "DanceHall$State" "leaders" "LDanceHall$Guests;") (by decide +kernel)) (fun _ h9 => h9) rfl dX3_side_5 ?_
    refine lv_goto (tgt := 15) hx hb dX3_side_8 (by decide) ?_
    exact kr_r (post := fun _ => True) (ad := fun _ => (a 1)) (Bs := fun _ : Unit => [sO a C]) hx hb hr (Or.inl ⟨_, rfl⟩) hlocks () hP hK hD hS trivial dX3_side_15 hQ
abbrev rm_X3_side_f : Room := { frames := 0, cells := 0, slots := 0, locals := 0 }
set_option maxHeartbeats 1000000 in
set_option maxRecDepth 100000 in
/-- side: the followers -/
theorem c_X3_side_f (l : Launch) (D : va_G) (cy : Nat → ClassId) (a : Nat → Nat) (C : rC) (x : Int32) (hx0 : x = 0) (sz : Nat) : Met l yX3_side wsX3_side rm_X3_side_f (va_Pc [.ref (a 0), .int x] (kPre D (kT cy) [sO a C] sz)) (va_Qr (fun _ : Unit => True) (fun u_ b9 t9 => b9 = (a 7) ∧ (kFr D (kT cy) [sO a C] sz (fun u_ : Unit => [sO a C])) u_ t9) (va_A (bkF [sO a C]) sz)) 0 0 (va_A (bkF [sO a C]) sz) := by
  refine kOpen (y := yX3_side) (ws := wsX3_side) (cc := cX3_side) (maxL := 2) (ret := (some (.object "DanceHall$Guests"))) (av := [.ref (a 0), .int x]) (Bs := [sO a C]) (Qc := fun A => (va_Qr (fun _ : Unit => True) (fun u_ b9 t9 => b9 = (a 7) ∧ (fun (u_ : Unit) t9 => kEnd D (kT cy) A [sO a C] t9) u_ t9) A)) (by decide) rfl (Nat.le_of_ble_eq_true rfl) ?_
  intro p e s m args below meth c A Q ls hQ hx hb hml hr hlocks hin hts hown hN hK hP hD hS hA hsz hAe hl
  clear hAe
  have hl : lv_has ls 2 [(0, .ref (a 0)), (1, .int x)] := hl
  suffices K9 : ∀ (H : Heap) (locs : List Loc), va_P D vwCl (bkF [sO a C]) H → va_S A s.heap H locs → W p l e (headSpec wsX3_side rm_X3_side_f).room s m args below meth c H locs 0 0 Q (F0 m 0 ls []) from K9 _ _ hP hS
  clear hP hS
  intro H locs hP hS
  refine lv_iload_n hx hb dX3_side_0 rfl (lv_at hl 1 rfl) ?_
  refine lv_if_eq (tgt := 11) hx hb dX3_side_1 (by decide) (fun c_1 => ?_) (fun c_1 => False.elim ?_)
  · skip
    refine lv_aload_n hx hb dX3_side_11 rfl (lv_at hl 0 rfl) ?_
    refine va_get (D := D) (ci := 3) (v := .ref (a 7)) (C := RX3) (T := TX3) (N := 14) hx hb hts (by decide +kernel) hown hK hP 0 rfl rfl 1 (by decide) (hts (.fieldLink RX3 18 "DanceHall$State" "followers" "LDanceHall$Guests;") (by decide +kernel)) (fun _ h9 => h9) rfl dX3_side_12 ?_
    exact kr_r (post := fun _ => True) (ad := fun _ => (a 7)) (Bs := fun _ : Unit => [sO a C]) hx hb hr (Or.inl ⟨_, rfl⟩) hlocks () hP hK hD hS trivial dX3_side_15 hQ
  · skip
    exact c_1 hx0
abbrev rm_X3_hasFiddler : Room := { frames := 0, cells := 0, slots := 0, locals := 0 }
set_option maxHeartbeats 1000000 in
set_option maxRecDepth 100000 in
/-- hasFiddler -/
theorem c_X3_hasFiddler (l : Launch) (D : va_G) (cy : Nat → ClassId) (a : Nat → Nat) (C : rC) (x : Int32) (sz : Nat) : Met l yX3_hasFiddler wsX3_hasFiddler rm_X3_hasFiddler (va_Pc [.ref (a 0), .int x] (kPre D (kT cy) [sO a C] sz)) (va_Qi (fun r_ (u_ : Unit) => r_ = if ¬ x < nI 0 ∧ ¬ nI C.2.2.2.1 ≤ x then nI 1 else nI 0) (kFr D (kT cy) [sO a C] sz (fun u_ : Unit => [sO a C])) (va_A (bkF [sO a C]) sz)) 0 0 (va_A (bkF [sO a C]) sz) := by
  refine kOpen (y := yX3_hasFiddler) (ws := wsX3_hasFiddler) (cc := cX3_hasFiddler) (maxL := 2) (ret := (some .boolean)) (av := [.ref (a 0), .int x]) (Bs := [sO a C]) (Qc := fun A => (va_Qi (fun r_ (u_ : Unit) => r_ = if ¬ x < nI 0 ∧ ¬ nI C.2.2.2.1 ≤ x then nI 1 else nI 0) (fun (u_ : Unit) t9 => kEnd D (kT cy) A [sO a C] t9) A)) (by decide) rfl (Nat.le_of_ble_eq_true rfl) ?_
  intro p e s m args below meth c A Q ls hQ hx hb hml hr hlocks hin hts hown hN hK hP hD hS hA hsz hAe hl
  clear hAe
  have hl : lv_has ls 2 [(0, .ref (a 0)), (1, .int x)] := hl
  suffices K9 : ∀ (H : Heap) (locs : List Loc), va_P D vwCl (bkF [sO a C]) H → va_S A s.heap H locs → W p l e (headSpec wsX3_hasFiddler rm_X3_hasFiddler).room s m args below meth c H locs 0 0 Q (F0 m 0 ls []) from K9 _ _ hP hS
  clear hP hS
  intro H locs hP hS
  refine lv_iconst (v := nI 0) hx hb dX3_hasFiddler_0 (by decide) ?_
  refine lv_iload_n hx hb dX3_hasFiddler_1 rfl (lv_at hl 1 rfl) ?_
  refine lv_icmp_gt (tgt := 17) hx hb dX3_hasFiddler_2 (by decide) (fun c_2 => ?_) (fun c_2 => ?_)
  · skip
    refine lv_iconst (v := nI 0) hx hb dX3_hasFiddler_17 (by decide) ?_
    exact kr_i (post := fun r_ (u_ : Unit) => r_ = if ¬ x < nI 0 ∧ ¬ nI C.2.2.2.1 ≤ x then nI 1 else nI 0) (Bs := fun u_ : Unit => [sO a C]) hx hb hr hlocks rfl () hP hK hD hS (by first | exact (if_pos (by first | assumption | (simp only [c_2]; done) | (constructor <;> assumption) | omega)).symm | exact (if_neg (by first | assumption | omega)).symm | simp [c_2] | (split <;> simp_all)) dX3_hasFiddler_18 hQ
  · skip
    refine lv_iload_n hx hb dX3_hasFiddler_5 rfl (lv_at hl 1 rfl) ?_
    refine lv_aload_n hx hb dX3_hasFiddler_6 rfl (lv_at hl 0 rfl) ?_
    refine va_get (D := D) (ci := 3) (v := .int (nI C.2.2.2.1)) (C := RX3) (T := TX3) (N := 14) hx hb hts (by decide +kernel) hown hK hP 0 rfl rfl 6 (by decide) (hts (.fieldLink RX3 32 "DanceHall$State" "fiddlers" "I") (by decide +kernel)) (fun _ h9 => h9) rfl dX3_hasFiddler_7 ?_
    refine lv_icmp_ge (tgt := 17) hx hb dX3_hasFiddler_10 (by decide) (fun c_10 => ?_) (fun c_10 => ?_)
    · skip
      refine lv_iconst (v := nI 0) hx hb dX3_hasFiddler_17 (by decide) ?_
      exact kr_i (post := fun r_ (u_ : Unit) => r_ = if ¬ x < nI 0 ∧ ¬ nI C.2.2.2.1 ≤ x then nI 1 else nI 0) (Bs := fun u_ : Unit => [sO a C]) hx hb hr hlocks rfl () hP hK hD hS (by first | exact (if_pos (by first | assumption | (simp only [c_2, c_10]; done) | (constructor <;> assumption) | omega)).symm | exact (if_neg (by first | assumption | omega)).symm | simp [c_2, c_10] | (split <;> simp_all)) dX3_hasFiddler_18 hQ
    · skip
      refine lv_iconst (v := nI 1) hx hb dX3_hasFiddler_13 (by decide) ?_
      refine lv_goto (tgt := 18) hx hb dX3_hasFiddler_14 (by decide) ?_
      exact kr_i (post := fun r_ (u_ : Unit) => r_ = if ¬ x < nI 0 ∧ ¬ nI C.2.2.2.1 ≤ x then nI 1 else nI 0) (Bs := fun u_ : Unit => [sO a C]) hx hb hr hlocks rfl () hP hK hD hS (by first | exact (if_pos (by first | assumption | (simp only [c_2, c_10]; done) | (constructor <;> assumption) | omega)).symm | exact (if_neg (by first | assumption | omega)).symm | simp [c_2, c_10] | (split <;> simp_all)) dX3_hasFiddler_18 hQ
abbrev rm_X3_litOf : Room := { frames := 1, cells := 0, slots := 0, locals := 21 }
set_option maxHeartbeats 1000000 in
set_option maxRecDepth 100000 in
/-- litOf -/
theorem c_X3_litOf (l : Launch) (D : va_G) (cy : Nat → ClassId) (a : Nat → Nat) (C : rC) (k : Nat) (hk : k ≤ 6) (ho : C.2.1 ≤ 999) (sz : Nat) : Met l yX3_litOf wsX3_litOf rm_X3_litOf (va_Pc [.ref (a 0), .int (nI k)] (kPre D (kT cy) [sO a C] sz)) (va_Qi (fun r_ (u_ : Unit) => r_ = nI (min k (C.2.1 / 2))) (kFr D (kT cy) [sO a C] sz (fun u_ : Unit => [sO a C])) (va_A (bkF [sO a C]) sz)) 0 0 (va_A (bkF [sO a C]) sz) := by
  refine kOpen (y := yX3_litOf) (ws := wsX3_litOf) (cc := cX3_litOf) (maxL := 2) (ret := (some .int)) (av := [.ref (a 0), .int (nI k)]) (Bs := [sO a C]) (Qc := fun A => (va_Qi (fun r_ (u_ : Unit) => r_ = nI (min k (C.2.1 / 2))) (fun (u_ : Unit) t9 => kEnd D (kT cy) A [sO a C] t9) A)) (by decide) rfl (Nat.le_of_ble_eq_true rfl) ?_
  intro p e s m args below meth c A Q ls hQ hx hb hml hr hlocks hin hts hown hN hK hP hD hS hA hsz hAe hl
  clear hAe
  have hl : lv_has ls 2 [(0, .ref (a 0)), (1, .int (nI k))] := hl
  suffices K9 : ∀ (H : Heap) (locs : List Loc), va_P D vwCl (bkF [sO a C]) H → va_S A s.heap H locs → W p l e (headSpec wsX3_litOf rm_X3_litOf).room s m args below meth c H locs 0 0 Q (F0 m 0 ls []) from K9 _ _ hP hS
  clear hP hS
  intro H locs hP hS
  refine lv_iload_n hx hb dX3_litOf_0 rfl (lv_at hl 1 rfl) ?_
  refine lv_aload_n hx hb dX3_litOf_1 rfl (lv_at hl 0 rfl) ?_
  refine va_get (D := D) (ci := 3) (v := .int (nI C.2.1)) (C := RX3) (T := TX3) (N := 14) hx hb hts (by decide +kernel) hown hK hP 0 rfl rfl 4 (by decide) (hts (.fieldLink RX3 29 "DanceHall$State" "oil" "I") (by decide +kernel)) (fun _ h9 => h9) rfl dX3_litOf_2 ?_
  refine lv_iconst (v := nI 2) hx hb dX3_litOf_5 (by decide) ?_
  refine lv_idiv hx hb dX3_litOf_6 (by decide) ?_
  refine kv_i (y := nI (C.2.1 / 2)) (pk_div (by omega) (by omega) (by omega)) ?_
  refine va_mmin hx hb (hml.trans hl.1.symm) hown (hts (.methodLink RX3 52 Lib.Math.min.name) (by decide +kernel)) (hts (.static Lib.Math.min.name) (by decide +kernel)) (hts (.initialized "java/lang/Math") (by decide +kernel)) (hts _ (List.mem_of_getElem? (i := 5) rfl)) (Nat.le_of_ble_eq_true rfl) (Nat.le_of_ble_eq_true rfl) (Nat.le_of_ble_eq_true rfl) (Nat.le_of_ble_eq_true rfl) dX3_litOf_7 ?_
  refine kv_i (y := nI (min k (C.2.1 / 2))) (kmin (by omega) (by omega)) ?_
  exact kr_i (post := fun r_ (u_ : Unit) => r_ = nI (min k (C.2.1 / 2))) (Bs := fun u_ : Unit => [sO a C]) hx hb hr hlocks rfl () hP hK hD hS rfl dX3_litOf_10 hQ
abbrev rm_X3_room : Room := { frames := 2, cells := 0, slots := 0, locals := 42 }
set_option maxHeartbeats 1000000 in
set_option maxRecDepth 100000 in
/-- room -/
theorem c_X3_room (l : Launch) (D : va_G) (cy : Nat → ClassId) (a : Nat → Nat) (C : rC) (hla : C.1 ≤ 6) (ho : C.2.1 ≤ 999) (sz : Nat) : Met l yX3_room wsX3_room rm_X3_room (va_Pc [.ref (a 0)] (kPre D (kT cy) [sO a C] sz)) (va_Qi (fun r_ (u_ : Unit) => r_ = nI (2 * (min C.1 (C.2.1 / 2)))) (kFr D (kT cy) [sO a C] sz (fun u_ : Unit => [sO a C])) (va_A (bkF [sO a C]) sz)) 0 0 (va_A (bkF [sO a C]) sz) := by
  refine kOpen (y := yX3_room) (ws := wsX3_room) (cc := cX3_room) (maxL := 1) (ret := (some .int)) (av := [.ref (a 0)]) (Bs := [sO a C]) (Qc := fun A => (va_Qi (fun r_ (u_ : Unit) => r_ = nI (2 * (min C.1 (C.2.1 / 2)))) (fun (u_ : Unit) t9 => kEnd D (kT cy) A [sO a C] t9) A)) (by decide) rfl (Nat.le_of_ble_eq_true rfl) ?_
  intro p e s m args below meth c A Q ls hQ hx hb hml hr hlocks hin hts hown hN hK hP hD hS hA hsz hAe hl
  clear hAe
  have hl : lv_has ls 1 [(0, .ref (a 0))] := hl
  suffices K9 : ∀ (H : Heap) (locs : List Loc), va_P D vwCl (bkF [sO a C]) H → va_S A s.heap H locs → W p l e (headSpec wsX3_room rm_X3_room).room s m args below meth c H locs 0 0 Q (F0 m 0 ls []) from K9 _ _ hP hS
  clear hP hS
  intro H locs hP hS
  refine lv_iconst (v := nI 2) hx hb dX3_room_0 (by decide) ?_
  refine lv_aload_n hx hb dX3_room_1 rfl (lv_at hl 0 rfl) ?_
  refine lv_aload_n hx hb dX3_room_2 rfl (lv_at hl 0 rfl) ?_
  refine va_get (D := D) (ci := 3) (v := .int (nI C.1)) (C := RX3) (T := TX3) (N := 14) hx hb hts (by decide +kernel) hown hK hP 0 rfl rfl 3 (by decide) (hts (.fieldLink RX3 25 "DanceHall$State" "lamps" "I") (by decide +kernel)) (fun _ h9 => h9) rfl dX3_room_3 ?_
  refine kc_i (Cs := [sO a C]) (Rs := []) (Bs := [sO a C]) (Cs' := fun u_ : Unit => [sO a C]) (Fs := fun u_ : Unit => [sO a C]) hP hD hS hA [0] [] [0] rfl rfl (by decide) (by decide) (fun _ => rfl) (va_runV (As := [.int (nI C.1)]) (rest := [.int (nI 2)]) ⟨hx, hb, hml, hown, hts⟩ (c_X3_litOf l D cy a C C.1 (by first | assumption | omega | decide) (by first | assumption | omega | decide) H.size) (cwV 1 hts gX3_room_X3_litOf rfl rfl rfl (by decide +kernel) ⟨Nat.le_of_ble_eq_true rfl, Nat.le_of_ble_eq_true rfl⟩) (kPre_V (ci := 3) hK hN hP hD [0] (by decide) rfl 0 rfl rfl) rfl rfl hl.1 rfl (lv_room (Nat.le_of_ble_eq_true rfl)) dX3_room_6 ⟨Nat.le_of_ble_eq_true rfl, Nat.le_of_ble_eq_true rfl⟩) (fun r_ u_ H locs hw hP hD hS => ?_)
  have hw : r_ = nI (min C.1 (C.2.1 / 2)) := hw
  subst hw
  refine lv_imul hx hb dX3_room_9 ?_
  refine kv_i (y := nI (2 * (min C.1 (C.2.1 / 2)))) (pk_mul 2 (min C.1 (C.2.1 / 2))) ?_
  exact kr_i (post := fun r_ (u_ : Unit) => r_ = nI (2 * (min C.1 (C.2.1 / 2)))) (Bs := fun u_ : Unit => [sO a C]) hx hb hr hlocks rfl () hP hK hD hS rfl dX3_room_10 hQ
abbrev rm_X3_isDancePossible : Room := { frames := 2, cells := 0, slots := 0, locals := 42 }
set_option maxHeartbeats 1000000 in
set_option maxRecDepth 100000 in
/-- isDancePossible -/
theorem c_X3_isDancePossible (l : Launch) (D : va_G) (cy : Nat → ClassId) (a : Nat → Nat) (C : rC) (hla : C.1 ≤ 6) (ho : C.2.1 ≤ 999) (hdn : C.2.2.2.2.2.2.1 ≤ 30) (sz : Nat) : Met l yX3_isDancePossible wsX3_isDancePossible rm_X3_isDancePossible (va_Pc [.ref (a 0)] (kPre D (kT cy) [sO a C] sz)) (va_Qi (fun r_ (u_ : Unit) => r_ = if ¬ min C.1 (C.2.1 / 2) ≤ 0 ∧ ¬ 30 ≤ C.2.2.2.2.2.2.1 then nI 1 else nI 0) (kFr D (kT cy) [sO a C] sz (fun u_ : Unit => [sO a C])) (va_A (bkF [sO a C]) sz)) 0 0 (va_A (bkF [sO a C]) sz) := by
  refine kOpen (y := yX3_isDancePossible) (ws := wsX3_isDancePossible) (cc := cX3_isDancePossible) (maxL := 1) (ret := (some .boolean)) (av := [.ref (a 0)]) (Bs := [sO a C]) (Qc := fun A => (va_Qi (fun r_ (u_ : Unit) => r_ = if ¬ min C.1 (C.2.1 / 2) ≤ 0 ∧ ¬ 30 ≤ C.2.2.2.2.2.2.1 then nI 1 else nI 0) (fun (u_ : Unit) t9 => kEnd D (kT cy) A [sO a C] t9) A)) (by decide) rfl (Nat.le_of_ble_eq_true rfl) ?_
  intro p e s m args below meth c A Q ls hQ hx hb hml hr hlocks hin hts hown hN hK hP hD hS hA hsz hAe hl
  clear hAe
  have hl : lv_has ls 1 [(0, .ref (a 0))] := hl
  suffices K9 : ∀ (H : Heap) (locs : List Loc), va_P D vwCl (bkF [sO a C]) H → va_S A s.heap H locs → W p l e (headSpec wsX3_isDancePossible rm_X3_isDancePossible).room s m args below meth c H locs 0 0 Q (F0 m 0 ls []) from K9 _ _ hP hS
  clear hP hS
  intro H locs hP hS
  refine lv_aload_n hx hb dX3_isDancePossible_0 rfl (lv_at hl 0 rfl) ?_
  refine lv_aload_n hx hb dX3_isDancePossible_1 rfl (lv_at hl 0 rfl) ?_
  refine va_get (D := D) (ci := 3) (v := .int (nI C.1)) (C := RX3) (T := TX3) (N := 14) hx hb hts (by decide +kernel) hown hK hP 0 rfl rfl 3 (by decide) (hts (.fieldLink RX3 25 "DanceHall$State" "lamps" "I") (by decide +kernel)) (fun _ h9 => h9) rfl dX3_isDancePossible_2 ?_
  refine kc_i (Cs := [sO a C]) (Rs := []) (Bs := [sO a C]) (Cs' := fun u_ : Unit => [sO a C]) (Fs := fun u_ : Unit => [sO a C]) hP hD hS hA [0] [] [0] rfl rfl (by decide) (by decide) (fun _ => rfl) (va_runV (As := [.int (nI C.1)]) (rest := []) ⟨hx, hb, hml, hown, hts⟩ (c_X3_litOf l D cy a C C.1 (by first | assumption | omega | decide) (by first | assumption | omega | decide) H.size) (cwV 1 hts gX3_isDancePossible_X3_litOf rfl rfl rfl (by decide +kernel) ⟨Nat.le_of_ble_eq_true rfl, Nat.le_of_ble_eq_true rfl⟩) (kPre_V (ci := 3) hK hN hP hD [0] (by decide) rfl 0 rfl rfl) rfl rfl hl.1 rfl (lv_room (Nat.le_of_ble_eq_true rfl)) dX3_isDancePossible_5 ⟨Nat.le_of_ble_eq_true rfl, Nat.le_of_ble_eq_true rfl⟩) (fun r_ u_ H locs hw hP hD hS => ?_)
  have hw : r_ = nI (min C.1 (C.2.1 / 2)) := hw
  subst hw
  refine lv_if_le (tgt := 24) hx hb dX3_isDancePossible_8 (by decide) (fun c_8 => ?_) (fun c_8 => ?_)
  · skip
    have c_8 : (min C.1 (C.2.1 / 2)) ≤ 0 := (nI_leI (a := min C.1 (C.2.1 / 2)) (b := 0) (by omega) (by omega)).mp c_8
    refine lv_iconst (v := nI 0) hx hb dX3_isDancePossible_24 (by decide) ?_
    exact kr_i (post := fun r_ (u_ : Unit) => r_ = if ¬ min C.1 (C.2.1 / 2) ≤ 0 ∧ ¬ 30 ≤ C.2.2.2.2.2.2.1 then nI 1 else nI 0) (Bs := fun u_ : Unit => [sO a C]) hx hb hr hlocks rfl () hP hK hD hS (by first | exact (if_pos (by first | assumption | (simp only [c_8]; done) | (constructor <;> assumption) | omega)).symm | exact (if_neg (by first | assumption | omega)).symm | simp [c_8] | (split <;> simp_all)) dX3_isDancePossible_25 hQ
  · skip
    have c_8 : ¬ ((min C.1 (C.2.1 / 2)) ≤ 0) := fun h => c_8 ((nI_leI (a := min C.1 (C.2.1 / 2)) (b := 0) (by omega) (by omega)).mpr h)
    refine lv_aload_n hx hb dX3_isDancePossible_11 rfl (lv_at hl 0 rfl) ?_
    refine va_get (D := D) (ci := 3) (v := .int (nI C.2.2.2.2.2.2.1)) (C := RX3) (T := TX3) (N := 14) hx hb hts (by decide +kernel) hown hK hP 0 rfl rfl 11 (by decide) (hts (.fieldLink RX3 62 "DanceHall$State" "dances" "I") (by decide +kernel)) (fun _ h9 => h9) rfl dX3_isDancePossible_12 ?_
    refine lv_bipush (v := nI 30) hx hb dX3_isDancePossible_15 (by decide) ?_
    refine lv_icmp_ge (tgt := 24) hx hb dX3_isDancePossible_17 (by decide) (fun c_17 => ?_) (fun c_17 => ?_)
    · skip
      have c_17 : 30 ≤ C.2.2.2.2.2.2.1 := (nI_leI (a := 30) (b := C.2.2.2.2.2.2.1) (by omega) (by omega)).mp c_17
      refine lv_iconst (v := nI 0) hx hb dX3_isDancePossible_24 (by decide) ?_
      exact kr_i (post := fun r_ (u_ : Unit) => r_ = if ¬ min C.1 (C.2.1 / 2) ≤ 0 ∧ ¬ 30 ≤ C.2.2.2.2.2.2.1 then nI 1 else nI 0) (Bs := fun u_ : Unit => [sO a C]) hx hb hr hlocks rfl () hP hK hD hS (by first | exact (if_pos (by first | assumption | (simp only [c_8, c_17]; done) | (constructor <;> assumption) | omega)).symm | exact (if_neg (by first | assumption | omega)).symm | simp [c_8, c_17] | (split <;> simp_all)) dX3_isDancePossible_25 hQ
    · skip
      have c_17 : ¬ (30 ≤ C.2.2.2.2.2.2.1) := fun h => c_17 ((nI_leI (a := 30) (b := C.2.2.2.2.2.2.1) (by omega) (by omega)).mpr h)
      refine lv_iconst (v := nI 1) hx hb dX3_isDancePossible_20 (by decide) ?_
      refine lv_goto (tgt := 25) hx hb dX3_isDancePossible_21 (by decide) ?_
      exact kr_i (post := fun r_ (u_ : Unit) => r_ = if ¬ min C.1 (C.2.1 / 2) ≤ 0 ∧ ¬ 30 ≤ C.2.2.2.2.2.2.1 then nI 1 else nI 0) (Bs := fun u_ : Unit => [sO a C]) hx hb hr hlocks rfl () hP hK hD hS (by first | exact (if_pos (by first | assumption | (simp only [c_8, c_17]; done) | (constructor <;> assumption) | omega)).symm | exact (if_neg (by first | assumption | omega)).symm | simp [c_8, c_17] | (split <;> simp_all)) dX3_isDancePossible_25 hQ
abbrev rm_X3_partsSum : Room := { frames := 0, cells := 0, slots := 0, locals := 0 }
set_option maxHeartbeats 1000000 in
set_option maxRecDepth 100000 in
/-- partsSum -/
theorem c_X3_partsSum (l : Launch) (D : va_G) (cy : Nat → ClassId) (a : Nat → Nat) (C : rC) (Ar : rA) (hfn : C.2.2.2.1 ≤ 4) (sz : Nat) : Met l yX3_partsSum wsX3_partsSum rm_X3_partsSum (va_Pc [.ref (a 0)] (kPre D (kT cy) [sO a C, sA cy a Ar] sz)) (va_Qi (fun r_ (u_ : Unit) => r_ = ksum Ar.2.1 C.2.2.2.1) (kFr D (kT cy) [sO a C, sA cy a Ar] sz (fun u_ : Unit => [sO a C, sA cy a Ar])) (va_A (bkF [sO a C, sA cy a Ar]) sz)) 0 0 (va_A (bkF [sO a C, sA cy a Ar]) sz) := by
  refine kOpen (y := yX3_partsSum) (ws := wsX3_partsSum) (cc := cX3_partsSum) (maxL := 3) (ret := (some .int)) (av := [.ref (a 0)]) (Bs := [sO a C, sA cy a Ar]) (Qc := fun A => (va_Qi (fun r_ (u_ : Unit) => r_ = ksum Ar.2.1 C.2.2.2.1) (fun (u_ : Unit) t9 => kEnd D (kT cy) A [sO a C, sA cy a Ar] t9) A)) (by decide) rfl (Nat.le_of_ble_eq_true rfl) ?_
  intro p e s m args below meth c A Q ls hQ hx hb hml hr hlocks hin hts hown hN hK hP hD hS hA hsz hAe hl
  clear hAe
  have hl : lv_has ls 3 [(0, .ref (a 0))] := hl
  suffices K9 : ∀ (H : Heap) (locs : List Loc), va_P D vwCl (bkF [sO a C, sA cy a Ar]) H → va_S A s.heap H locs → W p l e (headSpec wsX3_partsSum rm_X3_partsSum).room s m args below meth c H locs 0 0 Q (F0 m 0 ls []) from K9 _ _ hP hS
  clear hP hS
  intro H locs hP hS
  refine lv_iconst (v := nI 0) hx hb dX3_partsSum_0 (by decide) ?_
  refine lv_istore_n (lv' := [(1, .int (nI 0)), (0, .ref (a 0))]) hx hb dX3_partsSum_1 rfl hl (by decide) rfl (fun ls hl => ?_)
  refine lv_iconst (v := nI 0) hx hb dX3_partsSum_2 (by decide) ?_
  refine lv_istore_n (lv' := [(2, .int (nI 0)), (1, .int (nI 0)), (0, .ref (a 0))]) hx hb dX3_partsSum_3 rfl hl (by decide) rfl (fun ls hl => ?_)
  have L_4 : ∀ (n9 : Nat) (i : Nat), C.2.2.2.1 - i = n9 → (i ≤ C.2.2.2.1) → ∀ (ls : Array Slot) (H : Heap) (locs : List Loc), va_P D vwCl (bkF [sO a C, sA cy a Ar]) H → va_D A (bkF [sO a C, sA cy a Ar]) → va_S A s.heap H locs → lv_has ls 3 [(0, .ref (a 0)), (2, .int (nI i)), (1, .int (ksum Ar.2.1 i))] → W p l e (headSpec wsX3_partsSum rm_X3_partsSum).room s m args below meth c H locs 0 0 Q (F0 m 4 ls []) := by
    intro n9
    induction n9 using Nat.strongRecOn with
    | _ n9 ih_4 =>
    intro i hm_4 h4_0 ls H locs hP hD hS hl
    refine lv_iload_n hx hb dX3_partsSum_4 rfl (lv_at hl 1 rfl) ?_
    refine lv_aload_n hx hb dX3_partsSum_5 rfl (lv_at hl 0 rfl) ?_
    refine va_get (D := D) (ci := 3) (v := .int (nI C.2.2.2.1)) (C := RX3) (T := TX3) (N := 14) hx hb hts (by decide +kernel) hown hK hP 0 rfl rfl 6 (by decide) (hts (.fieldLink RX3 32 "DanceHall$State" "fiddlers" "I") (by decide +kernel)) (fun _ h9 => h9) rfl dX3_partsSum_6 ?_
    refine lv_icmp_ge (tgt := 27) hx hb dX3_partsSum_9 (by decide) (fun c_9 => ?_) (fun c_9 => ?_)
    · skip
      have c_9 : C.2.2.2.1 ≤ i := (nI_leI (a := C.2.2.2.1) (b := i) (by omega) (by omega)).mp c_9
      refine lv_iload_n hx hb dX3_partsSum_27 rfl (lv_at hl 2 rfl) ?_
      exact kr_i (post := fun r_ (u_ : Unit) => r_ = ksum Ar.2.1 C.2.2.2.1) (Bs := fun u_ : Unit => [sO a C, sA cy a Ar]) hx hb hr hlocks rfl () hP hK hD hS (by rw [show i = C.2.2.2.1 from by omega]) dX3_partsSum_28 hQ
    · skip
      have c_9 : ¬ (C.2.2.2.1 ≤ i) := fun h => c_9 ((nI_leI (a := C.2.2.2.1) (b := i) (by omega) (by omega)).mpr h)
      refine lv_iload_n hx hb dX3_partsSum_12 rfl (lv_at hl 2 rfl) ?_
      refine lv_aload_n hx hb dX3_partsSum_13 rfl (lv_at hl 0 rfl) ?_
      refine va_get (D := D) (ci := 3) (v := .ref (a 14)) (C := RX3) (T := TX3) (N := 14) hx hb hts (by decide +kernel) hown hK hP 0 rfl rfl 7 (by decide) (hts (.fieldLink RX3 35 "DanceHall$State" "parts" "[I") (by decide +kernel)) (fun _ h9 => h9) rfl dX3_partsSum_14 ?_
      refine lv_iload_n hx hb dX3_partsSum_17 rfl (lv_at hl 1 rfl) ?_
      refine va_iald hx hb hK hP 2 0 rfl rfl (vp_in_nI (n := i) (N := 4) (by omega) (by omega)) dX3_partsSum_18 ?_
      refine kv_i (y := Ar.2.1 i) (congrArg Ar.2.1 (nI_clamp (n := i) (by omega))) ?_
      refine lv_iadd hx hb dX3_partsSum_19 ?_
      refine kv_i (y := ksum Ar.2.1 (i + 1)) rfl ?_
      refine lv_istore_n (lv' := [(1, .int (ksum Ar.2.1 (i + 1))), (0, .ref (a 0)), (2, .int (nI i))]) hx hb dX3_partsSum_20 rfl hl (by decide) rfl (fun ls hl => ?_)
      refine lv_iinc (v := nI (i + 1)) (lv' := [(2, .int (nI (i + 1))), (1, .int (ksum Ar.2.1 (i + 1))), (0, .ref (a 0))]) hx hb dX3_partsSum_21 hl (k := 2) rfl (nI_add i 1) (by decide) rfl (fun ls hl => ?_)
      refine lv_goto (tgt := 4) hx hb dX3_partsSum_24 (by decide) ?_
      exact ih_4 _ (by omega) (i + 1) rfl (by omega) ls H locs hP hD hS (lv_sub hl [2, 0, 1] rfl)
  exact L_4 _ 0  rfl (by omega) ls H locs hP hD hS (lv_sub hl [2, 0, 1] rfl)
abbrev rm_X3_plainCutOf : Room := { frames := 1, cells := 0, slots := 0, locals := 22 }
set_option maxHeartbeats 1000000 in
set_option maxRecDepth 100000 in
/-- plainCutOf -/
theorem c_X3_plainCutOf (l : Launch) (D : va_G) (cy : Nat → ClassId) (a : Nat → Nat) (C : rC) (Ar : rA) (f : Nat) (hfn : C.2.2.2.1 ≤ 4) (hf : f < 4) (hps : ¬ ksum Ar.2.1 C.2.2.2.1 ≤ 0) (sz : Nat) : Met l yX3_plainCutOf wsX3_plainCutOf rm_X3_plainCutOf (va_Pc [.ref (a 0), .int (nI f)] (kPre D (kT cy) [sO a C, sA cy a Ar] sz)) (va_Qi (fun r_ (u_ : Unit) => r_ = kcut C.2.2.2.2.1 Ar.2.1 C.2.2.2.1 f) (kFr D (kT cy) [sO a C, sA cy a Ar] sz (fun u_ : Unit => [sO a C, sA cy a Ar])) (va_A (bkF [sO a C, sA cy a Ar]) sz)) 0 0 (va_A (bkF [sO a C, sA cy a Ar]) sz) := by
  refine kOpen (y := yX3_plainCutOf) (ws := wsX3_plainCutOf) (cc := cX3_plainCutOf) (maxL := 3) (ret := (some .int)) (av := [.ref (a 0), .int (nI f)]) (Bs := [sO a C, sA cy a Ar]) (Qc := fun A => (va_Qi (fun r_ (u_ : Unit) => r_ = kcut C.2.2.2.2.1 Ar.2.1 C.2.2.2.1 f) (fun (u_ : Unit) t9 => kEnd D (kT cy) A [sO a C, sA cy a Ar] t9) A)) (by decide) rfl (Nat.le_of_ble_eq_true rfl) ?_
  intro p e s m args below meth c A Q ls hQ hx hb hml hr hlocks hin hts hown hN hK hP hD hS hA hsz hAe hl
  clear hAe
  have hl : lv_has ls 3 [(0, .ref (a 0)), (1, .int (nI f))] := hl
  suffices K9 : ∀ (H : Heap) (locs : List Loc), va_P D vwCl (bkF [sO a C, sA cy a Ar]) H → va_S A s.heap H locs → W p l e (headSpec wsX3_plainCutOf rm_X3_plainCutOf).room s m args below meth c H locs 0 0 Q (F0 m 0 ls []) from K9 _ _ hP hS
  clear hP hS
  intro H locs hP hS
  refine lv_aload_n hx hb dX3_plainCutOf_0 rfl (lv_at hl 0 rfl) ?_
  refine kc_i (Cs := [sO a C, sA cy a Ar]) (Rs := []) (Bs := [sO a C, sA cy a Ar]) (Cs' := fun u_ : Unit => [sO a C, sA cy a Ar]) (Fs := fun u_ : Unit => [sO a C, sA cy a Ar]) hP hD hS hA [0, 1] [] [0, 1] rfl rfl (by decide) (by decide) (fun _ => rfl) (va_runV (As := []) (rest := []) ⟨hx, hb, hml, hown, hts⟩ (c_X3_partsSum l D cy a C Ar (by first | assumption | omega | decide) H.size) (cwV 0 hts gX3_plainCutOf_X3_partsSum rfl rfl rfl (by decide +kernel) ⟨Nat.le_of_ble_eq_true rfl, Nat.le_of_ble_eq_true rfl⟩) (kPre_V (ci := 3) hK hN hP hD [0, 1] (by decide) rfl 0 rfl rfl) rfl rfl hl.1 rfl (lv_room (Nat.le_of_ble_eq_true rfl)) dX3_plainCutOf_1 ⟨Nat.le_of_ble_eq_true rfl, Nat.le_of_ble_eq_true rfl⟩) (fun r_ u_ H locs hw hP hD hS => ?_)
  have hw : r_ = ksum Ar.2.1 C.2.2.2.1 := hw
  subst hw
  refine lv_istore_n (lv' := [(2, .int (ksum Ar.2.1 C.2.2.2.1)), (0, .ref (a 0)), (1, .int (nI f))]) hx hb dX3_plainCutOf_4 rfl hl (by decide) rfl (fun ls hl => ?_)
  refine lv_iload_n hx hb dX3_plainCutOf_5 rfl (lv_at hl 0 rfl) ?_
  refine lv_if_le (tgt := 25) hx hb dX3_plainCutOf_6 (by decide) (fun c_6 => False.elim ?_) (fun c_6 => ?_)
  · skip
    exact hps c_6
  · skip
    refine lv_aload_n hx hb dX3_plainCutOf_9 rfl (lv_at hl 1 rfl) ?_
    refine va_get (D := D) (ci := 3) (v := .int C.2.2.2.2.1) (C := RX3) (T := TX3) (N := 14) hx hb hts (by decide +kernel) hown hK hP 0 rfl rfl 9 (by decide) (hts (.fieldLink RX3 89 "DanceHall$State" "bag" "I") (by decide +kernel)) (fun _ h9 => h9) rfl dX3_plainCutOf_10 ?_
    refine lv_aload_n hx hb dX3_plainCutOf_13 rfl (lv_at hl 1 rfl) ?_
    refine va_get (D := D) (ci := 3) (v := .ref (a 14)) (C := RX3) (T := TX3) (N := 14) hx hb hts (by decide +kernel) hown hK hP 0 rfl rfl 7 (by decide) (hts (.fieldLink RX3 35 "DanceHall$State" "parts" "[I") (by decide +kernel)) (fun _ h9 => h9) rfl dX3_plainCutOf_14 ?_
    refine lv_iload_n hx hb dX3_plainCutOf_17 rfl (lv_at hl 2 rfl) ?_
    refine va_iald hx hb hK hP 2 0 rfl rfl (vp_in_nI (n := f) (N := 4) (by omega) (by omega)) dX3_plainCutOf_18 ?_
    refine kv_i (y := Ar.2.1 f) (congrArg Ar.2.1 (nI_clamp (n := f) (by omega))) ?_
    refine lv_imul hx hb dX3_plainCutOf_19 ?_
    refine lv_iload_n hx hb dX3_plainCutOf_20 rfl (lv_at hl 0 rfl) ?_
    refine lv_idiv hx hb dX3_plainCutOf_21 (fun h => hps (by rw [h]; decide)) ?_
    refine lv_goto (tgt := 26) hx hb dX3_plainCutOf_22 (by decide) ?_
    exact kr_i (post := fun r_ (u_ : Unit) => r_ = kcut C.2.2.2.2.1 Ar.2.1 C.2.2.2.1 f) (Bs := fun u_ : Unit => [sO a C, sA cy a Ar]) hx hb hr hlocks rfl () hP hK hD hS rfl dX3_plainCutOf_26 hQ
abbrev rm_X3_cutOf : Room := { frames := 2, cells := 0, slots := 0, locals := 44 }
set_option maxHeartbeats 1000000 in
set_option maxRecDepth 100000 in
/-- cutOf -/
theorem c_X3_cutOf (l : Launch) (D : va_G) (cy : Nat → ClassId) (a : Nat → Nat) (C : rC) (Ar : rA) (f : Nat) (hfn : C.2.2.2.1 ≤ 4) (hf1 : 1 ≤ C.2.2.2.1) (hf : f < 4) (hps : ¬ ksum Ar.2.1 C.2.2.2.1 ≤ 0) (sz : Nat) : Met l yX3_cutOf wsX3_cutOf rm_X3_cutOf (va_Pc [.ref (a 0), .int (nI f)] (kPre D (kT cy) [sO a C, sA cy a Ar] sz)) (va_Qi (fun r_ (u_ : Unit) => r_ = kcutA C.2.2.2.2.1 Ar.2.1 C.2.2.2.1 f) (kFr D (kT cy) [sO a C, sA cy a Ar] sz (fun u_ : Unit => [sO a C, sA cy a Ar])) (va_A (bkF [sO a C, sA cy a Ar]) sz)) 0 0 (va_A (bkF [sO a C, sA cy a Ar]) sz) := by
  refine kOpen (y := yX3_cutOf) (ws := wsX3_cutOf) (cc := cX3_cutOf) (maxL := 4) (ret := (some .int)) (av := [.ref (a 0), .int (nI f)]) (Bs := [sO a C, sA cy a Ar]) (Qc := fun A => (va_Qi (fun r_ (u_ : Unit) => r_ = kcutA C.2.2.2.2.1 Ar.2.1 C.2.2.2.1 f) (fun (u_ : Unit) t9 => kEnd D (kT cy) A [sO a C, sA cy a Ar] t9) A)) (by decide) rfl (Nat.le_of_ble_eq_true rfl) ?_
  intro p e s m args below meth c A Q ls hQ hx hb hml hr hlocks hin hts hown hN hK hP hD hS hA hsz hAe hl
  clear hAe
  have hl : lv_has ls 4 [(0, .ref (a 0)), (1, .int (nI f))] := hl
  suffices K9 : ∀ (H : Heap) (locs : List Loc), va_P D vwCl (bkF [sO a C, sA cy a Ar]) H → va_S A s.heap H locs → W p l e (headSpec wsX3_cutOf rm_X3_cutOf).room s m args below meth c H locs 0 0 Q (F0 m 0 ls []) from K9 _ _ hP hS
  clear hP hS
  intro H locs hP hS
  refine lv_iload_n hx hb dX3_cutOf_0 rfl (lv_at hl 1 rfl) ?_
  refine lv_if_eq (tgt := 10) hx hb dX3_cutOf_1 (by decide) (fun c_1 => ?_) (fun c_1 => ?_)
  · skip
    have c_1 : f = 0 := (nI_eq (a := f) (b := 0) (by omega) (by omega)).mp c_1
    refine lv_aload_n hx hb dX3_cutOf_10 rfl (lv_at hl 0 rfl) ?_
    refine va_get (D := D) (ci := 3) (v := .int C.2.2.2.2.1) (C := RX3) (T := TX3) (N := 14) hx hb hts (by decide +kernel) hown hK hP 0 rfl rfl 9 (by decide) (hts (.fieldLink RX3 89 "DanceHall$State" "bag" "I") (by decide +kernel)) (fun _ h9 => h9) rfl dX3_cutOf_11 ?_
    refine lv_istore_n (lv' := [(2, .int C.2.2.2.2.1), (0, .ref (a 0)), (1, .int (nI f))]) hx hb dX3_cutOf_14 rfl hl (by decide) rfl (fun ls hl => ?_)
    refine lv_iconst (v := nI 1) hx hb dX3_cutOf_15 (by decide) ?_
    refine lv_istore_n (lv' := [(3, .int (nI 1)), (2, .int C.2.2.2.2.1), (0, .ref (a 0)), (1, .int (nI f))]) hx hb dX3_cutOf_16 rfl hl (by decide) rfl (fun ls hl => ?_)
    have L_17 : ∀ (n9 : Nat) (q : Nat), C.2.2.2.1 - q = n9 → (q + 1 ≤ C.2.2.2.1) → ∀ (ls : Array Slot) (H : Heap) (locs : List Loc), va_P D vwCl (bkF [sO a C, sA cy a Ar]) H → va_D A (bkF [sO a C, sA cy a Ar]) → va_S A s.heap H locs → lv_has ls 4 [(0, .ref (a 0)), (3, .int (nI (q + 1))), (2, .int (krest (kcut C.2.2.2.2.1 Ar.2.1 C.2.2.2.1) C.2.2.2.2.1 q))] → W p l e (headSpec wsX3_cutOf rm_X3_cutOf).room s m args below meth c H locs 0 0 Q (F0 m 17 ls []) := by
      intro n9
      induction n9 using Nat.strongRecOn with
      | _ n9 ih_17 =>
      intro q hm_17 h17_0 ls H locs hP hD hS hl
      refine lv_iload_n hx hb dX3_cutOf_17 rfl (lv_at hl 1 rfl) ?_
      refine lv_aload_n hx hb dX3_cutOf_18 rfl (lv_at hl 0 rfl) ?_
      refine va_get (D := D) (ci := 3) (v := .int (nI C.2.2.2.1)) (C := RX3) (T := TX3) (N := 14) hx hb hts (by decide +kernel) hown hK hP 0 rfl rfl 6 (by decide) (hts (.fieldLink RX3 32 "DanceHall$State" "fiddlers" "I") (by decide +kernel)) (fun _ h9 => h9) rfl dX3_cutOf_19 ?_
      refine lv_icmp_ge (tgt := 39) hx hb dX3_cutOf_22 (by decide) (fun c_22 => ?_) (fun c_22 => ?_)
      · skip
        have c_22 : C.2.2.2.1 ≤ (q + 1) := (nI_leI (a := C.2.2.2.1) (b := q + 1) (by omega) (by omega)).mp c_22
        refine lv_iload_n hx hb dX3_cutOf_39 rfl (lv_at hl 2 rfl) ?_
        exact kr_i (post := fun r_ (u_ : Unit) => r_ = kcutA C.2.2.2.2.1 Ar.2.1 C.2.2.2.1 f) (Bs := fun u_ : Unit => [sO a C, sA cy a Ar]) hx hb hr hlocks rfl () hP hK hD hS (by unfold kcutA; rw [if_pos c_1, show C.2.2.2.1 - 1 = q from by omega]) dX3_cutOf_40 hQ
      · skip
        have c_22 : ¬ (C.2.2.2.1 ≤ (q + 1)) := fun h => c_22 ((nI_leI (a := C.2.2.2.1) (b := q + 1) (by omega) (by omega)).mpr h)
        refine lv_iload_n hx hb dX3_cutOf_25 rfl (lv_at hl 2 rfl) ?_
        refine lv_aload_n hx hb dX3_cutOf_26 rfl (lv_at hl 0 rfl) ?_
        refine lv_iload_n hx hb dX3_cutOf_27 rfl (lv_at hl 1 rfl) ?_
        refine kc_i (Cs := [sO a C, sA cy a Ar]) (Rs := []) (Bs := [sO a C, sA cy a Ar]) (Cs' := fun u_ : Unit => [sO a C, sA cy a Ar]) (Fs := fun u_ : Unit => [sO a C, sA cy a Ar]) hP hD hS hA [0, 1] [] [0, 1] rfl rfl (by decide) (by decide) (fun _ => rfl) (va_runV (As := [.int (nI (q + 1))]) (rest := [.int (krest (kcut C.2.2.2.2.1 Ar.2.1 C.2.2.2.1) C.2.2.2.2.1 q)]) ⟨hx, hb, hml, hown, hts⟩ (c_X3_plainCutOf l D cy a C Ar (q + 1) (by first | assumption | omega | decide) (by first | assumption | omega | decide) hps H.size) (cwV 1 hts gX3_cutOf_X3_plainCutOf rfl rfl rfl (by decide +kernel) ⟨Nat.le_of_ble_eq_true rfl, Nat.le_of_ble_eq_true rfl⟩) (kPre_V (ci := 3) hK hN hP hD [0, 1] (by decide) rfl 0 rfl rfl) rfl rfl hl.1 rfl (lv_room (Nat.le_of_ble_eq_true rfl)) dX3_cutOf_28 ⟨Nat.le_of_ble_eq_true rfl, Nat.le_of_ble_eq_true rfl⟩) (fun r_ u_ H locs hw hP hD hS => ?_)
        have hw : r_ = kcut C.2.2.2.2.1 Ar.2.1 C.2.2.2.1 (q + 1) := hw
        subst hw
        refine lv_isub hx hb dX3_cutOf_31 ?_
        refine kv_i (y := krest (kcut C.2.2.2.2.1 Ar.2.1 C.2.2.2.1) C.2.2.2.2.1 (q + 1)) rfl ?_
        refine lv_istore_n (lv' := [(2, .int (krest (kcut C.2.2.2.2.1 Ar.2.1 C.2.2.2.1) C.2.2.2.2.1 (q + 1))), (0, .ref (a 0)), (3, .int (nI (q + 1)))]) hx hb dX3_cutOf_32 rfl hl (by decide) rfl (fun ls hl => ?_)
        refine lv_iinc (v := nI ((q + 1) + 1)) (lv' := [(3, .int (nI ((q + 1) + 1))), (2, .int (krest (kcut C.2.2.2.2.1 Ar.2.1 C.2.2.2.1) C.2.2.2.2.1 (q + 1))), (0, .ref (a 0))]) hx hb dX3_cutOf_33 hl (k := 2) rfl (nI_add (q + 1) 1) (by decide) rfl (fun ls hl => ?_)
        refine lv_goto (tgt := 17) hx hb dX3_cutOf_36 (by decide) ?_
        exact ih_17 _ (by omega) (q + 1) rfl (by omega) ls H locs hP hD hS (lv_sub hl [2, 0, 1] rfl)
    exact L_17 _ 0  rfl (by omega) ls H locs hP hD hS (lv_sub hl [2, 0, 1] rfl)
  · skip
    have c_1 : ¬ (f = 0) := fun h => c_1 ((nI_eq (a := f) (b := 0) (by omega) (by omega)).mpr h)
    refine lv_aload_n hx hb dX3_cutOf_4 rfl (lv_at hl 0 rfl) ?_
    refine lv_iload_n hx hb dX3_cutOf_5 rfl (lv_at hl 1 rfl) ?_
    refine kc_i (Cs := [sO a C, sA cy a Ar]) (Rs := []) (Bs := [sO a C, sA cy a Ar]) (Cs' := fun u_ : Unit => [sO a C, sA cy a Ar]) (Fs := fun u_ : Unit => [sO a C, sA cy a Ar]) hP hD hS hA [0, 1] [] [0, 1] rfl rfl (by decide) (by decide) (fun _ => rfl) (va_runV (As := [.int (nI f)]) (rest := []) ⟨hx, hb, hml, hown, hts⟩ (c_X3_plainCutOf l D cy a C Ar f (by first | assumption | omega | decide) (by first | assumption | omega | decide) hps H.size) (cwV 1 hts gX3_cutOf_X3_plainCutOf rfl rfl rfl (by decide +kernel) ⟨Nat.le_of_ble_eq_true rfl, Nat.le_of_ble_eq_true rfl⟩) (kPre_V (ci := 3) hK hN hP hD [0, 1] (by decide) rfl 0 rfl rfl) rfl rfl hl.1 rfl (lv_room (Nat.le_of_ble_eq_true rfl)) dX3_cutOf_6 ⟨Nat.le_of_ble_eq_true rfl, Nat.le_of_ble_eq_true rfl⟩) (fun r_ u_ H locs hw hP hD hS => ?_)
    have hw : r_ = kcut C.2.2.2.2.1 Ar.2.1 C.2.2.2.1 f := hw
    subst hw
    exact kr_i (post := fun r_ (u_ : Unit) => r_ = kcutA C.2.2.2.2.1 Ar.2.1 C.2.2.2.1 f) (Bs := fun u_ : Unit => [sO a C, sA cy a Ar]) hx hb hr hlocks rfl () hP hK hD hS (if_neg c_1).symm dX3_cutOf_9 hQ
abbrev rm_X3_dancesOfLeader : Room := { frames := 1, cells := 0, slots := 0, locals := 20 }
set_option maxHeartbeats 1000000 in
set_option maxRecDepth 100000 in
/-- dancesOfLeader -/
theorem c_X3_dancesOfLeader (l : Launch) (D : va_G) (cy : Nat → ClassId) (a : Nat → Nat) (C : rC) (Ar : rA) (d : Nat → Nat → Int32) (l9 : Nat) (hl9 : l9 < 8) (sz : Nat) : Met l yX3_dancesOfLeader wsX3_dancesOfLeader rm_X3_dancesOfLeader (va_Pc [.ref (a 0), .int (nI l9)] (kPre D (kT cy) [sO a C, sA cy a Ar, rW cy a d] sz)) (va_Qi (fun r_ (u_ : Unit) => r_ = nI (kcnt (d l9) 8)) (kFr D (kT cy) [sO a C, sA cy a Ar, rW cy a d] sz (fun u_ : Unit => [sO a C, sA cy a Ar, rW cy a d])) (va_A (bkF [sO a C, sA cy a Ar, rW cy a d]) sz)) 0 0 (va_A (bkF [sO a C, sA cy a Ar, rW cy a d]) sz) := by
  refine kOpen (y := yX3_dancesOfLeader) (ws := wsX3_dancesOfLeader) (cc := cX3_dancesOfLeader) (maxL := 4) (ret := (some .int)) (av := [.ref (a 0), .int (nI l9)]) (Bs := [sO a C, sA cy a Ar, rW cy a d]) (Qc := fun A => (va_Qi (fun r_ (u_ : Unit) => r_ = nI (kcnt (d l9) 8)) (fun (u_ : Unit) t9 => kEnd D (kT cy) A [sO a C, sA cy a Ar, rW cy a d] t9) A)) (by decide) rfl (Nat.le_of_ble_eq_true rfl) ?_
  intro p e s m args below meth c A Q ls hQ hx hb hml hr hlocks hin hts hown hN hK hP hD hS hA hsz hAe hl
  clear hAe
  have hl : lv_has ls 4 [(0, .ref (a 0)), (1, .int (nI l9))] := hl
  suffices K9 : ∀ (H : Heap) (locs : List Loc), va_P D vwCl (bkF [sO a C, sA cy a Ar, rW cy a d]) H → va_S A s.heap H locs → W p l e (headSpec wsX3_dancesOfLeader rm_X3_dancesOfLeader).room s m args below meth c H locs 0 0 Q (F0 m 0 ls []) from K9 _ _ hP hS
  clear hP hS
  intro H locs hP hS
  refine lv_iconst (v := nI 0) hx hb dX3_dancesOfLeader_0 (by decide) ?_
  refine lv_istore_n (lv' := [(2, .int (nI 0)), (0, .ref (a 0)), (1, .int (nI l9))]) hx hb dX3_dancesOfLeader_1 rfl hl (by decide) rfl (fun ls hl => ?_)
  refine lv_iconst (v := nI 0) hx hb dX3_dancesOfLeader_2 (by decide) ?_
  refine lv_istore_n (lv' := [(3, .int (nI 0)), (2, .int (nI 0)), (0, .ref (a 0)), (1, .int (nI l9))]) hx hb dX3_dancesOfLeader_3 rfl hl (by decide) rfl (fun ls hl => ?_)
  have L_4 : ∀ (n9 : Nat) (i : Nat), 8 - i = n9 → (i ≤ 8) → ∀ (ls : Array Slot) (H : Heap) (locs : List Loc), va_P D vwCl (bkF [sO a C, sA cy a Ar, rW cy a d]) H → va_D A (bkF [sO a C, sA cy a Ar, rW cy a d]) → va_S A s.heap H locs → lv_has ls 4 [(0, .ref (a 0)), (1, .int (nI l9)), (3, .int (nI i)), (2, .int (nI (kcnt (d l9) i)))] → W p l e (headSpec wsX3_dancesOfLeader rm_X3_dancesOfLeader).room s m args below meth c H locs 0 0 Q (F0 m 4 ls []) := by
    intro n9
    induction n9 using Nat.strongRecOn with
    | _ n9 ih_4 =>
    intro i hm_4 h4_0 ls H locs hP hD hS hl
    refine lv_iload_n hx hb dX3_dancesOfLeader_4 rfl (lv_at hl 2 rfl) ?_
    refine lv_bipush (v := nI 8) hx hb dX3_dancesOfLeader_5 (by decide) ?_
    refine lv_icmp_ge (tgt := 39) hx hb dX3_dancesOfLeader_7 (by decide) (fun c_7 => ?_) (fun c_7 => ?_)
    · skip
      have c_7 : 8 ≤ i := (nI_leI (a := 8) (b := i) (by omega) (by omega)).mp c_7
      refine lv_iload_n hx hb dX3_dancesOfLeader_39 rfl (lv_at hl 3 rfl) ?_
      exact kr_i (post := fun r_ (u_ : Unit) => r_ = nI (kcnt (d l9) 8)) (Bs := fun u_ : Unit => [sO a C, sA cy a Ar, rW cy a d]) hx hb hr hlocks rfl () hP hK hD hS (by rw [show i = 8 from by omega]) dX3_dancesOfLeader_40 hQ
    · skip
      have c_7 : ¬ (8 ≤ i) := fun h => c_7 ((nI_leI (a := 8) (b := i) (by omega) (by omega)).mpr h)
      refine lv_iload_n hx hb dX3_dancesOfLeader_10 rfl (lv_at hl 3 rfl) ?_
      refine lv_aload_n hx hb dX3_dancesOfLeader_11 rfl (lv_at hl 0 rfl) ?_
      refine va_get (D := D) (ci := 3) (v := .ref (a 16)) (C := RX3) (T := TX3) (N := 14) hx hb hts (by decide +kernel) hown hK hP 0 rfl rfl 13 (by decide) (hts (.fieldLink RX3 43 "DanceHall$State" "danceOf" "[[I") (by decide +kernel)) (fun _ h9 => h9) rfl dX3_dancesOfLeader_12 ?_
      refine lv_iload_n hx hb dX3_dancesOfLeader_15 rfl (lv_at hl 1 rfl) ?_
      refine va_aldA hx hb hK hP 4 4 rfl rfl (vp_in_nI (n := l9) (N := 8) (by omega) (by omega)) dX3_dancesOfLeader_16 ?_
      refine kv_w (y := .ref (a (17 + l9))) (by rw [nI_clamp (n := l9) (by omega)]; rfl) ?_
      refine lv_iload_n hx hb dX3_dancesOfLeader_17 rfl (lv_at hl 2 rfl) ?_
      have hq9 : (bkF [sO a C, sA cy a Ar, rW cy a d])[5 + l9]? = some (a (17 + l9), .inl (cy 0, 8, .inl (d l9))) := by rcases k8 (show l9 < 8 by omega) with h9 | h9 | h9 | h9 | h9 | h9 | h9 | h9 <;> rw [h9] <;> rfl
      refine va_iald hx hb hK hP (5 + l9) 0 hq9 rfl (vp_in_nI (n := i) (N := 8) (by omega) (by omega)) dX3_dancesOfLeader_18 ?_
      refine kv_i (y := d l9 i) (congrArg (d l9) (nI_clamp (n := i) (by omega))) ?_
      refine lv_iconst (v := (-1 : Int32)) hx hb dX3_dancesOfLeader_19 (by decide) ?_
      refine lv_icmp_eq (tgt := 27) hx hb dX3_dancesOfLeader_20 (by decide) (fun c_20 => ?_) (fun c_20 => ?_)
      · skip
        refine lv_iconst (v := nI 0) hx hb dX3_dancesOfLeader_27 (by decide) ?_
        refine kc_i (Cs := []) (Rs := [sO a C, sA cy a Ar, rW cy a d]) (Bs := [sO a C, sA cy a Ar, rW cy a d]) (Cs' := fun u_ : Unit => []) (Fs := fun u_ : Unit => [sO a C, sA cy a Ar, rW cy a d]) hP hD hS hA [] [0, 1, 2] [0, 1, 2] rfl rfl (by decide) (by decide) (fun _ => rfl) (va_runSN (As := [.int (nI 0)]) (rest := [.int (nI (kcnt (d l9) i))]) ⟨hx, hb, hml, hown, hts⟩ (c_X4_oneIf_n l D cy 0 (by first | assumption | omega | decide) H.size) ⟨va_cnB 1 hts gX3_dancesOfLeader_X4_oneIf_n121 rfl rfl rfl hN.2.2.2.2.1 (hts (.initialized RX4) (by decide +kernel)) (by decide +kernel) ⟨Nat.le_of_ble_eq_true rfl, Nat.le_of_ble_eq_true rfl⟩, hts (.static yX4_oneIf) (by decide +kernel), trivial⟩ (kPre_S hK hN hP hD [] (by decide) rfl) rfl rfl hl.1 rfl (lv_room (Nat.le_of_ble_eq_true rfl)) dX3_dancesOfLeader_28 ⟨Nat.le_of_ble_eq_true rfl, Nat.le_of_ble_eq_true rfl⟩) (fun r_ u_ H locs hw hP hD hS => ?_)
        have hw : r_ = nI 0 := hw
        subst hw
        refine lv_iadd hx hb dX3_dancesOfLeader_31 ?_
        refine kv_i (y := nI (kcnt (d l9) (i + 1))) (by rw [nI_add, kcnt_e (p := d l9) c_20]) ?_
        refine lv_istore_n (lv' := [(2, .int (nI (kcnt (d l9) (i + 1)))), (0, .ref (a 0)), (1, .int (nI l9)), (3, .int (nI i))]) hx hb dX3_dancesOfLeader_32 rfl hl (by decide) rfl (fun ls hl => ?_)
        refine lv_iinc (v := nI (i + 1)) (lv' := [(3, .int (nI (i + 1))), (2, .int (nI (kcnt (d l9) (i + 1)))), (0, .ref (a 0)), (1, .int (nI l9))]) hx hb dX3_dancesOfLeader_33 hl (k := 3) rfl (nI_add i 1) (by decide) rfl (fun ls hl => ?_)
        refine lv_goto (tgt := 4) hx hb dX3_dancesOfLeader_36 (by decide) ?_
        exact ih_4 _ (by omega) (i + 1) rfl (by omega) ls H locs hP hD hS (lv_sub hl [2, 3, 0, 1] rfl)
      · skip
        refine lv_iconst (v := nI 1) hx hb dX3_dancesOfLeader_23 (by decide) ?_
        refine lv_goto (tgt := 28) hx hb dX3_dancesOfLeader_24 (by decide) ?_
        refine kc_i (Cs := []) (Rs := [sO a C, sA cy a Ar, rW cy a d]) (Bs := [sO a C, sA cy a Ar, rW cy a d]) (Cs' := fun u_ : Unit => []) (Fs := fun u_ : Unit => [sO a C, sA cy a Ar, rW cy a d]) hP hD hS hA [] [0, 1, 2] [0, 1, 2] rfl rfl (by decide) (by decide) (fun _ => rfl) (va_runSN (As := [.int (nI 1)]) (rest := [.int (nI (kcnt (d l9) i))]) ⟨hx, hb, hml, hown, hts⟩ (c_X4_oneIf_n l D cy 1 (by first | assumption | omega | decide) H.size) ⟨va_cnB 1 hts gX3_dancesOfLeader_X4_oneIf_n121 rfl rfl rfl hN.2.2.2.2.1 (hts (.initialized RX4) (by decide +kernel)) (by decide +kernel) ⟨Nat.le_of_ble_eq_true rfl, Nat.le_of_ble_eq_true rfl⟩, hts (.static yX4_oneIf) (by decide +kernel), trivial⟩ (kPre_S hK hN hP hD [] (by decide) rfl) rfl rfl hl.1 rfl (lv_room (Nat.le_of_ble_eq_true rfl)) dX3_dancesOfLeader_28 ⟨Nat.le_of_ble_eq_true rfl, Nat.le_of_ble_eq_true rfl⟩) (fun r_ u_ H locs hw hP hD hS => ?_)
        have hw : r_ = nI 1 := hw
        subst hw
        refine lv_iadd hx hb dX3_dancesOfLeader_31 ?_
        refine kv_i (y := nI (kcnt (d l9) (i + 1))) (by rw [nI_add, kcnt_n (p := d l9) c_20]) ?_
        refine lv_istore_n (lv' := [(2, .int (nI (kcnt (d l9) (i + 1)))), (0, .ref (a 0)), (1, .int (nI l9)), (3, .int (nI i))]) hx hb dX3_dancesOfLeader_32 rfl hl (by decide) rfl (fun ls hl => ?_)
        refine lv_iinc (v := nI (i + 1)) (lv' := [(3, .int (nI (i + 1))), (2, .int (nI (kcnt (d l9) (i + 1)))), (0, .ref (a 0)), (1, .int (nI l9))]) hx hb dX3_dancesOfLeader_33 hl (k := 3) rfl (nI_add i 1) (by decide) rfl (fun ls hl => ?_)
        refine lv_goto (tgt := 4) hx hb dX3_dancesOfLeader_36 (by decide) ?_
        exact ih_4 _ (by omega) (i + 1) rfl (by omega) ls H locs hP hD hS (lv_sub hl [2, 3, 0, 1] rfl)
  exact L_4 _ 0  rfl (by omega) ls H locs hP hD hS (lv_sub hl [2, 3, 0, 1] rfl)
abbrev rm_X3_dancesOfFollower : Room := { frames := 1, cells := 0, slots := 0, locals := 20 }
set_option maxHeartbeats 1000000 in
set_option maxRecDepth 100000 in
/-- dancesOfFollower -/
theorem c_X3_dancesOfFollower (l : Launch) (D : va_G) (cy : Nat → ClassId) (a : Nat → Nat) (C : rC) (Ar : rA) (d : Nat → Nat → Int32) (l9 : Nat) (hl9 : l9 < 8) (sz : Nat) : Met l yX3_dancesOfFollower wsX3_dancesOfFollower rm_X3_dancesOfFollower (va_Pc [.ref (a 0), .int (nI l9)] (kPre D (kT cy) [sO a C, sA cy a Ar, rW cy a d] sz)) (va_Qi (fun r_ (u_ : Unit) => r_ = nI (kcnt (fun q => d q l9) 8)) (kFr D (kT cy) [sO a C, sA cy a Ar, rW cy a d] sz (fun u_ : Unit => [sO a C, sA cy a Ar, rW cy a d])) (va_A (bkF [sO a C, sA cy a Ar, rW cy a d]) sz)) 0 0 (va_A (bkF [sO a C, sA cy a Ar, rW cy a d]) sz) := by
  refine kOpen (y := yX3_dancesOfFollower) (ws := wsX3_dancesOfFollower) (cc := cX3_dancesOfFollower) (maxL := 4) (ret := (some .int)) (av := [.ref (a 0), .int (nI l9)]) (Bs := [sO a C, sA cy a Ar, rW cy a d]) (Qc := fun A => (va_Qi (fun r_ (u_ : Unit) => r_ = nI (kcnt (fun q => d q l9) 8)) (fun (u_ : Unit) t9 => kEnd D (kT cy) A [sO a C, sA cy a Ar, rW cy a d] t9) A)) (by decide) rfl (Nat.le_of_ble_eq_true rfl) ?_
  intro p e s m args below meth c A Q ls hQ hx hb hml hr hlocks hin hts hown hN hK hP hD hS hA hsz hAe hl
  clear hAe
  have hl : lv_has ls 4 [(0, .ref (a 0)), (1, .int (nI l9))] := hl
  suffices K9 : ∀ (H : Heap) (locs : List Loc), va_P D vwCl (bkF [sO a C, sA cy a Ar, rW cy a d]) H → va_S A s.heap H locs → W p l e (headSpec wsX3_dancesOfFollower rm_X3_dancesOfFollower).room s m args below meth c H locs 0 0 Q (F0 m 0 ls []) from K9 _ _ hP hS
  clear hP hS
  intro H locs hP hS
  refine lv_iconst (v := nI 0) hx hb dX3_dancesOfFollower_0 (by decide) ?_
  refine lv_istore_n (lv' := [(2, .int (nI 0)), (0, .ref (a 0)), (1, .int (nI l9))]) hx hb dX3_dancesOfFollower_1 rfl hl (by decide) rfl (fun ls hl => ?_)
  refine lv_iconst (v := nI 0) hx hb dX3_dancesOfFollower_2 (by decide) ?_
  refine lv_istore_n (lv' := [(3, .int (nI 0)), (2, .int (nI 0)), (0, .ref (a 0)), (1, .int (nI l9))]) hx hb dX3_dancesOfFollower_3 rfl hl (by decide) rfl (fun ls hl => ?_)
  have L_4 : ∀ (n9 : Nat) (i : Nat), 8 - i = n9 → (i ≤ 8) → ∀ (ls : Array Slot) (H : Heap) (locs : List Loc), va_P D vwCl (bkF [sO a C, sA cy a Ar, rW cy a d]) H → va_D A (bkF [sO a C, sA cy a Ar, rW cy a d]) → va_S A s.heap H locs → lv_has ls 4 [(0, .ref (a 0)), (1, .int (nI l9)), (3, .int (nI i)), (2, .int (nI (kcnt (fun q => d q l9) i)))] → W p l e (headSpec wsX3_dancesOfFollower rm_X3_dancesOfFollower).room s m args below meth c H locs 0 0 Q (F0 m 4 ls []) := by
    intro n9
    induction n9 using Nat.strongRecOn with
    | _ n9 ih_4 =>
    intro i hm_4 h4_0 ls H locs hP hD hS hl
    refine lv_iload_n hx hb dX3_dancesOfFollower_4 rfl (lv_at hl 2 rfl) ?_
    refine lv_bipush (v := nI 8) hx hb dX3_dancesOfFollower_5 (by decide) ?_
    refine lv_icmp_ge (tgt := 39) hx hb dX3_dancesOfFollower_7 (by decide) (fun c_7 => ?_) (fun c_7 => ?_)
    · skip
      have c_7 : 8 ≤ i := (nI_leI (a := 8) (b := i) (by omega) (by omega)).mp c_7
      refine lv_iload_n hx hb dX3_dancesOfFollower_39 rfl (lv_at hl 3 rfl) ?_
      exact kr_i (post := fun r_ (u_ : Unit) => r_ = nI (kcnt (fun q => d q l9) 8)) (Bs := fun u_ : Unit => [sO a C, sA cy a Ar, rW cy a d]) hx hb hr hlocks rfl () hP hK hD hS (by rw [show i = 8 from by omega]) dX3_dancesOfFollower_40 hQ
    · skip
      have c_7 : ¬ (8 ≤ i) := fun h => c_7 ((nI_leI (a := 8) (b := i) (by omega) (by omega)).mpr h)
      refine lv_iload_n hx hb dX3_dancesOfFollower_10 rfl (lv_at hl 3 rfl) ?_
      refine lv_aload_n hx hb dX3_dancesOfFollower_11 rfl (lv_at hl 0 rfl) ?_
      refine va_get (D := D) (ci := 3) (v := .ref (a 16)) (C := RX3) (T := TX3) (N := 14) hx hb hts (by decide +kernel) hown hK hP 0 rfl rfl 13 (by decide) (hts (.fieldLink RX3 43 "DanceHall$State" "danceOf" "[[I") (by decide +kernel)) (fun _ h9 => h9) rfl dX3_dancesOfFollower_12 ?_
      refine lv_iload_n hx hb dX3_dancesOfFollower_15 rfl (lv_at hl 2 rfl) ?_
      refine va_aldA hx hb hK hP 4 4 rfl rfl (vp_in_nI (n := i) (N := 8) (by omega) (by omega)) dX3_dancesOfFollower_16 ?_
      refine kv_w (y := .ref (a (17 + i))) (by rw [nI_clamp (n := i) (by omega)]; rfl) ?_
      refine lv_iload_n hx hb dX3_dancesOfFollower_17 rfl (lv_at hl 1 rfl) ?_
      have hq9 : (bkF [sO a C, sA cy a Ar, rW cy a d])[5 + i]? = some (a (17 + i), .inl (cy 0, 8, .inl (d i))) := by rcases k8 (show i < 8 by omega) with h9 | h9 | h9 | h9 | h9 | h9 | h9 | h9 <;> rw [h9] <;> rfl
      refine va_iald hx hb hK hP (5 + i) 0 hq9 rfl (vp_in_nI (n := l9) (N := 8) (by omega) (by omega)) dX3_dancesOfFollower_18 ?_
      refine kv_i (y := d i l9) (congrArg (d i) (nI_clamp (n := l9) (by omega))) ?_
      refine lv_iconst (v := (-1 : Int32)) hx hb dX3_dancesOfFollower_19 (by decide) ?_
      refine lv_icmp_eq (tgt := 27) hx hb dX3_dancesOfFollower_20 (by decide) (fun c_20 => ?_) (fun c_20 => ?_)
      · skip
        refine lv_iconst (v := nI 0) hx hb dX3_dancesOfFollower_27 (by decide) ?_
        refine kc_i (Cs := []) (Rs := [sO a C, sA cy a Ar, rW cy a d]) (Bs := [sO a C, sA cy a Ar, rW cy a d]) (Cs' := fun u_ : Unit => []) (Fs := fun u_ : Unit => [sO a C, sA cy a Ar, rW cy a d]) hP hD hS hA [] [0, 1, 2] [0, 1, 2] rfl rfl (by decide) (by decide) (fun _ => rfl) (va_runSN (As := [.int (nI 0)]) (rest := [.int (nI (kcnt (fun q => d q l9) i))]) ⟨hx, hb, hml, hown, hts⟩ (c_X4_oneIf_n l D cy 0 (by first | assumption | omega | decide) H.size) ⟨va_cnB 1 hts gX3_dancesOfFollower_X4_oneIf_n121 rfl rfl rfl hN.2.2.2.2.1 (hts (.initialized RX4) (by decide +kernel)) (by decide +kernel) ⟨Nat.le_of_ble_eq_true rfl, Nat.le_of_ble_eq_true rfl⟩, hts (.static yX4_oneIf) (by decide +kernel), trivial⟩ (kPre_S hK hN hP hD [] (by decide) rfl) rfl rfl hl.1 rfl (lv_room (Nat.le_of_ble_eq_true rfl)) dX3_dancesOfFollower_28 ⟨Nat.le_of_ble_eq_true rfl, Nat.le_of_ble_eq_true rfl⟩) (fun r_ u_ H locs hw hP hD hS => ?_)
        have hw : r_ = nI 0 := hw
        subst hw
        refine lv_iadd hx hb dX3_dancesOfFollower_31 ?_
        refine kv_i (y := nI (kcnt (fun q => d q l9) (i + 1))) (by rw [nI_add, kcnt_e (p := fun q => d q l9) c_20]) ?_
        refine lv_istore_n (lv' := [(2, .int (nI (kcnt (fun q => d q l9) (i + 1)))), (0, .ref (a 0)), (1, .int (nI l9)), (3, .int (nI i))]) hx hb dX3_dancesOfFollower_32 rfl hl (by decide) rfl (fun ls hl => ?_)
        refine lv_iinc (v := nI (i + 1)) (lv' := [(3, .int (nI (i + 1))), (2, .int (nI (kcnt (fun q => d q l9) (i + 1)))), (0, .ref (a 0)), (1, .int (nI l9))]) hx hb dX3_dancesOfFollower_33 hl (k := 3) rfl (nI_add i 1) (by decide) rfl (fun ls hl => ?_)
        refine lv_goto (tgt := 4) hx hb dX3_dancesOfFollower_36 (by decide) ?_
        exact ih_4 _ (by omega) (i + 1) rfl (by omega) ls H locs hP hD hS (lv_sub hl [2, 3, 0, 1] rfl)
      · skip
        refine lv_iconst (v := nI 1) hx hb dX3_dancesOfFollower_23 (by decide) ?_
        refine lv_goto (tgt := 28) hx hb dX3_dancesOfFollower_24 (by decide) ?_
        refine kc_i (Cs := []) (Rs := [sO a C, sA cy a Ar, rW cy a d]) (Bs := [sO a C, sA cy a Ar, rW cy a d]) (Cs' := fun u_ : Unit => []) (Fs := fun u_ : Unit => [sO a C, sA cy a Ar, rW cy a d]) hP hD hS hA [] [0, 1, 2] [0, 1, 2] rfl rfl (by decide) (by decide) (fun _ => rfl) (va_runSN (As := [.int (nI 1)]) (rest := [.int (nI (kcnt (fun q => d q l9) i))]) ⟨hx, hb, hml, hown, hts⟩ (c_X4_oneIf_n l D cy 1 (by first | assumption | omega | decide) H.size) ⟨va_cnB 1 hts gX3_dancesOfFollower_X4_oneIf_n121 rfl rfl rfl hN.2.2.2.2.1 (hts (.initialized RX4) (by decide +kernel)) (by decide +kernel) ⟨Nat.le_of_ble_eq_true rfl, Nat.le_of_ble_eq_true rfl⟩, hts (.static yX4_oneIf) (by decide +kernel), trivial⟩ (kPre_S hK hN hP hD [] (by decide) rfl) rfl rfl hl.1 rfl (lv_room (Nat.le_of_ble_eq_true rfl)) dX3_dancesOfFollower_28 ⟨Nat.le_of_ble_eq_true rfl, Nat.le_of_ble_eq_true rfl⟩) (fun r_ u_ H locs hw hP hD hS => ?_)
        have hw : r_ = nI 1 := hw
        subst hw
        refine lv_iadd hx hb dX3_dancesOfFollower_31 ?_
        refine kv_i (y := nI (kcnt (fun q => d q l9) (i + 1))) (by rw [nI_add, kcnt_n (p := fun q => d q l9) c_20]) ?_
        refine lv_istore_n (lv' := [(2, .int (nI (kcnt (fun q => d q l9) (i + 1)))), (0, .ref (a 0)), (1, .int (nI l9)), (3, .int (nI i))]) hx hb dX3_dancesOfFollower_32 rfl hl (by decide) rfl (fun ls hl => ?_)
        refine lv_iinc (v := nI (i + 1)) (lv' := [(3, .int (nI (i + 1))), (2, .int (nI (kcnt (fun q => d q l9) (i + 1)))), (0, .ref (a 0)), (1, .int (nI l9))]) hx hb dX3_dancesOfFollower_33 hl (k := 3) rfl (nI_add i 1) (by decide) rfl (fun ls hl => ?_)
        refine lv_goto (tgt := 4) hx hb dX3_dancesOfFollower_36 (by decide) ?_
        exact ih_4 _ (by omega) (i + 1) rfl (by omega) ls H locs hP hD hS (lv_sub hl [2, 3, 0, 1] rfl)
  exact L_4 _ 0  rfl (by omega) ls H locs hP hD hS (lv_sub hl [2, 3, 0, 1] rfl)
abbrev rm_X3_couplesTonight : Room := { frames := 2, cells := 0, slots := 0, locals := 43 }
set_option maxHeartbeats 1000000 in
set_option maxRecDepth 100000 in
/-- couplesTonight -/
theorem c_X3_couplesTonight (l : Launch) (D : va_G) (cy : Nat → ClassId) (a : Nat → Nat) (C : rC) (Ar : rA) (d : Nat → Nat → Int32) (sz : Nat) : Met l yX3_couplesTonight wsX3_couplesTonight rm_X3_couplesTonight (va_Pc [.ref (a 0)] (kPre D (kT cy) [sO a C, sA cy a Ar, rW cy a d] sz)) (va_Qi (fun r_ (u_ : Unit) => r_ = nI (kns (fun l => kcnt (d l) 8) 8)) (kFr D (kT cy) [sO a C, sA cy a Ar, rW cy a d] sz (fun u_ : Unit => [sO a C, sA cy a Ar, rW cy a d])) (va_A (bkF [sO a C, sA cy a Ar, rW cy a d]) sz)) 0 0 (va_A (bkF [sO a C, sA cy a Ar, rW cy a d]) sz) := by
  refine kOpen (y := yX3_couplesTonight) (ws := wsX3_couplesTonight) (cc := cX3_couplesTonight) (maxL := 3) (ret := (some .int)) (av := [.ref (a 0)]) (Bs := [sO a C, sA cy a Ar, rW cy a d]) (Qc := fun A => (va_Qi (fun r_ (u_ : Unit) => r_ = nI (kns (fun l => kcnt (d l) 8) 8)) (fun (u_ : Unit) t9 => kEnd D (kT cy) A [sO a C, sA cy a Ar, rW cy a d] t9) A)) (by decide) rfl (Nat.le_of_ble_eq_true rfl) ?_
  intro p e s m args below meth c A Q ls hQ hx hb hml hr hlocks hin hts hown hN hK hP hD hS hA hsz hAe hl
  clear hAe
  have hl : lv_has ls 3 [(0, .ref (a 0))] := hl
  suffices K9 : ∀ (H : Heap) (locs : List Loc), va_P D vwCl (bkF [sO a C, sA cy a Ar, rW cy a d]) H → va_S A s.heap H locs → W p l e (headSpec wsX3_couplesTonight rm_X3_couplesTonight).room s m args below meth c H locs 0 0 Q (F0 m 0 ls []) from K9 _ _ hP hS
  clear hP hS
  intro H locs hP hS
  refine lv_iconst (v := nI 0) hx hb dX3_couplesTonight_0 (by decide) ?_
  refine lv_istore_n (lv' := [(1, .int (nI 0)), (0, .ref (a 0))]) hx hb dX3_couplesTonight_1 rfl hl (by decide) rfl (fun ls hl => ?_)
  refine lv_iconst (v := nI 0) hx hb dX3_couplesTonight_2 (by decide) ?_
  refine lv_istore_n (lv' := [(2, .int (nI 0)), (1, .int (nI 0)), (0, .ref (a 0))]) hx hb dX3_couplesTonight_3 rfl hl (by decide) rfl (fun ls hl => ?_)
  have L_4 : ∀ (n9 : Nat) (i : Nat), 8 - i = n9 → (i ≤ 8) → ∀ (ls : Array Slot) (H : Heap) (locs : List Loc), va_P D vwCl (bkF [sO a C, sA cy a Ar, rW cy a d]) H → va_D A (bkF [sO a C, sA cy a Ar, rW cy a d]) → va_S A s.heap H locs → lv_has ls 3 [(0, .ref (a 0)), (2, .int (nI i)), (1, .int (nI (kns (fun l => kcnt (d l) 8) i)))] → W p l e (headSpec wsX3_couplesTonight rm_X3_couplesTonight).room s m args below meth c H locs 0 0 Q (F0 m 4 ls []) := by
    intro n9
    induction n9 using Nat.strongRecOn with
    | _ n9 ih_4 =>
    intro i hm_4 h4_0 ls H locs hP hD hS hl
    refine lv_iload_n hx hb dX3_couplesTonight_4 rfl (lv_at hl 1 rfl) ?_
    refine lv_bipush (v := nI 8) hx hb dX3_couplesTonight_5 (by decide) ?_
    refine lv_icmp_ge (tgt := 24) hx hb dX3_couplesTonight_7 (by decide) (fun c_7 => ?_) (fun c_7 => ?_)
    · skip
      have c_7 : 8 ≤ i := (nI_leI (a := 8) (b := i) (by omega) (by omega)).mp c_7
      refine lv_iload_n hx hb dX3_couplesTonight_24 rfl (lv_at hl 2 rfl) ?_
      exact kr_i (post := fun r_ (u_ : Unit) => r_ = nI (kns (fun l => kcnt (d l) 8) 8)) (Bs := fun u_ : Unit => [sO a C, sA cy a Ar, rW cy a d]) hx hb hr hlocks rfl () hP hK hD hS (by rw [show i = 8 from by omega]) dX3_couplesTonight_25 hQ
    · skip
      have c_7 : ¬ (8 ≤ i) := fun h => c_7 ((nI_leI (a := 8) (b := i) (by omega) (by omega)).mpr h)
      refine lv_iload_n hx hb dX3_couplesTonight_10 rfl (lv_at hl 2 rfl) ?_
      refine lv_aload_n hx hb dX3_couplesTonight_11 rfl (lv_at hl 0 rfl) ?_
      refine lv_iload_n hx hb dX3_couplesTonight_12 rfl (lv_at hl 1 rfl) ?_
      refine kc_i (Cs := [sO a C, sA cy a Ar, rW cy a d]) (Rs := []) (Bs := [sO a C, sA cy a Ar, rW cy a d]) (Cs' := fun u_ : Unit => [sO a C, sA cy a Ar, rW cy a d]) (Fs := fun u_ : Unit => [sO a C, sA cy a Ar, rW cy a d]) hP hD hS hA [0, 1, 2] [] [0, 1, 2] rfl rfl (by decide) (by decide) (fun _ => rfl) (va_runV (As := [.int (nI i)]) (rest := [.int (nI (kns (fun l => kcnt (d l) 8) i))]) ⟨hx, hb, hml, hown, hts⟩ (c_X3_dancesOfLeader l D cy a C Ar d i (by first | assumption | omega | decide) H.size) (cwV 1 hts gX3_couplesTonight_X3_dancesOfLeader rfl rfl rfl (by decide +kernel) ⟨Nat.le_of_ble_eq_true rfl, Nat.le_of_ble_eq_true rfl⟩) (kPre_V (ci := 3) hK hN hP hD [0, 1, 2] (by decide) rfl 0 rfl rfl) rfl rfl hl.1 rfl (lv_room (Nat.le_of_ble_eq_true rfl)) dX3_couplesTonight_13 ⟨Nat.le_of_ble_eq_true rfl, Nat.le_of_ble_eq_true rfl⟩) (fun r_ u_ H locs hw hP hD hS => ?_)
      have hw : r_ = nI (kcnt (d i) 8) := hw
      subst hw
      refine lv_iadd hx hb dX3_couplesTonight_16 ?_
      refine kv_i (y := nI (kns (fun l => kcnt (d l) 8) (i + 1))) (nI_add _ _) ?_
      refine lv_istore_n (lv' := [(1, .int (nI (kns (fun l => kcnt (d l) 8) (i + 1)))), (0, .ref (a 0)), (2, .int (nI i))]) hx hb dX3_couplesTonight_17 rfl hl (by decide) rfl (fun ls hl => ?_)
      refine lv_iinc (v := nI (i + 1)) (lv' := [(2, .int (nI (i + 1))), (1, .int (nI (kns (fun l => kcnt (d l) 8) (i + 1)))), (0, .ref (a 0))]) hx hb dX3_couplesTonight_18 hl (k := 2) rfl (nI_add i 1) (by decide) rfl (fun ls hl => ?_)
      refine lv_goto (tgt := 4) hx hb dX3_couplesTonight_21 (by decide) ?_
      exact ih_4 _ (by omega) (i + 1) rfl (by omega) ls H locs hP hD hS (lv_sub hl [2, 0, 1] rfl)
  exact L_4 _ 0  rfl (by omega) ls H locs hP hD hS (lv_sub hl [2, 0, 1] rfl)
abbrev rm_X3_number : Room := { frames := 3, cells := 0, slots := 0, locals := 65 }
set_option maxHeartbeats 1000000 in
set_option maxRecDepth 100000 in
/-- number -/
theorem c_X3_number (l : Launch) (D : va_G) (cy : Nat → ClassId) (a : Nat → Nat) (C : rC) (L : rG) (F : rG) (Ar : rA) (d : Nat → Nat → Int32) (w : Nat) (hla : C.1 ≤ 6) (ho : C.2.1 ≤ 999) (hfn : C.2.2.2.1 ≤ 4) (hw2 : w ≤ 13) (sz : Nat) : Met l yX3_number wsX3_number rm_X3_number (va_Pc [.ref (a 0), .int (nI w)] (kPre D (kT cy) [sO a C, gW cy a 1 L, gW cy a 7 F, sA cy a Ar, rW cy a d] sz)) (va_Qi (fun r_ (u_ : Unit) => r_ = knum C L F Ar d w) (kFr D (kT cy) [sO a C, gW cy a 1 L, gW cy a 7 F, sA cy a Ar, rW cy a d] sz (fun u_ : Unit => [sO a C, gW cy a 1 L, gW cy a 7 F, sA cy a Ar, rW cy a d])) (va_A (bkF [sO a C, gW cy a 1 L, gW cy a 7 F, sA cy a Ar, rW cy a d]) sz)) 0 0 (va_A (bkF [sO a C, gW cy a 1 L, gW cy a 7 F, sA cy a Ar, rW cy a d]) sz) := by
  refine kOpen (y := yX3_number) (ws := wsX3_number) (cc := cX3_number) (maxL := 2) (ret := (some .int)) (av := [.ref (a 0), .int (nI w)]) (Bs := [sO a C, gW cy a 1 L, gW cy a 7 F, sA cy a Ar, rW cy a d]) (Qc := fun A => (va_Qi (fun r_ (u_ : Unit) => r_ = knum C L F Ar d w) (fun (u_ : Unit) t9 => kEnd D (kT cy) A [sO a C, gW cy a 1 L, gW cy a 7 F, sA cy a Ar, rW cy a d] t9) A)) (by decide) rfl (Nat.le_of_ble_eq_true rfl) ?_
  intro p e s m args below meth c A Q ls hQ hx hb hml hr hlocks hin hts hown hN hK hP hD hS hA hsz hAe hl
  clear hAe
  have hl : lv_has ls 2 [(0, .ref (a 0)), (1, .int (nI w))] := hl
  suffices K9 : ∀ (H : Heap) (locs : List Loc), va_P D vwCl (bkF [sO a C, gW cy a 1 L, gW cy a 7 F, sA cy a Ar, rW cy a d]) H → va_S A s.heap H locs → W p l e (headSpec wsX3_number rm_X3_number).room s m args below meth c H locs 0 0 Q (F0 m 0 ls []) from K9 _ _ hP hS
  clear hP hS
  intro H locs hP hS
  refine lv_iload_n hx hb dX3_number_0 rfl (lv_at hl 1 rfl) ?_
  rcases (show w = 0 ∨ w = 1 ∨ w = 2 ∨ w = 3 ∨ w = 4 ∨ w = 5 ∨ w = 6 ∨ w = 7 ∨ w = 8 ∨ w = 9 ∨ w = 10 ∨ w = 11 ∨ w = 12 ∨ w = 13 by omega) with h9 | h9 | h9 | h9 | h9 | h9 | h9 | h9 | h9 | h9 | h9 | h9 | h9 | h9
  · skip
    rw [h9]
    refine lv_tableIn (off := 67) (tgt := 68) hx hb dX3_number_1 (by decide) (by decide) (by decide) (by decide) ?_
    refine lv_aload_n hx hb dX3_number_68 rfl (lv_at hl 0 rfl) ?_
    refine va_get (D := D) (ci := 3) (v := .ref (a 1)) (C := RX3) (T := TX3) (N := 14) hx hb hts (by decide +kernel) hown hK hP 0 rfl rfl 0 (by decide) (hts (.fieldLink RX3 12 "DanceHall$State" "leaders" "LDanceHall$Guests;") (by decide +kernel)) (fun _ h9 => h9) rfl dX3_number_69 ?_
    refine va_get (D := D) (ci := 2) (v := .int (nI L.2.2.2.2.2)) (C := RX2) (T := TX2) (N := 6) hx hb hts (by decide +kernel) hown hK hP 1 rfl rfl 5 (by decide) (hts (.fieldLink RX3 128 "DanceHall$Guests" "count" "I") (by decide +kernel)) (fun _ h9 => h9) rfl dX3_number_72 ?_
    exact kr_i (post := fun r_ (u_ : Unit) => r_ = knum C L F Ar d w) (Bs := fun u_ : Unit => [sO a C, gW cy a 1 L, gW cy a 7 F, sA cy a Ar, rW cy a d]) hx hb hr hlocks rfl () hP hK hD hS (by rw [h9]; rfl) dX3_number_75 hQ
  · skip
    rw [h9]
    refine lv_tableIn (off := 75) (tgt := 76) hx hb dX3_number_1 (by decide) (by decide) (by decide) (by decide) ?_
    refine lv_aload_n hx hb dX3_number_76 rfl (lv_at hl 0 rfl) ?_
    refine va_get (D := D) (ci := 3) (v := .ref (a 7)) (C := RX3) (T := TX3) (N := 14) hx hb hts (by decide +kernel) hown hK hP 0 rfl rfl 1 (by decide) (hts (.fieldLink RX3 18 "DanceHall$State" "followers" "LDanceHall$Guests;") (by decide +kernel)) (fun _ h9 => h9) rfl dX3_number_77 ?_
    refine va_get (D := D) (ci := 2) (v := .int (nI F.2.2.2.2.2)) (C := RX2) (T := TX2) (N := 6) hx hb hts (by decide +kernel) hown hK hP 7 rfl rfl 5 (by decide) (hts (.fieldLink RX3 128 "DanceHall$Guests" "count" "I") (by decide +kernel)) (fun _ h9 => h9) rfl dX3_number_80 ?_
    exact kr_i (post := fun r_ (u_ : Unit) => r_ = knum C L F Ar d w) (Bs := fun u_ : Unit => [sO a C, gW cy a 1 L, gW cy a 7 F, sA cy a Ar, rW cy a d]) hx hb hr hlocks rfl () hP hK hD hS (by rw [h9]; rfl) dX3_number_83 hQ
  · skip
    rw [h9]
    refine lv_tableIn (off := 83) (tgt := 84) hx hb dX3_number_1 (by decide) (by decide) (by decide) (by decide) ?_
    refine lv_aload_n hx hb dX3_number_84 rfl (lv_at hl 0 rfl) ?_
    refine va_get (D := D) (ci := 3) (v := .int (nI C.1)) (C := RX3) (T := TX3) (N := 14) hx hb hts (by decide +kernel) hown hK hP 0 rfl rfl 3 (by decide) (hts (.fieldLink RX3 25 "DanceHall$State" "lamps" "I") (by decide +kernel)) (fun _ h9 => h9) rfl dX3_number_85 ?_
    exact kr_i (post := fun r_ (u_ : Unit) => r_ = knum C L F Ar d w) (Bs := fun u_ : Unit => [sO a C, gW cy a 1 L, gW cy a 7 F, sA cy a Ar, rW cy a d]) hx hb hr hlocks rfl () hP hK hD hS (by rw [h9]; rfl) dX3_number_88 hQ
  · skip
    rw [h9]
    refine lv_tableIn (off := 88) (tgt := 89) hx hb dX3_number_1 (by decide) (by decide) (by decide) (by decide) ?_
    refine lv_aload_n hx hb dX3_number_89 rfl (lv_at hl 0 rfl) ?_
    refine va_get (D := D) (ci := 3) (v := .int (nI C.2.1)) (C := RX3) (T := TX3) (N := 14) hx hb hts (by decide +kernel) hown hK hP 0 rfl rfl 4 (by decide) (hts (.fieldLink RX3 29 "DanceHall$State" "oil" "I") (by decide +kernel)) (fun _ h9 => h9) rfl dX3_number_90 ?_
    exact kr_i (post := fun r_ (u_ : Unit) => r_ = knum C L F Ar d w) (Bs := fun u_ : Unit => [sO a C, gW cy a 1 L, gW cy a 7 F, sA cy a Ar, rW cy a d]) hx hb hr hlocks rfl () hP hK hD hS (by rw [h9]; rfl) dX3_number_93 hQ
  · skip
    rw [h9]
    refine lv_tableIn (off := 93) (tgt := 94) hx hb dX3_number_1 (by decide) (by decide) (by decide) (by decide) ?_
    refine lv_aload_n hx hb dX3_number_94 rfl (lv_at hl 0 rfl) ?_
    refine lv_aload_n hx hb dX3_number_95 rfl (lv_at hl 0 rfl) ?_
    refine va_get (D := D) (ci := 3) (v := .int (nI C.1)) (C := RX3) (T := TX3) (N := 14) hx hb hts (by decide +kernel) hown hK hP 0 rfl rfl 3 (by decide) (hts (.fieldLink RX3 25 "DanceHall$State" "lamps" "I") (by decide +kernel)) (fun _ h9 => h9) rfl dX3_number_96 ?_
    refine kc_i (Cs := [sO a C]) (Rs := [gW cy a 1 L, gW cy a 7 F, sA cy a Ar, rW cy a d]) (Bs := [sO a C, gW cy a 1 L, gW cy a 7 F, sA cy a Ar, rW cy a d]) (Cs' := fun u_ : Unit => [sO a C]) (Fs := fun u_ : Unit => [sO a C, gW cy a 1 L, gW cy a 7 F, sA cy a Ar, rW cy a d]) hP hD hS hA [0] [1, 2, 3, 4] [4, 0, 1, 2, 3] rfl rfl (by decide) (by decide) (fun _ => rfl) (va_runV (As := [.int (nI C.1)]) (rest := []) ⟨hx, hb, hml, hown, hts⟩ (c_X3_litOf l D cy a C C.1 (by first | assumption | omega | decide) (by first | assumption | omega | decide) H.size) (cwV 1 hts gX3_number_X3_litOf rfl rfl rfl (by decide +kernel) ⟨Nat.le_of_ble_eq_true rfl, Nat.le_of_ble_eq_true rfl⟩) (kPre_V (ci := 3) hK hN hP hD [0] (by decide) rfl 0 rfl rfl) rfl rfl hl.1 rfl (lv_room (Nat.le_of_ble_eq_true rfl)) dX3_number_99 ⟨Nat.le_of_ble_eq_true rfl, Nat.le_of_ble_eq_true rfl⟩) (fun r_ u_ H locs hw hP hD hS => ?_)
    have hw : r_ = nI (min C.1 (C.2.1 / 2)) := hw
    subst hw
    exact kr_i (post := fun r_ (u_ : Unit) => r_ = knum C L F Ar d w) (Bs := fun u_ : Unit => [sO a C, gW cy a 1 L, gW cy a 7 F, sA cy a Ar, rW cy a d]) hx hb hr hlocks rfl () hP hK hD hS (by rw [h9]; rfl) dX3_number_102 hQ
  · skip
    rw [h9]
    refine lv_tableIn (off := 102) (tgt := 103) hx hb dX3_number_1 (by decide) (by decide) (by decide) (by decide) ?_
    refine lv_aload_n hx hb dX3_number_103 rfl (lv_at hl 0 rfl) ?_
    refine kc_i (Cs := [sO a C]) (Rs := [gW cy a 1 L, gW cy a 7 F, sA cy a Ar, rW cy a d]) (Bs := [sO a C, gW cy a 1 L, gW cy a 7 F, sA cy a Ar, rW cy a d]) (Cs' := fun u_ : Unit => [sO a C]) (Fs := fun u_ : Unit => [sO a C, gW cy a 1 L, gW cy a 7 F, sA cy a Ar, rW cy a d]) hP hD hS hA [0] [1, 2, 3, 4] [4, 0, 1, 2, 3] rfl rfl (by decide) (by decide) (fun _ => rfl) (va_runV (As := []) (rest := []) ⟨hx, hb, hml, hown, hts⟩ (c_X3_room l D cy a C (by first | assumption | omega | decide) (by first | assumption | omega | decide) H.size) (cwV 0 hts gX3_number_X3_room rfl rfl rfl (by decide +kernel) ⟨Nat.le_of_ble_eq_true rfl, Nat.le_of_ble_eq_true rfl⟩) (kPre_V (ci := 3) hK hN hP hD [0] (by decide) rfl 0 rfl rfl) rfl rfl hl.1 rfl (lv_room (Nat.le_of_ble_eq_true rfl)) dX3_number_104 ⟨Nat.le_of_ble_eq_true rfl, Nat.le_of_ble_eq_true rfl⟩) (fun r_ u_ H locs hw hP hD hS => ?_)
    have hw : r_ = nI (2 * (min C.1 (C.2.1 / 2))) := hw
    subst hw
    exact kr_i (post := fun r_ (u_ : Unit) => r_ = knum C L F Ar d w) (Bs := fun u_ : Unit => [sO a C, gW cy a 1 L, gW cy a 7 F, sA cy a Ar, rW cy a d]) hx hb hr hlocks rfl () hP hK hD hS (by rw [h9]; rfl) dX3_number_107 hQ
  · skip
    rw [h9]
    refine lv_tableIn (off := 107) (tgt := 108) hx hb dX3_number_1 (by decide) (by decide) (by decide) (by decide) ?_
    refine lv_aload_n hx hb dX3_number_108 rfl (lv_at hl 0 rfl) ?_
    refine va_get (D := D) (ci := 3) (v := .int C.2.2.2.2.2.1) (C := RX3) (T := TX3) (N := 14) hx hb hts (by decide +kernel) hown hK hP 0 rfl rfl 10 (by decide) (hts (.fieldLink RX3 112 "DanceHall$State" "night" "I") (by decide +kernel)) (fun _ h9 => h9) rfl dX3_number_109 ?_
    exact kr_i (post := fun r_ (u_ : Unit) => r_ = knum C L F Ar d w) (Bs := fun u_ : Unit => [sO a C, gW cy a 1 L, gW cy a 7 F, sA cy a Ar, rW cy a d]) hx hb hr hlocks rfl () hP hK hD hS (by rw [h9]; rfl) dX3_number_112 hQ
  · skip
    rw [h9]
    refine lv_tableIn (off := 112) (tgt := 113) hx hb dX3_number_1 (by decide) (by decide) (by decide) (by decide) ?_
    refine lv_aload_n hx hb dX3_number_113 rfl (lv_at hl 0 rfl) ?_
    refine va_get (D := D) (ci := 3) (v := .int (nI C.2.2.2.2.2.2.1)) (C := RX3) (T := TX3) (N := 14) hx hb hts (by decide +kernel) hown hK hP 0 rfl rfl 11 (by decide) (hts (.fieldLink RX3 62 "DanceHall$State" "dances" "I") (by decide +kernel)) (fun _ h9 => h9) rfl dX3_number_114 ?_
    exact kr_i (post := fun r_ (u_ : Unit) => r_ = knum C L F Ar d w) (Bs := fun u_ : Unit => [sO a C, gW cy a 1 L, gW cy a 7 F, sA cy a Ar, rW cy a d]) hx hb hr hlocks rfl () hP hK hD hS (by rw [h9]; rfl) dX3_number_117 hQ
  · skip
    rw [h9]
    refine lv_tableIn (off := 117) (tgt := 118) hx hb dX3_number_1 (by decide) (by decide) (by decide) (by decide) ?_
    refine lv_aload_n hx hb dX3_number_118 rfl (lv_at hl 0 rfl) ?_
    refine kc_i (Cs := [sO a C, sA cy a Ar, rW cy a d]) (Rs := [gW cy a 1 L, gW cy a 7 F]) (Bs := [sO a C, gW cy a 1 L, gW cy a 7 F, sA cy a Ar, rW cy a d]) (Cs' := fun u_ : Unit => [sO a C, sA cy a Ar, rW cy a d]) (Fs := fun u_ : Unit => [sO a C, gW cy a 1 L, gW cy a 7 F, sA cy a Ar, rW cy a d]) hP hD hS hA [0, 3, 4] [1, 2] [2, 0, 1, 3, 4] rfl rfl (by decide) (by decide) (fun _ => rfl) (va_runV (As := []) (rest := []) ⟨hx, hb, hml, hown, hts⟩ (c_X3_couplesTonight l D cy a C Ar d H.size) (cwV 0 hts gX3_number_X3_couplesTonight rfl rfl rfl (by decide +kernel) ⟨Nat.le_of_ble_eq_true rfl, Nat.le_of_ble_eq_true rfl⟩) (kPre_V (ci := 3) hK hN hP hD [0, 3, 4] (by decide) rfl 0 rfl rfl) rfl rfl hl.1 rfl (lv_room (Nat.le_of_ble_eq_true rfl)) dX3_number_119 ⟨Nat.le_of_ble_eq_true rfl, Nat.le_of_ble_eq_true rfl⟩) (fun r_ u_ H locs hw hP hD hS => ?_)
    have hw : r_ = nI (kns (fun l => kcnt (d l) 8) 8) := hw
    subst hw
    exact kr_i (post := fun r_ (u_ : Unit) => r_ = knum C L F Ar d w) (Bs := fun u_ : Unit => [sO a C, gW cy a 1 L, gW cy a 7 F, sA cy a Ar, rW cy a d]) hx hb hr hlocks rfl () hP hK hD hS (by rw [h9]; rfl) dX3_number_122 hQ
  · skip
    rw [h9]
    refine lv_tableIn (off := 122) (tgt := 123) hx hb dX3_number_1 (by decide) (by decide) (by decide) (by decide) ?_
    refine lv_aload_n hx hb dX3_number_123 rfl (lv_at hl 0 rfl) ?_
    refine va_get (D := D) (ci := 3) (v := .int C.2.2.2.2.1) (C := RX3) (T := TX3) (N := 14) hx hb hts (by decide +kernel) hown hK hP 0 rfl rfl 9 (by decide) (hts (.fieldLink RX3 89 "DanceHall$State" "bag" "I") (by decide +kernel)) (fun _ h9 => h9) rfl dX3_number_124 ?_
    exact kr_i (post := fun r_ (u_ : Unit) => r_ = knum C L F Ar d w) (Bs := fun u_ : Unit => [sO a C, gW cy a 1 L, gW cy a 7 F, sA cy a Ar, rW cy a d]) hx hb hr hlocks rfl () hP hK hD hS (by rw [h9]; rfl) dX3_number_127 hQ
  · skip
    rw [h9]
    refine lv_tableIn (off := 127) (tgt := 128) hx hb dX3_number_1 (by decide) (by decide) (by decide) (by decide) ?_
    refine lv_aload_n hx hb dX3_number_128 rfl (lv_at hl 0 rfl) ?_
    refine va_get (D := D) (ci := 3) (v := .int (nI C.2.2.2.1)) (C := RX3) (T := TX3) (N := 14) hx hb hts (by decide +kernel) hown hK hP 0 rfl rfl 6 (by decide) (hts (.fieldLink RX3 32 "DanceHall$State" "fiddlers" "I") (by decide +kernel)) (fun _ h9 => h9) rfl dX3_number_129 ?_
    exact kr_i (post := fun r_ (u_ : Unit) => r_ = knum C L F Ar d w) (Bs := fun u_ : Unit => [sO a C, gW cy a 1 L, gW cy a 7 F, sA cy a Ar, rW cy a d]) hx hb hr hlocks rfl () hP hK hD hS (by rw [h9]; rfl) dX3_number_132 hQ
  · skip
    rw [h9]
    refine lv_tableIn (off := 132) (tgt := 133) hx hb dX3_number_1 (by decide) (by decide) (by decide) (by decide) ?_
    refine lv_aload_n hx hb dX3_number_133 rfl (lv_at hl 0 rfl) ?_
    refine kc_i (Cs := [sO a C, sA cy a Ar]) (Rs := [gW cy a 1 L, gW cy a 7 F, rW cy a d]) (Bs := [sO a C, gW cy a 1 L, gW cy a 7 F, sA cy a Ar, rW cy a d]) (Cs' := fun u_ : Unit => [sO a C, sA cy a Ar]) (Fs := fun u_ : Unit => [sO a C, gW cy a 1 L, gW cy a 7 F, sA cy a Ar, rW cy a d]) hP hD hS hA [0, 3] [1, 2, 4] [3, 0, 1, 4, 2] rfl rfl (by decide) (by decide) (fun _ => rfl) (va_runV (As := []) (rest := []) ⟨hx, hb, hml, hown, hts⟩ (c_X3_partsSum l D cy a C Ar (by first | assumption | omega | decide) H.size) (cwV 0 hts gX3_number_X3_partsSum rfl rfl rfl (by decide +kernel) ⟨Nat.le_of_ble_eq_true rfl, Nat.le_of_ble_eq_true rfl⟩) (kPre_V (ci := 3) hK hN hP hD [0, 3] (by decide) rfl 0 rfl rfl) rfl rfl hl.1 rfl (lv_room (Nat.le_of_ble_eq_true rfl)) dX3_number_134 ⟨Nat.le_of_ble_eq_true rfl, Nat.le_of_ble_eq_true rfl⟩) (fun r_ u_ H locs hw hP hD hS => ?_)
    have hw : r_ = ksum Ar.2.1 C.2.2.2.1 := hw
    subst hw
    exact kr_i (post := fun r_ (u_ : Unit) => r_ = knum C L F Ar d w) (Bs := fun u_ : Unit => [sO a C, gW cy a 1 L, gW cy a 7 F, sA cy a Ar, rW cy a d]) hx hb hr hlocks rfl () hP hK hD hS (by rw [h9]; rfl) dX3_number_137 hQ
  · skip
    rw [h9]
    refine lv_tableIn (off := 137) (tgt := 138) hx hb dX3_number_1 (by decide) (by decide) (by decide) (by decide) ?_
    refine lv_aload_n hx hb dX3_number_138 rfl (lv_at hl 0 rfl) ?_
    refine va_get (D := D) (ci := 3) (v := .int C.2.2.2.2.2.2.2) (C := RX3) (T := TX3) (N := 14) hx hb hts (by decide +kernel) hown hK hP 0 rfl rfl 12 (by decide) (hts (.fieldLink RX3 92 "DanceHall$State" "allCouples" "I") (by decide +kernel)) (fun _ h9 => h9) rfl dX3_number_139 ?_
    exact kr_i (post := fun r_ (u_ : Unit) => r_ = knum C L F Ar d w) (Bs := fun u_ : Unit => [sO a C, gW cy a 1 L, gW cy a 7 F, sA cy a Ar, rW cy a d]) hx hb hr hlocks rfl () hP hK hD hS (by rw [h9]; rfl) dX3_number_142 hQ
  · skip
    rw [h9]
    refine lv_tableOut (tgt := 143) hx hb dX3_number_1 (by decide) (by decide) ?_
    refine lv_aload_n hx hb dX3_number_143 rfl (lv_at hl 0 rfl) ?_
    refine va_get (D := D) (ci := 3) (v := .int C.2.2.1) (C := RX3) (T := TX3) (N := 14) hx hb hts (by decide +kernel) hown hK hP 0 rfl rfl 5 (by decide) (hts (.fieldLink RX3 82 "DanceHall$State" "burned" "I") (by decide +kernel)) (fun _ h9 => h9) rfl dX3_number_144 ?_
    exact kr_i (post := fun r_ (u_ : Unit) => r_ = knum C L F Ar d w) (Bs := fun u_ : Unit => [sO a C, gW cy a 1 L, gW cy a 7 F, sA cy a Ar, rW cy a d]) hx hb hr hlocks rfl () hP hK hD hS (by rw [h9]; rfl) dX3_number_147 hQ
abbrev rm_X3_bookCouple : Room := { frames := 1, cells := 0, slots := 0, locals := 21 }
set_option maxHeartbeats 1000000 in
set_option maxRecDepth 100000 in
/-- bookCouple -/
theorem c_X3_bookCouple (l : Launch) (D : va_G) (cy : Nat → ClassId) (a : Nat → Nat) (C : rC) (L : rG) (F : rG) (Ar : rA) (d : Nat → Nat → Int32) (i : Nat) (j : Nat) (hi : i < 8) (hj : j < 8) (sz : Nat) : Met l yX3_bookCouple wsX3_bookCouple rm_X3_bookCouple (va_Pc [.ref (a 0), .int (nI i), .int (nI j)] (kPre D (kT cy) [sO a C, gW cy a 1 L, gW cy a 7 F, sA cy a Ar, rW cy a d] sz)) (va_Qv (fun u_ : Unit => True) (kFr D (kT cy) [sO a C, gW cy a 1 L, gW cy a 7 F, sA cy a Ar, rW cy a d] sz (fun u_ : Unit => [sO a (C.1, C.2.1, C.2.2.1, C.2.2.2.1, C.2.2.2.2.1 + nI 2, C.2.2.2.2.2.1, C.2.2.2.2.2.2.1, C.2.2.2.2.2.2.2 + nI 1), gW cy a 1 (upd L.1 i (L.1 i - nI 1), L.2.1, L.2.2.1, L.2.2.2.1, upd L.2.2.2.2.1 i (L.2.2.2.2.1 i + nI 1), L.2.2.2.2.2), gW cy a 7 (upd F.1 j (F.1 j - nI 1), F.2.1, F.2.2.1, F.2.2.2.1, upd F.2.2.2.2.1 j (F.2.2.2.2.1 j + nI 1), F.2.2.2.2.2), sA cy a Ar, rW cy a (kup d i (upd (d i) j (nI C.2.2.2.2.2.2.1)))])) (va_A (bkF [sO a C, gW cy a 1 L, gW cy a 7 F, sA cy a Ar, rW cy a d]) sz)) 0 0 (va_A (bkF [sO a C, gW cy a 1 L, gW cy a 7 F, sA cy a Ar, rW cy a d]) sz) := by
  refine kOpen (y := yX3_bookCouple) (ws := wsX3_bookCouple) (cc := cX3_bookCouple) (maxL := 3) (ret := none) (av := [.ref (a 0), .int (nI i), .int (nI j)]) (Bs := [sO a C, gW cy a 1 L, gW cy a 7 F, sA cy a Ar, rW cy a d]) (Qc := fun A => (va_Qv (fun u_ : Unit => True) (fun (u_ : Unit) t9 => kEnd D (kT cy) A [sO a (C.1, C.2.1, C.2.2.1, C.2.2.2.1, C.2.2.2.2.1 + nI 2, C.2.2.2.2.2.1, C.2.2.2.2.2.2.1, C.2.2.2.2.2.2.2 + nI 1), gW cy a 1 (upd L.1 i (L.1 i - nI 1), L.2.1, L.2.2.1, L.2.2.2.1, upd L.2.2.2.2.1 i (L.2.2.2.2.1 i + nI 1), L.2.2.2.2.2), gW cy a 7 (upd F.1 j (F.1 j - nI 1), F.2.1, F.2.2.1, F.2.2.2.1, upd F.2.2.2.2.1 j (F.2.2.2.2.1 j + nI 1), F.2.2.2.2.2), sA cy a Ar, rW cy a (kup d i (upd (d i) j (nI C.2.2.2.2.2.2.1)))] t9) A)) (by decide) rfl (Nat.le_of_ble_eq_true rfl) ?_
  intro p e s m args below meth c A Q ls hQ hx hb hml hr hlocks hin hts hown hN hK hP hD hS hA hsz hAe hl
  clear hAe
  have hl : lv_has ls 3 [(0, .ref (a 0)), (1, .int (nI i)), (2, .int (nI j))] := hl
  suffices K9 : ∀ (H : Heap) (locs : List Loc), va_P D vwCl (bkF [sO a C, gW cy a 1 L, gW cy a 7 F, sA cy a Ar, rW cy a d]) H → va_S A s.heap H locs → W p l e (headSpec wsX3_bookCouple rm_X3_bookCouple).room s m args below meth c H locs 0 0 Q (F0 m 0 ls []) from K9 _ _ hP hS
  clear hP hS
  intro H locs hP hS
  refine lv_aload_n hx hb dX3_bookCouple_0 rfl (lv_at hl 0 rfl) ?_
  refine va_get (D := D) (ci := 3) (v := .ref (a 16)) (C := RX3) (T := TX3) (N := 14) hx hb hts (by decide +kernel) hown hK hP 0 rfl rfl 13 (by decide) (hts (.fieldLink RX3 43 "DanceHall$State" "danceOf" "[[I") (by decide +kernel)) (fun _ h9 => h9) rfl dX3_bookCouple_1 ?_
  refine lv_iload_n hx hb dX3_bookCouple_4 rfl (lv_at hl 1 rfl) ?_
  refine va_aldA hx hb hK hP 16 4 rfl rfl (vp_in_nI (n := i) (N := 8) (by omega) (by omega)) dX3_bookCouple_5 ?_
  refine kv_w (y := .ref (a (17 + i))) (by rw [nI_clamp (n := i) (by omega)]; rfl) ?_
  refine lv_iload_n hx hb dX3_bookCouple_6 rfl (lv_at hl 2 rfl) ?_
  refine lv_aload_n hx hb dX3_bookCouple_7 rfl (lv_at hl 0 rfl) ?_
  refine va_get (D := D) (ci := 3) (v := .int (nI C.2.2.2.2.2.2.1)) (C := RX3) (T := TX3) (N := 14) hx hb hts (by decide +kernel) hown hK hP 0 rfl rfl 11 (by decide) (hts (.fieldLink RX3 62 "DanceHall$State" "dances" "I") (by decide +kernel)) (fun _ h9 => h9) rfl dX3_bookCouple_8 ?_
  have hq9 : (bkF [sO a C, gW cy a 1 L, gW cy a 7 F, sA cy a Ar, rW cy a d])[17 + i]? = some (a (17 + i), .inl (cy 0, 8, .inl (d i))) := by rcases k8 (show i < 8 by omega) with h9 | h9 | h9 | h9 | h9 | h9 | h9 | h9 <;> rw [h9] <;> rfl
  refine va_iast hx hb hK hP hD hS (17 + i) 0 hq9 rfl (vp_in_nI (n := j) (N := 8) (by omega) (by omega)) dX3_bookCouple_11 (fun H locs hP hD hS => ?_)
  rw [nI_clamp (n := j) (by omega)] at hP hD
  have he9 : (bkF [sO a C, gW cy a 1 L, gW cy a 7 F, sA cy a Ar, rW cy a d]).set (17 + i) (a (17 + i), .inl (cy 0, 8, .inl (upd (d i) j (nI C.2.2.2.2.2.2.1)))) = bkF [sO a C, gW cy a 1 L, gW cy a 7 F, sA cy a Ar, rW cy a (kup d i (upd (d i) j (nI C.2.2.2.2.2.2.1)))] := by rcases k8 (show i < 8 by omega) with h9 | h9 | h9 | h9 | h9 | h9 | h9 | h9 <;> rw [h9] <;> rfl
  rw [he9] at hP hD
  refine lv_aload_n hx hb dX3_bookCouple_12 rfl (lv_at hl 0 rfl) ?_
  refine va_get (D := D) (ci := 3) (v := .ref (a 1)) (C := RX3) (T := TX3) (N := 14) hx hb hts (by decide +kernel) hown hK hP 0 rfl rfl 0 (by decide) (hts (.fieldLink RX3 12 "DanceHall$State" "leaders" "LDanceHall$Guests;") (by decide +kernel)) (fun _ h9 => h9) rfl dX3_bookCouple_13 ?_
  refine lv_iload_n hx hb dX3_bookCouple_16 rfl (lv_at hl 1 rfl) ?_
  refine kc_v (Cs := [gW cy a 1 L]) (Rs := [sO a C, gW cy a 7 F, sA cy a Ar, rW cy a (kup d i (upd (d i) j (nI C.2.2.2.2.2.2.1)))]) (Bs := [sO a C, gW cy a 1 L, gW cy a 7 F, sA cy a Ar, rW cy a (kup d i (upd (d i) j (nI C.2.2.2.2.2.2.1)))]) (Cs' := fun u_ : Unit => [gW cy a 1 (upd L.1 i (L.1 i - nI 1), L.2.1, L.2.2.1, L.2.2.2.1, upd L.2.2.2.2.1 i (L.2.2.2.2.1 i + nI 1), L.2.2.2.2.2)]) (Fs := fun u_ : Unit => [sO a C, gW cy a 1 (upd L.1 i (L.1 i - nI 1), L.2.1, L.2.2.1, L.2.2.2.1, upd L.2.2.2.2.1 i (L.2.2.2.2.1 i + nI 1), L.2.2.2.2.2), gW cy a 7 F, sA cy a Ar, rW cy a (kup d i (upd (d i) j (nI C.2.2.2.2.2.2.1)))]) hP hD hS hA [1] [0, 2, 3, 4] [0, 4, 1, 2, 3] rfl rfl (by decide) (by decide) (fun _ => rfl) (va_runV (As := [.int (nI i)]) (rest := []) ⟨hx, hb, hml, hown, hts⟩ (c_X2_bookDance l D cy a 1 L i (by first | assumption | omega | decide) H.size) (cwV 1 hts gX3_bookCouple_X2_bookDance rfl rfl rfl (by decide +kernel) ⟨Nat.le_of_ble_eq_true rfl, Nat.le_of_ble_eq_true rfl⟩) (kPre_V (ci := 2) hK hN hP hD [1] (by decide) rfl 0 rfl rfl) rfl rfl hl.1 rfl (lv_room (Nat.le_of_ble_eq_true rfl)) dX3_bookCouple_17 ⟨Nat.le_of_ble_eq_true rfl, Nat.le_of_ble_eq_true rfl⟩) (fun u_ H locs hw hP hD hS => ?_)
  refine lv_aload_n hx hb dX3_bookCouple_20 rfl (lv_at hl 0 rfl) ?_
  refine va_get (D := D) (ci := 3) (v := .ref (a 7)) (C := RX3) (T := TX3) (N := 14) hx hb hts (by decide +kernel) hown hK hP 0 rfl rfl 1 (by decide) (hts (.fieldLink RX3 18 "DanceHall$State" "followers" "LDanceHall$Guests;") (by decide +kernel)) (fun _ h9 => h9) rfl dX3_bookCouple_21 ?_
  refine lv_iload_n hx hb dX3_bookCouple_24 rfl (lv_at hl 2 rfl) ?_
  refine kc_v (Cs := [gW cy a 7 F]) (Rs := [sO a C, gW cy a 1 (upd L.1 i (L.1 i - nI 1), L.2.1, L.2.2.1, L.2.2.2.1, upd L.2.2.2.2.1 i (L.2.2.2.2.1 i + nI 1), L.2.2.2.2.2), sA cy a Ar, rW cy a (kup d i (upd (d i) j (nI C.2.2.2.2.2.2.1)))]) (Bs := [sO a C, gW cy a 1 (upd L.1 i (L.1 i - nI 1), L.2.1, L.2.2.1, L.2.2.2.1, upd L.2.2.2.2.1 i (L.2.2.2.2.1 i + nI 1), L.2.2.2.2.2), gW cy a 7 F, sA cy a Ar, rW cy a (kup d i (upd (d i) j (nI C.2.2.2.2.2.2.1)))]) (Cs' := fun u_ : Unit => [gW cy a 7 (upd F.1 j (F.1 j - nI 1), F.2.1, F.2.2.1, F.2.2.2.1, upd F.2.2.2.2.1 j (F.2.2.2.2.1 j + nI 1), F.2.2.2.2.2)]) (Fs := fun u_ : Unit => [sO a C, gW cy a 1 (upd L.1 i (L.1 i - nI 1), L.2.1, L.2.2.1, L.2.2.2.1, upd L.2.2.2.2.1 i (L.2.2.2.2.1 i + nI 1), L.2.2.2.2.2), gW cy a 7 (upd F.1 j (F.1 j - nI 1), F.2.1, F.2.2.1, F.2.2.2.1, upd F.2.2.2.2.1 j (F.2.2.2.2.1 j + nI 1), F.2.2.2.2.2), sA cy a Ar, rW cy a (kup d i (upd (d i) j (nI C.2.2.2.2.2.2.1)))]) hP hD hS hA [2] [0, 1, 3, 4] [0, 1, 4, 2, 3] rfl rfl (by decide) (by decide) (fun _ => rfl) (va_runV (As := [.int (nI j)]) (rest := []) ⟨hx, hb, hml, hown, hts⟩ (c_X2_bookDance l D cy a 7 F j (by first | assumption | omega | decide) H.size) (cwV 1 hts gX3_bookCouple_X2_bookDance rfl rfl rfl (by decide +kernel) ⟨Nat.le_of_ble_eq_true rfl, Nat.le_of_ble_eq_true rfl⟩) (kPre_V (ci := 2) hK hN hP hD [2] (by decide) rfl 0 rfl rfl) rfl rfl hl.1 rfl (lv_room (Nat.le_of_ble_eq_true rfl)) dX3_bookCouple_25 ⟨Nat.le_of_ble_eq_true rfl, Nat.le_of_ble_eq_true rfl⟩) (fun u_ H locs hw hP hD hS => ?_)
  refine lv_aload_n hx hb dX3_bookCouple_28 rfl (lv_at hl 0 rfl) ?_
  refine lv_dup hx hb dX3_bookCouple_29 rfl ?_
  refine va_get (D := D) (ci := 3) (v := .int C.2.2.2.2.1) (C := RX3) (T := TX3) (N := 14) hx hb hts (by decide +kernel) hown hK hP 0 rfl rfl 9 (by decide) (hts (.fieldLink RX3 89 "DanceHall$State" "bag" "I") (by decide +kernel)) (fun _ h9 => h9) rfl dX3_bookCouple_30 ?_
  refine lv_iconst (v := nI 2) hx hb dX3_bookCouple_33 (by decide) ?_
  refine lv_iadd hx hb dX3_bookCouple_34 ?_
  refine va_put (D := D) (ci := 3) (v := .int (C.2.2.2.2.1 + (nI 2))) (ty := .int) (C := RX3) (T := TX3) (N := 14) hx hb hts (by decide +kernel) tyX3 tyX3_ok nmX3 hown hK hP hD hS 0 rfl rfl 9 (by decide) (hts (.fieldLink RX3 89 "DanceHall$State" "bag" "I") (by decide +kernel)) (fun _ h9 => h9) rfl (by decide +kernel) rfl rfl (Nat.le_of_ble_eq_true rfl) dX3_bookCouple_35 (fun H locs hP hD hS => ?_)
  have hP : va_P D vwCl (bkF [sO a (C.1, C.2.1, C.2.2.1, C.2.2.2.1, C.2.2.2.2.1 + (nI 2), C.2.2.2.2.2), gW cy a 1 (upd L.1 i (L.1 i - nI 1), L.2.1, L.2.2.1, L.2.2.2.1, upd L.2.2.2.2.1 i (L.2.2.2.2.1 i + nI 1), L.2.2.2.2.2), gW cy a 7 (upd F.1 j (F.1 j - nI 1), F.2.1, F.2.2.1, F.2.2.2.1, upd F.2.2.2.2.1 j (F.2.2.2.2.1 j + nI 1), F.2.2.2.2.2), sA cy a Ar, rW cy a (kup d i (upd (d i) j (nI C.2.2.2.2.2.2.1)))]) H := hP
  have hD : va_D A (bkF [sO a (C.1, C.2.1, C.2.2.1, C.2.2.2.1, C.2.2.2.2.1 + (nI 2), C.2.2.2.2.2), gW cy a 1 (upd L.1 i (L.1 i - nI 1), L.2.1, L.2.2.1, L.2.2.2.1, upd L.2.2.2.2.1 i (L.2.2.2.2.1 i + nI 1), L.2.2.2.2.2), gW cy a 7 (upd F.1 j (F.1 j - nI 1), F.2.1, F.2.2.1, F.2.2.2.1, upd F.2.2.2.2.1 j (F.2.2.2.2.1 j + nI 1), F.2.2.2.2.2), sA cy a Ar, rW cy a (kup d i (upd (d i) j (nI C.2.2.2.2.2.2.1)))]) := hD
  refine lv_aload_n hx hb dX3_bookCouple_38 rfl (lv_at hl 0 rfl) ?_
  refine lv_dup hx hb dX3_bookCouple_39 rfl ?_
  refine va_get (D := D) (ci := 3) (v := .int C.2.2.2.2.2.2.2) (C := RX3) (T := TX3) (N := 14) hx hb hts (by decide +kernel) hown hK hP 0 rfl rfl 12 (by decide) (hts (.fieldLink RX3 92 "DanceHall$State" "allCouples" "I") (by decide +kernel)) (fun _ h9 => h9) rfl dX3_bookCouple_40 ?_
  refine lv_iconst (v := nI 1) hx hb dX3_bookCouple_43 (by decide) ?_
  refine lv_iadd hx hb dX3_bookCouple_44 ?_
  refine va_put (D := D) (ci := 3) (v := .int (C.2.2.2.2.2.2.2 + (nI 1))) (ty := .int) (C := RX3) (T := TX3) (N := 14) hx hb hts (by decide +kernel) tyX3 tyX3_ok nmX3 hown hK hP hD hS 0 rfl rfl 12 (by decide) (hts (.fieldLink RX3 92 "DanceHall$State" "allCouples" "I") (by decide +kernel)) (fun _ h9 => h9) rfl (by decide +kernel) rfl rfl (Nat.le_of_ble_eq_true rfl) dX3_bookCouple_45 (fun H locs hP hD hS => ?_)
  have hP : va_P D vwCl (bkF [sO a (C.1, C.2.1, C.2.2.1, C.2.2.2.1, C.2.2.2.2.1 + (nI 2), C.2.2.2.2.2.1, C.2.2.2.2.2.2.1, C.2.2.2.2.2.2.2 + (nI 1)), gW cy a 1 (upd L.1 i (L.1 i - nI 1), L.2.1, L.2.2.1, L.2.2.2.1, upd L.2.2.2.2.1 i (L.2.2.2.2.1 i + nI 1), L.2.2.2.2.2), gW cy a 7 (upd F.1 j (F.1 j - nI 1), F.2.1, F.2.2.1, F.2.2.2.1, upd F.2.2.2.2.1 j (F.2.2.2.2.1 j + nI 1), F.2.2.2.2.2), sA cy a Ar, rW cy a (kup d i (upd (d i) j (nI C.2.2.2.2.2.2.1)))]) H := hP
  have hD : va_D A (bkF [sO a (C.1, C.2.1, C.2.2.1, C.2.2.2.1, C.2.2.2.2.1 + (nI 2), C.2.2.2.2.2.1, C.2.2.2.2.2.2.1, C.2.2.2.2.2.2.2 + (nI 1)), gW cy a 1 (upd L.1 i (L.1 i - nI 1), L.2.1, L.2.2.1, L.2.2.2.1, upd L.2.2.2.2.1 i (L.2.2.2.2.1 i + nI 1), L.2.2.2.2.2), gW cy a 7 (upd F.1 j (F.1 j - nI 1), F.2.1, F.2.2.1, F.2.2.2.1, upd F.2.2.2.2.1 j (F.2.2.2.2.1 j + nI 1), F.2.2.2.2.2), sA cy a Ar, rW cy a (kup d i (upd (d i) j (nI C.2.2.2.2.2.2.1)))]) := hD
  exact kr_v (post := fun u_ : Unit => True) (Bs := fun u_ : Unit => [sO a (C.1, C.2.1, C.2.2.1, C.2.2.2.1, C.2.2.2.2.1 + nI 2, C.2.2.2.2.2.1, C.2.2.2.2.2.2.1, C.2.2.2.2.2.2.2 + nI 1), gW cy a 1 (upd L.1 i (L.1 i - nI 1), L.2.1, L.2.2.1, L.2.2.2.1, upd L.2.2.2.2.1 i (L.2.2.2.2.1 i + nI 1), L.2.2.2.2.2), gW cy a 7 (upd F.1 j (F.1 j - nI 1), F.2.1, F.2.2.1, F.2.2.2.1, upd F.2.2.2.2.1 j (F.2.2.2.2.1 j + nI 1), F.2.2.2.2.2), sA cy a Ar, rW cy a (kup d i (upd (d i) j (nI C.2.2.2.2.2.2.1)))]) hx hb hr hlocks () hP hK hD hS trivial dX3_bookCouple_48 hQ
abbrev rm_X3_forgetDances : Room := { frames := 1, cells := 0, slots := 0, locals := 23 }
set_option maxHeartbeats 1000000 in
set_option maxRecDepth 100000 in
/-- forgetDances -/
theorem c_X3_forgetDances (l : Launch) (D : va_G) (cy : Nat → ClassId) (a : Nat → Nat) (C : rC) (Ar : rA) (d : Nat → Nat → Int32) (sz : Nat) : Met l yX3_forgetDances wsX3_forgetDances rm_X3_forgetDances (va_Pc [.ref (a 0)] (kPre D (kT cy) [sO a C, sA cy a Ar, rW cy a d] sz)) (va_Qv (fun u_ : Unit => True) (kFr D (kT cy) [sO a C, sA cy a Ar, rW cy a d] sz (fun u_ : Unit => [sO a (C.1, C.2.1, C.2.2.1, C.2.2.2.1, C.2.2.2.2.1, C.2.2.2.2.2.1, 0, C.2.2.2.2.2.2.2), sA cy a Ar, rW cy a (fun _ _ => (-1 : Int32))])) (va_A (bkF [sO a C, sA cy a Ar, rW cy a d]) sz)) 0 0 (va_A (bkF [sO a C, sA cy a Ar, rW cy a d]) sz) := by
  refine kOpen (y := yX3_forgetDances) (ws := wsX3_forgetDances) (cc := cX3_forgetDances) (maxL := 2) (ret := none) (av := [.ref (a 0)]) (Bs := [sO a C, sA cy a Ar, rW cy a d]) (Qc := fun A => (va_Qv (fun u_ : Unit => True) (fun (u_ : Unit) t9 => kEnd D (kT cy) A [sO a (C.1, C.2.1, C.2.2.1, C.2.2.2.1, C.2.2.2.2.1, C.2.2.2.2.2.1, 0, C.2.2.2.2.2.2.2), sA cy a Ar, rW cy a (fun _ _ => (-1 : Int32))] t9) A)) (by decide) rfl (Nat.le_of_ble_eq_true rfl) ?_
  intro p e s m args below meth c A Q ls hQ hx hb hml hr hlocks hin hts hown hN hK hP hD hS hA hsz hAe hl
  clear hAe
  have hl : lv_has ls 2 [(0, .ref (a 0))] := hl
  suffices K9 : ∀ (H : Heap) (locs : List Loc), va_P D vwCl (bkF [sO a C, sA cy a Ar, rW cy a d]) H → va_S A s.heap H locs → W p l e (headSpec wsX3_forgetDances rm_X3_forgetDances).room s m args below meth c H locs 0 0 Q (F0 m 0 ls []) from K9 _ _ hP hS
  clear hP hS
  intro H locs hP hS
  refine lv_aload_n hx hb dX3_forgetDances_0 rfl (lv_at hl 0 rfl) ?_
  refine lv_iconst (v := nI 0) hx hb dX3_forgetDances_1 (by decide) ?_
  refine va_put (D := D) (ci := 3) (v := .int (nI 0)) (ty := .int) (C := RX3) (T := TX3) (N := 14) hx hb hts (by decide +kernel) tyX3 tyX3_ok nmX3 hown hK hP hD hS 0 rfl rfl 11 (by decide) (hts (.fieldLink RX3 62 "DanceHall$State" "dances" "I") (by decide +kernel)) (fun _ h9 => h9) rfl (by decide +kernel) rfl rfl (Nat.le_of_ble_eq_true rfl) dX3_forgetDances_2 (fun H locs hP hD hS => ?_)
  have hP : va_P D vwCl (bkF [sO a (C.1, C.2.1, C.2.2.1, C.2.2.2.1, C.2.2.2.2.1, C.2.2.2.2.2.1, 0, C.2.2.2.2.2.2.2), sA cy a Ar, rW cy a d]) H := hP
  have hD : va_D A (bkF [sO a (C.1, C.2.1, C.2.2.1, C.2.2.2.1, C.2.2.2.2.1, C.2.2.2.2.2.1, 0, C.2.2.2.2.2.2.2), sA cy a Ar, rW cy a d]) := hD
  refine lv_iconst (v := nI 0) hx hb dX3_forgetDances_5 (by decide) ?_
  refine lv_istore_n (lv' := [(1, .int (nI 0)), (0, .ref (a 0))]) hx hb dX3_forgetDances_6 rfl hl (by decide) rfl (fun ls hl => ?_)
  refine lv_iload_n hx hb dX3_forgetDances_7 rfl (lv_at hl 0 rfl) ?_
  refine lv_bipush (v := nI 8) hx hb dX3_forgetDances_8 (by decide) ?_
  refine lv_icmp_ge (tgt := 29) hx hb dX3_forgetDances_10 (by decide) (fun h => absurd h (by decide)) (fun _ => ?_)
  refine lv_aload_n hx hb dX3_forgetDances_13 rfl (lv_at hl 1 rfl) ?_
  refine va_get (D := D) (ci := 3) (v := .ref (a 16)) (C := RX3) (T := TX3) (N := 14) hx hb hts (by decide +kernel) hown hK hP 0 rfl rfl 13 (by decide) (hts (.fieldLink RX3 43 "DanceHall$State" "danceOf" "[[I") (by decide +kernel)) (fun _ h9 => h9) rfl dX3_forgetDances_14 ?_
  refine lv_iload_n hx hb dX3_forgetDances_17 rfl (lv_at hl 0 rfl) ?_
  refine va_aldA hx hb hK hP 4 4 rfl rfl (vp_in_nI (n := 0) (N := 8) (by decide) (by decide)) dX3_forgetDances_18 ?_
  refine kv_w (y := .ref (a 17)) rfl ?_
  refine lv_iconst (v := (-1 : Int32)) hx hb dX3_forgetDances_19 (by decide) ?_
  have hP : va_P D vwCl (bkF [sO a (C.1, C.2.1, C.2.2.1, C.2.2.2.1, C.2.2.2.2.1, C.2.2.2.2.2.1, 0, C.2.2.2.2.2.2.2), sA cy a Ar, [((a 17), .inl (cy 0, 8, .inl (d 0)))], [((a 18), .inl (cy 0, 8, .inl (d 1)))], [((a 19), .inl (cy 0, 8, .inl (d 2)))], [((a 20), .inl (cy 0, 8, .inl (d 3)))], [((a 21), .inl (cy 0, 8, .inl (d 4)))], [((a 22), .inl (cy 0, 8, .inl (d 5)))], [((a 23), .inl (cy 0, 8, .inl (d 6)))], [((a 24), .inl (cy 0, 8, .inl (d 7)))]]) H := hP
  have hD : va_D A (bkF [sO a (C.1, C.2.1, C.2.2.1, C.2.2.2.1, C.2.2.2.2.1, C.2.2.2.2.2.1, 0, C.2.2.2.2.2.2.2), sA cy a Ar, [((a 17), .inl (cy 0, 8, .inl (d 0)))], [((a 18), .inl (cy 0, 8, .inl (d 1)))], [((a 19), .inl (cy 0, 8, .inl (d 2)))], [((a 20), .inl (cy 0, 8, .inl (d 3)))], [((a 21), .inl (cy 0, 8, .inl (d 4)))], [((a 22), .inl (cy 0, 8, .inl (d 5)))], [((a 23), .inl (cy 0, 8, .inl (d 6)))], [((a 24), .inl (cy 0, 8, .inl (d 7)))]]) := hD
  refine kc_v (Cs := [[((a 17), .inl (cy 0, 8, .inl (d 0)))]]) (Rs := [sO a (C.1, C.2.1, C.2.2.1, C.2.2.2.1, C.2.2.2.2.1, C.2.2.2.2.2.1, 0, C.2.2.2.2.2.2.2), sA cy a Ar, [((a 18), .inl (cy 0, 8, .inl (d 1)))], [((a 19), .inl (cy 0, 8, .inl (d 2)))], [((a 20), .inl (cy 0, 8, .inl (d 3)))], [((a 21), .inl (cy 0, 8, .inl (d 4)))], [((a 22), .inl (cy 0, 8, .inl (d 5)))], [((a 23), .inl (cy 0, 8, .inl (d 6)))], [((a 24), .inl (cy 0, 8, .inl (d 7)))]]) (Bs := [sO a (C.1, C.2.1, C.2.2.1, C.2.2.2.1, C.2.2.2.2.1, C.2.2.2.2.2.1, 0, C.2.2.2.2.2.2.2), sA cy a Ar, [((a 17), .inl (cy 0, 8, .inl (d 0)))], [((a 18), .inl (cy 0, 8, .inl (d 1)))], [((a 19), .inl (cy 0, 8, .inl (d 2)))], [((a 20), .inl (cy 0, 8, .inl (d 3)))], [((a 21), .inl (cy 0, 8, .inl (d 4)))], [((a 22), .inl (cy 0, 8, .inl (d 5)))], [((a 23), .inl (cy 0, 8, .inl (d 6)))], [((a 24), .inl (cy 0, 8, .inl (d 7)))]]) (Cs' := fun u_ : Unit => [[((a 17), .inl (cy 0, 8, .inl (fun _ => (-1))))]]) (Fs := fun u_ : Unit => [sO a (C.1, C.2.1, C.2.2.1, C.2.2.2.1, C.2.2.2.2.1, C.2.2.2.2.2.1, 0, C.2.2.2.2.2.2.2), sA cy a Ar, [((a 17), .inl (cy 0, 8, .inl (fun _ => (-1))))], [((a 18), .inl (cy 0, 8, .inl (d 1)))], [((a 19), .inl (cy 0, 8, .inl (d 2)))], [((a 20), .inl (cy 0, 8, .inl (d 3)))], [((a 21), .inl (cy 0, 8, .inl (d 4)))], [((a 22), .inl (cy 0, 8, .inl (d 5)))], [((a 23), .inl (cy 0, 8, .inl (d 6)))], [((a 24), .inl (cy 0, 8, .inl (d 7)))]]) hP hD hS hA [2] [0, 1, 3, 4, 5, 6, 7, 8, 9] [0, 1, 9, 2, 3, 4, 5, 6, 7, 8] rfl rfl (by decide) (by decide) (fun _ => rfl) (va_runS (As := [.ref (a 17), .int (-1)]) (rest := []) ⟨hx, hb, hml, hown, hts⟩ (c_J7_fill l D cy (a 17) 8 (d 0) (-1) (by first | assumption | omega | decide) H.size) (va_cwS 2 hts gX3_forgetDances_J7_fill_53178 rfl rfl rfl (by decide +kernel) ⟨Nat.le_of_ble_eq_true rfl, Nat.le_of_ble_eq_true rfl⟩) (kPre_S hK hN hP hD [2] (by decide) rfl) rfl rfl hl.1 rfl (lv_room (Nat.le_of_ble_eq_true rfl)) dX3_forgetDances_20 ⟨Nat.le_of_ble_eq_true rfl, Nat.le_of_ble_eq_true rfl⟩) (fun u_ H locs hw hP hD hS => ?_)
  have hP : va_P D vwCl (bkF [sO a (C.1, C.2.1, C.2.2.1, C.2.2.2.1, C.2.2.2.2.1, C.2.2.2.2.2.1, 0, C.2.2.2.2.2.2.2), sA cy a Ar, [(a 17, .inl (cy 0, 8, .inl (fun _ => (-1)))), (a 18, .inl (cy 0, 8, .inl (d 1))), (a 19, .inl (cy 0, 8, .inl (d 2))), (a 20, .inl (cy 0, 8, .inl (d 3))), (a 21, .inl (cy 0, 8, .inl (d 4))), (a 22, .inl (cy 0, 8, .inl (d 5))), (a 23, .inl (cy 0, 8, .inl (d 6))), (a 24, .inl (cy 0, 8, .inl (d 7)))]]) H := hP
  have hD : va_D A (bkF [sO a (C.1, C.2.1, C.2.2.1, C.2.2.2.1, C.2.2.2.2.1, C.2.2.2.2.2.1, 0, C.2.2.2.2.2.2.2), sA cy a Ar, [(a 17, .inl (cy 0, 8, .inl (fun _ => (-1)))), (a 18, .inl (cy 0, 8, .inl (d 1))), (a 19, .inl (cy 0, 8, .inl (d 2))), (a 20, .inl (cy 0, 8, .inl (d 3))), (a 21, .inl (cy 0, 8, .inl (d 4))), (a 22, .inl (cy 0, 8, .inl (d 5))), (a 23, .inl (cy 0, 8, .inl (d 6))), (a 24, .inl (cy 0, 8, .inl (d 7)))]]) := hD
  refine lv_iinc (v := nI 1) (lv' := [(1, .int (nI 1)), (0, .ref (a 0))]) hx hb dX3_forgetDances_23 hl (k := 0) rfl (by decide) (by decide) rfl (fun ls hl => ?_)
  refine lv_goto (tgt := 7) hx hb dX3_forgetDances_26 (by decide) ?_
  refine lv_iload_n hx hb dX3_forgetDances_7 rfl (lv_at hl 0 rfl) ?_
  refine lv_bipush (v := nI 8) hx hb dX3_forgetDances_8 (by decide) ?_
  refine lv_icmp_ge (tgt := 29) hx hb dX3_forgetDances_10 (by decide) (fun h => absurd h (by decide)) (fun _ => ?_)
  refine lv_aload_n hx hb dX3_forgetDances_13 rfl (lv_at hl 1 rfl) ?_
  refine va_get (D := D) (ci := 3) (v := .ref (a 16)) (C := RX3) (T := TX3) (N := 14) hx hb hts (by decide +kernel) hown hK hP 0 rfl rfl 13 (by decide) (hts (.fieldLink RX3 43 "DanceHall$State" "danceOf" "[[I") (by decide +kernel)) (fun _ h9 => h9) rfl dX3_forgetDances_14 ?_
  refine lv_iload_n hx hb dX3_forgetDances_17 rfl (lv_at hl 0 rfl) ?_
  refine va_aldA hx hb hK hP 4 4 rfl rfl (vp_in_nI (n := 1) (N := 8) (by decide) (by decide)) dX3_forgetDances_18 ?_
  refine kv_w (y := .ref (a 18)) rfl ?_
  refine lv_iconst (v := (-1 : Int32)) hx hb dX3_forgetDances_19 (by decide) ?_
  have hP : va_P D vwCl (bkF [sO a (C.1, C.2.1, C.2.2.1, C.2.2.2.1, C.2.2.2.2.1, C.2.2.2.2.2.1, 0, C.2.2.2.2.2.2.2), sA cy a Ar, [((a 17), .inl (cy 0, 8, .inl (fun _ => (-1))))], [((a 18), .inl (cy 0, 8, .inl (d 1)))], [((a 19), .inl (cy 0, 8, .inl (d 2)))], [((a 20), .inl (cy 0, 8, .inl (d 3)))], [((a 21), .inl (cy 0, 8, .inl (d 4)))], [((a 22), .inl (cy 0, 8, .inl (d 5)))], [((a 23), .inl (cy 0, 8, .inl (d 6)))], [((a 24), .inl (cy 0, 8, .inl (d 7)))]]) H := hP
  have hD : va_D A (bkF [sO a (C.1, C.2.1, C.2.2.1, C.2.2.2.1, C.2.2.2.2.1, C.2.2.2.2.2.1, 0, C.2.2.2.2.2.2.2), sA cy a Ar, [((a 17), .inl (cy 0, 8, .inl (fun _ => (-1))))], [((a 18), .inl (cy 0, 8, .inl (d 1)))], [((a 19), .inl (cy 0, 8, .inl (d 2)))], [((a 20), .inl (cy 0, 8, .inl (d 3)))], [((a 21), .inl (cy 0, 8, .inl (d 4)))], [((a 22), .inl (cy 0, 8, .inl (d 5)))], [((a 23), .inl (cy 0, 8, .inl (d 6)))], [((a 24), .inl (cy 0, 8, .inl (d 7)))]]) := hD
  refine kc_v (Cs := [[((a 18), .inl (cy 0, 8, .inl (d 1)))]]) (Rs := [sO a (C.1, C.2.1, C.2.2.1, C.2.2.2.1, C.2.2.2.2.1, C.2.2.2.2.2.1, 0, C.2.2.2.2.2.2.2), sA cy a Ar, [((a 17), .inl (cy 0, 8, .inl (fun _ => (-1))))], [((a 19), .inl (cy 0, 8, .inl (d 2)))], [((a 20), .inl (cy 0, 8, .inl (d 3)))], [((a 21), .inl (cy 0, 8, .inl (d 4)))], [((a 22), .inl (cy 0, 8, .inl (d 5)))], [((a 23), .inl (cy 0, 8, .inl (d 6)))], [((a 24), .inl (cy 0, 8, .inl (d 7)))]]) (Bs := [sO a (C.1, C.2.1, C.2.2.1, C.2.2.2.1, C.2.2.2.2.1, C.2.2.2.2.2.1, 0, C.2.2.2.2.2.2.2), sA cy a Ar, [((a 17), .inl (cy 0, 8, .inl (fun _ => (-1))))], [((a 18), .inl (cy 0, 8, .inl (d 1)))], [((a 19), .inl (cy 0, 8, .inl (d 2)))], [((a 20), .inl (cy 0, 8, .inl (d 3)))], [((a 21), .inl (cy 0, 8, .inl (d 4)))], [((a 22), .inl (cy 0, 8, .inl (d 5)))], [((a 23), .inl (cy 0, 8, .inl (d 6)))], [((a 24), .inl (cy 0, 8, .inl (d 7)))]]) (Cs' := fun u_ : Unit => [[((a 18), .inl (cy 0, 8, .inl (fun _ => (-1))))]]) (Fs := fun u_ : Unit => [sO a (C.1, C.2.1, C.2.2.1, C.2.2.2.1, C.2.2.2.2.1, C.2.2.2.2.2.1, 0, C.2.2.2.2.2.2.2), sA cy a Ar, [((a 17), .inl (cy 0, 8, .inl (fun _ => (-1))))], [((a 18), .inl (cy 0, 8, .inl (fun _ => (-1))))], [((a 19), .inl (cy 0, 8, .inl (d 2)))], [((a 20), .inl (cy 0, 8, .inl (d 3)))], [((a 21), .inl (cy 0, 8, .inl (d 4)))], [((a 22), .inl (cy 0, 8, .inl (d 5)))], [((a 23), .inl (cy 0, 8, .inl (d 6)))], [((a 24), .inl (cy 0, 8, .inl (d 7)))]]) hP hD hS hA [3] [0, 1, 2, 4, 5, 6, 7, 8, 9] [0, 1, 2, 9, 3, 4, 5, 6, 7, 8] rfl rfl (by decide) (by decide) (fun _ => rfl) (va_runS (As := [.ref (a 18), .int (-1)]) (rest := []) ⟨hx, hb, hml, hown, hts⟩ (c_J7_fill l D cy (a 18) 8 (d 1) (-1) (by first | assumption | omega | decide) H.size) (va_cwS 2 hts gX3_forgetDances_J7_fill_53178 rfl rfl rfl (by decide +kernel) ⟨Nat.le_of_ble_eq_true rfl, Nat.le_of_ble_eq_true rfl⟩) (kPre_S hK hN hP hD [3] (by decide) rfl) rfl rfl hl.1 rfl (lv_room (Nat.le_of_ble_eq_true rfl)) dX3_forgetDances_20 ⟨Nat.le_of_ble_eq_true rfl, Nat.le_of_ble_eq_true rfl⟩) (fun u_ H locs hw hP hD hS => ?_)
  have hP : va_P D vwCl (bkF [sO a (C.1, C.2.1, C.2.2.1, C.2.2.2.1, C.2.2.2.2.1, C.2.2.2.2.2.1, 0, C.2.2.2.2.2.2.2), sA cy a Ar, [(a 17, .inl (cy 0, 8, .inl (fun _ => (-1)))), (a 18, .inl (cy 0, 8, .inl (fun _ => (-1)))), (a 19, .inl (cy 0, 8, .inl (d 2))), (a 20, .inl (cy 0, 8, .inl (d 3))), (a 21, .inl (cy 0, 8, .inl (d 4))), (a 22, .inl (cy 0, 8, .inl (d 5))), (a 23, .inl (cy 0, 8, .inl (d 6))), (a 24, .inl (cy 0, 8, .inl (d 7)))]]) H := hP
  have hD : va_D A (bkF [sO a (C.1, C.2.1, C.2.2.1, C.2.2.2.1, C.2.2.2.2.1, C.2.2.2.2.2.1, 0, C.2.2.2.2.2.2.2), sA cy a Ar, [(a 17, .inl (cy 0, 8, .inl (fun _ => (-1)))), (a 18, .inl (cy 0, 8, .inl (fun _ => (-1)))), (a 19, .inl (cy 0, 8, .inl (d 2))), (a 20, .inl (cy 0, 8, .inl (d 3))), (a 21, .inl (cy 0, 8, .inl (d 4))), (a 22, .inl (cy 0, 8, .inl (d 5))), (a 23, .inl (cy 0, 8, .inl (d 6))), (a 24, .inl (cy 0, 8, .inl (d 7)))]]) := hD
  refine lv_iinc (v := nI 2) (lv' := [(1, .int (nI 2)), (0, .ref (a 0))]) hx hb dX3_forgetDances_23 hl (k := 0) rfl (by decide) (by decide) rfl (fun ls hl => ?_)
  refine lv_goto (tgt := 7) hx hb dX3_forgetDances_26 (by decide) ?_
  refine lv_iload_n hx hb dX3_forgetDances_7 rfl (lv_at hl 0 rfl) ?_
  refine lv_bipush (v := nI 8) hx hb dX3_forgetDances_8 (by decide) ?_
  refine lv_icmp_ge (tgt := 29) hx hb dX3_forgetDances_10 (by decide) (fun h => absurd h (by decide)) (fun _ => ?_)
  refine lv_aload_n hx hb dX3_forgetDances_13 rfl (lv_at hl 1 rfl) ?_
  refine va_get (D := D) (ci := 3) (v := .ref (a 16)) (C := RX3) (T := TX3) (N := 14) hx hb hts (by decide +kernel) hown hK hP 0 rfl rfl 13 (by decide) (hts (.fieldLink RX3 43 "DanceHall$State" "danceOf" "[[I") (by decide +kernel)) (fun _ h9 => h9) rfl dX3_forgetDances_14 ?_
  refine lv_iload_n hx hb dX3_forgetDances_17 rfl (lv_at hl 0 rfl) ?_
  refine va_aldA hx hb hK hP 4 4 rfl rfl (vp_in_nI (n := 2) (N := 8) (by decide) (by decide)) dX3_forgetDances_18 ?_
  refine kv_w (y := .ref (a 19)) rfl ?_
  refine lv_iconst (v := (-1 : Int32)) hx hb dX3_forgetDances_19 (by decide) ?_
  have hP : va_P D vwCl (bkF [sO a (C.1, C.2.1, C.2.2.1, C.2.2.2.1, C.2.2.2.2.1, C.2.2.2.2.2.1, 0, C.2.2.2.2.2.2.2), sA cy a Ar, [((a 17), .inl (cy 0, 8, .inl (fun _ => (-1))))], [((a 18), .inl (cy 0, 8, .inl (fun _ => (-1))))], [((a 19), .inl (cy 0, 8, .inl (d 2)))], [((a 20), .inl (cy 0, 8, .inl (d 3)))], [((a 21), .inl (cy 0, 8, .inl (d 4)))], [((a 22), .inl (cy 0, 8, .inl (d 5)))], [((a 23), .inl (cy 0, 8, .inl (d 6)))], [((a 24), .inl (cy 0, 8, .inl (d 7)))]]) H := hP
  have hD : va_D A (bkF [sO a (C.1, C.2.1, C.2.2.1, C.2.2.2.1, C.2.2.2.2.1, C.2.2.2.2.2.1, 0, C.2.2.2.2.2.2.2), sA cy a Ar, [((a 17), .inl (cy 0, 8, .inl (fun _ => (-1))))], [((a 18), .inl (cy 0, 8, .inl (fun _ => (-1))))], [((a 19), .inl (cy 0, 8, .inl (d 2)))], [((a 20), .inl (cy 0, 8, .inl (d 3)))], [((a 21), .inl (cy 0, 8, .inl (d 4)))], [((a 22), .inl (cy 0, 8, .inl (d 5)))], [((a 23), .inl (cy 0, 8, .inl (d 6)))], [((a 24), .inl (cy 0, 8, .inl (d 7)))]]) := hD
  refine kc_v (Cs := [[((a 19), .inl (cy 0, 8, .inl (d 2)))]]) (Rs := [sO a (C.1, C.2.1, C.2.2.1, C.2.2.2.1, C.2.2.2.2.1, C.2.2.2.2.2.1, 0, C.2.2.2.2.2.2.2), sA cy a Ar, [((a 17), .inl (cy 0, 8, .inl (fun _ => (-1))))], [((a 18), .inl (cy 0, 8, .inl (fun _ => (-1))))], [((a 20), .inl (cy 0, 8, .inl (d 3)))], [((a 21), .inl (cy 0, 8, .inl (d 4)))], [((a 22), .inl (cy 0, 8, .inl (d 5)))], [((a 23), .inl (cy 0, 8, .inl (d 6)))], [((a 24), .inl (cy 0, 8, .inl (d 7)))]]) (Bs := [sO a (C.1, C.2.1, C.2.2.1, C.2.2.2.1, C.2.2.2.2.1, C.2.2.2.2.2.1, 0, C.2.2.2.2.2.2.2), sA cy a Ar, [((a 17), .inl (cy 0, 8, .inl (fun _ => (-1))))], [((a 18), .inl (cy 0, 8, .inl (fun _ => (-1))))], [((a 19), .inl (cy 0, 8, .inl (d 2)))], [((a 20), .inl (cy 0, 8, .inl (d 3)))], [((a 21), .inl (cy 0, 8, .inl (d 4)))], [((a 22), .inl (cy 0, 8, .inl (d 5)))], [((a 23), .inl (cy 0, 8, .inl (d 6)))], [((a 24), .inl (cy 0, 8, .inl (d 7)))]]) (Cs' := fun u_ : Unit => [[((a 19), .inl (cy 0, 8, .inl (fun _ => (-1))))]]) (Fs := fun u_ : Unit => [sO a (C.1, C.2.1, C.2.2.1, C.2.2.2.1, C.2.2.2.2.1, C.2.2.2.2.2.1, 0, C.2.2.2.2.2.2.2), sA cy a Ar, [((a 17), .inl (cy 0, 8, .inl (fun _ => (-1))))], [((a 18), .inl (cy 0, 8, .inl (fun _ => (-1))))], [((a 19), .inl (cy 0, 8, .inl (fun _ => (-1))))], [((a 20), .inl (cy 0, 8, .inl (d 3)))], [((a 21), .inl (cy 0, 8, .inl (d 4)))], [((a 22), .inl (cy 0, 8, .inl (d 5)))], [((a 23), .inl (cy 0, 8, .inl (d 6)))], [((a 24), .inl (cy 0, 8, .inl (d 7)))]]) hP hD hS hA [4] [0, 1, 2, 3, 5, 6, 7, 8, 9] [0, 1, 2, 3, 9, 4, 5, 6, 7, 8] rfl rfl (by decide) (by decide) (fun _ => rfl) (va_runS (As := [.ref (a 19), .int (-1)]) (rest := []) ⟨hx, hb, hml, hown, hts⟩ (c_J7_fill l D cy (a 19) 8 (d 2) (-1) (by first | assumption | omega | decide) H.size) (va_cwS 2 hts gX3_forgetDances_J7_fill_53178 rfl rfl rfl (by decide +kernel) ⟨Nat.le_of_ble_eq_true rfl, Nat.le_of_ble_eq_true rfl⟩) (kPre_S hK hN hP hD [4] (by decide) rfl) rfl rfl hl.1 rfl (lv_room (Nat.le_of_ble_eq_true rfl)) dX3_forgetDances_20 ⟨Nat.le_of_ble_eq_true rfl, Nat.le_of_ble_eq_true rfl⟩) (fun u_ H locs hw hP hD hS => ?_)
  have hP : va_P D vwCl (bkF [sO a (C.1, C.2.1, C.2.2.1, C.2.2.2.1, C.2.2.2.2.1, C.2.2.2.2.2.1, 0, C.2.2.2.2.2.2.2), sA cy a Ar, [(a 17, .inl (cy 0, 8, .inl (fun _ => (-1)))), (a 18, .inl (cy 0, 8, .inl (fun _ => (-1)))), (a 19, .inl (cy 0, 8, .inl (fun _ => (-1)))), (a 20, .inl (cy 0, 8, .inl (d 3))), (a 21, .inl (cy 0, 8, .inl (d 4))), (a 22, .inl (cy 0, 8, .inl (d 5))), (a 23, .inl (cy 0, 8, .inl (d 6))), (a 24, .inl (cy 0, 8, .inl (d 7)))]]) H := hP
  have hD : va_D A (bkF [sO a (C.1, C.2.1, C.2.2.1, C.2.2.2.1, C.2.2.2.2.1, C.2.2.2.2.2.1, 0, C.2.2.2.2.2.2.2), sA cy a Ar, [(a 17, .inl (cy 0, 8, .inl (fun _ => (-1)))), (a 18, .inl (cy 0, 8, .inl (fun _ => (-1)))), (a 19, .inl (cy 0, 8, .inl (fun _ => (-1)))), (a 20, .inl (cy 0, 8, .inl (d 3))), (a 21, .inl (cy 0, 8, .inl (d 4))), (a 22, .inl (cy 0, 8, .inl (d 5))), (a 23, .inl (cy 0, 8, .inl (d 6))), (a 24, .inl (cy 0, 8, .inl (d 7)))]]) := hD
  refine lv_iinc (v := nI 3) (lv' := [(1, .int (nI 3)), (0, .ref (a 0))]) hx hb dX3_forgetDances_23 hl (k := 0) rfl (by decide) (by decide) rfl (fun ls hl => ?_)
  refine lv_goto (tgt := 7) hx hb dX3_forgetDances_26 (by decide) ?_
  refine lv_iload_n hx hb dX3_forgetDances_7 rfl (lv_at hl 0 rfl) ?_
  refine lv_bipush (v := nI 8) hx hb dX3_forgetDances_8 (by decide) ?_
  refine lv_icmp_ge (tgt := 29) hx hb dX3_forgetDances_10 (by decide) (fun h => absurd h (by decide)) (fun _ => ?_)
  refine lv_aload_n hx hb dX3_forgetDances_13 rfl (lv_at hl 1 rfl) ?_
  refine va_get (D := D) (ci := 3) (v := .ref (a 16)) (C := RX3) (T := TX3) (N := 14) hx hb hts (by decide +kernel) hown hK hP 0 rfl rfl 13 (by decide) (hts (.fieldLink RX3 43 "DanceHall$State" "danceOf" "[[I") (by decide +kernel)) (fun _ h9 => h9) rfl dX3_forgetDances_14 ?_
  refine lv_iload_n hx hb dX3_forgetDances_17 rfl (lv_at hl 0 rfl) ?_
  refine va_aldA hx hb hK hP 4 4 rfl rfl (vp_in_nI (n := 3) (N := 8) (by decide) (by decide)) dX3_forgetDances_18 ?_
  refine kv_w (y := .ref (a 20)) rfl ?_
  refine lv_iconst (v := (-1 : Int32)) hx hb dX3_forgetDances_19 (by decide) ?_
  have hP : va_P D vwCl (bkF [sO a (C.1, C.2.1, C.2.2.1, C.2.2.2.1, C.2.2.2.2.1, C.2.2.2.2.2.1, 0, C.2.2.2.2.2.2.2), sA cy a Ar, [((a 17), .inl (cy 0, 8, .inl (fun _ => (-1))))], [((a 18), .inl (cy 0, 8, .inl (fun _ => (-1))))], [((a 19), .inl (cy 0, 8, .inl (fun _ => (-1))))], [((a 20), .inl (cy 0, 8, .inl (d 3)))], [((a 21), .inl (cy 0, 8, .inl (d 4)))], [((a 22), .inl (cy 0, 8, .inl (d 5)))], [((a 23), .inl (cy 0, 8, .inl (d 6)))], [((a 24), .inl (cy 0, 8, .inl (d 7)))]]) H := hP
  have hD : va_D A (bkF [sO a (C.1, C.2.1, C.2.2.1, C.2.2.2.1, C.2.2.2.2.1, C.2.2.2.2.2.1, 0, C.2.2.2.2.2.2.2), sA cy a Ar, [((a 17), .inl (cy 0, 8, .inl (fun _ => (-1))))], [((a 18), .inl (cy 0, 8, .inl (fun _ => (-1))))], [((a 19), .inl (cy 0, 8, .inl (fun _ => (-1))))], [((a 20), .inl (cy 0, 8, .inl (d 3)))], [((a 21), .inl (cy 0, 8, .inl (d 4)))], [((a 22), .inl (cy 0, 8, .inl (d 5)))], [((a 23), .inl (cy 0, 8, .inl (d 6)))], [((a 24), .inl (cy 0, 8, .inl (d 7)))]]) := hD
  refine kc_v (Cs := [[((a 20), .inl (cy 0, 8, .inl (d 3)))]]) (Rs := [sO a (C.1, C.2.1, C.2.2.1, C.2.2.2.1, C.2.2.2.2.1, C.2.2.2.2.2.1, 0, C.2.2.2.2.2.2.2), sA cy a Ar, [((a 17), .inl (cy 0, 8, .inl (fun _ => (-1))))], [((a 18), .inl (cy 0, 8, .inl (fun _ => (-1))))], [((a 19), .inl (cy 0, 8, .inl (fun _ => (-1))))], [((a 21), .inl (cy 0, 8, .inl (d 4)))], [((a 22), .inl (cy 0, 8, .inl (d 5)))], [((a 23), .inl (cy 0, 8, .inl (d 6)))], [((a 24), .inl (cy 0, 8, .inl (d 7)))]]) (Bs := [sO a (C.1, C.2.1, C.2.2.1, C.2.2.2.1, C.2.2.2.2.1, C.2.2.2.2.2.1, 0, C.2.2.2.2.2.2.2), sA cy a Ar, [((a 17), .inl (cy 0, 8, .inl (fun _ => (-1))))], [((a 18), .inl (cy 0, 8, .inl (fun _ => (-1))))], [((a 19), .inl (cy 0, 8, .inl (fun _ => (-1))))], [((a 20), .inl (cy 0, 8, .inl (d 3)))], [((a 21), .inl (cy 0, 8, .inl (d 4)))], [((a 22), .inl (cy 0, 8, .inl (d 5)))], [((a 23), .inl (cy 0, 8, .inl (d 6)))], [((a 24), .inl (cy 0, 8, .inl (d 7)))]]) (Cs' := fun u_ : Unit => [[((a 20), .inl (cy 0, 8, .inl (fun _ => (-1))))]]) (Fs := fun u_ : Unit => [sO a (C.1, C.2.1, C.2.2.1, C.2.2.2.1, C.2.2.2.2.1, C.2.2.2.2.2.1, 0, C.2.2.2.2.2.2.2), sA cy a Ar, [((a 17), .inl (cy 0, 8, .inl (fun _ => (-1))))], [((a 18), .inl (cy 0, 8, .inl (fun _ => (-1))))], [((a 19), .inl (cy 0, 8, .inl (fun _ => (-1))))], [((a 20), .inl (cy 0, 8, .inl (fun _ => (-1))))], [((a 21), .inl (cy 0, 8, .inl (d 4)))], [((a 22), .inl (cy 0, 8, .inl (d 5)))], [((a 23), .inl (cy 0, 8, .inl (d 6)))], [((a 24), .inl (cy 0, 8, .inl (d 7)))]]) hP hD hS hA [5] [0, 1, 2, 3, 4, 6, 7, 8, 9] [0, 1, 2, 3, 4, 9, 5, 6, 7, 8] rfl rfl (by decide) (by decide) (fun _ => rfl) (va_runS (As := [.ref (a 20), .int (-1)]) (rest := []) ⟨hx, hb, hml, hown, hts⟩ (c_J7_fill l D cy (a 20) 8 (d 3) (-1) (by first | assumption | omega | decide) H.size) (va_cwS 2 hts gX3_forgetDances_J7_fill_53178 rfl rfl rfl (by decide +kernel) ⟨Nat.le_of_ble_eq_true rfl, Nat.le_of_ble_eq_true rfl⟩) (kPre_S hK hN hP hD [5] (by decide) rfl) rfl rfl hl.1 rfl (lv_room (Nat.le_of_ble_eq_true rfl)) dX3_forgetDances_20 ⟨Nat.le_of_ble_eq_true rfl, Nat.le_of_ble_eq_true rfl⟩) (fun u_ H locs hw hP hD hS => ?_)
  have hP : va_P D vwCl (bkF [sO a (C.1, C.2.1, C.2.2.1, C.2.2.2.1, C.2.2.2.2.1, C.2.2.2.2.2.1, 0, C.2.2.2.2.2.2.2), sA cy a Ar, [(a 17, .inl (cy 0, 8, .inl (fun _ => (-1)))), (a 18, .inl (cy 0, 8, .inl (fun _ => (-1)))), (a 19, .inl (cy 0, 8, .inl (fun _ => (-1)))), (a 20, .inl (cy 0, 8, .inl (fun _ => (-1)))), (a 21, .inl (cy 0, 8, .inl (d 4))), (a 22, .inl (cy 0, 8, .inl (d 5))), (a 23, .inl (cy 0, 8, .inl (d 6))), (a 24, .inl (cy 0, 8, .inl (d 7)))]]) H := hP
  have hD : va_D A (bkF [sO a (C.1, C.2.1, C.2.2.1, C.2.2.2.1, C.2.2.2.2.1, C.2.2.2.2.2.1, 0, C.2.2.2.2.2.2.2), sA cy a Ar, [(a 17, .inl (cy 0, 8, .inl (fun _ => (-1)))), (a 18, .inl (cy 0, 8, .inl (fun _ => (-1)))), (a 19, .inl (cy 0, 8, .inl (fun _ => (-1)))), (a 20, .inl (cy 0, 8, .inl (fun _ => (-1)))), (a 21, .inl (cy 0, 8, .inl (d 4))), (a 22, .inl (cy 0, 8, .inl (d 5))), (a 23, .inl (cy 0, 8, .inl (d 6))), (a 24, .inl (cy 0, 8, .inl (d 7)))]]) := hD
  refine lv_iinc (v := nI 4) (lv' := [(1, .int (nI 4)), (0, .ref (a 0))]) hx hb dX3_forgetDances_23 hl (k := 0) rfl (by decide) (by decide) rfl (fun ls hl => ?_)
  refine lv_goto (tgt := 7) hx hb dX3_forgetDances_26 (by decide) ?_
  refine lv_iload_n hx hb dX3_forgetDances_7 rfl (lv_at hl 0 rfl) ?_
  refine lv_bipush (v := nI 8) hx hb dX3_forgetDances_8 (by decide) ?_
  refine lv_icmp_ge (tgt := 29) hx hb dX3_forgetDances_10 (by decide) (fun h => absurd h (by decide)) (fun _ => ?_)
  refine lv_aload_n hx hb dX3_forgetDances_13 rfl (lv_at hl 1 rfl) ?_
  refine va_get (D := D) (ci := 3) (v := .ref (a 16)) (C := RX3) (T := TX3) (N := 14) hx hb hts (by decide +kernel) hown hK hP 0 rfl rfl 13 (by decide) (hts (.fieldLink RX3 43 "DanceHall$State" "danceOf" "[[I") (by decide +kernel)) (fun _ h9 => h9) rfl dX3_forgetDances_14 ?_
  refine lv_iload_n hx hb dX3_forgetDances_17 rfl (lv_at hl 0 rfl) ?_
  refine va_aldA hx hb hK hP 4 4 rfl rfl (vp_in_nI (n := 4) (N := 8) (by decide) (by decide)) dX3_forgetDances_18 ?_
  refine kv_w (y := .ref (a 21)) rfl ?_
  refine lv_iconst (v := (-1 : Int32)) hx hb dX3_forgetDances_19 (by decide) ?_
  have hP : va_P D vwCl (bkF [sO a (C.1, C.2.1, C.2.2.1, C.2.2.2.1, C.2.2.2.2.1, C.2.2.2.2.2.1, 0, C.2.2.2.2.2.2.2), sA cy a Ar, [((a 17), .inl (cy 0, 8, .inl (fun _ => (-1))))], [((a 18), .inl (cy 0, 8, .inl (fun _ => (-1))))], [((a 19), .inl (cy 0, 8, .inl (fun _ => (-1))))], [((a 20), .inl (cy 0, 8, .inl (fun _ => (-1))))], [((a 21), .inl (cy 0, 8, .inl (d 4)))], [((a 22), .inl (cy 0, 8, .inl (d 5)))], [((a 23), .inl (cy 0, 8, .inl (d 6)))], [((a 24), .inl (cy 0, 8, .inl (d 7)))]]) H := hP
  have hD : va_D A (bkF [sO a (C.1, C.2.1, C.2.2.1, C.2.2.2.1, C.2.2.2.2.1, C.2.2.2.2.2.1, 0, C.2.2.2.2.2.2.2), sA cy a Ar, [((a 17), .inl (cy 0, 8, .inl (fun _ => (-1))))], [((a 18), .inl (cy 0, 8, .inl (fun _ => (-1))))], [((a 19), .inl (cy 0, 8, .inl (fun _ => (-1))))], [((a 20), .inl (cy 0, 8, .inl (fun _ => (-1))))], [((a 21), .inl (cy 0, 8, .inl (d 4)))], [((a 22), .inl (cy 0, 8, .inl (d 5)))], [((a 23), .inl (cy 0, 8, .inl (d 6)))], [((a 24), .inl (cy 0, 8, .inl (d 7)))]]) := hD
  refine kc_v (Cs := [[((a 21), .inl (cy 0, 8, .inl (d 4)))]]) (Rs := [sO a (C.1, C.2.1, C.2.2.1, C.2.2.2.1, C.2.2.2.2.1, C.2.2.2.2.2.1, 0, C.2.2.2.2.2.2.2), sA cy a Ar, [((a 17), .inl (cy 0, 8, .inl (fun _ => (-1))))], [((a 18), .inl (cy 0, 8, .inl (fun _ => (-1))))], [((a 19), .inl (cy 0, 8, .inl (fun _ => (-1))))], [((a 20), .inl (cy 0, 8, .inl (fun _ => (-1))))], [((a 22), .inl (cy 0, 8, .inl (d 5)))], [((a 23), .inl (cy 0, 8, .inl (d 6)))], [((a 24), .inl (cy 0, 8, .inl (d 7)))]]) (Bs := [sO a (C.1, C.2.1, C.2.2.1, C.2.2.2.1, C.2.2.2.2.1, C.2.2.2.2.2.1, 0, C.2.2.2.2.2.2.2), sA cy a Ar, [((a 17), .inl (cy 0, 8, .inl (fun _ => (-1))))], [((a 18), .inl (cy 0, 8, .inl (fun _ => (-1))))], [((a 19), .inl (cy 0, 8, .inl (fun _ => (-1))))], [((a 20), .inl (cy 0, 8, .inl (fun _ => (-1))))], [((a 21), .inl (cy 0, 8, .inl (d 4)))], [((a 22), .inl (cy 0, 8, .inl (d 5)))], [((a 23), .inl (cy 0, 8, .inl (d 6)))], [((a 24), .inl (cy 0, 8, .inl (d 7)))]]) (Cs' := fun u_ : Unit => [[((a 21), .inl (cy 0, 8, .inl (fun _ => (-1))))]]) (Fs := fun u_ : Unit => [sO a (C.1, C.2.1, C.2.2.1, C.2.2.2.1, C.2.2.2.2.1, C.2.2.2.2.2.1, 0, C.2.2.2.2.2.2.2), sA cy a Ar, [((a 17), .inl (cy 0, 8, .inl (fun _ => (-1))))], [((a 18), .inl (cy 0, 8, .inl (fun _ => (-1))))], [((a 19), .inl (cy 0, 8, .inl (fun _ => (-1))))], [((a 20), .inl (cy 0, 8, .inl (fun _ => (-1))))], [((a 21), .inl (cy 0, 8, .inl (fun _ => (-1))))], [((a 22), .inl (cy 0, 8, .inl (d 5)))], [((a 23), .inl (cy 0, 8, .inl (d 6)))], [((a 24), .inl (cy 0, 8, .inl (d 7)))]]) hP hD hS hA [6] [0, 1, 2, 3, 4, 5, 7, 8, 9] [0, 1, 2, 3, 4, 5, 9, 6, 7, 8] rfl rfl (by decide) (by decide) (fun _ => rfl) (va_runS (As := [.ref (a 21), .int (-1)]) (rest := []) ⟨hx, hb, hml, hown, hts⟩ (c_J7_fill l D cy (a 21) 8 (d 4) (-1) (by first | assumption | omega | decide) H.size) (va_cwS 2 hts gX3_forgetDances_J7_fill_53178 rfl rfl rfl (by decide +kernel) ⟨Nat.le_of_ble_eq_true rfl, Nat.le_of_ble_eq_true rfl⟩) (kPre_S hK hN hP hD [6] (by decide) rfl) rfl rfl hl.1 rfl (lv_room (Nat.le_of_ble_eq_true rfl)) dX3_forgetDances_20 ⟨Nat.le_of_ble_eq_true rfl, Nat.le_of_ble_eq_true rfl⟩) (fun u_ H locs hw hP hD hS => ?_)
  have hP : va_P D vwCl (bkF [sO a (C.1, C.2.1, C.2.2.1, C.2.2.2.1, C.2.2.2.2.1, C.2.2.2.2.2.1, 0, C.2.2.2.2.2.2.2), sA cy a Ar, [(a 17, .inl (cy 0, 8, .inl (fun _ => (-1)))), (a 18, .inl (cy 0, 8, .inl (fun _ => (-1)))), (a 19, .inl (cy 0, 8, .inl (fun _ => (-1)))), (a 20, .inl (cy 0, 8, .inl (fun _ => (-1)))), (a 21, .inl (cy 0, 8, .inl (fun _ => (-1)))), (a 22, .inl (cy 0, 8, .inl (d 5))), (a 23, .inl (cy 0, 8, .inl (d 6))), (a 24, .inl (cy 0, 8, .inl (d 7)))]]) H := hP
  have hD : va_D A (bkF [sO a (C.1, C.2.1, C.2.2.1, C.2.2.2.1, C.2.2.2.2.1, C.2.2.2.2.2.1, 0, C.2.2.2.2.2.2.2), sA cy a Ar, [(a 17, .inl (cy 0, 8, .inl (fun _ => (-1)))), (a 18, .inl (cy 0, 8, .inl (fun _ => (-1)))), (a 19, .inl (cy 0, 8, .inl (fun _ => (-1)))), (a 20, .inl (cy 0, 8, .inl (fun _ => (-1)))), (a 21, .inl (cy 0, 8, .inl (fun _ => (-1)))), (a 22, .inl (cy 0, 8, .inl (d 5))), (a 23, .inl (cy 0, 8, .inl (d 6))), (a 24, .inl (cy 0, 8, .inl (d 7)))]]) := hD
  refine lv_iinc (v := nI 5) (lv' := [(1, .int (nI 5)), (0, .ref (a 0))]) hx hb dX3_forgetDances_23 hl (k := 0) rfl (by decide) (by decide) rfl (fun ls hl => ?_)
  refine lv_goto (tgt := 7) hx hb dX3_forgetDances_26 (by decide) ?_
  refine lv_iload_n hx hb dX3_forgetDances_7 rfl (lv_at hl 0 rfl) ?_
  refine lv_bipush (v := nI 8) hx hb dX3_forgetDances_8 (by decide) ?_
  refine lv_icmp_ge (tgt := 29) hx hb dX3_forgetDances_10 (by decide) (fun h => absurd h (by decide)) (fun _ => ?_)
  refine lv_aload_n hx hb dX3_forgetDances_13 rfl (lv_at hl 1 rfl) ?_
  refine va_get (D := D) (ci := 3) (v := .ref (a 16)) (C := RX3) (T := TX3) (N := 14) hx hb hts (by decide +kernel) hown hK hP 0 rfl rfl 13 (by decide) (hts (.fieldLink RX3 43 "DanceHall$State" "danceOf" "[[I") (by decide +kernel)) (fun _ h9 => h9) rfl dX3_forgetDances_14 ?_
  refine lv_iload_n hx hb dX3_forgetDances_17 rfl (lv_at hl 0 rfl) ?_
  refine va_aldA hx hb hK hP 4 4 rfl rfl (vp_in_nI (n := 5) (N := 8) (by decide) (by decide)) dX3_forgetDances_18 ?_
  refine kv_w (y := .ref (a 22)) rfl ?_
  refine lv_iconst (v := (-1 : Int32)) hx hb dX3_forgetDances_19 (by decide) ?_
  have hP : va_P D vwCl (bkF [sO a (C.1, C.2.1, C.2.2.1, C.2.2.2.1, C.2.2.2.2.1, C.2.2.2.2.2.1, 0, C.2.2.2.2.2.2.2), sA cy a Ar, [((a 17), .inl (cy 0, 8, .inl (fun _ => (-1))))], [((a 18), .inl (cy 0, 8, .inl (fun _ => (-1))))], [((a 19), .inl (cy 0, 8, .inl (fun _ => (-1))))], [((a 20), .inl (cy 0, 8, .inl (fun _ => (-1))))], [((a 21), .inl (cy 0, 8, .inl (fun _ => (-1))))], [((a 22), .inl (cy 0, 8, .inl (d 5)))], [((a 23), .inl (cy 0, 8, .inl (d 6)))], [((a 24), .inl (cy 0, 8, .inl (d 7)))]]) H := hP
  have hD : va_D A (bkF [sO a (C.1, C.2.1, C.2.2.1, C.2.2.2.1, C.2.2.2.2.1, C.2.2.2.2.2.1, 0, C.2.2.2.2.2.2.2), sA cy a Ar, [((a 17), .inl (cy 0, 8, .inl (fun _ => (-1))))], [((a 18), .inl (cy 0, 8, .inl (fun _ => (-1))))], [((a 19), .inl (cy 0, 8, .inl (fun _ => (-1))))], [((a 20), .inl (cy 0, 8, .inl (fun _ => (-1))))], [((a 21), .inl (cy 0, 8, .inl (fun _ => (-1))))], [((a 22), .inl (cy 0, 8, .inl (d 5)))], [((a 23), .inl (cy 0, 8, .inl (d 6)))], [((a 24), .inl (cy 0, 8, .inl (d 7)))]]) := hD
  refine kc_v (Cs := [[((a 22), .inl (cy 0, 8, .inl (d 5)))]]) (Rs := [sO a (C.1, C.2.1, C.2.2.1, C.2.2.2.1, C.2.2.2.2.1, C.2.2.2.2.2.1, 0, C.2.2.2.2.2.2.2), sA cy a Ar, [((a 17), .inl (cy 0, 8, .inl (fun _ => (-1))))], [((a 18), .inl (cy 0, 8, .inl (fun _ => (-1))))], [((a 19), .inl (cy 0, 8, .inl (fun _ => (-1))))], [((a 20), .inl (cy 0, 8, .inl (fun _ => (-1))))], [((a 21), .inl (cy 0, 8, .inl (fun _ => (-1))))], [((a 23), .inl (cy 0, 8, .inl (d 6)))], [((a 24), .inl (cy 0, 8, .inl (d 7)))]]) (Bs := [sO a (C.1, C.2.1, C.2.2.1, C.2.2.2.1, C.2.2.2.2.1, C.2.2.2.2.2.1, 0, C.2.2.2.2.2.2.2), sA cy a Ar, [((a 17), .inl (cy 0, 8, .inl (fun _ => (-1))))], [((a 18), .inl (cy 0, 8, .inl (fun _ => (-1))))], [((a 19), .inl (cy 0, 8, .inl (fun _ => (-1))))], [((a 20), .inl (cy 0, 8, .inl (fun _ => (-1))))], [((a 21), .inl (cy 0, 8, .inl (fun _ => (-1))))], [((a 22), .inl (cy 0, 8, .inl (d 5)))], [((a 23), .inl (cy 0, 8, .inl (d 6)))], [((a 24), .inl (cy 0, 8, .inl (d 7)))]]) (Cs' := fun u_ : Unit => [[((a 22), .inl (cy 0, 8, .inl (fun _ => (-1))))]]) (Fs := fun u_ : Unit => [sO a (C.1, C.2.1, C.2.2.1, C.2.2.2.1, C.2.2.2.2.1, C.2.2.2.2.2.1, 0, C.2.2.2.2.2.2.2), sA cy a Ar, [((a 17), .inl (cy 0, 8, .inl (fun _ => (-1))))], [((a 18), .inl (cy 0, 8, .inl (fun _ => (-1))))], [((a 19), .inl (cy 0, 8, .inl (fun _ => (-1))))], [((a 20), .inl (cy 0, 8, .inl (fun _ => (-1))))], [((a 21), .inl (cy 0, 8, .inl (fun _ => (-1))))], [((a 22), .inl (cy 0, 8, .inl (fun _ => (-1))))], [((a 23), .inl (cy 0, 8, .inl (d 6)))], [((a 24), .inl (cy 0, 8, .inl (d 7)))]]) hP hD hS hA [7] [0, 1, 2, 3, 4, 5, 6, 8, 9] [0, 1, 2, 3, 4, 5, 6, 9, 7, 8] rfl rfl (by decide) (by decide) (fun _ => rfl) (va_runS (As := [.ref (a 22), .int (-1)]) (rest := []) ⟨hx, hb, hml, hown, hts⟩ (c_J7_fill l D cy (a 22) 8 (d 5) (-1) (by first | assumption | omega | decide) H.size) (va_cwS 2 hts gX3_forgetDances_J7_fill_53178 rfl rfl rfl (by decide +kernel) ⟨Nat.le_of_ble_eq_true rfl, Nat.le_of_ble_eq_true rfl⟩) (kPre_S hK hN hP hD [7] (by decide) rfl) rfl rfl hl.1 rfl (lv_room (Nat.le_of_ble_eq_true rfl)) dX3_forgetDances_20 ⟨Nat.le_of_ble_eq_true rfl, Nat.le_of_ble_eq_true rfl⟩) (fun u_ H locs hw hP hD hS => ?_)
  have hP : va_P D vwCl (bkF [sO a (C.1, C.2.1, C.2.2.1, C.2.2.2.1, C.2.2.2.2.1, C.2.2.2.2.2.1, 0, C.2.2.2.2.2.2.2), sA cy a Ar, [(a 17, .inl (cy 0, 8, .inl (fun _ => (-1)))), (a 18, .inl (cy 0, 8, .inl (fun _ => (-1)))), (a 19, .inl (cy 0, 8, .inl (fun _ => (-1)))), (a 20, .inl (cy 0, 8, .inl (fun _ => (-1)))), (a 21, .inl (cy 0, 8, .inl (fun _ => (-1)))), (a 22, .inl (cy 0, 8, .inl (fun _ => (-1)))), (a 23, .inl (cy 0, 8, .inl (d 6))), (a 24, .inl (cy 0, 8, .inl (d 7)))]]) H := hP
  have hD : va_D A (bkF [sO a (C.1, C.2.1, C.2.2.1, C.2.2.2.1, C.2.2.2.2.1, C.2.2.2.2.2.1, 0, C.2.2.2.2.2.2.2), sA cy a Ar, [(a 17, .inl (cy 0, 8, .inl (fun _ => (-1)))), (a 18, .inl (cy 0, 8, .inl (fun _ => (-1)))), (a 19, .inl (cy 0, 8, .inl (fun _ => (-1)))), (a 20, .inl (cy 0, 8, .inl (fun _ => (-1)))), (a 21, .inl (cy 0, 8, .inl (fun _ => (-1)))), (a 22, .inl (cy 0, 8, .inl (fun _ => (-1)))), (a 23, .inl (cy 0, 8, .inl (d 6))), (a 24, .inl (cy 0, 8, .inl (d 7)))]]) := hD
  refine lv_iinc (v := nI 6) (lv' := [(1, .int (nI 6)), (0, .ref (a 0))]) hx hb dX3_forgetDances_23 hl (k := 0) rfl (by decide) (by decide) rfl (fun ls hl => ?_)
  refine lv_goto (tgt := 7) hx hb dX3_forgetDances_26 (by decide) ?_
  refine lv_iload_n hx hb dX3_forgetDances_7 rfl (lv_at hl 0 rfl) ?_
  refine lv_bipush (v := nI 8) hx hb dX3_forgetDances_8 (by decide) ?_
  refine lv_icmp_ge (tgt := 29) hx hb dX3_forgetDances_10 (by decide) (fun h => absurd h (by decide)) (fun _ => ?_)
  refine lv_aload_n hx hb dX3_forgetDances_13 rfl (lv_at hl 1 rfl) ?_
  refine va_get (D := D) (ci := 3) (v := .ref (a 16)) (C := RX3) (T := TX3) (N := 14) hx hb hts (by decide +kernel) hown hK hP 0 rfl rfl 13 (by decide) (hts (.fieldLink RX3 43 "DanceHall$State" "danceOf" "[[I") (by decide +kernel)) (fun _ h9 => h9) rfl dX3_forgetDances_14 ?_
  refine lv_iload_n hx hb dX3_forgetDances_17 rfl (lv_at hl 0 rfl) ?_
  refine va_aldA hx hb hK hP 4 4 rfl rfl (vp_in_nI (n := 6) (N := 8) (by decide) (by decide)) dX3_forgetDances_18 ?_
  refine kv_w (y := .ref (a 23)) rfl ?_
  refine lv_iconst (v := (-1 : Int32)) hx hb dX3_forgetDances_19 (by decide) ?_
  have hP : va_P D vwCl (bkF [sO a (C.1, C.2.1, C.2.2.1, C.2.2.2.1, C.2.2.2.2.1, C.2.2.2.2.2.1, 0, C.2.2.2.2.2.2.2), sA cy a Ar, [((a 17), .inl (cy 0, 8, .inl (fun _ => (-1))))], [((a 18), .inl (cy 0, 8, .inl (fun _ => (-1))))], [((a 19), .inl (cy 0, 8, .inl (fun _ => (-1))))], [((a 20), .inl (cy 0, 8, .inl (fun _ => (-1))))], [((a 21), .inl (cy 0, 8, .inl (fun _ => (-1))))], [((a 22), .inl (cy 0, 8, .inl (fun _ => (-1))))], [((a 23), .inl (cy 0, 8, .inl (d 6)))], [((a 24), .inl (cy 0, 8, .inl (d 7)))]]) H := hP
  have hD : va_D A (bkF [sO a (C.1, C.2.1, C.2.2.1, C.2.2.2.1, C.2.2.2.2.1, C.2.2.2.2.2.1, 0, C.2.2.2.2.2.2.2), sA cy a Ar, [((a 17), .inl (cy 0, 8, .inl (fun _ => (-1))))], [((a 18), .inl (cy 0, 8, .inl (fun _ => (-1))))], [((a 19), .inl (cy 0, 8, .inl (fun _ => (-1))))], [((a 20), .inl (cy 0, 8, .inl (fun _ => (-1))))], [((a 21), .inl (cy 0, 8, .inl (fun _ => (-1))))], [((a 22), .inl (cy 0, 8, .inl (fun _ => (-1))))], [((a 23), .inl (cy 0, 8, .inl (d 6)))], [((a 24), .inl (cy 0, 8, .inl (d 7)))]]) := hD
  refine kc_v (Cs := [[((a 23), .inl (cy 0, 8, .inl (d 6)))]]) (Rs := [sO a (C.1, C.2.1, C.2.2.1, C.2.2.2.1, C.2.2.2.2.1, C.2.2.2.2.2.1, 0, C.2.2.2.2.2.2.2), sA cy a Ar, [((a 17), .inl (cy 0, 8, .inl (fun _ => (-1))))], [((a 18), .inl (cy 0, 8, .inl (fun _ => (-1))))], [((a 19), .inl (cy 0, 8, .inl (fun _ => (-1))))], [((a 20), .inl (cy 0, 8, .inl (fun _ => (-1))))], [((a 21), .inl (cy 0, 8, .inl (fun _ => (-1))))], [((a 22), .inl (cy 0, 8, .inl (fun _ => (-1))))], [((a 24), .inl (cy 0, 8, .inl (d 7)))]]) (Bs := [sO a (C.1, C.2.1, C.2.2.1, C.2.2.2.1, C.2.2.2.2.1, C.2.2.2.2.2.1, 0, C.2.2.2.2.2.2.2), sA cy a Ar, [((a 17), .inl (cy 0, 8, .inl (fun _ => (-1))))], [((a 18), .inl (cy 0, 8, .inl (fun _ => (-1))))], [((a 19), .inl (cy 0, 8, .inl (fun _ => (-1))))], [((a 20), .inl (cy 0, 8, .inl (fun _ => (-1))))], [((a 21), .inl (cy 0, 8, .inl (fun _ => (-1))))], [((a 22), .inl (cy 0, 8, .inl (fun _ => (-1))))], [((a 23), .inl (cy 0, 8, .inl (d 6)))], [((a 24), .inl (cy 0, 8, .inl (d 7)))]]) (Cs' := fun u_ : Unit => [[((a 23), .inl (cy 0, 8, .inl (fun _ => (-1))))]]) (Fs := fun u_ : Unit => [sO a (C.1, C.2.1, C.2.2.1, C.2.2.2.1, C.2.2.2.2.1, C.2.2.2.2.2.1, 0, C.2.2.2.2.2.2.2), sA cy a Ar, [((a 17), .inl (cy 0, 8, .inl (fun _ => (-1))))], [((a 18), .inl (cy 0, 8, .inl (fun _ => (-1))))], [((a 19), .inl (cy 0, 8, .inl (fun _ => (-1))))], [((a 20), .inl (cy 0, 8, .inl (fun _ => (-1))))], [((a 21), .inl (cy 0, 8, .inl (fun _ => (-1))))], [((a 22), .inl (cy 0, 8, .inl (fun _ => (-1))))], [((a 23), .inl (cy 0, 8, .inl (fun _ => (-1))))], [((a 24), .inl (cy 0, 8, .inl (d 7)))]]) hP hD hS hA [8] [0, 1, 2, 3, 4, 5, 6, 7, 9] [0, 1, 2, 3, 4, 5, 6, 7, 9, 8] rfl rfl (by decide) (by decide) (fun _ => rfl) (va_runS (As := [.ref (a 23), .int (-1)]) (rest := []) ⟨hx, hb, hml, hown, hts⟩ (c_J7_fill l D cy (a 23) 8 (d 6) (-1) (by first | assumption | omega | decide) H.size) (va_cwS 2 hts gX3_forgetDances_J7_fill_53178 rfl rfl rfl (by decide +kernel) ⟨Nat.le_of_ble_eq_true rfl, Nat.le_of_ble_eq_true rfl⟩) (kPre_S hK hN hP hD [8] (by decide) rfl) rfl rfl hl.1 rfl (lv_room (Nat.le_of_ble_eq_true rfl)) dX3_forgetDances_20 ⟨Nat.le_of_ble_eq_true rfl, Nat.le_of_ble_eq_true rfl⟩) (fun u_ H locs hw hP hD hS => ?_)
  have hP : va_P D vwCl (bkF [sO a (C.1, C.2.1, C.2.2.1, C.2.2.2.1, C.2.2.2.2.1, C.2.2.2.2.2.1, 0, C.2.2.2.2.2.2.2), sA cy a Ar, [(a 17, .inl (cy 0, 8, .inl (fun _ => (-1)))), (a 18, .inl (cy 0, 8, .inl (fun _ => (-1)))), (a 19, .inl (cy 0, 8, .inl (fun _ => (-1)))), (a 20, .inl (cy 0, 8, .inl (fun _ => (-1)))), (a 21, .inl (cy 0, 8, .inl (fun _ => (-1)))), (a 22, .inl (cy 0, 8, .inl (fun _ => (-1)))), (a 23, .inl (cy 0, 8, .inl (fun _ => (-1)))), (a 24, .inl (cy 0, 8, .inl (d 7)))]]) H := hP
  have hD : va_D A (bkF [sO a (C.1, C.2.1, C.2.2.1, C.2.2.2.1, C.2.2.2.2.1, C.2.2.2.2.2.1, 0, C.2.2.2.2.2.2.2), sA cy a Ar, [(a 17, .inl (cy 0, 8, .inl (fun _ => (-1)))), (a 18, .inl (cy 0, 8, .inl (fun _ => (-1)))), (a 19, .inl (cy 0, 8, .inl (fun _ => (-1)))), (a 20, .inl (cy 0, 8, .inl (fun _ => (-1)))), (a 21, .inl (cy 0, 8, .inl (fun _ => (-1)))), (a 22, .inl (cy 0, 8, .inl (fun _ => (-1)))), (a 23, .inl (cy 0, 8, .inl (fun _ => (-1)))), (a 24, .inl (cy 0, 8, .inl (d 7)))]]) := hD
  refine lv_iinc (v := nI 7) (lv' := [(1, .int (nI 7)), (0, .ref (a 0))]) hx hb dX3_forgetDances_23 hl (k := 0) rfl (by decide) (by decide) rfl (fun ls hl => ?_)
  refine lv_goto (tgt := 7) hx hb dX3_forgetDances_26 (by decide) ?_
  refine lv_iload_n hx hb dX3_forgetDances_7 rfl (lv_at hl 0 rfl) ?_
  refine lv_bipush (v := nI 8) hx hb dX3_forgetDances_8 (by decide) ?_
  refine lv_icmp_ge (tgt := 29) hx hb dX3_forgetDances_10 (by decide) (fun h => absurd h (by decide)) (fun _ => ?_)
  refine lv_aload_n hx hb dX3_forgetDances_13 rfl (lv_at hl 1 rfl) ?_
  refine va_get (D := D) (ci := 3) (v := .ref (a 16)) (C := RX3) (T := TX3) (N := 14) hx hb hts (by decide +kernel) hown hK hP 0 rfl rfl 13 (by decide) (hts (.fieldLink RX3 43 "DanceHall$State" "danceOf" "[[I") (by decide +kernel)) (fun _ h9 => h9) rfl dX3_forgetDances_14 ?_
  refine lv_iload_n hx hb dX3_forgetDances_17 rfl (lv_at hl 0 rfl) ?_
  refine va_aldA hx hb hK hP 4 4 rfl rfl (vp_in_nI (n := 7) (N := 8) (by decide) (by decide)) dX3_forgetDances_18 ?_
  refine kv_w (y := .ref (a 24)) rfl ?_
  refine lv_iconst (v := (-1 : Int32)) hx hb dX3_forgetDances_19 (by decide) ?_
  have hP : va_P D vwCl (bkF [sO a (C.1, C.2.1, C.2.2.1, C.2.2.2.1, C.2.2.2.2.1, C.2.2.2.2.2.1, 0, C.2.2.2.2.2.2.2), sA cy a Ar, [((a 17), .inl (cy 0, 8, .inl (fun _ => (-1))))], [((a 18), .inl (cy 0, 8, .inl (fun _ => (-1))))], [((a 19), .inl (cy 0, 8, .inl (fun _ => (-1))))], [((a 20), .inl (cy 0, 8, .inl (fun _ => (-1))))], [((a 21), .inl (cy 0, 8, .inl (fun _ => (-1))))], [((a 22), .inl (cy 0, 8, .inl (fun _ => (-1))))], [((a 23), .inl (cy 0, 8, .inl (fun _ => (-1))))], [((a 24), .inl (cy 0, 8, .inl (d 7)))]]) H := hP
  have hD : va_D A (bkF [sO a (C.1, C.2.1, C.2.2.1, C.2.2.2.1, C.2.2.2.2.1, C.2.2.2.2.2.1, 0, C.2.2.2.2.2.2.2), sA cy a Ar, [((a 17), .inl (cy 0, 8, .inl (fun _ => (-1))))], [((a 18), .inl (cy 0, 8, .inl (fun _ => (-1))))], [((a 19), .inl (cy 0, 8, .inl (fun _ => (-1))))], [((a 20), .inl (cy 0, 8, .inl (fun _ => (-1))))], [((a 21), .inl (cy 0, 8, .inl (fun _ => (-1))))], [((a 22), .inl (cy 0, 8, .inl (fun _ => (-1))))], [((a 23), .inl (cy 0, 8, .inl (fun _ => (-1))))], [((a 24), .inl (cy 0, 8, .inl (d 7)))]]) := hD
  refine kc_v (Cs := [[((a 24), .inl (cy 0, 8, .inl (d 7)))]]) (Rs := [sO a (C.1, C.2.1, C.2.2.1, C.2.2.2.1, C.2.2.2.2.1, C.2.2.2.2.2.1, 0, C.2.2.2.2.2.2.2), sA cy a Ar, [((a 17), .inl (cy 0, 8, .inl (fun _ => (-1))))], [((a 18), .inl (cy 0, 8, .inl (fun _ => (-1))))], [((a 19), .inl (cy 0, 8, .inl (fun _ => (-1))))], [((a 20), .inl (cy 0, 8, .inl (fun _ => (-1))))], [((a 21), .inl (cy 0, 8, .inl (fun _ => (-1))))], [((a 22), .inl (cy 0, 8, .inl (fun _ => (-1))))], [((a 23), .inl (cy 0, 8, .inl (fun _ => (-1))))]]) (Bs := [sO a (C.1, C.2.1, C.2.2.1, C.2.2.2.1, C.2.2.2.2.1, C.2.2.2.2.2.1, 0, C.2.2.2.2.2.2.2), sA cy a Ar, [((a 17), .inl (cy 0, 8, .inl (fun _ => (-1))))], [((a 18), .inl (cy 0, 8, .inl (fun _ => (-1))))], [((a 19), .inl (cy 0, 8, .inl (fun _ => (-1))))], [((a 20), .inl (cy 0, 8, .inl (fun _ => (-1))))], [((a 21), .inl (cy 0, 8, .inl (fun _ => (-1))))], [((a 22), .inl (cy 0, 8, .inl (fun _ => (-1))))], [((a 23), .inl (cy 0, 8, .inl (fun _ => (-1))))], [((a 24), .inl (cy 0, 8, .inl (d 7)))]]) (Cs' := fun u_ : Unit => [[((a 24), .inl (cy 0, 8, .inl (fun _ => (-1))))]]) (Fs := fun u_ : Unit => [sO a (C.1, C.2.1, C.2.2.1, C.2.2.2.1, C.2.2.2.2.1, C.2.2.2.2.2.1, 0, C.2.2.2.2.2.2.2), sA cy a Ar, [((a 17), .inl (cy 0, 8, .inl (fun _ => (-1))))], [((a 18), .inl (cy 0, 8, .inl (fun _ => (-1))))], [((a 19), .inl (cy 0, 8, .inl (fun _ => (-1))))], [((a 20), .inl (cy 0, 8, .inl (fun _ => (-1))))], [((a 21), .inl (cy 0, 8, .inl (fun _ => (-1))))], [((a 22), .inl (cy 0, 8, .inl (fun _ => (-1))))], [((a 23), .inl (cy 0, 8, .inl (fun _ => (-1))))], [((a 24), .inl (cy 0, 8, .inl (fun _ => (-1))))]]) hP hD hS hA [9] [0, 1, 2, 3, 4, 5, 6, 7, 8] [0, 1, 2, 3, 4, 5, 6, 7, 8, 9] rfl rfl (by decide) (by decide) (fun _ => rfl) (va_runS (As := [.ref (a 24), .int (-1)]) (rest := []) ⟨hx, hb, hml, hown, hts⟩ (c_J7_fill l D cy (a 24) 8 (d 7) (-1) (by first | assumption | omega | decide) H.size) (va_cwS 2 hts gX3_forgetDances_J7_fill_53178 rfl rfl rfl (by decide +kernel) ⟨Nat.le_of_ble_eq_true rfl, Nat.le_of_ble_eq_true rfl⟩) (kPre_S hK hN hP hD [9] (by decide) rfl) rfl rfl hl.1 rfl (lv_room (Nat.le_of_ble_eq_true rfl)) dX3_forgetDances_20 ⟨Nat.le_of_ble_eq_true rfl, Nat.le_of_ble_eq_true rfl⟩) (fun u_ H locs hw hP hD hS => ?_)
  have hP : va_P D vwCl (bkF [sO a (C.1, C.2.1, C.2.2.1, C.2.2.2.1, C.2.2.2.2.1, C.2.2.2.2.2.1, 0, C.2.2.2.2.2.2.2), sA cy a Ar, [(a 17, .inl (cy 0, 8, .inl (fun _ => (-1)))), (a 18, .inl (cy 0, 8, .inl (fun _ => (-1)))), (a 19, .inl (cy 0, 8, .inl (fun _ => (-1)))), (a 20, .inl (cy 0, 8, .inl (fun _ => (-1)))), (a 21, .inl (cy 0, 8, .inl (fun _ => (-1)))), (a 22, .inl (cy 0, 8, .inl (fun _ => (-1)))), (a 23, .inl (cy 0, 8, .inl (fun _ => (-1)))), (a 24, .inl (cy 0, 8, .inl (fun _ => (-1))))]]) H := hP
  have hD : va_D A (bkF [sO a (C.1, C.2.1, C.2.2.1, C.2.2.2.1, C.2.2.2.2.1, C.2.2.2.2.2.1, 0, C.2.2.2.2.2.2.2), sA cy a Ar, [(a 17, .inl (cy 0, 8, .inl (fun _ => (-1)))), (a 18, .inl (cy 0, 8, .inl (fun _ => (-1)))), (a 19, .inl (cy 0, 8, .inl (fun _ => (-1)))), (a 20, .inl (cy 0, 8, .inl (fun _ => (-1)))), (a 21, .inl (cy 0, 8, .inl (fun _ => (-1)))), (a 22, .inl (cy 0, 8, .inl (fun _ => (-1)))), (a 23, .inl (cy 0, 8, .inl (fun _ => (-1)))), (a 24, .inl (cy 0, 8, .inl (fun _ => (-1))))]]) := hD
  refine lv_iinc (v := nI 8) (lv' := [(1, .int (nI 8)), (0, .ref (a 0))]) hx hb dX3_forgetDances_23 hl (k := 0) rfl (by decide) (by decide) rfl (fun ls hl => ?_)
  refine lv_goto (tgt := 7) hx hb dX3_forgetDances_26 (by decide) ?_
  refine lv_iload_n hx hb dX3_forgetDances_7 rfl (lv_at hl 0 rfl) ?_
  refine lv_bipush (v := nI 8) hx hb dX3_forgetDances_8 (by decide) ?_
  refine lv_icmp_ge (tgt := 29) hx hb dX3_forgetDances_10 (by decide) (fun _ => ?_) (fun h => absurd h (by decide))
  exact kr_v (post := fun u_ : Unit => True) (Bs := fun u_ : Unit => [sO a (C.1, C.2.1, C.2.2.1, C.2.2.2.1, C.2.2.2.2.1, C.2.2.2.2.2.1, 0, C.2.2.2.2.2.2.2), sA cy a Ar, rW cy a (fun _ _ => (-1 : Int32))]) hx hb hr hlocks () hP hK hD hS trivial dX3_forgetDances_29 hQ
abbrev rm_X3_closeNight : Room := { frames := 3, cells := 0, slots := 0, locals := 67 }
set_option maxHeartbeats 1000000 in
set_option maxRecDepth 100000 in
/-- closeNight -/
theorem c_X3_closeNight (l : Launch) (D : va_G) (cy : Nat → ClassId) (a : Nat → Nat) (C : rC) (L : rG) (F : rG) (Ar : rA) (d : Nat → Nat → Int32) (hfn : C.2.2.2.1 ≤ 4) (hf1 : 1 ≤ C.2.2.2.1) (hps : ¬ ksum Ar.2.1 C.2.2.2.1 ≤ 0) (hnl : L.2.2.2.2.2 ≤ 8) (hnf : F.2.2.2.2.2 ≤ 8) (sz : Nat) : Met l yX3_closeNight wsX3_closeNight rm_X3_closeNight (va_Pc [.ref (a 0)] (kPre D (kT cy) [sO a C, gW cy a 1 L, gW cy a 7 F, sA cy a Ar, rW cy a d] sz)) (va_Qi (fun r_ (u_ : Unit) => r_ = C.2.2.2.2.1) (kFr D (kT cy) [sO a C, gW cy a 1 L, gW cy a 7 F, sA cy a Ar, rW cy a d] sz (fun u_ : Unit => [sO a (C.1, C.2.1, C.2.2.1, C.2.2.2.1, nI 0, C.2.2.2.2.2.1 + nI 1, 0, C.2.2.2.2.2.2.2), gW cy a 1 (L.1, L.2.1, L.2.2.1, kcp (fun _ => nI 1) L.2.2.2.1 L.2.2.2.2.2, L.2.2.2.2), gW cy a 7 (F.1, F.2.1, F.2.2.1, kcp (fun _ => nI 1) F.2.2.2.1 F.2.2.2.2.2, F.2.2.2.2), sA cy a (Ar.1, Ar.2.1, kgot C Ar C.2.2.2.1), rW cy a (fun _ _ => (-1 : Int32))])) (va_A (bkF [sO a C, gW cy a 1 L, gW cy a 7 F, sA cy a Ar, rW cy a d]) sz)) 0 0 (va_A (bkF [sO a C, gW cy a 1 L, gW cy a 7 F, sA cy a Ar, rW cy a d]) sz) := by
  refine kOpen (y := yX3_closeNight) (ws := wsX3_closeNight) (cc := cX3_closeNight) (maxL := 3) (ret := (some .int)) (av := [.ref (a 0)]) (Bs := [sO a C, gW cy a 1 L, gW cy a 7 F, sA cy a Ar, rW cy a d]) (Qc := fun A => (va_Qi (fun r_ (u_ : Unit) => r_ = C.2.2.2.2.1) (fun (u_ : Unit) t9 => kEnd D (kT cy) A [sO a (C.1, C.2.1, C.2.2.1, C.2.2.2.1, nI 0, C.2.2.2.2.2.1 + nI 1, 0, C.2.2.2.2.2.2.2), gW cy a 1 (L.1, L.2.1, L.2.2.1, kcp (fun _ => nI 1) L.2.2.2.1 L.2.2.2.2.2, L.2.2.2.2), gW cy a 7 (F.1, F.2.1, F.2.2.1, kcp (fun _ => nI 1) F.2.2.2.1 F.2.2.2.2.2, F.2.2.2.2), sA cy a (Ar.1, Ar.2.1, kgot C Ar C.2.2.2.1), rW cy a (fun _ _ => (-1 : Int32))] t9) A)) (by decide) rfl (Nat.le_of_ble_eq_true rfl) ?_
  intro p e s m args below meth c A Q ls hQ hx hb hml hr hlocks hin hts hown hN hK hP hD hS hA hsz hAe hl
  clear hAe
  have hl : lv_has ls 3 [(0, .ref (a 0))] := hl
  suffices K9 : ∀ (H : Heap) (locs : List Loc), va_P D vwCl (bkF [sO a C, gW cy a 1 L, gW cy a 7 F, sA cy a Ar, rW cy a d]) H → va_S A s.heap H locs → W p l e (headSpec wsX3_closeNight rm_X3_closeNight).room s m args below meth c H locs 0 0 Q (F0 m 0 ls []) from K9 _ _ hP hS
  clear hP hS
  intro H locs hP hS
  refine lv_aload_n hx hb dX3_closeNight_0 rfl (lv_at hl 0 rfl) ?_
  refine va_get (D := D) (ci := 3) (v := .int C.2.2.2.2.1) (C := RX3) (T := TX3) (N := 14) hx hb hts (by decide +kernel) hown hK hP 0 rfl rfl 9 (by decide) (hts (.fieldLink RX3 89 "DanceHall$State" "bag" "I") (by decide +kernel)) (fun _ h9 => h9) rfl dX3_closeNight_1 ?_
  refine lv_istore_n (lv' := [(1, .int C.2.2.2.2.1), (0, .ref (a 0))]) hx hb dX3_closeNight_4 rfl hl (by decide) rfl (fun ls hl => ?_)
  refine lv_iconst (v := nI 0) hx hb dX3_closeNight_5 (by decide) ?_
  refine lv_istore_n (lv' := [(2, .int (nI 0)), (1, .int C.2.2.2.2.1), (0, .ref (a 0))]) hx hb dX3_closeNight_6 rfl hl (by decide) rfl (fun ls hl => ?_)
  have hP := kP_cell (g := (kgot C Ar 0)) hP 15 rfl (fun _ _ => rfl)
  have hD := hD.set (p := 15) (e := .inl (cy 0, 4, .inl (kgot C Ar 0))) rfl
  have hP : va_P D vwCl (bkF [sO a C, gW cy a 1 L, gW cy a 7 F, sA cy a (Ar.1, Ar.2.1, kgot C Ar 0), rW cy a d]) H := hP
  have hD : va_D A (bkF [sO a C, gW cy a 1 L, gW cy a 7 F, sA cy a (Ar.1, Ar.2.1, kgot C Ar 0), rW cy a d]) := hD
  have L_7 : ∀ (n9 : Nat) (i : Nat), C.2.2.2.1 - i = n9 → (i ≤ C.2.2.2.1) → ∀ (ls : Array Slot) (H : Heap) (locs : List Loc), va_P D vwCl (bkF [sO a C, gW cy a 1 L, gW cy a 7 F, sA cy a (Ar.1, Ar.2.1, kgot C Ar i), rW cy a d]) H → va_D A (bkF [sO a C, gW cy a 1 L, gW cy a 7 F, sA cy a (Ar.1, Ar.2.1, kgot C Ar i), rW cy a d]) → va_S A s.heap H locs → lv_has ls 3 [(0, .ref (a 0)), (1, .int C.2.2.2.2.1), (2, .int (nI i))] → W p l e (headSpec wsX3_closeNight rm_X3_closeNight).room s m args below meth c H locs 0 0 Q (F0 m 7 ls []) := by
    intro n9
    induction n9 using Nat.strongRecOn with
    | _ n9 ih_7 =>
    intro i hm_7 h7_0 ls H locs hP hD hS hl
    refine lv_iload_n hx hb dX3_closeNight_7 rfl (lv_at hl 2 rfl) ?_
    refine lv_aload_n hx hb dX3_closeNight_8 rfl (lv_at hl 0 rfl) ?_
    refine va_get (D := D) (ci := 3) (v := .int (nI C.2.2.2.1)) (C := RX3) (T := TX3) (N := 14) hx hb hts (by decide +kernel) hown hK hP 0 rfl rfl 6 (by decide) (hts (.fieldLink RX3 32 "DanceHall$State" "fiddlers" "I") (by decide +kernel)) (fun _ h9 => h9) rfl dX3_closeNight_9 ?_
    refine lv_icmp_ge (tgt := 35) hx hb dX3_closeNight_12 (by decide) (fun c_12 => ?_) (fun c_12 => ?_)
    · skip
      have c_12 : C.2.2.2.1 ≤ i := (nI_leI (a := C.2.2.2.1) (b := i) (by omega) (by omega)).mp c_12
      refine lv_aload_n hx hb dX3_closeNight_35 rfl (lv_at hl 0 rfl) ?_
      refine lv_iconst (v := nI 0) hx hb dX3_closeNight_36 (by decide) ?_
      refine va_put (D := D) (ci := 3) (v := .int (nI 0)) (ty := .int) (C := RX3) (T := TX3) (N := 14) hx hb hts (by decide +kernel) tyX3 tyX3_ok nmX3 hown hK hP hD hS 0 rfl rfl 9 (by decide) (hts (.fieldLink RX3 89 "DanceHall$State" "bag" "I") (by decide +kernel)) (fun _ h9 => h9) rfl (by decide +kernel) rfl rfl (Nat.le_of_ble_eq_true rfl) dX3_closeNight_37 (fun H locs hP hD hS => ?_)
      have hP : va_P D vwCl (bkF [sO a (C.1, C.2.1, C.2.2.1, C.2.2.2.1, nI 0, C.2.2.2.2.2), gW cy a 1 L, gW cy a 7 F, sA cy a (Ar.1, Ar.2.1, kgot C Ar i), rW cy a d]) H := hP
      have hD : va_D A (bkF [sO a (C.1, C.2.1, C.2.2.1, C.2.2.2.1, nI 0, C.2.2.2.2.2), gW cy a 1 L, gW cy a 7 F, sA cy a (Ar.1, Ar.2.1, kgot C Ar i), rW cy a d]) := hD
      refine lv_aload_n hx hb dX3_closeNight_40 rfl (lv_at hl 0 rfl) ?_
      refine va_get (D := D) (ci := 3) (v := .ref (a 1)) (C := RX3) (T := TX3) (N := 14) hx hb hts (by decide +kernel) hown hK hP 0 rfl rfl 0 (by decide) (hts (.fieldLink RX3 12 "DanceHall$State" "leaders" "LDanceHall$Guests;") (by decide +kernel)) (fun _ h9 => h9) rfl dX3_closeNight_41 ?_
      refine kc_v (Cs := [gW cy a 1 L]) (Rs := [sO a (C.1, C.2.1, C.2.2.1, C.2.2.2.1, nI 0, C.2.2.2.2.2), gW cy a 7 F, sA cy a (Ar.1, Ar.2.1, kgot C Ar i), rW cy a d]) (Bs := [sO a (C.1, C.2.1, C.2.2.1, C.2.2.2.1, nI 0, C.2.2.2.2.2), gW cy a 1 L, gW cy a 7 F, sA cy a (Ar.1, Ar.2.1, kgot C Ar i), rW cy a d]) (Cs' := fun u_ : Unit => [gW cy a 1 (L.1, L.2.1, L.2.2.1, kcp (fun _ => nI 1) L.2.2.2.1 L.2.2.2.2.2, L.2.2.2.2)]) (Fs := fun u_ : Unit => [sO a (C.1, C.2.1, C.2.2.1, C.2.2.2.1, nI 0, C.2.2.2.2.2), gW cy a 1 (L.1, L.2.1, L.2.2.1, kcp (fun _ => nI 1) L.2.2.2.1 L.2.2.2.2.2, L.2.2.2.2), gW cy a 7 F, sA cy a (Ar.1, Ar.2.1, kgot C Ar i), rW cy a d]) hP hD hS hA [1] [0, 2, 3, 4] [0, 4, 1, 2, 3] rfl rfl (by decide) (by decide) (fun _ => rfl) (va_runV (As := []) (rest := []) ⟨hx, hb, hml, hown, hts⟩ (c_X2_callBack l D cy a 1 L (by first | assumption | omega | decide) H.size) (cwV 0 hts gX3_closeNight_X2_callBack rfl rfl rfl (by decide +kernel) ⟨Nat.le_of_ble_eq_true rfl, Nat.le_of_ble_eq_true rfl⟩) (kPre_V (ci := 2) hK hN hP hD [1] (by decide) rfl 0 rfl rfl) rfl rfl hl.1 rfl (lv_room (Nat.le_of_ble_eq_true rfl)) dX3_closeNight_44 ⟨Nat.le_of_ble_eq_true rfl, Nat.le_of_ble_eq_true rfl⟩) (fun u_ H locs hw hP hD hS => ?_)
      refine lv_aload_n hx hb dX3_closeNight_47 rfl (lv_at hl 0 rfl) ?_
      refine va_get (D := D) (ci := 3) (v := .ref (a 7)) (C := RX3) (T := TX3) (N := 14) hx hb hts (by decide +kernel) hown hK hP 0 rfl rfl 1 (by decide) (hts (.fieldLink RX3 18 "DanceHall$State" "followers" "LDanceHall$Guests;") (by decide +kernel)) (fun _ h9 => h9) rfl dX3_closeNight_48 ?_
      refine kc_v (Cs := [gW cy a 7 F]) (Rs := [sO a (C.1, C.2.1, C.2.2.1, C.2.2.2.1, nI 0, C.2.2.2.2.2), gW cy a 1 (L.1, L.2.1, L.2.2.1, kcp (fun _ => nI 1) L.2.2.2.1 L.2.2.2.2.2, L.2.2.2.2), sA cy a (Ar.1, Ar.2.1, kgot C Ar i), rW cy a d]) (Bs := [sO a (C.1, C.2.1, C.2.2.1, C.2.2.2.1, nI 0, C.2.2.2.2.2), gW cy a 1 (L.1, L.2.1, L.2.2.1, kcp (fun _ => nI 1) L.2.2.2.1 L.2.2.2.2.2, L.2.2.2.2), gW cy a 7 F, sA cy a (Ar.1, Ar.2.1, kgot C Ar i), rW cy a d]) (Cs' := fun u_ : Unit => [gW cy a 7 (F.1, F.2.1, F.2.2.1, kcp (fun _ => nI 1) F.2.2.2.1 F.2.2.2.2.2, F.2.2.2.2)]) (Fs := fun u_ : Unit => [sO a (C.1, C.2.1, C.2.2.1, C.2.2.2.1, nI 0, C.2.2.2.2.2), gW cy a 1 (L.1, L.2.1, L.2.2.1, kcp (fun _ => nI 1) L.2.2.2.1 L.2.2.2.2.2, L.2.2.2.2), gW cy a 7 (F.1, F.2.1, F.2.2.1, kcp (fun _ => nI 1) F.2.2.2.1 F.2.2.2.2.2, F.2.2.2.2), sA cy a (Ar.1, Ar.2.1, kgot C Ar i), rW cy a d]) hP hD hS hA [2] [0, 1, 3, 4] [0, 1, 4, 2, 3] rfl rfl (by decide) (by decide) (fun _ => rfl) (va_runV (As := []) (rest := []) ⟨hx, hb, hml, hown, hts⟩ (c_X2_callBack l D cy a 7 F (by first | assumption | omega | decide) H.size) (cwV 0 hts gX3_closeNight_X2_callBack rfl rfl rfl (by decide +kernel) ⟨Nat.le_of_ble_eq_true rfl, Nat.le_of_ble_eq_true rfl⟩) (kPre_V (ci := 2) hK hN hP hD [2] (by decide) rfl 0 rfl rfl) rfl rfl hl.1 rfl (lv_room (Nat.le_of_ble_eq_true rfl)) dX3_closeNight_51 ⟨Nat.le_of_ble_eq_true rfl, Nat.le_of_ble_eq_true rfl⟩) (fun u_ H locs hw hP hD hS => ?_)
      refine lv_aload_n hx hb dX3_closeNight_54 rfl (lv_at hl 0 rfl) ?_
      refine kc_v (Cs := [sO a (C.1, C.2.1, C.2.2.1, C.2.2.2.1, nI 0, C.2.2.2.2.2), sA cy a (Ar.1, Ar.2.1, kgot C Ar i), rW cy a d]) (Rs := [gW cy a 1 (L.1, L.2.1, L.2.2.1, kcp (fun _ => nI 1) L.2.2.2.1 L.2.2.2.2.2, L.2.2.2.2), gW cy a 7 (F.1, F.2.1, F.2.2.1, kcp (fun _ => nI 1) F.2.2.2.1 F.2.2.2.2.2, F.2.2.2.2)]) (Bs := [sO a (C.1, C.2.1, C.2.2.1, C.2.2.2.1, nI 0, C.2.2.2.2.2), gW cy a 1 (L.1, L.2.1, L.2.2.1, kcp (fun _ => nI 1) L.2.2.2.1 L.2.2.2.2.2, L.2.2.2.2), gW cy a 7 (F.1, F.2.1, F.2.2.1, kcp (fun _ => nI 1) F.2.2.2.1 F.2.2.2.2.2, F.2.2.2.2), sA cy a (Ar.1, Ar.2.1, kgot C Ar i), rW cy a d]) (Cs' := fun u_ : Unit => [sO a (C.1, C.2.1, C.2.2.1, C.2.2.2.1, (nI 0), C.2.2.2.2.2.1, 0, C.2.2.2.2.2.2.2), sA cy a (Ar.1, Ar.2.1, (kgot C Ar i)), rW cy a (fun _ _ => (-1 : Int32))]) (Fs := fun u_ : Unit => [sO a (C.1, C.2.1, C.2.2.1, C.2.2.2.1, (nI 0), C.2.2.2.2.2.1, 0, C.2.2.2.2.2.2.2), gW cy a 1 (L.1, L.2.1, L.2.2.1, kcp (fun _ => nI 1) L.2.2.2.1 L.2.2.2.2.2, L.2.2.2.2), gW cy a 7 (F.1, F.2.1, F.2.2.1, kcp (fun _ => nI 1) F.2.2.2.1 F.2.2.2.2.2, F.2.2.2.2), sA cy a (Ar.1, Ar.2.1, (kgot C Ar i)), rW cy a (fun _ _ => (-1 : Int32))]) hP hD hS hA [0, 3, 4] [1, 2] [2, 0, 1, 3, 4] rfl rfl (by decide) (by decide) (fun _ => rfl) (va_runV (As := []) (rest := []) ⟨hx, hb, hml, hown, hts⟩ (c_X3_forgetDances l D cy a (C.1, C.2.1, C.2.2.1, C.2.2.2.1, nI 0, C.2.2.2.2.2) (Ar.1, Ar.2.1, kgot C Ar i) d H.size) (cwV 0 hts gX3_closeNight_X3_forgetDances rfl rfl rfl (by decide +kernel) ⟨Nat.le_of_ble_eq_true rfl, Nat.le_of_ble_eq_true rfl⟩) (kPre_V (ci := 3) hK hN hP hD [0, 3, 4] (by decide) rfl 0 rfl rfl) rfl rfl hl.1 rfl (lv_room (Nat.le_of_ble_eq_true rfl)) dX3_closeNight_55 ⟨Nat.le_of_ble_eq_true rfl, Nat.le_of_ble_eq_true rfl⟩) (fun u_ H locs hw hP hD hS => ?_)
      refine lv_aload_n hx hb dX3_closeNight_58 rfl (lv_at hl 0 rfl) ?_
      refine lv_dup hx hb dX3_closeNight_59 rfl ?_
      refine va_get (D := D) (ci := 3) (v := .int C.2.2.2.2.2.1) (C := RX3) (T := TX3) (N := 14) hx hb hts (by decide +kernel) hown hK hP 0 rfl rfl 10 (by decide) (hts (.fieldLink RX3 112 "DanceHall$State" "night" "I") (by decide +kernel)) (fun _ h9 => h9) rfl dX3_closeNight_60 ?_
      refine lv_iconst (v := nI 1) hx hb dX3_closeNight_63 (by decide) ?_
      refine lv_iadd hx hb dX3_closeNight_64 ?_
      refine va_put (D := D) (ci := 3) (v := .int (C.2.2.2.2.2.1 + (nI 1))) (ty := .int) (C := RX3) (T := TX3) (N := 14) hx hb hts (by decide +kernel) tyX3 tyX3_ok nmX3 hown hK hP hD hS 0 rfl rfl 10 (by decide) (hts (.fieldLink RX3 112 "DanceHall$State" "night" "I") (by decide +kernel)) (fun _ h9 => h9) rfl (by decide +kernel) rfl rfl (Nat.le_of_ble_eq_true rfl) dX3_closeNight_65 (fun H locs hP hD hS => ?_)
      have hP : va_P D vwCl (bkF [sO a (C.1, C.2.1, C.2.2.1, C.2.2.2.1, (nI 0), C.2.2.2.2.2.1 + (nI 1), 0, C.2.2.2.2.2.2.2), gW cy a 1 (L.1, L.2.1, L.2.2.1, kcp (fun _ => nI 1) L.2.2.2.1 L.2.2.2.2.2, L.2.2.2.2), gW cy a 7 (F.1, F.2.1, F.2.2.1, kcp (fun _ => nI 1) F.2.2.2.1 F.2.2.2.2.2, F.2.2.2.2), sA cy a (Ar.1, Ar.2.1, (kgot C Ar i)), rW cy a (fun _ _ => (-1 : Int32))]) H := hP
      have hD : va_D A (bkF [sO a (C.1, C.2.1, C.2.2.1, C.2.2.2.1, (nI 0), C.2.2.2.2.2.1 + (nI 1), 0, C.2.2.2.2.2.2.2), gW cy a 1 (L.1, L.2.1, L.2.2.1, kcp (fun _ => nI 1) L.2.2.2.1 L.2.2.2.2.2, L.2.2.2.2), gW cy a 7 (F.1, F.2.1, F.2.2.1, kcp (fun _ => nI 1) F.2.2.2.1 F.2.2.2.2.2, F.2.2.2.2), sA cy a (Ar.1, Ar.2.1, (kgot C Ar i)), rW cy a (fun _ _ => (-1 : Int32))]) := hD
      refine lv_iload_n hx hb dX3_closeNight_68 rfl (lv_at hl 1 rfl) ?_
      have hP := kP_cell (g := (kgot C Ar C.2.2.2.1)) hP 15 rfl (fun _ _ => by rw [show C.2.2.2.1 = i from by omega])
      have hD := hD.set (p := 15) (e := .inl (cy 0, 4, .inl (kgot C Ar C.2.2.2.1))) rfl
      have hP : va_P D vwCl (bkF [sO a (C.1, C.2.1, C.2.2.1, C.2.2.2.1, (nI 0), C.2.2.2.2.2.1 + (nI 1), 0, C.2.2.2.2.2.2.2), gW cy a 1 (L.1, L.2.1, L.2.2.1, kcp (fun _ => nI 1) L.2.2.2.1 L.2.2.2.2.2, L.2.2.2.2), gW cy a 7 (F.1, F.2.1, F.2.2.1, kcp (fun _ => nI 1) F.2.2.2.1 F.2.2.2.2.2, F.2.2.2.2), sA cy a (Ar.1, Ar.2.1, kgot C Ar C.2.2.2.1), rW cy a (fun _ _ => (-1 : Int32))]) H := hP
      have hD : va_D A (bkF [sO a (C.1, C.2.1, C.2.2.1, C.2.2.2.1, (nI 0), C.2.2.2.2.2.1 + (nI 1), 0, C.2.2.2.2.2.2.2), gW cy a 1 (L.1, L.2.1, L.2.2.1, kcp (fun _ => nI 1) L.2.2.2.1 L.2.2.2.2.2, L.2.2.2.2), gW cy a 7 (F.1, F.2.1, F.2.2.1, kcp (fun _ => nI 1) F.2.2.2.1 F.2.2.2.2.2, F.2.2.2.2), sA cy a (Ar.1, Ar.2.1, kgot C Ar C.2.2.2.1), rW cy a (fun _ _ => (-1 : Int32))]) := hD
      exact kr_i (post := fun r_ (u_ : Unit) => r_ = C.2.2.2.2.1) (Bs := fun u_ : Unit => [sO a (C.1, C.2.1, C.2.2.1, C.2.2.2.1, nI 0, C.2.2.2.2.2.1 + nI 1, 0, C.2.2.2.2.2.2.2), gW cy a 1 (L.1, L.2.1, L.2.2.1, kcp (fun _ => nI 1) L.2.2.2.1 L.2.2.2.2.2, L.2.2.2.2), gW cy a 7 (F.1, F.2.1, F.2.2.1, kcp (fun _ => nI 1) F.2.2.2.1 F.2.2.2.2.2, F.2.2.2.2), sA cy a (Ar.1, Ar.2.1, kgot C Ar C.2.2.2.1), rW cy a (fun _ _ => (-1 : Int32))]) hx hb hr hlocks rfl () hP hK hD hS rfl dX3_closeNight_69 hQ
    · skip
      have c_12 : ¬ (C.2.2.2.1 ≤ i) := fun h => c_12 ((nI_leI (a := C.2.2.2.1) (b := i) (by omega) (by omega)).mpr h)
      refine lv_aload_n hx hb dX3_closeNight_15 rfl (lv_at hl 0 rfl) ?_
      refine va_get (D := D) (ci := 3) (v := .ref (a 15)) (C := RX3) (T := TX3) (N := 14) hx hb hts (by decide +kernel) hown hK hP 0 rfl rfl 8 (by decide) (hts (.fieldLink RX3 38 "DanceHall$State" "got" "[I") (by decide +kernel)) (fun _ h9 => h9) rfl dX3_closeNight_16 ?_
      refine lv_iload_n hx hb dX3_closeNight_19 rfl (lv_at hl 2 rfl) ?_
      refine lv_dup2_11 hx hb dX3_closeNight_20 rfl rfl ?_
      refine va_iald hx hb hK hP 15 0 rfl rfl (vp_in_nI (n := i) (N := 4) (by omega) (by omega)) dX3_closeNight_21 ?_
      refine kv_i (y := (kgot C Ar i) i) (congrArg (kgot C Ar i) (nI_clamp (n := i) (by omega))) ?_
      refine lv_aload_n hx hb dX3_closeNight_22 rfl (lv_at hl 0 rfl) ?_
      refine lv_iload_n hx hb dX3_closeNight_23 rfl (lv_at hl 2 rfl) ?_
      refine kc_i (Cs := [sO a C, sA cy a (Ar.1, Ar.2.1, kgot C Ar i)]) (Rs := [gW cy a 1 L, gW cy a 7 F, rW cy a d]) (Bs := [sO a C, gW cy a 1 L, gW cy a 7 F, sA cy a (Ar.1, Ar.2.1, kgot C Ar i), rW cy a d]) (Cs' := fun u_ : Unit => [sO a C, sA cy a (Ar.1, Ar.2.1, kgot C Ar i)]) (Fs := fun u_ : Unit => [sO a C, gW cy a 1 L, gW cy a 7 F, sA cy a (Ar.1, Ar.2.1, kgot C Ar i), rW cy a d]) hP hD hS hA [0, 3] [1, 2, 4] [3, 0, 1, 4, 2] rfl rfl (by decide) (by decide) (fun _ => rfl) (va_runV (As := [.int (nI i)]) (rest := [.int ((kgot C Ar i) i), .int (nI i), .ref (a 15)]) ⟨hx, hb, hml, hown, hts⟩ (c_X3_cutOf l D cy a C (Ar.1, Ar.2.1, kgot C Ar i) i (by first | assumption | omega | decide) (by first | assumption | omega | decide) (by first | assumption | omega | decide) hps H.size) (cwV 1 hts gX3_closeNight_X3_cutOf rfl rfl rfl (by decide +kernel) ⟨Nat.le_of_ble_eq_true rfl, Nat.le_of_ble_eq_true rfl⟩) (kPre_V (ci := 3) hK hN hP hD [0, 3] (by decide) rfl 0 rfl rfl) rfl rfl hl.1 rfl (lv_room (Nat.le_of_ble_eq_true rfl)) dX3_closeNight_24 ⟨Nat.le_of_ble_eq_true rfl, Nat.le_of_ble_eq_true rfl⟩) (fun r_ u_ H locs hw hP hD hS => ?_)
      have hw : r_ = kcutA C.2.2.2.2.1 Ar.2.1 C.2.2.2.1 i := hw
      subst hw
      refine kv_i (y := kcutA C.2.2.2.2.1 Ar.2.1 C.2.2.2.1 i) rfl ?_
      refine lv_iadd hx hb dX3_closeNight_27 ?_
      refine va_iast hx hb hK hP hD hS 15 0 rfl rfl (vp_in_nI (n := i) (N := 4) (by omega) (by omega)) dX3_closeNight_28 (fun H locs hP hD hS => ?_)
      rw [nI_clamp (n := i) (by omega)] at hP hD
      have hP : va_P D vwCl (bkF [sO a C, gW cy a 1 L, gW cy a 7 F, sA cy a (Ar.1, Ar.2.1, upd (kgot C Ar i) i (((kgot C Ar i) i) + (kcutA C.2.2.2.2.1 Ar.2.1 C.2.2.2.1 i))), rW cy a d]) H := hP
      have hD : va_D A (bkF [sO a C, gW cy a 1 L, gW cy a 7 F, sA cy a (Ar.1, Ar.2.1, upd (kgot C Ar i) i (((kgot C Ar i) i) + (kcutA C.2.2.2.2.1 Ar.2.1 C.2.2.2.1 i))), rW cy a d]) := hD
      refine lv_iinc (v := nI (i + 1)) (lv' := [(2, .int (nI (i + 1))), (0, .ref (a 0)), (1, .int C.2.2.2.2.1)]) hx hb dX3_closeNight_29 hl (k := 2) rfl (nI_add i 1) (by decide) rfl (fun ls hl => ?_)
      refine lv_goto (tgt := 7) hx hb dX3_closeNight_32 (by decide) ?_
      have hP := kP_cell (g := (kgot C Ar (i + 1))) hP 15 rfl (fun _ _ => rfl)
      have hD := hD.set (p := 15) (e := .inl (cy 0, 4, .inl (kgot C Ar (i + 1)))) rfl
      have hP : va_P D vwCl (bkF [sO a C, gW cy a 1 L, gW cy a 7 F, sA cy a (Ar.1, Ar.2.1, kgot C Ar (i + 1)), rW cy a d]) H := hP
      have hD : va_D A (bkF [sO a C, gW cy a 1 L, gW cy a 7 F, sA cy a (Ar.1, Ar.2.1, kgot C Ar (i + 1)), rW cy a d]) := hD
      exact ih_7 _ (by omega) (i + 1) rfl (by omega) ls H locs hP hD hS (lv_sub hl [1, 2, 0] rfl)
  exact L_7 _ 0  rfl (by omega) ls H locs hP hD hS (lv_sub hl [2, 1, 0] rfl)
abbrev rm_X3_copyFrom : Room := { frames := 1, cells := 0, slots := 0, locals := 200 }
set_option maxHeartbeats 1000000 in
set_option maxRecDepth 100000 in
/-- copyFrom -/
theorem c_X3_copyFrom (l : Launch) (D : va_G) (cy : Nat → ClassId) (a : Nat → Nat) (C : rC) (L : rG) (F : rG) (Ar : rA) (d : Nat → Nat → Int32) (b : Nat → Nat) (C2 : rC) (L2 : rG) (F2 : rG) (A2 : rA) (d2 : Nat → Nat → Int32) (hb1 : kBo L2.2.2.1) (hb2 : kBo L2.2.2.2.1) (hb3 : kBo F2.2.2.1) (hb4 : kBo F2.2.2.2.1) (sz : Nat) : Met l yX3_copyFrom wsX3_copyFrom rm_X3_copyFrom (va_Pc [.ref (a 0), .ref (b 0)] (kPre D (kT cy) [sO a C, gW cy a 1 L, gW cy a 7 F, sA cy a Ar, rW cy a d, sO b C2, gW cy b 1 L2, gW cy b 7 F2, sA cy b A2, rW cy b d2] sz)) (va_Qv (fun u_ : Unit => True) (kFr D (kT cy) [sO a C, gW cy a 1 L, gW cy a 7 F, sA cy a Ar, rW cy a d, sO b C2, gW cy b 1 L2, gW cy b 7 F2, sA cy b A2, rW cy b d2] sz (fun u_ : Unit => [sO a C2, gW cy a 1 L2, gW cy a 7 F2, sA cy a A2, rW cy a d2, sO b C2, gW cy b 1 L2, gW cy b 7 F2, sA cy b A2, rW cy b d2])) (va_A (bkF [sO a C, gW cy a 1 L, gW cy a 7 F, sA cy a Ar, rW cy a d, sO b C2, gW cy b 1 L2, gW cy b 7 F2, sA cy b A2, rW cy b d2]) sz)) 0 0 (va_A (bkF [sO a C, gW cy a 1 L, gW cy a 7 F, sA cy a Ar, rW cy a d, sO b C2, gW cy b 1 L2, gW cy b 7 F2, sA cy b A2, rW cy b d2]) sz) := by
  refine kOpen (y := yX3_copyFrom) (ws := wsX3_copyFrom) (cc := cX3_copyFrom) (maxL := 3) (ret := none) (av := [.ref (a 0), .ref (b 0)]) (Bs := [sO a C, gW cy a 1 L, gW cy a 7 F, sA cy a Ar, rW cy a d, sO b C2, gW cy b 1 L2, gW cy b 7 F2, sA cy b A2, rW cy b d2]) (Qc := fun A => (va_Qv (fun u_ : Unit => True) (fun (u_ : Unit) t9 => kEnd D (kT cy) A [sO a C2, gW cy a 1 L2, gW cy a 7 F2, sA cy a A2, rW cy a d2, sO b C2, gW cy b 1 L2, gW cy b 7 F2, sA cy b A2, rW cy b d2] t9) A)) (by decide) rfl (Nat.le_of_ble_eq_true rfl) ?_
  intro p e s m args below meth c A Q ls hQ hx hb hml hr hlocks hin hts hown hN hK hP hD hS hA hsz hAe hl
  clear hAe
  have hl : lv_has ls 3 [(0, .ref (a 0)), (1, .ref (b 0))] := hl
  suffices K9 : ∀ (H : Heap) (locs : List Loc), va_P D vwCl (bkF [sO a C, gW cy a 1 L, gW cy a 7 F, sA cy a Ar, rW cy a d, sO b C2, gW cy b 1 L2, gW cy b 7 F2, sA cy b A2, rW cy b d2]) H → va_S A s.heap H locs → W p l e (headSpec wsX3_copyFrom rm_X3_copyFrom).room s m args below meth c H locs 0 0 Q (F0 m 0 ls []) from K9 _ _ hP hS
  clear hP hS
  intro H locs hP hS
  refine lv_aload_n hx hb dX3_copyFrom_0 rfl (lv_at hl 0 rfl) ?_
  refine va_get (D := D) (ci := 3) (v := .ref (a 1)) (C := RX3) (T := TX3) (N := 14) hx hb hts (by decide +kernel) hown hK hP 0 rfl rfl 0 (by decide) (hts (.fieldLink RX3 12 "DanceHall$State" "leaders" "LDanceHall$Guests;") (by decide +kernel)) (fun _ h9 => h9) rfl dX3_copyFrom_1 ?_
  refine lv_aload_n hx hb dX3_copyFrom_4 rfl (lv_at hl 1 rfl) ?_
  refine va_get (D := D) (ci := 3) (v := .ref (b 1)) (C := RX3) (T := TX3) (N := 14) hx hb hts (by decide +kernel) hown hK hP 25 rfl rfl 0 (by decide) (hts (.fieldLink RX3 12 "DanceHall$State" "leaders" "LDanceHall$Guests;") (by decide +kernel)) (fun _ h9 => h9) rfl dX3_copyFrom_5 ?_
  refine kc_v (Cs := [gW cy a 1 L, gW cy b 1 L2]) (Rs := [sO a C, gW cy a 7 F, sA cy a Ar, rW cy a d, sO b C2, gW cy b 7 F2, sA cy b A2, rW cy b d2]) (Bs := [sO a C, gW cy a 1 L, gW cy a 7 F, sA cy a Ar, rW cy a d, sO b C2, gW cy b 1 L2, gW cy b 7 F2, sA cy b A2, rW cy b d2]) (Cs' := fun u_ : Unit => [gW cy a 1 L2, gW cy b 1 L2]) (Fs := fun u_ : Unit => [sO a C, gW cy a 1 L2, gW cy a 7 F, sA cy a Ar, rW cy a d, sO b C2, gW cy b 1 L2, gW cy b 7 F2, sA cy b A2, rW cy b d2]) hP hD hS hA [1, 6] [0, 2, 3, 4, 5, 7, 8, 9] [0, 8, 1, 2, 3, 4, 9, 5, 6, 7] rfl rfl (by decide) (by decide) (fun _ => rfl) (va_runV (As := [.ref (b 1)]) (rest := []) ⟨hx, hb, hml, hown, hts⟩ (c_X2_copyFrom l D cy a 1 L b 1 L2 hb1 hb2 H.size) (cwV 1 hts gX3_copyFrom_X2_copyFrom rfl rfl rfl (by decide +kernel) ⟨Nat.le_of_ble_eq_true rfl, Nat.le_of_ble_eq_true rfl⟩) (kPre_V (ci := 2) hK hN hP hD [1, 6] (by decide) rfl 0 rfl rfl) rfl rfl hl.1 rfl (lv_room (Nat.le_of_ble_eq_true rfl)) dX3_copyFrom_8 ⟨Nat.le_of_ble_eq_true rfl, Nat.le_of_ble_eq_true rfl⟩) (fun u_ H locs hw hP hD hS => ?_)
  refine lv_aload_n hx hb dX3_copyFrom_11 rfl (lv_at hl 0 rfl) ?_
  refine va_get (D := D) (ci := 3) (v := .ref (a 7)) (C := RX3) (T := TX3) (N := 14) hx hb hts (by decide +kernel) hown hK hP 0 rfl rfl 1 (by decide) (hts (.fieldLink RX3 18 "DanceHall$State" "followers" "LDanceHall$Guests;") (by decide +kernel)) (fun _ h9 => h9) rfl dX3_copyFrom_12 ?_
  refine lv_aload_n hx hb dX3_copyFrom_15 rfl (lv_at hl 1 rfl) ?_
  refine va_get (D := D) (ci := 3) (v := .ref (b 7)) (C := RX3) (T := TX3) (N := 14) hx hb hts (by decide +kernel) hown hK hP 25 rfl rfl 1 (by decide) (hts (.fieldLink RX3 18 "DanceHall$State" "followers" "LDanceHall$Guests;") (by decide +kernel)) (fun _ h9 => h9) rfl dX3_copyFrom_16 ?_
  refine kc_v (Cs := [gW cy a 7 F, gW cy b 7 F2]) (Rs := [sO a C, gW cy a 1 L2, sA cy a Ar, rW cy a d, sO b C2, gW cy b 1 L2, sA cy b A2, rW cy b d2]) (Bs := [sO a C, gW cy a 1 L2, gW cy a 7 F, sA cy a Ar, rW cy a d, sO b C2, gW cy b 1 L2, gW cy b 7 F2, sA cy b A2, rW cy b d2]) (Cs' := fun u_ : Unit => [gW cy a 7 F2, gW cy b 7 F2]) (Fs := fun u_ : Unit => [sO a C, gW cy a 1 L2, gW cy a 7 F2, sA cy a Ar, rW cy a d, sO b C2, gW cy b 1 L2, gW cy b 7 F2, sA cy b A2, rW cy b d2]) hP hD hS hA [2, 7] [0, 1, 3, 4, 5, 6, 8, 9] [0, 1, 8, 2, 3, 4, 5, 9, 6, 7] rfl rfl (by decide) (by decide) (fun _ => rfl) (va_runV (As := [.ref (b 7)]) (rest := []) ⟨hx, hb, hml, hown, hts⟩ (c_X2_copyFrom l D cy a 7 F b 7 F2 hb3 hb4 H.size) (cwV 1 hts gX3_copyFrom_X2_copyFrom rfl rfl rfl (by decide +kernel) ⟨Nat.le_of_ble_eq_true rfl, Nat.le_of_ble_eq_true rfl⟩) (kPre_V (ci := 2) hK hN hP hD [2, 7] (by decide) rfl 0 rfl rfl) rfl rfl hl.1 rfl (lv_room (Nat.le_of_ble_eq_true rfl)) dX3_copyFrom_19 ⟨Nat.le_of_ble_eq_true rfl, Nat.le_of_ble_eq_true rfl⟩) (fun u_ H locs hw hP hD hS => ?_)
  refine lv_aload_n hx hb dX3_copyFrom_22 rfl (lv_at hl 1 rfl) ?_
  refine va_get (D := D) (ci := 3) (v := .ref (b 13)) (C := RX3) (T := TX3) (N := 14) hx hb hts (by decide +kernel) hown hK hP 25 rfl rfl 2 (by decide) (hts (.fieldLink RX3 21 "DanceHall$State" "pairs" "[I") (by decide +kernel)) (fun _ h9 => h9) rfl dX3_copyFrom_23 ?_
  refine lv_iconst (v := nI 0) hx hb dX3_copyFrom_26 (by decide) ?_
  refine lv_aload_n hx hb dX3_copyFrom_27 rfl (lv_at hl 0 rfl) ?_
  refine va_get (D := D) (ci := 3) (v := .ref (a 13)) (C := RX3) (T := TX3) (N := 14) hx hb hts (by decide +kernel) hown hK hP 0 rfl rfl 2 (by decide) (hts (.fieldLink RX3 21 "DanceHall$State" "pairs" "[I") (by decide +kernel)) (fun _ h9 => h9) rfl dX3_copyFrom_28 ?_
  refine lv_iconst (v := nI 0) hx hb dX3_copyFrom_31 (by decide) ?_
  refine lv_bipush (v := nI 10) hx hb dX3_copyFrom_32 (by decide) ?_
  refine va_copyi hx hb (hml.trans hl.1.symm) hown (hts (.methodLink RX3 138 arraycopyName) (by decide +kernel)) (hts (.native arraycopyName) (by decide +kernel)) (hts (.static arraycopyName) (by decide +kernel)) (hts (.initialized "java/lang/System") (by decide +kernel)) hK hP hD hS (38) (13) 0 0 rfl rfl rfl rfl rfl (by decide) (by decide) (by decide) (by decide) (by decide) (fun _ _ => rfl) (Nat.le_of_ble_eq_true rfl) (Nat.le_of_ble_eq_true rfl) dX3_copyFrom_34 (fun H locs hP hD hS => ?_)
  have hP : va_P D vwCl (bkF [sO a C, gW cy a 1 L2, gW cy a 7 F2, sA cy a (va_cpy A2.1 Ar.1 (nI 0).toNatClampNeg (nI 0).toNatClampNeg (nI 10).toNatClampNeg, Ar.2), rW cy a d, sO b C2, gW cy b 1 L2, gW cy b 7 F2, sA cy b A2, rW cy b d2]) H := hP
  have hD : va_D A (bkF [sO a C, gW cy a 1 L2, gW cy a 7 F2, sA cy a (va_cpy A2.1 Ar.1 (nI 0).toNatClampNeg (nI 0).toNatClampNeg (nI 10).toNatClampNeg, Ar.2), rW cy a d, sO b C2, gW cy b 1 L2, gW cy b 7 F2, sA cy b A2, rW cy b d2]) := hD
  have hP := kP_cell (g := A2.1) hP 13 rfl (fun j hj => k_cpy (by decide) _ _ hj)
  have hD := hD.set (p := 13) (e := .inl (cy 0, 10, .inl A2.1)) rfl
  have hP : va_P D vwCl (bkF [sO a C, gW cy a 1 L2, gW cy a 7 F2, sA cy a (A2.1, Ar.2), rW cy a d, sO b C2, gW cy b 1 L2, gW cy b 7 F2, sA cy b A2, rW cy b d2]) H := hP
  have hD : va_D A (bkF [sO a C, gW cy a 1 L2, gW cy a 7 F2, sA cy a (A2.1, Ar.2), rW cy a d, sO b C2, gW cy b 1 L2, gW cy b 7 F2, sA cy b A2, rW cy b d2]) := hD
  refine lv_aload_n hx hb dX3_copyFrom_37 rfl (lv_at hl 0 rfl) ?_
  refine lv_aload_n hx hb dX3_copyFrom_38 rfl (lv_at hl 1 rfl) ?_
  refine va_get (D := D) (ci := 3) (v := .int (nI C2.1)) (C := RX3) (T := TX3) (N := 14) hx hb hts (by decide +kernel) hown hK hP 25 rfl rfl 3 (by decide) (hts (.fieldLink RX3 25 "DanceHall$State" "lamps" "I") (by decide +kernel)) (fun _ h9 => h9) rfl dX3_copyFrom_39 ?_
  refine va_put (D := D) (ci := 3) (v := .int (nI C2.1)) (ty := .int) (C := RX3) (T := TX3) (N := 14) hx hb hts (by decide +kernel) tyX3 tyX3_ok nmX3 hown hK hP hD hS 0 rfl rfl 3 (by decide) (hts (.fieldLink RX3 25 "DanceHall$State" "lamps" "I") (by decide +kernel)) (fun _ h9 => h9) rfl (by decide +kernel) rfl rfl (Nat.le_of_ble_eq_true rfl) dX3_copyFrom_42 (fun H locs hP hD hS => ?_)
  have hP : va_P D vwCl (bkF [sO a (C2.1, C.2), gW cy a 1 L2, gW cy a 7 F2, sA cy a (A2.1, Ar.2), rW cy a d, sO b C2, gW cy b 1 L2, gW cy b 7 F2, sA cy b A2, rW cy b d2]) H := hP
  have hD : va_D A (bkF [sO a (C2.1, C.2), gW cy a 1 L2, gW cy a 7 F2, sA cy a (A2.1, Ar.2), rW cy a d, sO b C2, gW cy b 1 L2, gW cy b 7 F2, sA cy b A2, rW cy b d2]) := hD
  refine lv_aload_n hx hb dX3_copyFrom_45 rfl (lv_at hl 0 rfl) ?_
  refine lv_aload_n hx hb dX3_copyFrom_46 rfl (lv_at hl 1 rfl) ?_
  refine va_get (D := D) (ci := 3) (v := .int (nI C2.2.1)) (C := RX3) (T := TX3) (N := 14) hx hb hts (by decide +kernel) hown hK hP 25 rfl rfl 4 (by decide) (hts (.fieldLink RX3 29 "DanceHall$State" "oil" "I") (by decide +kernel)) (fun _ h9 => h9) rfl dX3_copyFrom_47 ?_
  refine va_put (D := D) (ci := 3) (v := .int (nI C2.2.1)) (ty := .int) (C := RX3) (T := TX3) (N := 14) hx hb hts (by decide +kernel) tyX3 tyX3_ok nmX3 hown hK hP hD hS 0 rfl rfl 4 (by decide) (hts (.fieldLink RX3 29 "DanceHall$State" "oil" "I") (by decide +kernel)) (fun _ h9 => h9) rfl (by decide +kernel) rfl rfl (Nat.le_of_ble_eq_true rfl) dX3_copyFrom_50 (fun H locs hP hD hS => ?_)
  have hP : va_P D vwCl (bkF [sO a (C2.1, C2.2.1, C.2.2), gW cy a 1 L2, gW cy a 7 F2, sA cy a (A2.1, Ar.2), rW cy a d, sO b C2, gW cy b 1 L2, gW cy b 7 F2, sA cy b A2, rW cy b d2]) H := hP
  have hD : va_D A (bkF [sO a (C2.1, C2.2.1, C.2.2), gW cy a 1 L2, gW cy a 7 F2, sA cy a (A2.1, Ar.2), rW cy a d, sO b C2, gW cy b 1 L2, gW cy b 7 F2, sA cy b A2, rW cy b d2]) := hD
  refine lv_aload_n hx hb dX3_copyFrom_53 rfl (lv_at hl 0 rfl) ?_
  refine lv_aload_n hx hb dX3_copyFrom_54 rfl (lv_at hl 1 rfl) ?_
  refine va_get (D := D) (ci := 3) (v := .int C2.2.2.1) (C := RX3) (T := TX3) (N := 14) hx hb hts (by decide +kernel) hown hK hP 25 rfl rfl 5 (by decide) (hts (.fieldLink RX3 82 "DanceHall$State" "burned" "I") (by decide +kernel)) (fun _ h9 => h9) rfl dX3_copyFrom_55 ?_
  refine va_put (D := D) (ci := 3) (v := .int C2.2.2.1) (ty := .int) (C := RX3) (T := TX3) (N := 14) hx hb hts (by decide +kernel) tyX3 tyX3_ok nmX3 hown hK hP hD hS 0 rfl rfl 5 (by decide) (hts (.fieldLink RX3 82 "DanceHall$State" "burned" "I") (by decide +kernel)) (fun _ h9 => h9) rfl (by decide +kernel) rfl rfl (Nat.le_of_ble_eq_true rfl) dX3_copyFrom_58 (fun H locs hP hD hS => ?_)
  have hP : va_P D vwCl (bkF [sO a (C2.1, C2.2.1, C2.2.2.1, C.2.2.2), gW cy a 1 L2, gW cy a 7 F2, sA cy a (A2.1, Ar.2), rW cy a d, sO b C2, gW cy b 1 L2, gW cy b 7 F2, sA cy b A2, rW cy b d2]) H := hP
  have hD : va_D A (bkF [sO a (C2.1, C2.2.1, C2.2.2.1, C.2.2.2), gW cy a 1 L2, gW cy a 7 F2, sA cy a (A2.1, Ar.2), rW cy a d, sO b C2, gW cy b 1 L2, gW cy b 7 F2, sA cy b A2, rW cy b d2]) := hD
  refine lv_aload_n hx hb dX3_copyFrom_61 rfl (lv_at hl 0 rfl) ?_
  refine lv_aload_n hx hb dX3_copyFrom_62 rfl (lv_at hl 1 rfl) ?_
  refine va_get (D := D) (ci := 3) (v := .int (nI C2.2.2.2.1)) (C := RX3) (T := TX3) (N := 14) hx hb hts (by decide +kernel) hown hK hP 25 rfl rfl 6 (by decide) (hts (.fieldLink RX3 32 "DanceHall$State" "fiddlers" "I") (by decide +kernel)) (fun _ h9 => h9) rfl dX3_copyFrom_63 ?_
  refine va_put (D := D) (ci := 3) (v := .int (nI C2.2.2.2.1)) (ty := .int) (C := RX3) (T := TX3) (N := 14) hx hb hts (by decide +kernel) tyX3 tyX3_ok nmX3 hown hK hP hD hS 0 rfl rfl 6 (by decide) (hts (.fieldLink RX3 32 "DanceHall$State" "fiddlers" "I") (by decide +kernel)) (fun _ h9 => h9) rfl (by decide +kernel) rfl rfl (Nat.le_of_ble_eq_true rfl) dX3_copyFrom_66 (fun H locs hP hD hS => ?_)
  have hP : va_P D vwCl (bkF [sO a (C2.1, C2.2.1, C2.2.2.1, C2.2.2.2.1, C.2.2.2.2), gW cy a 1 L2, gW cy a 7 F2, sA cy a (A2.1, Ar.2), rW cy a d, sO b C2, gW cy b 1 L2, gW cy b 7 F2, sA cy b A2, rW cy b d2]) H := hP
  have hD : va_D A (bkF [sO a (C2.1, C2.2.1, C2.2.2.1, C2.2.2.2.1, C.2.2.2.2), gW cy a 1 L2, gW cy a 7 F2, sA cy a (A2.1, Ar.2), rW cy a d, sO b C2, gW cy b 1 L2, gW cy b 7 F2, sA cy b A2, rW cy b d2]) := hD
  refine lv_aload_n hx hb dX3_copyFrom_69 rfl (lv_at hl 1 rfl) ?_
  refine va_get (D := D) (ci := 3) (v := .ref (b 14)) (C := RX3) (T := TX3) (N := 14) hx hb hts (by decide +kernel) hown hK hP 25 rfl rfl 7 (by decide) (hts (.fieldLink RX3 35 "DanceHall$State" "parts" "[I") (by decide +kernel)) (fun _ h9 => h9) rfl dX3_copyFrom_70 ?_
  refine lv_iconst (v := nI 0) hx hb dX3_copyFrom_73 (by decide) ?_
  refine lv_aload_n hx hb dX3_copyFrom_74 rfl (lv_at hl 0 rfl) ?_
  refine va_get (D := D) (ci := 3) (v := .ref (a 14)) (C := RX3) (T := TX3) (N := 14) hx hb hts (by decide +kernel) hown hK hP 0 rfl rfl 7 (by decide) (hts (.fieldLink RX3 35 "DanceHall$State" "parts" "[I") (by decide +kernel)) (fun _ h9 => h9) rfl dX3_copyFrom_75 ?_
  refine lv_iconst (v := nI 0) hx hb dX3_copyFrom_78 (by decide) ?_
  refine lv_iconst (v := nI 4) hx hb dX3_copyFrom_79 (by decide) ?_
  refine va_copyi hx hb (hml.trans hl.1.symm) hown (hts (.methodLink RX3 138 arraycopyName) (by decide +kernel)) (hts (.native arraycopyName) (by decide +kernel)) (hts (.static arraycopyName) (by decide +kernel)) (hts (.initialized "java/lang/System") (by decide +kernel)) hK hP hD hS (39) (14) 0 0 rfl rfl rfl rfl rfl (by decide) (by decide) (by decide) (by decide) (by decide) (fun _ _ => rfl) (Nat.le_of_ble_eq_true rfl) (Nat.le_of_ble_eq_true rfl) dX3_copyFrom_80 (fun H locs hP hD hS => ?_)
  have hP : va_P D vwCl (bkF [sO a (C2.1, C2.2.1, C2.2.2.1, C2.2.2.2.1, C.2.2.2.2), gW cy a 1 L2, gW cy a 7 F2, sA cy a (A2.1, va_cpy A2.2.1 Ar.2.1 (nI 0).toNatClampNeg (nI 0).toNatClampNeg (nI 4).toNatClampNeg, Ar.2.2), rW cy a d, sO b C2, gW cy b 1 L2, gW cy b 7 F2, sA cy b A2, rW cy b d2]) H := hP
  have hD : va_D A (bkF [sO a (C2.1, C2.2.1, C2.2.2.1, C2.2.2.2.1, C.2.2.2.2), gW cy a 1 L2, gW cy a 7 F2, sA cy a (A2.1, va_cpy A2.2.1 Ar.2.1 (nI 0).toNatClampNeg (nI 0).toNatClampNeg (nI 4).toNatClampNeg, Ar.2.2), rW cy a d, sO b C2, gW cy b 1 L2, gW cy b 7 F2, sA cy b A2, rW cy b d2]) := hD
  have hP := kP_cell (g := A2.2.1) hP 14 rfl (fun j hj => k_cpy (by decide) _ _ hj)
  have hD := hD.set (p := 14) (e := .inl (cy 0, 4, .inl A2.2.1)) rfl
  have hP : va_P D vwCl (bkF [sO a (C2.1, C2.2.1, C2.2.2.1, C2.2.2.2.1, C.2.2.2.2), gW cy a 1 L2, gW cy a 7 F2, sA cy a (A2.1, A2.2.1, Ar.2.2), rW cy a d, sO b C2, gW cy b 1 L2, gW cy b 7 F2, sA cy b A2, rW cy b d2]) H := hP
  have hD : va_D A (bkF [sO a (C2.1, C2.2.1, C2.2.2.1, C2.2.2.2.1, C.2.2.2.2), gW cy a 1 L2, gW cy a 7 F2, sA cy a (A2.1, A2.2.1, Ar.2.2), rW cy a d, sO b C2, gW cy b 1 L2, gW cy b 7 F2, sA cy b A2, rW cy b d2]) := hD
  refine lv_aload_n hx hb dX3_copyFrom_83 rfl (lv_at hl 1 rfl) ?_
  refine va_get (D := D) (ci := 3) (v := .ref (b 15)) (C := RX3) (T := TX3) (N := 14) hx hb hts (by decide +kernel) hown hK hP 25 rfl rfl 8 (by decide) (hts (.fieldLink RX3 38 "DanceHall$State" "got" "[I") (by decide +kernel)) (fun _ h9 => h9) rfl dX3_copyFrom_84 ?_
  refine lv_iconst (v := nI 0) hx hb dX3_copyFrom_87 (by decide) ?_
  refine lv_aload_n hx hb dX3_copyFrom_88 rfl (lv_at hl 0 rfl) ?_
  refine va_get (D := D) (ci := 3) (v := .ref (a 15)) (C := RX3) (T := TX3) (N := 14) hx hb hts (by decide +kernel) hown hK hP 0 rfl rfl 8 (by decide) (hts (.fieldLink RX3 38 "DanceHall$State" "got" "[I") (by decide +kernel)) (fun _ h9 => h9) rfl dX3_copyFrom_89 ?_
  refine lv_iconst (v := nI 0) hx hb dX3_copyFrom_92 (by decide) ?_
  refine lv_iconst (v := nI 4) hx hb dX3_copyFrom_93 (by decide) ?_
  refine va_copyi hx hb (hml.trans hl.1.symm) hown (hts (.methodLink RX3 138 arraycopyName) (by decide +kernel)) (hts (.native arraycopyName) (by decide +kernel)) (hts (.static arraycopyName) (by decide +kernel)) (hts (.initialized "java/lang/System") (by decide +kernel)) hK hP hD hS (40) (15) 0 0 rfl rfl rfl rfl rfl (by decide) (by decide) (by decide) (by decide) (by decide) (fun _ _ => rfl) (Nat.le_of_ble_eq_true rfl) (Nat.le_of_ble_eq_true rfl) dX3_copyFrom_94 (fun H locs hP hD hS => ?_)
  have hP : va_P D vwCl (bkF [sO a (C2.1, C2.2.1, C2.2.2.1, C2.2.2.2.1, C.2.2.2.2), gW cy a 1 L2, gW cy a 7 F2, sA cy a (A2.1, A2.2.1, va_cpy A2.2.2 Ar.2.2 (nI 0).toNatClampNeg (nI 0).toNatClampNeg (nI 4).toNatClampNeg), rW cy a d, sO b C2, gW cy b 1 L2, gW cy b 7 F2, sA cy b A2, rW cy b d2]) H := hP
  have hD : va_D A (bkF [sO a (C2.1, C2.2.1, C2.2.2.1, C2.2.2.2.1, C.2.2.2.2), gW cy a 1 L2, gW cy a 7 F2, sA cy a (A2.1, A2.2.1, va_cpy A2.2.2 Ar.2.2 (nI 0).toNatClampNeg (nI 0).toNatClampNeg (nI 4).toNatClampNeg), rW cy a d, sO b C2, gW cy b 1 L2, gW cy b 7 F2, sA cy b A2, rW cy b d2]) := hD
  have hP := kP_cell (g := A2.2.2) hP 15 rfl (fun j hj => k_cpy (by decide) _ _ hj)
  have hD := hD.set (p := 15) (e := .inl (cy 0, 4, .inl A2.2.2)) rfl
  have hP : va_P D vwCl (bkF [sO a (C2.1, C2.2.1, C2.2.2.1, C2.2.2.2.1, C.2.2.2.2), gW cy a 1 L2, gW cy a 7 F2, sA cy a (A2.1, A2.2.1, A2.2.2), rW cy a d, sO b C2, gW cy b 1 L2, gW cy b 7 F2, sA cy b A2, rW cy b d2]) H := hP
  have hD : va_D A (bkF [sO a (C2.1, C2.2.1, C2.2.2.1, C2.2.2.2.1, C.2.2.2.2), gW cy a 1 L2, gW cy a 7 F2, sA cy a (A2.1, A2.2.1, A2.2.2), rW cy a d, sO b C2, gW cy b 1 L2, gW cy b 7 F2, sA cy b A2, rW cy b d2]) := hD
  refine lv_aload_n hx hb dX3_copyFrom_97 rfl (lv_at hl 0 rfl) ?_
  refine lv_aload_n hx hb dX3_copyFrom_98 rfl (lv_at hl 1 rfl) ?_
  refine va_get (D := D) (ci := 3) (v := .int C2.2.2.2.2.1) (C := RX3) (T := TX3) (N := 14) hx hb hts (by decide +kernel) hown hK hP 25 rfl rfl 9 (by decide) (hts (.fieldLink RX3 89 "DanceHall$State" "bag" "I") (by decide +kernel)) (fun _ h9 => h9) rfl dX3_copyFrom_99 ?_
  refine va_put (D := D) (ci := 3) (v := .int C2.2.2.2.2.1) (ty := .int) (C := RX3) (T := TX3) (N := 14) hx hb hts (by decide +kernel) tyX3 tyX3_ok nmX3 hown hK hP hD hS 0 rfl rfl 9 (by decide) (hts (.fieldLink RX3 89 "DanceHall$State" "bag" "I") (by decide +kernel)) (fun _ h9 => h9) rfl (by decide +kernel) rfl rfl (Nat.le_of_ble_eq_true rfl) dX3_copyFrom_102 (fun H locs hP hD hS => ?_)
  have hP : va_P D vwCl (bkF [sO a (C2.1, C2.2.1, C2.2.2.1, C2.2.2.2.1, C2.2.2.2.2.1, C.2.2.2.2.2), gW cy a 1 L2, gW cy a 7 F2, sA cy a (A2.1, A2.2.1, A2.2.2), rW cy a d, sO b C2, gW cy b 1 L2, gW cy b 7 F2, sA cy b A2, rW cy b d2]) H := hP
  have hD : va_D A (bkF [sO a (C2.1, C2.2.1, C2.2.2.1, C2.2.2.2.1, C2.2.2.2.2.1, C.2.2.2.2.2), gW cy a 1 L2, gW cy a 7 F2, sA cy a (A2.1, A2.2.1, A2.2.2), rW cy a d, sO b C2, gW cy b 1 L2, gW cy b 7 F2, sA cy b A2, rW cy b d2]) := hD
  refine lv_aload_n hx hb dX3_copyFrom_105 rfl (lv_at hl 0 rfl) ?_
  refine lv_aload_n hx hb dX3_copyFrom_106 rfl (lv_at hl 1 rfl) ?_
  refine va_get (D := D) (ci := 3) (v := .int C2.2.2.2.2.2.1) (C := RX3) (T := TX3) (N := 14) hx hb hts (by decide +kernel) hown hK hP 25 rfl rfl 10 (by decide) (hts (.fieldLink RX3 112 "DanceHall$State" "night" "I") (by decide +kernel)) (fun _ h9 => h9) rfl dX3_copyFrom_107 ?_
  refine va_put (D := D) (ci := 3) (v := .int C2.2.2.2.2.2.1) (ty := .int) (C := RX3) (T := TX3) (N := 14) hx hb hts (by decide +kernel) tyX3 tyX3_ok nmX3 hown hK hP hD hS 0 rfl rfl 10 (by decide) (hts (.fieldLink RX3 112 "DanceHall$State" "night" "I") (by decide +kernel)) (fun _ h9 => h9) rfl (by decide +kernel) rfl rfl (Nat.le_of_ble_eq_true rfl) dX3_copyFrom_110 (fun H locs hP hD hS => ?_)
  have hP : va_P D vwCl (bkF [sO a (C2.1, C2.2.1, C2.2.2.1, C2.2.2.2.1, C2.2.2.2.2.1, C2.2.2.2.2.2.1, C.2.2.2.2.2.2), gW cy a 1 L2, gW cy a 7 F2, sA cy a (A2.1, A2.2.1, A2.2.2), rW cy a d, sO b C2, gW cy b 1 L2, gW cy b 7 F2, sA cy b A2, rW cy b d2]) H := hP
  have hD : va_D A (bkF [sO a (C2.1, C2.2.1, C2.2.2.1, C2.2.2.2.1, C2.2.2.2.2.1, C2.2.2.2.2.2.1, C.2.2.2.2.2.2), gW cy a 1 L2, gW cy a 7 F2, sA cy a (A2.1, A2.2.1, A2.2.2), rW cy a d, sO b C2, gW cy b 1 L2, gW cy b 7 F2, sA cy b A2, rW cy b d2]) := hD
  refine lv_aload_n hx hb dX3_copyFrom_113 rfl (lv_at hl 0 rfl) ?_
  refine lv_aload_n hx hb dX3_copyFrom_114 rfl (lv_at hl 1 rfl) ?_
  refine va_get (D := D) (ci := 3) (v := .int (nI C2.2.2.2.2.2.2.1)) (C := RX3) (T := TX3) (N := 14) hx hb hts (by decide +kernel) hown hK hP 25 rfl rfl 11 (by decide) (hts (.fieldLink RX3 62 "DanceHall$State" "dances" "I") (by decide +kernel)) (fun _ h9 => h9) rfl dX3_copyFrom_115 ?_
  refine va_put (D := D) (ci := 3) (v := .int (nI C2.2.2.2.2.2.2.1)) (ty := .int) (C := RX3) (T := TX3) (N := 14) hx hb hts (by decide +kernel) tyX3 tyX3_ok nmX3 hown hK hP hD hS 0 rfl rfl 11 (by decide) (hts (.fieldLink RX3 62 "DanceHall$State" "dances" "I") (by decide +kernel)) (fun _ h9 => h9) rfl (by decide +kernel) rfl rfl (Nat.le_of_ble_eq_true rfl) dX3_copyFrom_118 (fun H locs hP hD hS => ?_)
  have hP : va_P D vwCl (bkF [sO a (C2.1, C2.2.1, C2.2.2.1, C2.2.2.2.1, C2.2.2.2.2.1, C2.2.2.2.2.2.1, C2.2.2.2.2.2.2.1, C.2.2.2.2.2.2.2), gW cy a 1 L2, gW cy a 7 F2, sA cy a (A2.1, A2.2.1, A2.2.2), rW cy a d, sO b C2, gW cy b 1 L2, gW cy b 7 F2, sA cy b A2, rW cy b d2]) H := hP
  have hD : va_D A (bkF [sO a (C2.1, C2.2.1, C2.2.2.1, C2.2.2.2.1, C2.2.2.2.2.1, C2.2.2.2.2.2.1, C2.2.2.2.2.2.2.1, C.2.2.2.2.2.2.2), gW cy a 1 L2, gW cy a 7 F2, sA cy a (A2.1, A2.2.1, A2.2.2), rW cy a d, sO b C2, gW cy b 1 L2, gW cy b 7 F2, sA cy b A2, rW cy b d2]) := hD
  refine lv_aload_n hx hb dX3_copyFrom_121 rfl (lv_at hl 0 rfl) ?_
  refine lv_aload_n hx hb dX3_copyFrom_122 rfl (lv_at hl 1 rfl) ?_
  refine va_get (D := D) (ci := 3) (v := .int C2.2.2.2.2.2.2.2) (C := RX3) (T := TX3) (N := 14) hx hb hts (by decide +kernel) hown hK hP 25 rfl rfl 12 (by decide) (hts (.fieldLink RX3 92 "DanceHall$State" "allCouples" "I") (by decide +kernel)) (fun _ h9 => h9) rfl dX3_copyFrom_123 ?_
  refine va_put (D := D) (ci := 3) (v := .int C2.2.2.2.2.2.2.2) (ty := .int) (C := RX3) (T := TX3) (N := 14) hx hb hts (by decide +kernel) tyX3 tyX3_ok nmX3 hown hK hP hD hS 0 rfl rfl 12 (by decide) (hts (.fieldLink RX3 92 "DanceHall$State" "allCouples" "I") (by decide +kernel)) (fun _ h9 => h9) rfl (by decide +kernel) rfl rfl (Nat.le_of_ble_eq_true rfl) dX3_copyFrom_126 (fun H locs hP hD hS => ?_)
  have hP : va_P D vwCl (bkF [sO a (C2.1, C2.2.1, C2.2.2.1, C2.2.2.2.1, C2.2.2.2.2.1, C2.2.2.2.2.2.1, C2.2.2.2.2.2.2.1, C2.2.2.2.2.2.2.2), gW cy a 1 L2, gW cy a 7 F2, sA cy a (A2.1, A2.2.1, A2.2.2), rW cy a d, sO b C2, gW cy b 1 L2, gW cy b 7 F2, sA cy b A2, rW cy b d2]) H := hP
  have hD : va_D A (bkF [sO a (C2.1, C2.2.1, C2.2.2.1, C2.2.2.2.1, C2.2.2.2.2.1, C2.2.2.2.2.2.1, C2.2.2.2.2.2.2.1, C2.2.2.2.2.2.2.2), gW cy a 1 L2, gW cy a 7 F2, sA cy a (A2.1, A2.2.1, A2.2.2), rW cy a d, sO b C2, gW cy b 1 L2, gW cy b 7 F2, sA cy b A2, rW cy b d2]) := hD
  refine lv_iconst (v := nI 0) hx hb dX3_copyFrom_129 (by decide) ?_
  refine lv_istore_n (lv' := [(2, .int (nI 0)), (0, .ref (a 0)), (1, .ref (b 0))]) hx hb dX3_copyFrom_130 rfl hl (by decide) rfl (fun ls hl => ?_)
  refine lv_iload_n hx hb dX3_copyFrom_131 rfl (lv_at hl 0 rfl) ?_
  refine lv_bipush (v := nI 8) hx hb dX3_copyFrom_132 (by decide) ?_
  refine lv_icmp_ge (tgt := 162) hx hb dX3_copyFrom_134 (by decide) (fun h => absurd h (by decide)) (fun _ => ?_)
  refine lv_aload_n hx hb dX3_copyFrom_137 rfl (lv_at hl 2 rfl) ?_
  refine va_get (D := D) (ci := 3) (v := .ref (b 16)) (C := RX3) (T := TX3) (N := 14) hx hb hts (by decide +kernel) hown hK hP 25 rfl rfl 13 (by decide) (hts (.fieldLink RX3 43 "DanceHall$State" "danceOf" "[[I") (by decide +kernel)) (fun _ h9 => h9) rfl dX3_copyFrom_138 ?_
  refine lv_iload_n hx hb dX3_copyFrom_141 rfl (lv_at hl 0 rfl) ?_
  refine va_aldA hx hb hK hP 41 4 rfl rfl (vp_in_nI (n := 0) (N := 8) (by decide) (by decide)) dX3_copyFrom_142 ?_
  refine kv_w (y := .ref (b 17)) rfl ?_
  refine lv_iconst (v := nI 0) hx hb dX3_copyFrom_143 (by decide) ?_
  refine lv_aload_n hx hb dX3_copyFrom_144 rfl (lv_at hl 1 rfl) ?_
  refine va_get (D := D) (ci := 3) (v := .ref (a 16)) (C := RX3) (T := TX3) (N := 14) hx hb hts (by decide +kernel) hown hK hP 0 rfl rfl 13 (by decide) (hts (.fieldLink RX3 43 "DanceHall$State" "danceOf" "[[I") (by decide +kernel)) (fun _ h9 => h9) rfl dX3_copyFrom_145 ?_
  refine lv_iload_n hx hb dX3_copyFrom_148 rfl (lv_at hl 0 rfl) ?_
  refine va_aldA hx hb hK hP 16 4 rfl rfl (vp_in_nI (n := 0) (N := 8) (by decide) (by decide)) dX3_copyFrom_149 ?_
  refine kv_w (y := .ref (a 17)) rfl ?_
  refine lv_iconst (v := nI 0) hx hb dX3_copyFrom_150 (by decide) ?_
  refine lv_bipush (v := nI 8) hx hb dX3_copyFrom_151 (by decide) ?_
  refine va_copyi hx hb (hml.trans hl.1.symm) hown (hts (.methodLink RX3 138 arraycopyName) (by decide +kernel)) (hts (.native arraycopyName) (by decide +kernel)) (hts (.static arraycopyName) (by decide +kernel)) (hts (.initialized "java/lang/System") (by decide +kernel)) hK hP hD hS (42) (17) 0 0 rfl rfl rfl rfl rfl (by decide) (by decide) (by decide) (by decide) (by decide) (fun _ _ => rfl) (Nat.le_of_ble_eq_true rfl) (Nat.le_of_ble_eq_true rfl) dX3_copyFrom_153 (fun H locs hP hD hS => ?_)
  have hP : va_P D vwCl (bkF [sO a (C2.1, C2.2.1, C2.2.2.1, C2.2.2.2.1, C2.2.2.2.2.1, C2.2.2.2.2.2.1, C2.2.2.2.2.2.2.1, C2.2.2.2.2.2.2.2), gW cy a 1 L2, gW cy a 7 F2, sA cy a (A2.1, A2.2.1, A2.2.2), [(a 17, .inl (cy 0, 8, .inl (va_cpy (d2 0) (d 0) (nI 0).toNatClampNeg (nI 0).toNatClampNeg (nI 8).toNatClampNeg))), (a 18, .inl (cy 0, 8, .inl (d 1))), (a 19, .inl (cy 0, 8, .inl (d 2))), (a 20, .inl (cy 0, 8, .inl (d 3))), (a 21, .inl (cy 0, 8, .inl (d 4))), (a 22, .inl (cy 0, 8, .inl (d 5))), (a 23, .inl (cy 0, 8, .inl (d 6))), (a 24, .inl (cy 0, 8, .inl (d 7)))], sO b C2, gW cy b 1 L2, gW cy b 7 F2, sA cy b A2, rW cy b d2]) H := hP
  have hD : va_D A (bkF [sO a (C2.1, C2.2.1, C2.2.2.1, C2.2.2.2.1, C2.2.2.2.2.1, C2.2.2.2.2.2.1, C2.2.2.2.2.2.2.1, C2.2.2.2.2.2.2.2), gW cy a 1 L2, gW cy a 7 F2, sA cy a (A2.1, A2.2.1, A2.2.2), [(a 17, .inl (cy 0, 8, .inl (va_cpy (d2 0) (d 0) (nI 0).toNatClampNeg (nI 0).toNatClampNeg (nI 8).toNatClampNeg))), (a 18, .inl (cy 0, 8, .inl (d 1))), (a 19, .inl (cy 0, 8, .inl (d 2))), (a 20, .inl (cy 0, 8, .inl (d 3))), (a 21, .inl (cy 0, 8, .inl (d 4))), (a 22, .inl (cy 0, 8, .inl (d 5))), (a 23, .inl (cy 0, 8, .inl (d 6))), (a 24, .inl (cy 0, 8, .inl (d 7)))], sO b C2, gW cy b 1 L2, gW cy b 7 F2, sA cy b A2, rW cy b d2]) := hD
  have hP := kP_cell (g := (d2 0)) hP 17 rfl (fun j hj => k_cpy (by decide) _ _ hj)
  have hD := hD.set (p := 17) (e := .inl (cy 0, 8, .inl (d2 0))) rfl
  have hP : va_P D vwCl (bkF [sO a (C2.1, C2.2.1, C2.2.2.1, C2.2.2.2.1, C2.2.2.2.2.1, C2.2.2.2.2.2.1, C2.2.2.2.2.2.2.1, C2.2.2.2.2.2.2.2), gW cy a 1 L2, gW cy a 7 F2, sA cy a (A2.1, A2.2.1, A2.2.2), [(a 17, .inl (cy 0, 8, .inl (d2 0))), (a 18, .inl (cy 0, 8, .inl (d 1))), (a 19, .inl (cy 0, 8, .inl (d 2))), (a 20, .inl (cy 0, 8, .inl (d 3))), (a 21, .inl (cy 0, 8, .inl (d 4))), (a 22, .inl (cy 0, 8, .inl (d 5))), (a 23, .inl (cy 0, 8, .inl (d 6))), (a 24, .inl (cy 0, 8, .inl (d 7)))], sO b C2, gW cy b 1 L2, gW cy b 7 F2, sA cy b A2, rW cy b d2]) H := hP
  have hD : va_D A (bkF [sO a (C2.1, C2.2.1, C2.2.2.1, C2.2.2.2.1, C2.2.2.2.2.1, C2.2.2.2.2.2.1, C2.2.2.2.2.2.2.1, C2.2.2.2.2.2.2.2), gW cy a 1 L2, gW cy a 7 F2, sA cy a (A2.1, A2.2.1, A2.2.2), [(a 17, .inl (cy 0, 8, .inl (d2 0))), (a 18, .inl (cy 0, 8, .inl (d 1))), (a 19, .inl (cy 0, 8, .inl (d 2))), (a 20, .inl (cy 0, 8, .inl (d 3))), (a 21, .inl (cy 0, 8, .inl (d 4))), (a 22, .inl (cy 0, 8, .inl (d 5))), (a 23, .inl (cy 0, 8, .inl (d 6))), (a 24, .inl (cy 0, 8, .inl (d 7)))], sO b C2, gW cy b 1 L2, gW cy b 7 F2, sA cy b A2, rW cy b d2]) := hD
  refine lv_iinc (v := nI 1) (lv' := [(2, .int (nI 1)), (0, .ref (a 0)), (1, .ref (b 0))]) hx hb dX3_copyFrom_156 hl (k := 0) rfl (by decide) (by decide) rfl (fun ls hl => ?_)
  refine lv_goto (tgt := 131) hx hb dX3_copyFrom_159 (by decide) ?_
  refine lv_iload_n hx hb dX3_copyFrom_131 rfl (lv_at hl 0 rfl) ?_
  refine lv_bipush (v := nI 8) hx hb dX3_copyFrom_132 (by decide) ?_
  refine lv_icmp_ge (tgt := 162) hx hb dX3_copyFrom_134 (by decide) (fun h => absurd h (by decide)) (fun _ => ?_)
  refine lv_aload_n hx hb dX3_copyFrom_137 rfl (lv_at hl 2 rfl) ?_
  refine va_get (D := D) (ci := 3) (v := .ref (b 16)) (C := RX3) (T := TX3) (N := 14) hx hb hts (by decide +kernel) hown hK hP 25 rfl rfl 13 (by decide) (hts (.fieldLink RX3 43 "DanceHall$State" "danceOf" "[[I") (by decide +kernel)) (fun _ h9 => h9) rfl dX3_copyFrom_138 ?_
  refine lv_iload_n hx hb dX3_copyFrom_141 rfl (lv_at hl 0 rfl) ?_
  refine va_aldA hx hb hK hP 41 4 rfl rfl (vp_in_nI (n := 1) (N := 8) (by decide) (by decide)) dX3_copyFrom_142 ?_
  refine kv_w (y := .ref (b 18)) rfl ?_
  refine lv_iconst (v := nI 0) hx hb dX3_copyFrom_143 (by decide) ?_
  refine lv_aload_n hx hb dX3_copyFrom_144 rfl (lv_at hl 1 rfl) ?_
  refine va_get (D := D) (ci := 3) (v := .ref (a 16)) (C := RX3) (T := TX3) (N := 14) hx hb hts (by decide +kernel) hown hK hP 0 rfl rfl 13 (by decide) (hts (.fieldLink RX3 43 "DanceHall$State" "danceOf" "[[I") (by decide +kernel)) (fun _ h9 => h9) rfl dX3_copyFrom_145 ?_
  refine lv_iload_n hx hb dX3_copyFrom_148 rfl (lv_at hl 0 rfl) ?_
  refine va_aldA hx hb hK hP 16 4 rfl rfl (vp_in_nI (n := 1) (N := 8) (by decide) (by decide)) dX3_copyFrom_149 ?_
  refine kv_w (y := .ref (a 18)) rfl ?_
  refine lv_iconst (v := nI 0) hx hb dX3_copyFrom_150 (by decide) ?_
  refine lv_bipush (v := nI 8) hx hb dX3_copyFrom_151 (by decide) ?_
  refine va_copyi hx hb (hml.trans hl.1.symm) hown (hts (.methodLink RX3 138 arraycopyName) (by decide +kernel)) (hts (.native arraycopyName) (by decide +kernel)) (hts (.static arraycopyName) (by decide +kernel)) (hts (.initialized "java/lang/System") (by decide +kernel)) hK hP hD hS (43) (18) 0 0 rfl rfl rfl rfl rfl (by decide) (by decide) (by decide) (by decide) (by decide) (fun _ _ => rfl) (Nat.le_of_ble_eq_true rfl) (Nat.le_of_ble_eq_true rfl) dX3_copyFrom_153 (fun H locs hP hD hS => ?_)
  have hP : va_P D vwCl (bkF [sO a (C2.1, C2.2.1, C2.2.2.1, C2.2.2.2.1, C2.2.2.2.2.1, C2.2.2.2.2.2.1, C2.2.2.2.2.2.2.1, C2.2.2.2.2.2.2.2), gW cy a 1 L2, gW cy a 7 F2, sA cy a (A2.1, A2.2.1, A2.2.2), [(a 17, .inl (cy 0, 8, .inl (d2 0))), (a 18, .inl (cy 0, 8, .inl (va_cpy (d2 1) (d 1) (nI 0).toNatClampNeg (nI 0).toNatClampNeg (nI 8).toNatClampNeg))), (a 19, .inl (cy 0, 8, .inl (d 2))), (a 20, .inl (cy 0, 8, .inl (d 3))), (a 21, .inl (cy 0, 8, .inl (d 4))), (a 22, .inl (cy 0, 8, .inl (d 5))), (a 23, .inl (cy 0, 8, .inl (d 6))), (a 24, .inl (cy 0, 8, .inl (d 7)))], sO b C2, gW cy b 1 L2, gW cy b 7 F2, sA cy b A2, rW cy b d2]) H := hP
  have hD : va_D A (bkF [sO a (C2.1, C2.2.1, C2.2.2.1, C2.2.2.2.1, C2.2.2.2.2.1, C2.2.2.2.2.2.1, C2.2.2.2.2.2.2.1, C2.2.2.2.2.2.2.2), gW cy a 1 L2, gW cy a 7 F2, sA cy a (A2.1, A2.2.1, A2.2.2), [(a 17, .inl (cy 0, 8, .inl (d2 0))), (a 18, .inl (cy 0, 8, .inl (va_cpy (d2 1) (d 1) (nI 0).toNatClampNeg (nI 0).toNatClampNeg (nI 8).toNatClampNeg))), (a 19, .inl (cy 0, 8, .inl (d 2))), (a 20, .inl (cy 0, 8, .inl (d 3))), (a 21, .inl (cy 0, 8, .inl (d 4))), (a 22, .inl (cy 0, 8, .inl (d 5))), (a 23, .inl (cy 0, 8, .inl (d 6))), (a 24, .inl (cy 0, 8, .inl (d 7)))], sO b C2, gW cy b 1 L2, gW cy b 7 F2, sA cy b A2, rW cy b d2]) := hD
  have hP := kP_cell (g := (d2 1)) hP 18 rfl (fun j hj => k_cpy (by decide) _ _ hj)
  have hD := hD.set (p := 18) (e := .inl (cy 0, 8, .inl (d2 1))) rfl
  have hP : va_P D vwCl (bkF [sO a (C2.1, C2.2.1, C2.2.2.1, C2.2.2.2.1, C2.2.2.2.2.1, C2.2.2.2.2.2.1, C2.2.2.2.2.2.2.1, C2.2.2.2.2.2.2.2), gW cy a 1 L2, gW cy a 7 F2, sA cy a (A2.1, A2.2.1, A2.2.2), [(a 17, .inl (cy 0, 8, .inl (d2 0))), (a 18, .inl (cy 0, 8, .inl (d2 1))), (a 19, .inl (cy 0, 8, .inl (d 2))), (a 20, .inl (cy 0, 8, .inl (d 3))), (a 21, .inl (cy 0, 8, .inl (d 4))), (a 22, .inl (cy 0, 8, .inl (d 5))), (a 23, .inl (cy 0, 8, .inl (d 6))), (a 24, .inl (cy 0, 8, .inl (d 7)))], sO b C2, gW cy b 1 L2, gW cy b 7 F2, sA cy b A2, rW cy b d2]) H := hP
  have hD : va_D A (bkF [sO a (C2.1, C2.2.1, C2.2.2.1, C2.2.2.2.1, C2.2.2.2.2.1, C2.2.2.2.2.2.1, C2.2.2.2.2.2.2.1, C2.2.2.2.2.2.2.2), gW cy a 1 L2, gW cy a 7 F2, sA cy a (A2.1, A2.2.1, A2.2.2), [(a 17, .inl (cy 0, 8, .inl (d2 0))), (a 18, .inl (cy 0, 8, .inl (d2 1))), (a 19, .inl (cy 0, 8, .inl (d 2))), (a 20, .inl (cy 0, 8, .inl (d 3))), (a 21, .inl (cy 0, 8, .inl (d 4))), (a 22, .inl (cy 0, 8, .inl (d 5))), (a 23, .inl (cy 0, 8, .inl (d 6))), (a 24, .inl (cy 0, 8, .inl (d 7)))], sO b C2, gW cy b 1 L2, gW cy b 7 F2, sA cy b A2, rW cy b d2]) := hD
  refine lv_iinc (v := nI 2) (lv' := [(2, .int (nI 2)), (0, .ref (a 0)), (1, .ref (b 0))]) hx hb dX3_copyFrom_156 hl (k := 0) rfl (by decide) (by decide) rfl (fun ls hl => ?_)
  refine lv_goto (tgt := 131) hx hb dX3_copyFrom_159 (by decide) ?_
  refine lv_iload_n hx hb dX3_copyFrom_131 rfl (lv_at hl 0 rfl) ?_
  refine lv_bipush (v := nI 8) hx hb dX3_copyFrom_132 (by decide) ?_
  refine lv_icmp_ge (tgt := 162) hx hb dX3_copyFrom_134 (by decide) (fun h => absurd h (by decide)) (fun _ => ?_)
  refine lv_aload_n hx hb dX3_copyFrom_137 rfl (lv_at hl 2 rfl) ?_
  refine va_get (D := D) (ci := 3) (v := .ref (b 16)) (C := RX3) (T := TX3) (N := 14) hx hb hts (by decide +kernel) hown hK hP 25 rfl rfl 13 (by decide) (hts (.fieldLink RX3 43 "DanceHall$State" "danceOf" "[[I") (by decide +kernel)) (fun _ h9 => h9) rfl dX3_copyFrom_138 ?_
  refine lv_iload_n hx hb dX3_copyFrom_141 rfl (lv_at hl 0 rfl) ?_
  refine va_aldA hx hb hK hP 41 4 rfl rfl (vp_in_nI (n := 2) (N := 8) (by decide) (by decide)) dX3_copyFrom_142 ?_
  refine kv_w (y := .ref (b 19)) rfl ?_
  refine lv_iconst (v := nI 0) hx hb dX3_copyFrom_143 (by decide) ?_
  refine lv_aload_n hx hb dX3_copyFrom_144 rfl (lv_at hl 1 rfl) ?_
  refine va_get (D := D) (ci := 3) (v := .ref (a 16)) (C := RX3) (T := TX3) (N := 14) hx hb hts (by decide +kernel) hown hK hP 0 rfl rfl 13 (by decide) (hts (.fieldLink RX3 43 "DanceHall$State" "danceOf" "[[I") (by decide +kernel)) (fun _ h9 => h9) rfl dX3_copyFrom_145 ?_
  refine lv_iload_n hx hb dX3_copyFrom_148 rfl (lv_at hl 0 rfl) ?_
  refine va_aldA hx hb hK hP 16 4 rfl rfl (vp_in_nI (n := 2) (N := 8) (by decide) (by decide)) dX3_copyFrom_149 ?_
  refine kv_w (y := .ref (a 19)) rfl ?_
  refine lv_iconst (v := nI 0) hx hb dX3_copyFrom_150 (by decide) ?_
  refine lv_bipush (v := nI 8) hx hb dX3_copyFrom_151 (by decide) ?_
  refine va_copyi hx hb (hml.trans hl.1.symm) hown (hts (.methodLink RX3 138 arraycopyName) (by decide +kernel)) (hts (.native arraycopyName) (by decide +kernel)) (hts (.static arraycopyName) (by decide +kernel)) (hts (.initialized "java/lang/System") (by decide +kernel)) hK hP hD hS (44) (19) 0 0 rfl rfl rfl rfl rfl (by decide) (by decide) (by decide) (by decide) (by decide) (fun _ _ => rfl) (Nat.le_of_ble_eq_true rfl) (Nat.le_of_ble_eq_true rfl) dX3_copyFrom_153 (fun H locs hP hD hS => ?_)
  have hP : va_P D vwCl (bkF [sO a (C2.1, C2.2.1, C2.2.2.1, C2.2.2.2.1, C2.2.2.2.2.1, C2.2.2.2.2.2.1, C2.2.2.2.2.2.2.1, C2.2.2.2.2.2.2.2), gW cy a 1 L2, gW cy a 7 F2, sA cy a (A2.1, A2.2.1, A2.2.2), [(a 17, .inl (cy 0, 8, .inl (d2 0))), (a 18, .inl (cy 0, 8, .inl (d2 1))), (a 19, .inl (cy 0, 8, .inl (va_cpy (d2 2) (d 2) (nI 0).toNatClampNeg (nI 0).toNatClampNeg (nI 8).toNatClampNeg))), (a 20, .inl (cy 0, 8, .inl (d 3))), (a 21, .inl (cy 0, 8, .inl (d 4))), (a 22, .inl (cy 0, 8, .inl (d 5))), (a 23, .inl (cy 0, 8, .inl (d 6))), (a 24, .inl (cy 0, 8, .inl (d 7)))], sO b C2, gW cy b 1 L2, gW cy b 7 F2, sA cy b A2, rW cy b d2]) H := hP
  have hD : va_D A (bkF [sO a (C2.1, C2.2.1, C2.2.2.1, C2.2.2.2.1, C2.2.2.2.2.1, C2.2.2.2.2.2.1, C2.2.2.2.2.2.2.1, C2.2.2.2.2.2.2.2), gW cy a 1 L2, gW cy a 7 F2, sA cy a (A2.1, A2.2.1, A2.2.2), [(a 17, .inl (cy 0, 8, .inl (d2 0))), (a 18, .inl (cy 0, 8, .inl (d2 1))), (a 19, .inl (cy 0, 8, .inl (va_cpy (d2 2) (d 2) (nI 0).toNatClampNeg (nI 0).toNatClampNeg (nI 8).toNatClampNeg))), (a 20, .inl (cy 0, 8, .inl (d 3))), (a 21, .inl (cy 0, 8, .inl (d 4))), (a 22, .inl (cy 0, 8, .inl (d 5))), (a 23, .inl (cy 0, 8, .inl (d 6))), (a 24, .inl (cy 0, 8, .inl (d 7)))], sO b C2, gW cy b 1 L2, gW cy b 7 F2, sA cy b A2, rW cy b d2]) := hD
  have hP := kP_cell (g := (d2 2)) hP 19 rfl (fun j hj => k_cpy (by decide) _ _ hj)
  have hD := hD.set (p := 19) (e := .inl (cy 0, 8, .inl (d2 2))) rfl
  have hP : va_P D vwCl (bkF [sO a (C2.1, C2.2.1, C2.2.2.1, C2.2.2.2.1, C2.2.2.2.2.1, C2.2.2.2.2.2.1, C2.2.2.2.2.2.2.1, C2.2.2.2.2.2.2.2), gW cy a 1 L2, gW cy a 7 F2, sA cy a (A2.1, A2.2.1, A2.2.2), [(a 17, .inl (cy 0, 8, .inl (d2 0))), (a 18, .inl (cy 0, 8, .inl (d2 1))), (a 19, .inl (cy 0, 8, .inl (d2 2))), (a 20, .inl (cy 0, 8, .inl (d 3))), (a 21, .inl (cy 0, 8, .inl (d 4))), (a 22, .inl (cy 0, 8, .inl (d 5))), (a 23, .inl (cy 0, 8, .inl (d 6))), (a 24, .inl (cy 0, 8, .inl (d 7)))], sO b C2, gW cy b 1 L2, gW cy b 7 F2, sA cy b A2, rW cy b d2]) H := hP
  have hD : va_D A (bkF [sO a (C2.1, C2.2.1, C2.2.2.1, C2.2.2.2.1, C2.2.2.2.2.1, C2.2.2.2.2.2.1, C2.2.2.2.2.2.2.1, C2.2.2.2.2.2.2.2), gW cy a 1 L2, gW cy a 7 F2, sA cy a (A2.1, A2.2.1, A2.2.2), [(a 17, .inl (cy 0, 8, .inl (d2 0))), (a 18, .inl (cy 0, 8, .inl (d2 1))), (a 19, .inl (cy 0, 8, .inl (d2 2))), (a 20, .inl (cy 0, 8, .inl (d 3))), (a 21, .inl (cy 0, 8, .inl (d 4))), (a 22, .inl (cy 0, 8, .inl (d 5))), (a 23, .inl (cy 0, 8, .inl (d 6))), (a 24, .inl (cy 0, 8, .inl (d 7)))], sO b C2, gW cy b 1 L2, gW cy b 7 F2, sA cy b A2, rW cy b d2]) := hD
  refine lv_iinc (v := nI 3) (lv' := [(2, .int (nI 3)), (0, .ref (a 0)), (1, .ref (b 0))]) hx hb dX3_copyFrom_156 hl (k := 0) rfl (by decide) (by decide) rfl (fun ls hl => ?_)
  refine lv_goto (tgt := 131) hx hb dX3_copyFrom_159 (by decide) ?_
  refine lv_iload_n hx hb dX3_copyFrom_131 rfl (lv_at hl 0 rfl) ?_
  refine lv_bipush (v := nI 8) hx hb dX3_copyFrom_132 (by decide) ?_
  refine lv_icmp_ge (tgt := 162) hx hb dX3_copyFrom_134 (by decide) (fun h => absurd h (by decide)) (fun _ => ?_)
  refine lv_aload_n hx hb dX3_copyFrom_137 rfl (lv_at hl 2 rfl) ?_
  refine va_get (D := D) (ci := 3) (v := .ref (b 16)) (C := RX3) (T := TX3) (N := 14) hx hb hts (by decide +kernel) hown hK hP 25 rfl rfl 13 (by decide) (hts (.fieldLink RX3 43 "DanceHall$State" "danceOf" "[[I") (by decide +kernel)) (fun _ h9 => h9) rfl dX3_copyFrom_138 ?_
  refine lv_iload_n hx hb dX3_copyFrom_141 rfl (lv_at hl 0 rfl) ?_
  refine va_aldA hx hb hK hP 41 4 rfl rfl (vp_in_nI (n := 3) (N := 8) (by decide) (by decide)) dX3_copyFrom_142 ?_
  refine kv_w (y := .ref (b 20)) rfl ?_
  refine lv_iconst (v := nI 0) hx hb dX3_copyFrom_143 (by decide) ?_
  refine lv_aload_n hx hb dX3_copyFrom_144 rfl (lv_at hl 1 rfl) ?_
  refine va_get (D := D) (ci := 3) (v := .ref (a 16)) (C := RX3) (T := TX3) (N := 14) hx hb hts (by decide +kernel) hown hK hP 0 rfl rfl 13 (by decide) (hts (.fieldLink RX3 43 "DanceHall$State" "danceOf" "[[I") (by decide +kernel)) (fun _ h9 => h9) rfl dX3_copyFrom_145 ?_
  refine lv_iload_n hx hb dX3_copyFrom_148 rfl (lv_at hl 0 rfl) ?_
  refine va_aldA hx hb hK hP 16 4 rfl rfl (vp_in_nI (n := 3) (N := 8) (by decide) (by decide)) dX3_copyFrom_149 ?_
  refine kv_w (y := .ref (a 20)) rfl ?_
  refine lv_iconst (v := nI 0) hx hb dX3_copyFrom_150 (by decide) ?_
  refine lv_bipush (v := nI 8) hx hb dX3_copyFrom_151 (by decide) ?_
  refine va_copyi hx hb (hml.trans hl.1.symm) hown (hts (.methodLink RX3 138 arraycopyName) (by decide +kernel)) (hts (.native arraycopyName) (by decide +kernel)) (hts (.static arraycopyName) (by decide +kernel)) (hts (.initialized "java/lang/System") (by decide +kernel)) hK hP hD hS (45) (20) 0 0 rfl rfl rfl rfl rfl (by decide) (by decide) (by decide) (by decide) (by decide) (fun _ _ => rfl) (Nat.le_of_ble_eq_true rfl) (Nat.le_of_ble_eq_true rfl) dX3_copyFrom_153 (fun H locs hP hD hS => ?_)
  have hP : va_P D vwCl (bkF [sO a (C2.1, C2.2.1, C2.2.2.1, C2.2.2.2.1, C2.2.2.2.2.1, C2.2.2.2.2.2.1, C2.2.2.2.2.2.2.1, C2.2.2.2.2.2.2.2), gW cy a 1 L2, gW cy a 7 F2, sA cy a (A2.1, A2.2.1, A2.2.2), [(a 17, .inl (cy 0, 8, .inl (d2 0))), (a 18, .inl (cy 0, 8, .inl (d2 1))), (a 19, .inl (cy 0, 8, .inl (d2 2))), (a 20, .inl (cy 0, 8, .inl (va_cpy (d2 3) (d 3) (nI 0).toNatClampNeg (nI 0).toNatClampNeg (nI 8).toNatClampNeg))), (a 21, .inl (cy 0, 8, .inl (d 4))), (a 22, .inl (cy 0, 8, .inl (d 5))), (a 23, .inl (cy 0, 8, .inl (d 6))), (a 24, .inl (cy 0, 8, .inl (d 7)))], sO b C2, gW cy b 1 L2, gW cy b 7 F2, sA cy b A2, rW cy b d2]) H := hP
  have hD : va_D A (bkF [sO a (C2.1, C2.2.1, C2.2.2.1, C2.2.2.2.1, C2.2.2.2.2.1, C2.2.2.2.2.2.1, C2.2.2.2.2.2.2.1, C2.2.2.2.2.2.2.2), gW cy a 1 L2, gW cy a 7 F2, sA cy a (A2.1, A2.2.1, A2.2.2), [(a 17, .inl (cy 0, 8, .inl (d2 0))), (a 18, .inl (cy 0, 8, .inl (d2 1))), (a 19, .inl (cy 0, 8, .inl (d2 2))), (a 20, .inl (cy 0, 8, .inl (va_cpy (d2 3) (d 3) (nI 0).toNatClampNeg (nI 0).toNatClampNeg (nI 8).toNatClampNeg))), (a 21, .inl (cy 0, 8, .inl (d 4))), (a 22, .inl (cy 0, 8, .inl (d 5))), (a 23, .inl (cy 0, 8, .inl (d 6))), (a 24, .inl (cy 0, 8, .inl (d 7)))], sO b C2, gW cy b 1 L2, gW cy b 7 F2, sA cy b A2, rW cy b d2]) := hD
  have hP := kP_cell (g := (d2 3)) hP 20 rfl (fun j hj => k_cpy (by decide) _ _ hj)
  have hD := hD.set (p := 20) (e := .inl (cy 0, 8, .inl (d2 3))) rfl
  have hP : va_P D vwCl (bkF [sO a (C2.1, C2.2.1, C2.2.2.1, C2.2.2.2.1, C2.2.2.2.2.1, C2.2.2.2.2.2.1, C2.2.2.2.2.2.2.1, C2.2.2.2.2.2.2.2), gW cy a 1 L2, gW cy a 7 F2, sA cy a (A2.1, A2.2.1, A2.2.2), [(a 17, .inl (cy 0, 8, .inl (d2 0))), (a 18, .inl (cy 0, 8, .inl (d2 1))), (a 19, .inl (cy 0, 8, .inl (d2 2))), (a 20, .inl (cy 0, 8, .inl (d2 3))), (a 21, .inl (cy 0, 8, .inl (d 4))), (a 22, .inl (cy 0, 8, .inl (d 5))), (a 23, .inl (cy 0, 8, .inl (d 6))), (a 24, .inl (cy 0, 8, .inl (d 7)))], sO b C2, gW cy b 1 L2, gW cy b 7 F2, sA cy b A2, rW cy b d2]) H := hP
  have hD : va_D A (bkF [sO a (C2.1, C2.2.1, C2.2.2.1, C2.2.2.2.1, C2.2.2.2.2.1, C2.2.2.2.2.2.1, C2.2.2.2.2.2.2.1, C2.2.2.2.2.2.2.2), gW cy a 1 L2, gW cy a 7 F2, sA cy a (A2.1, A2.2.1, A2.2.2), [(a 17, .inl (cy 0, 8, .inl (d2 0))), (a 18, .inl (cy 0, 8, .inl (d2 1))), (a 19, .inl (cy 0, 8, .inl (d2 2))), (a 20, .inl (cy 0, 8, .inl (d2 3))), (a 21, .inl (cy 0, 8, .inl (d 4))), (a 22, .inl (cy 0, 8, .inl (d 5))), (a 23, .inl (cy 0, 8, .inl (d 6))), (a 24, .inl (cy 0, 8, .inl (d 7)))], sO b C2, gW cy b 1 L2, gW cy b 7 F2, sA cy b A2, rW cy b d2]) := hD
  refine lv_iinc (v := nI 4) (lv' := [(2, .int (nI 4)), (0, .ref (a 0)), (1, .ref (b 0))]) hx hb dX3_copyFrom_156 hl (k := 0) rfl (by decide) (by decide) rfl (fun ls hl => ?_)
  refine lv_goto (tgt := 131) hx hb dX3_copyFrom_159 (by decide) ?_
  refine lv_iload_n hx hb dX3_copyFrom_131 rfl (lv_at hl 0 rfl) ?_
  refine lv_bipush (v := nI 8) hx hb dX3_copyFrom_132 (by decide) ?_
  refine lv_icmp_ge (tgt := 162) hx hb dX3_copyFrom_134 (by decide) (fun h => absurd h (by decide)) (fun _ => ?_)
  refine lv_aload_n hx hb dX3_copyFrom_137 rfl (lv_at hl 2 rfl) ?_
  refine va_get (D := D) (ci := 3) (v := .ref (b 16)) (C := RX3) (T := TX3) (N := 14) hx hb hts (by decide +kernel) hown hK hP 25 rfl rfl 13 (by decide) (hts (.fieldLink RX3 43 "DanceHall$State" "danceOf" "[[I") (by decide +kernel)) (fun _ h9 => h9) rfl dX3_copyFrom_138 ?_
  refine lv_iload_n hx hb dX3_copyFrom_141 rfl (lv_at hl 0 rfl) ?_
  refine va_aldA hx hb hK hP 41 4 rfl rfl (vp_in_nI (n := 4) (N := 8) (by decide) (by decide)) dX3_copyFrom_142 ?_
  refine kv_w (y := .ref (b 21)) rfl ?_
  refine lv_iconst (v := nI 0) hx hb dX3_copyFrom_143 (by decide) ?_
  refine lv_aload_n hx hb dX3_copyFrom_144 rfl (lv_at hl 1 rfl) ?_
  refine va_get (D := D) (ci := 3) (v := .ref (a 16)) (C := RX3) (T := TX3) (N := 14) hx hb hts (by decide +kernel) hown hK hP 0 rfl rfl 13 (by decide) (hts (.fieldLink RX3 43 "DanceHall$State" "danceOf" "[[I") (by decide +kernel)) (fun _ h9 => h9) rfl dX3_copyFrom_145 ?_
  refine lv_iload_n hx hb dX3_copyFrom_148 rfl (lv_at hl 0 rfl) ?_
  refine va_aldA hx hb hK hP 16 4 rfl rfl (vp_in_nI (n := 4) (N := 8) (by decide) (by decide)) dX3_copyFrom_149 ?_
  refine kv_w (y := .ref (a 21)) rfl ?_
  refine lv_iconst (v := nI 0) hx hb dX3_copyFrom_150 (by decide) ?_
  refine lv_bipush (v := nI 8) hx hb dX3_copyFrom_151 (by decide) ?_
  refine va_copyi hx hb (hml.trans hl.1.symm) hown (hts (.methodLink RX3 138 arraycopyName) (by decide +kernel)) (hts (.native arraycopyName) (by decide +kernel)) (hts (.static arraycopyName) (by decide +kernel)) (hts (.initialized "java/lang/System") (by decide +kernel)) hK hP hD hS (46) (21) 0 0 rfl rfl rfl rfl rfl (by decide) (by decide) (by decide) (by decide) (by decide) (fun _ _ => rfl) (Nat.le_of_ble_eq_true rfl) (Nat.le_of_ble_eq_true rfl) dX3_copyFrom_153 (fun H locs hP hD hS => ?_)
  have hP : va_P D vwCl (bkF [sO a (C2.1, C2.2.1, C2.2.2.1, C2.2.2.2.1, C2.2.2.2.2.1, C2.2.2.2.2.2.1, C2.2.2.2.2.2.2.1, C2.2.2.2.2.2.2.2), gW cy a 1 L2, gW cy a 7 F2, sA cy a (A2.1, A2.2.1, A2.2.2), [(a 17, .inl (cy 0, 8, .inl (d2 0))), (a 18, .inl (cy 0, 8, .inl (d2 1))), (a 19, .inl (cy 0, 8, .inl (d2 2))), (a 20, .inl (cy 0, 8, .inl (d2 3))), (a 21, .inl (cy 0, 8, .inl (va_cpy (d2 4) (d 4) (nI 0).toNatClampNeg (nI 0).toNatClampNeg (nI 8).toNatClampNeg))), (a 22, .inl (cy 0, 8, .inl (d 5))), (a 23, .inl (cy 0, 8, .inl (d 6))), (a 24, .inl (cy 0, 8, .inl (d 7)))], sO b C2, gW cy b 1 L2, gW cy b 7 F2, sA cy b A2, rW cy b d2]) H := hP
  have hD : va_D A (bkF [sO a (C2.1, C2.2.1, C2.2.2.1, C2.2.2.2.1, C2.2.2.2.2.1, C2.2.2.2.2.2.1, C2.2.2.2.2.2.2.1, C2.2.2.2.2.2.2.2), gW cy a 1 L2, gW cy a 7 F2, sA cy a (A2.1, A2.2.1, A2.2.2), [(a 17, .inl (cy 0, 8, .inl (d2 0))), (a 18, .inl (cy 0, 8, .inl (d2 1))), (a 19, .inl (cy 0, 8, .inl (d2 2))), (a 20, .inl (cy 0, 8, .inl (d2 3))), (a 21, .inl (cy 0, 8, .inl (va_cpy (d2 4) (d 4) (nI 0).toNatClampNeg (nI 0).toNatClampNeg (nI 8).toNatClampNeg))), (a 22, .inl (cy 0, 8, .inl (d 5))), (a 23, .inl (cy 0, 8, .inl (d 6))), (a 24, .inl (cy 0, 8, .inl (d 7)))], sO b C2, gW cy b 1 L2, gW cy b 7 F2, sA cy b A2, rW cy b d2]) := hD
  have hP := kP_cell (g := (d2 4)) hP 21 rfl (fun j hj => k_cpy (by decide) _ _ hj)
  have hD := hD.set (p := 21) (e := .inl (cy 0, 8, .inl (d2 4))) rfl
  have hP : va_P D vwCl (bkF [sO a (C2.1, C2.2.1, C2.2.2.1, C2.2.2.2.1, C2.2.2.2.2.1, C2.2.2.2.2.2.1, C2.2.2.2.2.2.2.1, C2.2.2.2.2.2.2.2), gW cy a 1 L2, gW cy a 7 F2, sA cy a (A2.1, A2.2.1, A2.2.2), [(a 17, .inl (cy 0, 8, .inl (d2 0))), (a 18, .inl (cy 0, 8, .inl (d2 1))), (a 19, .inl (cy 0, 8, .inl (d2 2))), (a 20, .inl (cy 0, 8, .inl (d2 3))), (a 21, .inl (cy 0, 8, .inl (d2 4))), (a 22, .inl (cy 0, 8, .inl (d 5))), (a 23, .inl (cy 0, 8, .inl (d 6))), (a 24, .inl (cy 0, 8, .inl (d 7)))], sO b C2, gW cy b 1 L2, gW cy b 7 F2, sA cy b A2, rW cy b d2]) H := hP
  have hD : va_D A (bkF [sO a (C2.1, C2.2.1, C2.2.2.1, C2.2.2.2.1, C2.2.2.2.2.1, C2.2.2.2.2.2.1, C2.2.2.2.2.2.2.1, C2.2.2.2.2.2.2.2), gW cy a 1 L2, gW cy a 7 F2, sA cy a (A2.1, A2.2.1, A2.2.2), [(a 17, .inl (cy 0, 8, .inl (d2 0))), (a 18, .inl (cy 0, 8, .inl (d2 1))), (a 19, .inl (cy 0, 8, .inl (d2 2))), (a 20, .inl (cy 0, 8, .inl (d2 3))), (a 21, .inl (cy 0, 8, .inl (d2 4))), (a 22, .inl (cy 0, 8, .inl (d 5))), (a 23, .inl (cy 0, 8, .inl (d 6))), (a 24, .inl (cy 0, 8, .inl (d 7)))], sO b C2, gW cy b 1 L2, gW cy b 7 F2, sA cy b A2, rW cy b d2]) := hD
  refine lv_iinc (v := nI 5) (lv' := [(2, .int (nI 5)), (0, .ref (a 0)), (1, .ref (b 0))]) hx hb dX3_copyFrom_156 hl (k := 0) rfl (by decide) (by decide) rfl (fun ls hl => ?_)
  refine lv_goto (tgt := 131) hx hb dX3_copyFrom_159 (by decide) ?_
  refine lv_iload_n hx hb dX3_copyFrom_131 rfl (lv_at hl 0 rfl) ?_
  refine lv_bipush (v := nI 8) hx hb dX3_copyFrom_132 (by decide) ?_
  refine lv_icmp_ge (tgt := 162) hx hb dX3_copyFrom_134 (by decide) (fun h => absurd h (by decide)) (fun _ => ?_)
  refine lv_aload_n hx hb dX3_copyFrom_137 rfl (lv_at hl 2 rfl) ?_
  refine va_get (D := D) (ci := 3) (v := .ref (b 16)) (C := RX3) (T := TX3) (N := 14) hx hb hts (by decide +kernel) hown hK hP 25 rfl rfl 13 (by decide) (hts (.fieldLink RX3 43 "DanceHall$State" "danceOf" "[[I") (by decide +kernel)) (fun _ h9 => h9) rfl dX3_copyFrom_138 ?_
  refine lv_iload_n hx hb dX3_copyFrom_141 rfl (lv_at hl 0 rfl) ?_
  refine va_aldA hx hb hK hP 41 4 rfl rfl (vp_in_nI (n := 5) (N := 8) (by decide) (by decide)) dX3_copyFrom_142 ?_
  refine kv_w (y := .ref (b 22)) rfl ?_
  refine lv_iconst (v := nI 0) hx hb dX3_copyFrom_143 (by decide) ?_
  refine lv_aload_n hx hb dX3_copyFrom_144 rfl (lv_at hl 1 rfl) ?_
  refine va_get (D := D) (ci := 3) (v := .ref (a 16)) (C := RX3) (T := TX3) (N := 14) hx hb hts (by decide +kernel) hown hK hP 0 rfl rfl 13 (by decide) (hts (.fieldLink RX3 43 "DanceHall$State" "danceOf" "[[I") (by decide +kernel)) (fun _ h9 => h9) rfl dX3_copyFrom_145 ?_
  refine lv_iload_n hx hb dX3_copyFrom_148 rfl (lv_at hl 0 rfl) ?_
  refine va_aldA hx hb hK hP 16 4 rfl rfl (vp_in_nI (n := 5) (N := 8) (by decide) (by decide)) dX3_copyFrom_149 ?_
  refine kv_w (y := .ref (a 22)) rfl ?_
  refine lv_iconst (v := nI 0) hx hb dX3_copyFrom_150 (by decide) ?_
  refine lv_bipush (v := nI 8) hx hb dX3_copyFrom_151 (by decide) ?_
  refine va_copyi hx hb (hml.trans hl.1.symm) hown (hts (.methodLink RX3 138 arraycopyName) (by decide +kernel)) (hts (.native arraycopyName) (by decide +kernel)) (hts (.static arraycopyName) (by decide +kernel)) (hts (.initialized "java/lang/System") (by decide +kernel)) hK hP hD hS (47) (22) 0 0 rfl rfl rfl rfl rfl (by decide) (by decide) (by decide) (by decide) (by decide) (fun _ _ => rfl) (Nat.le_of_ble_eq_true rfl) (Nat.le_of_ble_eq_true rfl) dX3_copyFrom_153 (fun H locs hP hD hS => ?_)
  have hP : va_P D vwCl (bkF [sO a (C2.1, C2.2.1, C2.2.2.1, C2.2.2.2.1, C2.2.2.2.2.1, C2.2.2.2.2.2.1, C2.2.2.2.2.2.2.1, C2.2.2.2.2.2.2.2), gW cy a 1 L2, gW cy a 7 F2, sA cy a (A2.1, A2.2.1, A2.2.2), [(a 17, .inl (cy 0, 8, .inl (d2 0))), (a 18, .inl (cy 0, 8, .inl (d2 1))), (a 19, .inl (cy 0, 8, .inl (d2 2))), (a 20, .inl (cy 0, 8, .inl (d2 3))), (a 21, .inl (cy 0, 8, .inl (d2 4))), (a 22, .inl (cy 0, 8, .inl (va_cpy (d2 5) (d 5) (nI 0).toNatClampNeg (nI 0).toNatClampNeg (nI 8).toNatClampNeg))), (a 23, .inl (cy 0, 8, .inl (d 6))), (a 24, .inl (cy 0, 8, .inl (d 7)))], sO b C2, gW cy b 1 L2, gW cy b 7 F2, sA cy b A2, rW cy b d2]) H := hP
  have hD : va_D A (bkF [sO a (C2.1, C2.2.1, C2.2.2.1, C2.2.2.2.1, C2.2.2.2.2.1, C2.2.2.2.2.2.1, C2.2.2.2.2.2.2.1, C2.2.2.2.2.2.2.2), gW cy a 1 L2, gW cy a 7 F2, sA cy a (A2.1, A2.2.1, A2.2.2), [(a 17, .inl (cy 0, 8, .inl (d2 0))), (a 18, .inl (cy 0, 8, .inl (d2 1))), (a 19, .inl (cy 0, 8, .inl (d2 2))), (a 20, .inl (cy 0, 8, .inl (d2 3))), (a 21, .inl (cy 0, 8, .inl (d2 4))), (a 22, .inl (cy 0, 8, .inl (va_cpy (d2 5) (d 5) (nI 0).toNatClampNeg (nI 0).toNatClampNeg (nI 8).toNatClampNeg))), (a 23, .inl (cy 0, 8, .inl (d 6))), (a 24, .inl (cy 0, 8, .inl (d 7)))], sO b C2, gW cy b 1 L2, gW cy b 7 F2, sA cy b A2, rW cy b d2]) := hD
  have hP := kP_cell (g := (d2 5)) hP 22 rfl (fun j hj => k_cpy (by decide) _ _ hj)
  have hD := hD.set (p := 22) (e := .inl (cy 0, 8, .inl (d2 5))) rfl
  have hP : va_P D vwCl (bkF [sO a (C2.1, C2.2.1, C2.2.2.1, C2.2.2.2.1, C2.2.2.2.2.1, C2.2.2.2.2.2.1, C2.2.2.2.2.2.2.1, C2.2.2.2.2.2.2.2), gW cy a 1 L2, gW cy a 7 F2, sA cy a (A2.1, A2.2.1, A2.2.2), [(a 17, .inl (cy 0, 8, .inl (d2 0))), (a 18, .inl (cy 0, 8, .inl (d2 1))), (a 19, .inl (cy 0, 8, .inl (d2 2))), (a 20, .inl (cy 0, 8, .inl (d2 3))), (a 21, .inl (cy 0, 8, .inl (d2 4))), (a 22, .inl (cy 0, 8, .inl (d2 5))), (a 23, .inl (cy 0, 8, .inl (d 6))), (a 24, .inl (cy 0, 8, .inl (d 7)))], sO b C2, gW cy b 1 L2, gW cy b 7 F2, sA cy b A2, rW cy b d2]) H := hP
  have hD : va_D A (bkF [sO a (C2.1, C2.2.1, C2.2.2.1, C2.2.2.2.1, C2.2.2.2.2.1, C2.2.2.2.2.2.1, C2.2.2.2.2.2.2.1, C2.2.2.2.2.2.2.2), gW cy a 1 L2, gW cy a 7 F2, sA cy a (A2.1, A2.2.1, A2.2.2), [(a 17, .inl (cy 0, 8, .inl (d2 0))), (a 18, .inl (cy 0, 8, .inl (d2 1))), (a 19, .inl (cy 0, 8, .inl (d2 2))), (a 20, .inl (cy 0, 8, .inl (d2 3))), (a 21, .inl (cy 0, 8, .inl (d2 4))), (a 22, .inl (cy 0, 8, .inl (d2 5))), (a 23, .inl (cy 0, 8, .inl (d 6))), (a 24, .inl (cy 0, 8, .inl (d 7)))], sO b C2, gW cy b 1 L2, gW cy b 7 F2, sA cy b A2, rW cy b d2]) := hD
  refine lv_iinc (v := nI 6) (lv' := [(2, .int (nI 6)), (0, .ref (a 0)), (1, .ref (b 0))]) hx hb dX3_copyFrom_156 hl (k := 0) rfl (by decide) (by decide) rfl (fun ls hl => ?_)
  refine lv_goto (tgt := 131) hx hb dX3_copyFrom_159 (by decide) ?_
  refine lv_iload_n hx hb dX3_copyFrom_131 rfl (lv_at hl 0 rfl) ?_
  refine lv_bipush (v := nI 8) hx hb dX3_copyFrom_132 (by decide) ?_
  refine lv_icmp_ge (tgt := 162) hx hb dX3_copyFrom_134 (by decide) (fun h => absurd h (by decide)) (fun _ => ?_)
  refine lv_aload_n hx hb dX3_copyFrom_137 rfl (lv_at hl 2 rfl) ?_
  refine va_get (D := D) (ci := 3) (v := .ref (b 16)) (C := RX3) (T := TX3) (N := 14) hx hb hts (by decide +kernel) hown hK hP 25 rfl rfl 13 (by decide) (hts (.fieldLink RX3 43 "DanceHall$State" "danceOf" "[[I") (by decide +kernel)) (fun _ h9 => h9) rfl dX3_copyFrom_138 ?_
  refine lv_iload_n hx hb dX3_copyFrom_141 rfl (lv_at hl 0 rfl) ?_
  refine va_aldA hx hb hK hP 41 4 rfl rfl (vp_in_nI (n := 6) (N := 8) (by decide) (by decide)) dX3_copyFrom_142 ?_
  refine kv_w (y := .ref (b 23)) rfl ?_
  refine lv_iconst (v := nI 0) hx hb dX3_copyFrom_143 (by decide) ?_
  refine lv_aload_n hx hb dX3_copyFrom_144 rfl (lv_at hl 1 rfl) ?_
  refine va_get (D := D) (ci := 3) (v := .ref (a 16)) (C := RX3) (T := TX3) (N := 14) hx hb hts (by decide +kernel) hown hK hP 0 rfl rfl 13 (by decide) (hts (.fieldLink RX3 43 "DanceHall$State" "danceOf" "[[I") (by decide +kernel)) (fun _ h9 => h9) rfl dX3_copyFrom_145 ?_
  refine lv_iload_n hx hb dX3_copyFrom_148 rfl (lv_at hl 0 rfl) ?_
  refine va_aldA hx hb hK hP 16 4 rfl rfl (vp_in_nI (n := 6) (N := 8) (by decide) (by decide)) dX3_copyFrom_149 ?_
  refine kv_w (y := .ref (a 23)) rfl ?_
  refine lv_iconst (v := nI 0) hx hb dX3_copyFrom_150 (by decide) ?_
  refine lv_bipush (v := nI 8) hx hb dX3_copyFrom_151 (by decide) ?_
  refine va_copyi hx hb (hml.trans hl.1.symm) hown (hts (.methodLink RX3 138 arraycopyName) (by decide +kernel)) (hts (.native arraycopyName) (by decide +kernel)) (hts (.static arraycopyName) (by decide +kernel)) (hts (.initialized "java/lang/System") (by decide +kernel)) hK hP hD hS (48) (23) 0 0 rfl rfl rfl rfl rfl (by decide) (by decide) (by decide) (by decide) (by decide) (fun _ _ => rfl) (Nat.le_of_ble_eq_true rfl) (Nat.le_of_ble_eq_true rfl) dX3_copyFrom_153 (fun H locs hP hD hS => ?_)
  have hP : va_P D vwCl (bkF [sO a (C2.1, C2.2.1, C2.2.2.1, C2.2.2.2.1, C2.2.2.2.2.1, C2.2.2.2.2.2.1, C2.2.2.2.2.2.2.1, C2.2.2.2.2.2.2.2), gW cy a 1 L2, gW cy a 7 F2, sA cy a (A2.1, A2.2.1, A2.2.2), [(a 17, .inl (cy 0, 8, .inl (d2 0))), (a 18, .inl (cy 0, 8, .inl (d2 1))), (a 19, .inl (cy 0, 8, .inl (d2 2))), (a 20, .inl (cy 0, 8, .inl (d2 3))), (a 21, .inl (cy 0, 8, .inl (d2 4))), (a 22, .inl (cy 0, 8, .inl (d2 5))), (a 23, .inl (cy 0, 8, .inl (va_cpy (d2 6) (d 6) (nI 0).toNatClampNeg (nI 0).toNatClampNeg (nI 8).toNatClampNeg))), (a 24, .inl (cy 0, 8, .inl (d 7)))], sO b C2, gW cy b 1 L2, gW cy b 7 F2, sA cy b A2, rW cy b d2]) H := hP
  have hD : va_D A (bkF [sO a (C2.1, C2.2.1, C2.2.2.1, C2.2.2.2.1, C2.2.2.2.2.1, C2.2.2.2.2.2.1, C2.2.2.2.2.2.2.1, C2.2.2.2.2.2.2.2), gW cy a 1 L2, gW cy a 7 F2, sA cy a (A2.1, A2.2.1, A2.2.2), [(a 17, .inl (cy 0, 8, .inl (d2 0))), (a 18, .inl (cy 0, 8, .inl (d2 1))), (a 19, .inl (cy 0, 8, .inl (d2 2))), (a 20, .inl (cy 0, 8, .inl (d2 3))), (a 21, .inl (cy 0, 8, .inl (d2 4))), (a 22, .inl (cy 0, 8, .inl (d2 5))), (a 23, .inl (cy 0, 8, .inl (va_cpy (d2 6) (d 6) (nI 0).toNatClampNeg (nI 0).toNatClampNeg (nI 8).toNatClampNeg))), (a 24, .inl (cy 0, 8, .inl (d 7)))], sO b C2, gW cy b 1 L2, gW cy b 7 F2, sA cy b A2, rW cy b d2]) := hD
  have hP := kP_cell (g := (d2 6)) hP 23 rfl (fun j hj => k_cpy (by decide) _ _ hj)
  have hD := hD.set (p := 23) (e := .inl (cy 0, 8, .inl (d2 6))) rfl
  have hP : va_P D vwCl (bkF [sO a (C2.1, C2.2.1, C2.2.2.1, C2.2.2.2.1, C2.2.2.2.2.1, C2.2.2.2.2.2.1, C2.2.2.2.2.2.2.1, C2.2.2.2.2.2.2.2), gW cy a 1 L2, gW cy a 7 F2, sA cy a (A2.1, A2.2.1, A2.2.2), [(a 17, .inl (cy 0, 8, .inl (d2 0))), (a 18, .inl (cy 0, 8, .inl (d2 1))), (a 19, .inl (cy 0, 8, .inl (d2 2))), (a 20, .inl (cy 0, 8, .inl (d2 3))), (a 21, .inl (cy 0, 8, .inl (d2 4))), (a 22, .inl (cy 0, 8, .inl (d2 5))), (a 23, .inl (cy 0, 8, .inl (d2 6))), (a 24, .inl (cy 0, 8, .inl (d 7)))], sO b C2, gW cy b 1 L2, gW cy b 7 F2, sA cy b A2, rW cy b d2]) H := hP
  have hD : va_D A (bkF [sO a (C2.1, C2.2.1, C2.2.2.1, C2.2.2.2.1, C2.2.2.2.2.1, C2.2.2.2.2.2.1, C2.2.2.2.2.2.2.1, C2.2.2.2.2.2.2.2), gW cy a 1 L2, gW cy a 7 F2, sA cy a (A2.1, A2.2.1, A2.2.2), [(a 17, .inl (cy 0, 8, .inl (d2 0))), (a 18, .inl (cy 0, 8, .inl (d2 1))), (a 19, .inl (cy 0, 8, .inl (d2 2))), (a 20, .inl (cy 0, 8, .inl (d2 3))), (a 21, .inl (cy 0, 8, .inl (d2 4))), (a 22, .inl (cy 0, 8, .inl (d2 5))), (a 23, .inl (cy 0, 8, .inl (d2 6))), (a 24, .inl (cy 0, 8, .inl (d 7)))], sO b C2, gW cy b 1 L2, gW cy b 7 F2, sA cy b A2, rW cy b d2]) := hD
  refine lv_iinc (v := nI 7) (lv' := [(2, .int (nI 7)), (0, .ref (a 0)), (1, .ref (b 0))]) hx hb dX3_copyFrom_156 hl (k := 0) rfl (by decide) (by decide) rfl (fun ls hl => ?_)
  refine lv_goto (tgt := 131) hx hb dX3_copyFrom_159 (by decide) ?_
  refine lv_iload_n hx hb dX3_copyFrom_131 rfl (lv_at hl 0 rfl) ?_
  refine lv_bipush (v := nI 8) hx hb dX3_copyFrom_132 (by decide) ?_
  refine lv_icmp_ge (tgt := 162) hx hb dX3_copyFrom_134 (by decide) (fun h => absurd h (by decide)) (fun _ => ?_)
  refine lv_aload_n hx hb dX3_copyFrom_137 rfl (lv_at hl 2 rfl) ?_
  refine va_get (D := D) (ci := 3) (v := .ref (b 16)) (C := RX3) (T := TX3) (N := 14) hx hb hts (by decide +kernel) hown hK hP 25 rfl rfl 13 (by decide) (hts (.fieldLink RX3 43 "DanceHall$State" "danceOf" "[[I") (by decide +kernel)) (fun _ h9 => h9) rfl dX3_copyFrom_138 ?_
  refine lv_iload_n hx hb dX3_copyFrom_141 rfl (lv_at hl 0 rfl) ?_
  refine va_aldA hx hb hK hP 41 4 rfl rfl (vp_in_nI (n := 7) (N := 8) (by decide) (by decide)) dX3_copyFrom_142 ?_
  refine kv_w (y := .ref (b 24)) rfl ?_
  refine lv_iconst (v := nI 0) hx hb dX3_copyFrom_143 (by decide) ?_
  refine lv_aload_n hx hb dX3_copyFrom_144 rfl (lv_at hl 1 rfl) ?_
  refine va_get (D := D) (ci := 3) (v := .ref (a 16)) (C := RX3) (T := TX3) (N := 14) hx hb hts (by decide +kernel) hown hK hP 0 rfl rfl 13 (by decide) (hts (.fieldLink RX3 43 "DanceHall$State" "danceOf" "[[I") (by decide +kernel)) (fun _ h9 => h9) rfl dX3_copyFrom_145 ?_
  refine lv_iload_n hx hb dX3_copyFrom_148 rfl (lv_at hl 0 rfl) ?_
  refine va_aldA hx hb hK hP 16 4 rfl rfl (vp_in_nI (n := 7) (N := 8) (by decide) (by decide)) dX3_copyFrom_149 ?_
  refine kv_w (y := .ref (a 24)) rfl ?_
  refine lv_iconst (v := nI 0) hx hb dX3_copyFrom_150 (by decide) ?_
  refine lv_bipush (v := nI 8) hx hb dX3_copyFrom_151 (by decide) ?_
  refine va_copyi hx hb (hml.trans hl.1.symm) hown (hts (.methodLink RX3 138 arraycopyName) (by decide +kernel)) (hts (.native arraycopyName) (by decide +kernel)) (hts (.static arraycopyName) (by decide +kernel)) (hts (.initialized "java/lang/System") (by decide +kernel)) hK hP hD hS (49) (24) 0 0 rfl rfl rfl rfl rfl (by decide) (by decide) (by decide) (by decide) (by decide) (fun _ _ => rfl) (Nat.le_of_ble_eq_true rfl) (Nat.le_of_ble_eq_true rfl) dX3_copyFrom_153 (fun H locs hP hD hS => ?_)
  have hP : va_P D vwCl (bkF [sO a (C2.1, C2.2.1, C2.2.2.1, C2.2.2.2.1, C2.2.2.2.2.1, C2.2.2.2.2.2.1, C2.2.2.2.2.2.2.1, C2.2.2.2.2.2.2.2), gW cy a 1 L2, gW cy a 7 F2, sA cy a (A2.1, A2.2.1, A2.2.2), [(a 17, .inl (cy 0, 8, .inl (d2 0))), (a 18, .inl (cy 0, 8, .inl (d2 1))), (a 19, .inl (cy 0, 8, .inl (d2 2))), (a 20, .inl (cy 0, 8, .inl (d2 3))), (a 21, .inl (cy 0, 8, .inl (d2 4))), (a 22, .inl (cy 0, 8, .inl (d2 5))), (a 23, .inl (cy 0, 8, .inl (d2 6))), (a 24, .inl (cy 0, 8, .inl (va_cpy (d2 7) (d 7) (nI 0).toNatClampNeg (nI 0).toNatClampNeg (nI 8).toNatClampNeg)))], sO b C2, gW cy b 1 L2, gW cy b 7 F2, sA cy b A2, rW cy b d2]) H := hP
  have hD : va_D A (bkF [sO a (C2.1, C2.2.1, C2.2.2.1, C2.2.2.2.1, C2.2.2.2.2.1, C2.2.2.2.2.2.1, C2.2.2.2.2.2.2.1, C2.2.2.2.2.2.2.2), gW cy a 1 L2, gW cy a 7 F2, sA cy a (A2.1, A2.2.1, A2.2.2), [(a 17, .inl (cy 0, 8, .inl (d2 0))), (a 18, .inl (cy 0, 8, .inl (d2 1))), (a 19, .inl (cy 0, 8, .inl (d2 2))), (a 20, .inl (cy 0, 8, .inl (d2 3))), (a 21, .inl (cy 0, 8, .inl (d2 4))), (a 22, .inl (cy 0, 8, .inl (d2 5))), (a 23, .inl (cy 0, 8, .inl (d2 6))), (a 24, .inl (cy 0, 8, .inl (va_cpy (d2 7) (d 7) (nI 0).toNatClampNeg (nI 0).toNatClampNeg (nI 8).toNatClampNeg)))], sO b C2, gW cy b 1 L2, gW cy b 7 F2, sA cy b A2, rW cy b d2]) := hD
  have hP := kP_cell (g := (d2 7)) hP 24 rfl (fun j hj => k_cpy (by decide) _ _ hj)
  have hD := hD.set (p := 24) (e := .inl (cy 0, 8, .inl (d2 7))) rfl
  have hP : va_P D vwCl (bkF [sO a (C2.1, C2.2.1, C2.2.2.1, C2.2.2.2.1, C2.2.2.2.2.1, C2.2.2.2.2.2.1, C2.2.2.2.2.2.2.1, C2.2.2.2.2.2.2.2), gW cy a 1 L2, gW cy a 7 F2, sA cy a (A2.1, A2.2.1, A2.2.2), [(a 17, .inl (cy 0, 8, .inl (d2 0))), (a 18, .inl (cy 0, 8, .inl (d2 1))), (a 19, .inl (cy 0, 8, .inl (d2 2))), (a 20, .inl (cy 0, 8, .inl (d2 3))), (a 21, .inl (cy 0, 8, .inl (d2 4))), (a 22, .inl (cy 0, 8, .inl (d2 5))), (a 23, .inl (cy 0, 8, .inl (d2 6))), (a 24, .inl (cy 0, 8, .inl (d2 7)))], sO b C2, gW cy b 1 L2, gW cy b 7 F2, sA cy b A2, rW cy b d2]) H := hP
  have hD : va_D A (bkF [sO a (C2.1, C2.2.1, C2.2.2.1, C2.2.2.2.1, C2.2.2.2.2.1, C2.2.2.2.2.2.1, C2.2.2.2.2.2.2.1, C2.2.2.2.2.2.2.2), gW cy a 1 L2, gW cy a 7 F2, sA cy a (A2.1, A2.2.1, A2.2.2), [(a 17, .inl (cy 0, 8, .inl (d2 0))), (a 18, .inl (cy 0, 8, .inl (d2 1))), (a 19, .inl (cy 0, 8, .inl (d2 2))), (a 20, .inl (cy 0, 8, .inl (d2 3))), (a 21, .inl (cy 0, 8, .inl (d2 4))), (a 22, .inl (cy 0, 8, .inl (d2 5))), (a 23, .inl (cy 0, 8, .inl (d2 6))), (a 24, .inl (cy 0, 8, .inl (d2 7)))], sO b C2, gW cy b 1 L2, gW cy b 7 F2, sA cy b A2, rW cy b d2]) := hD
  refine lv_iinc (v := nI 8) (lv' := [(2, .int (nI 8)), (0, .ref (a 0)), (1, .ref (b 0))]) hx hb dX3_copyFrom_156 hl (k := 0) rfl (by decide) (by decide) rfl (fun ls hl => ?_)
  refine lv_goto (tgt := 131) hx hb dX3_copyFrom_159 (by decide) ?_
  refine lv_iload_n hx hb dX3_copyFrom_131 rfl (lv_at hl 0 rfl) ?_
  refine lv_bipush (v := nI 8) hx hb dX3_copyFrom_132 (by decide) ?_
  refine lv_icmp_ge (tgt := 162) hx hb dX3_copyFrom_134 (by decide) (fun _ => ?_) (fun h => absurd h (by decide))
  exact kr_v (post := fun u_ : Unit => True) (Bs := fun u_ : Unit => [sO a C2, gW cy a 1 L2, gW cy a 7 F2, sA cy a A2, rW cy a d2, sO b C2, gW cy b 1 L2, gW cy b 7 F2, sA cy b A2, rW cy b d2]) hx hb hr hlocks () hP hK hD hS trivial dX3_copyFrom_162 hQ
