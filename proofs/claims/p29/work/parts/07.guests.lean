abbrev rm_X2_has : Room := { frames := 0, cells := 0, slots := 0, locals := 0 }
set_option maxHeartbeats 1000000 in
set_option maxRecDepth 100000 in
/-- has -/
theorem c_X2_has (l : Launch) (D : va_G) (cy : Nat → ClassId) (a : Nat → Nat) (k : Nat) (g : rG) (x : Int32) (sz : Nat) : Met l yX2_has wsX2_has rm_X2_has (va_Pc [.ref (a k), .int x] (kPre D (kT cy) [gW cy a k g] sz)) (va_Qi (fun r_ (u_ : Unit) => r_ = if ¬ x < nI 0 ∧ ¬ nI g.2.2.2.2.2 ≤ x then nI 1 else nI 0) (kFr D (kT cy) [gW cy a k g] sz (fun u_ : Unit => [gW cy a k g])) (va_A (bkF [gW cy a k g]) sz)) 0 0 (va_A (bkF [gW cy a k g]) sz) := by
  refine kOpen (y := yX2_has) (ws := wsX2_has) (cc := cX2_has) (maxL := 2) (ret := (some .boolean)) (av := [.ref (a k), .int x]) (Bs := [gW cy a k g]) (Qc := fun A => (va_Qi (fun r_ (u_ : Unit) => r_ = if ¬ x < nI 0 ∧ ¬ nI g.2.2.2.2.2 ≤ x then nI 1 else nI 0) (fun (u_ : Unit) t9 => kEnd D (kT cy) A [gW cy a k g] t9) A)) (by decide) rfl (Nat.le_of_ble_eq_true rfl) ?_
  intro p e s m args below meth c A Q ls hQ hx hb hml hr hlocks hin hts hown hN hK hP hD hS hA hsz hAe hl
  clear hAe
  have hl : lv_has ls 2 [(0, .ref (a k)), (1, .int x)] := hl
  suffices K9 : ∀ (H : Heap) (locs : List Loc), va_P D vwCl (bkF [gW cy a k g]) H → va_S A s.heap H locs → W p l e (headSpec wsX2_has rm_X2_has).room s m args below meth c H locs 0 0 Q (F0 m 0 ls []) from K9 _ _ hP hS
  clear hP hS
  intro H locs hP hS
  refine lv_iconst (v := nI 0) hx hb dX2_has_0 (by decide) ?_
  refine lv_iload_n hx hb dX2_has_1 rfl (lv_at hl 1 rfl) ?_
  refine lv_icmp_gt (tgt := 17) hx hb dX2_has_2 (by decide) (fun c_2 => ?_) (fun c_2 => ?_)
  · skip
    refine lv_iconst (v := nI 0) hx hb dX2_has_17 (by decide) ?_
    exact kr_i (post := fun r_ (u_ : Unit) => r_ = if ¬ x < nI 0 ∧ ¬ nI g.2.2.2.2.2 ≤ x then nI 1 else nI 0) (Bs := fun u_ : Unit => [gW cy a k g]) hx hb hr hlocks rfl () hP hK hD hS (by first | exact (if_pos (by first | assumption | (simp only [c_2]; done) | (constructor <;> assumption) | omega)).symm | exact (if_neg (by first | assumption | omega)).symm | simp [c_2] | (split <;> simp_all)) dX2_has_18 hQ
  · skip
    refine lv_iload_n hx hb dX2_has_5 rfl (lv_at hl 1 rfl) ?_
    refine lv_aload_n hx hb dX2_has_6 rfl (lv_at hl 0 rfl) ?_
    refine va_get (D := D) (ci := 2) (v := .int (nI g.2.2.2.2.2)) (C := RX2) (T := TX2) (N := 6) hx hb hts (by decide +kernel) hown hK hP 0 rfl rfl 5 (by decide) (hts (.fieldLink RX2 28 "DanceHall$Guests" "count" "I") (by decide +kernel)) (fun _ h9 => h9) rfl dX2_has_7 ?_
    refine lv_icmp_ge (tgt := 17) hx hb dX2_has_10 (by decide) (fun c_10 => ?_) (fun c_10 => ?_)
    · skip
      refine lv_iconst (v := nI 0) hx hb dX2_has_17 (by decide) ?_
      exact kr_i (post := fun r_ (u_ : Unit) => r_ = if ¬ x < nI 0 ∧ ¬ nI g.2.2.2.2.2 ≤ x then nI 1 else nI 0) (Bs := fun u_ : Unit => [gW cy a k g]) hx hb hr hlocks rfl () hP hK hD hS (by first | exact (if_pos (by first | assumption | (simp only [c_2, c_10]; done) | (constructor <;> assumption) | omega)).symm | exact (if_neg (by first | assumption | omega)).symm | simp [c_2, c_10] | (split <;> simp_all)) dX2_has_18 hQ
    · skip
      refine lv_iconst (v := nI 1) hx hb dX2_has_13 (by decide) ?_
      refine lv_goto (tgt := 18) hx hb dX2_has_14 (by decide) ?_
      exact kr_i (post := fun r_ (u_ : Unit) => r_ = if ¬ x < nI 0 ∧ ¬ nI g.2.2.2.2.2 ≤ x then nI 1 else nI 0) (Bs := fun u_ : Unit => [gW cy a k g]) hx hb hr hlocks rfl () hP hK hD hS (by first | exact (if_pos (by first | assumption | (simp only [c_2, c_10]; done) | (constructor <;> assumption) | omega)).symm | exact (if_neg (by first | assumption | omega)).symm | simp [c_2, c_10] | (split <;> simp_all)) dX2_has_18 hQ
abbrev rm_X2_isFull : Room := { frames := 0, cells := 0, slots := 0, locals := 0 }
set_option maxHeartbeats 1000000 in
set_option maxRecDepth 100000 in
/-- isFull -/
theorem c_X2_isFull (l : Launch) (D : va_G) (cy : Nat → ClassId) (a : Nat → Nat) (k : Nat) (g : rG) (hn : g.2.2.2.2.2 ≤ 8) (sz : Nat) : Met l yX2_isFull wsX2_isFull rm_X2_isFull (va_Pc [.ref (a k)] (kPre D (kT cy) [gW cy a k g] sz)) (va_Qi (fun r_ (u_ : Unit) => r_ = if 8 ≤ g.2.2.2.2.2 then nI 1 else nI 0) (kFr D (kT cy) [gW cy a k g] sz (fun u_ : Unit => [gW cy a k g])) (va_A (bkF [gW cy a k g]) sz)) 0 0 (va_A (bkF [gW cy a k g]) sz) := by
  refine kOpen (y := yX2_isFull) (ws := wsX2_isFull) (cc := cX2_isFull) (maxL := 1) (ret := (some .boolean)) (av := [.ref (a k)]) (Bs := [gW cy a k g]) (Qc := fun A => (va_Qi (fun r_ (u_ : Unit) => r_ = if 8 ≤ g.2.2.2.2.2 then nI 1 else nI 0) (fun (u_ : Unit) t9 => kEnd D (kT cy) A [gW cy a k g] t9) A)) (by decide) rfl (Nat.le_of_ble_eq_true rfl) ?_
  intro p e s m args below meth c A Q ls hQ hx hb hml hr hlocks hin hts hown hN hK hP hD hS hA hsz hAe hl
  clear hAe
  have hl : lv_has ls 1 [(0, .ref (a k))] := hl
  suffices K9 : ∀ (H : Heap) (locs : List Loc), va_P D vwCl (bkF [gW cy a k g]) H → va_S A s.heap H locs → W p l e (headSpec wsX2_isFull rm_X2_isFull).room s m args below meth c H locs 0 0 Q (F0 m 0 ls []) from K9 _ _ hP hS
  clear hP hS
  intro H locs hP hS
  refine lv_aload_n hx hb dX2_isFull_0 rfl (lv_at hl 0 rfl) ?_
  refine va_get (D := D) (ci := 2) (v := .int (nI g.2.2.2.2.2)) (C := RX2) (T := TX2) (N := 6) hx hb hts (by decide +kernel) hown hK hP 0 rfl rfl 5 (by decide) (hts (.fieldLink RX2 28 "DanceHall$Guests" "count" "I") (by decide +kernel)) (fun _ h9 => h9) rfl dX2_isFull_1 ?_
  refine lv_bipush (v := nI 8) hx hb dX2_isFull_4 (by decide) ?_
  refine lv_icmp_lt (tgt := 13) hx hb dX2_isFull_6 (by decide) (fun c_6 => ?_) (fun c_6 => ?_)
  · skip
    have c_6 : g.2.2.2.2.2 < 8 := (nI_ltI (a := g.2.2.2.2.2) (b := 8) (by omega) (by omega)).mp c_6
    refine lv_iconst (v := nI 0) hx hb dX2_isFull_13 (by decide) ?_
    exact kr_i (post := fun r_ (u_ : Unit) => r_ = if 8 ≤ g.2.2.2.2.2 then nI 1 else nI 0) (Bs := fun u_ : Unit => [gW cy a k g]) hx hb hr hlocks rfl () hP hK hD hS (by first | exact (if_pos (by first | assumption | (simp only [c_6]; done) | (constructor <;> assumption) | omega)).symm | exact (if_neg (by first | assumption | omega)).symm | simp [c_6] | (split <;> simp_all)) dX2_isFull_14 hQ
  · skip
    have c_6 : ¬ (g.2.2.2.2.2 < 8) := fun h => c_6 ((nI_ltI (a := g.2.2.2.2.2) (b := 8) (by omega) (by omega)).mpr h)
    refine lv_iconst (v := nI 1) hx hb dX2_isFull_9 (by decide) ?_
    refine lv_goto (tgt := 14) hx hb dX2_isFull_10 (by decide) ?_
    exact kr_i (post := fun r_ (u_ : Unit) => r_ = if 8 ≤ g.2.2.2.2.2 then nI 1 else nI 0) (Bs := fun u_ : Unit => [gW cy a k g]) hx hb hr hlocks rfl () hP hK hD hS (by first | exact (if_pos (by first | assumption | (simp only [c_6]; done) | (constructor <;> assumption) | omega)).symm | exact (if_neg (by first | assumption | omega)).symm | simp [c_6] | (split <;> simp_all)) dX2_isFull_14 hQ
abbrev rm_X2_add : Room := { frames := 1, cells := 0, slots := 0, locals := 20 }
set_option maxHeartbeats 1000000 in
set_option maxRecDepth 100000 in
/-- add -/
theorem c_X2_add (l : Launch) (D : va_G) (cy : Nat → ClassId) (a : Nat → Nat) (k : Nat) (g : rG) (t : Int32) (z : Int32) (sh : Int32) (hn : g.2.2.2.2.2 < 8) (hsh : sh = nI 0 ∨ sh = nI 1) (sz : Nat) : Met l yX2_add wsX2_add rm_X2_add (va_Pc [.ref (a k), .int t, .int z, .int sh] (kPre D (kT cy) [gW cy a k g] sz)) (va_Qi (fun r_ (u_ : Unit) => r_ = nI g.2.2.2.2.2) (kFr D (kT cy) [gW cy a k g] sz (fun u_ : Unit => [gW cy a k (upd g.1 g.2.2.2.2.2 t, upd g.2.1 g.2.2.2.2.2 z, upd g.2.2.1 g.2.2.2.2.2 sh, upd g.2.2.2.1 g.2.2.2.2.2 (nI 1), upd g.2.2.2.2.1 g.2.2.2.2.2 (nI 0), g.2.2.2.2.2 + 1)])) (va_A (bkF [gW cy a k g]) sz)) 0 0 (va_A (bkF [gW cy a k g]) sz) := by
  refine kOpen (y := yX2_add) (ws := wsX2_add) (cc := cX2_add) (maxL := 5) (ret := (some .int)) (av := [.ref (a k), .int t, .int z, .int sh]) (Bs := [gW cy a k g]) (Qc := fun A => (va_Qi (fun r_ (u_ : Unit) => r_ = nI g.2.2.2.2.2) (fun (u_ : Unit) t9 => kEnd D (kT cy) A [gW cy a k (upd g.1 g.2.2.2.2.2 t, upd g.2.1 g.2.2.2.2.2 z, upd g.2.2.1 g.2.2.2.2.2 sh, upd g.2.2.2.1 g.2.2.2.2.2 (nI 1), upd g.2.2.2.2.1 g.2.2.2.2.2 (nI 0), g.2.2.2.2.2 + 1)] t9) A)) (by decide) rfl (Nat.le_of_ble_eq_true rfl) ?_
  intro p e s m args below meth c A Q ls hQ hx hb hml hr hlocks hin hts hown hN hK hP hD hS hA hsz hAe hl
  clear hAe
  have hl : lv_has ls 5 [(0, .ref (a k)), (1, .int t), (2, .int z), (3, .int sh)] := hl
  suffices K9 : ∀ (H : Heap) (locs : List Loc), va_P D vwCl (bkF [gW cy a k g]) H → va_S A s.heap H locs → W p l e (headSpec wsX2_add rm_X2_add).room s m args below meth c H locs 0 0 Q (F0 m 0 ls []) from K9 _ _ hP hS
  clear hP hS
  intro H locs hP hS
  refine lv_aload_n hx hb dX2_add_0 rfl (lv_at hl 0 rfl) ?_
  refine kc_i (Cs := [gW cy a k g]) (Rs := []) (Bs := [gW cy a k g]) (Cs' := fun u_ : Unit => [gW cy a k g]) (Fs := fun u_ : Unit => [gW cy a k g]) hP hD hS hA [0] [] [0] rfl rfl (by decide) (by decide) (fun _ => rfl) (va_runV (As := []) (rest := []) ⟨hx, hb, hml, hown, hts⟩ (c_X2_isFull l D cy a k g (by first | assumption | omega | decide) H.size) (cwV 0 hts gX2_add_X2_isFull rfl rfl rfl (by decide +kernel) ⟨Nat.le_of_ble_eq_true rfl, Nat.le_of_ble_eq_true rfl⟩) (kPre_V (ci := 2) hK hN hP hD [0] (by decide) rfl 0 rfl rfl) rfl rfl hl.1 rfl (lv_room (Nat.le_of_ble_eq_true rfl)) dX2_add_1 ⟨Nat.le_of_ble_eq_true rfl, Nat.le_of_ble_eq_true rfl⟩) (fun r_ u_ H locs hw hP hD hS => ?_)
  have hw : r_ = if 8 ≤ g.2.2.2.2.2 then nI 1 else nI 0 := hw
  subst hw
  refine kv_i (y := nI 0) (if_neg (by omega)) ?_
  refine lv_if_eq (tgt := 9) hx hb dX2_add_4 (by decide) (fun _ => ?_) (fun h => absurd h (by decide))
  refine lv_aload_n hx hb dX2_add_9 rfl (lv_at hl 0 rfl) ?_
  refine va_get (D := D) (ci := 2) (v := .int (nI g.2.2.2.2.2)) (C := RX2) (T := TX2) (N := 6) hx hb hts (by decide +kernel) hown hK hP 0 rfl rfl 5 (by decide) (hts (.fieldLink RX2 28 "DanceHall$Guests" "count" "I") (by decide +kernel)) (fun _ h9 => h9) rfl dX2_add_10 ?_
  refine lv_istore (lv' := [(4, .int (nI g.2.2.2.2.2)), (0, .ref (a k)), (1, .int t), (2, .int z), (3, .int sh)]) hx hb dX2_add_13 hl (by decide) rfl (fun ls hl => ?_)
  refine lv_aload_n hx hb dX2_add_15 rfl (lv_at hl 1 rfl) ?_
  refine va_get (D := D) (ci := 2) (v := .ref (a (k + 1))) (C := RX2) (T := TX2) (N := 6) hx hb hts (by decide +kernel) hown hK hP 0 rfl rfl 0 (by decide) (hts (.fieldLink RX2 9 "DanceHall$Guests" "tokens" "[I") (by decide +kernel)) (fun _ h9 => h9) rfl dX2_add_16 ?_
  refine lv_iload hx hb dX2_add_19 (lv_at hl 0 rfl) ?_
  refine lv_iload_n hx hb dX2_add_21 rfl (lv_at hl 2 rfl) ?_
  refine va_iast hx hb hK hP hD hS 1 0 rfl rfl (vp_in_nI (n := g.2.2.2.2.2) (N := 8) (by omega) (by omega)) dX2_add_22 (fun H locs hP hD hS => ?_)
  rw [nI_clamp (n := g.2.2.2.2.2) (by omega)] at hP hD
  have hP : va_P D vwCl (bkF [gW cy a k (upd g.1 g.2.2.2.2.2 t, g.2)]) H := hP
  have hD : va_D A (bkF [gW cy a k (upd g.1 g.2.2.2.2.2 t, g.2)]) := hD
  refine lv_aload_n hx hb dX2_add_23 rfl (lv_at hl 1 rfl) ?_
  refine va_get (D := D) (ci := 2) (v := .ref (a (k + 2))) (C := RX2) (T := TX2) (N := 6) hx hb hts (by decide +kernel) hown hK hP 0 rfl rfl 1 (by decide) (hts (.fieldLink RX2 15 "DanceHall$Guests" "sizes" "[I") (by decide +kernel)) (fun _ h9 => h9) rfl dX2_add_24 ?_
  refine lv_iload hx hb dX2_add_27 (lv_at hl 0 rfl) ?_
  refine lv_iload_n hx hb dX2_add_29 rfl (lv_at hl 3 rfl) ?_
  refine va_iast hx hb hK hP hD hS 2 0 rfl rfl (vp_in_nI (n := g.2.2.2.2.2) (N := 8) (by omega) (by omega)) dX2_add_30 (fun H locs hP hD hS => ?_)
  rw [nI_clamp (n := g.2.2.2.2.2) (by omega)] at hP hD
  have hP : va_P D vwCl (bkF [gW cy a k (upd g.1 g.2.2.2.2.2 t, upd g.2.1 g.2.2.2.2.2 z, g.2.2)]) H := hP
  have hD : va_D A (bkF [gW cy a k (upd g.1 g.2.2.2.2.2 t, upd g.2.1 g.2.2.2.2.2 z, g.2.2)]) := hD
  refine lv_aload_n hx hb dX2_add_31 rfl (lv_at hl 1 rfl) ?_
  refine va_get (D := D) (ci := 2) (v := .ref (a (k + 3))) (C := RX2) (T := TX2) (N := 6) hx hb hts (by decide +kernel) hown hK hP 0 rfl rfl 2 (by decide) (hts (.fieldLink RX2 18 "DanceHall$Guests" "ownShoes" "[Z") (by decide +kernel)) (fun _ h9 => h9) rfl dX2_add_32 ?_
  refine lv_iload hx hb dX2_add_35 (lv_at hl 0 rfl) ?_
  refine lv_iload_n hx hb dX2_add_37 rfl (lv_at hl 4 rfl) ?_
  refine va_zast hx hb hK hP hD hS 3 1 rfl rfl (vp_in_nI (n := g.2.2.2.2.2) (N := 8) (by omega) (by omega)) dX2_add_38 (fun H locs hP hD hS => ?_)
  rw [nI_clamp (n := g.2.2.2.2.2) (by omega)] at hP hD
  rw [kz hsh] at hP hD
  have hP : va_P D vwCl (bkF [gW cy a k (upd g.1 g.2.2.2.2.2 t, upd g.2.1 g.2.2.2.2.2 z, upd g.2.2.1 g.2.2.2.2.2 sh, g.2.2.2)]) H := hP
  have hD : va_D A (bkF [gW cy a k (upd g.1 g.2.2.2.2.2 t, upd g.2.1 g.2.2.2.2.2 z, upd g.2.2.1 g.2.2.2.2.2 sh, g.2.2.2)]) := hD
  refine lv_aload_n hx hb dX2_add_39 rfl (lv_at hl 1 rfl) ?_
  refine va_get (D := D) (ci := 2) (v := .ref (a (k + 4))) (C := RX2) (T := TX2) (N := 6) hx hb hts (by decide +kernel) hown hK hP 0 rfl rfl 3 (by decide) (hts (.fieldLink RX2 22 "DanceHall$Guests" "here" "[Z") (by decide +kernel)) (fun _ h9 => h9) rfl dX2_add_40 ?_
  refine lv_iload hx hb dX2_add_43 (lv_at hl 0 rfl) ?_
  refine lv_iconst (v := nI 1) hx hb dX2_add_45 (by decide) ?_
  refine va_zast hx hb hK hP hD hS 4 1 rfl rfl (vp_in_nI (n := g.2.2.2.2.2) (N := 8) (by omega) (by omega)) dX2_add_46 (fun H locs hP hD hS => ?_)
  rw [nI_clamp (n := g.2.2.2.2.2) (by omega)] at hP hD
  rw [kz_1] at hP hD
  have hP : va_P D vwCl (bkF [gW cy a k (upd g.1 g.2.2.2.2.2 t, upd g.2.1 g.2.2.2.2.2 z, upd g.2.2.1 g.2.2.2.2.2 sh, upd g.2.2.2.1 g.2.2.2.2.2 (nI 1), g.2.2.2.2)]) H := hP
  have hD : va_D A (bkF [gW cy a k (upd g.1 g.2.2.2.2.2 t, upd g.2.1 g.2.2.2.2.2 z, upd g.2.2.1 g.2.2.2.2.2 sh, upd g.2.2.2.1 g.2.2.2.2.2 (nI 1), g.2.2.2.2)]) := hD
  refine lv_aload_n hx hb dX2_add_47 rfl (lv_at hl 1 rfl) ?_
  refine va_get (D := D) (ci := 2) (v := .ref (a (k + 5))) (C := RX2) (T := TX2) (N := 6) hx hb hts (by decide +kernel) hown hK hP 0 rfl rfl 4 (by decide) (hts (.fieldLink RX2 25 "DanceHall$Guests" "allDances" "[I") (by decide +kernel)) (fun _ h9 => h9) rfl dX2_add_48 ?_
  refine lv_iload hx hb dX2_add_51 (lv_at hl 0 rfl) ?_
  refine lv_iconst (v := nI 0) hx hb dX2_add_53 (by decide) ?_
  refine va_iast hx hb hK hP hD hS 5 0 rfl rfl (vp_in_nI (n := g.2.2.2.2.2) (N := 8) (by omega) (by omega)) dX2_add_54 (fun H locs hP hD hS => ?_)
  rw [nI_clamp (n := g.2.2.2.2.2) (by omega)] at hP hD
  have hP : va_P D vwCl (bkF [gW cy a k (upd g.1 g.2.2.2.2.2 t, upd g.2.1 g.2.2.2.2.2 z, upd g.2.2.1 g.2.2.2.2.2 sh, upd g.2.2.2.1 g.2.2.2.2.2 (nI 1), upd g.2.2.2.2.1 g.2.2.2.2.2 (nI 0), g.2.2.2.2.2)]) H := hP
  have hD : va_D A (bkF [gW cy a k (upd g.1 g.2.2.2.2.2 t, upd g.2.1 g.2.2.2.2.2 z, upd g.2.2.1 g.2.2.2.2.2 sh, upd g.2.2.2.1 g.2.2.2.2.2 (nI 1), upd g.2.2.2.2.1 g.2.2.2.2.2 (nI 0), g.2.2.2.2.2)]) := hD
  refine lv_aload_n hx hb dX2_add_55 rfl (lv_at hl 1 rfl) ?_
  refine lv_dup hx hb dX2_add_56 rfl ?_
  refine va_get (D := D) (ci := 2) (v := .int (nI g.2.2.2.2.2)) (C := RX2) (T := TX2) (N := 6) hx hb hts (by decide +kernel) hown hK hP 0 rfl rfl 5 (by decide) (hts (.fieldLink RX2 28 "DanceHall$Guests" "count" "I") (by decide +kernel)) (fun _ h9 => h9) rfl dX2_add_57 ?_
  refine lv_iconst (v := nI 1) hx hb dX2_add_60 (by decide) ?_
  refine lv_iadd hx hb dX2_add_61 ?_
  refine kv_i (y := nI (g.2.2.2.2.2 + 1)) (nI_add g.2.2.2.2.2 1) ?_
  refine va_put (D := D) (ci := 2) (v := .int (nI (g.2.2.2.2.2 + 1))) (ty := .int) (C := RX2) (T := TX2) (N := 6) hx hb hts (by decide +kernel) tyX2 tyX2_ok nmX2 hown hK hP hD hS 0 rfl rfl 5 (by decide) (hts (.fieldLink RX2 28 "DanceHall$Guests" "count" "I") (by decide +kernel)) (fun _ h9 => h9) rfl (by decide +kernel) rfl rfl (Nat.le_of_ble_eq_true rfl) dX2_add_62 (fun H locs hP hD hS => ?_)
  have hP : va_P D vwCl (bkF [gW cy a k (upd g.1 g.2.2.2.2.2 t, upd g.2.1 g.2.2.2.2.2 z, upd g.2.2.1 g.2.2.2.2.2 sh, upd g.2.2.2.1 g.2.2.2.2.2 (nI 1), upd g.2.2.2.2.1 g.2.2.2.2.2 (nI 0), g.2.2.2.2.2 + 1)]) H := hP
  have hD : va_D A (bkF [gW cy a k (upd g.1 g.2.2.2.2.2 t, upd g.2.1 g.2.2.2.2.2 z, upd g.2.2.1 g.2.2.2.2.2 sh, upd g.2.2.2.1 g.2.2.2.2.2 (nI 1), upd g.2.2.2.2.1 g.2.2.2.2.2 (nI 0), g.2.2.2.2.2 + 1)]) := hD
  refine lv_iload hx hb dX2_add_65 (lv_at hl 0 rfl) ?_
  exact kr_i (post := fun r_ (u_ : Unit) => r_ = nI g.2.2.2.2.2) (Bs := fun u_ : Unit => [gW cy a k (upd g.1 g.2.2.2.2.2 t, upd g.2.1 g.2.2.2.2.2 z, upd g.2.2.1 g.2.2.2.2.2 sh, upd g.2.2.2.1 g.2.2.2.2.2 (nI 1), upd g.2.2.2.2.1 g.2.2.2.2.2 (nI 0), g.2.2.2.2.2 + 1)]) hx hb hr hlocks rfl () hP hK hD hS rfl dX2_add_67 hQ
abbrev rm_X2_bookDance : Room := { frames := 0, cells := 0, slots := 0, locals := 0 }
set_option maxHeartbeats 1000000 in
set_option maxRecDepth 100000 in
/-- bookDance -/
theorem c_X2_bookDance (l : Launch) (D : va_G) (cy : Nat → ClassId) (a : Nat → Nat) (k : Nat) (g : rG) (i : Nat) (hi : i < 8) (sz : Nat) : Met l yX2_bookDance wsX2_bookDance rm_X2_bookDance (va_Pc [.ref (a k), .int (nI i)] (kPre D (kT cy) [gW cy a k g] sz)) (va_Qv (fun u_ : Unit => True) (kFr D (kT cy) [gW cy a k g] sz (fun u_ : Unit => [gW cy a k (upd g.1 i (g.1 i - nI 1), g.2.1, g.2.2.1, g.2.2.2.1, upd g.2.2.2.2.1 i (g.2.2.2.2.1 i + nI 1), g.2.2.2.2.2)])) (va_A (bkF [gW cy a k g]) sz)) 0 0 (va_A (bkF [gW cy a k g]) sz) := by
  refine kOpen (y := yX2_bookDance) (ws := wsX2_bookDance) (cc := cX2_bookDance) (maxL := 2) (ret := none) (av := [.ref (a k), .int (nI i)]) (Bs := [gW cy a k g]) (Qc := fun A => (va_Qv (fun u_ : Unit => True) (fun (u_ : Unit) t9 => kEnd D (kT cy) A [gW cy a k (upd g.1 i (g.1 i - nI 1), g.2.1, g.2.2.1, g.2.2.2.1, upd g.2.2.2.2.1 i (g.2.2.2.2.1 i + nI 1), g.2.2.2.2.2)] t9) A)) (by decide) rfl (Nat.le_of_ble_eq_true rfl) ?_
  intro p e s m args below meth c A Q ls hQ hx hb hml hr hlocks hin hts hown hN hK hP hD hS hA hsz hAe hl
  clear hAe
  have hl : lv_has ls 2 [(0, .ref (a k)), (1, .int (nI i))] := hl
  suffices K9 : ∀ (H : Heap) (locs : List Loc), va_P D vwCl (bkF [gW cy a k g]) H → va_S A s.heap H locs → W p l e (headSpec wsX2_bookDance rm_X2_bookDance).room s m args below meth c H locs 0 0 Q (F0 m 0 ls []) from K9 _ _ hP hS
  clear hP hS
  intro H locs hP hS
  refine lv_aload_n hx hb dX2_bookDance_0 rfl (lv_at hl 0 rfl) ?_
  refine va_get (D := D) (ci := 2) (v := .ref (a (k + 1))) (C := RX2) (T := TX2) (N := 6) hx hb hts (by decide +kernel) hown hK hP 0 rfl rfl 0 (by decide) (hts (.fieldLink RX2 9 "DanceHall$Guests" "tokens" "[I") (by decide +kernel)) (fun _ h9 => h9) rfl dX2_bookDance_1 ?_
  refine lv_iload_n hx hb dX2_bookDance_4 rfl (lv_at hl 1 rfl) ?_
  refine lv_dup2_11 hx hb dX2_bookDance_5 rfl rfl ?_
  refine va_iald hx hb hK hP 1 0 rfl rfl (vp_in_nI (n := i) (N := 8) (by omega) (by omega)) dX2_bookDance_6 ?_
  refine kv_i (y := g.1 i) (congrArg g.1 (nI_clamp (n := i) (by omega))) ?_
  refine lv_iconst (v := nI 1) hx hb dX2_bookDance_7 (by decide) ?_
  refine lv_isub hx hb dX2_bookDance_8 ?_
  refine va_iast hx hb hK hP hD hS 1 0 rfl rfl (vp_in_nI (n := i) (N := 8) (by omega) (by omega)) dX2_bookDance_9 (fun H locs hP hD hS => ?_)
  rw [nI_clamp (n := i) (by omega)] at hP hD
  have hP : va_P D vwCl (bkF [gW cy a k (upd g.1 i ((g.1 i) - (nI 1)), g.2)]) H := hP
  have hD : va_D A (bkF [gW cy a k (upd g.1 i ((g.1 i) - (nI 1)), g.2)]) := hD
  refine lv_aload_n hx hb dX2_bookDance_10 rfl (lv_at hl 0 rfl) ?_
  refine va_get (D := D) (ci := 2) (v := .ref (a (k + 5))) (C := RX2) (T := TX2) (N := 6) hx hb hts (by decide +kernel) hown hK hP 0 rfl rfl 4 (by decide) (hts (.fieldLink RX2 25 "DanceHall$Guests" "allDances" "[I") (by decide +kernel)) (fun _ h9 => h9) rfl dX2_bookDance_11 ?_
  refine lv_iload_n hx hb dX2_bookDance_14 rfl (lv_at hl 1 rfl) ?_
  refine lv_dup2_11 hx hb dX2_bookDance_15 rfl rfl ?_
  refine va_iald hx hb hK hP 5 0 rfl rfl (vp_in_nI (n := i) (N := 8) (by omega) (by omega)) dX2_bookDance_16 ?_
  refine kv_i (y := g.2.2.2.2.1 i) (congrArg g.2.2.2.2.1 (nI_clamp (n := i) (by omega))) ?_
  refine lv_iconst (v := nI 1) hx hb dX2_bookDance_17 (by decide) ?_
  refine lv_iadd hx hb dX2_bookDance_18 ?_
  refine va_iast hx hb hK hP hD hS 5 0 rfl rfl (vp_in_nI (n := i) (N := 8) (by omega) (by omega)) dX2_bookDance_19 (fun H locs hP hD hS => ?_)
  rw [nI_clamp (n := i) (by omega)] at hP hD
  have hP : va_P D vwCl (bkF [gW cy a k (upd g.1 i ((g.1 i) - (nI 1)), g.2.1, g.2.2.1, g.2.2.2.1, upd g.2.2.2.2.1 i ((g.2.2.2.2.1 i) + (nI 1)), g.2.2.2.2.2)]) H := hP
  have hD : va_D A (bkF [gW cy a k (upd g.1 i ((g.1 i) - (nI 1)), g.2.1, g.2.2.1, g.2.2.2.1, upd g.2.2.2.2.1 i ((g.2.2.2.2.1 i) + (nI 1)), g.2.2.2.2.2)]) := hD
  exact kr_v (post := fun u_ : Unit => True) (Bs := fun u_ : Unit => [gW cy a k (upd g.1 i (g.1 i - nI 1), g.2.1, g.2.2.1, g.2.2.2.1, upd g.2.2.2.2.1 i (g.2.2.2.2.1 i + nI 1), g.2.2.2.2.2)]) hx hb hr hlocks () hP hK hD hS trivial dX2_bookDance_20 hQ
abbrev rm_X2_callBack : Room := { frames := 0, cells := 0, slots := 0, locals := 0 }
set_option maxHeartbeats 1000000 in
set_option maxRecDepth 100000 in
/-- callBack -/
theorem c_X2_callBack (l : Launch) (D : va_G) (cy : Nat → ClassId) (a : Nat → Nat) (k : Nat) (g : rG) (hn : g.2.2.2.2.2 ≤ 8) (sz : Nat) : Met l yX2_callBack wsX2_callBack rm_X2_callBack (va_Pc [.ref (a k)] (kPre D (kT cy) [gW cy a k g] sz)) (va_Qv (fun u_ : Unit => True) (kFr D (kT cy) [gW cy a k g] sz (fun u_ : Unit => [gW cy a k (g.1, g.2.1, g.2.2.1, kcp (fun _ => nI 1) g.2.2.2.1 g.2.2.2.2.2, g.2.2.2.2)])) (va_A (bkF [gW cy a k g]) sz)) 0 0 (va_A (bkF [gW cy a k g]) sz) := by
  refine kOpen (y := yX2_callBack) (ws := wsX2_callBack) (cc := cX2_callBack) (maxL := 2) (ret := none) (av := [.ref (a k)]) (Bs := [gW cy a k g]) (Qc := fun A => (va_Qv (fun u_ : Unit => True) (fun (u_ : Unit) t9 => kEnd D (kT cy) A [gW cy a k (g.1, g.2.1, g.2.2.1, kcp (fun _ => nI 1) g.2.2.2.1 g.2.2.2.2.2, g.2.2.2.2)] t9) A)) (by decide) rfl (Nat.le_of_ble_eq_true rfl) ?_
  intro p e s m args below meth c A Q ls hQ hx hb hml hr hlocks hin hts hown hN hK hP hD hS hA hsz hAe hl
  clear hAe
  have hl : lv_has ls 2 [(0, .ref (a k))] := hl
  suffices K9 : ∀ (H : Heap) (locs : List Loc), va_P D vwCl (bkF [gW cy a k g]) H → va_S A s.heap H locs → W p l e (headSpec wsX2_callBack rm_X2_callBack).room s m args below meth c H locs 0 0 Q (F0 m 0 ls []) from K9 _ _ hP hS
  clear hP hS
  intro H locs hP hS
  refine lv_iconst (v := nI 0) hx hb dX2_callBack_0 (by decide) ?_
  refine lv_istore_n (lv' := [(1, .int (nI 0)), (0, .ref (a k))]) hx hb dX2_callBack_1 rfl hl (by decide) rfl (fun ls hl => ?_)
  have hP := kP_cell (g := (kcp (fun _ => nI 1) g.2.2.2.1 0)) hP 4 rfl (fun j _ => (kcp_0 _ _ j).symm)
  have hD := hD.set (p := 4) (e := .inl (cy 1, 8, .inl (kcp (fun _ => nI 1) g.2.2.2.1 0))) rfl
  have hP : va_P D vwCl (bkF [gW cy a k (g.1, g.2.1, g.2.2.1, kcp (fun _ => nI 1) g.2.2.2.1 0, g.2.2.2.2)]) H := hP
  have hD : va_D A (bkF [gW cy a k (g.1, g.2.1, g.2.2.1, kcp (fun _ => nI 1) g.2.2.2.1 0, g.2.2.2.2)]) := hD
  have L_2 : ∀ (n9 : Nat) (i : Nat), g.2.2.2.2.2 - i = n9 → (i ≤ g.2.2.2.2.2) → ∀ (ls : Array Slot) (H : Heap) (locs : List Loc), va_P D vwCl (bkF [gW cy a k (g.1, g.2.1, g.2.2.1, kcp (fun _ => nI 1) g.2.2.2.1 i, g.2.2.2.2)]) H → va_D A (bkF [gW cy a k (g.1, g.2.1, g.2.2.1, kcp (fun _ => nI 1) g.2.2.2.1 i, g.2.2.2.2)]) → va_S A s.heap H locs → lv_has ls 2 [(0, .ref (a k)), (1, .int (nI i))] → W p l e (headSpec wsX2_callBack rm_X2_callBack).room s m args below meth c H locs 0 0 Q (F0 m 2 ls []) := by
    intro n9
    induction n9 using Nat.strongRecOn with
    | _ n9 ih_2 =>
    intro i hm_2 h2_0 ls H locs hP hD hS hl
    refine lv_iload_n hx hb dX2_callBack_2 rfl (lv_at hl 1 rfl) ?_
    refine lv_aload_n hx hb dX2_callBack_3 rfl (lv_at hl 0 rfl) ?_
    refine va_get (D := D) (ci := 2) (v := .int (nI g.2.2.2.2.2)) (C := RX2) (T := TX2) (N := 6) hx hb hts (by decide +kernel) hown hK hP 0 rfl rfl 5 (by decide) (hts (.fieldLink RX2 28 "DanceHall$Guests" "count" "I") (by decide +kernel)) (fun _ h9 => h9) rfl dX2_callBack_4 ?_
    refine lv_icmp_ge (tgt := 23) hx hb dX2_callBack_7 (by decide) (fun c_7 => ?_) (fun c_7 => ?_)
    · skip
      have c_7 : g.2.2.2.2.2 ≤ i := (nI_leI (a := g.2.2.2.2.2) (b := i) (by omega) (by omega)).mp c_7
      have hP := kP_cell (g := (kcp (fun _ => nI 1) g.2.2.2.1 g.2.2.2.2.2)) hP 4 rfl (fun j _ => by rw [show i = g.2.2.2.2.2 from by omega])
      have hD := hD.set (p := 4) (e := .inl (cy 1, 8, .inl (kcp (fun _ => nI 1) g.2.2.2.1 g.2.2.2.2.2))) rfl
      have hP : va_P D vwCl (bkF [gW cy a k (g.1, g.2.1, g.2.2.1, kcp (fun _ => nI 1) g.2.2.2.1 g.2.2.2.2.2, g.2.2.2.2)]) H := hP
      have hD : va_D A (bkF [gW cy a k (g.1, g.2.1, g.2.2.1, kcp (fun _ => nI 1) g.2.2.2.1 g.2.2.2.2.2, g.2.2.2.2)]) := hD
      exact kr_v (post := fun u_ : Unit => True) (Bs := fun u_ : Unit => [gW cy a k (g.1, g.2.1, g.2.2.1, kcp (fun _ => nI 1) g.2.2.2.1 g.2.2.2.2.2, g.2.2.2.2)]) hx hb hr hlocks () hP hK hD hS trivial dX2_callBack_23 hQ
    · skip
      have c_7 : ¬ (g.2.2.2.2.2 ≤ i) := fun h => c_7 ((nI_leI (a := g.2.2.2.2.2) (b := i) (by omega) (by omega)).mpr h)
      refine lv_aload_n hx hb dX2_callBack_10 rfl (lv_at hl 0 rfl) ?_
      refine va_get (D := D) (ci := 2) (v := .ref (a (k + 4))) (C := RX2) (T := TX2) (N := 6) hx hb hts (by decide +kernel) hown hK hP 0 rfl rfl 3 (by decide) (hts (.fieldLink RX2 22 "DanceHall$Guests" "here" "[Z") (by decide +kernel)) (fun _ h9 => h9) rfl dX2_callBack_11 ?_
      refine lv_iload_n hx hb dX2_callBack_14 rfl (lv_at hl 1 rfl) ?_
      refine lv_iconst (v := nI 1) hx hb dX2_callBack_15 (by decide) ?_
      refine va_zast hx hb hK hP hD hS 4 1 rfl rfl (vp_in_nI (n := i) (N := 8) (by omega) (by omega)) dX2_callBack_16 (fun H locs hP hD hS => ?_)
      rw [nI_clamp (n := i) (by omega)] at hP hD
      rw [kz_1] at hP hD
      have hP : va_P D vwCl (bkF [gW cy a k (g.1, g.2.1, g.2.2.1, upd (kcp (fun _ => nI 1) g.2.2.2.1 i) i (nI 1), g.2.2.2.2)]) H := hP
      have hD : va_D A (bkF [gW cy a k (g.1, g.2.1, g.2.2.1, upd (kcp (fun _ => nI 1) g.2.2.2.1 i) i (nI 1), g.2.2.2.2)]) := hD
      refine lv_iinc (v := nI (i + 1)) (lv' := [(1, .int (nI (i + 1))), (0, .ref (a k))]) hx hb dX2_callBack_17 hl (k := 1) rfl (nI_add i 1) (by decide) rfl (fun ls hl => ?_)
      refine lv_goto (tgt := 2) hx hb dX2_callBack_20 (by decide) ?_
      have hP := kP_cell (g := (kcp (fun _ => nI 1) g.2.2.2.1 (i + 1))) hP 4 rfl (fun j _ => kcp_s (fun _ => nI 1) _ i j)
      have hD := hD.set (p := 4) (e := .inl (cy 1, 8, .inl (kcp (fun _ => nI 1) g.2.2.2.1 (i + 1)))) rfl
      have hP : va_P D vwCl (bkF [gW cy a k (g.1, g.2.1, g.2.2.1, kcp (fun _ => nI 1) g.2.2.2.1 (i + 1), g.2.2.2.2)]) H := hP
      have hD : va_D A (bkF [gW cy a k (g.1, g.2.1, g.2.2.1, kcp (fun _ => nI 1) g.2.2.2.1 (i + 1), g.2.2.2.2)]) := hD
      exact ih_2 _ (by omega) (i + 1) rfl (by omega) ls H locs hP hD hS (lv_sub hl [1, 0] rfl)
  exact L_2 _ 0  rfl (by omega) ls H locs hP hD hS (lv_sub hl [1, 0] rfl)
abbrev rm_X2_copyFrom : Room := { frames := 0, cells := 0, slots := 0, locals := 0 }
set_option maxHeartbeats 1000000 in
set_option maxRecDepth 100000 in
/-- copyFrom -/
theorem c_X2_copyFrom (l : Launch) (D : va_G) (cy : Nat → ClassId) (a : Nat → Nat) (k : Nat) (g : rG) (b : Nat → Nat) (k2 : Nat) (h : rG) (hb1 : kBo h.2.2.1) (hb2 : kBo h.2.2.2.1) (sz : Nat) : Met l yX2_copyFrom wsX2_copyFrom rm_X2_copyFrom (va_Pc [.ref (a k), .ref (b k2)] (kPre D (kT cy) [gW cy a k g, gW cy b k2 h] sz)) (va_Qv (fun u_ : Unit => True) (kFr D (kT cy) [gW cy a k g, gW cy b k2 h] sz (fun u_ : Unit => [gW cy a k h, gW cy b k2 h])) (va_A (bkF [gW cy a k g, gW cy b k2 h]) sz)) 0 0 (va_A (bkF [gW cy a k g, gW cy b k2 h]) sz) := by
  refine kOpen (y := yX2_copyFrom) (ws := wsX2_copyFrom) (cc := cX2_copyFrom) (maxL := 3) (ret := none) (av := [.ref (a k), .ref (b k2)]) (Bs := [gW cy a k g, gW cy b k2 h]) (Qc := fun A => (va_Qv (fun u_ : Unit => True) (fun (u_ : Unit) t9 => kEnd D (kT cy) A [gW cy a k h, gW cy b k2 h] t9) A)) (by decide) rfl (Nat.le_of_ble_eq_true rfl) ?_
  intro p e s m args below meth c A Q ls hQ hx hb hml hr hlocks hin hts hown hN hK hP hD hS hA hsz hAe hl
  clear hAe
  have hl : lv_has ls 3 [(0, .ref (a k)), (1, .ref (b k2))] := hl
  suffices K9 : ∀ (H : Heap) (locs : List Loc), va_P D vwCl (bkF [gW cy a k g, gW cy b k2 h]) H → va_S A s.heap H locs → W p l e (headSpec wsX2_copyFrom rm_X2_copyFrom).room s m args below meth c H locs 0 0 Q (F0 m 0 ls []) from K9 _ _ hP hS
  clear hP hS
  intro H locs hP hS
  refine lv_aload_n hx hb dX2_copyFrom_0 rfl (lv_at hl 0 rfl) ?_
  refine lv_aload_n hx hb dX2_copyFrom_1 rfl (lv_at hl 1 rfl) ?_
  refine va_get (D := D) (ci := 2) (v := .int (nI h.2.2.2.2.2)) (C := RX2) (T := TX2) (N := 6) hx hb hts (by decide +kernel) hown hK hP 6 rfl rfl 5 (by decide) (hts (.fieldLink RX2 28 "DanceHall$Guests" "count" "I") (by decide +kernel)) (fun _ h9 => h9) rfl dX2_copyFrom_2 ?_
  refine va_put (D := D) (ci := 2) (v := .int (nI h.2.2.2.2.2)) (ty := .int) (C := RX2) (T := TX2) (N := 6) hx hb hts (by decide +kernel) tyX2 tyX2_ok nmX2 hown hK hP hD hS 0 rfl rfl 5 (by decide) (hts (.fieldLink RX2 28 "DanceHall$Guests" "count" "I") (by decide +kernel)) (fun _ h9 => h9) rfl (by decide +kernel) rfl rfl (Nat.le_of_ble_eq_true rfl) dX2_copyFrom_5 (fun H locs hP hD hS => ?_)
  have hP : va_P D vwCl (bkF [gW cy a k (g.1, g.2.1, g.2.2.1, g.2.2.2.1, g.2.2.2.2.1, h.2.2.2.2.2), gW cy b k2 h]) H := hP
  have hD : va_D A (bkF [gW cy a k (g.1, g.2.1, g.2.2.1, g.2.2.2.1, g.2.2.2.2.1, h.2.2.2.2.2), gW cy b k2 h]) := hD
  refine lv_iconst (v := nI 0) hx hb dX2_copyFrom_8 (by decide) ?_
  refine lv_istore_n (lv' := [(2, .int (nI 0)), (0, .ref (a k)), (1, .ref (b k2))]) hx hb dX2_copyFrom_9 rfl hl (by decide) rfl (fun ls hl => ?_)
  have hP := kP_cell (g := (kcp h.1 g.1 0)) hP 1 rfl (fun j _ => (kcp_0 _ _ j).symm)
  have hD := hD.set (p := 1) (e := .inl (cy 0, 8, .inl (kcp h.1 g.1 0))) rfl
  have hP : va_P D vwCl (bkF [gW cy a k (kcp h.1 g.1 0, g.2.1, g.2.2.1, g.2.2.2.1, g.2.2.2.2.1, h.2.2.2.2.2), gW cy b k2 h]) H := hP
  have hD : va_D A (bkF [gW cy a k (kcp h.1 g.1 0, g.2.1, g.2.2.1, g.2.2.2.1, g.2.2.2.2.1, h.2.2.2.2.2), gW cy b k2 h]) := hD
  have hP := kP_cell (g := (kcp h.2.1 g.2.1 0)) hP 2 rfl (fun j _ => (kcp_0 _ _ j).symm)
  have hD := hD.set (p := 2) (e := .inl (cy 0, 8, .inl (kcp h.2.1 g.2.1 0))) rfl
  have hP : va_P D vwCl (bkF [gW cy a k (kcp h.1 g.1 0, kcp h.2.1 g.2.1 0, g.2.2.1, g.2.2.2.1, g.2.2.2.2.1, h.2.2.2.2.2), gW cy b k2 h]) H := hP
  have hD : va_D A (bkF [gW cy a k (kcp h.1 g.1 0, kcp h.2.1 g.2.1 0, g.2.2.1, g.2.2.2.1, g.2.2.2.2.1, h.2.2.2.2.2), gW cy b k2 h]) := hD
  have hP := kP_cell (g := (kcp h.2.2.1 g.2.2.1 0)) hP 3 rfl (fun j _ => (kcp_0 _ _ j).symm)
  have hD := hD.set (p := 3) (e := .inl (cy 1, 8, .inl (kcp h.2.2.1 g.2.2.1 0))) rfl
  have hP : va_P D vwCl (bkF [gW cy a k (kcp h.1 g.1 0, kcp h.2.1 g.2.1 0, kcp h.2.2.1 g.2.2.1 0, g.2.2.2.1, g.2.2.2.2.1, h.2.2.2.2.2), gW cy b k2 h]) H := hP
  have hD : va_D A (bkF [gW cy a k (kcp h.1 g.1 0, kcp h.2.1 g.2.1 0, kcp h.2.2.1 g.2.2.1 0, g.2.2.2.1, g.2.2.2.2.1, h.2.2.2.2.2), gW cy b k2 h]) := hD
  have hP := kP_cell (g := (kcp h.2.2.2.1 g.2.2.2.1 0)) hP 4 rfl (fun j _ => (kcp_0 _ _ j).symm)
  have hD := hD.set (p := 4) (e := .inl (cy 1, 8, .inl (kcp h.2.2.2.1 g.2.2.2.1 0))) rfl
  have hP : va_P D vwCl (bkF [gW cy a k (kcp h.1 g.1 0, kcp h.2.1 g.2.1 0, kcp h.2.2.1 g.2.2.1 0, kcp h.2.2.2.1 g.2.2.2.1 0, g.2.2.2.2.1, h.2.2.2.2.2), gW cy b k2 h]) H := hP
  have hD : va_D A (bkF [gW cy a k (kcp h.1 g.1 0, kcp h.2.1 g.2.1 0, kcp h.2.2.1 g.2.2.1 0, kcp h.2.2.2.1 g.2.2.2.1 0, g.2.2.2.2.1, h.2.2.2.2.2), gW cy b k2 h]) := hD
  have hP := kP_cell (g := (kcp h.2.2.2.2.1 g.2.2.2.2.1 0)) hP 5 rfl (fun j _ => (kcp_0 _ _ j).symm)
  have hD := hD.set (p := 5) (e := .inl (cy 0, 8, .inl (kcp h.2.2.2.2.1 g.2.2.2.2.1 0))) rfl
  have hP : va_P D vwCl (bkF [gW cy a k (kcp h.1 g.1 0, kcp h.2.1 g.2.1 0, kcp h.2.2.1 g.2.2.1 0, kcp h.2.2.2.1 g.2.2.2.1 0, kcp h.2.2.2.2.1 g.2.2.2.2.1 0, h.2.2.2.2.2), gW cy b k2 h]) H := hP
  have hD : va_D A (bkF [gW cy a k (kcp h.1 g.1 0, kcp h.2.1 g.2.1 0, kcp h.2.2.1 g.2.2.1 0, kcp h.2.2.2.1 g.2.2.2.1 0, kcp h.2.2.2.2.1 g.2.2.2.2.1 0, h.2.2.2.2.2), gW cy b k2 h]) := hD
  have L_10 : ∀ (n9 : Nat) (i : Nat), 8 - i = n9 → (i ≤ 8) → ∀ (ls : Array Slot) (H : Heap) (locs : List Loc), va_P D vwCl (bkF [gW cy a k (kcp h.1 g.1 i, kcp h.2.1 g.2.1 i, kcp h.2.2.1 g.2.2.1 i, kcp h.2.2.2.1 g.2.2.2.1 i, kcp h.2.2.2.2.1 g.2.2.2.2.1 i, h.2.2.2.2.2), gW cy b k2 h]) H → va_D A (bkF [gW cy a k (kcp h.1 g.1 i, kcp h.2.1 g.2.1 i, kcp h.2.2.1 g.2.2.1 i, kcp h.2.2.2.1 g.2.2.2.1 i, kcp h.2.2.2.2.1 g.2.2.2.2.1 i, h.2.2.2.2.2), gW cy b k2 h]) → va_S A s.heap H locs → lv_has ls 3 [(0, .ref (a k)), (1, .ref (b k2)), (2, .int (nI i))] → W p l e (headSpec wsX2_copyFrom rm_X2_copyFrom).room s m args below meth c H locs 0 0 Q (F0 m 10 ls []) := by
    intro n9
    induction n9 using Nat.strongRecOn with
    | _ n9 ih_10 =>
    intro i hm_10 h10_0 ls H locs hP hD hS hl
    refine lv_iload_n hx hb dX2_copyFrom_10 rfl (lv_at hl 2 rfl) ?_
    refine lv_bipush (v := nI 8) hx hb dX2_copyFrom_11 (by decide) ?_
    refine lv_icmp_ge (tgt := 82) hx hb dX2_copyFrom_13 (by decide) (fun c_13 => ?_) (fun c_13 => ?_)
    · skip
      have c_13 : 8 ≤ i := (nI_leI (a := 8) (b := i) (by omega) (by omega)).mp c_13
      have hP := kP_cell (g := h.1) hP 1 rfl (fun j hj => kcp_in _ _ (by omega))
      have hD := hD.set (p := 1) (e := .inl (cy 0, 8, .inl h.1)) rfl
      have hP : va_P D vwCl (bkF [gW cy a k (h.1, kcp h.2.1 g.2.1 i, kcp h.2.2.1 g.2.2.1 i, kcp h.2.2.2.1 g.2.2.2.1 i, kcp h.2.2.2.2.1 g.2.2.2.2.1 i, h.2.2.2.2.2), gW cy b k2 h]) H := hP
      have hD : va_D A (bkF [gW cy a k (h.1, kcp h.2.1 g.2.1 i, kcp h.2.2.1 g.2.2.1 i, kcp h.2.2.2.1 g.2.2.2.1 i, kcp h.2.2.2.2.1 g.2.2.2.2.1 i, h.2.2.2.2.2), gW cy b k2 h]) := hD
      have hP := kP_cell (g := h.2.1) hP 2 rfl (fun j hj => kcp_in _ _ (by omega))
      have hD := hD.set (p := 2) (e := .inl (cy 0, 8, .inl h.2.1)) rfl
      have hP : va_P D vwCl (bkF [gW cy a k (h.1, h.2.1, kcp h.2.2.1 g.2.2.1 i, kcp h.2.2.2.1 g.2.2.2.1 i, kcp h.2.2.2.2.1 g.2.2.2.2.1 i, h.2.2.2.2.2), gW cy b k2 h]) H := hP
      have hD : va_D A (bkF [gW cy a k (h.1, h.2.1, kcp h.2.2.1 g.2.2.1 i, kcp h.2.2.2.1 g.2.2.2.1 i, kcp h.2.2.2.2.1 g.2.2.2.2.1 i, h.2.2.2.2.2), gW cy b k2 h]) := hD
      have hP := kP_cell (g := h.2.2.1) hP 3 rfl (fun j hj => kcp_in _ _ (by omega))
      have hD := hD.set (p := 3) (e := .inl (cy 1, 8, .inl h.2.2.1)) rfl
      have hP : va_P D vwCl (bkF [gW cy a k (h.1, h.2.1, h.2.2.1, kcp h.2.2.2.1 g.2.2.2.1 i, kcp h.2.2.2.2.1 g.2.2.2.2.1 i, h.2.2.2.2.2), gW cy b k2 h]) H := hP
      have hD : va_D A (bkF [gW cy a k (h.1, h.2.1, h.2.2.1, kcp h.2.2.2.1 g.2.2.2.1 i, kcp h.2.2.2.2.1 g.2.2.2.2.1 i, h.2.2.2.2.2), gW cy b k2 h]) := hD
      have hP := kP_cell (g := h.2.2.2.1) hP 4 rfl (fun j hj => kcp_in _ _ (by omega))
      have hD := hD.set (p := 4) (e := .inl (cy 1, 8, .inl h.2.2.2.1)) rfl
      have hP : va_P D vwCl (bkF [gW cy a k (h.1, h.2.1, h.2.2.1, h.2.2.2.1, kcp h.2.2.2.2.1 g.2.2.2.2.1 i, h.2.2.2.2.2), gW cy b k2 h]) H := hP
      have hD : va_D A (bkF [gW cy a k (h.1, h.2.1, h.2.2.1, h.2.2.2.1, kcp h.2.2.2.2.1 g.2.2.2.2.1 i, h.2.2.2.2.2), gW cy b k2 h]) := hD
      have hP := kP_cell (g := h.2.2.2.2.1) hP 5 rfl (fun j hj => kcp_in _ _ (by omega))
      have hD := hD.set (p := 5) (e := .inl (cy 0, 8, .inl h.2.2.2.2.1)) rfl
      have hP : va_P D vwCl (bkF [gW cy a k (h.1, h.2.1, h.2.2.1, h.2.2.2.1, h.2.2.2.2.1, h.2.2.2.2.2), gW cy b k2 h]) H := hP
      have hD : va_D A (bkF [gW cy a k (h.1, h.2.1, h.2.2.1, h.2.2.2.1, h.2.2.2.2.1, h.2.2.2.2.2), gW cy b k2 h]) := hD
      exact kr_v (post := fun u_ : Unit => True) (Bs := fun u_ : Unit => [gW cy a k h, gW cy b k2 h]) hx hb hr hlocks () hP hK hD hS trivial dX2_copyFrom_82 hQ
    · skip
      have c_13 : ¬ (8 ≤ i) := fun h => c_13 ((nI_leI (a := 8) (b := i) (by omega) (by omega)).mpr h)
      refine lv_aload_n hx hb dX2_copyFrom_16 rfl (lv_at hl 0 rfl) ?_
      refine va_get (D := D) (ci := 2) (v := .ref (a (k + 1))) (C := RX2) (T := TX2) (N := 6) hx hb hts (by decide +kernel) hown hK hP 0 rfl rfl 0 (by decide) (hts (.fieldLink RX2 9 "DanceHall$Guests" "tokens" "[I") (by decide +kernel)) (fun _ h9 => h9) rfl dX2_copyFrom_17 ?_
      refine lv_iload_n hx hb dX2_copyFrom_20 rfl (lv_at hl 2 rfl) ?_
      refine lv_aload_n hx hb dX2_copyFrom_21 rfl (lv_at hl 1 rfl) ?_
      refine va_get (D := D) (ci := 2) (v := .ref (b (k2 + 1))) (C := RX2) (T := TX2) (N := 6) hx hb hts (by decide +kernel) hown hK hP 6 rfl rfl 0 (by decide) (hts (.fieldLink RX2 9 "DanceHall$Guests" "tokens" "[I") (by decide +kernel)) (fun _ h9 => h9) rfl dX2_copyFrom_22 ?_
      refine lv_iload_n hx hb dX2_copyFrom_25 rfl (lv_at hl 2 rfl) ?_
      refine va_iald hx hb hK hP 7 0 rfl rfl (vp_in_nI (n := i) (N := 8) (by omega) (by omega)) dX2_copyFrom_26 ?_
      refine kv_i (y := h.1 i) (congrArg h.1 (nI_clamp (n := i) (by omega))) ?_
      refine va_iast hx hb hK hP hD hS 1 0 rfl rfl (vp_in_nI (n := i) (N := 8) (by omega) (by omega)) dX2_copyFrom_27 (fun H locs hP hD hS => ?_)
      rw [nI_clamp (n := i) (by omega)] at hP hD
      have hP : va_P D vwCl (bkF [gW cy a k (upd (kcp h.1 g.1 i) i (h.1 i), kcp h.2.1 g.2.1 i, kcp h.2.2.1 g.2.2.1 i, kcp h.2.2.2.1 g.2.2.2.1 i, kcp h.2.2.2.2.1 g.2.2.2.2.1 i, h.2.2.2.2.2), gW cy b k2 h]) H := hP
      have hD : va_D A (bkF [gW cy a k (upd (kcp h.1 g.1 i) i (h.1 i), kcp h.2.1 g.2.1 i, kcp h.2.2.1 g.2.2.1 i, kcp h.2.2.2.1 g.2.2.2.1 i, kcp h.2.2.2.2.1 g.2.2.2.2.1 i, h.2.2.2.2.2), gW cy b k2 h]) := hD
      refine lv_aload_n hx hb dX2_copyFrom_28 rfl (lv_at hl 0 rfl) ?_
      refine va_get (D := D) (ci := 2) (v := .ref (a (k + 2))) (C := RX2) (T := TX2) (N := 6) hx hb hts (by decide +kernel) hown hK hP 0 rfl rfl 1 (by decide) (hts (.fieldLink RX2 15 "DanceHall$Guests" "sizes" "[I") (by decide +kernel)) (fun _ h9 => h9) rfl dX2_copyFrom_29 ?_
      refine lv_iload_n hx hb dX2_copyFrom_32 rfl (lv_at hl 2 rfl) ?_
      refine lv_aload_n hx hb dX2_copyFrom_33 rfl (lv_at hl 1 rfl) ?_
      refine va_get (D := D) (ci := 2) (v := .ref (b (k2 + 2))) (C := RX2) (T := TX2) (N := 6) hx hb hts (by decide +kernel) hown hK hP 6 rfl rfl 1 (by decide) (hts (.fieldLink RX2 15 "DanceHall$Guests" "sizes" "[I") (by decide +kernel)) (fun _ h9 => h9) rfl dX2_copyFrom_34 ?_
      refine lv_iload_n hx hb dX2_copyFrom_37 rfl (lv_at hl 2 rfl) ?_
      refine va_iald hx hb hK hP 8 0 rfl rfl (vp_in_nI (n := i) (N := 8) (by omega) (by omega)) dX2_copyFrom_38 ?_
      refine kv_i (y := h.2.1 i) (congrArg h.2.1 (nI_clamp (n := i) (by omega))) ?_
      refine va_iast hx hb hK hP hD hS 2 0 rfl rfl (vp_in_nI (n := i) (N := 8) (by omega) (by omega)) dX2_copyFrom_39 (fun H locs hP hD hS => ?_)
      rw [nI_clamp (n := i) (by omega)] at hP hD
      have hP : va_P D vwCl (bkF [gW cy a k (upd (kcp h.1 g.1 i) i (h.1 i), upd (kcp h.2.1 g.2.1 i) i (h.2.1 i), kcp h.2.2.1 g.2.2.1 i, kcp h.2.2.2.1 g.2.2.2.1 i, kcp h.2.2.2.2.1 g.2.2.2.2.1 i, h.2.2.2.2.2), gW cy b k2 h]) H := hP
      have hD : va_D A (bkF [gW cy a k (upd (kcp h.1 g.1 i) i (h.1 i), upd (kcp h.2.1 g.2.1 i) i (h.2.1 i), kcp h.2.2.1 g.2.2.1 i, kcp h.2.2.2.1 g.2.2.2.1 i, kcp h.2.2.2.2.1 g.2.2.2.2.1 i, h.2.2.2.2.2), gW cy b k2 h]) := hD
      refine lv_aload_n hx hb dX2_copyFrom_40 rfl (lv_at hl 0 rfl) ?_
      refine va_get (D := D) (ci := 2) (v := .ref (a (k + 3))) (C := RX2) (T := TX2) (N := 6) hx hb hts (by decide +kernel) hown hK hP 0 rfl rfl 2 (by decide) (hts (.fieldLink RX2 18 "DanceHall$Guests" "ownShoes" "[Z") (by decide +kernel)) (fun _ h9 => h9) rfl dX2_copyFrom_41 ?_
      refine lv_iload_n hx hb dX2_copyFrom_44 rfl (lv_at hl 2 rfl) ?_
      refine lv_aload_n hx hb dX2_copyFrom_45 rfl (lv_at hl 1 rfl) ?_
      refine va_get (D := D) (ci := 2) (v := .ref (b (k2 + 3))) (C := RX2) (T := TX2) (N := 6) hx hb hts (by decide +kernel) hown hK hP 6 rfl rfl 2 (by decide) (hts (.fieldLink RX2 18 "DanceHall$Guests" "ownShoes" "[Z") (by decide +kernel)) (fun _ h9 => h9) rfl dX2_copyFrom_46 ?_
      refine lv_iload_n hx hb dX2_copyFrom_49 rfl (lv_at hl 2 rfl) ?_
      refine va_zald hx hb hK hP 9 1 rfl rfl (vp_in_nI (n := i) (N := 8) (by omega) (by omega)) dX2_copyFrom_50 ?_
      refine kv_i (y := h.2.2.1 i) (congrArg h.2.2.1 (nI_clamp (n := i) (by omega))) ?_
      refine va_zast hx hb hK hP hD hS 3 1 rfl rfl (vp_in_nI (n := i) (N := 8) (by omega) (by omega)) dX2_copyFrom_51 (fun H locs hP hD hS => ?_)
      rw [nI_clamp (n := i) (by omega)] at hP hD
      rw [kz (hb1 i (by omega))] at hP hD
      have hP : va_P D vwCl (bkF [gW cy a k (upd (kcp h.1 g.1 i) i (h.1 i), upd (kcp h.2.1 g.2.1 i) i (h.2.1 i), upd (kcp h.2.2.1 g.2.2.1 i) i (h.2.2.1 i), kcp h.2.2.2.1 g.2.2.2.1 i, kcp h.2.2.2.2.1 g.2.2.2.2.1 i, h.2.2.2.2.2), gW cy b k2 h]) H := hP
      have hD : va_D A (bkF [gW cy a k (upd (kcp h.1 g.1 i) i (h.1 i), upd (kcp h.2.1 g.2.1 i) i (h.2.1 i), upd (kcp h.2.2.1 g.2.2.1 i) i (h.2.2.1 i), kcp h.2.2.2.1 g.2.2.2.1 i, kcp h.2.2.2.2.1 g.2.2.2.2.1 i, h.2.2.2.2.2), gW cy b k2 h]) := hD
      refine lv_aload_n hx hb dX2_copyFrom_52 rfl (lv_at hl 0 rfl) ?_
      refine va_get (D := D) (ci := 2) (v := .ref (a (k + 4))) (C := RX2) (T := TX2) (N := 6) hx hb hts (by decide +kernel) hown hK hP 0 rfl rfl 3 (by decide) (hts (.fieldLink RX2 22 "DanceHall$Guests" "here" "[Z") (by decide +kernel)) (fun _ h9 => h9) rfl dX2_copyFrom_53 ?_
      refine lv_iload_n hx hb dX2_copyFrom_56 rfl (lv_at hl 2 rfl) ?_
      refine lv_aload_n hx hb dX2_copyFrom_57 rfl (lv_at hl 1 rfl) ?_
      refine va_get (D := D) (ci := 2) (v := .ref (b (k2 + 4))) (C := RX2) (T := TX2) (N := 6) hx hb hts (by decide +kernel) hown hK hP 6 rfl rfl 3 (by decide) (hts (.fieldLink RX2 22 "DanceHall$Guests" "here" "[Z") (by decide +kernel)) (fun _ h9 => h9) rfl dX2_copyFrom_58 ?_
      refine lv_iload_n hx hb dX2_copyFrom_61 rfl (lv_at hl 2 rfl) ?_
      refine va_zald hx hb hK hP 10 1 rfl rfl (vp_in_nI (n := i) (N := 8) (by omega) (by omega)) dX2_copyFrom_62 ?_
      refine kv_i (y := h.2.2.2.1 i) (congrArg h.2.2.2.1 (nI_clamp (n := i) (by omega))) ?_
      refine va_zast hx hb hK hP hD hS 4 1 rfl rfl (vp_in_nI (n := i) (N := 8) (by omega) (by omega)) dX2_copyFrom_63 (fun H locs hP hD hS => ?_)
      rw [nI_clamp (n := i) (by omega)] at hP hD
      rw [kz (hb2 i (by omega))] at hP hD
      have hP : va_P D vwCl (bkF [gW cy a k (upd (kcp h.1 g.1 i) i (h.1 i), upd (kcp h.2.1 g.2.1 i) i (h.2.1 i), upd (kcp h.2.2.1 g.2.2.1 i) i (h.2.2.1 i), upd (kcp h.2.2.2.1 g.2.2.2.1 i) i (h.2.2.2.1 i), kcp h.2.2.2.2.1 g.2.2.2.2.1 i, h.2.2.2.2.2), gW cy b k2 h]) H := hP
      have hD : va_D A (bkF [gW cy a k (upd (kcp h.1 g.1 i) i (h.1 i), upd (kcp h.2.1 g.2.1 i) i (h.2.1 i), upd (kcp h.2.2.1 g.2.2.1 i) i (h.2.2.1 i), upd (kcp h.2.2.2.1 g.2.2.2.1 i) i (h.2.2.2.1 i), kcp h.2.2.2.2.1 g.2.2.2.2.1 i, h.2.2.2.2.2), gW cy b k2 h]) := hD
      refine lv_aload_n hx hb dX2_copyFrom_64 rfl (lv_at hl 0 rfl) ?_
      refine va_get (D := D) (ci := 2) (v := .ref (a (k + 5))) (C := RX2) (T := TX2) (N := 6) hx hb hts (by decide +kernel) hown hK hP 0 rfl rfl 4 (by decide) (hts (.fieldLink RX2 25 "DanceHall$Guests" "allDances" "[I") (by decide +kernel)) (fun _ h9 => h9) rfl dX2_copyFrom_65 ?_
      refine lv_iload_n hx hb dX2_copyFrom_68 rfl (lv_at hl 2 rfl) ?_
      refine lv_aload_n hx hb dX2_copyFrom_69 rfl (lv_at hl 1 rfl) ?_
      refine va_get (D := D) (ci := 2) (v := .ref (b (k2 + 5))) (C := RX2) (T := TX2) (N := 6) hx hb hts (by decide +kernel) hown hK hP 6 rfl rfl 4 (by decide) (hts (.fieldLink RX2 25 "DanceHall$Guests" "allDances" "[I") (by decide +kernel)) (fun _ h9 => h9) rfl dX2_copyFrom_70 ?_
      refine lv_iload_n hx hb dX2_copyFrom_73 rfl (lv_at hl 2 rfl) ?_
      refine va_iald hx hb hK hP 11 0 rfl rfl (vp_in_nI (n := i) (N := 8) (by omega) (by omega)) dX2_copyFrom_74 ?_
      refine kv_i (y := h.2.2.2.2.1 i) (congrArg h.2.2.2.2.1 (nI_clamp (n := i) (by omega))) ?_
      refine va_iast hx hb hK hP hD hS 5 0 rfl rfl (vp_in_nI (n := i) (N := 8) (by omega) (by omega)) dX2_copyFrom_75 (fun H locs hP hD hS => ?_)
      rw [nI_clamp (n := i) (by omega)] at hP hD
      have hP : va_P D vwCl (bkF [gW cy a k (upd (kcp h.1 g.1 i) i (h.1 i), upd (kcp h.2.1 g.2.1 i) i (h.2.1 i), upd (kcp h.2.2.1 g.2.2.1 i) i (h.2.2.1 i), upd (kcp h.2.2.2.1 g.2.2.2.1 i) i (h.2.2.2.1 i), upd (kcp h.2.2.2.2.1 g.2.2.2.2.1 i) i (h.2.2.2.2.1 i), h.2.2.2.2.2), gW cy b k2 h]) H := hP
      have hD : va_D A (bkF [gW cy a k (upd (kcp h.1 g.1 i) i (h.1 i), upd (kcp h.2.1 g.2.1 i) i (h.2.1 i), upd (kcp h.2.2.1 g.2.2.1 i) i (h.2.2.1 i), upd (kcp h.2.2.2.1 g.2.2.2.1 i) i (h.2.2.2.1 i), upd (kcp h.2.2.2.2.1 g.2.2.2.2.1 i) i (h.2.2.2.2.1 i), h.2.2.2.2.2), gW cy b k2 h]) := hD
      refine lv_iinc (v := nI (i + 1)) (lv' := [(2, .int (nI (i + 1))), (0, .ref (a k)), (1, .ref (b k2))]) hx hb dX2_copyFrom_76 hl (k := 2) rfl (nI_add i 1) (by decide) rfl (fun ls hl => ?_)
      refine lv_goto (tgt := 10) hx hb dX2_copyFrom_79 (by decide) ?_
      have hP := kP_cell (g := (kcp h.1 g.1 (i + 1))) hP 1 rfl (fun j _ => kcp_s _ _ i j)
      have hD := hD.set (p := 1) (e := .inl (cy 0, 8, .inl (kcp h.1 g.1 (i + 1)))) rfl
      have hP : va_P D vwCl (bkF [gW cy a k (kcp h.1 g.1 (i + 1), upd (kcp h.2.1 g.2.1 i) i (h.2.1 i), upd (kcp h.2.2.1 g.2.2.1 i) i (h.2.2.1 i), upd (kcp h.2.2.2.1 g.2.2.2.1 i) i (h.2.2.2.1 i), upd (kcp h.2.2.2.2.1 g.2.2.2.2.1 i) i (h.2.2.2.2.1 i), h.2.2.2.2.2), gW cy b k2 h]) H := hP
      have hD : va_D A (bkF [gW cy a k (kcp h.1 g.1 (i + 1), upd (kcp h.2.1 g.2.1 i) i (h.2.1 i), upd (kcp h.2.2.1 g.2.2.1 i) i (h.2.2.1 i), upd (kcp h.2.2.2.1 g.2.2.2.1 i) i (h.2.2.2.1 i), upd (kcp h.2.2.2.2.1 g.2.2.2.2.1 i) i (h.2.2.2.2.1 i), h.2.2.2.2.2), gW cy b k2 h]) := hD
      have hP := kP_cell (g := (kcp h.2.1 g.2.1 (i + 1))) hP 2 rfl (fun j _ => kcp_s _ _ i j)
      have hD := hD.set (p := 2) (e := .inl (cy 0, 8, .inl (kcp h.2.1 g.2.1 (i + 1)))) rfl
      have hP : va_P D vwCl (bkF [gW cy a k (kcp h.1 g.1 (i + 1), kcp h.2.1 g.2.1 (i + 1), upd (kcp h.2.2.1 g.2.2.1 i) i (h.2.2.1 i), upd (kcp h.2.2.2.1 g.2.2.2.1 i) i (h.2.2.2.1 i), upd (kcp h.2.2.2.2.1 g.2.2.2.2.1 i) i (h.2.2.2.2.1 i), h.2.2.2.2.2), gW cy b k2 h]) H := hP
      have hD : va_D A (bkF [gW cy a k (kcp h.1 g.1 (i + 1), kcp h.2.1 g.2.1 (i + 1), upd (kcp h.2.2.1 g.2.2.1 i) i (h.2.2.1 i), upd (kcp h.2.2.2.1 g.2.2.2.1 i) i (h.2.2.2.1 i), upd (kcp h.2.2.2.2.1 g.2.2.2.2.1 i) i (h.2.2.2.2.1 i), h.2.2.2.2.2), gW cy b k2 h]) := hD
      have hP := kP_cell (g := (kcp h.2.2.1 g.2.2.1 (i + 1))) hP 3 rfl (fun j _ => kcp_s _ _ i j)
      have hD := hD.set (p := 3) (e := .inl (cy 1, 8, .inl (kcp h.2.2.1 g.2.2.1 (i + 1)))) rfl
      have hP : va_P D vwCl (bkF [gW cy a k (kcp h.1 g.1 (i + 1), kcp h.2.1 g.2.1 (i + 1), kcp h.2.2.1 g.2.2.1 (i + 1), upd (kcp h.2.2.2.1 g.2.2.2.1 i) i (h.2.2.2.1 i), upd (kcp h.2.2.2.2.1 g.2.2.2.2.1 i) i (h.2.2.2.2.1 i), h.2.2.2.2.2), gW cy b k2 h]) H := hP
      have hD : va_D A (bkF [gW cy a k (kcp h.1 g.1 (i + 1), kcp h.2.1 g.2.1 (i + 1), kcp h.2.2.1 g.2.2.1 (i + 1), upd (kcp h.2.2.2.1 g.2.2.2.1 i) i (h.2.2.2.1 i), upd (kcp h.2.2.2.2.1 g.2.2.2.2.1 i) i (h.2.2.2.2.1 i), h.2.2.2.2.2), gW cy b k2 h]) := hD
      have hP := kP_cell (g := (kcp h.2.2.2.1 g.2.2.2.1 (i + 1))) hP 4 rfl (fun j _ => kcp_s _ _ i j)
      have hD := hD.set (p := 4) (e := .inl (cy 1, 8, .inl (kcp h.2.2.2.1 g.2.2.2.1 (i + 1)))) rfl
      have hP : va_P D vwCl (bkF [gW cy a k (kcp h.1 g.1 (i + 1), kcp h.2.1 g.2.1 (i + 1), kcp h.2.2.1 g.2.2.1 (i + 1), kcp h.2.2.2.1 g.2.2.2.1 (i + 1), upd (kcp h.2.2.2.2.1 g.2.2.2.2.1 i) i (h.2.2.2.2.1 i), h.2.2.2.2.2), gW cy b k2 h]) H := hP
      have hD : va_D A (bkF [gW cy a k (kcp h.1 g.1 (i + 1), kcp h.2.1 g.2.1 (i + 1), kcp h.2.2.1 g.2.2.1 (i + 1), kcp h.2.2.2.1 g.2.2.2.1 (i + 1), upd (kcp h.2.2.2.2.1 g.2.2.2.2.1 i) i (h.2.2.2.2.1 i), h.2.2.2.2.2), gW cy b k2 h]) := hD
      have hP := kP_cell (g := (kcp h.2.2.2.2.1 g.2.2.2.2.1 (i + 1))) hP 5 rfl (fun j _ => kcp_s _ _ i j)
      have hD := hD.set (p := 5) (e := .inl (cy 0, 8, .inl (kcp h.2.2.2.2.1 g.2.2.2.2.1 (i + 1)))) rfl
      have hP : va_P D vwCl (bkF [gW cy a k (kcp h.1 g.1 (i + 1), kcp h.2.1 g.2.1 (i + 1), kcp h.2.2.1 g.2.2.1 (i + 1), kcp h.2.2.2.1 g.2.2.2.1 (i + 1), kcp h.2.2.2.2.1 g.2.2.2.2.1 (i + 1), h.2.2.2.2.2), gW cy b k2 h]) H := hP
      have hD : va_D A (bkF [gW cy a k (kcp h.1 g.1 (i + 1), kcp h.2.1 g.2.1 (i + 1), kcp h.2.2.1 g.2.2.1 (i + 1), kcp h.2.2.2.1 g.2.2.2.1 (i + 1), kcp h.2.2.2.2.1 g.2.2.2.2.1 (i + 1), h.2.2.2.2.2), gW cy b k2 h]) := hD
      exact ih_10 _ (by omega) (i + 1) rfl (by omega) ls H locs hP hD hS (lv_sub hl [1, 2, 0] rfl)
  exact L_10 _ 0  rfl (by omega) ls H locs hP hD hS (lv_sub hl [1, 2, 0] rfl)
