abbrev rm_X5_valueOf : Room := { frames := 1, cells := 0, slots := 0, locals := 22 }
set_option maxHeartbeats 1000000 in
set_option maxRecDepth 100000 in
/-- valueOf -/
theorem c_X5_valueOf (l : Launch) (D : va_G) (cy : Nat → ClassId) (ra : Nat → Nat) (X : rS) (T : rV) (w : Nat) (hoc : kOkC X.1) (hfn : X.1.2.2.2.1 ≤ 4) (hw13 : w ≤ 13) (sz : Nat) : Met l yX5_valueOf wsX5_valueOf rm_X5_valueOf (va_Pc [.ref (ra 0), .int (nI w)] (kPre D (kT cy) [mW cy ra (kEn X, T)] sz)) (va_Qi (fun r_ (u_ : Unit) => r_ = knum X.1 X.2.1 X.2.2.1 X.2.2.2.1 X.2.2.2.2 w) (kFr D (kT cy) [mW cy ra (kEn X, T)] sz (fun u_ : Unit => [mW cy ra (kEn X, T)])) (va_A (bkF [mW cy ra (kEn X, T)]) sz)) 0 0 (va_A (bkF [mW cy ra (kEn X, T)]) sz) := by
  refine kOpen (y := yX5_valueOf) (ws := wsX5_valueOf) (cc := cX5_valueOf) (maxL := 2) (ret := (some .int)) (av := [.ref (ra 0), .int (nI w)]) (Bs := [mW cy ra (kEn X, T)]) (Qc := fun A => (va_Qi (fun r_ (u_ : Unit) => r_ = knum X.1 X.2.1 X.2.2.1 X.2.2.2.1 X.2.2.2.2 w) (fun (u_ : Unit) t9 => kEnd D (kT cy) A [mW cy ra (kEn X, T)] t9) A)) (by decide) rfl (Nat.le_of_ble_eq_true rfl) ?_
  intro p e s m args below meth c A Q ls hQ hx hb hml hr hlocks hin hts hown hN hK hP hD hS hA hsz hAe hl
  clear hAe
  have hl : lv_has ls 2 [(0, .ref (ra 0)), (1, .int (nI w))] := hl
  suffices K9 : ∀ (H : Heap) (locs : List Loc), va_P D vwCl (bkF [mW cy ra (kEn X, T)]) H → va_S A s.heap H locs → W p l e (headSpec wsX5_valueOf rm_X5_valueOf).room s m args below meth c H locs 0 0 Q (F0 m 0 ls []) from K9 _ _ hP hS
  clear hP hS
  intro H locs hP hS
  refine lv_iload_n hx hb dX5_valueOf_0 rfl (lv_at hl 1 rfl) ?_
  rcases (show w = 0 ∨ w = 1 ∨ w = 2 ∨ w = 3 ∨ w = 4 ∨ w = 5 ∨ w = 6 ∨ w = 7 ∨ w = 8 ∨ w = 9 ∨ w = 10 ∨ w = 11 ∨ w = 12 ∨ w = 13 by omega) with h9 | h9 | h9 | h9 | h9 | h9 | h9 | h9 | h9 | h9 | h9 | h9 | h9 | h9
  · skip
    rw [h9]
    refine lv_tableOut (tgt := 113) hx hb dX5_valueOf_1 (by decide) (by decide) ?_
    refine lv_aload_n hx hb dX5_valueOf_113 rfl (lv_at hl 0 rfl) ?_
    refine va_get (D := D) (ci := 5) (v := .ref (ra 1)) (C := RX5) (T := TX5) (N := 16) hx hb hts (by decide +kernel) hown hK hP 0 rfl rfl 0 (by decide) (hts (.fieldLink RX5 7 "DanceHallModel" "all" "[I") (by decide +kernel)) (fun _ h9 => h9) rfl dX5_valueOf_114 ?_
    refine lv_iload_n hx hb dX5_valueOf_117 rfl (lv_at hl 1 rfl) ?_
    refine va_iald hx hb hK hP 1 0 rfl rfl (vp_in_nI (n := w) (N := 188) (by omega) (by omega)) dX5_valueOf_118 ?_
    refine kv_i (y := (kEn X) w) (congrArg (kEn X) (nI_clamp (n := w) (by omega))) ?_
    exact kr_i (post := fun r_ (u_ : Unit) => r_ = knum X.1 X.2.1 X.2.2.1 X.2.2.2.1 X.2.2.2.2 w) (Bs := fun u_ : Unit => [mW cy ra (kEn X, T)]) hx hb hr hlocks rfl () hP hK hD hS (by rw [h9]; rfl) dX5_valueOf_119 hQ
  · skip
    rw [h9]
    refine lv_tableOut (tgt := 113) hx hb dX5_valueOf_1 (by decide) (by decide) ?_
    refine lv_aload_n hx hb dX5_valueOf_113 rfl (lv_at hl 0 rfl) ?_
    refine va_get (D := D) (ci := 5) (v := .ref (ra 1)) (C := RX5) (T := TX5) (N := 16) hx hb hts (by decide +kernel) hown hK hP 0 rfl rfl 0 (by decide) (hts (.fieldLink RX5 7 "DanceHallModel" "all" "[I") (by decide +kernel)) (fun _ h9 => h9) rfl dX5_valueOf_114 ?_
    refine lv_iload_n hx hb dX5_valueOf_117 rfl (lv_at hl 1 rfl) ?_
    refine va_iald hx hb hK hP 1 0 rfl rfl (vp_in_nI (n := w) (N := 188) (by omega) (by omega)) dX5_valueOf_118 ?_
    refine kv_i (y := (kEn X) w) (congrArg (kEn X) (nI_clamp (n := w) (by omega))) ?_
    exact kr_i (post := fun r_ (u_ : Unit) => r_ = knum X.1 X.2.1 X.2.2.1 X.2.2.2.1 X.2.2.2.2 w) (Bs := fun u_ : Unit => [mW cy ra (kEn X, T)]) hx hb hr hlocks rfl () hP hK hD hS (by rw [h9]; rfl) dX5_valueOf_119 hQ
  · skip
    rw [h9]
    refine lv_tableOut (tgt := 113) hx hb dX5_valueOf_1 (by decide) (by decide) ?_
    refine lv_aload_n hx hb dX5_valueOf_113 rfl (lv_at hl 0 rfl) ?_
    refine va_get (D := D) (ci := 5) (v := .ref (ra 1)) (C := RX5) (T := TX5) (N := 16) hx hb hts (by decide +kernel) hown hK hP 0 rfl rfl 0 (by decide) (hts (.fieldLink RX5 7 "DanceHallModel" "all" "[I") (by decide +kernel)) (fun _ h9 => h9) rfl dX5_valueOf_114 ?_
    refine lv_iload_n hx hb dX5_valueOf_117 rfl (lv_at hl 1 rfl) ?_
    refine va_iald hx hb hK hP 1 0 rfl rfl (vp_in_nI (n := w) (N := 188) (by omega) (by omega)) dX5_valueOf_118 ?_
    refine kv_i (y := (kEn X) w) (congrArg (kEn X) (nI_clamp (n := w) (by omega))) ?_
    exact kr_i (post := fun r_ (u_ : Unit) => r_ = knum X.1 X.2.1 X.2.2.1 X.2.2.2.1 X.2.2.2.2 w) (Bs := fun u_ : Unit => [mW cy ra (kEn X, T)]) hx hb hr hlocks rfl () hP hK hD hS (by rw [h9]; rfl) dX5_valueOf_119 hQ
  · skip
    rw [h9]
    refine lv_tableOut (tgt := 113) hx hb dX5_valueOf_1 (by decide) (by decide) ?_
    refine lv_aload_n hx hb dX5_valueOf_113 rfl (lv_at hl 0 rfl) ?_
    refine va_get (D := D) (ci := 5) (v := .ref (ra 1)) (C := RX5) (T := TX5) (N := 16) hx hb hts (by decide +kernel) hown hK hP 0 rfl rfl 0 (by decide) (hts (.fieldLink RX5 7 "DanceHallModel" "all" "[I") (by decide +kernel)) (fun _ h9 => h9) rfl dX5_valueOf_114 ?_
    refine lv_iload_n hx hb dX5_valueOf_117 rfl (lv_at hl 1 rfl) ?_
    refine va_iald hx hb hK hP 1 0 rfl rfl (vp_in_nI (n := w) (N := 188) (by omega) (by omega)) dX5_valueOf_118 ?_
    refine kv_i (y := (kEn X) w) (congrArg (kEn X) (nI_clamp (n := w) (by omega))) ?_
    exact kr_i (post := fun r_ (u_ : Unit) => r_ = knum X.1 X.2.1 X.2.2.1 X.2.2.2.1 X.2.2.2.2 w) (Bs := fun u_ : Unit => [mW cy ra (kEn X, T)]) hx hb hr hlocks rfl () hP hK hD hS (by rw [h9]; rfl) dX5_valueOf_119 hQ
  · skip
    rw [h9]
    refine lv_tableIn (off := 55) (tgt := 56) hx hb dX5_valueOf_1 (by decide) (by decide) (by decide) (by decide) ?_
    refine lv_aload_n hx hb dX5_valueOf_56 rfl (lv_at hl 0 rfl) ?_
    refine lv_aload_n hx hb dX5_valueOf_57 rfl (lv_at hl 0 rfl) ?_
    refine va_get (D := D) (ci := 5) (v := .ref (ra 1)) (C := RX5) (T := TX5) (N := 16) hx hb hts (by decide +kernel) hown hK hP 0 rfl rfl 0 (by decide) (hts (.fieldLink RX5 7 "DanceHallModel" "all" "[I") (by decide +kernel)) (fun _ h9 => h9) rfl dX5_valueOf_58 ?_
    refine lv_iconst (v := nI 2) hx hb dX5_valueOf_61 (by decide) ?_
    refine va_iald hx hb hK hP 1 0 rfl rfl (vp_in_nI (n := 2) (N := 188) (by omega) (by omega)) dX5_valueOf_62 ?_
    refine kv_i (y := nI X.1.1) (show ((kEn X)) (nI 2).toNatClampNeg = nI X.1.1 from rfl) ?_
    refine kc_i (Cs := [mW cy ra (kEn X, T)]) (Rs := []) (Bs := [mW cy ra (kEn X, T)]) (Cs' := fun u_ : Unit => [mW cy ra (kEn X, T)]) (Fs := fun u_ : Unit => [mW cy ra (kEn X, T)]) hP hD hS hA [0] [] [0] rfl rfl (by decide) (by decide) (fun _ => rfl) (va_runV (As := [.int (nI X.1.1)]) (rest := []) ⟨hx, hb, hml, hown, hts⟩ (c_X5_litOf l D cy ra X T X.1.1 hoc.1 hoc.2.1 H.size) (cwV 1 hts gX5_valueOf_X5_litOf rfl rfl rfl (by decide +kernel) ⟨Nat.le_of_ble_eq_true rfl, Nat.le_of_ble_eq_true rfl⟩) (kPre_V (ci := 5) hK hN hP hD [0] (by decide) rfl 0 rfl rfl) rfl rfl hl.1 rfl (lv_room (Nat.le_of_ble_eq_true rfl)) dX5_valueOf_63 ⟨Nat.le_of_ble_eq_true rfl, Nat.le_of_ble_eq_true rfl⟩) (fun r_ u_ H locs hw hP hD hS => ?_)
    have hw : r_ = nI (min X.1.1 (X.1.2.1 / 2)) := hw
    subst hw
    exact kr_i (post := fun r_ (u_ : Unit) => r_ = knum X.1 X.2.1 X.2.2.1 X.2.2.2.1 X.2.2.2.2 w) (Bs := fun u_ : Unit => [mW cy ra (kEn X, T)]) hx hb hr hlocks rfl () hP hK hD hS (by rw [h9]; rfl) dX5_valueOf_66 hQ
  · skip
    rw [h9]
    refine lv_tableIn (off := 66) (tgt := 67) hx hb dX5_valueOf_1 (by decide) (by decide) (by decide) (by decide) ?_
    refine lv_iconst (v := nI 2) hx hb dX5_valueOf_67 (by decide) ?_
    refine lv_aload_n hx hb dX5_valueOf_68 rfl (lv_at hl 0 rfl) ?_
    refine lv_aload_n hx hb dX5_valueOf_69 rfl (lv_at hl 0 rfl) ?_
    refine va_get (D := D) (ci := 5) (v := .ref (ra 1)) (C := RX5) (T := TX5) (N := 16) hx hb hts (by decide +kernel) hown hK hP 0 rfl rfl 0 (by decide) (hts (.fieldLink RX5 7 "DanceHallModel" "all" "[I") (by decide +kernel)) (fun _ h9 => h9) rfl dX5_valueOf_70 ?_
    refine lv_iconst (v := nI 2) hx hb dX5_valueOf_73 (by decide) ?_
    refine va_iald hx hb hK hP 1 0 rfl rfl (vp_in_nI (n := 2) (N := 188) (by omega) (by omega)) dX5_valueOf_74 ?_
    refine kv_i (y := nI X.1.1) (show ((kEn X)) (nI 2).toNatClampNeg = nI X.1.1 from rfl) ?_
    refine kc_i (Cs := [mW cy ra (kEn X, T)]) (Rs := []) (Bs := [mW cy ra (kEn X, T)]) (Cs' := fun u_ : Unit => [mW cy ra (kEn X, T)]) (Fs := fun u_ : Unit => [mW cy ra (kEn X, T)]) hP hD hS hA [0] [] [0] rfl rfl (by decide) (by decide) (fun _ => rfl) (va_runV (As := [.int (nI X.1.1)]) (rest := [.int (nI 2)]) ⟨hx, hb, hml, hown, hts⟩ (c_X5_litOf l D cy ra X T X.1.1 hoc.1 hoc.2.1 H.size) (cwV 1 hts gX5_valueOf_X5_litOf rfl rfl rfl (by decide +kernel) ⟨Nat.le_of_ble_eq_true rfl, Nat.le_of_ble_eq_true rfl⟩) (kPre_V (ci := 5) hK hN hP hD [0] (by decide) rfl 0 rfl rfl) rfl rfl hl.1 rfl (lv_room (Nat.le_of_ble_eq_true rfl)) dX5_valueOf_75 ⟨Nat.le_of_ble_eq_true rfl, Nat.le_of_ble_eq_true rfl⟩) (fun r_ u_ H locs hw hP hD hS => ?_)
    have hw : r_ = nI (min X.1.1 (X.1.2.1 / 2)) := hw
    subst hw
    refine lv_imul hx hb dX5_valueOf_78 ?_
    refine kv_i (y := nI (2 * (min X.1.1 (X.1.2.1 / 2)))) (pk_mul 2 (min X.1.1 (X.1.2.1 / 2))) ?_
    exact kr_i (post := fun r_ (u_ : Unit) => r_ = knum X.1 X.2.1 X.2.2.1 X.2.2.2.1 X.2.2.2.2 w) (Bs := fun u_ : Unit => [mW cy ra (kEn X, T)]) hx hb hr hlocks rfl () hP hK hD hS (by rw [h9]; rfl) dX5_valueOf_79 hQ
  · skip
    rw [h9]
    refine lv_tableIn (off := 79) (tgt := 80) hx hb dX5_valueOf_1 (by decide) (by decide) (by decide) (by decide) ?_
    refine lv_aload_n hx hb dX5_valueOf_80 rfl (lv_at hl 0 rfl) ?_
    refine va_get (D := D) (ci := 5) (v := .ref (ra 1)) (C := RX5) (T := TX5) (N := 16) hx hb hts (by decide +kernel) hown hK hP 0 rfl rfl 0 (by decide) (hts (.fieldLink RX5 7 "DanceHallModel" "all" "[I") (by decide +kernel)) (fun _ h9 => h9) rfl dX5_valueOf_81 ?_
    refine lv_iconst (v := nI 4) hx hb dX5_valueOf_84 (by decide) ?_
    refine lv_iload_n hx hb dX5_valueOf_85 rfl (lv_at hl 1 rfl) ?_
    refine lv_iadd hx hb dX5_valueOf_86 ?_
    refine kv_i (y := nI (4 + w)) (nI_add 4 w) ?_
    refine lv_bipush (v := nI 6) hx hb dX5_valueOf_87 (by decide) ?_
    refine lv_isub hx hb dX5_valueOf_89 ?_
    refine kv_i (y := nI ((4 + w) - 6)) (pk_sub (a := 4 + w) (b := 6) (by omega)) ?_
    refine va_iald hx hb hK hP 1 0 rfl rfl (vp_in_nI (n := (4 + w) - 6) (N := 188) (by omega) (by omega)) dX5_valueOf_90 ?_
    refine kv_i (y := (kEn X) ((4 + w) - 6)) (congrArg (kEn X) (nI_clamp (n := (4 + w) - 6) (by omega))) ?_
    exact kr_i (post := fun r_ (u_ : Unit) => r_ = knum X.1 X.2.1 X.2.2.1 X.2.2.2.1 X.2.2.2.2 w) (Bs := fun u_ : Unit => [mW cy ra (kEn X, T)]) hx hb hr hlocks rfl () hP hK hD hS (by rw [h9]; rfl) dX5_valueOf_91 hQ
  · skip
    rw [h9]
    refine lv_tableIn (off := 79) (tgt := 80) hx hb dX5_valueOf_1 (by decide) (by decide) (by decide) (by decide) ?_
    refine lv_aload_n hx hb dX5_valueOf_80 rfl (lv_at hl 0 rfl) ?_
    refine va_get (D := D) (ci := 5) (v := .ref (ra 1)) (C := RX5) (T := TX5) (N := 16) hx hb hts (by decide +kernel) hown hK hP 0 rfl rfl 0 (by decide) (hts (.fieldLink RX5 7 "DanceHallModel" "all" "[I") (by decide +kernel)) (fun _ h9 => h9) rfl dX5_valueOf_81 ?_
    refine lv_iconst (v := nI 4) hx hb dX5_valueOf_84 (by decide) ?_
    refine lv_iload_n hx hb dX5_valueOf_85 rfl (lv_at hl 1 rfl) ?_
    refine lv_iadd hx hb dX5_valueOf_86 ?_
    refine kv_i (y := nI (4 + w)) (nI_add 4 w) ?_
    refine lv_bipush (v := nI 6) hx hb dX5_valueOf_87 (by decide) ?_
    refine lv_isub hx hb dX5_valueOf_89 ?_
    refine kv_i (y := nI ((4 + w) - 6)) (pk_sub (a := 4 + w) (b := 6) (by omega)) ?_
    refine va_iald hx hb hK hP 1 0 rfl rfl (vp_in_nI (n := (4 + w) - 6) (N := 188) (by omega) (by omega)) dX5_valueOf_90 ?_
    refine kv_i (y := (kEn X) ((4 + w) - 6)) (congrArg (kEn X) (nI_clamp (n := (4 + w) - 6) (by omega))) ?_
    exact kr_i (post := fun r_ (u_ : Unit) => r_ = knum X.1 X.2.1 X.2.2.1 X.2.2.2.1 X.2.2.2.2 w) (Bs := fun u_ : Unit => [mW cy ra (kEn X, T)]) hx hb hr hlocks rfl () hP hK hD hS (by rw [h9]; rfl) dX5_valueOf_91 hQ
  · skip
    rw [h9]
    refine lv_tableIn (off := 79) (tgt := 80) hx hb dX5_valueOf_1 (by decide) (by decide) (by decide) (by decide) ?_
    refine lv_aload_n hx hb dX5_valueOf_80 rfl (lv_at hl 0 rfl) ?_
    refine va_get (D := D) (ci := 5) (v := .ref (ra 1)) (C := RX5) (T := TX5) (N := 16) hx hb hts (by decide +kernel) hown hK hP 0 rfl rfl 0 (by decide) (hts (.fieldLink RX5 7 "DanceHallModel" "all" "[I") (by decide +kernel)) (fun _ h9 => h9) rfl dX5_valueOf_81 ?_
    refine lv_iconst (v := nI 4) hx hb dX5_valueOf_84 (by decide) ?_
    refine lv_iload_n hx hb dX5_valueOf_85 rfl (lv_at hl 1 rfl) ?_
    refine lv_iadd hx hb dX5_valueOf_86 ?_
    refine kv_i (y := nI (4 + w)) (nI_add 4 w) ?_
    refine lv_bipush (v := nI 6) hx hb dX5_valueOf_87 (by decide) ?_
    refine lv_isub hx hb dX5_valueOf_89 ?_
    refine kv_i (y := nI ((4 + w) - 6)) (pk_sub (a := 4 + w) (b := 6) (by omega)) ?_
    refine va_iald hx hb hK hP 1 0 rfl rfl (vp_in_nI (n := (4 + w) - 6) (N := 188) (by omega) (by omega)) dX5_valueOf_90 ?_
    refine kv_i (y := (kEn X) ((4 + w) - 6)) (congrArg (kEn X) (nI_clamp (n := (4 + w) - 6) (by omega))) ?_
    exact kr_i (post := fun r_ (u_ : Unit) => r_ = knum X.1 X.2.1 X.2.2.1 X.2.2.2.1 X.2.2.2.2 w) (Bs := fun u_ : Unit => [mW cy ra (kEn X, T)]) hx hb hr hlocks rfl () hP hK hD hS (by rw [h9]; rfl) dX5_valueOf_91 hQ
  · skip
    rw [h9]
    refine lv_tableIn (off := 79) (tgt := 80) hx hb dX5_valueOf_1 (by decide) (by decide) (by decide) (by decide) ?_
    refine lv_aload_n hx hb dX5_valueOf_80 rfl (lv_at hl 0 rfl) ?_
    refine va_get (D := D) (ci := 5) (v := .ref (ra 1)) (C := RX5) (T := TX5) (N := 16) hx hb hts (by decide +kernel) hown hK hP 0 rfl rfl 0 (by decide) (hts (.fieldLink RX5 7 "DanceHallModel" "all" "[I") (by decide +kernel)) (fun _ h9 => h9) rfl dX5_valueOf_81 ?_
    refine lv_iconst (v := nI 4) hx hb dX5_valueOf_84 (by decide) ?_
    refine lv_iload_n hx hb dX5_valueOf_85 rfl (lv_at hl 1 rfl) ?_
    refine lv_iadd hx hb dX5_valueOf_86 ?_
    refine kv_i (y := nI (4 + w)) (nI_add 4 w) ?_
    refine lv_bipush (v := nI 6) hx hb dX5_valueOf_87 (by decide) ?_
    refine lv_isub hx hb dX5_valueOf_89 ?_
    refine kv_i (y := nI ((4 + w) - 6)) (pk_sub (a := 4 + w) (b := 6) (by omega)) ?_
    refine va_iald hx hb hK hP 1 0 rfl rfl (vp_in_nI (n := (4 + w) - 6) (N := 188) (by omega) (by omega)) dX5_valueOf_90 ?_
    refine kv_i (y := (kEn X) ((4 + w) - 6)) (congrArg (kEn X) (nI_clamp (n := (4 + w) - 6) (by omega))) ?_
    exact kr_i (post := fun r_ (u_ : Unit) => r_ = knum X.1 X.2.1 X.2.2.1 X.2.2.2.1 X.2.2.2.2 w) (Bs := fun u_ : Unit => [mW cy ra (kEn X, T)]) hx hb hr hlocks rfl () hP hK hD hS (by rw [h9]; rfl) dX5_valueOf_91 hQ
  · skip
    rw [h9]
    refine lv_tableIn (off := 79) (tgt := 80) hx hb dX5_valueOf_1 (by decide) (by decide) (by decide) (by decide) ?_
    refine lv_aload_n hx hb dX5_valueOf_80 rfl (lv_at hl 0 rfl) ?_
    refine va_get (D := D) (ci := 5) (v := .ref (ra 1)) (C := RX5) (T := TX5) (N := 16) hx hb hts (by decide +kernel) hown hK hP 0 rfl rfl 0 (by decide) (hts (.fieldLink RX5 7 "DanceHallModel" "all" "[I") (by decide +kernel)) (fun _ h9 => h9) rfl dX5_valueOf_81 ?_
    refine lv_iconst (v := nI 4) hx hb dX5_valueOf_84 (by decide) ?_
    refine lv_iload_n hx hb dX5_valueOf_85 rfl (lv_at hl 1 rfl) ?_
    refine lv_iadd hx hb dX5_valueOf_86 ?_
    refine kv_i (y := nI (4 + w)) (nI_add 4 w) ?_
    refine lv_bipush (v := nI 6) hx hb dX5_valueOf_87 (by decide) ?_
    refine lv_isub hx hb dX5_valueOf_89 ?_
    refine kv_i (y := nI ((4 + w) - 6)) (pk_sub (a := 4 + w) (b := 6) (by omega)) ?_
    refine va_iald hx hb hK hP 1 0 rfl rfl (vp_in_nI (n := (4 + w) - 6) (N := 188) (by omega) (by omega)) dX5_valueOf_90 ?_
    refine kv_i (y := (kEn X) ((4 + w) - 6)) (congrArg (kEn X) (nI_clamp (n := (4 + w) - 6) (by omega))) ?_
    exact kr_i (post := fun r_ (u_ : Unit) => r_ = knum X.1 X.2.1 X.2.2.1 X.2.2.2.1 X.2.2.2.2 w) (Bs := fun u_ : Unit => [mW cy ra (kEn X, T)]) hx hb hr hlocks rfl () hP hK hD hS (by rw [h9]; rfl) dX5_valueOf_91 hQ
  · skip
    rw [h9]
    refine lv_tableIn (off := 91) (tgt := 92) hx hb dX5_valueOf_1 (by decide) (by decide) (by decide) (by decide) ?_
    refine lv_aload_n hx hb dX5_valueOf_92 rfl (lv_at hl 0 rfl) ?_
    refine kc_i (Cs := [mW cy ra (kEn X, T)]) (Rs := []) (Bs := [mW cy ra (kEn X, T)]) (Cs' := fun u_ : Unit => [mW cy ra (kEn X, T)]) (Fs := fun u_ : Unit => [mW cy ra (kEn X, T)]) hP hD hS hA [0] [] [0] rfl rfl (by decide) (by decide) (fun _ => rfl) (va_runV (As := []) (rest := []) ⟨hx, hb, hml, hown, hts⟩ (c_X5_parts l D cy ra X T (by first | assumption | omega | decide) H.size) (cwV 0 hts gX5_valueOf_X5_parts rfl rfl rfl (by decide +kernel) ⟨Nat.le_of_ble_eq_true rfl, Nat.le_of_ble_eq_true rfl⟩) (kPre_V (ci := 5) hK hN hP hD [0] (by decide) rfl 0 rfl rfl) rfl rfl hl.1 rfl (lv_room (Nat.le_of_ble_eq_true rfl)) dX5_valueOf_93 ⟨Nat.le_of_ble_eq_true rfl, Nat.le_of_ble_eq_true rfl⟩) (fun r_ u_ H locs hw hP hD hS => ?_)
    have hw : r_ = ksum X.2.2.2.1.2.1 X.1.2.2.2.1 := hw
    subst hw
    exact kr_i (post := fun r_ (u_ : Unit) => r_ = knum X.1 X.2.1 X.2.2.1 X.2.2.2.1 X.2.2.2.2 w) (Bs := fun u_ : Unit => [mW cy ra (kEn X, T)]) hx hb hr hlocks rfl () hP hK hD hS (by rw [h9]; rfl) dX5_valueOf_96 hQ
  · skip
    rw [h9]
    refine lv_tableIn (off := 96) (tgt := 97) hx hb dX5_valueOf_1 (by decide) (by decide) (by decide) (by decide) ?_
    refine lv_aload_n hx hb dX5_valueOf_97 rfl (lv_at hl 0 rfl) ?_
    refine va_get (D := D) (ci := 5) (v := .ref (ra 1)) (C := RX5) (T := TX5) (N := 16) hx hb hts (by decide +kernel) hown hK hP 0 rfl rfl 0 (by decide) (hts (.fieldLink RX5 7 "DanceHallModel" "all" "[I") (by decide +kernel)) (fun _ h9 => h9) rfl dX5_valueOf_98 ?_
    refine lv_bipush (v := nI 9) hx hb dX5_valueOf_101 (by decide) ?_
    refine va_iald hx hb hK hP 1 0 rfl rfl (vp_in_nI (n := 9) (N := 188) (by omega) (by omega)) dX5_valueOf_103 ?_
    refine kv_i (y := (kEn X) 9) (show ((kEn X)) (nI 9).toNatClampNeg = (kEn X) 9 from rfl) ?_
    exact kr_i (post := fun r_ (u_ : Unit) => r_ = knum X.1 X.2.1 X.2.2.1 X.2.2.2.1 X.2.2.2.2 w) (Bs := fun u_ : Unit => [mW cy ra (kEn X, T)]) hx hb hr hlocks rfl () hP hK hD hS (by rw [h9]; rfl) dX5_valueOf_104 hQ
  · skip
    rw [h9]
    refine lv_tableIn (off := 104) (tgt := 105) hx hb dX5_valueOf_1 (by decide) (by decide) (by decide) (by decide) ?_
    refine lv_aload_n hx hb dX5_valueOf_105 rfl (lv_at hl 0 rfl) ?_
    refine va_get (D := D) (ci := 5) (v := .ref (ra 1)) (C := RX5) (T := TX5) (N := 16) hx hb hts (by decide +kernel) hown hK hP 0 rfl rfl 0 (by decide) (hts (.fieldLink RX5 7 "DanceHallModel" "all" "[I") (by decide +kernel)) (fun _ h9 => h9) rfl dX5_valueOf_106 ?_
    refine lv_bipush (v := nI 10) hx hb dX5_valueOf_109 (by decide) ?_
    refine va_iald hx hb hK hP 1 0 rfl rfl (vp_in_nI (n := 10) (N := 188) (by omega) (by omega)) dX5_valueOf_111 ?_
    refine kv_i (y := (kEn X) 10) (show ((kEn X)) (nI 10).toNatClampNeg = (kEn X) 10 from rfl) ?_
    exact kr_i (post := fun r_ (u_ : Unit) => r_ = knum X.1 X.2.1 X.2.2.1 X.2.2.2.1 X.2.2.2.2 w) (Bs := fun u_ : Unit => [mW cy ra (kEn X, T)]) hx hb hr hlocks rfl () hP hK hD hS (by rw [h9]; rfl) dX5_valueOf_112 hQ
abbrev rm_X5_value : Room := { frames := 2, cells := 0, slots := 0, locals := 43 }
set_option maxHeartbeats 1000000 in
set_option maxRecDepth 100000 in
/-- value -/
theorem c_X5_value (l : Launch) (D : va_G) (cy : Nat → ClassId) (ra : Nat → Nat) (X : rS) (T : rV) (w : Nat) (hoc : kOkC X.1) (hfn : X.1.2.2.2.1 ≤ 4) (hw13 : w ≤ 13) (sz : Nat) : Met l yX5_value wsX5_value rm_X5_value (va_Pc [.ref (ra 0), .int (nI w)] (kPre D (kT cy) [mW cy ra (kEn X, T)] sz)) (va_Qi (fun r_ (u_ : Unit) => r_ = knum X.1 X.2.1 X.2.2.1 X.2.2.2.1 X.2.2.2.2 w) (kFr D (kT cy) [mW cy ra (kEn X, T)] sz (fun u_ : Unit => [mW cy ra (kEn X, (T.1, T.2.1, T.2.2.1, nI 0, T.2.2.2.2))])) (va_A (bkF [mW cy ra (kEn X, T)]) sz)) 0 0 (va_A (bkF [mW cy ra (kEn X, T)]) sz) := by
  refine kOpen (y := yX5_value) (ws := wsX5_value) (cc := cX5_value) (maxL := 2) (ret := (some .int)) (av := [.ref (ra 0), .int (nI w)]) (Bs := [mW cy ra (kEn X, T)]) (Qc := fun A => (va_Qi (fun r_ (u_ : Unit) => r_ = knum X.1 X.2.1 X.2.2.1 X.2.2.2.1 X.2.2.2.2 w) (fun (u_ : Unit) t9 => kEnd D (kT cy) A [mW cy ra (kEn X, (T.1, T.2.1, T.2.2.1, nI 0, T.2.2.2.2))] t9) A)) (by decide) rfl (Nat.le_of_ble_eq_true rfl) ?_
  intro p e s m args below meth c A Q ls hQ hx hb hml hr hlocks hin hts hown hN hK hP hD hS hA hsz hAe hl
  clear hAe
  have hl : lv_has ls 2 [(0, .ref (ra 0)), (1, .int (nI w))] := hl
  suffices K9 : ∀ (H : Heap) (locs : List Loc), va_P D vwCl (bkF [mW cy ra (kEn X, T)]) H → va_S A s.heap H locs → W p l e (headSpec wsX5_value rm_X5_value).room s m args below meth c H locs 0 0 Q (F0 m 0 ls []) from K9 _ _ hP hS
  clear hP hS
  intro H locs hP hS
  refine lv_iload_n hx hb dX5_value_0 rfl (lv_at hl 1 rfl) ?_
  refine lv_i2l (v := (nI w).toInt64) hx hb dX5_value_1 rfl ?_
  refine lv_lconst (v := 0) hx hb dX5_value_2 (by decide) ?_
  refine lv_ldc2 hx hb hown (hts (.constantLong RX5 149 (13)) (by decide +kernel)) dX5_value_3 ?_
  refine kc_i (Cs := []) (Rs := [mW cy ra (kEn X, T)]) (Bs := [mW cy ra (kEn X, T)]) (Cs' := fun u_ : Unit => []) (Fs := fun u_ : Unit => [mW cy ra (kEn X, T)]) hP hD hS hA [] [0] [0] rfl rfl (by decide) (by decide) (fun _ => rfl) (va_runS (As := [.long ((nI w).toInt64), .long 0, .long (13)]) (rest := []) ⟨hx, hb, hml, hown, hts⟩ (c_X5_in l D cy ((nI w).toInt64) 0 (13) H.size) (va_cwS 3 hts gX5_value_X5_in rfl rfl rfl (by decide +kernel) ⟨Nat.le_of_ble_eq_true rfl, Nat.le_of_ble_eq_true rfl⟩) (kPre_S hK hN hP hD [] (by decide) rfl) rfl rfl hl.1 rfl (lv_room (Nat.le_of_ble_eq_true rfl)) dX5_value_6 ⟨Nat.le_of_ble_eq_true rfl, Nat.le_of_ble_eq_true rfl⟩) (fun r_ u_ H locs hw hP hD hS => ?_)
  have hw : r_ = if kIn ((nI w).toInt64) 0 (13) then nI 1 else nI 0 := hw
  subst hw
  refine kv_i (y := nI 1) (if_pos ((kIn32 (y := nI 0) (z := nI 13) (by decide) (by decide)).mpr (kwin (by omega) (by omega) (by decide)))) ?_
  refine lv_if_eq (tgt := 24) hx hb dX5_value_9 (by decide) (fun h => absurd h (by decide)) (fun _ => ?_)
  refine lv_aload_n hx hb dX5_value_12 rfl (lv_at hl 0 rfl) ?_
  refine lv_aload_n hx hb dX5_value_13 rfl (lv_at hl 0 rfl) ?_
  refine lv_iload_n hx hb dX5_value_14 rfl (lv_at hl 1 rfl) ?_
  refine kc_i (Cs := [mW cy ra (kEn X, T)]) (Rs := []) (Bs := [mW cy ra (kEn X, T)]) (Cs' := fun u_ : Unit => [mW cy ra (kEn X, T)]) (Fs := fun u_ : Unit => [mW cy ra (kEn X, T)]) hP hD hS hA [0] [] [0] rfl rfl (by decide) (by decide) (fun _ => rfl) (va_runV (As := [.int (nI w)]) (rest := [.ref (ra 0)]) ⟨hx, hb, hml, hown, hts⟩ (c_X5_valueOf l D cy ra X T w hoc hfn (by first | assumption | omega | decide) H.size) (cwV 1 hts gX5_value_X5_valueOf rfl rfl rfl (by decide +kernel) ⟨Nat.le_of_ble_eq_true rfl, Nat.le_of_ble_eq_true rfl⟩) (kPre_V (ci := 5) hK hN hP hD [0] (by decide) rfl 0 rfl rfl) rfl rfl hl.1 rfl (lv_room (Nat.le_of_ble_eq_true rfl)) dX5_value_15 ⟨Nat.le_of_ble_eq_true rfl, Nat.le_of_ble_eq_true rfl⟩) (fun r_ u_ H locs hw hP hD hS => ?_)
  have hw : r_ = knum X.1 X.2.1 X.2.2.1 X.2.2.2.1 X.2.2.2.2 w := hw
  subst hw
  refine kc_i (Cs := [mW cy ra (kEn X, T)]) (Rs := []) (Bs := [mW cy ra (kEn X, T)]) (Cs' := fun u_ : Unit => [mW cy ra ((kEn X), (T.1, T.2.1, T.2.2.1, nI 0, T.2.2.2.2))]) (Fs := fun u_ : Unit => [mW cy ra ((kEn X), (T.1, T.2.1, T.2.2.1, nI 0, T.2.2.2.2))]) hP hD hS hA [0] [] [0] rfl rfl (by decide) (by decide) (fun _ => rfl) (va_runV (As := [.int (knum X.1 X.2.1 X.2.2.1 X.2.2.2.1 X.2.2.2.2 w)]) (rest := []) ⟨hx, hb, hml, hown, hts⟩ (c_X5_fine l D cy ra (kEn X) T (knum X.1 X.2.1 X.2.2.1 X.2.2.2.1 X.2.2.2.2 w) H.size) (cwV 1 hts gX5_value_X5_fine rfl rfl rfl (by decide +kernel) ⟨Nat.le_of_ble_eq_true rfl, Nat.le_of_ble_eq_true rfl⟩) (kPre_V (ci := 5) hK hN hP hD [0] (by decide) rfl 0 rfl rfl) rfl rfl hl.1 rfl (lv_room (Nat.le_of_ble_eq_true rfl)) dX5_value_18 ⟨Nat.le_of_ble_eq_true rfl, Nat.le_of_ble_eq_true rfl⟩) (fun r_ u_ H locs hw hP hD hS => ?_)
  have hw : r_ = (knum X.1 X.2.1 X.2.2.1 X.2.2.2.1 X.2.2.2.2 w) := hw
  subst hw
  refine lv_goto (tgt := 29) hx hb dX5_value_21 (by decide) ?_
  exact kr_i (post := fun r_ (u_ : Unit) => r_ = knum X.1 X.2.1 X.2.2.1 X.2.2.2.1 X.2.2.2.2 w) (Bs := fun u_ : Unit => [mW cy ra (kEn X, (T.1, T.2.1, T.2.2.1, nI 0, T.2.2.2.2))]) hx hb hr hlocks rfl () hP hK hD hS rfl dX5_value_29 hQ
abbrev rm_X5_value_a : Room := { frames := 1, cells := 0, slots := 0, locals := 25 }
set_option maxHeartbeats 1000000 in
set_option maxRecDepth 100000 in
/-- value, no such thing -/
theorem c_X5_value_a (l : Launch) (D : va_G) (cy : Nat → ClassId) (ra : Nat → Nat) (X : rS) (T : rV) (w : Int32) (hbad : ¬ (¬ w < nI 0 ∧ ¬ nI 13 < w)) (sz : Nat) : Met l yX5_value wsX5_value rm_X5_value_a (va_Pc [.ref (ra 0), .int w] (kPre D (kT cy) [mW cy ra (kEn X, T)] sz)) (va_Qi (fun r_ (u_ : Unit) => r_ = nI 0) (kFr D (kT cy) [mW cy ra (kEn X, T)] sz (fun u_ : Unit => [mW cy ra (kEn X, (T.1, T.2.1, T.2.2.1, nI 1, T.2.2.2.2))])) (va_A (bkF [mW cy ra (kEn X, T)]) sz)) 0 0 (va_A (bkF [mW cy ra (kEn X, T)]) sz) := by
  refine kOpen (y := yX5_value) (ws := wsX5_value) (cc := cX5_value) (maxL := 2) (ret := (some .int)) (av := [.ref (ra 0), .int w]) (Bs := [mW cy ra (kEn X, T)]) (Qc := fun A => (va_Qi (fun r_ (u_ : Unit) => r_ = nI 0) (fun (u_ : Unit) t9 => kEnd D (kT cy) A [mW cy ra (kEn X, (T.1, T.2.1, T.2.2.1, nI 1, T.2.2.2.2))] t9) A)) (by decide) rfl (Nat.le_of_ble_eq_true rfl) ?_
  intro p e s m args below meth c A Q ls hQ hx hb hml hr hlocks hin hts hown hN hK hP hD hS hA hsz hAe hl
  clear hAe
  have hl : lv_has ls 2 [(0, .ref (ra 0)), (1, .int w)] := hl
  suffices K9 : ∀ (H : Heap) (locs : List Loc), va_P D vwCl (bkF [mW cy ra (kEn X, T)]) H → va_S A s.heap H locs → W p l e (headSpec wsX5_value rm_X5_value_a).room s m args below meth c H locs 0 0 Q (F0 m 0 ls []) from K9 _ _ hP hS
  clear hP hS
  intro H locs hP hS
  refine lv_iload_n hx hb dX5_value_0 rfl (lv_at hl 1 rfl) ?_
  refine lv_i2l (v := w.toInt64) hx hb dX5_value_1 rfl ?_
  refine lv_lconst (v := 0) hx hb dX5_value_2 (by decide) ?_
  refine lv_ldc2 hx hb hown (hts (.constantLong RX5 149 (13)) (by decide +kernel)) dX5_value_3 ?_
  refine kc_i (Cs := []) (Rs := [mW cy ra (kEn X, T)]) (Bs := [mW cy ra (kEn X, T)]) (Cs' := fun u_ : Unit => []) (Fs := fun u_ : Unit => [mW cy ra (kEn X, T)]) hP hD hS hA [] [0] [0] rfl rfl (by decide) (by decide) (fun _ => rfl) (va_runS (As := [.long w.toInt64, .long 0, .long (13)]) (rest := []) ⟨hx, hb, hml, hown, hts⟩ (c_X5_in l D cy w.toInt64 0 (13) H.size) (va_cwS 3 hts gX5_value_X5_in rfl rfl rfl (by decide +kernel) ⟨Nat.le_of_ble_eq_true rfl, Nat.le_of_ble_eq_true rfl⟩) (kPre_S hK hN hP hD [] (by decide) rfl) rfl rfl hl.1 rfl (lv_room (Nat.le_of_ble_eq_true rfl)) dX5_value_6 ⟨Nat.le_of_ble_eq_true rfl, Nat.le_of_ble_eq_true rfl⟩) (fun r_ u_ H locs hw hP hD hS => ?_)
  have hw : r_ = if kIn w.toInt64 0 (13) then nI 1 else nI 0 := hw
  subst hw
  refine kv_i (y := nI 0) (if_neg (fun h => hbad ((kIn32 (y := nI 0) (z := nI 13) (by decide) (by decide)).mp h))) ?_
  refine lv_if_eq (tgt := 24) hx hb dX5_value_9 (by decide) (fun _ => ?_) (fun h => absurd h (by decide))
  refine lv_aload_n hx hb dX5_value_24 rfl (lv_at hl 0 rfl) ?_
  refine lv_iconst (v := nI 1) hx hb dX5_value_25 (by decide) ?_
  refine kc_i (Cs := [mW cy ra (kEn X, T)]) (Rs := []) (Bs := [mW cy ra (kEn X, T)]) (Cs' := fun u_ : Unit => [mW cy ra ((kEn X), (T.1, T.2.1, T.2.2.1, (nI 1), T.2.2.2.2))]) (Fs := fun u_ : Unit => [mW cy ra ((kEn X), (T.1, T.2.1, T.2.2.1, (nI 1), T.2.2.2.2))]) hP hD hS hA [0] [] [0] rfl rfl (by decide) (by decide) (fun _ => rfl) (va_runV (As := [.int (nI 1)]) (rest := []) ⟨hx, hb, hml, hown, hts⟩ (c_X5_throwing l D cy ra (kEn X) T (nI 1) H.size) (cwV 1 hts gX5_value_X5_throwing rfl rfl rfl (by decide +kernel) ⟨Nat.le_of_ble_eq_true rfl, Nat.le_of_ble_eq_true rfl⟩) (kPre_V (ci := 5) hK hN hP hD [0] (by decide) rfl 0 rfl rfl) rfl rfl hl.1 rfl (lv_room (Nat.le_of_ble_eq_true rfl)) dX5_value_26 ⟨Nat.le_of_ble_eq_true rfl, Nat.le_of_ble_eq_true rfl⟩) (fun r_ u_ H locs hw hP hD hS => ?_)
  have hw : r_ = nI 0 := hw
  subst hw
  exact kr_i (post := fun r_ (u_ : Unit) => r_ = nI 0) (Bs := fun u_ : Unit => [mW cy ra (kEn X, (T.1, T.2.1, T.2.2.1, nI 1, T.2.2.2.2))]) hx hb hr hlocks rfl () hP hK hD hS rfl dX5_value_29 hQ
abbrev rm_X5_shoesOf_l : Room := { frames := 3, cells := 0, slots := 0, locals := 67 }
set_option maxHeartbeats 1000000 in
set_option maxRecDepth 100000 in
/-- shoesOf -/
theorem c_X5_shoesOf_l (l : Launch) (D : va_G) (cy : Nat → ClassId) (ra : Nat → Nat) (X : rS) (T : rV) (z : Nat) (x : Int32) (hx0 : ¬ x = 0) (hk : kOkR X) (hz1 : 1 ≤ z) (hz : z ≤ 9) (sz : Nat) : Met l yX5_shoesOf wsX5_shoesOf rm_X5_shoesOf_l (va_Pc [.ref (ra 0), .int (nI z), .int x] (kPre D (kT cy) [mW cy ra (kEn X, T)] sz)) (va_Qi (fun r_ (u_ : (Nat → Int32) × (Nat → Int32) × (Nat → Int32)) => r_ = kLf X.2.2.2.1.1 X.2.1 X.2.2.1 z) (kFr D (kT cy) [mW cy ra (kEn X, T)] sz (fun u_ : (Nat → Int32) × (Nat → Int32) × (Nat → Int32) => [mW cy ra (kEn X, (T.1, T.2.1, T.2.2.1, T.2.2.2.1, u_.1, u_.2.1, u_.2.2, T.2.2.2.2.2.2.2))])) (va_A (bkF [mW cy ra (kEn X, T)]) sz)) 0 0 (va_A (bkF [mW cy ra (kEn X, T)]) sz) := by
  refine kOpen (y := yX5_shoesOf) (ws := wsX5_shoesOf) (cc := cX5_shoesOf) (maxL := 4) (ret := (some .int)) (av := [.ref (ra 0), .int (nI z), .int x]) (Bs := [mW cy ra (kEn X, T)]) (Qc := fun A => (va_Qi (fun r_ (u_ : (Nat → Int32) × (Nat → Int32) × (Nat → Int32)) => r_ = kLf X.2.2.2.1.1 X.2.1 X.2.2.1 z) (fun (u_ : (Nat → Int32) × (Nat → Int32) × (Nat → Int32)) t9 => kEnd D (kT cy) A [mW cy ra (kEn X, (T.1, T.2.1, T.2.2.1, T.2.2.2.1, u_.1, u_.2.1, u_.2.2, T.2.2.2.2.2.2.2))] t9) A)) (by decide) rfl (Nat.le_of_ble_eq_true rfl) ?_
  intro p e s m args below meth c A Q ls hQ hx hb hml hr hlocks hin hts hown hN hK hP hD hS hA hsz hAe hl
  clear hAe
  have hl : lv_has ls 4 [(0, .ref (ra 0)), (1, .int (nI z)), (2, .int x)] := hl
  suffices K9 : ∀ (H : Heap) (locs : List Loc), va_P D vwCl (bkF [mW cy ra (kEn X, T)]) H → va_S A s.heap H locs → W p l e (headSpec wsX5_shoesOf rm_X5_shoesOf_l).room s m args below meth c H locs 0 0 Q (F0 m 0 ls []) from K9 _ _ hP hS
  clear hP hS
  intro H locs hP hS
  refine lv_aload_n hx hb dX5_shoesOf_0 rfl (lv_at hl 0 rfl) ?_
  refine kc_i (Cs := [mW cy ra (kEn X, T)]) (Rs := []) (Bs := [mW cy ra (kEn X, T)]) (Cs' := fun u_ : Unit => [mW cy ra (kEn X, (T.1, T.2.1, T.2.2.1, T.2.2.2.1, kLft T.2.2.2.2.1 X, kLnt X, kCan X, T.2.2.2.2.2.2.2))]) (Fs := fun u_ : Unit => [mW cy ra (kEn X, (T.1, T.2.1, T.2.2.1, T.2.2.2.1, kLft T.2.2.2.2.1 X, kLnt X, kCan X, T.2.2.2.2.2.2.2))]) hP hD hS hA [0] [] [0] rfl rfl (by decide) (by decide) (fun _ => rfl) (va_runV (As := []) (rest := []) ⟨hx, hb, hml, hown, hts⟩ (c_X5_lends l D cy ra X T (by first | assumption | omega | decide) H.size) (cwV 0 hts gX5_shoesOf_X5_lends rfl rfl rfl (by decide +kernel) ⟨Nat.le_of_ble_eq_true rfl, Nat.le_of_ble_eq_true rfl⟩) (kPre_V (ci := 5) hK hN hP hD [0] (by decide) rfl 0 rfl rfl) rfl rfl hl.1 rfl (lv_room (Nat.le_of_ble_eq_true rfl)) dX5_shoesOf_1 ⟨Nat.le_of_ble_eq_true rfl, Nat.le_of_ble_eq_true rfl⟩) (fun r_ u_ H locs hw hP hD hS => ?_)
  have hw : r_ = nI (kRc X.2.2.2.1.1 X.2.1 X.2.2.1 0) := hw
  subst hw
  refine lv_istore_n (lv' := [(3, .int (nI (kRc X.2.2.2.1.1 X.2.1 X.2.2.1 0))), (0, .ref (ra 0)), (1, .int (nI z)), (2, .int x)]) hx hb dX5_shoesOf_4 rfl hl (by decide) rfl (fun ls hl => ?_)
  refine lv_iload_n hx hb dX5_shoesOf_5 rfl (lv_at hl 3 rfl) ?_
  refine lv_if_eq (tgt := 22) hx hb dX5_shoesOf_6 (by decide) (fun c_6 => False.elim ?_) (fun c_6 => ?_)
  · skip
    exact hx0 c_6
  · skip
    refine lv_iload_n hx hb dX5_shoesOf_9 rfl (lv_at hl 0 rfl) ?_
    have hrc := kRc_r hk
    refine lv_if_lt (tgt := 22) hx hb dX5_shoesOf_10 (by decide) (fun c_10 => False.elim ?_) (fun c_10 => ?_)
    · skip
      have c_10 : (kRc X.2.2.2.1.1 X.2.1 X.2.2.1 0) < 0 := (nI_ltI (a := kRc X.2.2.2.1.1 X.2.1 X.2.2.1 0) (b := 0) (by omega) (by omega)).mp c_10
      omega
    · skip
      have c_10 : ¬ ((kRc X.2.2.2.1.1 X.2.1 X.2.2.1 0) < 0) := fun h => c_10 ((nI_ltI (a := kRc X.2.2.2.1.1 X.2.1 X.2.2.1 0) (b := 0) (by omega) (by omega)).mpr h)
      refine lv_aload_n hx hb dX5_shoesOf_13 rfl (lv_at hl 1 rfl) ?_
      refine va_get (D := D) (ci := 5) (v := .ref (ra 4)) (C := RX5) (T := TX5) (N := 16) hx hb hts (by decide +kernel) hown hK hP 0 rfl rfl 5 (by decide) (hts (.fieldLink RX5 19 "DanceHallModel" "left" "[I") (by decide +kernel)) (fun _ h9 => h9) rfl dX5_shoesOf_14 ?_
      refine lv_iload_n hx hb dX5_shoesOf_17 rfl (lv_at hl 2 rfl) ?_
      refine va_iald hx hb hK hP 4 0 rfl rfl (vp_in_nI (n := z) (N := 11) (by omega) (by omega)) dX5_shoesOf_18 ?_
      refine kv_i (y := kLf X.2.2.2.1.1 X.2.1 X.2.2.1 z) (by rw [nI_clamp (n := z) (by omega)]; exact (kLft_z hz1 hz)) ?_
      refine lv_goto (tgt := 33) hx hb dX5_shoesOf_19 (by decide) ?_
      exact kr_i (post := fun r_ (u_ : (Nat → Int32) × (Nat → Int32) × (Nat → Int32)) => r_ = kLf X.2.2.2.1.1 X.2.1 X.2.2.1 z) (Bs := fun u_ : (Nat → Int32) × (Nat → Int32) × (Nat → Int32) => [mW cy ra (kEn X, (T.1, T.2.1, T.2.2.1, T.2.2.2.1, u_.1, u_.2.1, u_.2.2, T.2.2.2.2.2.2.2))]) hx hb hr hlocks rfl (kLft T.2.2.2.2.1 X, kLnt X, kCan X) hP hK hD hS rfl dX5_shoesOf_33 hQ
abbrev rm_X5_shoes_l : Room := { frames := 4, cells := 0, slots := 0, locals := 90 }
set_option maxHeartbeats 1000000 in
set_option maxRecDepth 100000 in
/-- shoes -/
theorem c_X5_shoes_l (l : Launch) (D : va_G) (cy : Nat → ClassId) (ra : Nat → Nat) (X : rS) (T : rV) (z : Nat) (x : Int32) (hx0 : ¬ x = 0) (hk : kOkR X) (hz1 : 1 ≤ z) (hz : z ≤ 9) (sz : Nat) : Met l yX5_shoes wsX5_shoes rm_X5_shoes_l (va_Pc [.ref (ra 0), .int (nI z), .int x] (kPre D (kT cy) [mW cy ra (kEn X, T)] sz)) (va_Qi (fun r_ (u_ : (Nat → Int32) × (Nat → Int32) × (Nat → Int32)) => r_ = kLf X.2.2.2.1.1 X.2.1 X.2.2.1 z) (kFr D (kT cy) [mW cy ra (kEn X, T)] sz (fun u_ : (Nat → Int32) × (Nat → Int32) × (Nat → Int32) => [mW cy ra (kEn X, (T.1, T.2.1, T.2.2.1, nI 0, u_.1, u_.2.1, u_.2.2, T.2.2.2.2.2.2.2))])) (va_A (bkF [mW cy ra (kEn X, T)]) sz)) 0 0 (va_A (bkF [mW cy ra (kEn X, T)]) sz) := by
  refine kOpen (y := yX5_shoes) (ws := wsX5_shoes) (cc := cX5_shoes) (maxL := 3) (ret := (some .int)) (av := [.ref (ra 0), .int (nI z), .int x]) (Bs := [mW cy ra (kEn X, T)]) (Qc := fun A => (va_Qi (fun r_ (u_ : (Nat → Int32) × (Nat → Int32) × (Nat → Int32)) => r_ = kLf X.2.2.2.1.1 X.2.1 X.2.2.1 z) (fun (u_ : (Nat → Int32) × (Nat → Int32) × (Nat → Int32)) t9 => kEnd D (kT cy) A [mW cy ra (kEn X, (T.1, T.2.1, T.2.2.1, nI 0, u_.1, u_.2.1, u_.2.2, T.2.2.2.2.2.2.2))] t9) A)) (by decide) rfl (Nat.le_of_ble_eq_true rfl) ?_
  intro p e s m args below meth c A Q ls hQ hx hb hml hr hlocks hin hts hown hN hK hP hD hS hA hsz hAe hl
  clear hAe
  have hl : lv_has ls 3 [(0, .ref (ra 0)), (1, .int (nI z)), (2, .int x)] := hl
  suffices K9 : ∀ (H : Heap) (locs : List Loc), va_P D vwCl (bkF [mW cy ra (kEn X, T)]) H → va_S A s.heap H locs → W p l e (headSpec wsX5_shoes rm_X5_shoes_l).room s m args below meth c H locs 0 0 Q (F0 m 0 ls []) from K9 _ _ hP hS
  clear hP hS
  intro H locs hP hS
  refine lv_iload_n hx hb dX5_shoes_0 rfl (lv_at hl 1 rfl) ?_
  refine lv_i2l (v := (nI z).toInt64) hx hb dX5_shoes_1 rfl ?_
  refine lv_lconst (v := 1) hx hb dX5_shoes_2 (by decide) ?_
  refine lv_ldc2 hx hb hown (hts (.constantLong RX5 69 (9)) (by decide +kernel)) dX5_shoes_3 ?_
  refine kc_i (Cs := []) (Rs := [mW cy ra (kEn X, T)]) (Bs := [mW cy ra (kEn X, T)]) (Cs' := fun u_ : Unit => []) (Fs := fun u_ : Unit => [mW cy ra (kEn X, T)]) hP hD hS hA [] [0] [0] rfl rfl (by decide) (by decide) (fun _ => rfl) (va_runS (As := [.long ((nI z).toInt64), .long 1, .long (9)]) (rest := []) ⟨hx, hb, hml, hown, hts⟩ (c_X5_in l D cy ((nI z).toInt64) 1 (9) H.size) (va_cwS 3 hts gX5_shoes_X5_in rfl rfl rfl (by decide +kernel) ⟨Nat.le_of_ble_eq_true rfl, Nat.le_of_ble_eq_true rfl⟩) (kPre_S hK hN hP hD [] (by decide) rfl) rfl rfl hl.1 rfl (lv_room (Nat.le_of_ble_eq_true rfl)) dX5_shoes_6 ⟨Nat.le_of_ble_eq_true rfl, Nat.le_of_ble_eq_true rfl⟩) (fun r_ u_ H locs hw hP hD hS => ?_)
  have hw : r_ = if kIn ((nI z).toInt64) 1 (9) then nI 1 else nI 0 := hw
  subst hw
  refine kv_i (y := nI 1) (if_pos ((kIn32 (y := nI 1) (z := nI 9) (by decide) (by decide)).mpr (kwin (by omega) (by omega) (by decide)))) ?_
  refine lv_if_eq (tgt := 25) hx hb dX5_shoes_9 (by decide) (fun h => absurd h (by decide)) (fun _ => ?_)
  refine lv_aload_n hx hb dX5_shoes_12 rfl (lv_at hl 0 rfl) ?_
  refine lv_aload_n hx hb dX5_shoes_13 rfl (lv_at hl 0 rfl) ?_
  refine lv_iload_n hx hb dX5_shoes_14 rfl (lv_at hl 1 rfl) ?_
  refine lv_iload_n hx hb dX5_shoes_15 rfl (lv_at hl 2 rfl) ?_
  refine kc_i (Cs := [mW cy ra (kEn X, T)]) (Rs := []) (Bs := [mW cy ra (kEn X, T)]) (Cs' := fun u_ : (Nat → Int32) × (Nat → Int32) × (Nat → Int32) => [mW cy ra (kEn X, (T.1, T.2.1, T.2.2.1, T.2.2.2.1, u_.1, u_.2.1, u_.2.2, T.2.2.2.2.2.2.2))]) (Fs := fun u_ : (Nat → Int32) × (Nat → Int32) × (Nat → Int32) => [mW cy ra (kEn X, (T.1, T.2.1, T.2.2.1, T.2.2.2.1, u_.1, u_.2.1, u_.2.2, T.2.2.2.2.2.2.2))]) hP hD hS hA [0] [] [0] rfl rfl (by decide) (by decide) (fun _ => rfl) (va_runV (As := [.int (nI z), .int x]) (rest := [.ref (ra 0)]) ⟨hx, hb, hml, hown, hts⟩ (c_X5_shoesOf_l l D cy ra X T z x hx0 hk (by first | assumption | omega | decide) (by first | assumption | omega | decide) H.size) (cwV 2 hts gX5_shoes_X5_shoesOf rfl rfl rfl (by decide +kernel) ⟨Nat.le_of_ble_eq_true rfl, Nat.le_of_ble_eq_true rfl⟩) (kPre_V (ci := 5) hK hN hP hD [0] (by decide) rfl 0 rfl rfl) rfl rfl hl.1 rfl (lv_room (Nat.le_of_ble_eq_true rfl)) dX5_shoes_16 ⟨Nat.le_of_ble_eq_true rfl, Nat.le_of_ble_eq_true rfl⟩) (fun r_ u_ H locs hw hP hD hS => ?_)
  obtain ⟨e5_16, e6_16, e7_16⟩ := u_
  have hP : va_P D vwCl (bkF [mW cy ra (kEn X, (T.1, T.2.1, T.2.2.1, T.2.2.2.1, e5_16, e6_16, e7_16, T.2.2.2.2.2.2.2))]) H := hP
  have hD : va_D A (bkF [mW cy ra (kEn X, (T.1, T.2.1, T.2.2.1, T.2.2.2.1, e5_16, e6_16, e7_16, T.2.2.2.2.2.2.2))]) := hD
  have hw : r_ = kLf X.2.2.2.1.1 X.2.1 X.2.2.1 z := hw
  subst hw
  refine kc_i (Cs := [mW cy ra (kEn X, (T.1, T.2.1, T.2.2.1, T.2.2.2.1, e5_16, e6_16, e7_16, T.2.2.2.2.2.2.2))]) (Rs := []) (Bs := [mW cy ra (kEn X, (T.1, T.2.1, T.2.2.1, T.2.2.2.1, e5_16, e6_16, e7_16, T.2.2.2.2.2.2.2))]) (Cs' := fun u_ : Unit => [mW cy ra ((kEn X), (T.1, T.2.1, T.2.2.1, nI 0, e5_16, e6_16, e7_16, T.2.2.2.2.2.2.2))]) (Fs := fun u_ : Unit => [mW cy ra ((kEn X), (T.1, T.2.1, T.2.2.1, nI 0, e5_16, e6_16, e7_16, T.2.2.2.2.2.2.2))]) hP hD hS hA [0] [] [0] rfl rfl (by decide) (by decide) (fun _ => rfl) (va_runV (As := [.int (kLf X.2.2.2.1.1 X.2.1 X.2.2.1 z)]) (rest := []) ⟨hx, hb, hml, hown, hts⟩ (c_X5_fine l D cy ra (kEn X) (T.1, T.2.1, T.2.2.1, T.2.2.2.1, e5_16, e6_16, e7_16, T.2.2.2.2.2.2.2) (kLf X.2.2.2.1.1 X.2.1 X.2.2.1 z) H.size) (cwV 1 hts gX5_shoes_X5_fine rfl rfl rfl (by decide +kernel) ⟨Nat.le_of_ble_eq_true rfl, Nat.le_of_ble_eq_true rfl⟩) (kPre_V (ci := 5) hK hN hP hD [0] (by decide) rfl 0 rfl rfl) rfl rfl hl.1 rfl (lv_room (Nat.le_of_ble_eq_true rfl)) dX5_shoes_19 ⟨Nat.le_of_ble_eq_true rfl, Nat.le_of_ble_eq_true rfl⟩) (fun r_ u_ H locs hw hP hD hS => ?_)
  have hw : r_ = (kLf X.2.2.2.1.1 X.2.1 X.2.2.1 z) := hw
  subst hw
  refine lv_goto (tgt := 30) hx hb dX5_shoes_22 (by decide) ?_
  exact kr_i (post := fun r_ (u_ : (Nat → Int32) × (Nat → Int32) × (Nat → Int32)) => r_ = kLf X.2.2.2.1.1 X.2.1 X.2.2.1 z) (Bs := fun u_ : (Nat → Int32) × (Nat → Int32) × (Nat → Int32) => [mW cy ra (kEn X, (T.1, T.2.1, T.2.2.1, nI 0, u_.1, u_.2.1, u_.2.2, T.2.2.2.2.2.2.2))]) hx hb hr hlocks rfl (e5_16, e6_16, e7_16) hP hK hD hS rfl dX5_shoes_30 hQ
abbrev rm_X5_shoesOf_p : Room := { frames := 3, cells := 0, slots := 0, locals := 67 }
set_option maxHeartbeats 1000000 in
set_option maxRecDepth 100000 in
/-- shoesOf -/
theorem c_X5_shoesOf_p (l : Launch) (D : va_G) (cy : Nat → ClassId) (ra : Nat → Nat) (X : rS) (T : rV) (z : Nat) (x : Int32) (hx0 : x = 0) (hk : kOkR X) (hz1 : 1 ≤ z) (hz : z ≤ 9) (sz : Nat) : Met l yX5_shoesOf wsX5_shoesOf rm_X5_shoesOf_p (va_Pc [.ref (ra 0), .int (nI z), .int x] (kPre D (kT cy) [mW cy ra (kEn X, T)] sz)) (va_Qi (fun r_ (u_ : (Nat → Int32) × (Nat → Int32) × (Nat → Int32)) => r_ = X.2.2.2.1.1 z) (kFr D (kT cy) [mW cy ra (kEn X, T)] sz (fun u_ : (Nat → Int32) × (Nat → Int32) × (Nat → Int32) => [mW cy ra (kEn X, (T.1, T.2.1, T.2.2.1, T.2.2.2.1, u_.1, u_.2.1, u_.2.2, T.2.2.2.2.2.2.2))])) (va_A (bkF [mW cy ra (kEn X, T)]) sz)) 0 0 (va_A (bkF [mW cy ra (kEn X, T)]) sz) := by
  refine kOpen (y := yX5_shoesOf) (ws := wsX5_shoesOf) (cc := cX5_shoesOf) (maxL := 4) (ret := (some .int)) (av := [.ref (ra 0), .int (nI z), .int x]) (Bs := [mW cy ra (kEn X, T)]) (Qc := fun A => (va_Qi (fun r_ (u_ : (Nat → Int32) × (Nat → Int32) × (Nat → Int32)) => r_ = X.2.2.2.1.1 z) (fun (u_ : (Nat → Int32) × (Nat → Int32) × (Nat → Int32)) t9 => kEnd D (kT cy) A [mW cy ra (kEn X, (T.1, T.2.1, T.2.2.1, T.2.2.2.1, u_.1, u_.2.1, u_.2.2, T.2.2.2.2.2.2.2))] t9) A)) (by decide) rfl (Nat.le_of_ble_eq_true rfl) ?_
  intro p e s m args below meth c A Q ls hQ hx hb hml hr hlocks hin hts hown hN hK hP hD hS hA hsz hAe hl
  clear hAe
  have hl : lv_has ls 4 [(0, .ref (ra 0)), (1, .int (nI z)), (2, .int x)] := hl
  suffices K9 : ∀ (H : Heap) (locs : List Loc), va_P D vwCl (bkF [mW cy ra (kEn X, T)]) H → va_S A s.heap H locs → W p l e (headSpec wsX5_shoesOf rm_X5_shoesOf_p).room s m args below meth c H locs 0 0 Q (F0 m 0 ls []) from K9 _ _ hP hS
  clear hP hS
  intro H locs hP hS
  refine lv_aload_n hx hb dX5_shoesOf_0 rfl (lv_at hl 0 rfl) ?_
  refine kc_i (Cs := [mW cy ra (kEn X, T)]) (Rs := []) (Bs := [mW cy ra (kEn X, T)]) (Cs' := fun u_ : Unit => [mW cy ra (kEn X, (T.1, T.2.1, T.2.2.1, T.2.2.2.1, kLft T.2.2.2.2.1 X, kLnt X, kCan X, T.2.2.2.2.2.2.2))]) (Fs := fun u_ : Unit => [mW cy ra (kEn X, (T.1, T.2.1, T.2.2.1, T.2.2.2.1, kLft T.2.2.2.2.1 X, kLnt X, kCan X, T.2.2.2.2.2.2.2))]) hP hD hS hA [0] [] [0] rfl rfl (by decide) (by decide) (fun _ => rfl) (va_runV (As := []) (rest := []) ⟨hx, hb, hml, hown, hts⟩ (c_X5_lends l D cy ra X T (by first | assumption | omega | decide) H.size) (cwV 0 hts gX5_shoesOf_X5_lends rfl rfl rfl (by decide +kernel) ⟨Nat.le_of_ble_eq_true rfl, Nat.le_of_ble_eq_true rfl⟩) (kPre_V (ci := 5) hK hN hP hD [0] (by decide) rfl 0 rfl rfl) rfl rfl hl.1 rfl (lv_room (Nat.le_of_ble_eq_true rfl)) dX5_shoesOf_1 ⟨Nat.le_of_ble_eq_true rfl, Nat.le_of_ble_eq_true rfl⟩) (fun r_ u_ H locs hw hP hD hS => ?_)
  have hw : r_ = nI (kRc X.2.2.2.1.1 X.2.1 X.2.2.1 0) := hw
  subst hw
  refine lv_istore_n (lv' := [(3, .int (nI (kRc X.2.2.2.1.1 X.2.1 X.2.2.1 0))), (0, .ref (ra 0)), (1, .int (nI z)), (2, .int x)]) hx hb dX5_shoesOf_4 rfl hl (by decide) rfl (fun ls hl => ?_)
  refine lv_iload_n hx hb dX5_shoesOf_5 rfl (lv_at hl 3 rfl) ?_
  refine lv_if_eq (tgt := 22) hx hb dX5_shoesOf_6 (by decide) (fun c_6 => ?_) (fun c_6 => False.elim ?_)
  · skip
    refine lv_aload_n hx hb dX5_shoesOf_22 rfl (lv_at hl 1 rfl) ?_
    refine va_get (D := D) (ci := 5) (v := .ref (ra 1)) (C := RX5) (T := TX5) (N := 16) hx hb hts (by decide +kernel) hown hK hP 0 rfl rfl 0 (by decide) (hts (.fieldLink RX5 7 "DanceHallModel" "all" "[I") (by decide +kernel)) (fun _ h9 => h9) rfl dX5_shoesOf_23 ?_
    refine lv_bipush (v := nI 11) hx hb dX5_shoesOf_26 (by decide) ?_
    refine lv_iload_n hx hb dX5_shoesOf_28 rfl (lv_at hl 2 rfl) ?_
    refine lv_iadd hx hb dX5_shoesOf_29 ?_
    refine kv_i (y := nI (11 + z)) (nI_add 11 z) ?_
    refine lv_iconst (v := nI 1) hx hb dX5_shoesOf_30 (by decide) ?_
    refine lv_isub hx hb dX5_shoesOf_31 ?_
    refine kv_i (y := nI (10 + z)) (by rw [pk_sub (by omega)]; exact congrArg nI (by omega)) ?_
    refine va_iald hx hb hK hP 1 0 rfl rfl (vp_in_nI (n := 10 + z) (N := 188) (by omega) (by omega)) dX5_shoesOf_32 ?_
    refine kv_i (y := X.2.2.2.1.1 z) (by rw [nI_clamp (n := 10 + z) (by omega)]; exact (kq_s hz1 hz)) ?_
    exact kr_i (post := fun r_ (u_ : (Nat → Int32) × (Nat → Int32) × (Nat → Int32)) => r_ = X.2.2.2.1.1 z) (Bs := fun u_ : (Nat → Int32) × (Nat → Int32) × (Nat → Int32) => [mW cy ra (kEn X, (T.1, T.2.1, T.2.2.1, T.2.2.2.1, u_.1, u_.2.1, u_.2.2, T.2.2.2.2.2.2.2))]) hx hb hr hlocks rfl (kLft T.2.2.2.2.1 X, kLnt X, kCan X) hP hK hD hS rfl dX5_shoesOf_33 hQ
  · skip
    exact c_6 hx0
abbrev rm_X5_shoes_p : Room := { frames := 4, cells := 0, slots := 0, locals := 90 }
set_option maxHeartbeats 1000000 in
set_option maxRecDepth 100000 in
/-- shoes -/
theorem c_X5_shoes_p (l : Launch) (D : va_G) (cy : Nat → ClassId) (ra : Nat → Nat) (X : rS) (T : rV) (z : Nat) (x : Int32) (hx0 : x = 0) (hk : kOkR X) (hz1 : 1 ≤ z) (hz : z ≤ 9) (sz : Nat) : Met l yX5_shoes wsX5_shoes rm_X5_shoes_p (va_Pc [.ref (ra 0), .int (nI z), .int x] (kPre D (kT cy) [mW cy ra (kEn X, T)] sz)) (va_Qi (fun r_ (u_ : (Nat → Int32) × (Nat → Int32) × (Nat → Int32)) => r_ = X.2.2.2.1.1 z) (kFr D (kT cy) [mW cy ra (kEn X, T)] sz (fun u_ : (Nat → Int32) × (Nat → Int32) × (Nat → Int32) => [mW cy ra (kEn X, (T.1, T.2.1, T.2.2.1, nI 0, u_.1, u_.2.1, u_.2.2, T.2.2.2.2.2.2.2))])) (va_A (bkF [mW cy ra (kEn X, T)]) sz)) 0 0 (va_A (bkF [mW cy ra (kEn X, T)]) sz) := by
  refine kOpen (y := yX5_shoes) (ws := wsX5_shoes) (cc := cX5_shoes) (maxL := 3) (ret := (some .int)) (av := [.ref (ra 0), .int (nI z), .int x]) (Bs := [mW cy ra (kEn X, T)]) (Qc := fun A => (va_Qi (fun r_ (u_ : (Nat → Int32) × (Nat → Int32) × (Nat → Int32)) => r_ = X.2.2.2.1.1 z) (fun (u_ : (Nat → Int32) × (Nat → Int32) × (Nat → Int32)) t9 => kEnd D (kT cy) A [mW cy ra (kEn X, (T.1, T.2.1, T.2.2.1, nI 0, u_.1, u_.2.1, u_.2.2, T.2.2.2.2.2.2.2))] t9) A)) (by decide) rfl (Nat.le_of_ble_eq_true rfl) ?_
  intro p e s m args below meth c A Q ls hQ hx hb hml hr hlocks hin hts hown hN hK hP hD hS hA hsz hAe hl
  clear hAe
  have hl : lv_has ls 3 [(0, .ref (ra 0)), (1, .int (nI z)), (2, .int x)] := hl
  suffices K9 : ∀ (H : Heap) (locs : List Loc), va_P D vwCl (bkF [mW cy ra (kEn X, T)]) H → va_S A s.heap H locs → W p l e (headSpec wsX5_shoes rm_X5_shoes_p).room s m args below meth c H locs 0 0 Q (F0 m 0 ls []) from K9 _ _ hP hS
  clear hP hS
  intro H locs hP hS
  refine lv_iload_n hx hb dX5_shoes_0 rfl (lv_at hl 1 rfl) ?_
  refine lv_i2l (v := (nI z).toInt64) hx hb dX5_shoes_1 rfl ?_
  refine lv_lconst (v := 1) hx hb dX5_shoes_2 (by decide) ?_
  refine lv_ldc2 hx hb hown (hts (.constantLong RX5 69 (9)) (by decide +kernel)) dX5_shoes_3 ?_
  refine kc_i (Cs := []) (Rs := [mW cy ra (kEn X, T)]) (Bs := [mW cy ra (kEn X, T)]) (Cs' := fun u_ : Unit => []) (Fs := fun u_ : Unit => [mW cy ra (kEn X, T)]) hP hD hS hA [] [0] [0] rfl rfl (by decide) (by decide) (fun _ => rfl) (va_runS (As := [.long ((nI z).toInt64), .long 1, .long (9)]) (rest := []) ⟨hx, hb, hml, hown, hts⟩ (c_X5_in l D cy ((nI z).toInt64) 1 (9) H.size) (va_cwS 3 hts gX5_shoes_X5_in rfl rfl rfl (by decide +kernel) ⟨Nat.le_of_ble_eq_true rfl, Nat.le_of_ble_eq_true rfl⟩) (kPre_S hK hN hP hD [] (by decide) rfl) rfl rfl hl.1 rfl (lv_room (Nat.le_of_ble_eq_true rfl)) dX5_shoes_6 ⟨Nat.le_of_ble_eq_true rfl, Nat.le_of_ble_eq_true rfl⟩) (fun r_ u_ H locs hw hP hD hS => ?_)
  have hw : r_ = if kIn ((nI z).toInt64) 1 (9) then nI 1 else nI 0 := hw
  subst hw
  refine kv_i (y := nI 1) (if_pos ((kIn32 (y := nI 1) (z := nI 9) (by decide) (by decide)).mpr (kwin (by omega) (by omega) (by decide)))) ?_
  refine lv_if_eq (tgt := 25) hx hb dX5_shoes_9 (by decide) (fun h => absurd h (by decide)) (fun _ => ?_)
  refine lv_aload_n hx hb dX5_shoes_12 rfl (lv_at hl 0 rfl) ?_
  refine lv_aload_n hx hb dX5_shoes_13 rfl (lv_at hl 0 rfl) ?_
  refine lv_iload_n hx hb dX5_shoes_14 rfl (lv_at hl 1 rfl) ?_
  refine lv_iload_n hx hb dX5_shoes_15 rfl (lv_at hl 2 rfl) ?_
  refine kc_i (Cs := [mW cy ra (kEn X, T)]) (Rs := []) (Bs := [mW cy ra (kEn X, T)]) (Cs' := fun u_ : (Nat → Int32) × (Nat → Int32) × (Nat → Int32) => [mW cy ra (kEn X, (T.1, T.2.1, T.2.2.1, T.2.2.2.1, u_.1, u_.2.1, u_.2.2, T.2.2.2.2.2.2.2))]) (Fs := fun u_ : (Nat → Int32) × (Nat → Int32) × (Nat → Int32) => [mW cy ra (kEn X, (T.1, T.2.1, T.2.2.1, T.2.2.2.1, u_.1, u_.2.1, u_.2.2, T.2.2.2.2.2.2.2))]) hP hD hS hA [0] [] [0] rfl rfl (by decide) (by decide) (fun _ => rfl) (va_runV (As := [.int (nI z), .int x]) (rest := [.ref (ra 0)]) ⟨hx, hb, hml, hown, hts⟩ (c_X5_shoesOf_p l D cy ra X T z x hx0 hk (by first | assumption | omega | decide) (by first | assumption | omega | decide) H.size) (cwV 2 hts gX5_shoes_X5_shoesOf rfl rfl rfl (by decide +kernel) ⟨Nat.le_of_ble_eq_true rfl, Nat.le_of_ble_eq_true rfl⟩) (kPre_V (ci := 5) hK hN hP hD [0] (by decide) rfl 0 rfl rfl) rfl rfl hl.1 rfl (lv_room (Nat.le_of_ble_eq_true rfl)) dX5_shoes_16 ⟨Nat.le_of_ble_eq_true rfl, Nat.le_of_ble_eq_true rfl⟩) (fun r_ u_ H locs hw hP hD hS => ?_)
  obtain ⟨e5_16, e6_16, e7_16⟩ := u_
  have hP : va_P D vwCl (bkF [mW cy ra (kEn X, (T.1, T.2.1, T.2.2.1, T.2.2.2.1, e5_16, e6_16, e7_16, T.2.2.2.2.2.2.2))]) H := hP
  have hD : va_D A (bkF [mW cy ra (kEn X, (T.1, T.2.1, T.2.2.1, T.2.2.2.1, e5_16, e6_16, e7_16, T.2.2.2.2.2.2.2))]) := hD
  have hw : r_ = X.2.2.2.1.1 z := hw
  subst hw
  refine kc_i (Cs := [mW cy ra (kEn X, (T.1, T.2.1, T.2.2.1, T.2.2.2.1, e5_16, e6_16, e7_16, T.2.2.2.2.2.2.2))]) (Rs := []) (Bs := [mW cy ra (kEn X, (T.1, T.2.1, T.2.2.1, T.2.2.2.1, e5_16, e6_16, e7_16, T.2.2.2.2.2.2.2))]) (Cs' := fun u_ : Unit => [mW cy ra ((kEn X), (T.1, T.2.1, T.2.2.1, nI 0, e5_16, e6_16, e7_16, T.2.2.2.2.2.2.2))]) (Fs := fun u_ : Unit => [mW cy ra ((kEn X), (T.1, T.2.1, T.2.2.1, nI 0, e5_16, e6_16, e7_16, T.2.2.2.2.2.2.2))]) hP hD hS hA [0] [] [0] rfl rfl (by decide) (by decide) (fun _ => rfl) (va_runV (As := [.int (X.2.2.2.1.1 z)]) (rest := []) ⟨hx, hb, hml, hown, hts⟩ (c_X5_fine l D cy ra (kEn X) (T.1, T.2.1, T.2.2.1, T.2.2.2.1, e5_16, e6_16, e7_16, T.2.2.2.2.2.2.2) (X.2.2.2.1.1 z) H.size) (cwV 1 hts gX5_shoes_X5_fine rfl rfl rfl (by decide +kernel) ⟨Nat.le_of_ble_eq_true rfl, Nat.le_of_ble_eq_true rfl⟩) (kPre_V (ci := 5) hK hN hP hD [0] (by decide) rfl 0 rfl rfl) rfl rfl hl.1 rfl (lv_room (Nat.le_of_ble_eq_true rfl)) dX5_shoes_19 ⟨Nat.le_of_ble_eq_true rfl, Nat.le_of_ble_eq_true rfl⟩) (fun r_ u_ H locs hw hP hD hS => ?_)
  have hw : r_ = (X.2.2.2.1.1 z) := hw
  subst hw
  refine lv_goto (tgt := 30) hx hb dX5_shoes_22 (by decide) ?_
  exact kr_i (post := fun r_ (u_ : (Nat → Int32) × (Nat → Int32) × (Nat → Int32)) => r_ = X.2.2.2.1.1 z) (Bs := fun u_ : (Nat → Int32) × (Nat → Int32) × (Nat → Int32) => [mW cy ra (kEn X, (T.1, T.2.1, T.2.2.1, nI 0, u_.1, u_.2.1, u_.2.2, T.2.2.2.2.2.2.2))]) hx hb hr hlocks rfl (e5_16, e6_16, e7_16) hP hK hD hS rfl dX5_shoes_30 hQ
abbrev rm_X5_shoes_i : Room := { frames := 1, cells := 0, slots := 0, locals := 25 }
set_option maxHeartbeats 1000000 in
set_option maxRecDepth 100000 in
/-- shoes, no size -/
theorem c_X5_shoes_i (l : Launch) (D : va_G) (cy : Nat → ClassId) (ra : Nat → Nat) (X : rS) (T : rV) (z : Int32) (x : Int32) (hbad : ¬ (¬ z < nI 1 ∧ ¬ nI 9 < z)) (sz : Nat) : Met l yX5_shoes wsX5_shoes rm_X5_shoes_i (va_Pc [.ref (ra 0), .int z, .int x] (kPre D (kT cy) [mW cy ra (kEn X, T)] sz)) (va_Qi (fun r_ (u_ : Unit) => r_ = nI 0) (kFr D (kT cy) [mW cy ra (kEn X, T)] sz (fun u_ : Unit => [mW cy ra (kEn X, (T.1, T.2.1, T.2.2.1, nI 1, T.2.2.2.2))])) (va_A (bkF [mW cy ra (kEn X, T)]) sz)) 0 0 (va_A (bkF [mW cy ra (kEn X, T)]) sz) := by
  refine kOpen (y := yX5_shoes) (ws := wsX5_shoes) (cc := cX5_shoes) (maxL := 3) (ret := (some .int)) (av := [.ref (ra 0), .int z, .int x]) (Bs := [mW cy ra (kEn X, T)]) (Qc := fun A => (va_Qi (fun r_ (u_ : Unit) => r_ = nI 0) (fun (u_ : Unit) t9 => kEnd D (kT cy) A [mW cy ra (kEn X, (T.1, T.2.1, T.2.2.1, nI 1, T.2.2.2.2))] t9) A)) (by decide) rfl (Nat.le_of_ble_eq_true rfl) ?_
  intro p e s m args below meth c A Q ls hQ hx hb hml hr hlocks hin hts hown hN hK hP hD hS hA hsz hAe hl
  clear hAe
  have hl : lv_has ls 3 [(0, .ref (ra 0)), (1, .int z), (2, .int x)] := hl
  suffices K9 : ∀ (H : Heap) (locs : List Loc), va_P D vwCl (bkF [mW cy ra (kEn X, T)]) H → va_S A s.heap H locs → W p l e (headSpec wsX5_shoes rm_X5_shoes_i).room s m args below meth c H locs 0 0 Q (F0 m 0 ls []) from K9 _ _ hP hS
  clear hP hS
  intro H locs hP hS
  refine lv_iload_n hx hb dX5_shoes_0 rfl (lv_at hl 1 rfl) ?_
  refine lv_i2l (v := z.toInt64) hx hb dX5_shoes_1 rfl ?_
  refine lv_lconst (v := 1) hx hb dX5_shoes_2 (by decide) ?_
  refine lv_ldc2 hx hb hown (hts (.constantLong RX5 69 (9)) (by decide +kernel)) dX5_shoes_3 ?_
  refine kc_i (Cs := []) (Rs := [mW cy ra (kEn X, T)]) (Bs := [mW cy ra (kEn X, T)]) (Cs' := fun u_ : Unit => []) (Fs := fun u_ : Unit => [mW cy ra (kEn X, T)]) hP hD hS hA [] [0] [0] rfl rfl (by decide) (by decide) (fun _ => rfl) (va_runS (As := [.long z.toInt64, .long 1, .long (9)]) (rest := []) ⟨hx, hb, hml, hown, hts⟩ (c_X5_in l D cy z.toInt64 1 (9) H.size) (va_cwS 3 hts gX5_shoes_X5_in rfl rfl rfl (by decide +kernel) ⟨Nat.le_of_ble_eq_true rfl, Nat.le_of_ble_eq_true rfl⟩) (kPre_S hK hN hP hD [] (by decide) rfl) rfl rfl hl.1 rfl (lv_room (Nat.le_of_ble_eq_true rfl)) dX5_shoes_6 ⟨Nat.le_of_ble_eq_true rfl, Nat.le_of_ble_eq_true rfl⟩) (fun r_ u_ H locs hw hP hD hS => ?_)
  have hw : r_ = if kIn z.toInt64 1 (9) then nI 1 else nI 0 := hw
  subst hw
  refine kv_i (y := nI 0) (if_neg (fun h => hbad ((kIn32 (y := nI 1) (z := nI 9) (by decide) (by decide)).mp h))) ?_
  refine lv_if_eq (tgt := 25) hx hb dX5_shoes_9 (by decide) (fun _ => ?_) (fun h => absurd h (by decide))
  refine lv_aload_n hx hb dX5_shoes_25 rfl (lv_at hl 0 rfl) ?_
  refine lv_iconst (v := nI 1) hx hb dX5_shoes_26 (by decide) ?_
  refine kc_i (Cs := [mW cy ra (kEn X, T)]) (Rs := []) (Bs := [mW cy ra (kEn X, T)]) (Cs' := fun u_ : Unit => [mW cy ra ((kEn X), (T.1, T.2.1, T.2.2.1, (nI 1), T.2.2.2.2))]) (Fs := fun u_ : Unit => [mW cy ra ((kEn X), (T.1, T.2.1, T.2.2.1, (nI 1), T.2.2.2.2))]) hP hD hS hA [0] [] [0] rfl rfl (by decide) (by decide) (fun _ => rfl) (va_runV (As := [.int (nI 1)]) (rest := []) ⟨hx, hb, hml, hown, hts⟩ (c_X5_throwing l D cy ra (kEn X) T (nI 1) H.size) (cwV 1 hts gX5_shoes_X5_throwing rfl rfl rfl (by decide +kernel) ⟨Nat.le_of_ble_eq_true rfl, Nat.le_of_ble_eq_true rfl⟩) (kPre_V (ci := 5) hK hN hP hD [0] (by decide) rfl 0 rfl rfl) rfl rfl hl.1 rfl (lv_room (Nat.le_of_ble_eq_true rfl)) dX5_shoes_27 ⟨Nat.le_of_ble_eq_true rfl, Nat.le_of_ble_eq_true rfl⟩) (fun r_ u_ H locs hw hP hD hS => ?_)
  have hw : r_ = nI 0 := hw
  subst hw
  exact kr_i (post := fun r_ (u_ : Unit) => r_ = nI 0) (Bs := fun u_ : Unit => [mW cy ra (kEn X, (T.1, T.2.1, T.2.2.1, nI 1, T.2.2.2.2))]) hx hb hr hlocks rfl () hP hK hD hS rfl dX5_shoes_30 hQ
abbrev rm_X5_fiddlerOf : Room := { frames := 2, cells := 0, slots := 0, locals := 45 }
set_option maxHeartbeats 1000000 in
set_option maxRecDepth 100000 in
/-- fiddlerOf -/
theorem c_X5_fiddlerOf (l : Launch) (D : va_G) (cy : Nat → ClassId) (ra : Nat → Nat) (X : rS) (T : rV) (f9 : Nat) (w : Nat) (hfn : X.1.2.2.2.1 ≤ 4) (hf1 : 1 ≤ X.1.2.2.2.1) (hfi : f9 < X.1.2.2.2.1) (hps : ¬ ksum X.2.2.2.1.2.1 X.1.2.2.2.1 ≤ 0) (hw2 : w ≤ 2) (sz : Nat) : Met l yX5_fiddlerOf wsX5_fiddlerOf rm_X5_fiddlerOf (va_Pc [.ref (ra 0), .int (nI f9), .int (nI w)] (kPre D (kT cy) [mW cy ra (kEn X, T)] sz)) (va_Qi (fun r_ (u_ : Unit) => r_ = kff X.1 X.2.2.2.1 f9 w) (kFr D (kT cy) [mW cy ra (kEn X, T)] sz (fun u_ : Unit => [mW cy ra (kEn X, T)])) (va_A (bkF [mW cy ra (kEn X, T)]) sz)) 0 0 (va_A (bkF [mW cy ra (kEn X, T)]) sz) := by
  refine kOpen (y := yX5_fiddlerOf) (ws := wsX5_fiddlerOf) (cc := cX5_fiddlerOf) (maxL := 3) (ret := (some .int)) (av := [.ref (ra 0), .int (nI f9), .int (nI w)]) (Bs := [mW cy ra (kEn X, T)]) (Qc := fun A => (va_Qi (fun r_ (u_ : Unit) => r_ = kff X.1 X.2.2.2.1 f9 w) (fun (u_ : Unit) t9 => kEnd D (kT cy) A [mW cy ra (kEn X, T)] t9) A)) (by decide) rfl (Nat.le_of_ble_eq_true rfl) ?_
  intro p e s m args below meth c A Q ls hQ hx hb hml hr hlocks hin hts hown hN hK hP hD hS hA hsz hAe hl
  clear hAe
  have hl : lv_has ls 3 [(0, .ref (ra 0)), (1, .int (nI f9)), (2, .int (nI w))] := hl
  suffices K9 : ∀ (H : Heap) (locs : List Loc), va_P D vwCl (bkF [mW cy ra (kEn X, T)]) H → va_S A s.heap H locs → W p l e (headSpec wsX5_fiddlerOf rm_X5_fiddlerOf).room s m args below meth c H locs 0 0 Q (F0 m 0 ls []) from K9 _ _ hP hS
  clear hP hS
  intro H locs hP hS
  refine lv_iload_n hx hb dX5_fiddlerOf_0 rfl (lv_at hl 2 rfl) ?_
  refine lv_if_ne (tgt := 16) hx hb dX5_fiddlerOf_1 (by decide) (fun c_1 => ?_) (fun c_1 => ?_)
  · skip
    have c_1 : ¬ (w = 0) := fun h => c_1 ((nI_eq (a := w) (b := 0) (by omega) (by omega)).mpr h)
    refine lv_iload_n hx hb dX5_fiddlerOf_16 rfl (lv_at hl 2 rfl) ?_
    refine lv_iconst (v := nI 1) hx hb dX5_fiddlerOf_17 (by decide) ?_
    refine lv_icmp_ne (tgt := 33) hx hb dX5_fiddlerOf_18 (by decide) (fun c_18 => ?_) (fun c_18 => ?_)
    · skip
      have c_18 : ¬ (w = 1) := fun h => c_18 ((nI_eq (a := w) (b := 1) (by omega) (by omega)).mpr h)
      refine lv_aload_n hx hb dX5_fiddlerOf_33 rfl (lv_at hl 0 rfl) ?_
      refine lv_iload_n hx hb dX5_fiddlerOf_34 rfl (lv_at hl 1 rfl) ?_
      refine kc_i (Cs := [mW cy ra (kEn X, T)]) (Rs := []) (Bs := [mW cy ra (kEn X, T)]) (Cs' := fun u_ : Unit => [mW cy ra (kEn X, T)]) (Fs := fun u_ : Unit => [mW cy ra (kEn X, T)]) hP hD hS hA [0] [] [0] rfl rfl (by decide) (by decide) (fun _ => rfl) (va_runV (As := [.int (nI f9)]) (rest := []) ⟨hx, hb, hml, hown, hts⟩ (c_X5_share l D cy ra X T f9 (by first | assumption | omega | decide) (by first | assumption | omega | decide) (by first | assumption | omega | decide) hps H.size) (cwV 1 hts gX5_fiddlerOf_X5_share rfl rfl rfl (by decide +kernel) ⟨Nat.le_of_ble_eq_true rfl, Nat.le_of_ble_eq_true rfl⟩) (kPre_V (ci := 5) hK hN hP hD [0] (by decide) rfl 0 rfl rfl) rfl rfl hl.1 rfl (lv_room (Nat.le_of_ble_eq_true rfl)) dX5_fiddlerOf_35 ⟨Nat.le_of_ble_eq_true rfl, Nat.le_of_ble_eq_true rfl⟩) (fun r_ u_ H locs hw hP hD hS => ?_)
      have hw : r_ = kcutA X.1.2.2.2.2.1 X.2.2.2.1.2.1 X.1.2.2.2.1 f9 := hw
      subst hw
      exact kr_i (post := fun r_ (u_ : Unit) => r_ = kff X.1 X.2.2.2.1 f9 w) (Bs := fun u_ : Unit => [mW cy ra (kEn X, T)]) hx hb hr hlocks rfl () hP hK hD hS (by rw [show w = 2 from by omega]; rfl) dX5_fiddlerOf_38 hQ
    · skip
      have c_18 : w = 1 := (nI_eq (a := w) (b := 1) (by omega) (by omega)).mp c_18
      refine lv_aload_n hx hb dX5_fiddlerOf_21 rfl (lv_at hl 0 rfl) ?_
      refine va_get (D := D) (ci := 5) (v := .ref (ra 1)) (C := RX5) (T := TX5) (N := 16) hx hb hts (by decide +kernel) hown hK hP 0 rfl rfl 0 (by decide) (hts (.fieldLink RX5 7 "DanceHallModel" "all" "[I") (by decide +kernel)) (fun _ h9 => h9) rfl dX5_fiddlerOf_22 ?_
      refine lv_bipush (v := nI 24) hx hb dX5_fiddlerOf_25 (by decide) ?_
      refine lv_iload_n hx hb dX5_fiddlerOf_27 rfl (lv_at hl 1 rfl) ?_
      refine lv_iadd hx hb dX5_fiddlerOf_28 ?_
      refine kv_i (y := nI (24 + f9)) (nI_add 24 f9) ?_
      refine va_iald hx hb hK hP 1 0 rfl rfl (vp_in_nI (n := 24 + f9) (N := 188) (by omega) (by omega)) dX5_fiddlerOf_29 ?_
      refine kv_i (y := X.2.2.2.1.2.2 f9) (by rw [nI_clamp (n := 24 + f9) (by omega)]; exact (kq_g (by omega))) ?_
      refine lv_goto (tgt := 38) hx hb dX5_fiddlerOf_30 (by decide) ?_
      exact kr_i (post := fun r_ (u_ : Unit) => r_ = kff X.1 X.2.2.2.1 f9 w) (Bs := fun u_ : Unit => [mW cy ra (kEn X, T)]) hx hb hr hlocks rfl () hP hK hD hS (by rw [c_18]; rfl) dX5_fiddlerOf_38 hQ
  · skip
    have c_1 : w = 0 := (nI_eq (a := w) (b := 0) (by omega) (by omega)).mp c_1
    refine lv_aload_n hx hb dX5_fiddlerOf_4 rfl (lv_at hl 0 rfl) ?_
    refine va_get (D := D) (ci := 5) (v := .ref (ra 1)) (C := RX5) (T := TX5) (N := 16) hx hb hts (by decide +kernel) hown hK hP 0 rfl rfl 0 (by decide) (hts (.fieldLink RX5 7 "DanceHallModel" "all" "[I") (by decide +kernel)) (fun _ h9 => h9) rfl dX5_fiddlerOf_5 ?_
    refine lv_bipush (v := nI 20) hx hb dX5_fiddlerOf_8 (by decide) ?_
    refine lv_iload_n hx hb dX5_fiddlerOf_10 rfl (lv_at hl 1 rfl) ?_
    refine lv_iadd hx hb dX5_fiddlerOf_11 ?_
    refine kv_i (y := nI (20 + f9)) (nI_add 20 f9) ?_
    refine va_iald hx hb hK hP 1 0 rfl rfl (vp_in_nI (n := 20 + f9) (N := 188) (by omega) (by omega)) dX5_fiddlerOf_12 ?_
    refine kv_i (y := X.2.2.2.1.2.1 f9) (by rw [nI_clamp (n := 20 + f9) (by omega)]; exact (kq_p (by omega))) ?_
    refine lv_goto (tgt := 38) hx hb dX5_fiddlerOf_13 (by decide) ?_
    exact kr_i (post := fun r_ (u_ : Unit) => r_ = kff X.1 X.2.2.2.1 f9 w) (Bs := fun u_ : Unit => [mW cy ra (kEn X, T)]) hx hb hr hlocks rfl () hP hK hD hS (by rw [c_1]; rfl) dX5_fiddlerOf_38 hQ
abbrev rm_X5_fiddler : Room := { frames := 3, cells := 0, slots := 0, locals := 67 }
set_option maxHeartbeats 1000000 in
set_option maxRecDepth 100000 in
/-- fiddler -/
theorem c_X5_fiddler (l : Launch) (D : va_G) (cy : Nat → ClassId) (ra : Nat → Nat) (X : rS) (T : rV) (f9 : Nat) (w : Nat) (hfn : X.1.2.2.2.1 ≤ 4) (hf1 : 1 ≤ X.1.2.2.2.1) (hfi : f9 < X.1.2.2.2.1) (hps : ¬ ksum X.2.2.2.1.2.1 X.1.2.2.2.1 ≤ 0) (hw2 : w ≤ 2) (sz : Nat) : Met l yX5_fiddler wsX5_fiddler rm_X5_fiddler (va_Pc [.ref (ra 0), .int (nI f9), .int (nI w)] (kPre D (kT cy) [mW cy ra (kEn X, T)] sz)) (va_Qi (fun r_ (u_ : Unit) => r_ = kff X.1 X.2.2.2.1 f9 w) (kFr D (kT cy) [mW cy ra (kEn X, T)] sz (fun u_ : Unit => [mW cy ra (kEn X, (T.1, T.2.1, T.2.2.1, nI 0, T.2.2.2.2))])) (va_A (bkF [mW cy ra (kEn X, T)]) sz)) 0 0 (va_A (bkF [mW cy ra (kEn X, T)]) sz) := by
  refine kOpen (y := yX5_fiddler) (ws := wsX5_fiddler) (cc := cX5_fiddler) (maxL := 3) (ret := (some .int)) (av := [.ref (ra 0), .int (nI f9), .int (nI w)]) (Bs := [mW cy ra (kEn X, T)]) (Qc := fun A => (va_Qi (fun r_ (u_ : Unit) => r_ = kff X.1 X.2.2.2.1 f9 w) (fun (u_ : Unit) t9 => kEnd D (kT cy) A [mW cy ra (kEn X, (T.1, T.2.1, T.2.2.1, nI 0, T.2.2.2.2))] t9) A)) (by decide) rfl (Nat.le_of_ble_eq_true rfl) ?_
  intro p e s m args below meth c A Q ls hQ hx hb hml hr hlocks hin hts hown hN hK hP hD hS hA hsz hAe hl
  clear hAe
  have hl : lv_has ls 3 [(0, .ref (ra 0)), (1, .int (nI f9)), (2, .int (nI w))] := hl
  suffices K9 : ∀ (H : Heap) (locs : List Loc), va_P D vwCl (bkF [mW cy ra (kEn X, T)]) H → va_S A s.heap H locs → W p l e (headSpec wsX5_fiddler rm_X5_fiddler).room s m args below meth c H locs 0 0 Q (F0 m 0 ls []) from K9 _ _ hP hS
  clear hP hS
  intro H locs hP hS
  refine lv_aload_n hx hb dX5_fiddler_0 rfl (lv_at hl 0 rfl) ?_
  refine lv_iload_n hx hb dX5_fiddler_1 rfl (lv_at hl 1 rfl) ?_
  refine kc_i (Cs := [mW cy ra (kEn X, T)]) (Rs := []) (Bs := [mW cy ra (kEn X, T)]) (Cs' := fun u_ : Unit => [mW cy ra (kEn X, T)]) (Fs := fun u_ : Unit => [mW cy ra (kEn X, T)]) hP hD hS hA [0] [] [0] rfl rfl (by decide) (by decide) (fun _ => rfl) (va_runV (As := [.int (nI f9)]) (rest := []) ⟨hx, hb, hml, hown, hts⟩ (c_X5_isFiddler l D cy ra X T (nI f9) (by first | assumption | omega | decide) H.size) (cwV 1 hts gX5_fiddler_X5_isFiddler rfl rfl rfl (by decide +kernel) ⟨Nat.le_of_ble_eq_true rfl, Nat.le_of_ble_eq_true rfl⟩) (kPre_V (ci := 5) hK hN hP hD [0] (by decide) rfl 0 rfl rfl) rfl rfl hl.1 rfl (lv_room (Nat.le_of_ble_eq_true rfl)) dX5_fiddler_2 ⟨Nat.le_of_ble_eq_true rfl, Nat.le_of_ble_eq_true rfl⟩) (fun r_ u_ H locs hw hP hD hS => ?_)
  have hw : r_ = if ¬ (nI f9) < nI 0 ∧ ¬ nI X.1.2.2.2.1 ≤ (nI f9) then nI 1 else nI 0 := hw
  subst hw
  refine kv_i (y := nI 1) (if_pos (khas (by omega) (by omega))) ?_
  refine lv_if_ne (tgt := 14) hx hb dX5_fiddler_5 (by decide) (fun _ => ?_) (fun h => absurd h (by decide))
  refine lv_iload_n hx hb dX5_fiddler_14 rfl (lv_at hl 2 rfl) ?_
  refine lv_i2l (v := (nI w).toInt64) hx hb dX5_fiddler_15 rfl ?_
  refine lv_lconst (v := 0) hx hb dX5_fiddler_16 (by decide) ?_
  refine lv_ldc2 hx hb hown (hts (.constantLong RX5 158 (2)) (by decide +kernel)) dX5_fiddler_17 ?_
  refine kc_i (Cs := []) (Rs := [mW cy ra (kEn X, T)]) (Bs := [mW cy ra (kEn X, T)]) (Cs' := fun u_ : Unit => []) (Fs := fun u_ : Unit => [mW cy ra (kEn X, T)]) hP hD hS hA [] [0] [0] rfl rfl (by decide) (by decide) (fun _ => rfl) (va_runS (As := [.long ((nI w).toInt64), .long 0, .long (2)]) (rest := []) ⟨hx, hb, hml, hown, hts⟩ (c_X5_in l D cy ((nI w).toInt64) 0 (2) H.size) (va_cwS 3 hts gX5_fiddler_X5_in rfl rfl rfl (by decide +kernel) ⟨Nat.le_of_ble_eq_true rfl, Nat.le_of_ble_eq_true rfl⟩) (kPre_S hK hN hP hD [] (by decide) rfl) rfl rfl hl.1 rfl (lv_room (Nat.le_of_ble_eq_true rfl)) dX5_fiddler_20 ⟨Nat.le_of_ble_eq_true rfl, Nat.le_of_ble_eq_true rfl⟩) (fun r_ u_ H locs hw hP hD hS => ?_)
  have hw : r_ = if kIn ((nI w).toInt64) 0 (2) then nI 1 else nI 0 := hw
  subst hw
  refine kv_i (y := nI 1) (if_pos ((kIn32 (y := nI 0) (z := nI 2) (by decide) (by decide)).mpr (kwin (by omega) (by omega) (by decide)))) ?_
  refine lv_if_eq (tgt := 39) hx hb dX5_fiddler_23 (by decide) (fun h => absurd h (by decide)) (fun _ => ?_)
  refine lv_aload_n hx hb dX5_fiddler_26 rfl (lv_at hl 0 rfl) ?_
  refine lv_aload_n hx hb dX5_fiddler_27 rfl (lv_at hl 0 rfl) ?_
  refine lv_iload_n hx hb dX5_fiddler_28 rfl (lv_at hl 1 rfl) ?_
  refine lv_iload_n hx hb dX5_fiddler_29 rfl (lv_at hl 2 rfl) ?_
  refine kc_i (Cs := [mW cy ra (kEn X, T)]) (Rs := []) (Bs := [mW cy ra (kEn X, T)]) (Cs' := fun u_ : Unit => [mW cy ra (kEn X, T)]) (Fs := fun u_ : Unit => [mW cy ra (kEn X, T)]) hP hD hS hA [0] [] [0] rfl rfl (by decide) (by decide) (fun _ => rfl) (va_runV (As := [.int (nI f9), .int (nI w)]) (rest := [.ref (ra 0)]) ⟨hx, hb, hml, hown, hts⟩ (c_X5_fiddlerOf l D cy ra X T f9 w (by first | assumption | omega | decide) (by first | assumption | omega | decide) (by first | assumption | omega | decide) hps (by first | assumption | omega | decide) H.size) (cwV 2 hts gX5_fiddler_X5_fiddlerOf rfl rfl rfl (by decide +kernel) ⟨Nat.le_of_ble_eq_true rfl, Nat.le_of_ble_eq_true rfl⟩) (kPre_V (ci := 5) hK hN hP hD [0] (by decide) rfl 0 rfl rfl) rfl rfl hl.1 rfl (lv_room (Nat.le_of_ble_eq_true rfl)) dX5_fiddler_30 ⟨Nat.le_of_ble_eq_true rfl, Nat.le_of_ble_eq_true rfl⟩) (fun r_ u_ H locs hw hP hD hS => ?_)
  have hw : r_ = kff X.1 X.2.2.2.1 f9 w := hw
  subst hw
  refine kc_i (Cs := [mW cy ra (kEn X, T)]) (Rs := []) (Bs := [mW cy ra (kEn X, T)]) (Cs' := fun u_ : Unit => [mW cy ra ((kEn X), (T.1, T.2.1, T.2.2.1, nI 0, T.2.2.2.2))]) (Fs := fun u_ : Unit => [mW cy ra ((kEn X), (T.1, T.2.1, T.2.2.1, nI 0, T.2.2.2.2))]) hP hD hS hA [0] [] [0] rfl rfl (by decide) (by decide) (fun _ => rfl) (va_runV (As := [.int (kff X.1 X.2.2.2.1 f9 w)]) (rest := []) ⟨hx, hb, hml, hown, hts⟩ (c_X5_fine l D cy ra (kEn X) T (kff X.1 X.2.2.2.1 f9 w) H.size) (cwV 1 hts gX5_fiddler_X5_fine rfl rfl rfl (by decide +kernel) ⟨Nat.le_of_ble_eq_true rfl, Nat.le_of_ble_eq_true rfl⟩) (kPre_V (ci := 5) hK hN hP hD [0] (by decide) rfl 0 rfl rfl) rfl rfl hl.1 rfl (lv_room (Nat.le_of_ble_eq_true rfl)) dX5_fiddler_33 ⟨Nat.le_of_ble_eq_true rfl, Nat.le_of_ble_eq_true rfl⟩) (fun r_ u_ H locs hw hP hD hS => ?_)
  have hw : r_ = (kff X.1 X.2.2.2.1 f9 w) := hw
  subst hw
  refine lv_goto (tgt := 44) hx hb dX5_fiddler_36 (by decide) ?_
  exact kr_i (post := fun r_ (u_ : Unit) => r_ = kff X.1 X.2.2.2.1 f9 w) (Bs := fun u_ : Unit => [mW cy ra (kEn X, (T.1, T.2.1, T.2.2.1, nI 0, T.2.2.2.2))]) hx hb hr hlocks rfl () hP hK hD hS rfl dX5_fiddler_44 hQ
abbrev rm_X5_fiddler_i : Room := { frames := 2, cells := 0, slots := 0, locals := 46 }
set_option maxHeartbeats 1000000 in
set_option maxRecDepth 100000 in
/-- fiddler, none such -/
theorem c_X5_fiddler_i (l : Launch) (D : va_G) (cy : Nat → ClassId) (ra : Nat → Nat) (X : rS) (T : rV) (f9 : Int32) (w : Int32) (hfn : X.1.2.2.2.1 ≤ 4) (hbad : ¬ (¬ f9 < nI 0 ∧ ¬ nI X.1.2.2.2.1 ≤ f9)) (sz : Nat) : Met l yX5_fiddler wsX5_fiddler rm_X5_fiddler_i (va_Pc [.ref (ra 0), .int f9, .int w] (kPre D (kT cy) [mW cy ra (kEn X, T)] sz)) (va_Qi (fun r_ (u_ : Unit) => r_ = nI 0) (kFr D (kT cy) [mW cy ra (kEn X, T)] sz (fun u_ : Unit => [mW cy ra (kEn X, (T.1, T.2.1, T.2.2.1, nI 1, T.2.2.2.2))])) (va_A (bkF [mW cy ra (kEn X, T)]) sz)) 0 0 (va_A (bkF [mW cy ra (kEn X, T)]) sz) := by
  refine kOpen (y := yX5_fiddler) (ws := wsX5_fiddler) (cc := cX5_fiddler) (maxL := 3) (ret := (some .int)) (av := [.ref (ra 0), .int f9, .int w]) (Bs := [mW cy ra (kEn X, T)]) (Qc := fun A => (va_Qi (fun r_ (u_ : Unit) => r_ = nI 0) (fun (u_ : Unit) t9 => kEnd D (kT cy) A [mW cy ra (kEn X, (T.1, T.2.1, T.2.2.1, nI 1, T.2.2.2.2))] t9) A)) (by decide) rfl (Nat.le_of_ble_eq_true rfl) ?_
  intro p e s m args below meth c A Q ls hQ hx hb hml hr hlocks hin hts hown hN hK hP hD hS hA hsz hAe hl
  clear hAe
  have hl : lv_has ls 3 [(0, .ref (ra 0)), (1, .int f9), (2, .int w)] := hl
  suffices K9 : ∀ (H : Heap) (locs : List Loc), va_P D vwCl (bkF [mW cy ra (kEn X, T)]) H → va_S A s.heap H locs → W p l e (headSpec wsX5_fiddler rm_X5_fiddler_i).room s m args below meth c H locs 0 0 Q (F0 m 0 ls []) from K9 _ _ hP hS
  clear hP hS
  intro H locs hP hS
  refine lv_aload_n hx hb dX5_fiddler_0 rfl (lv_at hl 0 rfl) ?_
  refine lv_iload_n hx hb dX5_fiddler_1 rfl (lv_at hl 1 rfl) ?_
  refine kc_i (Cs := [mW cy ra (kEn X, T)]) (Rs := []) (Bs := [mW cy ra (kEn X, T)]) (Cs' := fun u_ : Unit => [mW cy ra (kEn X, T)]) (Fs := fun u_ : Unit => [mW cy ra (kEn X, T)]) hP hD hS hA [0] [] [0] rfl rfl (by decide) (by decide) (fun _ => rfl) (va_runV (As := [.int f9]) (rest := []) ⟨hx, hb, hml, hown, hts⟩ (c_X5_isFiddler l D cy ra X T f9 (by first | assumption | omega | decide) H.size) (cwV 1 hts gX5_fiddler_X5_isFiddler rfl rfl rfl (by decide +kernel) ⟨Nat.le_of_ble_eq_true rfl, Nat.le_of_ble_eq_true rfl⟩) (kPre_V (ci := 5) hK hN hP hD [0] (by decide) rfl 0 rfl rfl) rfl rfl hl.1 rfl (lv_room (Nat.le_of_ble_eq_true rfl)) dX5_fiddler_2 ⟨Nat.le_of_ble_eq_true rfl, Nat.le_of_ble_eq_true rfl⟩) (fun r_ u_ H locs hw hP hD hS => ?_)
  have hw : r_ = if ¬ f9 < nI 0 ∧ ¬ nI X.1.2.2.2.1 ≤ f9 then nI 1 else nI 0 := hw
  subst hw
  refine kv_i (y := nI 0) (if_neg hbad) ?_
  refine lv_if_ne (tgt := 14) hx hb dX5_fiddler_5 (by decide) (fun h => absurd h (by decide)) (fun _ => ?_)
  refine lv_aload_n hx hb dX5_fiddler_8 rfl (lv_at hl 0 rfl) ?_
  refine lv_iconst (v := nI 1) hx hb dX5_fiddler_9 (by decide) ?_
  refine kc_i (Cs := [mW cy ra (kEn X, T)]) (Rs := []) (Bs := [mW cy ra (kEn X, T)]) (Cs' := fun u_ : Unit => [mW cy ra ((kEn X), (T.1, T.2.1, T.2.2.1, (nI 1), T.2.2.2.2))]) (Fs := fun u_ : Unit => [mW cy ra ((kEn X), (T.1, T.2.1, T.2.2.1, (nI 1), T.2.2.2.2))]) hP hD hS hA [0] [] [0] rfl rfl (by decide) (by decide) (fun _ => rfl) (va_runV (As := [.int (nI 1)]) (rest := []) ⟨hx, hb, hml, hown, hts⟩ (c_X5_throwing l D cy ra (kEn X) T (nI 1) H.size) (cwV 1 hts gX5_fiddler_X5_throwing rfl rfl rfl (by decide +kernel) ⟨Nat.le_of_ble_eq_true rfl, Nat.le_of_ble_eq_true rfl⟩) (kPre_V (ci := 5) hK hN hP hD [0] (by decide) rfl 0 rfl rfl) rfl rfl hl.1 rfl (lv_room (Nat.le_of_ble_eq_true rfl)) dX5_fiddler_10 ⟨Nat.le_of_ble_eq_true rfl, Nat.le_of_ble_eq_true rfl⟩) (fun r_ u_ H locs hw hP hD hS => ?_)
  have hw : r_ = nI 0 := hw
  subst hw
  exact kr_i (post := fun r_ (u_ : Unit) => r_ = nI 0) (Bs := fun u_ : Unit => [mW cy ra (kEn X, (T.1, T.2.1, T.2.2.1, nI 1, T.2.2.2.2))]) hx hb hr hlocks rfl () hP hK hD hS rfl dX5_fiddler_13 hQ
abbrev rm_X5_fiddler_a : Room := { frames := 2, cells := 0, slots := 0, locals := 46 }
set_option maxHeartbeats 1000000 in
set_option maxRecDepth 100000 in
/-- fiddler, no such thing -/
theorem c_X5_fiddler_a (l : Launch) (D : va_G) (cy : Nat → ClassId) (ra : Nat → Nat) (X : rS) (T : rV) (f9 : Nat) (w : Int32) (hfn : X.1.2.2.2.1 ≤ 4) (hfi : f9 < X.1.2.2.2.1) (hbad : ¬ (¬ w < nI 0 ∧ ¬ nI 2 < w)) (sz : Nat) : Met l yX5_fiddler wsX5_fiddler rm_X5_fiddler_a (va_Pc [.ref (ra 0), .int (nI f9), .int w] (kPre D (kT cy) [mW cy ra (kEn X, T)] sz)) (va_Qi (fun r_ (u_ : Unit) => r_ = nI 0) (kFr D (kT cy) [mW cy ra (kEn X, T)] sz (fun u_ : Unit => [mW cy ra (kEn X, (T.1, T.2.1, T.2.2.1, nI 2, T.2.2.2.2))])) (va_A (bkF [mW cy ra (kEn X, T)]) sz)) 0 0 (va_A (bkF [mW cy ra (kEn X, T)]) sz) := by
  refine kOpen (y := yX5_fiddler) (ws := wsX5_fiddler) (cc := cX5_fiddler) (maxL := 3) (ret := (some .int)) (av := [.ref (ra 0), .int (nI f9), .int w]) (Bs := [mW cy ra (kEn X, T)]) (Qc := fun A => (va_Qi (fun r_ (u_ : Unit) => r_ = nI 0) (fun (u_ : Unit) t9 => kEnd D (kT cy) A [mW cy ra (kEn X, (T.1, T.2.1, T.2.2.1, nI 2, T.2.2.2.2))] t9) A)) (by decide) rfl (Nat.le_of_ble_eq_true rfl) ?_
  intro p e s m args below meth c A Q ls hQ hx hb hml hr hlocks hin hts hown hN hK hP hD hS hA hsz hAe hl
  clear hAe
  have hl : lv_has ls 3 [(0, .ref (ra 0)), (1, .int (nI f9)), (2, .int w)] := hl
  suffices K9 : ∀ (H : Heap) (locs : List Loc), va_P D vwCl (bkF [mW cy ra (kEn X, T)]) H → va_S A s.heap H locs → W p l e (headSpec wsX5_fiddler rm_X5_fiddler_a).room s m args below meth c H locs 0 0 Q (F0 m 0 ls []) from K9 _ _ hP hS
  clear hP hS
  intro H locs hP hS
  refine lv_aload_n hx hb dX5_fiddler_0 rfl (lv_at hl 0 rfl) ?_
  refine lv_iload_n hx hb dX5_fiddler_1 rfl (lv_at hl 1 rfl) ?_
  refine kc_i (Cs := [mW cy ra (kEn X, T)]) (Rs := []) (Bs := [mW cy ra (kEn X, T)]) (Cs' := fun u_ : Unit => [mW cy ra (kEn X, T)]) (Fs := fun u_ : Unit => [mW cy ra (kEn X, T)]) hP hD hS hA [0] [] [0] rfl rfl (by decide) (by decide) (fun _ => rfl) (va_runV (As := [.int (nI f9)]) (rest := []) ⟨hx, hb, hml, hown, hts⟩ (c_X5_isFiddler l D cy ra X T (nI f9) (by first | assumption | omega | decide) H.size) (cwV 1 hts gX5_fiddler_X5_isFiddler rfl rfl rfl (by decide +kernel) ⟨Nat.le_of_ble_eq_true rfl, Nat.le_of_ble_eq_true rfl⟩) (kPre_V (ci := 5) hK hN hP hD [0] (by decide) rfl 0 rfl rfl) rfl rfl hl.1 rfl (lv_room (Nat.le_of_ble_eq_true rfl)) dX5_fiddler_2 ⟨Nat.le_of_ble_eq_true rfl, Nat.le_of_ble_eq_true rfl⟩) (fun r_ u_ H locs hw hP hD hS => ?_)
  have hw : r_ = if ¬ (nI f9) < nI 0 ∧ ¬ nI X.1.2.2.2.1 ≤ (nI f9) then nI 1 else nI 0 := hw
  subst hw
  refine kv_i (y := nI 1) (if_pos (khas (by omega) (by omega))) ?_
  refine lv_if_ne (tgt := 14) hx hb dX5_fiddler_5 (by decide) (fun _ => ?_) (fun h => absurd h (by decide))
  refine lv_iload_n hx hb dX5_fiddler_14 rfl (lv_at hl 2 rfl) ?_
  refine lv_i2l (v := w.toInt64) hx hb dX5_fiddler_15 rfl ?_
  refine lv_lconst (v := 0) hx hb dX5_fiddler_16 (by decide) ?_
  refine lv_ldc2 hx hb hown (hts (.constantLong RX5 158 (2)) (by decide +kernel)) dX5_fiddler_17 ?_
  refine kc_i (Cs := []) (Rs := [mW cy ra (kEn X, T)]) (Bs := [mW cy ra (kEn X, T)]) (Cs' := fun u_ : Unit => []) (Fs := fun u_ : Unit => [mW cy ra (kEn X, T)]) hP hD hS hA [] [0] [0] rfl rfl (by decide) (by decide) (fun _ => rfl) (va_runS (As := [.long w.toInt64, .long 0, .long (2)]) (rest := []) ⟨hx, hb, hml, hown, hts⟩ (c_X5_in l D cy w.toInt64 0 (2) H.size) (va_cwS 3 hts gX5_fiddler_X5_in rfl rfl rfl (by decide +kernel) ⟨Nat.le_of_ble_eq_true rfl, Nat.le_of_ble_eq_true rfl⟩) (kPre_S hK hN hP hD [] (by decide) rfl) rfl rfl hl.1 rfl (lv_room (Nat.le_of_ble_eq_true rfl)) dX5_fiddler_20 ⟨Nat.le_of_ble_eq_true rfl, Nat.le_of_ble_eq_true rfl⟩) (fun r_ u_ H locs hw hP hD hS => ?_)
  have hw : r_ = if kIn w.toInt64 0 (2) then nI 1 else nI 0 := hw
  subst hw
  refine kv_i (y := nI 0) (if_neg (fun h => hbad ((kIn32 (y := nI 0) (z := nI 2) (by decide) (by decide)).mp h))) ?_
  refine lv_if_eq (tgt := 39) hx hb dX5_fiddler_23 (by decide) (fun _ => ?_) (fun h => absurd h (by decide))
  refine lv_aload_n hx hb dX5_fiddler_39 rfl (lv_at hl 0 rfl) ?_
  refine lv_iconst (v := nI 2) hx hb dX5_fiddler_40 (by decide) ?_
  refine kc_i (Cs := [mW cy ra (kEn X, T)]) (Rs := []) (Bs := [mW cy ra (kEn X, T)]) (Cs' := fun u_ : Unit => [mW cy ra ((kEn X), (T.1, T.2.1, T.2.2.1, (nI 2), T.2.2.2.2))]) (Fs := fun u_ : Unit => [mW cy ra ((kEn X), (T.1, T.2.1, T.2.2.1, (nI 2), T.2.2.2.2))]) hP hD hS hA [0] [] [0] rfl rfl (by decide) (by decide) (fun _ => rfl) (va_runV (As := [.int (nI 2)]) (rest := []) ⟨hx, hb, hml, hown, hts⟩ (c_X5_throwing l D cy ra (kEn X) T (nI 2) H.size) (cwV 1 hts gX5_fiddler_X5_throwing rfl rfl rfl (by decide +kernel) ⟨Nat.le_of_ble_eq_true rfl, Nat.le_of_ble_eq_true rfl⟩) (kPre_V (ci := 5) hK hN hP hD [0] (by decide) rfl 0 rfl rfl) rfl rfl hl.1 rfl (lv_room (Nat.le_of_ble_eq_true rfl)) dX5_fiddler_41 ⟨Nat.le_of_ble_eq_true rfl, Nat.le_of_ble_eq_true rfl⟩) (fun r_ u_ H locs hw hP hD hS => ?_)
  have hw : r_ = nI 0 := hw
  subst hw
  exact kr_i (post := fun r_ (u_ : Unit) => r_ = nI 0) (Bs := fun u_ : Unit => [mW cy ra (kEn X, (T.1, T.2.1, T.2.2.1, nI 2, T.2.2.2.2))]) hx hb hr hlocks rfl () hP hK hD hS rfl dX5_fiddler_44 hQ
abbrev rm_X5_danced : Room := { frames := 2, cells := 0, slots := 0, locals := 47 }
set_option maxHeartbeats 1000000 in
set_option maxRecDepth 100000 in
/-- danced -/
theorem c_X5_danced (l : Launch) (D : va_G) (cy : Nat → ClassId) (ra : Nat → Nat) (X : rS) (T : rV) (i : Nat) (j9 : Nat) (hnl : X.2.1.2.2.2.2.2 ≤ 8) (hnf : X.2.2.1.2.2.2.2.2 ≤ 8) (hi : i < X.2.1.2.2.2.2.2) (hj9 : j9 < X.2.2.1.2.2.2.2.2) (sz : Nat) : Met l yX5_danced wsX5_danced rm_X5_danced (va_Pc [.ref (ra 0), .int (nI i), .int (nI j9)] (kPre D (kT cy) [mW cy ra (kEn X, T)] sz)) (va_Qi (fun r_ (u_ : Unit) => r_ = X.2.2.2.2 i j9) (kFr D (kT cy) [mW cy ra (kEn X, T)] sz (fun u_ : Unit => [mW cy ra (kEn X, (T.1, T.2.1, T.2.2.1, nI 0, T.2.2.2.2))])) (va_A (bkF [mW cy ra (kEn X, T)]) sz)) 0 0 (va_A (bkF [mW cy ra (kEn X, T)]) sz) := by
  refine kOpen (y := yX5_danced) (ws := wsX5_danced) (cc := cX5_danced) (maxL := 3) (ret := (some .int)) (av := [.ref (ra 0), .int (nI i), .int (nI j9)]) (Bs := [mW cy ra (kEn X, T)]) (Qc := fun A => (va_Qi (fun r_ (u_ : Unit) => r_ = X.2.2.2.2 i j9) (fun (u_ : Unit) t9 => kEnd D (kT cy) A [mW cy ra (kEn X, (T.1, T.2.1, T.2.2.1, nI 0, T.2.2.2.2))] t9) A)) (by decide) rfl (Nat.le_of_ble_eq_true rfl) ?_
  intro p e s m args below meth c A Q ls hQ hx hb hml hr hlocks hin hts hown hN hK hP hD hS hA hsz hAe hl
  clear hAe
  have hl : lv_has ls 3 [(0, .ref (ra 0)), (1, .int (nI i)), (2, .int (nI j9))] := hl
  suffices K9 : ∀ (H : Heap) (locs : List Loc), va_P D vwCl (bkF [mW cy ra (kEn X, T)]) H → va_S A s.heap H locs → W p l e (headSpec wsX5_danced rm_X5_danced).room s m args below meth c H locs 0 0 Q (F0 m 0 ls []) from K9 _ _ hP hS
  clear hP hS
  intro H locs hP hS
  refine lv_aload_n hx hb dX5_danced_0 rfl (lv_at hl 0 rfl) ?_
  refine lv_iconst (v := nI 1) hx hb dX5_danced_1 (by decide) ?_
  refine lv_iload_n hx hb dX5_danced_2 rfl (lv_at hl 1 rfl) ?_
  refine kc_i (Cs := [mW cy ra (kEn X, T)]) (Rs := []) (Bs := [mW cy ra (kEn X, T)]) (Cs' := fun u_ : Unit => [mW cy ra (kEn X, T)]) (Fs := fun u_ : Unit => [mW cy ra (kEn X, T)]) hP hD hS hA [0] [] [0] rfl rfl (by decide) (by decide) (fun _ => rfl) (va_runV (As := [.int (nI 1), .int (nI i)]) (rest := []) ⟨hx, hb, hml, hown, hts⟩ (c_X5_isGuest_t l D cy ra X T (nI 1) (nI i) (by decide) hnl H.size) (cwV 2 hts gX5_danced_X5_isGuest rfl rfl rfl (by decide +kernel) ⟨Nat.le_of_ble_eq_true rfl, Nat.le_of_ble_eq_true rfl⟩) (kPre_V (ci := 5) hK hN hP hD [0] (by decide) rfl 0 rfl rfl) rfl rfl hl.1 rfl (lv_room (Nat.le_of_ble_eq_true rfl)) dX5_danced_3 ⟨Nat.le_of_ble_eq_true rfl, Nat.le_of_ble_eq_true rfl⟩) (fun r_ u_ H locs hw hP hD hS => ?_)
  have hw : r_ = if ¬ (nI i) < nI 0 ∧ ¬ nI X.2.1.2.2.2.2.2 ≤ (nI i) then nI 1 else nI 0 := hw
  subst hw
  refine kv_i (y := nI 1) (if_pos (khas (by omega) (by omega))) ?_
  refine lv_if_eq (tgt := 39) hx hb dX5_danced_6 (by decide) (fun h => absurd h (by decide)) (fun _ => ?_)
  refine lv_aload_n hx hb dX5_danced_9 rfl (lv_at hl 0 rfl) ?_
  refine lv_iconst (v := nI 0) hx hb dX5_danced_10 (by decide) ?_
  refine lv_iload_n hx hb dX5_danced_11 rfl (lv_at hl 2 rfl) ?_
  refine kc_i (Cs := [mW cy ra (kEn X, T)]) (Rs := []) (Bs := [mW cy ra (kEn X, T)]) (Cs' := fun u_ : Unit => [mW cy ra (kEn X, T)]) (Fs := fun u_ : Unit => [mW cy ra (kEn X, T)]) hP hD hS hA [0] [] [0] rfl rfl (by decide) (by decide) (fun _ => rfl) (va_runV (As := [.int (nI 0), .int (nI j9)]) (rest := []) ⟨hx, hb, hml, hown, hts⟩ (c_X5_isGuest_f l D cy ra X T (nI 0) (nI j9) rfl hnf H.size) (cwV 2 hts gX5_danced_X5_isGuest rfl rfl rfl (by decide +kernel) ⟨Nat.le_of_ble_eq_true rfl, Nat.le_of_ble_eq_true rfl⟩) (kPre_V (ci := 5) hK hN hP hD [0] (by decide) rfl 0 rfl rfl) rfl rfl hl.1 rfl (lv_room (Nat.le_of_ble_eq_true rfl)) dX5_danced_12 ⟨Nat.le_of_ble_eq_true rfl, Nat.le_of_ble_eq_true rfl⟩) (fun r_ u_ H locs hw hP hD hS => ?_)
  have hw : r_ = if ¬ (nI j9) < nI 0 ∧ ¬ nI X.2.2.1.2.2.2.2.2 ≤ (nI j9) then nI 1 else nI 0 := hw
  subst hw
  refine kv_i (y := nI 1) (if_pos (khas (by omega) (by omega))) ?_
  refine lv_if_eq (tgt := 39) hx hb dX5_danced_15 (by decide) (fun h => absurd h (by decide)) (fun _ => ?_)
  refine lv_aload_n hx hb dX5_danced_18 rfl (lv_at hl 0 rfl) ?_
  refine lv_aload_n hx hb dX5_danced_19 rfl (lv_at hl 0 rfl) ?_
  refine va_get (D := D) (ci := 5) (v := .ref (ra 1)) (C := RX5) (T := TX5) (N := 16) hx hb hts (by decide +kernel) hown hK hP 0 rfl rfl 0 (by decide) (hts (.fieldLink RX5 7 "DanceHallModel" "all" "[I") (by decide +kernel)) (fun _ h9 => h9) rfl dX5_danced_20 ?_
  refine lv_bipush (v := nI 28) hx hb dX5_danced_23 (by decide) ?_
  refine lv_bipush (v := nI 8) hx hb dX5_danced_25 (by decide) ?_
  refine lv_iload_n hx hb dX5_danced_27 rfl (lv_at hl 1 rfl) ?_
  refine lv_imul hx hb dX5_danced_28 ?_
  refine kv_i (y := nI (8 * i)) (pk_mul 8 i) ?_
  refine lv_iadd hx hb dX5_danced_29 ?_
  refine kv_i (y := nI (28 + (8 * i))) (nI_add 28 (8 * i)) ?_
  refine lv_iload_n hx hb dX5_danced_30 rfl (lv_at hl 2 rfl) ?_
  refine lv_iadd hx hb dX5_danced_31 ?_
  refine kv_i (y := nI ((28 + (8 * i)) + j9)) (nI_add (28 + (8 * i)) j9) ?_
  refine va_iald hx hb hK hP 1 0 rfl rfl (vp_in_nI (n := (28 + (8 * i)) + j9) (N := 188) (by omega) (by omega)) dX5_danced_32 ?_
  refine kv_i (y := X.2.2.2.2 i j9) (by rw [nI_clamp (n := (28 + (8 * i)) + j9) (by omega)]; exact (kq_d (by omega) (by omega))) ?_
  refine kc_i (Cs := [mW cy ra (kEn X, T)]) (Rs := []) (Bs := [mW cy ra (kEn X, T)]) (Cs' := fun u_ : Unit => [mW cy ra ((kEn X), (T.1, T.2.1, T.2.2.1, nI 0, T.2.2.2.2))]) (Fs := fun u_ : Unit => [mW cy ra ((kEn X), (T.1, T.2.1, T.2.2.1, nI 0, T.2.2.2.2))]) hP hD hS hA [0] [] [0] rfl rfl (by decide) (by decide) (fun _ => rfl) (va_runV (As := [.int (X.2.2.2.2 i j9)]) (rest := []) ⟨hx, hb, hml, hown, hts⟩ (c_X5_fine l D cy ra (kEn X) T (X.2.2.2.2 i j9) H.size) (cwV 1 hts gX5_danced_X5_fine rfl rfl rfl (by decide +kernel) ⟨Nat.le_of_ble_eq_true rfl, Nat.le_of_ble_eq_true rfl⟩) (kPre_V (ci := 5) hK hN hP hD [0] (by decide) rfl 0 rfl rfl) rfl rfl hl.1 rfl (lv_room (Nat.le_of_ble_eq_true rfl)) dX5_danced_33 ⟨Nat.le_of_ble_eq_true rfl, Nat.le_of_ble_eq_true rfl⟩) (fun r_ u_ H locs hw hP hD hS => ?_)
  have hw : r_ = (X.2.2.2.2 i j9) := hw
  subst hw
  refine lv_goto (tgt := 44) hx hb dX5_danced_36 (by decide) ?_
  exact kr_i (post := fun r_ (u_ : Unit) => r_ = X.2.2.2.2 i j9) (Bs := fun u_ : Unit => [mW cy ra (kEn X, (T.1, T.2.1, T.2.2.1, nI 0, T.2.2.2.2))]) hx hb hr hlocks rfl () hP hK hD hS rfl dX5_danced_44 hQ
abbrev rm_X5_danced_i : Room := { frames := 2, cells := 0, slots := 0, locals := 47 }
set_option maxHeartbeats 1000000 in
set_option maxRecDepth 100000 in
/-- danced, no such guests -/
theorem c_X5_danced_i (l : Launch) (D : va_G) (cy : Nat → ClassId) (ra : Nat → Nat) (X : rS) (T : rV) (i : Int32) (j9 : Int32) (hnl : X.2.1.2.2.2.2.2 ≤ 8) (hnf : X.2.2.1.2.2.2.2.2 ≤ 8) (hbad : ¬ ((¬ i < nI 0 ∧ ¬ nI X.2.1.2.2.2.2.2 ≤ i) ∧ (¬ j9 < nI 0 ∧ ¬ nI X.2.2.1.2.2.2.2.2 ≤ j9))) (sz : Nat) : Met l yX5_danced wsX5_danced rm_X5_danced_i (va_Pc [.ref (ra 0), .int i, .int j9] (kPre D (kT cy) [mW cy ra (kEn X, T)] sz)) (va_Qi (fun r_ (u_ : Unit) => r_ = nI 0) (kFr D (kT cy) [mW cy ra (kEn X, T)] sz (fun u_ : Unit => [mW cy ra (kEn X, (T.1, T.2.1, T.2.2.1, nI 1, T.2.2.2.2))])) (va_A (bkF [mW cy ra (kEn X, T)]) sz)) 0 0 (va_A (bkF [mW cy ra (kEn X, T)]) sz) := by
  refine kOpen (y := yX5_danced) (ws := wsX5_danced) (cc := cX5_danced) (maxL := 3) (ret := (some .int)) (av := [.ref (ra 0), .int i, .int j9]) (Bs := [mW cy ra (kEn X, T)]) (Qc := fun A => (va_Qi (fun r_ (u_ : Unit) => r_ = nI 0) (fun (u_ : Unit) t9 => kEnd D (kT cy) A [mW cy ra (kEn X, (T.1, T.2.1, T.2.2.1, nI 1, T.2.2.2.2))] t9) A)) (by decide) rfl (Nat.le_of_ble_eq_true rfl) ?_
  intro p e s m args below meth c A Q ls hQ hx hb hml hr hlocks hin hts hown hN hK hP hD hS hA hsz hAe hl
  clear hAe
  have hl : lv_has ls 3 [(0, .ref (ra 0)), (1, .int i), (2, .int j9)] := hl
  suffices K9 : ∀ (H : Heap) (locs : List Loc), va_P D vwCl (bkF [mW cy ra (kEn X, T)]) H → va_S A s.heap H locs → W p l e (headSpec wsX5_danced rm_X5_danced_i).room s m args below meth c H locs 0 0 Q (F0 m 0 ls []) from K9 _ _ hP hS
  clear hP hS
  intro H locs hP hS
  refine lv_aload_n hx hb dX5_danced_0 rfl (lv_at hl 0 rfl) ?_
  refine lv_iconst (v := nI 1) hx hb dX5_danced_1 (by decide) ?_
  refine lv_iload_n hx hb dX5_danced_2 rfl (lv_at hl 1 rfl) ?_
  refine kc_i (Cs := [mW cy ra (kEn X, T)]) (Rs := []) (Bs := [mW cy ra (kEn X, T)]) (Cs' := fun u_ : Unit => [mW cy ra (kEn X, T)]) (Fs := fun u_ : Unit => [mW cy ra (kEn X, T)]) hP hD hS hA [0] [] [0] rfl rfl (by decide) (by decide) (fun _ => rfl) (va_runV (As := [.int (nI 1), .int i]) (rest := []) ⟨hx, hb, hml, hown, hts⟩ (c_X5_isGuest_t l D cy ra X T (nI 1) i (by decide) hnl H.size) (cwV 2 hts gX5_danced_X5_isGuest rfl rfl rfl (by decide +kernel) ⟨Nat.le_of_ble_eq_true rfl, Nat.le_of_ble_eq_true rfl⟩) (kPre_V (ci := 5) hK hN hP hD [0] (by decide) rfl 0 rfl rfl) rfl rfl hl.1 rfl (lv_room (Nat.le_of_ble_eq_true rfl)) dX5_danced_3 ⟨Nat.le_of_ble_eq_true rfl, Nat.le_of_ble_eq_true rfl⟩) (fun r_ u_ H locs hw hP hD hS => ?_)
  have hw : r_ = if ¬ i < nI 0 ∧ ¬ nI X.2.1.2.2.2.2.2 ≤ i then nI 1 else nI 0 := hw
  subst hw
  by_cases b_3 : ¬ i < nI 0 ∧ ¬ nI X.2.1.2.2.2.2.2 ≤ i
  · refine kv_i (y := nI 1) (if_pos b_3) ?_
    refine lv_if_eq (tgt := 39) hx hb dX5_danced_6 (by decide) (fun h => absurd h (by decide)) (fun _ => ?_)
    refine lv_aload_n hx hb dX5_danced_9 rfl (lv_at hl 0 rfl) ?_
    refine lv_iconst (v := nI 0) hx hb dX5_danced_10 (by decide) ?_
    refine lv_iload_n hx hb dX5_danced_11 rfl (lv_at hl 2 rfl) ?_
    refine kc_i (Cs := [mW cy ra (kEn X, T)]) (Rs := []) (Bs := [mW cy ra (kEn X, T)]) (Cs' := fun u_ : Unit => [mW cy ra (kEn X, T)]) (Fs := fun u_ : Unit => [mW cy ra (kEn X, T)]) hP hD hS hA [0] [] [0] rfl rfl (by decide) (by decide) (fun _ => rfl) (va_runV (As := [.int (nI 0), .int j9]) (rest := []) ⟨hx, hb, hml, hown, hts⟩ (c_X5_isGuest_f l D cy ra X T (nI 0) j9 rfl hnf H.size) (cwV 2 hts gX5_danced_X5_isGuest rfl rfl rfl (by decide +kernel) ⟨Nat.le_of_ble_eq_true rfl, Nat.le_of_ble_eq_true rfl⟩) (kPre_V (ci := 5) hK hN hP hD [0] (by decide) rfl 0 rfl rfl) rfl rfl hl.1 rfl (lv_room (Nat.le_of_ble_eq_true rfl)) dX5_danced_12 ⟨Nat.le_of_ble_eq_true rfl, Nat.le_of_ble_eq_true rfl⟩) (fun r_ u_ H locs hw hP hD hS => ?_)
    have hw : r_ = if ¬ j9 < nI 0 ∧ ¬ nI X.2.2.1.2.2.2.2.2 ≤ j9 then nI 1 else nI 0 := hw
    subst hw
    by_cases b_12 : ¬ j9 < nI 0 ∧ ¬ nI X.2.2.1.2.2.2.2.2 ≤ j9
    · refine kv_i (y := nI 1) (if_pos b_12) ?_
      refine lv_if_eq (tgt := 39) hx hb dX5_danced_15 (by decide) (fun h => absurd h (by decide)) (fun _ => ?_)
      exact absurd ⟨b_3, b_12⟩ hbad
    · refine kv_i (y := nI 0) (if_neg b_12) ?_
      refine lv_if_eq (tgt := 39) hx hb dX5_danced_15 (by decide) (fun _ => ?_) (fun h => absurd h (by decide))
      refine lv_aload_n hx hb dX5_danced_39 rfl (lv_at hl 0 rfl) ?_
      refine lv_iconst (v := nI 1) hx hb dX5_danced_40 (by decide) ?_
      refine kc_i (Cs := [mW cy ra (kEn X, T)]) (Rs := []) (Bs := [mW cy ra (kEn X, T)]) (Cs' := fun u_ : Unit => [mW cy ra ((kEn X), (T.1, T.2.1, T.2.2.1, (nI 1), T.2.2.2.2))]) (Fs := fun u_ : Unit => [mW cy ra ((kEn X), (T.1, T.2.1, T.2.2.1, (nI 1), T.2.2.2.2))]) hP hD hS hA [0] [] [0] rfl rfl (by decide) (by decide) (fun _ => rfl) (va_runV (As := [.int (nI 1)]) (rest := []) ⟨hx, hb, hml, hown, hts⟩ (c_X5_throwing l D cy ra (kEn X) T (nI 1) H.size) (cwV 1 hts gX5_danced_X5_throwing rfl rfl rfl (by decide +kernel) ⟨Nat.le_of_ble_eq_true rfl, Nat.le_of_ble_eq_true rfl⟩) (kPre_V (ci := 5) hK hN hP hD [0] (by decide) rfl 0 rfl rfl) rfl rfl hl.1 rfl (lv_room (Nat.le_of_ble_eq_true rfl)) dX5_danced_41 ⟨Nat.le_of_ble_eq_true rfl, Nat.le_of_ble_eq_true rfl⟩) (fun r_ u_ H locs hw hP hD hS => ?_)
      have hw : r_ = nI 0 := hw
      subst hw
      exact kr_i (post := fun r_ (u_ : Unit) => r_ = nI 0) (Bs := fun u_ : Unit => [mW cy ra (kEn X, (T.1, T.2.1, T.2.2.1, nI 1, T.2.2.2.2))]) hx hb hr hlocks rfl () hP hK hD hS rfl dX5_danced_44 hQ
  · refine kv_i (y := nI 0) (if_neg b_3) ?_
    refine lv_if_eq (tgt := 39) hx hb dX5_danced_6 (by decide) (fun _ => ?_) (fun h => absurd h (by decide))
    refine lv_aload_n hx hb dX5_danced_39 rfl (lv_at hl 0 rfl) ?_
    refine lv_iconst (v := nI 1) hx hb dX5_danced_40 (by decide) ?_
    refine kc_i (Cs := [mW cy ra (kEn X, T)]) (Rs := []) (Bs := [mW cy ra (kEn X, T)]) (Cs' := fun u_ : Unit => [mW cy ra ((kEn X), (T.1, T.2.1, T.2.2.1, (nI 1), T.2.2.2.2))]) (Fs := fun u_ : Unit => [mW cy ra ((kEn X), (T.1, T.2.1, T.2.2.1, (nI 1), T.2.2.2.2))]) hP hD hS hA [0] [] [0] rfl rfl (by decide) (by decide) (fun _ => rfl) (va_runV (As := [.int (nI 1)]) (rest := []) ⟨hx, hb, hml, hown, hts⟩ (c_X5_throwing l D cy ra (kEn X) T (nI 1) H.size) (cwV 1 hts gX5_danced_X5_throwing rfl rfl rfl (by decide +kernel) ⟨Nat.le_of_ble_eq_true rfl, Nat.le_of_ble_eq_true rfl⟩) (kPre_V (ci := 5) hK hN hP hD [0] (by decide) rfl 0 rfl rfl) rfl rfl hl.1 rfl (lv_room (Nat.le_of_ble_eq_true rfl)) dX5_danced_41 ⟨Nat.le_of_ble_eq_true rfl, Nat.le_of_ble_eq_true rfl⟩) (fun r_ u_ H locs hw hP hD hS => ?_)
    have hw : r_ = nI 0 := hw
    subst hw
    exact kr_i (post := fun r_ (u_ : Unit) => r_ = nI 0) (Bs := fun u_ : Unit => [mW cy ra (kEn X, (T.1, T.2.1, T.2.2.1, nI 1, T.2.2.2.2))]) hx hb hr hlocks rfl () hP hK hD hS rfl dX5_danced_44 hQ
abbrev rm_X5_partner : Room := { frames := 2, cells := 0, slots := 0, locals := 47 }
set_option maxHeartbeats 1000000 in
set_option maxRecDepth 100000 in
/-- partner -/
theorem c_X5_partner (l : Launch) (D : va_G) (cy : Nat → ClassId) (ra : Nat → Nat) (X : rS) (T : rV) (k : Nat) (i : Nat) (hnl : X.2.1.2.2.2.2.2 ≤ 8) (hkd : k < X.1.2.2.2.2.2.2.1) (hdn : X.1.2.2.2.2.2.2.1 ≤ 30) (hi : i < X.2.1.2.2.2.2.2) (hri : ∀ f g, f < 8 → g < 8 → X.2.2.2.2 i f = nI k → X.2.2.2.2 i g = nI k → f = g) (sz : Nat) : Met l yX5_partner wsX5_partner rm_X5_partner (va_Pc [.ref (ra 0), .int (nI k), .int (nI i)] (kPre D (kT cy) [mW cy ra (kEn X, T)] sz)) (va_Qi (fun r_ (u_ : Unit) => r_ = kPt (X.2.2.2.2 i) k) (kFr D (kT cy) [mW cy ra (kEn X, T)] sz (fun u_ : Unit => [mW cy ra (kEn X, (T.1, T.2.1, T.2.2.1, nI 0, T.2.2.2.2))])) (va_A (bkF [mW cy ra (kEn X, T)]) sz)) 0 0 (va_A (bkF [mW cy ra (kEn X, T)]) sz) := by
  refine kOpen (y := yX5_partner) (ws := wsX5_partner) (cc := cX5_partner) (maxL := 5) (ret := (some .int)) (av := [.ref (ra 0), .int (nI k), .int (nI i)]) (Bs := [mW cy ra (kEn X, T)]) (Qc := fun A => (va_Qi (fun r_ (u_ : Unit) => r_ = kPt (X.2.2.2.2 i) k) (fun (u_ : Unit) t9 => kEnd D (kT cy) A [mW cy ra (kEn X, (T.1, T.2.1, T.2.2.1, nI 0, T.2.2.2.2))] t9) A)) (by decide) rfl (Nat.le_of_ble_eq_true rfl) ?_
  intro p e s m args below meth c A Q ls hQ hx hb hml hr hlocks hin hts hown hN hK hP hD hS hA hsz hAe hl
  clear hAe
  have hl : lv_has ls 5 [(0, .ref (ra 0)), (1, .int (nI k)), (2, .int (nI i))] := hl
  suffices K9 : ∀ (H : Heap) (locs : List Loc), va_P D vwCl (bkF [mW cy ra (kEn X, T)]) H → va_S A s.heap H locs → W p l e (headSpec wsX5_partner rm_X5_partner).room s m args below meth c H locs 0 0 Q (F0 m 0 ls []) from K9 _ _ hP hS
  clear hP hS
  intro H locs hP hS
  refine lv_iload_n hx hb dX5_partner_0 rfl (lv_at hl 1 rfl) ?_
  refine lv_i2l (v := (nI k).toInt64) hx hb dX5_partner_1 rfl ?_
  refine lv_lconst (v := 0) hx hb dX5_partner_2 (by decide) ?_
  refine lv_aload_n hx hb dX5_partner_3 rfl (lv_at hl 0 rfl) ?_
  refine va_get (D := D) (ci := 5) (v := .ref (ra 1)) (C := RX5) (T := TX5) (N := 16) hx hb hts (by decide +kernel) hown hK hP 0 rfl rfl 0 (by decide) (hts (.fieldLink RX5 7 "DanceHallModel" "all" "[I") (by decide +kernel)) (fun _ h9 => h9) rfl dX5_partner_4 ?_
  refine lv_iconst (v := nI 5) hx hb dX5_partner_7 (by decide) ?_
  refine va_iald hx hb hK hP 1 0 rfl rfl (vp_in_nI (n := 5) (N := 188) (by omega) (by omega)) dX5_partner_8 ?_
  refine kv_i (y := nI X.1.2.2.2.2.2.2.1) (show ((kEn X)) (nI 5).toNatClampNeg = nI X.1.2.2.2.2.2.2.1 from rfl) ?_
  refine lv_i2l (v := (nI X.1.2.2.2.2.2.2.1).toInt64) hx hb dX5_partner_9 rfl ?_
  refine lv_lconst (v := 1) hx hb dX5_partner_10 (by decide) ?_
  refine lv_lsub hx hb dX5_partner_11 ?_
  refine kc_i (Cs := []) (Rs := [mW cy ra (kEn X, T)]) (Bs := [mW cy ra (kEn X, T)]) (Cs' := fun u_ : Unit => []) (Fs := fun u_ : Unit => [mW cy ra (kEn X, T)]) hP hD hS hA [] [0] [0] rfl rfl (by decide) (by decide) (fun _ => rfl) (va_runS (As := [.long ((nI k).toInt64), .long 0, .long (((nI X.1.2.2.2.2.2.2.1).toInt64) - 1)]) (rest := []) ⟨hx, hb, hml, hown, hts⟩ (c_X5_in l D cy ((nI k).toInt64) 0 (((nI X.1.2.2.2.2.2.2.1).toInt64) - 1) H.size) (va_cwS 3 hts gX5_partner_X5_in rfl rfl rfl (by decide +kernel) ⟨Nat.le_of_ble_eq_true rfl, Nat.le_of_ble_eq_true rfl⟩) (kPre_S hK hN hP hD [] (by decide) rfl) rfl rfl hl.1 rfl (lv_room (Nat.le_of_ble_eq_true rfl)) dX5_partner_12 ⟨Nat.le_of_ble_eq_true rfl, Nat.le_of_ble_eq_true rfl⟩) (fun r_ u_ H locs hw hP hD hS => ?_)
  have hw : r_ = if kIn ((nI k).toInt64) 0 (((nI X.1.2.2.2.2.2.2.1).toInt64) - 1) then nI 1 else nI 0 := hw
  subst hw
  refine kv_i (y := nI 1) (if_pos ((kInP (by omega)).mpr (by rw [pk_sub (by omega)]; exact kwin (by omega) (by omega) (by omega)))) ?_
  refine lv_if_eq (tgt := 27) hx hb dX5_partner_15 (by decide) (fun h => absurd h (by decide)) (fun _ => ?_)
  refine lv_aload_n hx hb dX5_partner_18 rfl (lv_at hl 0 rfl) ?_
  refine lv_iconst (v := nI 1) hx hb dX5_partner_19 (by decide) ?_
  refine lv_iload_n hx hb dX5_partner_20 rfl (lv_at hl 2 rfl) ?_
  refine kc_i (Cs := [mW cy ra (kEn X, T)]) (Rs := []) (Bs := [mW cy ra (kEn X, T)]) (Cs' := fun u_ : Unit => [mW cy ra (kEn X, T)]) (Fs := fun u_ : Unit => [mW cy ra (kEn X, T)]) hP hD hS hA [0] [] [0] rfl rfl (by decide) (by decide) (fun _ => rfl) (va_runV (As := [.int (nI 1), .int (nI i)]) (rest := []) ⟨hx, hb, hml, hown, hts⟩ (c_X5_isGuest_t l D cy ra X T (nI 1) (nI i) (by decide) hnl H.size) (cwV 2 hts gX5_partner_X5_isGuest rfl rfl rfl (by decide +kernel) ⟨Nat.le_of_ble_eq_true rfl, Nat.le_of_ble_eq_true rfl⟩) (kPre_V (ci := 5) hK hN hP hD [0] (by decide) rfl 0 rfl rfl) rfl rfl hl.1 rfl (lv_room (Nat.le_of_ble_eq_true rfl)) dX5_partner_21 ⟨Nat.le_of_ble_eq_true rfl, Nat.le_of_ble_eq_true rfl⟩) (fun r_ u_ H locs hw hP hD hS => ?_)
  have hw : r_ = if ¬ (nI i) < nI 0 ∧ ¬ nI X.2.1.2.2.2.2.2 ≤ (nI i) then nI 1 else nI 0 := hw
  subst hw
  refine kv_i (y := nI 1) (if_pos (khas (by omega) (by omega))) ?_
  refine lv_if_ne (tgt := 33) hx hb dX5_partner_24 (by decide) (fun _ => ?_) (fun h => absurd h (by decide))
  refine lv_iconst (v := (-1 : Int32)) hx hb dX5_partner_33 (by decide) ?_
  refine lv_istore_n (lv' := [(3, .int (-1)), (0, .ref (ra 0)), (1, .int (nI k)), (2, .int (nI i))]) hx hb dX5_partner_34 rfl hl (by decide) rfl (fun ls hl => ?_)
  refine lv_iconst (v := nI 0) hx hb dX5_partner_35 (by decide) ?_
  refine lv_istore (lv' := [(4, .int (nI 0)), (3, .int (-1)), (0, .ref (ra 0)), (1, .int (nI k)), (2, .int (nI i))]) hx hb dX5_partner_36 hl (by decide) rfl (fun ls hl => ?_)
  have L_38 : ∀ (n9 : Nat) (f8 : Nat), 8 - f8 = n9 → (f8 ≤ 8) → ∀ (ls : Array Slot) (H : Heap) (locs : List Loc), va_P D vwCl (bkF [mW cy ra (kEn X, T)]) H → va_D A (bkF [mW cy ra (kEn X, T)]) → va_S A s.heap H locs → lv_has ls 5 [(0, .ref (ra 0)), (1, .int (nI k)), (2, .int (nI i)), (4, .int (nI f8)), (3, .int (klst (X.2.2.2.2 i) (nI k) f8))] → W p l e (headSpec wsX5_partner rm_X5_partner).room s m args below meth c H locs 0 0 Q (F0 m 38 ls []) := by
    intro n9
    induction n9 using Nat.strongRecOn with
    | _ n9 ih_38 =>
    intro f8 hm_38 h38_0 ls H locs hP hD hS hl
    refine lv_iload hx hb dX5_partner_38 (lv_at hl 3 rfl) ?_
    refine lv_bipush (v := nI 8) hx hb dX5_partner_40 (by decide) ?_
    refine lv_icmp_ge (tgt := 77) hx hb dX5_partner_42 (by decide) (fun c_42 => ?_) (fun c_42 => ?_)
    · skip
      have c_42 : 8 ≤ f8 := (nI_leI (a := 8) (b := f8) (by omega) (by omega)).mp c_42
      refine lv_aload_n hx hb dX5_partner_77 rfl (lv_at hl 0 rfl) ?_
      refine lv_iload_n hx hb dX5_partner_78 rfl (lv_at hl 4 rfl) ?_
      refine kc_i (Cs := [mW cy ra (kEn X, T)]) (Rs := []) (Bs := [mW cy ra (kEn X, T)]) (Cs' := fun u_ : Unit => [mW cy ra ((kEn X), (T.1, T.2.1, T.2.2.1, nI 0, T.2.2.2.2))]) (Fs := fun u_ : Unit => [mW cy ra ((kEn X), (T.1, T.2.1, T.2.2.1, nI 0, T.2.2.2.2))]) hP hD hS hA [0] [] [0] rfl rfl (by decide) (by decide) (fun _ => rfl) (va_runV (As := [.int (klst (X.2.2.2.2 i) (nI k) f8)]) (rest := []) ⟨hx, hb, hml, hown, hts⟩ (c_X5_fine l D cy ra (kEn X) T (klst (X.2.2.2.2 i) (nI k) f8) H.size) (cwV 1 hts gX5_partner_X5_fine rfl rfl rfl (by decide +kernel) ⟨Nat.le_of_ble_eq_true rfl, Nat.le_of_ble_eq_true rfl⟩) (kPre_V (ci := 5) hK hN hP hD [0] (by decide) rfl 0 rfl rfl) rfl rfl hl.1 rfl (lv_room (Nat.le_of_ble_eq_true rfl)) dX5_partner_79 ⟨Nat.le_of_ble_eq_true rfl, Nat.le_of_ble_eq_true rfl⟩) (fun r_ u_ H locs hw hP hD hS => ?_)
      have hw : r_ = (klst (X.2.2.2.2 i) (nI k) f8) := hw
      subst hw
      exact kr_i (post := fun r_ (u_ : Unit) => r_ = kPt (X.2.2.2.2 i) k) (Bs := fun u_ : Unit => [mW cy ra (kEn X, (T.1, T.2.1, T.2.2.1, nI 0, T.2.2.2.2))]) hx hb hr hlocks rfl () hP hK hD hS (by rw [show f8 = 8 from by omega]; exact klst_f 8 (Nat.le_refl 8) hri) dX5_partner_82 hQ
    · skip
      have c_42 : ¬ (8 ≤ f8) := fun h => c_42 ((nI_leI (a := 8) (b := f8) (by omega) (by omega)).mpr h)
      refine lv_aload_n hx hb dX5_partner_45 rfl (lv_at hl 0 rfl) ?_
      refine va_get (D := D) (ci := 5) (v := .ref (ra 1)) (C := RX5) (T := TX5) (N := 16) hx hb hts (by decide +kernel) hown hK hP 0 rfl rfl 0 (by decide) (hts (.fieldLink RX5 7 "DanceHallModel" "all" "[I") (by decide +kernel)) (fun _ h9 => h9) rfl dX5_partner_46 ?_
      refine lv_bipush (v := nI 28) hx hb dX5_partner_49 (by decide) ?_
      refine lv_bipush (v := nI 8) hx hb dX5_partner_51 (by decide) ?_
      refine lv_iload_n hx hb dX5_partner_53 rfl (lv_at hl 2 rfl) ?_
      refine lv_imul hx hb dX5_partner_54 ?_
      refine kv_i (y := nI (8 * i)) (pk_mul 8 i) ?_
      refine lv_iadd hx hb dX5_partner_55 ?_
      refine kv_i (y := nI (28 + (8 * i))) (nI_add 28 (8 * i)) ?_
      refine lv_iload hx hb dX5_partner_56 (lv_at hl 3 rfl) ?_
      refine lv_iadd hx hb dX5_partner_58 ?_
      refine kv_i (y := nI ((28 + (8 * i)) + f8)) (nI_add (28 + (8 * i)) f8) ?_
      refine va_iald hx hb hK hP 1 0 rfl rfl (vp_in_nI (n := (28 + (8 * i)) + f8) (N := 188) (by omega) (by omega)) dX5_partner_59 ?_
      refine kv_i (y := X.2.2.2.2 i f8) (by rw [nI_clamp (n := (28 + (8 * i)) + f8) (by omega)]; exact (kq_d (by omega) (by omega))) ?_
      refine lv_iload_n hx hb dX5_partner_60 rfl (lv_at hl 1 rfl) ?_
      refine lv_icmp_ne (tgt := 69) hx hb dX5_partner_61 (by decide) (fun c_61 => ?_) (fun c_61 => ?_)
      · skip
        refine lv_iload_n hx hb dX5_partner_69 rfl (lv_at hl 4 rfl) ?_
        refine lv_istore_n (lv' := [(3, .int (klst (X.2.2.2.2 i) (nI k) f8)), (0, .ref (ra 0)), (1, .int (nI k)), (2, .int (nI i)), (4, .int (nI f8))]) hx hb dX5_partner_70 rfl hl (by decide) rfl (fun ls hl => ?_)
        refine lv_iinc (v := nI (f8 + 1)) (lv' := [(4, .int (nI (f8 + 1))), (3, .int (klst (X.2.2.2.2 i) (nI k) f8)), (0, .ref (ra 0)), (1, .int (nI k)), (2, .int (nI i))]) hx hb dX5_partner_71 hl (k := 4) rfl (nI_add f8 1) (by decide) rfl (fun ls hl => ?_)
        refine lv_goto (tgt := 38) hx hb dX5_partner_74 (by decide) ?_
        have hl : lv_has ls 5 [(4, .int (nI (f8 + 1))), (3, .int (klst (X.2.2.2.2 i) (nI k) (f8 + 1))), (0, .ref (ra 0)), (1, .int (nI k)), (2, .int (nI i))] := by rw [show klst (X.2.2.2.2 i) (nI k) (f8 + 1) = klst (X.2.2.2.2 i) (nI k) f8 from (klst_n c_61)]; exact hl
        exact ih_38 _ (by omega) (f8 + 1) rfl (by omega) ls H locs hP hD hS (lv_sub hl [2, 3, 4, 0, 1] rfl)
      · skip
        refine lv_iload hx hb dX5_partner_64 (lv_at hl 3 rfl) ?_
        refine lv_goto (tgt := 70) hx hb dX5_partner_66 (by decide) ?_
        refine lv_istore_n (lv' := [(3, .int (nI f8)), (0, .ref (ra 0)), (1, .int (nI k)), (2, .int (nI i)), (4, .int (nI f8))]) hx hb dX5_partner_70 rfl hl (by decide) rfl (fun ls hl => ?_)
        refine lv_iinc (v := nI (f8 + 1)) (lv' := [(4, .int (nI (f8 + 1))), (3, .int (nI f8)), (0, .ref (ra 0)), (1, .int (nI k)), (2, .int (nI i))]) hx hb dX5_partner_71 hl (k := 4) rfl (nI_add f8 1) (by decide) rfl (fun ls hl => ?_)
        refine lv_goto (tgt := 38) hx hb dX5_partner_74 (by decide) ?_
        have hl : lv_has ls 5 [(4, .int (nI (f8 + 1))), (3, .int (klst (X.2.2.2.2 i) (nI k) (f8 + 1))), (0, .ref (ra 0)), (1, .int (nI k)), (2, .int (nI i))] := by rw [show klst (X.2.2.2.2 i) (nI k) (f8 + 1) = nI f8 from (klst_y c_61)]; exact hl
        exact ih_38 _ (by omega) (f8 + 1) rfl (by omega) ls H locs hP hD hS (lv_sub hl [2, 3, 4, 0, 1] rfl)
  exact L_38 _ 0  rfl (by omega) ls H locs hP hD hS (lv_sub hl [2, 3, 4, 0, 1] rfl)
abbrev rm_X5_partner_i : Room := { frames := 2, cells := 0, slots := 0, locals := 47 }
set_option maxHeartbeats 1000000 in
set_option maxRecDepth 100000 in
/-- partner, none such -/
theorem c_X5_partner_i (l : Launch) (D : va_G) (cy : Nat → ClassId) (ra : Nat → Nat) (X : rS) (T : rV) (k : Int32) (i : Int32) (hnl : X.2.1.2.2.2.2.2 ≤ 8) (hdn : X.1.2.2.2.2.2.2.1 ≤ 30) (hbad : ¬ ((¬ k < nI 0 ∧ ¬ (nI X.1.2.2.2.2.2.2.1 - nI 1) < k) ∧ (¬ i < nI 0 ∧ ¬ nI X.2.1.2.2.2.2.2 ≤ i))) (sz : Nat) : Met l yX5_partner wsX5_partner rm_X5_partner_i (va_Pc [.ref (ra 0), .int k, .int i] (kPre D (kT cy) [mW cy ra (kEn X, T)] sz)) (va_Qi (fun r_ (u_ : Unit) => r_ = nI 0) (kFr D (kT cy) [mW cy ra (kEn X, T)] sz (fun u_ : Unit => [mW cy ra (kEn X, (T.1, T.2.1, T.2.2.1, nI 1, T.2.2.2.2))])) (va_A (bkF [mW cy ra (kEn X, T)]) sz)) 0 0 (va_A (bkF [mW cy ra (kEn X, T)]) sz) := by
  refine kOpen (y := yX5_partner) (ws := wsX5_partner) (cc := cX5_partner) (maxL := 5) (ret := (some .int)) (av := [.ref (ra 0), .int k, .int i]) (Bs := [mW cy ra (kEn X, T)]) (Qc := fun A => (va_Qi (fun r_ (u_ : Unit) => r_ = nI 0) (fun (u_ : Unit) t9 => kEnd D (kT cy) A [mW cy ra (kEn X, (T.1, T.2.1, T.2.2.1, nI 1, T.2.2.2.2))] t9) A)) (by decide) rfl (Nat.le_of_ble_eq_true rfl) ?_
  intro p e s m args below meth c A Q ls hQ hx hb hml hr hlocks hin hts hown hN hK hP hD hS hA hsz hAe hl
  clear hAe
  have hl : lv_has ls 5 [(0, .ref (ra 0)), (1, .int k), (2, .int i)] := hl
  suffices K9 : ∀ (H : Heap) (locs : List Loc), va_P D vwCl (bkF [mW cy ra (kEn X, T)]) H → va_S A s.heap H locs → W p l e (headSpec wsX5_partner rm_X5_partner_i).room s m args below meth c H locs 0 0 Q (F0 m 0 ls []) from K9 _ _ hP hS
  clear hP hS
  intro H locs hP hS
  refine lv_iload_n hx hb dX5_partner_0 rfl (lv_at hl 1 rfl) ?_
  refine lv_i2l (v := k.toInt64) hx hb dX5_partner_1 rfl ?_
  refine lv_lconst (v := 0) hx hb dX5_partner_2 (by decide) ?_
  refine lv_aload_n hx hb dX5_partner_3 rfl (lv_at hl 0 rfl) ?_
  refine va_get (D := D) (ci := 5) (v := .ref (ra 1)) (C := RX5) (T := TX5) (N := 16) hx hb hts (by decide +kernel) hown hK hP 0 rfl rfl 0 (by decide) (hts (.fieldLink RX5 7 "DanceHallModel" "all" "[I") (by decide +kernel)) (fun _ h9 => h9) rfl dX5_partner_4 ?_
  refine lv_iconst (v := nI 5) hx hb dX5_partner_7 (by decide) ?_
  refine va_iald hx hb hK hP 1 0 rfl rfl (vp_in_nI (n := 5) (N := 188) (by omega) (by omega)) dX5_partner_8 ?_
  refine kv_i (y := nI X.1.2.2.2.2.2.2.1) (show ((kEn X)) (nI 5).toNatClampNeg = nI X.1.2.2.2.2.2.2.1 from rfl) ?_
  refine lv_i2l (v := (nI X.1.2.2.2.2.2.2.1).toInt64) hx hb dX5_partner_9 rfl ?_
  refine lv_lconst (v := 1) hx hb dX5_partner_10 (by decide) ?_
  refine lv_lsub hx hb dX5_partner_11 ?_
  refine kc_i (Cs := []) (Rs := [mW cy ra (kEn X, T)]) (Bs := [mW cy ra (kEn X, T)]) (Cs' := fun u_ : Unit => []) (Fs := fun u_ : Unit => [mW cy ra (kEn X, T)]) hP hD hS hA [] [0] [0] rfl rfl (by decide) (by decide) (fun _ => rfl) (va_runS (As := [.long k.toInt64, .long 0, .long (((nI X.1.2.2.2.2.2.2.1).toInt64) - 1)]) (rest := []) ⟨hx, hb, hml, hown, hts⟩ (c_X5_in l D cy k.toInt64 0 (((nI X.1.2.2.2.2.2.2.1).toInt64) - 1) H.size) (va_cwS 3 hts gX5_partner_X5_in rfl rfl rfl (by decide +kernel) ⟨Nat.le_of_ble_eq_true rfl, Nat.le_of_ble_eq_true rfl⟩) (kPre_S hK hN hP hD [] (by decide) rfl) rfl rfl hl.1 rfl (lv_room (Nat.le_of_ble_eq_true rfl)) dX5_partner_12 ⟨Nat.le_of_ble_eq_true rfl, Nat.le_of_ble_eq_true rfl⟩) (fun r_ u_ H locs hw hP hD hS => ?_)
  have hw : r_ = if kIn k.toInt64 0 (((nI X.1.2.2.2.2.2.2.1).toInt64) - 1) then nI 1 else nI 0 := hw
  subst hw
  by_cases b_12 : kIn k.toInt64 0 (((nI X.1.2.2.2.2.2.2.1).toInt64) - 1)
  · refine kv_i (y := nI 1) (if_pos b_12) ?_
    refine lv_if_eq (tgt := 27) hx hb dX5_partner_15 (by decide) (fun h => absurd h (by decide)) (fun _ => ?_)
    refine lv_aload_n hx hb dX5_partner_18 rfl (lv_at hl 0 rfl) ?_
    refine lv_iconst (v := nI 1) hx hb dX5_partner_19 (by decide) ?_
    refine lv_iload_n hx hb dX5_partner_20 rfl (lv_at hl 2 rfl) ?_
    refine kc_i (Cs := [mW cy ra (kEn X, T)]) (Rs := []) (Bs := [mW cy ra (kEn X, T)]) (Cs' := fun u_ : Unit => [mW cy ra (kEn X, T)]) (Fs := fun u_ : Unit => [mW cy ra (kEn X, T)]) hP hD hS hA [0] [] [0] rfl rfl (by decide) (by decide) (fun _ => rfl) (va_runV (As := [.int (nI 1), .int i]) (rest := []) ⟨hx, hb, hml, hown, hts⟩ (c_X5_isGuest_t l D cy ra X T (nI 1) i (by decide) hnl H.size) (cwV 2 hts gX5_partner_X5_isGuest rfl rfl rfl (by decide +kernel) ⟨Nat.le_of_ble_eq_true rfl, Nat.le_of_ble_eq_true rfl⟩) (kPre_V (ci := 5) hK hN hP hD [0] (by decide) rfl 0 rfl rfl) rfl rfl hl.1 rfl (lv_room (Nat.le_of_ble_eq_true rfl)) dX5_partner_21 ⟨Nat.le_of_ble_eq_true rfl, Nat.le_of_ble_eq_true rfl⟩) (fun r_ u_ H locs hw hP hD hS => ?_)
    have hw : r_ = if ¬ i < nI 0 ∧ ¬ nI X.2.1.2.2.2.2.2 ≤ i then nI 1 else nI 0 := hw
    subst hw
    by_cases b_21 : ¬ i < nI 0 ∧ ¬ nI X.2.1.2.2.2.2.2 ≤ i
    · refine kv_i (y := nI 1) (if_pos b_21) ?_
      refine lv_if_ne (tgt := 33) hx hb dX5_partner_24 (by decide) (fun _ => ?_) (fun h => absurd h (by decide))
      exact absurd ⟨(kInP (by omega)).mp b_12, b_21⟩ hbad
    · refine kv_i (y := nI 0) (if_neg b_21) ?_
      refine lv_if_ne (tgt := 33) hx hb dX5_partner_24 (by decide) (fun h => absurd h (by decide)) (fun _ => ?_)
      refine lv_aload_n hx hb dX5_partner_27 rfl (lv_at hl 0 rfl) ?_
      refine lv_iconst (v := nI 1) hx hb dX5_partner_28 (by decide) ?_
      refine kc_i (Cs := [mW cy ra (kEn X, T)]) (Rs := []) (Bs := [mW cy ra (kEn X, T)]) (Cs' := fun u_ : Unit => [mW cy ra ((kEn X), (T.1, T.2.1, T.2.2.1, (nI 1), T.2.2.2.2))]) (Fs := fun u_ : Unit => [mW cy ra ((kEn X), (T.1, T.2.1, T.2.2.1, (nI 1), T.2.2.2.2))]) hP hD hS hA [0] [] [0] rfl rfl (by decide) (by decide) (fun _ => rfl) (va_runV (As := [.int (nI 1)]) (rest := []) ⟨hx, hb, hml, hown, hts⟩ (c_X5_throwing l D cy ra (kEn X) T (nI 1) H.size) (cwV 1 hts gX5_partner_X5_throwing rfl rfl rfl (by decide +kernel) ⟨Nat.le_of_ble_eq_true rfl, Nat.le_of_ble_eq_true rfl⟩) (kPre_V (ci := 5) hK hN hP hD [0] (by decide) rfl 0 rfl rfl) rfl rfl hl.1 rfl (lv_room (Nat.le_of_ble_eq_true rfl)) dX5_partner_29 ⟨Nat.le_of_ble_eq_true rfl, Nat.le_of_ble_eq_true rfl⟩) (fun r_ u_ H locs hw hP hD hS => ?_)
      have hw : r_ = nI 0 := hw
      subst hw
      exact kr_i (post := fun r_ (u_ : Unit) => r_ = nI 0) (Bs := fun u_ : Unit => [mW cy ra (kEn X, (T.1, T.2.1, T.2.2.1, nI 1, T.2.2.2.2))]) hx hb hr hlocks rfl () hP hK hD hS rfl dX5_partner_32 hQ
  · refine kv_i (y := nI 0) (if_neg b_12) ?_
    refine lv_if_eq (tgt := 27) hx hb dX5_partner_15 (by decide) (fun _ => ?_) (fun h => absurd h (by decide))
    refine lv_aload_n hx hb dX5_partner_27 rfl (lv_at hl 0 rfl) ?_
    refine lv_iconst (v := nI 1) hx hb dX5_partner_28 (by decide) ?_
    refine kc_i (Cs := [mW cy ra (kEn X, T)]) (Rs := []) (Bs := [mW cy ra (kEn X, T)]) (Cs' := fun u_ : Unit => [mW cy ra ((kEn X), (T.1, T.2.1, T.2.2.1, (nI 1), T.2.2.2.2))]) (Fs := fun u_ : Unit => [mW cy ra ((kEn X), (T.1, T.2.1, T.2.2.1, (nI 1), T.2.2.2.2))]) hP hD hS hA [0] [] [0] rfl rfl (by decide) (by decide) (fun _ => rfl) (va_runV (As := [.int (nI 1)]) (rest := []) ⟨hx, hb, hml, hown, hts⟩ (c_X5_throwing l D cy ra (kEn X) T (nI 1) H.size) (cwV 1 hts gX5_partner_X5_throwing rfl rfl rfl (by decide +kernel) ⟨Nat.le_of_ble_eq_true rfl, Nat.le_of_ble_eq_true rfl⟩) (kPre_V (ci := 5) hK hN hP hD [0] (by decide) rfl 0 rfl rfl) rfl rfl hl.1 rfl (lv_room (Nat.le_of_ble_eq_true rfl)) dX5_partner_29 ⟨Nat.le_of_ble_eq_true rfl, Nat.le_of_ble_eq_true rfl⟩) (fun r_ u_ H locs hw hP hD hS => ?_)
    have hw : r_ = nI 0 := hw
    subst hw
    exact kr_i (post := fun r_ (u_ : Unit) => r_ = nI 0) (Bs := fun u_ : Unit => [mW cy ra (kEn X, (T.1, T.2.1, T.2.2.1, nI 1, T.2.2.2.2))]) hx hb hr hlocks rfl () hP hK hD hS rfl dX5_partner_32 hQ
abbrev rm_X5_next : Room := { frames := 4, cells := 0, slots := 0, locals := 96 }
set_option maxHeartbeats 1000000 in
set_option maxRecDepth 100000 in
/-- next -/
theorem c_X5_next (l : Launch) (D : va_G) (cy : Nat → ClassId) (ra : Nat → Nat) (X : rS) (T : rV) (i : Nat) (hk : kOkR X) (hoc : kOkC X.1) (hi : i < X.2.1.2.2.2.2.2) (sz : Nat) : Met l yX5_next wsX5_next rm_X5_next (va_Pc [.ref (ra 0), .int (nI i)] (kPre D (kT cy) [mW cy ra (kEn X, T)] sz)) (va_Qi (fun r_ (u_ : Unit) => r_ = kFX X (kro X.1) i) (kFr D (kT cy) [mW cy ra (kEn X, T)] sz (fun u_ : Unit => [mW cy ra (kEn X, (T.1, T.2.1, T.2.2.1, nI 0, kLft T.2.2.2.2.1 X, kLnt X, kCan X, (kVv (kMX X)), kFX X (kro X.1), T.2.2.2.2.2.2.2.2.2))])) (va_A (bkF [mW cy ra (kEn X, T)]) sz)) 0 0 (va_A (bkF [mW cy ra (kEn X, T)]) sz) := by
  refine kOpen (y := yX5_next) (ws := wsX5_next) (cc := cX5_next) (maxL := 3) (ret := (some .int)) (av := [.ref (ra 0), .int (nI i)]) (Bs := [mW cy ra (kEn X, T)]) (Qc := fun A => (va_Qi (fun r_ (u_ : Unit) => r_ = kFX X (kro X.1) i) (fun (u_ : Unit) t9 => kEnd D (kT cy) A [mW cy ra (kEn X, (T.1, T.2.1, T.2.2.1, nI 0, kLft T.2.2.2.2.1 X, kLnt X, kCan X, (kVv (kMX X)), kFX X (kro X.1), T.2.2.2.2.2.2.2.2.2))] t9) A)) (by decide) rfl (Nat.le_of_ble_eq_true rfl) ?_
  intro p e s m args below meth c A Q ls hQ hx hb hml hr hlocks hin hts hown hN hK hP hD hS hA hsz hAe hl
  clear hAe
  have hl : lv_has ls 3 [(0, .ref (ra 0)), (1, .int (nI i))] := hl
  suffices K9 : ∀ (H : Heap) (locs : List Loc), va_P D vwCl (bkF [mW cy ra (kEn X, T)]) H → va_S A s.heap H locs → W p l e (headSpec wsX5_next rm_X5_next).room s m args below meth c H locs 0 0 Q (F0 m 0 ls []) from K9 _ _ hP hS
  clear hP hS
  intro H locs hP hS
  have h8i := hk.1.1
  refine lv_aload_n hx hb dX5_next_0 rfl (lv_at hl 0 rfl) ?_
  refine lv_iconst (v := nI 1) hx hb dX5_next_1 (by decide) ?_
  refine lv_iload_n hx hb dX5_next_2 rfl (lv_at hl 1 rfl) ?_
  refine kc_i (Cs := [mW cy ra (kEn X, T)]) (Rs := []) (Bs := [mW cy ra (kEn X, T)]) (Cs' := fun u_ : Unit => [mW cy ra (kEn X, T)]) (Fs := fun u_ : Unit => [mW cy ra (kEn X, T)]) hP hD hS hA [0] [] [0] rfl rfl (by decide) (by decide) (fun _ => rfl) (va_runV (As := [.int (nI 1), .int (nI i)]) (rest := []) ⟨hx, hb, hml, hown, hts⟩ (c_X5_isGuest_t l D cy ra X T (nI 1) (nI i) (by decide) h8i H.size) (cwV 2 hts gX5_next_X5_isGuest rfl rfl rfl (by decide +kernel) ⟨Nat.le_of_ble_eq_true rfl, Nat.le_of_ble_eq_true rfl⟩) (kPre_V (ci := 5) hK hN hP hD [0] (by decide) rfl 0 rfl rfl) rfl rfl hl.1 rfl (lv_room (Nat.le_of_ble_eq_true rfl)) dX5_next_3 ⟨Nat.le_of_ble_eq_true rfl, Nat.le_of_ble_eq_true rfl⟩) (fun r_ u_ H locs hw hP hD hS => ?_)
  have hw : r_ = if ¬ (nI i) < nI 0 ∧ ¬ nI X.2.1.2.2.2.2.2 ≤ (nI i) then nI 1 else nI 0 := hw
  subst hw
  refine kv_i (y := nI 1) (if_pos (khas (by omega) (by omega))) ?_
  refine lv_if_ne (tgt := 15) hx hb dX5_next_6 (by decide) (fun _ => ?_) (fun h => absurd h (by decide))
  refine lv_aload_n hx hb dX5_next_15 rfl (lv_at hl 0 rfl) ?_
  refine lv_aload_n hx hb dX5_next_16 rfl (lv_at hl 0 rfl) ?_
  refine va_get (D := D) (ci := 5) (v := .ref (ra 1)) (C := RX5) (T := TX5) (N := 16) hx hb hts (by decide +kernel) hown hK hP 0 rfl rfl 0 (by decide) (hts (.fieldLink RX5 7 "DanceHallModel" "all" "[I") (by decide +kernel)) (fun _ h9 => h9) rfl dX5_next_17 ?_
  refine lv_iconst (v := nI 2) hx hb dX5_next_20 (by decide) ?_
  refine va_iald hx hb hK hP 1 0 rfl rfl (vp_in_nI (n := 2) (N := 188) (by omega) (by omega)) dX5_next_21 ?_
  refine kv_i (y := nI X.1.1) (show ((kEn X)) (nI 2).toNatClampNeg = nI X.1.1 from rfl) ?_
  refine kc_i (Cs := [mW cy ra (kEn X, T)]) (Rs := []) (Bs := [mW cy ra (kEn X, T)]) (Cs' := fun u_ : Unit => [mW cy ra (kEn X, (T.1, T.2.1, T.2.2.1, T.2.2.2.1, kLft T.2.2.2.2.1 X, kLnt X, kCan X, (kVv (kMX X)), kFX X (2 * min X.1.1 (X.1.2.1 / 2)), T.2.2.2.2.2.2.2.2.2))]) (Fs := fun u_ : Unit => [mW cy ra (kEn X, (T.1, T.2.1, T.2.2.1, T.2.2.2.1, kLft T.2.2.2.2.1 X, kLnt X, kCan X, (kVv (kMX X)), kFX X (2 * min X.1.1 (X.1.2.1 / 2)), T.2.2.2.2.2.2.2.2.2))]) hP hD hS hA [0] [] [0] rfl rfl (by decide) (by decide) (fun _ => rfl) (va_runV (As := [.int (nI X.1.1)]) (rest := []) ⟨hx, hb, hml, hown, hts⟩ (c_X5_chooses l D cy ra X T X.1.1 hk hoc.1 hoc.2.1 H.size) (cwV 1 hts gX5_next_X5_chooses rfl rfl rfl (by decide +kernel) ⟨Nat.le_of_ble_eq_true rfl, Nat.le_of_ble_eq_true rfl⟩) (kPre_V (ci := 5) hK hN hP hD [0] (by decide) rfl 0 rfl rfl) rfl rfl hl.1 rfl (lv_room (Nat.le_of_ble_eq_true rfl)) dX5_next_22 ⟨Nat.le_of_ble_eq_true rfl, Nat.le_of_ble_eq_true rfl⟩) (fun r_ u_ H locs hw hP hD hS => ?_)
  have hw : r_ = nI (kCX X (2 * min X.1.1 (X.1.2.1 / 2))) := hw
  subst hw
  refine kv_i (y := nI (kCX X (kro X.1))) rfl ?_
  rw [show 2 * min X.1.1 (X.1.2.1 / 2) = kro X.1 from rfl] at hP hD
  obtain ⟨fo9, hfo⟩ : ∃ fo9, fo9 = kFX X (kro X.1) := ⟨_, rfl⟩
  rw [← hfo] at hP hD
  have hP : va_P D vwCl (bkF [mW cy ra (kEn X, (T.1, T.2.1, T.2.2.1, T.2.2.2.1, kLft T.2.2.2.2.1 X, kLnt X, kCan X, (kVv (kMX X)), fo9, T.2.2.2.2.2.2.2.2.2))]) H := hP
  have hD : va_D A (bkF [mW cy ra (kEn X, (T.1, T.2.1, T.2.2.1, T.2.2.2.1, kLft T.2.2.2.2.1 X, kLnt X, kCan X, (kVv (kMX X)), fo9, T.2.2.2.2.2.2.2.2.2))]) := hD
  refine lv_istore_n (lv' := [(2, .int (nI (kCX X (kro X.1)))), (0, .ref (ra 0)), (1, .int (nI i))]) hx hb dX5_next_25 rfl hl (by decide) rfl (fun ls hl => ?_)
  refine lv_aload_n hx hb dX5_next_26 rfl (lv_at hl 1 rfl) ?_
  refine lv_iload_n hx hb dX5_next_27 rfl (lv_at hl 0 rfl) ?_
  have hc8 : kCX X (kro X.1) ≤ 8 := kCx_le _ _ _ _ _
  refine lv_if_le (tgt := 40) hx hb dX5_next_28 (by decide) (fun c_28 => ?_) (fun c_28 => ?_)
  · skip
    have c_28 : (kCX X (kro X.1)) ≤ 0 := (nI_leI (a := kCX X (kro X.1)) (b := 0) (by omega) (by omega)).mp c_28
    refine lv_iconst (v := (-1 : Int32)) hx hb dX5_next_40 (by decide) ?_
    refine kc_i (Cs := [mW cy ra (kEn X, (T.1, T.2.1, T.2.2.1, T.2.2.2.1, kLft T.2.2.2.2.1 X, kLnt X, kCan X, (kVv (kMX X)), fo9, T.2.2.2.2.2.2.2.2.2))]) (Rs := []) (Bs := [mW cy ra (kEn X, (T.1, T.2.1, T.2.2.1, T.2.2.2.1, kLft T.2.2.2.2.1 X, kLnt X, kCan X, (kVv (kMX X)), fo9, T.2.2.2.2.2.2.2.2.2))]) (Cs' := fun u_ : Unit => [mW cy ra ((kEn X), (T.1, T.2.1, T.2.2.1, nI 0, (kLft T.2.2.2.2.1 X), (kLnt X), (kCan X), (kVv (kMX X)), fo9, T.2.2.2.2.2.2.2.2.2))]) (Fs := fun u_ : Unit => [mW cy ra ((kEn X), (T.1, T.2.1, T.2.2.1, nI 0, (kLft T.2.2.2.2.1 X), (kLnt X), (kCan X), (kVv (kMX X)), fo9, T.2.2.2.2.2.2.2.2.2))]) hP hD hS hA [0] [] [0] rfl rfl (by decide) (by decide) (fun _ => rfl) (va_runV (As := [.int (-1)]) (rest := []) ⟨hx, hb, hml, hown, hts⟩ (c_X5_fine l D cy ra (kEn X) (T.1, T.2.1, T.2.2.1, T.2.2.2.1, kLft T.2.2.2.2.1 X, kLnt X, kCan X, (kVv (kMX X)), fo9, T.2.2.2.2.2.2.2.2.2) (-1) H.size) (cwV 1 hts gX5_next_X5_fine rfl rfl rfl (by decide +kernel) ⟨Nat.le_of_ble_eq_true rfl, Nat.le_of_ble_eq_true rfl⟩) (kPre_V (ci := 5) hK hN hP hD [0] (by decide) rfl 0 rfl rfl) rfl rfl hl.1 rfl (lv_room (Nat.le_of_ble_eq_true rfl)) dX5_next_41 ⟨Nat.le_of_ble_eq_true rfl, Nat.le_of_ble_eq_true rfl⟩) (fun r_ u_ H locs hw hP hD hS => ?_)
    have hw : r_ = (-1) := hw
    subst hw
    rw [hfo] at hP hD
    have hP : va_P D vwCl (bkF [mW cy ra ((kEn X), (T.1, T.2.1, T.2.2.1, nI 0, (kLft T.2.2.2.2.1 X), (kLnt X), (kCan X), (kVv (kMX X)), kFX X (kro X.1), T.2.2.2.2.2.2.2.2.2))]) H := hP
    have hD : va_D A (bkF [mW cy ra ((kEn X), (T.1, T.2.1, T.2.2.1, nI 0, (kLft T.2.2.2.2.1 X), (kLnt X), (kCan X), (kVv (kMX X)), kFX X (kro X.1), T.2.2.2.2.2.2.2.2.2))]) := hD
    exact kr_i (post := fun r_ (u_ : Unit) => r_ = kFX X (kro X.1) i) (Bs := fun u_ : Unit => [mW cy ra (kEn X, (T.1, T.2.1, T.2.2.1, nI 0, kLft T.2.2.2.2.1 X, kLnt X, kCan X, (kVv (kMX X)), kFX X (kro X.1), T.2.2.2.2.2.2.2.2.2))]) hx hb hr hlocks rfl () hP hK hD hS (kFX_0 c_28 (by omega)).symm dX5_next_44 hQ
  · skip
    have c_28 : ¬ ((kCX X (kro X.1)) ≤ 0) := fun h => c_28 ((nI_leI (a := kCX X (kro X.1)) (b := 0) (by omega) (by omega)).mpr h)
    refine lv_aload_n hx hb dX5_next_31 rfl (lv_at hl 1 rfl) ?_
    refine va_get (D := D) (ci := 5) (v := .ref (ra 8)) (C := RX5) (T := TX5) (N := 16) hx hb hts (by decide +kernel) hown hK hP 0 rfl rfl 9 (by decide) (hts (.fieldLink RX5 32 "DanceHallModel" "chosen" "[I") (by decide +kernel)) (fun _ h9 => h9) rfl dX5_next_32 ?_
    refine lv_iload_n hx hb dX5_next_35 rfl (lv_at hl 2 rfl) ?_
    refine va_iald hx hb hK hP 8 0 rfl rfl (vp_in_nI (n := i) (N := 8) (by omega) (by omega)) dX5_next_36 ?_
    refine kv_i (y := kFX X (kro X.1) i) (by rw [nI_clamp (n := i) (by omega)]; exact (congrFun hfo i)) ?_
    refine lv_goto (tgt := 41) hx hb dX5_next_37 (by decide) ?_
    refine kc_i (Cs := [mW cy ra (kEn X, (T.1, T.2.1, T.2.2.1, T.2.2.2.1, kLft T.2.2.2.2.1 X, kLnt X, kCan X, (kVv (kMX X)), fo9, T.2.2.2.2.2.2.2.2.2))]) (Rs := []) (Bs := [mW cy ra (kEn X, (T.1, T.2.1, T.2.2.1, T.2.2.2.1, kLft T.2.2.2.2.1 X, kLnt X, kCan X, (kVv (kMX X)), fo9, T.2.2.2.2.2.2.2.2.2))]) (Cs' := fun u_ : Unit => [mW cy ra ((kEn X), (T.1, T.2.1, T.2.2.1, nI 0, (kLft T.2.2.2.2.1 X), (kLnt X), (kCan X), (kVv (kMX X)), fo9, T.2.2.2.2.2.2.2.2.2))]) (Fs := fun u_ : Unit => [mW cy ra ((kEn X), (T.1, T.2.1, T.2.2.1, nI 0, (kLft T.2.2.2.2.1 X), (kLnt X), (kCan X), (kVv (kMX X)), fo9, T.2.2.2.2.2.2.2.2.2))]) hP hD hS hA [0] [] [0] rfl rfl (by decide) (by decide) (fun _ => rfl) (va_runV (As := [.int (kFX X (kro X.1) i)]) (rest := []) ⟨hx, hb, hml, hown, hts⟩ (c_X5_fine l D cy ra (kEn X) (T.1, T.2.1, T.2.2.1, T.2.2.2.1, kLft T.2.2.2.2.1 X, kLnt X, kCan X, (kVv (kMX X)), fo9, T.2.2.2.2.2.2.2.2.2) (kFX X (kro X.1) i) H.size) (cwV 1 hts gX5_next_X5_fine rfl rfl rfl (by decide +kernel) ⟨Nat.le_of_ble_eq_true rfl, Nat.le_of_ble_eq_true rfl⟩) (kPre_V (ci := 5) hK hN hP hD [0] (by decide) rfl 0 rfl rfl) rfl rfl hl.1 rfl (lv_room (Nat.le_of_ble_eq_true rfl)) dX5_next_41 ⟨Nat.le_of_ble_eq_true rfl, Nat.le_of_ble_eq_true rfl⟩) (fun r_ u_ H locs hw hP hD hS => ?_)
    have hw : r_ = (kFX X (kro X.1) i) := hw
    subst hw
    rw [hfo] at hP hD
    have hP : va_P D vwCl (bkF [mW cy ra ((kEn X), (T.1, T.2.1, T.2.2.1, nI 0, (kLft T.2.2.2.2.1 X), (kLnt X), (kCan X), (kVv (kMX X)), kFX X (kro X.1), T.2.2.2.2.2.2.2.2.2))]) H := hP
    have hD : va_D A (bkF [mW cy ra ((kEn X), (T.1, T.2.1, T.2.2.1, nI 0, (kLft T.2.2.2.2.1 X), (kLnt X), (kCan X), (kVv (kMX X)), kFX X (kro X.1), T.2.2.2.2.2.2.2.2.2))]) := hD
    exact kr_i (post := fun r_ (u_ : Unit) => r_ = kFX X (kro X.1) i) (Bs := fun u_ : Unit => [mW cy ra (kEn X, (T.1, T.2.1, T.2.2.1, nI 0, kLft T.2.2.2.2.1 X, kLnt X, kCan X, (kVv (kMX X)), kFX X (kro X.1), T.2.2.2.2.2.2.2.2.2))]) hx hb hr hlocks rfl () hP hK hD hS rfl dX5_next_44 hQ
abbrev rm_X5_next_i : Room := { frames := 2, cells := 0, slots := 0, locals := 47 }
set_option maxHeartbeats 1000000 in
set_option maxRecDepth 100000 in
/-- next, no leader -/
theorem c_X5_next_i (l : Launch) (D : va_G) (cy : Nat → ClassId) (ra : Nat → Nat) (X : rS) (T : rV) (i : Int32) (hnl : X.2.1.2.2.2.2.2 ≤ 8) (hbad : ¬ (¬ i < nI 0 ∧ ¬ nI X.2.1.2.2.2.2.2 ≤ i)) (sz : Nat) : Met l yX5_next wsX5_next rm_X5_next_i (va_Pc [.ref (ra 0), .int i] (kPre D (kT cy) [mW cy ra (kEn X, T)] sz)) (va_Qi (fun r_ (u_ : Unit) => r_ = nI 0) (kFr D (kT cy) [mW cy ra (kEn X, T)] sz (fun u_ : Unit => [mW cy ra (kEn X, (T.1, T.2.1, T.2.2.1, nI 1, T.2.2.2.2))])) (va_A (bkF [mW cy ra (kEn X, T)]) sz)) 0 0 (va_A (bkF [mW cy ra (kEn X, T)]) sz) := by
  refine kOpen (y := yX5_next) (ws := wsX5_next) (cc := cX5_next) (maxL := 3) (ret := (some .int)) (av := [.ref (ra 0), .int i]) (Bs := [mW cy ra (kEn X, T)]) (Qc := fun A => (va_Qi (fun r_ (u_ : Unit) => r_ = nI 0) (fun (u_ : Unit) t9 => kEnd D (kT cy) A [mW cy ra (kEn X, (T.1, T.2.1, T.2.2.1, nI 1, T.2.2.2.2))] t9) A)) (by decide) rfl (Nat.le_of_ble_eq_true rfl) ?_
  intro p e s m args below meth c A Q ls hQ hx hb hml hr hlocks hin hts hown hN hK hP hD hS hA hsz hAe hl
  clear hAe
  have hl : lv_has ls 3 [(0, .ref (ra 0)), (1, .int i)] := hl
  suffices K9 : ∀ (H : Heap) (locs : List Loc), va_P D vwCl (bkF [mW cy ra (kEn X, T)]) H → va_S A s.heap H locs → W p l e (headSpec wsX5_next rm_X5_next_i).room s m args below meth c H locs 0 0 Q (F0 m 0 ls []) from K9 _ _ hP hS
  clear hP hS
  intro H locs hP hS
  refine lv_aload_n hx hb dX5_next_0 rfl (lv_at hl 0 rfl) ?_
  refine lv_iconst (v := nI 1) hx hb dX5_next_1 (by decide) ?_
  refine lv_iload_n hx hb dX5_next_2 rfl (lv_at hl 1 rfl) ?_
  refine kc_i (Cs := [mW cy ra (kEn X, T)]) (Rs := []) (Bs := [mW cy ra (kEn X, T)]) (Cs' := fun u_ : Unit => [mW cy ra (kEn X, T)]) (Fs := fun u_ : Unit => [mW cy ra (kEn X, T)]) hP hD hS hA [0] [] [0] rfl rfl (by decide) (by decide) (fun _ => rfl) (va_runV (As := [.int (nI 1), .int i]) (rest := []) ⟨hx, hb, hml, hown, hts⟩ (c_X5_isGuest_t l D cy ra X T (nI 1) i (by decide) hnl H.size) (cwV 2 hts gX5_next_X5_isGuest rfl rfl rfl (by decide +kernel) ⟨Nat.le_of_ble_eq_true rfl, Nat.le_of_ble_eq_true rfl⟩) (kPre_V (ci := 5) hK hN hP hD [0] (by decide) rfl 0 rfl rfl) rfl rfl hl.1 rfl (lv_room (Nat.le_of_ble_eq_true rfl)) dX5_next_3 ⟨Nat.le_of_ble_eq_true rfl, Nat.le_of_ble_eq_true rfl⟩) (fun r_ u_ H locs hw hP hD hS => ?_)
  have hw : r_ = if ¬ i < nI 0 ∧ ¬ nI X.2.1.2.2.2.2.2 ≤ i then nI 1 else nI 0 := hw
  subst hw
  refine kv_i (y := nI 0) (if_neg hbad) ?_
  refine lv_if_ne (tgt := 15) hx hb dX5_next_6 (by decide) (fun h => absurd h (by decide)) (fun _ => ?_)
  refine lv_aload_n hx hb dX5_next_9 rfl (lv_at hl 0 rfl) ?_
  refine lv_iconst (v := nI 1) hx hb dX5_next_10 (by decide) ?_
  refine kc_i (Cs := [mW cy ra (kEn X, T)]) (Rs := []) (Bs := [mW cy ra (kEn X, T)]) (Cs' := fun u_ : Unit => [mW cy ra ((kEn X), (T.1, T.2.1, T.2.2.1, (nI 1), T.2.2.2.2))]) (Fs := fun u_ : Unit => [mW cy ra ((kEn X), (T.1, T.2.1, T.2.2.1, (nI 1), T.2.2.2.2))]) hP hD hS hA [0] [] [0] rfl rfl (by decide) (by decide) (fun _ => rfl) (va_runV (As := [.int (nI 1)]) (rest := []) ⟨hx, hb, hml, hown, hts⟩ (c_X5_throwing l D cy ra (kEn X) T (nI 1) H.size) (cwV 1 hts gX5_next_X5_throwing rfl rfl rfl (by decide +kernel) ⟨Nat.le_of_ble_eq_true rfl, Nat.le_of_ble_eq_true rfl⟩) (kPre_V (ci := 5) hK hN hP hD [0] (by decide) rfl 0 rfl rfl) rfl rfl hl.1 rfl (lv_room (Nat.le_of_ble_eq_true rfl)) dX5_next_11 ⟨Nat.le_of_ble_eq_true rfl, Nat.le_of_ble_eq_true rfl⟩) (fun r_ u_ H locs hw hP hD hS => ?_)
  have hw : r_ = nI 0 := hw
  subst hw
  exact kr_i (post := fun r_ (u_ : Unit) => r_ = nI 0) (Bs := fun u_ : Unit => [mW cy ra (kEn X, (T.1, T.2.1, T.2.2.1, nI 1, T.2.2.2.2))]) hx hb hr hlocks rfl () hP hK hD hS rfl dX5_next_14 hQ
abbrev rm_X5_couplesWith : Room := { frames := 4, cells := 0, slots := 0, locals := 96 }
set_option maxHeartbeats 1000000 in
set_option maxRecDepth 100000 in
/-- couplesWith -/
theorem c_X5_couplesWith (l : Launch) (D : va_G) (cy : Nat → ClassId) (ra : Nat → Nat) (X : rS) (T : rV) (k9 : Nat) (hk : kOkR X) (hk1 : 1 ≤ k9) (hk6 : k9 ≤ 6) (ho9 : X.1.2.1 ≤ 999) (sz : Nat) : Met l yX5_couplesWith wsX5_couplesWith rm_X5_couplesWith (va_Pc [.ref (ra 0), .int (nI k9)] (kPre D (kT cy) [mW cy ra (kEn X, T)] sz)) (va_Qi (fun r_ (u_ : Unit) => r_ = nI (kCX X (2 * min k9 (X.1.2.1 / 2)))) (kFr D (kT cy) [mW cy ra (kEn X, T)] sz (fun u_ : Unit => [mW cy ra (kEn X, (T.1, T.2.1, T.2.2.1, nI 0, kLft T.2.2.2.2.1 X, kLnt X, kCan X, (kVv (kMX X)), kFX X (2 * min k9 (X.1.2.1 / 2)), T.2.2.2.2.2.2.2.2.2))])) (va_A (bkF [mW cy ra (kEn X, T)]) sz)) 0 0 (va_A (bkF [mW cy ra (kEn X, T)]) sz) := by
  refine kOpen (y := yX5_couplesWith) (ws := wsX5_couplesWith) (cc := cX5_couplesWith) (maxL := 2) (ret := (some .int)) (av := [.ref (ra 0), .int (nI k9)]) (Bs := [mW cy ra (kEn X, T)]) (Qc := fun A => (va_Qi (fun r_ (u_ : Unit) => r_ = nI (kCX X (2 * min k9 (X.1.2.1 / 2)))) (fun (u_ : Unit) t9 => kEnd D (kT cy) A [mW cy ra (kEn X, (T.1, T.2.1, T.2.2.1, nI 0, kLft T.2.2.2.2.1 X, kLnt X, kCan X, (kVv (kMX X)), kFX X (2 * min k9 (X.1.2.1 / 2)), T.2.2.2.2.2.2.2.2.2))] t9) A)) (by decide) rfl (Nat.le_of_ble_eq_true rfl) ?_
  intro p e s m args below meth c A Q ls hQ hx hb hml hr hlocks hin hts hown hN hK hP hD hS hA hsz hAe hl
  clear hAe
  have hl : lv_has ls 2 [(0, .ref (ra 0)), (1, .int (nI k9))] := hl
  suffices K9 : ∀ (H : Heap) (locs : List Loc), va_P D vwCl (bkF [mW cy ra (kEn X, T)]) H → va_S A s.heap H locs → W p l e (headSpec wsX5_couplesWith rm_X5_couplesWith).room s m args below meth c H locs 0 0 Q (F0 m 0 ls []) from K9 _ _ hP hS
  clear hP hS
  intro H locs hP hS
  refine lv_iload_n hx hb dX5_couplesWith_0 rfl (lv_at hl 1 rfl) ?_
  refine lv_i2l (v := (nI k9).toInt64) hx hb dX5_couplesWith_1 rfl ?_
  refine lv_lconst (v := 1) hx hb dX5_couplesWith_2 (by decide) ?_
  refine lv_ldc2 hx hb hown (hts (.constantLong RX5 94 (6)) (by decide +kernel)) dX5_couplesWith_3 ?_
  refine kc_i (Cs := []) (Rs := [mW cy ra (kEn X, T)]) (Bs := [mW cy ra (kEn X, T)]) (Cs' := fun u_ : Unit => []) (Fs := fun u_ : Unit => [mW cy ra (kEn X, T)]) hP hD hS hA [] [0] [0] rfl rfl (by decide) (by decide) (fun _ => rfl) (va_runS (As := [.long ((nI k9).toInt64), .long 1, .long (6)]) (rest := []) ⟨hx, hb, hml, hown, hts⟩ (c_X5_in l D cy ((nI k9).toInt64) 1 (6) H.size) (va_cwS 3 hts gX5_couplesWith_X5_in rfl rfl rfl (by decide +kernel) ⟨Nat.le_of_ble_eq_true rfl, Nat.le_of_ble_eq_true rfl⟩) (kPre_S hK hN hP hD [] (by decide) rfl) rfl rfl hl.1 rfl (lv_room (Nat.le_of_ble_eq_true rfl)) dX5_couplesWith_6 ⟨Nat.le_of_ble_eq_true rfl, Nat.le_of_ble_eq_true rfl⟩) (fun r_ u_ H locs hw hP hD hS => ?_)
  have hw : r_ = if kIn ((nI k9).toInt64) 1 (6) then nI 1 else nI 0 := hw
  subst hw
  refine kv_i (y := nI 1) (if_pos ((kIn32 (y := nI 1) (z := nI 6) (by decide) (by decide)).mpr (kwin (by omega) (by omega) (by decide)))) ?_
  refine lv_if_eq (tgt := 24) hx hb dX5_couplesWith_9 (by decide) (fun h => absurd h (by decide)) (fun _ => ?_)
  refine lv_aload_n hx hb dX5_couplesWith_12 rfl (lv_at hl 0 rfl) ?_
  refine lv_aload_n hx hb dX5_couplesWith_13 rfl (lv_at hl 0 rfl) ?_
  refine lv_iload_n hx hb dX5_couplesWith_14 rfl (lv_at hl 1 rfl) ?_
  refine kc_i (Cs := [mW cy ra (kEn X, T)]) (Rs := []) (Bs := [mW cy ra (kEn X, T)]) (Cs' := fun u_ : Unit => [mW cy ra (kEn X, (T.1, T.2.1, T.2.2.1, T.2.2.2.1, kLft T.2.2.2.2.1 X, kLnt X, kCan X, (kVv (kMX X)), kFX X (2 * min k9 (X.1.2.1 / 2)), T.2.2.2.2.2.2.2.2.2))]) (Fs := fun u_ : Unit => [mW cy ra (kEn X, (T.1, T.2.1, T.2.2.1, T.2.2.2.1, kLft T.2.2.2.2.1 X, kLnt X, kCan X, (kVv (kMX X)), kFX X (2 * min k9 (X.1.2.1 / 2)), T.2.2.2.2.2.2.2.2.2))]) hP hD hS hA [0] [] [0] rfl rfl (by decide) (by decide) (fun _ => rfl) (va_runV (As := [.int (nI k9)]) (rest := [.ref (ra 0)]) ⟨hx, hb, hml, hown, hts⟩ (c_X5_chooses l D cy ra X T k9 hk hk6 ho9 H.size) (cwV 1 hts gX5_couplesWith_X5_chooses rfl rfl rfl (by decide +kernel) ⟨Nat.le_of_ble_eq_true rfl, Nat.le_of_ble_eq_true rfl⟩) (kPre_V (ci := 5) hK hN hP hD [0] (by decide) rfl 0 rfl rfl) rfl rfl hl.1 rfl (lv_room (Nat.le_of_ble_eq_true rfl)) dX5_couplesWith_15 ⟨Nat.le_of_ble_eq_true rfl, Nat.le_of_ble_eq_true rfl⟩) (fun r_ u_ H locs hw hP hD hS => ?_)
  have hw : r_ = nI (kCX X (2 * min k9 (X.1.2.1 / 2))) := hw
  subst hw
  refine kc_i (Cs := [mW cy ra (kEn X, (T.1, T.2.1, T.2.2.1, T.2.2.2.1, kLft T.2.2.2.2.1 X, kLnt X, kCan X, (kVv (kMX X)), kFX X (2 * min k9 (X.1.2.1 / 2)), T.2.2.2.2.2.2.2.2.2))]) (Rs := []) (Bs := [mW cy ra (kEn X, (T.1, T.2.1, T.2.2.1, T.2.2.2.1, kLft T.2.2.2.2.1 X, kLnt X, kCan X, (kVv (kMX X)), kFX X (2 * min k9 (X.1.2.1 / 2)), T.2.2.2.2.2.2.2.2.2))]) (Cs' := fun u_ : Unit => [mW cy ra ((kEn X), (T.1, T.2.1, T.2.2.1, nI 0, (kLft T.2.2.2.2.1 X), (kLnt X), (kCan X), (kVv (kMX X)), (kFX X (2 * min k9 (X.1.2.1 / 2))), T.2.2.2.2.2.2.2.2.2))]) (Fs := fun u_ : Unit => [mW cy ra ((kEn X), (T.1, T.2.1, T.2.2.1, nI 0, (kLft T.2.2.2.2.1 X), (kLnt X), (kCan X), (kVv (kMX X)), (kFX X (2 * min k9 (X.1.2.1 / 2))), T.2.2.2.2.2.2.2.2.2))]) hP hD hS hA [0] [] [0] rfl rfl (by decide) (by decide) (fun _ => rfl) (va_runV (As := [.int (nI (kCX X (2 * min k9 (X.1.2.1 / 2))))]) (rest := []) ⟨hx, hb, hml, hown, hts⟩ (c_X5_fine l D cy ra (kEn X) (T.1, T.2.1, T.2.2.1, T.2.2.2.1, kLft T.2.2.2.2.1 X, kLnt X, kCan X, (kVv (kMX X)), kFX X (2 * min k9 (X.1.2.1 / 2)), T.2.2.2.2.2.2.2.2.2) (nI (kCX X (2 * min k9 (X.1.2.1 / 2)))) H.size) (cwV 1 hts gX5_couplesWith_X5_fine rfl rfl rfl (by decide +kernel) ⟨Nat.le_of_ble_eq_true rfl, Nat.le_of_ble_eq_true rfl⟩) (kPre_V (ci := 5) hK hN hP hD [0] (by decide) rfl 0 rfl rfl) rfl rfl hl.1 rfl (lv_room (Nat.le_of_ble_eq_true rfl)) dX5_couplesWith_18 ⟨Nat.le_of_ble_eq_true rfl, Nat.le_of_ble_eq_true rfl⟩) (fun r_ u_ H locs hw hP hD hS => ?_)
  have hw : r_ = (nI (kCX X (2 * min k9 (X.1.2.1 / 2)))) := hw
  subst hw
  refine lv_goto (tgt := 29) hx hb dX5_couplesWith_21 (by decide) ?_
  exact kr_i (post := fun r_ (u_ : Unit) => r_ = nI (kCX X (2 * min k9 (X.1.2.1 / 2)))) (Bs := fun u_ : Unit => [mW cy ra (kEn X, (T.1, T.2.1, T.2.2.1, nI 0, kLft T.2.2.2.2.1 X, kLnt X, kCan X, (kVv (kMX X)), kFX X (2 * min k9 (X.1.2.1 / 2)), T.2.2.2.2.2.2.2.2.2))]) hx hb hr hlocks rfl () hP hK hD hS rfl dX5_couplesWith_29 hQ
abbrev rm_X5_couplesWith_a : Room := { frames := 1, cells := 0, slots := 0, locals := 25 }
set_option maxHeartbeats 1000000 in
set_option maxRecDepth 100000 in
/-- couplesWith, out of range -/
theorem c_X5_couplesWith_a (l : Launch) (D : va_G) (cy : Nat → ClassId) (ra : Nat → Nat) (X : rS) (T : rV) (k9 : Int32) (hbad : ¬ (¬ k9 < nI 1 ∧ ¬ nI 6 < k9)) (sz : Nat) : Met l yX5_couplesWith wsX5_couplesWith rm_X5_couplesWith_a (va_Pc [.ref (ra 0), .int k9] (kPre D (kT cy) [mW cy ra (kEn X, T)] sz)) (va_Qi (fun r_ (u_ : Unit) => r_ = nI 0) (kFr D (kT cy) [mW cy ra (kEn X, T)] sz (fun u_ : Unit => [mW cy ra (kEn X, (T.1, T.2.1, T.2.2.1, nI 1, T.2.2.2.2))])) (va_A (bkF [mW cy ra (kEn X, T)]) sz)) 0 0 (va_A (bkF [mW cy ra (kEn X, T)]) sz) := by
  refine kOpen (y := yX5_couplesWith) (ws := wsX5_couplesWith) (cc := cX5_couplesWith) (maxL := 2) (ret := (some .int)) (av := [.ref (ra 0), .int k9]) (Bs := [mW cy ra (kEn X, T)]) (Qc := fun A => (va_Qi (fun r_ (u_ : Unit) => r_ = nI 0) (fun (u_ : Unit) t9 => kEnd D (kT cy) A [mW cy ra (kEn X, (T.1, T.2.1, T.2.2.1, nI 1, T.2.2.2.2))] t9) A)) (by decide) rfl (Nat.le_of_ble_eq_true rfl) ?_
  intro p e s m args below meth c A Q ls hQ hx hb hml hr hlocks hin hts hown hN hK hP hD hS hA hsz hAe hl
  clear hAe
  have hl : lv_has ls 2 [(0, .ref (ra 0)), (1, .int k9)] := hl
  suffices K9 : ∀ (H : Heap) (locs : List Loc), va_P D vwCl (bkF [mW cy ra (kEn X, T)]) H → va_S A s.heap H locs → W p l e (headSpec wsX5_couplesWith rm_X5_couplesWith_a).room s m args below meth c H locs 0 0 Q (F0 m 0 ls []) from K9 _ _ hP hS
  clear hP hS
  intro H locs hP hS
  refine lv_iload_n hx hb dX5_couplesWith_0 rfl (lv_at hl 1 rfl) ?_
  refine lv_i2l (v := k9.toInt64) hx hb dX5_couplesWith_1 rfl ?_
  refine lv_lconst (v := 1) hx hb dX5_couplesWith_2 (by decide) ?_
  refine lv_ldc2 hx hb hown (hts (.constantLong RX5 94 (6)) (by decide +kernel)) dX5_couplesWith_3 ?_
  refine kc_i (Cs := []) (Rs := [mW cy ra (kEn X, T)]) (Bs := [mW cy ra (kEn X, T)]) (Cs' := fun u_ : Unit => []) (Fs := fun u_ : Unit => [mW cy ra (kEn X, T)]) hP hD hS hA [] [0] [0] rfl rfl (by decide) (by decide) (fun _ => rfl) (va_runS (As := [.long k9.toInt64, .long 1, .long (6)]) (rest := []) ⟨hx, hb, hml, hown, hts⟩ (c_X5_in l D cy k9.toInt64 1 (6) H.size) (va_cwS 3 hts gX5_couplesWith_X5_in rfl rfl rfl (by decide +kernel) ⟨Nat.le_of_ble_eq_true rfl, Nat.le_of_ble_eq_true rfl⟩) (kPre_S hK hN hP hD [] (by decide) rfl) rfl rfl hl.1 rfl (lv_room (Nat.le_of_ble_eq_true rfl)) dX5_couplesWith_6 ⟨Nat.le_of_ble_eq_true rfl, Nat.le_of_ble_eq_true rfl⟩) (fun r_ u_ H locs hw hP hD hS => ?_)
  have hw : r_ = if kIn k9.toInt64 1 (6) then nI 1 else nI 0 := hw
  subst hw
  refine kv_i (y := nI 0) (if_neg (fun h => hbad ((kIn32 (y := nI 1) (z := nI 6) (by decide) (by decide)).mp h))) ?_
  refine lv_if_eq (tgt := 24) hx hb dX5_couplesWith_9 (by decide) (fun _ => ?_) (fun h => absurd h (by decide))
  refine lv_aload_n hx hb dX5_couplesWith_24 rfl (lv_at hl 0 rfl) ?_
  refine lv_iconst (v := nI 1) hx hb dX5_couplesWith_25 (by decide) ?_
  refine kc_i (Cs := [mW cy ra (kEn X, T)]) (Rs := []) (Bs := [mW cy ra (kEn X, T)]) (Cs' := fun u_ : Unit => [mW cy ra ((kEn X), (T.1, T.2.1, T.2.2.1, (nI 1), T.2.2.2.2))]) (Fs := fun u_ : Unit => [mW cy ra ((kEn X), (T.1, T.2.1, T.2.2.1, (nI 1), T.2.2.2.2))]) hP hD hS hA [0] [] [0] rfl rfl (by decide) (by decide) (fun _ => rfl) (va_runV (As := [.int (nI 1)]) (rest := []) ⟨hx, hb, hml, hown, hts⟩ (c_X5_throwing l D cy ra (kEn X) T (nI 1) H.size) (cwV 1 hts gX5_couplesWith_X5_throwing rfl rfl rfl (by decide +kernel) ⟨Nat.le_of_ble_eq_true rfl, Nat.le_of_ble_eq_true rfl⟩) (kPre_V (ci := 5) hK hN hP hD [0] (by decide) rfl 0 rfl rfl) rfl rfl hl.1 rfl (lv_room (Nat.le_of_ble_eq_true rfl)) dX5_couplesWith_26 ⟨Nat.le_of_ble_eq_true rfl, Nat.le_of_ble_eq_true rfl⟩) (fun r_ u_ H locs hw hP hD hS => ?_)
  have hw : r_ = nI 0 := hw
  subst hw
  exact kr_i (post := fun r_ (u_ : Unit) => r_ = nI 0) (Bs := fun u_ : Unit => [mW cy ra (kEn X, (T.1, T.2.1, T.2.2.1, nI 1, T.2.2.2.2))]) hx hb hr hlocks rfl () hP hK hD hS rfl dX5_couplesWith_29 hQ
abbrev rm_X5_dancesLeft : Room := { frames := 6, cells := 0, slots := 0, locals := 140 }
set_option maxHeartbeats 1000000 in
set_option maxRecDepth 100000 in
/-- dancesLeft -/
theorem c_X5_dancesLeft (l : Launch) (D : va_G) (cy : Nat → ClassId) (ra : Nat → Nat) (X : rS) (T : rV) (hk : kOkR X) (hoc : kOkC X.1) (sz : Nat) : Met l yX5_dancesLeft wsX5_dancesLeft rm_X5_dancesLeft (va_Pc [.ref (ra 0)] (kPre D (kT cy) [mW cy ra (kEn X, T)] sz)) (va_Qi (fun r_ (u_ : (Nat → Int32) × (Nat → Int32) × (Nat → Int32) × (Nat → Int32) × (Nat → Int32)) => r_ = nI (kOnE X.2.2.2.1.1 (kS4 X)).2) (kFr D (kT cy) [mW cy ra (kEn X, T)] sz (fun u_ : (Nat → Int32) × (Nat → Int32) × (Nat → Int32) × (Nat → Int32) × (Nat → Int32) => [mW cy ra (kEn X, (T.1, kEn X, T.2.2.1, nI 0, u_.1, u_.2.1, u_.2.2.1, u_.2.2.2.1, u_.2.2.2.2, T.2.2.2.2.2.2.2.2.2))])) (va_A (bkF [mW cy ra (kEn X, T)]) sz)) 0 0 (va_A (bkF [mW cy ra (kEn X, T)]) sz) := by
  refine kOpen (y := yX5_dancesLeft) (ws := wsX5_dancesLeft) (cc := cX5_dancesLeft) (maxL := 2) (ret := (some .int)) (av := [.ref (ra 0)]) (Bs := [mW cy ra (kEn X, T)]) (Qc := fun A => (va_Qi (fun r_ (u_ : (Nat → Int32) × (Nat → Int32) × (Nat → Int32) × (Nat → Int32) × (Nat → Int32)) => r_ = nI (kOnE X.2.2.2.1.1 (kS4 X)).2) (fun (u_ : (Nat → Int32) × (Nat → Int32) × (Nat → Int32) × (Nat → Int32) × (Nat → Int32)) t9 => kEnd D (kT cy) A [mW cy ra (kEn X, (T.1, kEn X, T.2.2.1, nI 0, u_.1, u_.2.1, u_.2.2.1, u_.2.2.2.1, u_.2.2.2.2, T.2.2.2.2.2.2.2.2.2))] t9) A)) (by decide) rfl (Nat.le_of_ble_eq_true rfl) ?_
  intro p e s m args below meth c A Q ls hQ hx hb hml hr hlocks hin hts hown hN hK hP hD hS hA hsz hAe hl
  clear hAe
  have hl : lv_has ls 2 [(0, .ref (ra 0))] := hl
  suffices K9 : ∀ (H : Heap) (locs : List Loc), va_P D vwCl (bkF [mW cy ra (kEn X, T)]) H → va_S A s.heap H locs → W p l e (headSpec wsX5_dancesLeft rm_X5_dancesLeft).room s m args below meth c H locs 0 0 Q (F0 m 0 ls []) from K9 _ _ hP hS
  clear hP hS
  intro H locs hP hS
  refine lv_aload_n hx hb dX5_dancesLeft_0 rfl (lv_at hl 0 rfl) ?_
  refine kc_v (Cs := [mW cy ra (kEn X, T)]) (Rs := []) (Bs := [mW cy ra (kEn X, T)]) (Cs' := fun u_ : Unit => [mW cy ra ((kEn X), (T.1, (kEn X), T.2.2))]) (Fs := fun u_ : Unit => [mW cy ra ((kEn X), (T.1, (kEn X), T.2.2))]) hP hD hS hA [0] [] [0] rfl rfl (by decide) (by decide) (fun _ => rfl) (va_runV (As := []) (rest := []) ⟨hx, hb, hml, hown, hts⟩ (c_X5_laysAside l D cy ra (kEn X) T H.size) (cwV 0 hts gX5_dancesLeft_X5_laysAside rfl rfl rfl (by decide +kernel) ⟨Nat.le_of_ble_eq_true rfl, Nat.le_of_ble_eq_true rfl⟩) (kPre_V (ci := 5) hK hN hP hD [0] (by decide) rfl 0 rfl rfl) rfl rfl hl.1 rfl (lv_room (Nat.le_of_ble_eq_true rfl)) dX5_dancesLeft_1 ⟨Nat.le_of_ble_eq_true rfl, Nat.le_of_ble_eq_true rfl⟩) (fun u_ H locs hw hP hD hS => ?_)
  refine lv_aload_n hx hb dX5_dancesLeft_4 rfl (lv_at hl 0 rfl) ?_
  refine kc_i (Cs := [mW cy ra (kEn X, (T.1, (kEn X), T.2.2))]) (Rs := []) (Bs := [mW cy ra (kEn X, (T.1, (kEn X), T.2.2))]) (Cs' := fun u_ : (Nat → Int32) × (Nat → Int32) × (Nat → Int32) × (Nat → Int32) × (Nat → Int32) => [mW cy ra (kEn (kX4 X (kOnE X.2.2.2.1.1 (kS4 X)).1), (T.1, (kEn X), T.2.2.1, T.2.2.2.1, u_.1, u_.2.1, u_.2.2.1, u_.2.2.2.1, u_.2.2.2.2, T.2.2.2.2.2.2.2.2.2))]) (Fs := fun u_ : (Nat → Int32) × (Nat → Int32) × (Nat → Int32) × (Nat → Int32) × (Nat → Int32) => [mW cy ra (kEn (kX4 X (kOnE X.2.2.2.1.1 (kS4 X)).1), (T.1, (kEn X), T.2.2.1, T.2.2.2.1, u_.1, u_.2.1, u_.2.2.1, u_.2.2.2.1, u_.2.2.2.2, T.2.2.2.2.2.2.2.2.2))]) hP hD hS hA [0] [] [0] rfl rfl (by decide) (by decide) (fun _ => rfl) (va_runV (As := []) (rest := []) ⟨hx, hb, hml, hown, hts⟩ (c_X5_dancesOn l D cy ra X (T.1, (kEn X), T.2.2) hk hoc H.size) (cwV 0 hts gX5_dancesLeft_X5_dancesOn rfl rfl rfl (by decide +kernel) ⟨Nat.le_of_ble_eq_true rfl, Nat.le_of_ble_eq_true rfl⟩) (kPre_V (ci := 5) hK hN hP hD [0] (by decide) rfl 0 rfl rfl) rfl rfl hl.1 rfl (lv_room (Nat.le_of_ble_eq_true rfl)) dX5_dancesLeft_5 ⟨Nat.le_of_ble_eq_true rfl, Nat.le_of_ble_eq_true rfl⟩) (fun r_ u_ H locs hw hP hD hS => ?_)
  obtain ⟨e5_5, e6_5, e7_5, e8_5, e9_5⟩ := u_
  have hP : va_P D vwCl (bkF [mW cy ra (kEn (kX4 X (kOnE X.2.2.2.1.1 (kS4 X)).1), (T.1, (kEn X), T.2.2.1, T.2.2.2.1, e5_5, e6_5, e7_5, e8_5, e9_5, T.2.2.2.2.2.2.2.2.2))]) H := hP
  have hD : va_D A (bkF [mW cy ra (kEn (kX4 X (kOnE X.2.2.2.1.1 (kS4 X)).1), (T.1, (kEn X), T.2.2.1, T.2.2.2.1, e5_5, e6_5, e7_5, e8_5, e9_5, T.2.2.2.2.2.2.2.2.2))]) := hD
  have hw : r_ = nI (kOnE X.2.2.2.1.1 (kS4 X)).2 := hw
  subst hw
  refine lv_istore_n (lv' := [(1, .int (nI (kOnE X.2.2.2.1.1 (kS4 X)).2)), (0, .ref (ra 0))]) hx hb dX5_dancesLeft_8 rfl hl (by decide) rfl (fun ls hl => ?_)
  refine lv_aload_n hx hb dX5_dancesLeft_9 rfl (lv_at hl 1 rfl) ?_
  refine kc_v (Cs := [mW cy ra (kEn (kX4 X (kOnE X.2.2.2.1.1 (kS4 X)).1), (T.1, (kEn X), T.2.2.1, T.2.2.2.1, e5_5, e6_5, e7_5, e8_5, e9_5, T.2.2.2.2.2.2.2.2.2))]) (Rs := []) (Bs := [mW cy ra (kEn (kX4 X (kOnE X.2.2.2.1.1 (kS4 X)).1), (T.1, (kEn X), T.2.2.1, T.2.2.2.1, e5_5, e6_5, e7_5, e8_5, e9_5, T.2.2.2.2.2.2.2.2.2))]) (Cs' := fun u_ : Unit => [mW cy ra ((kEn X), (T.1, (kEn X), T.2.2.1, T.2.2.2.1, e5_5, e6_5, e7_5, e8_5, e9_5, T.2.2.2.2.2.2.2.2.2))]) (Fs := fun u_ : Unit => [mW cy ra ((kEn X), (T.1, (kEn X), T.2.2.1, T.2.2.2.1, e5_5, e6_5, e7_5, e8_5, e9_5, T.2.2.2.2.2.2.2.2.2))]) hP hD hS hA [0] [] [0] rfl rfl (by decide) (by decide) (fun _ => rfl) (va_runV (As := []) (rest := []) ⟨hx, hb, hml, hown, hts⟩ (c_X5_takesBack l D cy ra (kEn (kX4 X (kOnE X.2.2.2.1.1 (kS4 X)).1)) (T.1, (kEn X), T.2.2.1, T.2.2.2.1, e5_5, e6_5, e7_5, e8_5, e9_5, T.2.2.2.2.2.2.2.2.2) H.size) (cwV 0 hts gX5_dancesLeft_X5_takesBack rfl rfl rfl (by decide +kernel) ⟨Nat.le_of_ble_eq_true rfl, Nat.le_of_ble_eq_true rfl⟩) (kPre_V (ci := 5) hK hN hP hD [0] (by decide) rfl 0 rfl rfl) rfl rfl hl.1 rfl (lv_room (Nat.le_of_ble_eq_true rfl)) dX5_dancesLeft_10 ⟨Nat.le_of_ble_eq_true rfl, Nat.le_of_ble_eq_true rfl⟩) (fun u_ H locs hw hP hD hS => ?_)
  refine lv_aload_n hx hb dX5_dancesLeft_13 rfl (lv_at hl 1 rfl) ?_
  refine lv_iload_n hx hb dX5_dancesLeft_14 rfl (lv_at hl 0 rfl) ?_
  refine kc_i (Cs := [mW cy ra ((kEn X), (T.1, (kEn X), T.2.2.1, T.2.2.2.1, e5_5, e6_5, e7_5, e8_5, e9_5, T.2.2.2.2.2.2.2.2.2))]) (Rs := []) (Bs := [mW cy ra ((kEn X), (T.1, (kEn X), T.2.2.1, T.2.2.2.1, e5_5, e6_5, e7_5, e8_5, e9_5, T.2.2.2.2.2.2.2.2.2))]) (Cs' := fun u_ : Unit => [mW cy ra ((kEn X), (T.1, (kEn X), T.2.2.1, nI 0, e5_5, e6_5, e7_5, e8_5, e9_5, T.2.2.2.2.2.2.2.2.2))]) (Fs := fun u_ : Unit => [mW cy ra ((kEn X), (T.1, (kEn X), T.2.2.1, nI 0, e5_5, e6_5, e7_5, e8_5, e9_5, T.2.2.2.2.2.2.2.2.2))]) hP hD hS hA [0] [] [0] rfl rfl (by decide) (by decide) (fun _ => rfl) (va_runV (As := [.int (nI (kOnE X.2.2.2.1.1 (kS4 X)).2)]) (rest := []) ⟨hx, hb, hml, hown, hts⟩ (c_X5_fine l D cy ra (kEn X) (T.1, (kEn X), T.2.2.1, T.2.2.2.1, e5_5, e6_5, e7_5, e8_5, e9_5, T.2.2.2.2.2.2.2.2.2) (nI (kOnE X.2.2.2.1.1 (kS4 X)).2) H.size) (cwV 1 hts gX5_dancesLeft_X5_fine rfl rfl rfl (by decide +kernel) ⟨Nat.le_of_ble_eq_true rfl, Nat.le_of_ble_eq_true rfl⟩) (kPre_V (ci := 5) hK hN hP hD [0] (by decide) rfl 0 rfl rfl) rfl rfl hl.1 rfl (lv_room (Nat.le_of_ble_eq_true rfl)) dX5_dancesLeft_15 ⟨Nat.le_of_ble_eq_true rfl, Nat.le_of_ble_eq_true rfl⟩) (fun r_ u_ H locs hw hP hD hS => ?_)
  have hw : r_ = (nI (kOnE X.2.2.2.1.1 (kS4 X)).2) := hw
  subst hw
  exact kr_i (post := fun r_ (u_ : (Nat → Int32) × (Nat → Int32) × (Nat → Int32) × (Nat → Int32) × (Nat → Int32)) => r_ = nI (kOnE X.2.2.2.1.1 (kS4 X)).2) (Bs := fun u_ : (Nat → Int32) × (Nat → Int32) × (Nat → Int32) × (Nat → Int32) × (Nat → Int32) => [mW cy ra (kEn X, (T.1, kEn X, T.2.2.1, nI 0, u_.1, u_.2.1, u_.2.2.1, u_.2.2.2.1, u_.2.2.2.2, T.2.2.2.2.2.2.2.2.2))]) hx hb hr hlocks rfl (e5_5, e6_5, e7_5, e8_5, e9_5) hP hK hD hS rfl dX5_dancesLeft_18 hQ
abbrev rm_X5_bestSize : Room := { frames := 3, cells := 0, slots := 0, locals := 67 }
set_option maxHeartbeats 1000000 in
set_option maxRecDepth 100000 in
/-- bestSize -/
theorem c_X5_bestSize (l : Launch) (D : va_G) (cy : Nat → ClassId) (ra : Nat → Nat) (X : rS) (T : rV) (hk : kOkR X) (hp9 : kPn9 X.2.2.2.1.1) (sz : Nat) : Met l yX5_bestSize wsX5_bestSize rm_X5_bestSize (va_Pc [.ref (ra 0)] (kPre D (kT cy) [mW cy ra (kEn X, T)] sz)) (va_Qi (fun r_ (u_ : (Nat → Int32) × (Nat → Int32) × (Nat → Int32)) => r_ = (kBest X.2.2.2.1.1 X.2.1 X.2.2.1 9).2) (kFr D (kT cy) [mW cy ra (kEn X, T)] sz (fun u_ : (Nat → Int32) × (Nat → Int32) × (Nat → Int32) => [mW cy ra (kEn X, (T.1, T.2.1, T.2.2.1, nI 0, u_.1, u_.2.1, u_.2.2, T.2.2.2.2.2.2.2))])) (va_A (bkF [mW cy ra (kEn X, T)]) sz)) 0 0 (va_A (bkF [mW cy ra (kEn X, T)]) sz) := by
  refine kOpen (y := yX5_bestSize) (ws := wsX5_bestSize) (cc := cX5_bestSize) (maxL := 5) (ret := (some .int)) (av := [.ref (ra 0)]) (Bs := [mW cy ra (kEn X, T)]) (Qc := fun A => (va_Qi (fun r_ (u_ : (Nat → Int32) × (Nat → Int32) × (Nat → Int32)) => r_ = (kBest X.2.2.2.1.1 X.2.1 X.2.2.1 9).2) (fun (u_ : (Nat → Int32) × (Nat → Int32) × (Nat → Int32)) t9 => kEnd D (kT cy) A [mW cy ra (kEn X, (T.1, T.2.1, T.2.2.1, nI 0, u_.1, u_.2.1, u_.2.2, T.2.2.2.2.2.2.2))] t9) A)) (by decide) rfl (Nat.le_of_ble_eq_true rfl) ?_
  intro p e s m args below meth c A Q ls hQ hx hb hml hr hlocks hin hts hown hN hK hP hD hS hA hsz hAe hl
  clear hAe
  have hl : lv_has ls 5 [(0, .ref (ra 0))] := hl
  suffices K9 : ∀ (H : Heap) (locs : List Loc), va_P D vwCl (bkF [mW cy ra (kEn X, T)]) H → va_S A s.heap H locs → W p l e (headSpec wsX5_bestSize rm_X5_bestSize).room s m args below meth c H locs 0 0 Q (F0 m 0 ls []) from K9 _ _ hP hS
  clear hP hS
  intro H locs hP hS
  refine lv_iconst (v := (-1 : Int32)) hx hb dX5_bestSize_0 (by decide) ?_
  refine lv_istore_n (lv' := [(1, .int (-1)), (0, .ref (ra 0))]) hx hb dX5_bestSize_1 rfl hl (by decide) rfl (fun ls hl => ?_)
  refine lv_aload_n hx hb dX5_bestSize_2 rfl (lv_at hl 1 rfl) ?_
  refine kc_i (Cs := [mW cy ra (kEn X, T)]) (Rs := []) (Bs := [mW cy ra (kEn X, T)]) (Cs' := fun u_ : Unit => [mW cy ra (kEn X, (T.1, T.2.1, T.2.2.1, T.2.2.2.1, kLft T.2.2.2.2.1 X, kLnt X, kCan X, T.2.2.2.2.2.2.2))]) (Fs := fun u_ : Unit => [mW cy ra (kEn X, (T.1, T.2.1, T.2.2.1, T.2.2.2.1, kLft T.2.2.2.2.1 X, kLnt X, kCan X, T.2.2.2.2.2.2.2))]) hP hD hS hA [0] [] [0] rfl rfl (by decide) (by decide) (fun _ => rfl) (va_runV (As := []) (rest := []) ⟨hx, hb, hml, hown, hts⟩ (c_X5_lends l D cy ra X T hk H.size) (cwV 0 hts gX5_bestSize_X5_lends rfl rfl rfl (by decide +kernel) ⟨Nat.le_of_ble_eq_true rfl, Nat.le_of_ble_eq_true rfl⟩) (kPre_V (ci := 5) hK hN hP hD [0] (by decide) rfl 0 rfl rfl) rfl rfl hl.1 rfl (lv_room (Nat.le_of_ble_eq_true rfl)) dX5_bestSize_3 ⟨Nat.le_of_ble_eq_true rfl, Nat.le_of_ble_eq_true rfl⟩) (fun r_ u_ H locs hw hP hD hS => ?_)
  have hw : r_ = nI (kRc X.2.2.2.1.1 X.2.1 X.2.2.1 0) := hw
  subst hw
  refine lv_istore_n (lv' := [(2, .int (nI (kRc X.2.2.2.1.1 X.2.1 X.2.2.1 0))), (1, .int (-1)), (0, .ref (ra 0))]) hx hb dX5_bestSize_6 rfl hl (by decide) rfl (fun ls hl => ?_)
  refine lv_iconst (v := nI 1) hx hb dX5_bestSize_7 (by decide) ?_
  refine lv_istore_n (lv' := [(3, .int (nI 1)), (2, .int (nI (kRc X.2.2.2.1.1 X.2.1 X.2.2.1 0))), (1, .int (-1)), (0, .ref (ra 0))]) hx hb dX5_bestSize_8 rfl hl (by decide) rfl (fun ls hl => ?_)
  have L_9 : ∀ (n9 : Nat) (q : Nat) (e5 : Nat → Int32) (e6 : Nat → Int32) (e7 : Nat → Int32), 9 - q = n9 → (q ≤ 9) → ∀ (ls : Array Slot) (H : Heap) (locs : List Loc), va_P D vwCl (bkF [mW cy ra (kEn X, (T.1, T.2.1, T.2.2.1, T.2.2.2.1, e5, e6, e7, T.2.2.2.2.2.2.2))]) H → va_D A (bkF [mW cy ra (kEn X, (T.1, T.2.1, T.2.2.1, T.2.2.2.1, e5, e6, e7, T.2.2.2.2.2.2.2))]) → va_S A s.heap H locs → lv_has ls 5 [(0, .ref (ra 0)), (3, .int (nI (q + 1))), (2, .int (nI (kBest X.2.2.2.1.1 X.2.1 X.2.2.1 q).1)), (1, .int (kBest X.2.2.2.1.1 X.2.1 X.2.2.1 q).2)] → W p l e (headSpec wsX5_bestSize rm_X5_bestSize).room s m args below meth c H locs 0 0 Q (F0 m 9 ls []) := by
    intro n9
    induction n9 using Nat.strongRecOn with
    | _ n9 ih_9 =>
    intro q e5 e6 e7 hm_9 h9_0 ls H locs hP hD hS hl
    refine lv_iload_n hx hb dX5_bestSize_9 rfl (lv_at hl 1 rfl) ?_
    refine lv_bipush (v := nI 9) hx hb dX5_bestSize_10 (by decide) ?_
    refine lv_icmp_gt (tgt := 82) hx hb dX5_bestSize_12 (by decide) (fun c_12 => ?_) (fun c_12 => ?_)
    · skip
      have c_12 : 9 < (q + 1) := (nI_ltI (a := 9) (b := q + 1) (by omega) (by omega)).mp c_12
      refine lv_aload_n hx hb dX5_bestSize_82 rfl (lv_at hl 0 rfl) ?_
      refine lv_iload_n hx hb dX5_bestSize_83 rfl (lv_at hl 3 rfl) ?_
      refine kc_i (Cs := [mW cy ra (kEn X, (T.1, T.2.1, T.2.2.1, T.2.2.2.1, e5, e6, e7, T.2.2.2.2.2.2.2))]) (Rs := []) (Bs := [mW cy ra (kEn X, (T.1, T.2.1, T.2.2.1, T.2.2.2.1, e5, e6, e7, T.2.2.2.2.2.2.2))]) (Cs' := fun u_ : Unit => [mW cy ra ((kEn X), (T.1, T.2.1, T.2.2.1, nI 0, e5, e6, e7, T.2.2.2.2.2.2.2))]) (Fs := fun u_ : Unit => [mW cy ra ((kEn X), (T.1, T.2.1, T.2.2.1, nI 0, e5, e6, e7, T.2.2.2.2.2.2.2))]) hP hD hS hA [0] [] [0] rfl rfl (by decide) (by decide) (fun _ => rfl) (va_runV (As := [.int (kBest X.2.2.2.1.1 X.2.1 X.2.2.1 q).2]) (rest := []) ⟨hx, hb, hml, hown, hts⟩ (c_X5_fine l D cy ra (kEn X) (T.1, T.2.1, T.2.2.1, T.2.2.2.1, e5, e6, e7, T.2.2.2.2.2.2.2) (kBest X.2.2.2.1.1 X.2.1 X.2.2.1 q).2 H.size) (cwV 1 hts gX5_bestSize_X5_fine rfl rfl rfl (by decide +kernel) ⟨Nat.le_of_ble_eq_true rfl, Nat.le_of_ble_eq_true rfl⟩) (kPre_V (ci := 5) hK hN hP hD [0] (by decide) rfl 0 rfl rfl) rfl rfl hl.1 rfl (lv_room (Nat.le_of_ble_eq_true rfl)) dX5_bestSize_84 ⟨Nat.le_of_ble_eq_true rfl, Nat.le_of_ble_eq_true rfl⟩) (fun r_ u_ H locs hw hP hD hS => ?_)
      have hw : r_ = (kBest X.2.2.2.1.1 X.2.1 X.2.2.1 q).2 := hw
      subst hw
      exact kr_i (post := fun r_ (u_ : (Nat → Int32) × (Nat → Int32) × (Nat → Int32)) => r_ = (kBest X.2.2.2.1.1 X.2.1 X.2.2.1 9).2) (Bs := fun u_ : (Nat → Int32) × (Nat → Int32) × (Nat → Int32) => [mW cy ra (kEn X, (T.1, T.2.1, T.2.2.1, nI 0, u_.1, u_.2.1, u_.2.2, T.2.2.2.2.2.2.2))]) hx hb hr hlocks rfl (e5, e6, e7) hP hK hD hS (by rw [show q = 9 from by omega]) dX5_bestSize_87 hQ
    · skip
      have c_12 : ¬ (9 < (q + 1)) := fun h => c_12 ((nI_ltI (a := 9) (b := q + 1) (by omega) (by omega)).mpr h)
      refine lv_aload_n hx hb dX5_bestSize_15 rfl (lv_at hl 0 rfl) ?_
      refine va_get (D := D) (ci := 5) (v := .ref (ra 1)) (C := RX5) (T := TX5) (N := 16) hx hb hts (by decide +kernel) hown hK hP 0 rfl rfl 0 (by decide) (hts (.fieldLink RX5 7 "DanceHallModel" "all" "[I") (by decide +kernel)) (fun _ h9 => h9) rfl dX5_bestSize_16 ?_
      refine lv_bipush (v := nI 11) hx hb dX5_bestSize_19 (by decide) ?_
      refine lv_iload_n hx hb dX5_bestSize_21 rfl (lv_at hl 1 rfl) ?_
      refine lv_iadd hx hb dX5_bestSize_22 ?_
      refine kv_i (y := nI (11 + (q + 1))) (nI_add 11 (q + 1)) ?_
      refine lv_iconst (v := nI 1) hx hb dX5_bestSize_23 (by decide) ?_
      refine lv_isub hx hb dX5_bestSize_24 ?_
      refine kv_i (y := nI (10 + (q + 1))) (by rw [pk_sub (by omega)]; exact congrArg nI (by omega)) ?_
      refine lv_dup2_11 hx hb dX5_bestSize_25 rfl rfl ?_
      refine va_iald hx hb hK hP 1 0 rfl rfl (vp_in_nI (n := 10 + (q + 1)) (N := 188) (by omega) (by omega)) dX5_bestSize_26 ?_
      refine kv_i (y := X.2.2.2.1.1 (q + 1)) (by rw [nI_clamp (n := 10 + (q + 1)) (by omega)]; exact (kq_s (by omega) (by omega))) ?_
      refine lv_iconst (v := nI 1) hx hb dX5_bestSize_27 (by decide) ?_
      refine lv_iadd hx hb dX5_bestSize_28 ?_
      refine va_iast hx hb hK hP hD hS 1 0 rfl rfl (vp_in_nI (n := 10 + (q + 1)) (N := 188) (by omega) (by omega)) dX5_bestSize_29 (fun H locs hP hD hS => ?_)
      rw [nI_clamp (n := 10 + (q + 1)) (by omega)] at hP hD
      have hP : va_P D vwCl (bkF [mW cy ra (upd (kEn X) (10 + (q + 1)) ((X.2.2.2.1.1 (q + 1)) + (nI 1)), (T.1, T.2.1, T.2.2.1, T.2.2.2.1, e5, e6, e7, T.2.2.2.2.2.2.2))]) H := hP
      have hD : va_D A (bkF [mW cy ra (upd (kEn X) (10 + (q + 1)) ((X.2.2.2.1.1 (q + 1)) + (nI 1)), (T.1, T.2.1, T.2.2.1, T.2.2.2.1, e5, e6, e7, T.2.2.2.2.2.2.2))]) := hD
      have hP := kP_cell (g := (kEn (X.1, X.2.1, X.2.2.1, (upd X.2.2.2.1.1 (q + 1) (X.2.2.2.1.1 (q + 1) + nI 1), X.2.2.2.1.2), X.2.2.2.2))) hP 1 rfl (fun j hj => kqu_s (by omega) (by omega) j hj)
      have hD := hD.set (p := 1) (e := .inl (cy 0, 188, .inl (kEn (X.1, X.2.1, X.2.2.1, (upd X.2.2.2.1.1 (q + 1) (X.2.2.2.1.1 (q + 1) + nI 1), X.2.2.2.1.2), X.2.2.2.2)))) rfl
      have hP : va_P D vwCl (bkF [mW cy ra (kEn (X.1, X.2.1, X.2.2.1, (upd X.2.2.2.1.1 (q + 1) (X.2.2.2.1.1 (q + 1) + nI 1), X.2.2.2.1.2), X.2.2.2.2), (T.1, T.2.1, T.2.2.1, T.2.2.2.1, e5, e6, e7, T.2.2.2.2.2.2.2))]) H := hP
      have hD : va_D A (bkF [mW cy ra (kEn (X.1, X.2.1, X.2.2.1, (upd X.2.2.2.1.1 (q + 1) (X.2.2.2.1.1 (q + 1) + nI 1), X.2.2.2.1.2), X.2.2.2.2), (T.1, T.2.1, T.2.2.1, T.2.2.2.1, e5, e6, e7, T.2.2.2.2.2.2.2))]) := hD
      refine lv_aload_n hx hb dX5_bestSize_30 rfl (lv_at hl 0 rfl) ?_
      refine kc_i (Cs := [mW cy ra (kEn (X.1, X.2.1, X.2.2.1, (upd X.2.2.2.1.1 (q + 1) (X.2.2.2.1.1 (q + 1) + nI 1), X.2.2.2.1.2), X.2.2.2.2), (T.1, T.2.1, T.2.2.1, T.2.2.2.1, e5, e6, e7, T.2.2.2.2.2.2.2))]) (Rs := []) (Bs := [mW cy ra (kEn (X.1, X.2.1, X.2.2.1, (upd X.2.2.2.1.1 (q + 1) (X.2.2.2.1.1 (q + 1) + nI 1), X.2.2.2.1.2), X.2.2.2.2), (T.1, T.2.1, T.2.2.1, T.2.2.2.1, e5, e6, e7, T.2.2.2.2.2.2.2))]) (Cs' := fun u_ : Unit => [mW cy ra (kEn (X.1, X.2.1, X.2.2.1, (upd X.2.2.2.1.1 (q + 1) (X.2.2.2.1.1 (q + 1) + nI 1), X.2.2.2.1.2), X.2.2.2.2), (T.1, T.2.1, T.2.2.1, T.2.2.2.1, kLft e5 (X.1, X.2.1, X.2.2.1, (upd X.2.2.2.1.1 (q + 1) (X.2.2.2.1.1 (q + 1) + nI 1), X.2.2.2.1.2), X.2.2.2.2), kLnt (X.1, X.2.1, X.2.2.1, (upd X.2.2.2.1.1 (q + 1) (X.2.2.2.1.1 (q + 1) + nI 1), X.2.2.2.1.2), X.2.2.2.2), kCan (X.1, X.2.1, X.2.2.1, (upd X.2.2.2.1.1 (q + 1) (X.2.2.2.1.1 (q + 1) + nI 1), X.2.2.2.1.2), X.2.2.2.2), T.2.2.2.2.2.2.2))]) (Fs := fun u_ : Unit => [mW cy ra (kEn (X.1, X.2.1, X.2.2.1, (upd X.2.2.2.1.1 (q + 1) (X.2.2.2.1.1 (q + 1) + nI 1), X.2.2.2.1.2), X.2.2.2.2), (T.1, T.2.1, T.2.2.1, T.2.2.2.1, kLft e5 (X.1, X.2.1, X.2.2.1, (upd X.2.2.2.1.1 (q + 1) (X.2.2.2.1.1 (q + 1) + nI 1), X.2.2.2.1.2), X.2.2.2.2), kLnt (X.1, X.2.1, X.2.2.1, (upd X.2.2.2.1.1 (q + 1) (X.2.2.2.1.1 (q + 1) + nI 1), X.2.2.2.1.2), X.2.2.2.2), kCan (X.1, X.2.1, X.2.2.1, (upd X.2.2.2.1.1 (q + 1) (X.2.2.2.1.1 (q + 1) + nI 1), X.2.2.2.1.2), X.2.2.2.2), T.2.2.2.2.2.2.2))]) hP hD hS hA [0] [] [0] rfl rfl (by decide) (by decide) (fun _ => rfl) (va_runV (As := []) (rest := []) ⟨hx, hb, hml, hown, hts⟩ (c_X5_lends l D cy ra (X.1, X.2.1, X.2.2.1, (upd X.2.2.2.1.1 (q + 1) (X.2.2.2.1.1 (q + 1) + nI 1), X.2.2.2.1.2), X.2.2.2.2) (T.1, T.2.1, T.2.2.1, T.2.2.2.1, e5, e6, e7, T.2.2.2.2.2.2.2) ⟨hk.1, hk.2.1, hk.2.2.1, hk.2.2.2.1, kPn_u hp9 (by omega) (by omega)⟩ H.size) (cwV 0 hts gX5_bestSize_X5_lends rfl rfl rfl (by decide +kernel) ⟨Nat.le_of_ble_eq_true rfl, Nat.le_of_ble_eq_true rfl⟩) (kPre_V (ci := 5) hK hN hP hD [0] (by decide) rfl 0 rfl rfl) rfl rfl hl.1 rfl (lv_room (Nat.le_of_ble_eq_true rfl)) dX5_bestSize_31 ⟨Nat.le_of_ble_eq_true rfl, Nat.le_of_ble_eq_true rfl⟩) (fun r_ u_ H locs hw hP hD hS => ?_)
      have hw : r_ = nI (kRc (upd X.2.2.2.1.1 (q + 1) (X.2.2.2.1.1 (q + 1) + nI 1)) X.2.1 X.2.2.1 0) := hw
      subst hw
      refine kv_i (y := nI (kRc X.2.2.2.1.1 X.2.1 X.2.2.1 (q + 1))) (congrArg nI (kRc_z (by omega))) ?_
      refine lv_istore (lv' := [(4, .int (nI (kRc X.2.2.2.1.1 X.2.1 X.2.2.1 (q + 1)))), (0, .ref (ra 0)), (3, .int (nI (q + 1))), (2, .int (nI (kBest X.2.2.2.1.1 X.2.1 X.2.2.1 q).1)), (1, .int (kBest X.2.2.2.1.1 X.2.1 X.2.2.1 q).2)]) hx hb dX5_bestSize_34 hl (by decide) rfl (fun ls hl => ?_)
      refine lv_aload_n hx hb dX5_bestSize_36 rfl (lv_at hl 1 rfl) ?_
      refine va_get (D := D) (ci := 5) (v := .ref (ra 1)) (C := RX5) (T := TX5) (N := 16) hx hb hts (by decide +kernel) hown hK hP 0 rfl rfl 0 (by decide) (hts (.fieldLink RX5 7 "DanceHallModel" "all" "[I") (by decide +kernel)) (fun _ h9 => h9) rfl dX5_bestSize_37 ?_
      refine lv_bipush (v := nI 11) hx hb dX5_bestSize_40 (by decide) ?_
      refine lv_iload_n hx hb dX5_bestSize_42 rfl (lv_at hl 2 rfl) ?_
      refine lv_iadd hx hb dX5_bestSize_43 ?_
      refine kv_i (y := nI (11 + (q + 1))) (nI_add 11 (q + 1)) ?_
      refine lv_iconst (v := nI 1) hx hb dX5_bestSize_44 (by decide) ?_
      refine lv_isub hx hb dX5_bestSize_45 ?_
      refine kv_i (y := nI (10 + (q + 1))) (by rw [pk_sub (by omega)]; exact congrArg nI (by omega)) ?_
      refine lv_dup2_11 hx hb dX5_bestSize_46 rfl rfl ?_
      refine va_iald hx hb hK hP 1 0 rfl rfl (vp_in_nI (n := 10 + (q + 1)) (N := 188) (by omega) (by omega)) dX5_bestSize_47 ?_
      refine kv_i (y := X.2.2.2.1.1 (q + 1) + nI 1) (by rw [nI_clamp (n := 10 + (q + 1)) (by omega)]; exact ((kq_s (by omega) (by omega)).trans pk_us)) ?_
      refine lv_iconst (v := nI 1) hx hb dX5_bestSize_48 (by decide) ?_
      refine lv_isub hx hb dX5_bestSize_49 ?_
      refine va_iast hx hb hK hP hD hS 1 0 rfl rfl (vp_in_nI (n := 10 + (q + 1)) (N := 188) (by omega) (by omega)) dX5_bestSize_50 (fun H locs hP hD hS => ?_)
      rw [nI_clamp (n := 10 + (q + 1)) (by omega)] at hP hD
      have hP : va_P D vwCl (bkF [mW cy ra (upd (kEn (X.1, X.2.1, X.2.2.1, (upd X.2.2.2.1.1 (q + 1) (X.2.2.2.1.1 (q + 1) + nI 1), X.2.2.2.1.2), X.2.2.2.2)) (10 + (q + 1)) ((X.2.2.2.1.1 (q + 1) + nI 1) - (nI 1)), (T.1, T.2.1, T.2.2.1, T.2.2.2.1, kLft e5 (X.1, X.2.1, X.2.2.1, (upd X.2.2.2.1.1 (q + 1) (X.2.2.2.1.1 (q + 1) + nI 1), X.2.2.2.1.2), X.2.2.2.2), kLnt (X.1, X.2.1, X.2.2.1, (upd X.2.2.2.1.1 (q + 1) (X.2.2.2.1.1 (q + 1) + nI 1), X.2.2.2.1.2), X.2.2.2.2), kCan (X.1, X.2.1, X.2.2.1, (upd X.2.2.2.1.1 (q + 1) (X.2.2.2.1.1 (q + 1) + nI 1), X.2.2.2.1.2), X.2.2.2.2), T.2.2.2.2.2.2.2))]) H := hP
      have hD : va_D A (bkF [mW cy ra (upd (kEn (X.1, X.2.1, X.2.2.1, (upd X.2.2.2.1.1 (q + 1) (X.2.2.2.1.1 (q + 1) + nI 1), X.2.2.2.1.2), X.2.2.2.2)) (10 + (q + 1)) ((X.2.2.2.1.1 (q + 1) + nI 1) - (nI 1)), (T.1, T.2.1, T.2.2.1, T.2.2.2.1, kLft e5 (X.1, X.2.1, X.2.2.1, (upd X.2.2.2.1.1 (q + 1) (X.2.2.2.1.1 (q + 1) + nI 1), X.2.2.2.1.2), X.2.2.2.2), kLnt (X.1, X.2.1, X.2.2.1, (upd X.2.2.2.1.1 (q + 1) (X.2.2.2.1.1 (q + 1) + nI 1), X.2.2.2.1.2), X.2.2.2.2), kCan (X.1, X.2.1, X.2.2.1, (upd X.2.2.2.1.1 (q + 1) (X.2.2.2.1.1 (q + 1) + nI 1), X.2.2.2.1.2), X.2.2.2.2), T.2.2.2.2.2.2.2))]) := hD
      have hr1 := kRc_le X.2.2.2.1.1 (L := X.2.1) (F := X.2.2.1) hk.1.1 hk.2.1.1 (q + 1)
      have hr2 := kBest_le X.2.2.2.1.1 (L := X.2.1) (F := X.2.2.1) hk.1.1 hk.2.1.1 q
      have hP := kP_cell (g := (kEn X)) hP 1 rfl (fun j hj => (kqu_s (by omega) (by omega) j hj).trans (kq_c (fun _ => rfl) (fun _ _ => kup1) (fun _ _ => rfl) (fun _ _ => rfl) (fun _ _ => rfl) (fun _ _ => rfl) (fun _ _ => rfl)))
      have hD := hD.set (p := 1) (e := .inl (cy 0, 188, .inl (kEn X))) rfl
      have hP : va_P D vwCl (bkF [mW cy ra (kEn X, (T.1, T.2.1, T.2.2.1, T.2.2.2.1, kLft e5 (X.1, X.2.1, X.2.2.1, (upd X.2.2.2.1.1 (q + 1) (X.2.2.2.1.1 (q + 1) + nI 1), X.2.2.2.1.2), X.2.2.2.2), kLnt (X.1, X.2.1, X.2.2.1, (upd X.2.2.2.1.1 (q + 1) (X.2.2.2.1.1 (q + 1) + nI 1), X.2.2.2.1.2), X.2.2.2.2), kCan (X.1, X.2.1, X.2.2.1, (upd X.2.2.2.1.1 (q + 1) (X.2.2.2.1.1 (q + 1) + nI 1), X.2.2.2.1.2), X.2.2.2.2), T.2.2.2.2.2.2.2))]) H := hP
      have hD : va_D A (bkF [mW cy ra (kEn X, (T.1, T.2.1, T.2.2.1, T.2.2.2.1, kLft e5 (X.1, X.2.1, X.2.2.1, (upd X.2.2.2.1.1 (q + 1) (X.2.2.2.1.1 (q + 1) + nI 1), X.2.2.2.1.2), X.2.2.2.2), kLnt (X.1, X.2.1, X.2.2.1, (upd X.2.2.2.1.1 (q + 1) (X.2.2.2.1.1 (q + 1) + nI 1), X.2.2.2.1.2), X.2.2.2.2), kCan (X.1, X.2.1, X.2.2.1, (upd X.2.2.2.1.1 (q + 1) (X.2.2.2.1.1 (q + 1) + nI 1), X.2.2.2.1.2), X.2.2.2.2), T.2.2.2.2.2.2.2))]) := hD
      refine lv_iload hx hb dX5_bestSize_51 (lv_at hl 0 rfl) ?_
      refine lv_iload_n hx hb dX5_bestSize_53 rfl (lv_at hl 3 rfl) ?_
      refine lv_icmp_le (tgt := 61) hx hb dX5_bestSize_54 (by decide) (fun c_54 => ?_) (fun c_54 => ?_)
      · skip
        have c_54 : (kRc X.2.2.2.1.1 X.2.1 X.2.2.1 (q + 1)) ≤ (kBest X.2.2.2.1.1 X.2.1 X.2.2.1 q).1 := (nI_leI (a := kRc X.2.2.2.1.1 X.2.1 X.2.2.1 (q + 1)) (b := (kBest X.2.2.2.1.1 X.2.1 X.2.2.1 q).1) (by omega) (by omega)).mp c_54
        refine lv_iload_n hx hb dX5_bestSize_61 rfl (lv_at hl 4 rfl) ?_
        refine lv_istore_n (lv' := [(1, .int (kBest X.2.2.2.1.1 X.2.1 X.2.2.1 q).2), (4, .int (nI (kRc X.2.2.2.1.1 X.2.1 X.2.2.1 (q + 1)))), (0, .ref (ra 0)), (3, .int (nI (q + 1))), (2, .int (nI (kBest X.2.2.2.1.1 X.2.1 X.2.2.1 q).1))]) hx hb dX5_bestSize_62 rfl hl (by decide) rfl (fun ls hl => ?_)
        refine lv_iload hx hb dX5_bestSize_63 (lv_at hl 1 rfl) ?_
        refine lv_iload_n hx hb dX5_bestSize_65 rfl (lv_at hl 4 rfl) ?_
        refine lv_icmp_le (tgt := 74) hx hb dX5_bestSize_66 (by decide) (fun c_66 => ?_) (fun c_66 => False.elim ?_)
        · skip
          have c_66 : (kRc X.2.2.2.1.1 X.2.1 X.2.2.1 (q + 1)) ≤ (kBest X.2.2.2.1.1 X.2.1 X.2.2.1 q).1 := (nI_leI (a := kRc X.2.2.2.1.1 X.2.1 X.2.2.1 (q + 1)) (b := (kBest X.2.2.2.1.1 X.2.1 X.2.2.1 q).1) (by omega) (by omega)).mp c_66
          refine lv_iload_n hx hb dX5_bestSize_74 rfl (lv_at hl 4 rfl) ?_
          refine lv_istore_n (lv' := [(2, .int (nI (kBest X.2.2.2.1.1 X.2.1 X.2.2.1 q).1)), (1, .int (kBest X.2.2.2.1.1 X.2.1 X.2.2.1 q).2), (4, .int (nI (kRc X.2.2.2.1.1 X.2.1 X.2.2.1 (q + 1)))), (0, .ref (ra 0)), (3, .int (nI (q + 1)))]) hx hb dX5_bestSize_75 rfl hl (by decide) rfl (fun ls hl => ?_)
          refine lv_iinc (v := nI ((q + 1) + 1)) (lv' := [(3, .int (nI ((q + 1) + 1))), (2, .int (nI (kBest X.2.2.2.1.1 X.2.1 X.2.2.1 q).1)), (1, .int (kBest X.2.2.2.1.1 X.2.1 X.2.2.1 q).2), (4, .int (nI (kRc X.2.2.2.1.1 X.2.1 X.2.2.1 (q + 1)))), (0, .ref (ra 0))]) hx hb dX5_bestSize_76 hl (k := 4) rfl (nI_add (q + 1) 1) (by decide) rfl (fun ls hl => ?_)
          refine lv_goto (tgt := 9) hx hb dX5_bestSize_79 (by decide) ?_
          have hl : lv_has ls 5 [(3, .int (nI ((q + 1) + 1))), (2, .int (nI (kBest X.2.2.2.1.1 X.2.1 X.2.2.1 q).1)), (1, .int (kBest X.2.2.2.1.1 X.2.1 X.2.2.1 (q + 1)).2), (4, .int (nI (kRc X.2.2.2.1.1 X.2.1 X.2.2.1 (q + 1)))), (0, .ref (ra 0))] := by rw [show (kBest X.2.2.2.1.1 X.2.1 X.2.2.1 (q + 1)).2 = (kBest X.2.2.2.1.1 X.2.1 X.2.2.1 q).2 from (by rw [kBest_n c_54])]; exact hl
          have hl : lv_has ls 5 [(3, .int (nI ((q + 1) + 1))), (2, .int (nI (kBest X.2.2.2.1.1 X.2.1 X.2.2.1 (q + 1)).1)), (1, .int (kBest X.2.2.2.1.1 X.2.1 X.2.2.1 (q + 1)).2), (4, .int (nI (kRc X.2.2.2.1.1 X.2.1 X.2.2.1 (q + 1)))), (0, .ref (ra 0))] := by rw [show nI (kBest X.2.2.2.1.1 X.2.1 X.2.2.1 (q + 1)).1 = nI (kBest X.2.2.2.1.1 X.2.1 X.2.2.1 q).1 from (congrArg nI (by rw [kBest_n c_54]))]; exact hl
          exact ih_9 _ (by omega) (q + 1) (kLft e5 (X.1, X.2.1, X.2.2.1, (upd X.2.2.2.1.1 (q + 1) (X.2.2.2.1.1 (q + 1) + nI 1), X.2.2.2.1.2), X.2.2.2.2)) (kLnt (X.1, X.2.1, X.2.2.1, (upd X.2.2.2.1.1 (q + 1) (X.2.2.2.1.1 (q + 1) + nI 1), X.2.2.2.1.2), X.2.2.2.2)) (kCan (X.1, X.2.1, X.2.2.1, (upd X.2.2.2.1.1 (q + 1) (X.2.2.2.1.1 (q + 1) + nI 1), X.2.2.2.1.2), X.2.2.2.2)) rfl (by omega) ls H locs hP hD hS (lv_sub hl [4, 0, 1, 2] rfl)
        · skip
          have c_66 : ¬ ((kRc X.2.2.2.1.1 X.2.1 X.2.2.1 (q + 1)) ≤ (kBest X.2.2.2.1.1 X.2.1 X.2.2.1 q).1) := fun h => c_66 ((nI_leI (a := kRc X.2.2.2.1.1 X.2.1 X.2.2.1 (q + 1)) (b := (kBest X.2.2.2.1.1 X.2.1 X.2.2.1 q).1) (by omega) (by omega)).mpr h)
          omega
      · skip
        have c_54 : ¬ ((kRc X.2.2.2.1.1 X.2.1 X.2.2.1 (q + 1)) ≤ (kBest X.2.2.2.1.1 X.2.1 X.2.2.1 q).1) := fun h => c_54 ((nI_leI (a := kRc X.2.2.2.1.1 X.2.1 X.2.2.1 (q + 1)) (b := (kBest X.2.2.2.1.1 X.2.1 X.2.2.1 q).1) (by omega) (by omega)).mpr h)
        refine lv_iload_n hx hb dX5_bestSize_57 rfl (lv_at hl 2 rfl) ?_
        refine lv_goto (tgt := 62) hx hb dX5_bestSize_58 (by decide) ?_
        refine lv_istore_n (lv' := [(1, .int (nI (q + 1))), (4, .int (nI (kRc X.2.2.2.1.1 X.2.1 X.2.2.1 (q + 1)))), (0, .ref (ra 0)), (3, .int (nI (q + 1))), (2, .int (nI (kBest X.2.2.2.1.1 X.2.1 X.2.2.1 q).1))]) hx hb dX5_bestSize_62 rfl hl (by decide) rfl (fun ls hl => ?_)
        refine lv_iload hx hb dX5_bestSize_63 (lv_at hl 1 rfl) ?_
        refine lv_iload_n hx hb dX5_bestSize_65 rfl (lv_at hl 4 rfl) ?_
        refine lv_icmp_le (tgt := 74) hx hb dX5_bestSize_66 (by decide) (fun c_66 => False.elim ?_) (fun c_66 => ?_)
        · skip
          have c_66 : (kRc X.2.2.2.1.1 X.2.1 X.2.2.1 (q + 1)) ≤ (kBest X.2.2.2.1.1 X.2.1 X.2.2.1 q).1 := (nI_leI (a := kRc X.2.2.2.1.1 X.2.1 X.2.2.1 (q + 1)) (b := (kBest X.2.2.2.1.1 X.2.1 X.2.2.1 q).1) (by omega) (by omega)).mp c_66
          omega
        · skip
          have c_66 : ¬ ((kRc X.2.2.2.1.1 X.2.1 X.2.2.1 (q + 1)) ≤ (kBest X.2.2.2.1.1 X.2.1 X.2.2.1 q).1) := fun h => c_66 ((nI_leI (a := kRc X.2.2.2.1.1 X.2.1 X.2.2.1 (q + 1)) (b := (kBest X.2.2.2.1.1 X.2.1 X.2.2.1 q).1) (by omega) (by omega)).mpr h)
          refine lv_iload hx hb dX5_bestSize_69 (lv_at hl 1 rfl) ?_
          refine lv_goto (tgt := 75) hx hb dX5_bestSize_71 (by decide) ?_
          refine lv_istore_n (lv' := [(2, .int (nI (kRc X.2.2.2.1.1 X.2.1 X.2.2.1 (q + 1)))), (1, .int (nI (q + 1))), (4, .int (nI (kRc X.2.2.2.1.1 X.2.1 X.2.2.1 (q + 1)))), (0, .ref (ra 0)), (3, .int (nI (q + 1)))]) hx hb dX5_bestSize_75 rfl hl (by decide) rfl (fun ls hl => ?_)
          refine lv_iinc (v := nI ((q + 1) + 1)) (lv' := [(3, .int (nI ((q + 1) + 1))), (2, .int (nI (kRc X.2.2.2.1.1 X.2.1 X.2.2.1 (q + 1)))), (1, .int (nI (q + 1))), (4, .int (nI (kRc X.2.2.2.1.1 X.2.1 X.2.2.1 (q + 1)))), (0, .ref (ra 0))]) hx hb dX5_bestSize_76 hl (k := 4) rfl (nI_add (q + 1) 1) (by decide) rfl (fun ls hl => ?_)
          refine lv_goto (tgt := 9) hx hb dX5_bestSize_79 (by decide) ?_
          have hl : lv_has ls 5 [(3, .int (nI ((q + 1) + 1))), (2, .int (nI (kRc X.2.2.2.1.1 X.2.1 X.2.2.1 (q + 1)))), (1, .int (kBest X.2.2.2.1.1 X.2.1 X.2.2.1 (q + 1)).2), (4, .int (nI (kRc X.2.2.2.1.1 X.2.1 X.2.2.1 (q + 1)))), (0, .ref (ra 0))] := by rw [show (kBest X.2.2.2.1.1 X.2.1 X.2.2.1 (q + 1)).2 = nI (q + 1) from (by rw [kBest_y (Nat.not_le.mp c_54)])]; exact hl
          have hl : lv_has ls 5 [(3, .int (nI ((q + 1) + 1))), (2, .int (nI (kBest X.2.2.2.1.1 X.2.1 X.2.2.1 (q + 1)).1)), (1, .int (kBest X.2.2.2.1.1 X.2.1 X.2.2.1 (q + 1)).2), (4, .int (nI (kRc X.2.2.2.1.1 X.2.1 X.2.2.1 (q + 1)))), (0, .ref (ra 0))] := by rw [show nI (kBest X.2.2.2.1.1 X.2.1 X.2.2.1 (q + 1)).1 = nI (kRc X.2.2.2.1.1 X.2.1 X.2.2.1 (q + 1)) from (congrArg nI (by rw [kBest_y (Nat.not_le.mp c_54)]))]; exact hl
          exact ih_9 _ (by omega) (q + 1) (kLft e5 (X.1, X.2.1, X.2.2.1, (upd X.2.2.2.1.1 (q + 1) (X.2.2.2.1.1 (q + 1) + nI 1), X.2.2.2.1.2), X.2.2.2.2)) (kLnt (X.1, X.2.1, X.2.2.1, (upd X.2.2.2.1.1 (q + 1) (X.2.2.2.1.1 (q + 1) + nI 1), X.2.2.2.1.2), X.2.2.2.2)) (kCan (X.1, X.2.1, X.2.2.1, (upd X.2.2.2.1.1 (q + 1) (X.2.2.2.1.1 (q + 1) + nI 1), X.2.2.2.1.2), X.2.2.2.2)) rfl (by omega) ls H locs hP hD hS (lv_sub hl [4, 0, 1, 2] rfl)
  exact L_9 _ 0 (kLft T.2.2.2.2.1 X) (kLnt X) (kCan X) rfl (by omega) ls H locs hP hD hS (lv_sub hl [3, 0, 1, 2] rfl)
abbrev rm_X5_share_0 : Room := { frames := 0, cells := 0, slots := 0, locals := 0 }
set_option maxHeartbeats 1000000 in
set_option maxRecDepth 100000 in
/-- share() -/
theorem c_X5_share_0 (l : Launch) (D : va_G) (cy : Nat → ClassId) (ra : Nat → Nat) (X : rS) (T : rV) (hnl : X.2.1.2.2.2.2.2 ≤ 8) (hnf : X.2.2.1.2.2.2.2.2 ≤ 8) (hpr : X.2.1.2.2.2.2.2 * X.2.2.1.2.2.2.2.2 ≤ 0) (sz : Nat) : Met l yX5_share_ wsX5_share_ rm_X5_share_0 (va_Pc [.ref (ra 0)] (kPre D (kT cy) [mW cy ra (kEn X, T)] sz)) (va_Qd (fun r_ (u_ : Unit) => r_ = FP.dconst0) (kFr D (kT cy) [mW cy ra (kEn X, T)] sz (fun u_ : Unit => [mW cy ra (kEn X, (T.1, T.2.1, T.2.2.1, nI 0, T.2.2.2.2))])) (va_A (bkF [mW cy ra (kEn X, T)]) sz)) 0 0 (va_A (bkF [mW cy ra (kEn X, T)]) sz) := by
  refine kOpen (y := yX5_share_) (ws := wsX5_share_) (cc := cX5_share_) (maxL := 6) (ret := (some .double)) (av := [.ref (ra 0)]) (Bs := [mW cy ra (kEn X, T)]) (Qc := fun A => (va_Qd (fun r_ (u_ : Unit) => r_ = FP.dconst0) (fun (u_ : Unit) t9 => kEnd D (kT cy) A [mW cy ra (kEn X, (T.1, T.2.1, T.2.2.1, nI 0, T.2.2.2.2))] t9) A)) (by decide) rfl (Nat.le_of_ble_eq_true rfl) ?_
  intro p e s m args below meth c A Q ls hQ hx hb hml hr hlocks hin hts hown hN hK hP hD hS hA hsz hAe hl
  clear hAe
  have hl : lv_has ls 6 [(0, .ref (ra 0))] := hl
  suffices K9 : ∀ (H : Heap) (locs : List Loc), va_P D vwCl (bkF [mW cy ra (kEn X, T)]) H → va_S A s.heap H locs → W p l e (headSpec wsX5_share_ rm_X5_share_0).room s m args below meth c H locs 0 0 Q (F0 m 0 ls []) from K9 _ _ hP hS
  clear hP hS
  intro H locs hP hS
  refine lv_aload_n hx hb dX5_share__0 rfl (lv_at hl 0 rfl) ?_
  refine lv_iconst (v := nI 0) hx hb dX5_share__1 (by decide) ?_
  refine va_put (D := D) (ci := 5) (v := .int (nI 0)) (ty := .int) (C := RX5) (T := TX5) (N := 16) hx hb hts (by decide +kernel) tyX5 tyX5_ok nmX5 hown hK hP hD hS 0 rfl rfl 4 (by decide) (hts (.fieldLink RX5 44 "DanceHallModel" "threw" "I") (by decide +kernel)) (fun _ h9 => h9) rfl (by decide +kernel) rfl rfl (Nat.le_of_ble_eq_true rfl) dX5_share__2 (fun H locs hP hD hS => ?_)
  have hP : va_P D vwCl (bkF [mW cy ra (kEn X, (T.1, T.2.1, T.2.2.1, nI 0, T.2.2.2.2))]) H := hP
  have hD : va_D A (bkF [mW cy ra (kEn X, (T.1, T.2.1, T.2.2.1, nI 0, T.2.2.2.2))]) := hD
  refine lv_iconst (v := nI 0) hx hb dX5_share__5 (by decide) ?_
  refine lv_istore_n (lv' := [(1, .int (nI 0)), (0, .ref (ra 0))]) hx hb dX5_share__6 rfl hl (by decide) rfl (fun ls hl => ?_)
  refine lv_iconst (v := nI 0) hx hb dX5_share__7 (by decide) ?_
  refine lv_istore_n (lv' := [(2, .int (nI 0)), (1, .int (nI 0)), (0, .ref (ra 0))]) hx hb dX5_share__8 rfl hl (by decide) rfl (fun ls hl => ?_)
  have L_9 : ∀ (n9 : Nat) (k9 : Nat), 64 - k9 = n9 → (k9 ≤ 64) → ∀ (ls : Array Slot) (H : Heap) (locs : List Loc), va_P D vwCl (bkF [mW cy ra (kEn X, (T.1, T.2.1, T.2.2.1, nI 0, T.2.2.2.2))]) H → va_D A (bkF [mW cy ra (kEn X, (T.1, T.2.1, T.2.2.1, nI 0, T.2.2.2.2))]) → va_S A s.heap H locs → lv_has ls 6 [(0, .ref (ra 0)), (2, .int (nI k9)), (1, .int (nI (kfl X.2.2.2.2 k9)))] → W p l e (headSpec wsX5_share_ rm_X5_share_0).room s m args below meth c H locs 0 0 Q (F0 m 9 ls []) := by
    intro n9
    induction n9 using Nat.strongRecOn with
    | _ n9 ih_9 =>
    intro k9 hm_9 h9_0 ls H locs hP hD hS hl
    refine lv_iload_n hx hb dX5_share__9 rfl (lv_at hl 1 rfl) ?_
    refine lv_bipush (v := nI 64) hx hb dX5_share__10 (by decide) ?_
    refine lv_icmp_ge (tgt := 42) hx hb dX5_share__12 (by decide) (fun c_12 => ?_) (fun c_12 => ?_)
    · skip
      have c_12 : 64 ≤ k9 := (nI_leI (a := 64) (b := k9) (by omega) (by omega)).mp c_12
      refine lv_iload_n hx hb dX5_share__42 rfl (lv_at hl 2 rfl) ?_
      refine lv_i2d hx hb dX5_share__43 ?_
      refine lv_dstore_n (lv' := [(2, .double (FP.i2d (nI (kfl X.2.2.2.2 k9)))), (0, .ref (ra 0)), (1, .int (nI (kfl X.2.2.2.2 k9)))]) hx hb dX5_share__44 rfl hl (by decide) rfl (fun ls hl => ?_)
      refine lv_aload_n hx hb dX5_share__45 rfl (lv_at hl 1 rfl) ?_
      refine va_get (D := D) (ci := 5) (v := .ref (ra 1)) (C := RX5) (T := TX5) (N := 16) hx hb hts (by decide +kernel) hown hK hP 0 rfl rfl 0 (by decide) (hts (.fieldLink RX5 7 "DanceHallModel" "all" "[I") (by decide +kernel)) (fun _ h9 => h9) rfl dX5_share__46 ?_
      refine lv_iconst (v := nI 0) hx hb dX5_share__49 (by decide) ?_
      refine va_iald hx hb hK hP 1 0 rfl rfl (vp_in_nI (n := 0) (N := 188) (by omega) (by omega)) dX5_share__50 ?_
      refine kv_i (y := nI X.2.1.2.2.2.2.2) (show ((kEn X)) (nI 0).toNatClampNeg = nI X.2.1.2.2.2.2.2 from rfl) ?_
      refine lv_aload_n hx hb dX5_share__51 rfl (lv_at hl 1 rfl) ?_
      refine va_get (D := D) (ci := 5) (v := .ref (ra 1)) (C := RX5) (T := TX5) (N := 16) hx hb hts (by decide +kernel) hown hK hP 0 rfl rfl 0 (by decide) (hts (.fieldLink RX5 7 "DanceHallModel" "all" "[I") (by decide +kernel)) (fun _ h9 => h9) rfl dX5_share__52 ?_
      refine lv_iconst (v := nI 1) hx hb dX5_share__55 (by decide) ?_
      refine va_iald hx hb hK hP 1 0 rfl rfl (vp_in_nI (n := 1) (N := 188) (by omega) (by omega)) dX5_share__56 ?_
      refine kv_i (y := nI X.2.2.1.2.2.2.2.2) (show ((kEn X)) (nI 1).toNatClampNeg = nI X.2.2.1.2.2.2.2.2 from rfl) ?_
      refine lv_imul hx hb dX5_share__57 ?_
      refine kv_i (y := nI (X.2.1.2.2.2.2.2 * X.2.2.1.2.2.2.2.2)) (pk_mul X.2.1.2.2.2.2.2 X.2.2.1.2.2.2.2.2) ?_
      refine lv_i2d hx hb dX5_share__58 ?_
      refine lv_dstore (lv' := [(4, .double (FP.i2d (nI (X.2.1.2.2.2.2.2 * X.2.2.1.2.2.2.2.2)))), (2, .double (FP.i2d (nI (kfl X.2.2.2.2 k9)))), (0, .ref (ra 0)), (1, .int (nI (kfl X.2.2.2.2 k9)))]) hx hb dX5_share__59 hl (by decide) rfl (fun ls hl => ?_)
      refine lv_aload_n hx hb dX5_share__61 rfl (lv_at hl 2 rfl) ?_
      refine va_get (D := D) (ci := 5) (v := .ref (ra 1)) (C := RX5) (T := TX5) (N := 16) hx hb hts (by decide +kernel) hown hK hP 0 rfl rfl 0 (by decide) (hts (.fieldLink RX5 7 "DanceHallModel" "all" "[I") (by decide +kernel)) (fun _ h9 => h9) rfl dX5_share__62 ?_
      refine lv_iconst (v := nI 0) hx hb dX5_share__65 (by decide) ?_
      refine va_iald hx hb hK hP 1 0 rfl rfl (vp_in_nI (n := 0) (N := 188) (by omega) (by omega)) dX5_share__66 ?_
      refine kv_i (y := nI X.2.1.2.2.2.2.2) (show ((kEn X)) (nI 0).toNatClampNeg = nI X.2.1.2.2.2.2.2 from rfl) ?_
      refine lv_aload_n hx hb dX5_share__67 rfl (lv_at hl 2 rfl) ?_
      refine va_get (D := D) (ci := 5) (v := .ref (ra 1)) (C := RX5) (T := TX5) (N := 16) hx hb hts (by decide +kernel) hown hK hP 0 rfl rfl 0 (by decide) (hts (.fieldLink RX5 7 "DanceHallModel" "all" "[I") (by decide +kernel)) (fun _ h9 => h9) rfl dX5_share__68 ?_
      refine lv_iconst (v := nI 1) hx hb dX5_share__71 (by decide) ?_
      refine va_iald hx hb hK hP 1 0 rfl rfl (vp_in_nI (n := 1) (N := 188) (by omega) (by omega)) dX5_share__72 ?_
      refine kv_i (y := nI X.2.2.1.2.2.2.2.2) (show ((kEn X)) (nI 1).toNatClampNeg = nI X.2.2.1.2.2.2.2.2 from rfl) ?_
      have hpm : X.2.1.2.2.2.2.2 * X.2.2.1.2.2.2.2.2 ≤ 8 * 8 := Nat.mul_le_mul hnl hnf
      obtain rfl : k9 = 64 := (by omega)
      refine lv_imul hx hb dX5_share__73 ?_
      refine kv_i (y := nI (X.2.1.2.2.2.2.2 * X.2.2.1.2.2.2.2.2)) (pk_mul X.2.1.2.2.2.2.2 X.2.2.1.2.2.2.2.2) ?_
      refine lv_if_ne (tgt := 81) hx hb dX5_share__74 (by decide) (fun c_74 => False.elim ?_) (fun c_74 => ?_)
      · skip
        have c_74 : ¬ ((X.2.1.2.2.2.2.2 * X.2.2.1.2.2.2.2.2) = 0) := fun h => c_74 ((nI_eq (a := X.2.1.2.2.2.2.2 * X.2.2.1.2.2.2.2.2) (b := 0) (by omega) (by omega)).mpr h)
        omega
      · skip
        have c_74 : (X.2.1.2.2.2.2.2 * X.2.2.1.2.2.2.2.2) = 0 := (nI_eq (a := X.2.1.2.2.2.2.2 * X.2.2.1.2.2.2.2.2) (b := 0) (by omega) (by omega)).mp c_74
        refine lv_dconst0 hx hb dX5_share__77 ?_
        refine lv_goto (tgt := 85) hx hb dX5_share__78 (by decide) ?_
        exact kr_d (post := fun r_ (u_ : Unit) => r_ = FP.dconst0) (Bs := fun u_ : Unit => [mW cy ra (kEn X, (T.1, T.2.1, T.2.2.1, nI 0, T.2.2.2.2))]) hx hb hr hlocks () hP hK hD hS rfl dX5_share__85 hQ
    · skip
      have c_12 : ¬ (64 ≤ k9) := fun h => c_12 ((nI_leI (a := 64) (b := k9) (by omega) (by omega)).mpr h)
      refine lv_iload_n hx hb dX5_share__15 rfl (lv_at hl 2 rfl) ?_
      refine lv_aload_n hx hb dX5_share__16 rfl (lv_at hl 0 rfl) ?_
      refine va_get (D := D) (ci := 5) (v := .ref (ra 1)) (C := RX5) (T := TX5) (N := 16) hx hb hts (by decide +kernel) hown hK hP 0 rfl rfl 0 (by decide) (hts (.fieldLink RX5 7 "DanceHallModel" "all" "[I") (by decide +kernel)) (fun _ h9 => h9) rfl dX5_share__17 ?_
      refine lv_bipush (v := nI 28) hx hb dX5_share__20 (by decide) ?_
      refine lv_iload_n hx hb dX5_share__22 rfl (lv_at hl 1 rfl) ?_
      refine lv_iadd hx hb dX5_share__23 ?_
      refine kv_i (y := nI (28 + k9)) (nI_add 28 k9) ?_
      refine va_iald hx hb hK hP 1 0 rfl rfl (vp_in_nI (n := 28 + k9) (N := 188) (by omega) (by omega)) dX5_share__24 ?_
      refine kv_i (y := X.2.2.2.2 (k9 / 8) (k9 % 8)) (by rw [nI_clamp (n := 28 + k9) (by omega)]; exact (kq_dk (by omega))) ?_
      refine lv_iconst (v := (-1 : Int32)) hx hb dX5_share__25 (by decide) ?_
      refine lv_icmp_ne (tgt := 33) hx hb dX5_share__26 (by decide) (fun c_26 => ?_) (fun c_26 => ?_)
      · skip
        refine lv_iconst (v := nI 1) hx hb dX5_share__33 (by decide) ?_
        refine lv_iadd hx hb dX5_share__34 ?_
        refine kv_i (y := nI ((kfl X.2.2.2.2 k9) + 1)) (nI_add (kfl X.2.2.2.2 k9) 1) ?_
        refine lv_istore_n (lv' := [(1, .int (nI ((kfl X.2.2.2.2 k9) + 1))), (0, .ref (ra 0)), (2, .int (nI k9))]) hx hb dX5_share__35 rfl hl (by decide) rfl (fun ls hl => ?_)
        refine lv_iinc (v := nI (k9 + 1)) (lv' := [(2, .int (nI (k9 + 1))), (1, .int (nI ((kfl X.2.2.2.2 k9) + 1))), (0, .ref (ra 0))]) hx hb dX5_share__36 hl (k := 2) rfl (nI_add k9 1) (by decide) rfl (fun ls hl => ?_)
        refine lv_goto (tgt := 9) hx hb dX5_share__39 (by decide) ?_
        have hl : lv_has ls 6 [(2, .int (nI (k9 + 1))), (1, .int (nI (kfl X.2.2.2.2 (k9 + 1)))), (0, .ref (ra 0))] := by rw [show nI (kfl X.2.2.2.2 (k9 + 1)) = nI ((kfl X.2.2.2.2 k9) + 1) from (congrArg nI (kfl_n c_26))]; exact hl
        exact ih_9 _ (by omega) (k9 + 1) rfl (by omega) ls H locs hP hD hS (lv_sub hl [2, 0, 1] rfl)
      · skip
        refine lv_iconst (v := nI 0) hx hb dX5_share__29 (by decide) ?_
        refine lv_goto (tgt := 34) hx hb dX5_share__30 (by decide) ?_
        refine lv_iadd hx hb dX5_share__34 ?_
        refine kv_i (y := nI ((kfl X.2.2.2.2 k9) + 0)) (nI_add (kfl X.2.2.2.2 k9) 0) ?_
        refine lv_istore_n (lv' := [(1, .int (nI ((kfl X.2.2.2.2 k9) + 0))), (0, .ref (ra 0)), (2, .int (nI k9))]) hx hb dX5_share__35 rfl hl (by decide) rfl (fun ls hl => ?_)
        refine lv_iinc (v := nI (k9 + 1)) (lv' := [(2, .int (nI (k9 + 1))), (1, .int (nI ((kfl X.2.2.2.2 k9) + 0))), (0, .ref (ra 0))]) hx hb dX5_share__36 hl (k := 2) rfl (nI_add k9 1) (by decide) rfl (fun ls hl => ?_)
        refine lv_goto (tgt := 9) hx hb dX5_share__39 (by decide) ?_
        have e7 : kfl X.2.2.2.2 (k9 + 1) = (kfl X.2.2.2.2 k9) + 0 := kfl_e c_26
        rw [← e7] at hl
        exact ih_9 _ (by omega) (k9 + 1) rfl (by omega) ls H locs hP hD hS (lv_sub hl [2, 0, 1] rfl)
  exact L_9 _ 0  rfl (by omega) ls H locs hP hD hS (lv_sub hl [2, 0, 1] rfl)
abbrev rm_X5_share_y : Room := { frames := 0, cells := 0, slots := 0, locals := 0 }
set_option maxHeartbeats 1000000 in
set_option maxRecDepth 100000 in
/-- share() -/
theorem c_X5_share_y (l : Launch) (D : va_G) (cy : Nat → ClassId) (ra : Nat → Nat) (X : rS) (T : rV) (hnl : X.2.1.2.2.2.2.2 ≤ 8) (hnf : X.2.2.1.2.2.2.2.2 ≤ 8) (hpr : ¬ X.2.1.2.2.2.2.2 * X.2.2.1.2.2.2.2.2 ≤ 0) (hnan : vf_n64 (FP.ddiv (FP.i2d (nI (kns (fun l => kcnt (X.2.2.2.2 l) 8) 8))) (FP.i2d (nI (X.2.1.2.2.2.2.2 * X.2.2.1.2.2.2.2.2))))) (sz : Nat) : Met l yX5_share_ wsX5_share_ rm_X5_share_y (va_Pc [.ref (ra 0)] (kPre D (kT cy) [mW cy ra (kEn X, T)] sz)) (va_Qd (fun r_ (u_ : Unit) => r_ = FP.ddiv (FP.i2d (nI (kns (fun l => kcnt (X.2.2.2.2 l) 8) 8))) (FP.i2d (nI (X.2.1.2.2.2.2.2 * X.2.2.1.2.2.2.2.2)))) (kFr D (kT cy) [mW cy ra (kEn X, T)] sz (fun u_ : Unit => [mW cy ra (kEn X, (T.1, T.2.1, T.2.2.1, nI 0, T.2.2.2.2))])) (va_A (bkF [mW cy ra (kEn X, T)]) sz)) 0 0 (va_A (bkF [mW cy ra (kEn X, T)]) sz) := by
  refine kOpen (y := yX5_share_) (ws := wsX5_share_) (cc := cX5_share_) (maxL := 6) (ret := (some .double)) (av := [.ref (ra 0)]) (Bs := [mW cy ra (kEn X, T)]) (Qc := fun A => (va_Qd (fun r_ (u_ : Unit) => r_ = FP.ddiv (FP.i2d (nI (kns (fun l => kcnt (X.2.2.2.2 l) 8) 8))) (FP.i2d (nI (X.2.1.2.2.2.2.2 * X.2.2.1.2.2.2.2.2)))) (fun (u_ : Unit) t9 => kEnd D (kT cy) A [mW cy ra (kEn X, (T.1, T.2.1, T.2.2.1, nI 0, T.2.2.2.2))] t9) A)) (by decide) rfl (Nat.le_of_ble_eq_true rfl) ?_
  intro p e s m args below meth c A Q ls hQ hx hb hml hr hlocks hin hts hown hN hK hP hD hS hA hsz hAe hl
  clear hAe
  have hl : lv_has ls 6 [(0, .ref (ra 0))] := hl
  suffices K9 : ∀ (H : Heap) (locs : List Loc), va_P D vwCl (bkF [mW cy ra (kEn X, T)]) H → va_S A s.heap H locs → W p l e (headSpec wsX5_share_ rm_X5_share_y).room s m args below meth c H locs 0 0 Q (F0 m 0 ls []) from K9 _ _ hP hS
  clear hP hS
  intro H locs hP hS
  refine lv_aload_n hx hb dX5_share__0 rfl (lv_at hl 0 rfl) ?_
  refine lv_iconst (v := nI 0) hx hb dX5_share__1 (by decide) ?_
  refine va_put (D := D) (ci := 5) (v := .int (nI 0)) (ty := .int) (C := RX5) (T := TX5) (N := 16) hx hb hts (by decide +kernel) tyX5 tyX5_ok nmX5 hown hK hP hD hS 0 rfl rfl 4 (by decide) (hts (.fieldLink RX5 44 "DanceHallModel" "threw" "I") (by decide +kernel)) (fun _ h9 => h9) rfl (by decide +kernel) rfl rfl (Nat.le_of_ble_eq_true rfl) dX5_share__2 (fun H locs hP hD hS => ?_)
  have hP : va_P D vwCl (bkF [mW cy ra (kEn X, (T.1, T.2.1, T.2.2.1, nI 0, T.2.2.2.2))]) H := hP
  have hD : va_D A (bkF [mW cy ra (kEn X, (T.1, T.2.1, T.2.2.1, nI 0, T.2.2.2.2))]) := hD
  refine lv_iconst (v := nI 0) hx hb dX5_share__5 (by decide) ?_
  refine lv_istore_n (lv' := [(1, .int (nI 0)), (0, .ref (ra 0))]) hx hb dX5_share__6 rfl hl (by decide) rfl (fun ls hl => ?_)
  refine lv_iconst (v := nI 0) hx hb dX5_share__7 (by decide) ?_
  refine lv_istore_n (lv' := [(2, .int (nI 0)), (1, .int (nI 0)), (0, .ref (ra 0))]) hx hb dX5_share__8 rfl hl (by decide) rfl (fun ls hl => ?_)
  have L_9 : ∀ (n9 : Nat) (k9 : Nat), 64 - k9 = n9 → (k9 ≤ 64) → ∀ (ls : Array Slot) (H : Heap) (locs : List Loc), va_P D vwCl (bkF [mW cy ra (kEn X, (T.1, T.2.1, T.2.2.1, nI 0, T.2.2.2.2))]) H → va_D A (bkF [mW cy ra (kEn X, (T.1, T.2.1, T.2.2.1, nI 0, T.2.2.2.2))]) → va_S A s.heap H locs → lv_has ls 6 [(0, .ref (ra 0)), (2, .int (nI k9)), (1, .int (nI (kfl X.2.2.2.2 k9)))] → W p l e (headSpec wsX5_share_ rm_X5_share_y).room s m args below meth c H locs 0 0 Q (F0 m 9 ls []) := by
    intro n9
    induction n9 using Nat.strongRecOn with
    | _ n9 ih_9 =>
    intro k9 hm_9 h9_0 ls H locs hP hD hS hl
    refine lv_iload_n hx hb dX5_share__9 rfl (lv_at hl 1 rfl) ?_
    refine lv_bipush (v := nI 64) hx hb dX5_share__10 (by decide) ?_
    refine lv_icmp_ge (tgt := 42) hx hb dX5_share__12 (by decide) (fun c_12 => ?_) (fun c_12 => ?_)
    · skip
      have c_12 : 64 ≤ k9 := (nI_leI (a := 64) (b := k9) (by omega) (by omega)).mp c_12
      refine lv_iload_n hx hb dX5_share__42 rfl (lv_at hl 2 rfl) ?_
      refine lv_i2d hx hb dX5_share__43 ?_
      refine lv_dstore_n (lv' := [(2, .double (FP.i2d (nI (kfl X.2.2.2.2 k9)))), (0, .ref (ra 0)), (1, .int (nI (kfl X.2.2.2.2 k9)))]) hx hb dX5_share__44 rfl hl (by decide) rfl (fun ls hl => ?_)
      refine lv_aload_n hx hb dX5_share__45 rfl (lv_at hl 1 rfl) ?_
      refine va_get (D := D) (ci := 5) (v := .ref (ra 1)) (C := RX5) (T := TX5) (N := 16) hx hb hts (by decide +kernel) hown hK hP 0 rfl rfl 0 (by decide) (hts (.fieldLink RX5 7 "DanceHallModel" "all" "[I") (by decide +kernel)) (fun _ h9 => h9) rfl dX5_share__46 ?_
      refine lv_iconst (v := nI 0) hx hb dX5_share__49 (by decide) ?_
      refine va_iald hx hb hK hP 1 0 rfl rfl (vp_in_nI (n := 0) (N := 188) (by omega) (by omega)) dX5_share__50 ?_
      refine kv_i (y := nI X.2.1.2.2.2.2.2) (show ((kEn X)) (nI 0).toNatClampNeg = nI X.2.1.2.2.2.2.2 from rfl) ?_
      refine lv_aload_n hx hb dX5_share__51 rfl (lv_at hl 1 rfl) ?_
      refine va_get (D := D) (ci := 5) (v := .ref (ra 1)) (C := RX5) (T := TX5) (N := 16) hx hb hts (by decide +kernel) hown hK hP 0 rfl rfl 0 (by decide) (hts (.fieldLink RX5 7 "DanceHallModel" "all" "[I") (by decide +kernel)) (fun _ h9 => h9) rfl dX5_share__52 ?_
      refine lv_iconst (v := nI 1) hx hb dX5_share__55 (by decide) ?_
      refine va_iald hx hb hK hP 1 0 rfl rfl (vp_in_nI (n := 1) (N := 188) (by omega) (by omega)) dX5_share__56 ?_
      refine kv_i (y := nI X.2.2.1.2.2.2.2.2) (show ((kEn X)) (nI 1).toNatClampNeg = nI X.2.2.1.2.2.2.2.2 from rfl) ?_
      refine lv_imul hx hb dX5_share__57 ?_
      refine kv_i (y := nI (X.2.1.2.2.2.2.2 * X.2.2.1.2.2.2.2.2)) (pk_mul X.2.1.2.2.2.2.2 X.2.2.1.2.2.2.2.2) ?_
      refine lv_i2d hx hb dX5_share__58 ?_
      refine lv_dstore (lv' := [(4, .double (FP.i2d (nI (X.2.1.2.2.2.2.2 * X.2.2.1.2.2.2.2.2)))), (2, .double (FP.i2d (nI (kfl X.2.2.2.2 k9)))), (0, .ref (ra 0)), (1, .int (nI (kfl X.2.2.2.2 k9)))]) hx hb dX5_share__59 hl (by decide) rfl (fun ls hl => ?_)
      refine lv_aload_n hx hb dX5_share__61 rfl (lv_at hl 2 rfl) ?_
      refine va_get (D := D) (ci := 5) (v := .ref (ra 1)) (C := RX5) (T := TX5) (N := 16) hx hb hts (by decide +kernel) hown hK hP 0 rfl rfl 0 (by decide) (hts (.fieldLink RX5 7 "DanceHallModel" "all" "[I") (by decide +kernel)) (fun _ h9 => h9) rfl dX5_share__62 ?_
      refine lv_iconst (v := nI 0) hx hb dX5_share__65 (by decide) ?_
      refine va_iald hx hb hK hP 1 0 rfl rfl (vp_in_nI (n := 0) (N := 188) (by omega) (by omega)) dX5_share__66 ?_
      refine kv_i (y := nI X.2.1.2.2.2.2.2) (show ((kEn X)) (nI 0).toNatClampNeg = nI X.2.1.2.2.2.2.2 from rfl) ?_
      refine lv_aload_n hx hb dX5_share__67 rfl (lv_at hl 2 rfl) ?_
      refine va_get (D := D) (ci := 5) (v := .ref (ra 1)) (C := RX5) (T := TX5) (N := 16) hx hb hts (by decide +kernel) hown hK hP 0 rfl rfl 0 (by decide) (hts (.fieldLink RX5 7 "DanceHallModel" "all" "[I") (by decide +kernel)) (fun _ h9 => h9) rfl dX5_share__68 ?_
      refine lv_iconst (v := nI 1) hx hb dX5_share__71 (by decide) ?_
      refine va_iald hx hb hK hP 1 0 rfl rfl (vp_in_nI (n := 1) (N := 188) (by omega) (by omega)) dX5_share__72 ?_
      refine kv_i (y := nI X.2.2.1.2.2.2.2.2) (show ((kEn X)) (nI 1).toNatClampNeg = nI X.2.2.1.2.2.2.2.2 from rfl) ?_
      have hpm : X.2.1.2.2.2.2.2 * X.2.2.1.2.2.2.2.2 ≤ 8 * 8 := Nat.mul_le_mul hnl hnf
      obtain rfl : k9 = 64 := (by omega)
      refine lv_imul hx hb dX5_share__73 ?_
      refine kv_i (y := nI (X.2.1.2.2.2.2.2 * X.2.2.1.2.2.2.2.2)) (pk_mul X.2.1.2.2.2.2.2 X.2.2.1.2.2.2.2.2) ?_
      refine lv_if_ne (tgt := 81) hx hb dX5_share__74 (by decide) (fun c_74 => ?_) (fun c_74 => False.elim ?_)
      · skip
        have c_74 : ¬ ((X.2.1.2.2.2.2.2 * X.2.2.1.2.2.2.2.2) = 0) := fun h => c_74 ((nI_eq (a := X.2.1.2.2.2.2.2 * X.2.2.1.2.2.2.2.2) (b := 0) (by omega) (by omega)).mpr h)
        refine lv_dload_n hx hb dX5_share__81 rfl (lv_at hl 1 rfl) ?_
        refine lv_dload hx hb dX5_share__82 (lv_at hl 0 rfl) ?_
        refine lv_ddiv hx hb dX5_share__84 (by rw [kfl_64]; exact hnan) ?_
        exact kr_d (post := fun r_ (u_ : Unit) => r_ = FP.ddiv (FP.i2d (nI (kns (fun l => kcnt (X.2.2.2.2 l) 8) 8))) (FP.i2d (nI (X.2.1.2.2.2.2.2 * X.2.2.1.2.2.2.2.2)))) (Bs := fun u_ : Unit => [mW cy ra (kEn X, (T.1, T.2.1, T.2.2.1, nI 0, T.2.2.2.2))]) hx hb hr hlocks () hP hK hD hS (by rw [kfl_64]) dX5_share__85 hQ
      · skip
        have c_74 : (X.2.1.2.2.2.2.2 * X.2.2.1.2.2.2.2.2) = 0 := (nI_eq (a := X.2.1.2.2.2.2.2 * X.2.2.1.2.2.2.2.2) (b := 0) (by omega) (by omega)).mp c_74
        omega
    · skip
      have c_12 : ¬ (64 ≤ k9) := fun h => c_12 ((nI_leI (a := 64) (b := k9) (by omega) (by omega)).mpr h)
      refine lv_iload_n hx hb dX5_share__15 rfl (lv_at hl 2 rfl) ?_
      refine lv_aload_n hx hb dX5_share__16 rfl (lv_at hl 0 rfl) ?_
      refine va_get (D := D) (ci := 5) (v := .ref (ra 1)) (C := RX5) (T := TX5) (N := 16) hx hb hts (by decide +kernel) hown hK hP 0 rfl rfl 0 (by decide) (hts (.fieldLink RX5 7 "DanceHallModel" "all" "[I") (by decide +kernel)) (fun _ h9 => h9) rfl dX5_share__17 ?_
      refine lv_bipush (v := nI 28) hx hb dX5_share__20 (by decide) ?_
      refine lv_iload_n hx hb dX5_share__22 rfl (lv_at hl 1 rfl) ?_
      refine lv_iadd hx hb dX5_share__23 ?_
      refine kv_i (y := nI (28 + k9)) (nI_add 28 k9) ?_
      refine va_iald hx hb hK hP 1 0 rfl rfl (vp_in_nI (n := 28 + k9) (N := 188) (by omega) (by omega)) dX5_share__24 ?_
      refine kv_i (y := X.2.2.2.2 (k9 / 8) (k9 % 8)) (by rw [nI_clamp (n := 28 + k9) (by omega)]; exact (kq_dk (by omega))) ?_
      refine lv_iconst (v := (-1 : Int32)) hx hb dX5_share__25 (by decide) ?_
      refine lv_icmp_ne (tgt := 33) hx hb dX5_share__26 (by decide) (fun c_26 => ?_) (fun c_26 => ?_)
      · skip
        refine lv_iconst (v := nI 1) hx hb dX5_share__33 (by decide) ?_
        refine lv_iadd hx hb dX5_share__34 ?_
        refine kv_i (y := nI ((kfl X.2.2.2.2 k9) + 1)) (nI_add (kfl X.2.2.2.2 k9) 1) ?_
        refine lv_istore_n (lv' := [(1, .int (nI ((kfl X.2.2.2.2 k9) + 1))), (0, .ref (ra 0)), (2, .int (nI k9))]) hx hb dX5_share__35 rfl hl (by decide) rfl (fun ls hl => ?_)
        refine lv_iinc (v := nI (k9 + 1)) (lv' := [(2, .int (nI (k9 + 1))), (1, .int (nI ((kfl X.2.2.2.2 k9) + 1))), (0, .ref (ra 0))]) hx hb dX5_share__36 hl (k := 2) rfl (nI_add k9 1) (by decide) rfl (fun ls hl => ?_)
        refine lv_goto (tgt := 9) hx hb dX5_share__39 (by decide) ?_
        have hl : lv_has ls 6 [(2, .int (nI (k9 + 1))), (1, .int (nI (kfl X.2.2.2.2 (k9 + 1)))), (0, .ref (ra 0))] := by rw [show nI (kfl X.2.2.2.2 (k9 + 1)) = nI ((kfl X.2.2.2.2 k9) + 1) from (congrArg nI (kfl_n c_26))]; exact hl
        exact ih_9 _ (by omega) (k9 + 1) rfl (by omega) ls H locs hP hD hS (lv_sub hl [2, 0, 1] rfl)
      · skip
        refine lv_iconst (v := nI 0) hx hb dX5_share__29 (by decide) ?_
        refine lv_goto (tgt := 34) hx hb dX5_share__30 (by decide) ?_
        refine lv_iadd hx hb dX5_share__34 ?_
        refine kv_i (y := nI ((kfl X.2.2.2.2 k9) + 0)) (nI_add (kfl X.2.2.2.2 k9) 0) ?_
        refine lv_istore_n (lv' := [(1, .int (nI ((kfl X.2.2.2.2 k9) + 0))), (0, .ref (ra 0)), (2, .int (nI k9))]) hx hb dX5_share__35 rfl hl (by decide) rfl (fun ls hl => ?_)
        refine lv_iinc (v := nI (k9 + 1)) (lv' := [(2, .int (nI (k9 + 1))), (1, .int (nI ((kfl X.2.2.2.2 k9) + 0))), (0, .ref (ra 0))]) hx hb dX5_share__36 hl (k := 2) rfl (nI_add k9 1) (by decide) rfl (fun ls hl => ?_)
        refine lv_goto (tgt := 9) hx hb dX5_share__39 (by decide) ?_
        have e7 : kfl X.2.2.2.2 (k9 + 1) = (kfl X.2.2.2.2 k9) + 0 := kfl_e c_26
        rw [← e7] at hl
        exact ih_9 _ (by omega) (k9 + 1) rfl (by omega) ls H locs hP hD hS (lv_sub hl [2, 0, 1] rfl)
  exact L_9 _ 0  rfl (by omega) ls H locs hP hD hS (lv_sub hl [2, 0, 1] rfl)
abbrev rm_X5_append : Room := { frames := 1, cells := 0, slots := 0, locals := 25 }
set_option maxHeartbeats 1000000 in
set_option maxRecDepth 100000 in
/-- append -/
theorem c_X5_append (l : Launch) (D : va_G) (cy : Nat → ClassId) (ra : Nat → Nat) (al : Nat → Int32) (T : rV) (v : Nat) (hv : v < 128) (htl : T.2.2.2.2.2.2.2.2.2.2.1 < 100) (sz : Nat) : Met l yX5_append wsX5_append rm_X5_append (va_Pc [.ref (ra 0), .int (nI v)] (kPre D (kT cy) [mW cy ra (al, T)] sz)) (va_Qi (fun r_ (u_ : Unit) => r_ = nI (T.2.2.2.2.2.2.2.2.2.2.1 + 1)) (kFr D (kT cy) [mW cy ra (al, T)] sz (fun u_ : Unit => [mW cy ra (al, (T.1, T.2.1, T.2.2.1, nI 0, T.2.2.2.2.1, T.2.2.2.2.2.1, T.2.2.2.2.2.2.1, T.2.2.2.2.2.2.2.1, T.2.2.2.2.2.2.2.2.1, upd T.2.2.2.2.2.2.2.2.2.1 T.2.2.2.2.2.2.2.2.2.2.1 (nI v), T.2.2.2.2.2.2.2.2.2.2.1 + 1, T.2.2.2.2.2.2.2.2.2.2.2))])) (va_A (bkF [mW cy ra (al, T)]) sz)) 0 0 (va_A (bkF [mW cy ra (al, T)]) sz) := by
  refine kOpen (y := yX5_append) (ws := wsX5_append) (cc := cX5_append) (maxL := 2) (ret := (some .int)) (av := [.ref (ra 0), .int (nI v)]) (Bs := [mW cy ra (al, T)]) (Qc := fun A => (va_Qi (fun r_ (u_ : Unit) => r_ = nI (T.2.2.2.2.2.2.2.2.2.2.1 + 1)) (fun (u_ : Unit) t9 => kEnd D (kT cy) A [mW cy ra (al, (T.1, T.2.1, T.2.2.1, nI 0, T.2.2.2.2.1, T.2.2.2.2.2.1, T.2.2.2.2.2.2.1, T.2.2.2.2.2.2.2.1, T.2.2.2.2.2.2.2.2.1, upd T.2.2.2.2.2.2.2.2.2.1 T.2.2.2.2.2.2.2.2.2.2.1 (nI v), T.2.2.2.2.2.2.2.2.2.2.1 + 1, T.2.2.2.2.2.2.2.2.2.2.2))] t9) A)) (by decide) rfl (Nat.le_of_ble_eq_true rfl) ?_
  intro p e s m args below meth c A Q ls hQ hx hb hml hr hlocks hin hts hown hN hK hP hD hS hA hsz hAe hl
  clear hAe
  have hl : lv_has ls 2 [(0, .ref (ra 0)), (1, .int (nI v))] := hl
  suffices K9 : ∀ (H : Heap) (locs : List Loc), va_P D vwCl (bkF [mW cy ra (al, T)]) H → va_S A s.heap H locs → W p l e (headSpec wsX5_append rm_X5_append).room s m args below meth c H locs 0 0 Q (F0 m 0 ls []) from K9 _ _ hP hS
  clear hP hS
  intro H locs hP hS
  refine lv_iload_n hx hb dX5_append_0 rfl (lv_at hl 1 rfl) ?_
  refine lv_i2l (v := (nI v).toInt64) hx hb dX5_append_1 rfl ?_
  refine lv_lconst (v := 0) hx hb dX5_append_2 (by decide) ?_
  refine lv_ldc2 hx hb hown (hts (.constantLong RX5 169 (127)) (by decide +kernel)) dX5_append_3 ?_
  refine kc_i (Cs := []) (Rs := [mW cy ra (al, T)]) (Bs := [mW cy ra (al, T)]) (Cs' := fun u_ : Unit => []) (Fs := fun u_ : Unit => [mW cy ra (al, T)]) hP hD hS hA [] [0] [0] rfl rfl (by decide) (by decide) (fun _ => rfl) (va_runS (As := [.long ((nI v).toInt64), .long 0, .long (127)]) (rest := []) ⟨hx, hb, hml, hown, hts⟩ (c_X5_in l D cy ((nI v).toInt64) 0 (127) H.size) (va_cwS 3 hts gX5_append_X5_in rfl rfl rfl (by decide +kernel) ⟨Nat.le_of_ble_eq_true rfl, Nat.le_of_ble_eq_true rfl⟩) (kPre_S hK hN hP hD [] (by decide) rfl) rfl rfl hl.1 rfl (lv_room (Nat.le_of_ble_eq_true rfl)) dX5_append_6 ⟨Nat.le_of_ble_eq_true rfl, Nat.le_of_ble_eq_true rfl⟩) (fun r_ u_ H locs hw hP hD hS => ?_)
  have hw : r_ = if kIn ((nI v).toInt64) 0 (127) then nI 1 else nI 0 := hw
  subst hw
  refine kv_i (y := nI 1) (if_pos ((kIn32 (y := nI 0) (z := nI 127) (by decide) (by decide)).mpr (kwin (by omega) (by omega) (by decide)))) ?_
  refine lv_if_ne (tgt := 18) hx hb dX5_append_9 (by decide) (fun _ => ?_) (fun h => absurd h (by decide))
  refine lv_aload_n hx hb dX5_append_18 rfl (lv_at hl 0 rfl) ?_
  refine va_get (D := D) (ci := 5) (v := .int (nI T.2.2.2.2.2.2.2.2.2.2.1)) (C := RX5) (T := TX5) (N := 16) hx hb hts (by decide +kernel) hown hK hP 0 rfl rfl 11 (by decide) (hts (.fieldLink RX5 171 "DanceHallModel" "textLong" "I") (by decide +kernel)) (fun _ h9 => h9) rfl dX5_append_19 ?_
  refine lv_bipush (v := nI 100) hx hb dX5_append_22 (by decide) ?_
  refine lv_icmp_ne (tgt := 33) hx hb dX5_append_24 (by decide) (fun c_24 => ?_) (fun c_24 => False.elim ?_)
  · skip
    have c_24 : ¬ (T.2.2.2.2.2.2.2.2.2.2.1 = 100) := fun h => c_24 ((nI_eq (a := T.2.2.2.2.2.2.2.2.2.2.1) (b := 100) (by omega) (by omega)).mpr h)
    refine lv_aload_n hx hb dX5_append_33 rfl (lv_at hl 0 rfl) ?_
    refine va_get (D := D) (ci := 5) (v := .ref (ra 9)) (C := RX5) (T := TX5) (N := 16) hx hb hts (by decide +kernel) hown hK hP 0 rfl rfl 10 (by decide) (hts (.fieldLink RX5 35 "DanceHallModel" "text" "[I") (by decide +kernel)) (fun _ h9 => h9) rfl dX5_append_34 ?_
    refine lv_aload_n hx hb dX5_append_37 rfl (lv_at hl 0 rfl) ?_
    refine va_get (D := D) (ci := 5) (v := .int (nI T.2.2.2.2.2.2.2.2.2.2.1)) (C := RX5) (T := TX5) (N := 16) hx hb hts (by decide +kernel) hown hK hP 0 rfl rfl 11 (by decide) (hts (.fieldLink RX5 171 "DanceHallModel" "textLong" "I") (by decide +kernel)) (fun _ h9 => h9) rfl dX5_append_38 ?_
    refine lv_iload_n hx hb dX5_append_41 rfl (lv_at hl 1 rfl) ?_
    refine va_iast hx hb hK hP hD hS 9 0 rfl rfl (vp_in_nI (n := T.2.2.2.2.2.2.2.2.2.2.1) (N := 100) (by omega) (by omega)) dX5_append_42 (fun H locs hP hD hS => ?_)
    rw [nI_clamp (n := T.2.2.2.2.2.2.2.2.2.2.1) (by omega)] at hP hD
    have hP : va_P D vwCl (bkF [mW cy ra (al, (T.1, T.2.1, T.2.2.1, T.2.2.2.1, T.2.2.2.2.1, T.2.2.2.2.2.1, T.2.2.2.2.2.2.1, T.2.2.2.2.2.2.2.1, T.2.2.2.2.2.2.2.2.1, upd T.2.2.2.2.2.2.2.2.2.1 T.2.2.2.2.2.2.2.2.2.2.1 (nI v), T.2.2.2.2.2.2.2.2.2.2))]) H := hP
    have hD : va_D A (bkF [mW cy ra (al, (T.1, T.2.1, T.2.2.1, T.2.2.2.1, T.2.2.2.2.1, T.2.2.2.2.2.1, T.2.2.2.2.2.2.1, T.2.2.2.2.2.2.2.1, T.2.2.2.2.2.2.2.2.1, upd T.2.2.2.2.2.2.2.2.2.1 T.2.2.2.2.2.2.2.2.2.2.1 (nI v), T.2.2.2.2.2.2.2.2.2.2))]) := hD
    refine lv_aload_n hx hb dX5_append_43 rfl (lv_at hl 0 rfl) ?_
    refine lv_dup hx hb dX5_append_44 rfl ?_
    refine va_get (D := D) (ci := 5) (v := .int (nI T.2.2.2.2.2.2.2.2.2.2.1)) (C := RX5) (T := TX5) (N := 16) hx hb hts (by decide +kernel) hown hK hP 0 rfl rfl 11 (by decide) (hts (.fieldLink RX5 171 "DanceHallModel" "textLong" "I") (by decide +kernel)) (fun _ h9 => h9) rfl dX5_append_45 ?_
    refine lv_iconst (v := nI 1) hx hb dX5_append_48 (by decide) ?_
    refine lv_iadd hx hb dX5_append_49 ?_
    refine kv_i (y := nI (T.2.2.2.2.2.2.2.2.2.2.1 + 1)) (nI_add T.2.2.2.2.2.2.2.2.2.2.1 1) ?_
    refine va_put (D := D) (ci := 5) (v := .int (nI (T.2.2.2.2.2.2.2.2.2.2.1 + 1))) (ty := .int) (C := RX5) (T := TX5) (N := 16) hx hb hts (by decide +kernel) tyX5 tyX5_ok nmX5 hown hK hP hD hS 0 rfl rfl 11 (by decide) (hts (.fieldLink RX5 171 "DanceHallModel" "textLong" "I") (by decide +kernel)) (fun _ h9 => h9) rfl (by decide +kernel) rfl rfl (Nat.le_of_ble_eq_true rfl) dX5_append_50 (fun H locs hP hD hS => ?_)
    have hP : va_P D vwCl (bkF [mW cy ra (al, (T.1, T.2.1, T.2.2.1, T.2.2.2.1, T.2.2.2.2.1, T.2.2.2.2.2.1, T.2.2.2.2.2.2.1, T.2.2.2.2.2.2.2.1, T.2.2.2.2.2.2.2.2.1, upd T.2.2.2.2.2.2.2.2.2.1 T.2.2.2.2.2.2.2.2.2.2.1 (nI v), T.2.2.2.2.2.2.2.2.2.2.1 + 1, T.2.2.2.2.2.2.2.2.2.2.2))]) H := hP
    have hD : va_D A (bkF [mW cy ra (al, (T.1, T.2.1, T.2.2.1, T.2.2.2.1, T.2.2.2.2.1, T.2.2.2.2.2.1, T.2.2.2.2.2.2.1, T.2.2.2.2.2.2.2.1, T.2.2.2.2.2.2.2.2.1, upd T.2.2.2.2.2.2.2.2.2.1 T.2.2.2.2.2.2.2.2.2.2.1 (nI v), T.2.2.2.2.2.2.2.2.2.2.1 + 1, T.2.2.2.2.2.2.2.2.2.2.2))]) := hD
    refine lv_aload_n hx hb dX5_append_53 rfl (lv_at hl 0 rfl) ?_
    refine lv_aload_n hx hb dX5_append_54 rfl (lv_at hl 0 rfl) ?_
    refine va_get (D := D) (ci := 5) (v := .int (nI (T.2.2.2.2.2.2.2.2.2.2.1 + 1))) (C := RX5) (T := TX5) (N := 16) hx hb hts (by decide +kernel) hown hK hP 0 rfl rfl 11 (by decide) (hts (.fieldLink RX5 171 "DanceHallModel" "textLong" "I") (by decide +kernel)) (fun _ h9 => h9) rfl dX5_append_55 ?_
    refine kc_i (Cs := [mW cy ra (al, (T.1, T.2.1, T.2.2.1, T.2.2.2.1, T.2.2.2.2.1, T.2.2.2.2.2.1, T.2.2.2.2.2.2.1, T.2.2.2.2.2.2.2.1, T.2.2.2.2.2.2.2.2.1, upd T.2.2.2.2.2.2.2.2.2.1 T.2.2.2.2.2.2.2.2.2.2.1 (nI v), T.2.2.2.2.2.2.2.2.2.2.1 + 1, T.2.2.2.2.2.2.2.2.2.2.2))]) (Rs := []) (Bs := [mW cy ra (al, (T.1, T.2.1, T.2.2.1, T.2.2.2.1, T.2.2.2.2.1, T.2.2.2.2.2.1, T.2.2.2.2.2.2.1, T.2.2.2.2.2.2.2.1, T.2.2.2.2.2.2.2.2.1, upd T.2.2.2.2.2.2.2.2.2.1 T.2.2.2.2.2.2.2.2.2.2.1 (nI v), T.2.2.2.2.2.2.2.2.2.2.1 + 1, T.2.2.2.2.2.2.2.2.2.2.2))]) (Cs' := fun u_ : Unit => [mW cy ra (al, (T.1, T.2.1, T.2.2.1, nI 0, T.2.2.2.2.1, T.2.2.2.2.2.1, T.2.2.2.2.2.2.1, T.2.2.2.2.2.2.2.1, T.2.2.2.2.2.2.2.2.1, (upd T.2.2.2.2.2.2.2.2.2.1 T.2.2.2.2.2.2.2.2.2.2.1 (nI v)), (T.2.2.2.2.2.2.2.2.2.2.1 + 1), T.2.2.2.2.2.2.2.2.2.2.2))]) (Fs := fun u_ : Unit => [mW cy ra (al, (T.1, T.2.1, T.2.2.1, nI 0, T.2.2.2.2.1, T.2.2.2.2.2.1, T.2.2.2.2.2.2.1, T.2.2.2.2.2.2.2.1, T.2.2.2.2.2.2.2.2.1, (upd T.2.2.2.2.2.2.2.2.2.1 T.2.2.2.2.2.2.2.2.2.2.1 (nI v)), (T.2.2.2.2.2.2.2.2.2.2.1 + 1), T.2.2.2.2.2.2.2.2.2.2.2))]) hP hD hS hA [0] [] [0] rfl rfl (by decide) (by decide) (fun _ => rfl) (va_runV (As := [.int (nI (T.2.2.2.2.2.2.2.2.2.2.1 + 1))]) (rest := []) ⟨hx, hb, hml, hown, hts⟩ (c_X5_fine l D cy ra al (T.1, T.2.1, T.2.2.1, T.2.2.2.1, T.2.2.2.2.1, T.2.2.2.2.2.1, T.2.2.2.2.2.2.1, T.2.2.2.2.2.2.2.1, T.2.2.2.2.2.2.2.2.1, upd T.2.2.2.2.2.2.2.2.2.1 T.2.2.2.2.2.2.2.2.2.2.1 (nI v), T.2.2.2.2.2.2.2.2.2.2.1 + 1, T.2.2.2.2.2.2.2.2.2.2.2) (nI (T.2.2.2.2.2.2.2.2.2.2.1 + 1)) H.size) (cwV 1 hts gX5_append_X5_fine rfl rfl rfl (by decide +kernel) ⟨Nat.le_of_ble_eq_true rfl, Nat.le_of_ble_eq_true rfl⟩) (kPre_V (ci := 5) hK hN hP hD [0] (by decide) rfl 0 rfl rfl) rfl rfl hl.1 rfl (lv_room (Nat.le_of_ble_eq_true rfl)) dX5_append_58 ⟨Nat.le_of_ble_eq_true rfl, Nat.le_of_ble_eq_true rfl⟩) (fun r_ u_ H locs hw hP hD hS => ?_)
    have hw : r_ = (nI (T.2.2.2.2.2.2.2.2.2.2.1 + 1)) := hw
    subst hw
    exact kr_i (post := fun r_ (u_ : Unit) => r_ = nI (T.2.2.2.2.2.2.2.2.2.2.1 + 1)) (Bs := fun u_ : Unit => [mW cy ra (al, (T.1, T.2.1, T.2.2.1, nI 0, T.2.2.2.2.1, T.2.2.2.2.2.1, T.2.2.2.2.2.2.1, T.2.2.2.2.2.2.2.1, T.2.2.2.2.2.2.2.2.1, upd T.2.2.2.2.2.2.2.2.2.1 T.2.2.2.2.2.2.2.2.2.2.1 (nI v), T.2.2.2.2.2.2.2.2.2.2.1 + 1, T.2.2.2.2.2.2.2.2.2.2.2))]) hx hb hr hlocks rfl () hP hK hD hS rfl dX5_append_61 hQ
  · skip
    have c_24 : T.2.2.2.2.2.2.2.2.2.2.1 = 100 := (nI_eq (a := T.2.2.2.2.2.2.2.2.2.2.1) (b := 100) (by omega) (by omega)).mp c_24
    omega
abbrev rm_X5_append_a : Room := { frames := 1, cells := 0, slots := 0, locals := 25 }
set_option maxHeartbeats 1000000 in
set_option maxRecDepth 100000 in
/-- append, out of range -/
theorem c_X5_append_a (l : Launch) (D : va_G) (cy : Nat → ClassId) (ra : Nat → Nat) (al : Nat → Int32) (T : rV) (v : Int32) (hbad : ¬ (¬ v < nI 0 ∧ ¬ nI 127 < v)) (sz : Nat) : Met l yX5_append wsX5_append rm_X5_append_a (va_Pc [.ref (ra 0), .int v] (kPre D (kT cy) [mW cy ra (al, T)] sz)) (va_Qi (fun r_ (u_ : Unit) => r_ = nI 0) (kFr D (kT cy) [mW cy ra (al, T)] sz (fun u_ : Unit => [mW cy ra (al, (T.1, T.2.1, T.2.2.1, nI 1, T.2.2.2.2))])) (va_A (bkF [mW cy ra (al, T)]) sz)) 0 0 (va_A (bkF [mW cy ra (al, T)]) sz) := by
  refine kOpen (y := yX5_append) (ws := wsX5_append) (cc := cX5_append) (maxL := 2) (ret := (some .int)) (av := [.ref (ra 0), .int v]) (Bs := [mW cy ra (al, T)]) (Qc := fun A => (va_Qi (fun r_ (u_ : Unit) => r_ = nI 0) (fun (u_ : Unit) t9 => kEnd D (kT cy) A [mW cy ra (al, (T.1, T.2.1, T.2.2.1, nI 1, T.2.2.2.2))] t9) A)) (by decide) rfl (Nat.le_of_ble_eq_true rfl) ?_
  intro p e s m args below meth c A Q ls hQ hx hb hml hr hlocks hin hts hown hN hK hP hD hS hA hsz hAe hl
  clear hAe
  have hl : lv_has ls 2 [(0, .ref (ra 0)), (1, .int v)] := hl
  suffices K9 : ∀ (H : Heap) (locs : List Loc), va_P D vwCl (bkF [mW cy ra (al, T)]) H → va_S A s.heap H locs → W p l e (headSpec wsX5_append rm_X5_append_a).room s m args below meth c H locs 0 0 Q (F0 m 0 ls []) from K9 _ _ hP hS
  clear hP hS
  intro H locs hP hS
  refine lv_iload_n hx hb dX5_append_0 rfl (lv_at hl 1 rfl) ?_
  refine lv_i2l (v := v.toInt64) hx hb dX5_append_1 rfl ?_
  refine lv_lconst (v := 0) hx hb dX5_append_2 (by decide) ?_
  refine lv_ldc2 hx hb hown (hts (.constantLong RX5 169 (127)) (by decide +kernel)) dX5_append_3 ?_
  refine kc_i (Cs := []) (Rs := [mW cy ra (al, T)]) (Bs := [mW cy ra (al, T)]) (Cs' := fun u_ : Unit => []) (Fs := fun u_ : Unit => [mW cy ra (al, T)]) hP hD hS hA [] [0] [0] rfl rfl (by decide) (by decide) (fun _ => rfl) (va_runS (As := [.long v.toInt64, .long 0, .long (127)]) (rest := []) ⟨hx, hb, hml, hown, hts⟩ (c_X5_in l D cy v.toInt64 0 (127) H.size) (va_cwS 3 hts gX5_append_X5_in rfl rfl rfl (by decide +kernel) ⟨Nat.le_of_ble_eq_true rfl, Nat.le_of_ble_eq_true rfl⟩) (kPre_S hK hN hP hD [] (by decide) rfl) rfl rfl hl.1 rfl (lv_room (Nat.le_of_ble_eq_true rfl)) dX5_append_6 ⟨Nat.le_of_ble_eq_true rfl, Nat.le_of_ble_eq_true rfl⟩) (fun r_ u_ H locs hw hP hD hS => ?_)
  have hw : r_ = if kIn v.toInt64 0 (127) then nI 1 else nI 0 := hw
  subst hw
  refine kv_i (y := nI 0) (if_neg (fun h => hbad ((kIn32 (y := nI 0) (z := nI 127) (by decide) (by decide)).mp h))) ?_
  refine lv_if_ne (tgt := 18) hx hb dX5_append_9 (by decide) (fun h => absurd h (by decide)) (fun _ => ?_)
  refine lv_aload_n hx hb dX5_append_12 rfl (lv_at hl 0 rfl) ?_
  refine lv_iconst (v := nI 1) hx hb dX5_append_13 (by decide) ?_
  refine kc_i (Cs := [mW cy ra (al, T)]) (Rs := []) (Bs := [mW cy ra (al, T)]) (Cs' := fun u_ : Unit => [mW cy ra (al, (T.1, T.2.1, T.2.2.1, (nI 1), T.2.2.2.2))]) (Fs := fun u_ : Unit => [mW cy ra (al, (T.1, T.2.1, T.2.2.1, (nI 1), T.2.2.2.2))]) hP hD hS hA [0] [] [0] rfl rfl (by decide) (by decide) (fun _ => rfl) (va_runV (As := [.int (nI 1)]) (rest := []) ⟨hx, hb, hml, hown, hts⟩ (c_X5_throwing l D cy ra al T (nI 1) H.size) (cwV 1 hts gX5_append_X5_throwing rfl rfl rfl (by decide +kernel) ⟨Nat.le_of_ble_eq_true rfl, Nat.le_of_ble_eq_true rfl⟩) (kPre_V (ci := 5) hK hN hP hD [0] (by decide) rfl 0 rfl rfl) rfl rfl hl.1 rfl (lv_room (Nat.le_of_ble_eq_true rfl)) dX5_append_14 ⟨Nat.le_of_ble_eq_true rfl, Nat.le_of_ble_eq_true rfl⟩) (fun r_ u_ H locs hw hP hD hS => ?_)
  have hw : r_ = nI 0 := hw
  subst hw
  exact kr_i (post := fun r_ (u_ : Unit) => r_ = nI 0) (Bs := fun u_ : Unit => [mW cy ra (al, (T.1, T.2.1, T.2.2.1, nI 1, T.2.2.2.2))]) hx hb hr hlocks rfl () hP hK hD hS rfl dX5_append_17 hQ
abbrev rm_X5_append_s : Room := { frames := 1, cells := 0, slots := 0, locals := 25 }
set_option maxHeartbeats 1000000 in
set_option maxRecDepth 100000 in
/-- append, full -/
theorem c_X5_append_s (l : Launch) (D : va_G) (cy : Nat → ClassId) (ra : Nat → Nat) (al : Nat → Int32) (T : rV) (v : Nat) (hv : v < 128) (htl : T.2.2.2.2.2.2.2.2.2.2.1 = 100) (sz : Nat) : Met l yX5_append wsX5_append rm_X5_append_s (va_Pc [.ref (ra 0), .int (nI v)] (kPre D (kT cy) [mW cy ra (al, T)] sz)) (va_Qi (fun r_ (u_ : Unit) => r_ = nI 0) (kFr D (kT cy) [mW cy ra (al, T)] sz (fun u_ : Unit => [mW cy ra (al, (T.1, T.2.1, T.2.2.1, nI 2, T.2.2.2.2))])) (va_A (bkF [mW cy ra (al, T)]) sz)) 0 0 (va_A (bkF [mW cy ra (al, T)]) sz) := by
  refine kOpen (y := yX5_append) (ws := wsX5_append) (cc := cX5_append) (maxL := 2) (ret := (some .int)) (av := [.ref (ra 0), .int (nI v)]) (Bs := [mW cy ra (al, T)]) (Qc := fun A => (va_Qi (fun r_ (u_ : Unit) => r_ = nI 0) (fun (u_ : Unit) t9 => kEnd D (kT cy) A [mW cy ra (al, (T.1, T.2.1, T.2.2.1, nI 2, T.2.2.2.2))] t9) A)) (by decide) rfl (Nat.le_of_ble_eq_true rfl) ?_
  intro p e s m args below meth c A Q ls hQ hx hb hml hr hlocks hin hts hown hN hK hP hD hS hA hsz hAe hl
  clear hAe
  have hl : lv_has ls 2 [(0, .ref (ra 0)), (1, .int (nI v))] := hl
  suffices K9 : ∀ (H : Heap) (locs : List Loc), va_P D vwCl (bkF [mW cy ra (al, T)]) H → va_S A s.heap H locs → W p l e (headSpec wsX5_append rm_X5_append_s).room s m args below meth c H locs 0 0 Q (F0 m 0 ls []) from K9 _ _ hP hS
  clear hP hS
  intro H locs hP hS
  refine lv_iload_n hx hb dX5_append_0 rfl (lv_at hl 1 rfl) ?_
  refine lv_i2l (v := (nI v).toInt64) hx hb dX5_append_1 rfl ?_
  refine lv_lconst (v := 0) hx hb dX5_append_2 (by decide) ?_
  refine lv_ldc2 hx hb hown (hts (.constantLong RX5 169 (127)) (by decide +kernel)) dX5_append_3 ?_
  refine kc_i (Cs := []) (Rs := [mW cy ra (al, T)]) (Bs := [mW cy ra (al, T)]) (Cs' := fun u_ : Unit => []) (Fs := fun u_ : Unit => [mW cy ra (al, T)]) hP hD hS hA [] [0] [0] rfl rfl (by decide) (by decide) (fun _ => rfl) (va_runS (As := [.long ((nI v).toInt64), .long 0, .long (127)]) (rest := []) ⟨hx, hb, hml, hown, hts⟩ (c_X5_in l D cy ((nI v).toInt64) 0 (127) H.size) (va_cwS 3 hts gX5_append_X5_in rfl rfl rfl (by decide +kernel) ⟨Nat.le_of_ble_eq_true rfl, Nat.le_of_ble_eq_true rfl⟩) (kPre_S hK hN hP hD [] (by decide) rfl) rfl rfl hl.1 rfl (lv_room (Nat.le_of_ble_eq_true rfl)) dX5_append_6 ⟨Nat.le_of_ble_eq_true rfl, Nat.le_of_ble_eq_true rfl⟩) (fun r_ u_ H locs hw hP hD hS => ?_)
  have hw : r_ = if kIn ((nI v).toInt64) 0 (127) then nI 1 else nI 0 := hw
  subst hw
  refine kv_i (y := nI 1) (if_pos ((kIn32 (y := nI 0) (z := nI 127) (by decide) (by decide)).mpr (kwin (by omega) (by omega) (by decide)))) ?_
  refine lv_if_ne (tgt := 18) hx hb dX5_append_9 (by decide) (fun _ => ?_) (fun h => absurd h (by decide))
  refine lv_aload_n hx hb dX5_append_18 rfl (lv_at hl 0 rfl) ?_
  refine va_get (D := D) (ci := 5) (v := .int (nI T.2.2.2.2.2.2.2.2.2.2.1)) (C := RX5) (T := TX5) (N := 16) hx hb hts (by decide +kernel) hown hK hP 0 rfl rfl 11 (by decide) (hts (.fieldLink RX5 171 "DanceHallModel" "textLong" "I") (by decide +kernel)) (fun _ h9 => h9) rfl dX5_append_19 ?_
  refine lv_bipush (v := nI 100) hx hb dX5_append_22 (by decide) ?_
  refine lv_icmp_ne (tgt := 33) hx hb dX5_append_24 (by decide) (fun c_24 => False.elim ?_) (fun c_24 => ?_)
  · skip
    have c_24 : ¬ (T.2.2.2.2.2.2.2.2.2.2.1 = 100) := fun h => c_24 ((nI_eq (a := T.2.2.2.2.2.2.2.2.2.2.1) (b := 100) (by omega) (by omega)).mpr h)
    omega
  · skip
    have c_24 : T.2.2.2.2.2.2.2.2.2.2.1 = 100 := (nI_eq (a := T.2.2.2.2.2.2.2.2.2.2.1) (b := 100) (by omega) (by omega)).mp c_24
    refine lv_aload_n hx hb dX5_append_27 rfl (lv_at hl 0 rfl) ?_
    refine lv_iconst (v := nI 2) hx hb dX5_append_28 (by decide) ?_
    refine kc_i (Cs := [mW cy ra (al, T)]) (Rs := []) (Bs := [mW cy ra (al, T)]) (Cs' := fun u_ : Unit => [mW cy ra (al, (T.1, T.2.1, T.2.2.1, (nI 2), T.2.2.2.2))]) (Fs := fun u_ : Unit => [mW cy ra (al, (T.1, T.2.1, T.2.2.1, (nI 2), T.2.2.2.2))]) hP hD hS hA [0] [] [0] rfl rfl (by decide) (by decide) (fun _ => rfl) (va_runV (As := [.int (nI 2)]) (rest := []) ⟨hx, hb, hml, hown, hts⟩ (c_X5_throwing l D cy ra al T (nI 2) H.size) (cwV 1 hts gX5_append_X5_throwing rfl rfl rfl (by decide +kernel) ⟨Nat.le_of_ble_eq_true rfl, Nat.le_of_ble_eq_true rfl⟩) (kPre_V (ci := 5) hK hN hP hD [0] (by decide) rfl 0 rfl rfl) rfl rfl hl.1 rfl (lv_room (Nat.le_of_ble_eq_true rfl)) dX5_append_29 ⟨Nat.le_of_ble_eq_true rfl, Nat.le_of_ble_eq_true rfl⟩) (fun r_ u_ H locs hw hP hD hS => ?_)
    have hw : r_ = nI 0 := hw
    subst hw
    exact kr_i (post := fun r_ (u_ : Unit) => r_ = nI 0) (Bs := fun u_ : Unit => [mW cy ra (al, (T.1, T.2.1, T.2.2.1, nI 2, T.2.2.2.2))]) hx hb hr hlocks rfl () hP hK hD hS rfl dX5_append_32 hQ
abbrev rm_X5_clearText : Room := { frames := 1, cells := 0, slots := 0, locals := 21 }
set_option maxHeartbeats 1000000 in
set_option maxRecDepth 100000 in
/-- clearText -/
theorem c_X5_clearText (l : Launch) (D : va_G) (cy : Nat → ClassId) (ra : Nat → Nat) (al : Nat → Int32) (T : rV) (sz : Nat) : Met l yX5_clearText wsX5_clearText rm_X5_clearText (va_Pc [.ref (ra 0)] (kPre D (kT cy) [mW cy ra (al, T)] sz)) (va_Qi (fun r_ (u_ : Unit) => r_ = nI T.2.2.2.2.2.2.2.2.2.2.1) (kFr D (kT cy) [mW cy ra (al, T)] sz (fun u_ : Unit => [mW cy ra (al, (T.1, T.2.1, T.2.2.1, nI 0, T.2.2.2.2.1, T.2.2.2.2.2.1, T.2.2.2.2.2.2.1, T.2.2.2.2.2.2.2.1, T.2.2.2.2.2.2.2.2.1, T.2.2.2.2.2.2.2.2.2.1, 0, T.2.2.2.2.2.2.2.2.2.2.2))])) (va_A (bkF [mW cy ra (al, T)]) sz)) 0 0 (va_A (bkF [mW cy ra (al, T)]) sz) := by
  refine kOpen (y := yX5_clearText) (ws := wsX5_clearText) (cc := cX5_clearText) (maxL := 2) (ret := (some .int)) (av := [.ref (ra 0)]) (Bs := [mW cy ra (al, T)]) (Qc := fun A => (va_Qi (fun r_ (u_ : Unit) => r_ = nI T.2.2.2.2.2.2.2.2.2.2.1) (fun (u_ : Unit) t9 => kEnd D (kT cy) A [mW cy ra (al, (T.1, T.2.1, T.2.2.1, nI 0, T.2.2.2.2.1, T.2.2.2.2.2.1, T.2.2.2.2.2.2.1, T.2.2.2.2.2.2.2.1, T.2.2.2.2.2.2.2.2.1, T.2.2.2.2.2.2.2.2.2.1, 0, T.2.2.2.2.2.2.2.2.2.2.2))] t9) A)) (by decide) rfl (Nat.le_of_ble_eq_true rfl) ?_
  intro p e s m args below meth c A Q ls hQ hx hb hml hr hlocks hin hts hown hN hK hP hD hS hA hsz hAe hl
  clear hAe
  have hl : lv_has ls 2 [(0, .ref (ra 0))] := hl
  suffices K9 : ∀ (H : Heap) (locs : List Loc), va_P D vwCl (bkF [mW cy ra (al, T)]) H → va_S A s.heap H locs → W p l e (headSpec wsX5_clearText rm_X5_clearText).room s m args below meth c H locs 0 0 Q (F0 m 0 ls []) from K9 _ _ hP hS
  clear hP hS
  intro H locs hP hS
  refine lv_aload_n hx hb dX5_clearText_0 rfl (lv_at hl 0 rfl) ?_
  refine va_get (D := D) (ci := 5) (v := .int (nI T.2.2.2.2.2.2.2.2.2.2.1)) (C := RX5) (T := TX5) (N := 16) hx hb hts (by decide +kernel) hown hK hP 0 rfl rfl 11 (by decide) (hts (.fieldLink RX5 171 "DanceHallModel" "textLong" "I") (by decide +kernel)) (fun _ h9 => h9) rfl dX5_clearText_1 ?_
  refine lv_istore_n (lv' := [(1, .int (nI T.2.2.2.2.2.2.2.2.2.2.1)), (0, .ref (ra 0))]) hx hb dX5_clearText_4 rfl hl (by decide) rfl (fun ls hl => ?_)
  refine lv_aload_n hx hb dX5_clearText_5 rfl (lv_at hl 1 rfl) ?_
  refine lv_iconst (v := nI 0) hx hb dX5_clearText_6 (by decide) ?_
  refine va_put (D := D) (ci := 5) (v := .int (nI 0)) (ty := .int) (C := RX5) (T := TX5) (N := 16) hx hb hts (by decide +kernel) tyX5 tyX5_ok nmX5 hown hK hP hD hS 0 rfl rfl 11 (by decide) (hts (.fieldLink RX5 171 "DanceHallModel" "textLong" "I") (by decide +kernel)) (fun _ h9 => h9) rfl (by decide +kernel) rfl rfl (Nat.le_of_ble_eq_true rfl) dX5_clearText_7 (fun H locs hP hD hS => ?_)
  have hP : va_P D vwCl (bkF [mW cy ra (al, (T.1, T.2.1, T.2.2.1, T.2.2.2.1, T.2.2.2.2.1, T.2.2.2.2.2.1, T.2.2.2.2.2.2.1, T.2.2.2.2.2.2.2.1, T.2.2.2.2.2.2.2.2.1, T.2.2.2.2.2.2.2.2.2.1, 0, T.2.2.2.2.2.2.2.2.2.2.2))]) H := hP
  have hD : va_D A (bkF [mW cy ra (al, (T.1, T.2.1, T.2.2.1, T.2.2.2.1, T.2.2.2.2.1, T.2.2.2.2.2.1, T.2.2.2.2.2.2.1, T.2.2.2.2.2.2.2.1, T.2.2.2.2.2.2.2.2.1, T.2.2.2.2.2.2.2.2.2.1, 0, T.2.2.2.2.2.2.2.2.2.2.2))]) := hD
  refine lv_aload_n hx hb dX5_clearText_10 rfl (lv_at hl 1 rfl) ?_
  refine lv_iload_n hx hb dX5_clearText_11 rfl (lv_at hl 0 rfl) ?_
  refine kc_i (Cs := [mW cy ra (al, (T.1, T.2.1, T.2.2.1, T.2.2.2.1, T.2.2.2.2.1, T.2.2.2.2.2.1, T.2.2.2.2.2.2.1, T.2.2.2.2.2.2.2.1, T.2.2.2.2.2.2.2.2.1, T.2.2.2.2.2.2.2.2.2.1, 0, T.2.2.2.2.2.2.2.2.2.2.2))]) (Rs := []) (Bs := [mW cy ra (al, (T.1, T.2.1, T.2.2.1, T.2.2.2.1, T.2.2.2.2.1, T.2.2.2.2.2.1, T.2.2.2.2.2.2.1, T.2.2.2.2.2.2.2.1, T.2.2.2.2.2.2.2.2.1, T.2.2.2.2.2.2.2.2.2.1, 0, T.2.2.2.2.2.2.2.2.2.2.2))]) (Cs' := fun u_ : Unit => [mW cy ra (al, (T.1, T.2.1, T.2.2.1, nI 0, T.2.2.2.2.1, T.2.2.2.2.2.1, T.2.2.2.2.2.2.1, T.2.2.2.2.2.2.2.1, T.2.2.2.2.2.2.2.2.1, T.2.2.2.2.2.2.2.2.2.1, 0, T.2.2.2.2.2.2.2.2.2.2.2))]) (Fs := fun u_ : Unit => [mW cy ra (al, (T.1, T.2.1, T.2.2.1, nI 0, T.2.2.2.2.1, T.2.2.2.2.2.1, T.2.2.2.2.2.2.1, T.2.2.2.2.2.2.2.1, T.2.2.2.2.2.2.2.2.1, T.2.2.2.2.2.2.2.2.2.1, 0, T.2.2.2.2.2.2.2.2.2.2.2))]) hP hD hS hA [0] [] [0] rfl rfl (by decide) (by decide) (fun _ => rfl) (va_runV (As := [.int (nI T.2.2.2.2.2.2.2.2.2.2.1)]) (rest := []) ⟨hx, hb, hml, hown, hts⟩ (c_X5_fine l D cy ra al (T.1, T.2.1, T.2.2.1, T.2.2.2.1, T.2.2.2.2.1, T.2.2.2.2.2.1, T.2.2.2.2.2.2.1, T.2.2.2.2.2.2.2.1, T.2.2.2.2.2.2.2.2.1, T.2.2.2.2.2.2.2.2.2.1, 0, T.2.2.2.2.2.2.2.2.2.2.2) (nI T.2.2.2.2.2.2.2.2.2.2.1) H.size) (cwV 1 hts gX5_clearText_X5_fine rfl rfl rfl (by decide +kernel) ⟨Nat.le_of_ble_eq_true rfl, Nat.le_of_ble_eq_true rfl⟩) (kPre_V (ci := 5) hK hN hP hD [0] (by decide) rfl 0 rfl rfl) rfl rfl hl.1 rfl (lv_room (Nat.le_of_ble_eq_true rfl)) dX5_clearText_12 ⟨Nat.le_of_ble_eq_true rfl, Nat.le_of_ble_eq_true rfl⟩) (fun r_ u_ H locs hw hP hD hS => ?_)
  have hw : r_ = (nI T.2.2.2.2.2.2.2.2.2.2.1) := hw
  subst hw
  exact kr_i (post := fun r_ (u_ : Unit) => r_ = nI T.2.2.2.2.2.2.2.2.2.2.1) (Bs := fun u_ : Unit => [mW cy ra (al, (T.1, T.2.1, T.2.2.1, nI 0, T.2.2.2.2.1, T.2.2.2.2.2.1, T.2.2.2.2.2.2.1, T.2.2.2.2.2.2.2.1, T.2.2.2.2.2.2.2.2.1, T.2.2.2.2.2.2.2.2.2.1, 0, T.2.2.2.2.2.2.2.2.2.2.2))]) hx hb hr hlocks rfl () hP hK hD hS rfl dX5_clearText_15 hQ
abbrev rm_X5_undo : Room := { frames := 1, cells := 0, slots := 0, locals := 21 }
set_option maxHeartbeats 1000000 in
set_option maxRecDepth 100000 in
/-- undo -/
theorem c_X5_undo (l : Launch) (D : va_G) (cy : Nat → ClassId) (ra : Nat → Nat) (X : rS) (T : rV) (V : Nat → rS) (hs1 : 1 ≤ T.2.2.1) (hsm : T.2.2.1 ≤ 4) (hsa : kSa T.1 T.2.2.1 V) (sz : Nat) : Met l yX5_undo wsX5_undo rm_X5_undo (va_Pc [.ref (ra 0)] (kPre D (kT cy) [mW cy ra (kEn X, T)] sz)) (va_Qi (fun r_ (u_ : Unit) => r_ = nI (T.2.2.1 - 1)) (kFr D (kT cy) [mW cy ra (kEn X, T)] sz (fun u_ : Unit => [mW cy ra (kEn (V (T.2.2.1 - 1)), (T.1, T.2.1, T.2.2.1 - 1, nI 0, T.2.2.2.2))])) (va_A (bkF [mW cy ra (kEn X, T)]) sz)) 0 0 (va_A (bkF [mW cy ra (kEn X, T)]) sz) := by
  refine kOpen (y := yX5_undo) (ws := wsX5_undo) (cc := cX5_undo) (maxL := 2) (ret := (some .int)) (av := [.ref (ra 0)]) (Bs := [mW cy ra (kEn X, T)]) (Qc := fun A => (va_Qi (fun r_ (u_ : Unit) => r_ = nI (T.2.2.1 - 1)) (fun (u_ : Unit) t9 => kEnd D (kT cy) A [mW cy ra (kEn (V (T.2.2.1 - 1)), (T.1, T.2.1, T.2.2.1 - 1, nI 0, T.2.2.2.2))] t9) A)) (by decide) rfl (Nat.le_of_ble_eq_true rfl) ?_
  intro p e s m args below meth c A Q ls hQ hx hb hml hr hlocks hin hts hown hN hK hP hD hS hA hsz hAe hl
  clear hAe
  have hl : lv_has ls 2 [(0, .ref (ra 0))] := hl
  suffices K9 : ∀ (H : Heap) (locs : List Loc), va_P D vwCl (bkF [mW cy ra (kEn X, T)]) H → va_S A s.heap H locs → W p l e (headSpec wsX5_undo rm_X5_undo).room s m args below meth c H locs 0 0 Q (F0 m 0 ls []) from K9 _ _ hP hS
  clear hP hS
  intro H locs hP hS
  refine lv_aload_n hx hb dX5_undo_0 rfl (lv_at hl 0 rfl) ?_
  refine va_get (D := D) (ci := 5) (v := .int (nI T.2.2.1)) (C := RX5) (T := TX5) (N := 16) hx hb hts (by decide +kernel) hown hK hP 0 rfl rfl 3 (by decide) (hts (.fieldLink RX5 48 "DanceHallModel" "savedMany" "I") (by decide +kernel)) (fun _ h9 => h9) rfl dX5_undo_1 ?_
  refine lv_if_ne (tgt := 13) hx hb dX5_undo_4 (by decide) (fun c_4 => ?_) (fun c_4 => False.elim ?_)
  · skip
    have c_4 : ¬ (T.2.2.1 = 0) := fun h => c_4 ((nI_eq (a := T.2.2.1) (b := 0) (by omega) (by omega)).mpr h)
    refine lv_aload_n hx hb dX5_undo_13 rfl (lv_at hl 0 rfl) ?_
    refine lv_dup hx hb dX5_undo_14 rfl ?_
    refine va_get (D := D) (ci := 5) (v := .int (nI T.2.2.1)) (C := RX5) (T := TX5) (N := 16) hx hb hts (by decide +kernel) hown hK hP 0 rfl rfl 3 (by decide) (hts (.fieldLink RX5 48 "DanceHallModel" "savedMany" "I") (by decide +kernel)) (fun _ h9 => h9) rfl dX5_undo_15 ?_
    refine lv_iconst (v := nI 1) hx hb dX5_undo_18 (by decide) ?_
    refine lv_isub hx hb dX5_undo_19 ?_
    refine kv_i (y := nI (T.2.2.1 - 1)) (pk_sub (a := T.2.2.1) (b := 1) (by omega)) ?_
    refine va_put (D := D) (ci := 5) (v := .int (nI (T.2.2.1 - 1))) (ty := .int) (C := RX5) (T := TX5) (N := 16) hx hb hts (by decide +kernel) tyX5 tyX5_ok nmX5 hown hK hP hD hS 0 rfl rfl 3 (by decide) (hts (.fieldLink RX5 48 "DanceHallModel" "savedMany" "I") (by decide +kernel)) (fun _ h9 => h9) rfl (by decide +kernel) rfl rfl (Nat.le_of_ble_eq_true rfl) dX5_undo_20 (fun H locs hP hD hS => ?_)
    have hP : va_P D vwCl (bkF [mW cy ra (kEn X, (T.1, T.2.1, T.2.2.1 - 1, T.2.2.2))]) H := hP
    have hD : va_D A (bkF [mW cy ra (kEn X, (T.1, T.2.1, T.2.2.1 - 1, T.2.2.2))]) := hD
    refine lv_iconst (v := nI 0) hx hb dX5_undo_23 (by decide) ?_
    refine lv_istore_n (lv' := [(1, .int (nI 0)), (0, .ref (ra 0))]) hx hb dX5_undo_24 rfl hl (by decide) rfl (fun ls hl => ?_)
    have hP := kP_cell (g := (kcp (fun j9 => T.1 (188 * (T.2.2.1 - 1) + j9)) (kEn X) 0)) hP 1 rfl (fun j _ => (kcp_0 _ _ j).symm)
    have hD := hD.set (p := 1) (e := .inl (cy 0, 188, .inl (kcp (fun j9 => T.1 (188 * (T.2.2.1 - 1) + j9)) (kEn X) 0))) rfl
    have hP : va_P D vwCl (bkF [mW cy ra (kcp (fun j9 => T.1 (188 * (T.2.2.1 - 1) + j9)) (kEn X) 0, (T.1, T.2.1, T.2.2.1 - 1, T.2.2.2))]) H := hP
    have hD : va_D A (bkF [mW cy ra (kcp (fun j9 => T.1 (188 * (T.2.2.1 - 1) + j9)) (kEn X) 0, (T.1, T.2.1, T.2.2.1 - 1, T.2.2.2))]) := hD
    have L_25 : ∀ (n9 : Nat) (i : Nat), 188 - i = n9 → (i ≤ 188) → ∀ (ls : Array Slot) (H : Heap) (locs : List Loc), va_P D vwCl (bkF [mW cy ra (kcp (fun j9 => T.1 (188 * (T.2.2.1 - 1) + j9)) (kEn X) i, (T.1, T.2.1, T.2.2.1 - 1, T.2.2.2))]) H → va_D A (bkF [mW cy ra (kcp (fun j9 => T.1 (188 * (T.2.2.1 - 1) + j9)) (kEn X) i, (T.1, T.2.1, T.2.2.1 - 1, T.2.2.2))]) → va_S A s.heap H locs → lv_has ls 2 [(0, .ref (ra 0)), (1, .int (nI i))] → W p l e (headSpec wsX5_undo rm_X5_undo).room s m args below meth c H locs 0 0 Q (F0 m 25 ls []) := by
      intro n9
      induction n9 using Nat.strongRecOn with
      | _ n9 ih_25 =>
      intro i hm_25 h25_0 ls H locs hP hD hS hl
      refine lv_iload_n hx hb dX5_undo_25 rfl (lv_at hl 1 rfl) ?_
      refine lv_sipush (v := nI 188) hx hb dX5_undo_26 (by decide) ?_
      refine lv_icmp_ge (tgt := 59) hx hb dX5_undo_29 (by decide) (fun c_29 => ?_) (fun c_29 => ?_)
      · skip
        have c_29 : 188 ≤ i := (nI_leI (a := 188) (b := i) (by omega) (by omega)).mp c_29
        refine lv_aload_n hx hb dX5_undo_59 rfl (lv_at hl 0 rfl) ?_
        refine lv_aload_n hx hb dX5_undo_60 rfl (lv_at hl 0 rfl) ?_
        refine va_get (D := D) (ci := 5) (v := .int (nI (T.2.2.1 - 1))) (C := RX5) (T := TX5) (N := 16) hx hb hts (by decide +kernel) hown hK hP 0 rfl rfl 3 (by decide) (hts (.fieldLink RX5 48 "DanceHallModel" "savedMany" "I") (by decide +kernel)) (fun _ h9 => h9) rfl dX5_undo_61 ?_
        refine kc_i (Cs := [mW cy ra (kcp (fun j9 => T.1 (188 * (T.2.2.1 - 1) + j9)) (kEn X) i, (T.1, T.2.1, T.2.2.1 - 1, T.2.2.2))]) (Rs := []) (Bs := [mW cy ra (kcp (fun j9 => T.1 (188 * (T.2.2.1 - 1) + j9)) (kEn X) i, (T.1, T.2.1, T.2.2.1 - 1, T.2.2.2))]) (Cs' := fun u_ : Unit => [mW cy ra ((kcp (fun j9 => T.1 (188 * (T.2.2.1 - 1) + j9)) (kEn X) i), (T.1, T.2.1, (T.2.2.1 - 1), nI 0, T.2.2.2.2))]) (Fs := fun u_ : Unit => [mW cy ra ((kcp (fun j9 => T.1 (188 * (T.2.2.1 - 1) + j9)) (kEn X) i), (T.1, T.2.1, (T.2.2.1 - 1), nI 0, T.2.2.2.2))]) hP hD hS hA [0] [] [0] rfl rfl (by decide) (by decide) (fun _ => rfl) (va_runV (As := [.int (nI (T.2.2.1 - 1))]) (rest := []) ⟨hx, hb, hml, hown, hts⟩ (c_X5_fine l D cy ra (kcp (fun j9 => T.1 (188 * (T.2.2.1 - 1) + j9)) (kEn X) i) (T.1, T.2.1, T.2.2.1 - 1, T.2.2.2) (nI (T.2.2.1 - 1)) H.size) (cwV 1 hts gX5_undo_X5_fine rfl rfl rfl (by decide +kernel) ⟨Nat.le_of_ble_eq_true rfl, Nat.le_of_ble_eq_true rfl⟩) (kPre_V (ci := 5) hK hN hP hD [0] (by decide) rfl 0 rfl rfl) rfl rfl hl.1 rfl (lv_room (Nat.le_of_ble_eq_true rfl)) dX5_undo_64 ⟨Nat.le_of_ble_eq_true rfl, Nat.le_of_ble_eq_true rfl⟩) (fun r_ u_ H locs hw hP hD hS => ?_)
        have hw : r_ = (nI (T.2.2.1 - 1)) := hw
        subst hw
        have hP := kP_cell (g := (kEn (V (T.2.2.1 - 1)))) hP 1 rfl (fun j hj => (kcp_in (fun j9 => T.1 (188 * (T.2.2.1 - 1) + j9)) (kEn X) (i := i) (j := j) (by omega)).trans (hsa (T.2.2.1 - 1) (by omega) j hj))
        have hD := hD.set (p := 1) (e := .inl (cy 0, 188, .inl (kEn (V (T.2.2.1 - 1))))) rfl
        have hP : va_P D vwCl (bkF [mW cy ra (kEn (V (T.2.2.1 - 1)), (T.1, T.2.1, (T.2.2.1 - 1), nI 0, T.2.2.2.2))]) H := hP
        have hD : va_D A (bkF [mW cy ra (kEn (V (T.2.2.1 - 1)), (T.1, T.2.1, (T.2.2.1 - 1), nI 0, T.2.2.2.2))]) := hD
        exact kr_i (post := fun r_ (u_ : Unit) => r_ = nI (T.2.2.1 - 1)) (Bs := fun u_ : Unit => [mW cy ra (kEn (V (T.2.2.1 - 1)), (T.1, T.2.1, T.2.2.1 - 1, nI 0, T.2.2.2.2))]) hx hb hr hlocks rfl () hP hK hD hS rfl dX5_undo_67 hQ
      · skip
        have c_29 : ¬ (188 ≤ i) := fun h => c_29 ((nI_leI (a := 188) (b := i) (by omega) (by omega)).mpr h)
        refine lv_aload_n hx hb dX5_undo_32 rfl (lv_at hl 0 rfl) ?_
        refine va_get (D := D) (ci := 5) (v := .ref (ra 1)) (C := RX5) (T := TX5) (N := 16) hx hb hts (by decide +kernel) hown hK hP 0 rfl rfl 0 (by decide) (hts (.fieldLink RX5 7 "DanceHallModel" "all" "[I") (by decide +kernel)) (fun _ h9 => h9) rfl dX5_undo_33 ?_
        refine lv_iload_n hx hb dX5_undo_36 rfl (lv_at hl 1 rfl) ?_
        refine lv_aload_n hx hb dX5_undo_37 rfl (lv_at hl 0 rfl) ?_
        refine va_get (D := D) (ci := 5) (v := .ref (ra 2)) (C := RX5) (T := TX5) (N := 16) hx hb hts (by decide +kernel) hown hK hP 0 rfl rfl 1 (by decide) (hts (.fieldLink RX5 13 "DanceHallModel" "saved" "[I") (by decide +kernel)) (fun _ h9 => h9) rfl dX5_undo_38 ?_
        refine lv_sipush (v := nI 188) hx hb dX5_undo_41 (by decide) ?_
        refine lv_aload_n hx hb dX5_undo_44 rfl (lv_at hl 0 rfl) ?_
        refine va_get (D := D) (ci := 5) (v := .int (nI (T.2.2.1 - 1))) (C := RX5) (T := TX5) (N := 16) hx hb hts (by decide +kernel) hown hK hP 0 rfl rfl 3 (by decide) (hts (.fieldLink RX5 48 "DanceHallModel" "savedMany" "I") (by decide +kernel)) (fun _ h9 => h9) rfl dX5_undo_45 ?_
        refine lv_imul hx hb dX5_undo_48 ?_
        refine kv_i (y := nI (188 * (T.2.2.1 - 1))) (pk_mul 188 (T.2.2.1 - 1)) ?_
        refine lv_iload_n hx hb dX5_undo_49 rfl (lv_at hl 1 rfl) ?_
        refine lv_iadd hx hb dX5_undo_50 ?_
        refine kv_i (y := nI ((188 * (T.2.2.1 - 1)) + i)) (nI_add (188 * (T.2.2.1 - 1)) i) ?_
        refine va_iald hx hb hK hP 2 0 rfl rfl (vp_in_nI (n := (188 * (T.2.2.1 - 1)) + i) (N := 752) (by omega) (by omega)) dX5_undo_51 ?_
        refine kv_i (y := T.1 ((188 * (T.2.2.1 - 1)) + i)) (congrArg T.1 (nI_clamp (n := (188 * (T.2.2.1 - 1)) + i) (by omega))) ?_
        refine va_iast hx hb hK hP hD hS 1 0 rfl rfl (vp_in_nI (n := i) (N := 188) (by omega) (by omega)) dX5_undo_52 (fun H locs hP hD hS => ?_)
        rw [nI_clamp (n := i) (by omega)] at hP hD
        have hP : va_P D vwCl (bkF [mW cy ra (upd (kcp (fun j9 => T.1 (188 * (T.2.2.1 - 1) + j9)) (kEn X) i) i (T.1 ((188 * (T.2.2.1 - 1)) + i)), (T.1, T.2.1, T.2.2.1 - 1, T.2.2.2))]) H := hP
        have hD : va_D A (bkF [mW cy ra (upd (kcp (fun j9 => T.1 (188 * (T.2.2.1 - 1) + j9)) (kEn X) i) i (T.1 ((188 * (T.2.2.1 - 1)) + i)), (T.1, T.2.1, T.2.2.1 - 1, T.2.2.2))]) := hD
        refine lv_iinc (v := nI (i + 1)) (lv' := [(1, .int (nI (i + 1))), (0, .ref (ra 0))]) hx hb dX5_undo_53 hl (k := 1) rfl (nI_add i 1) (by decide) rfl (fun ls hl => ?_)
        refine lv_goto (tgt := 25) hx hb dX5_undo_56 (by decide) ?_
        have hP := kP_cell (g := (kcp (fun j9 => T.1 (188 * (T.2.2.1 - 1) + j9)) (kEn X) (i + 1))) hP 1 rfl (fun j _ => kcp_x rfl j)
        have hD := hD.set (p := 1) (e := .inl (cy 0, 188, .inl (kcp (fun j9 => T.1 (188 * (T.2.2.1 - 1) + j9)) (kEn X) (i + 1)))) rfl
        have hP : va_P D vwCl (bkF [mW cy ra (kcp (fun j9 => T.1 (188 * (T.2.2.1 - 1) + j9)) (kEn X) (i + 1), (T.1, T.2.1, T.2.2.1 - 1, T.2.2.2))]) H := hP
        have hD : va_D A (bkF [mW cy ra (kcp (fun j9 => T.1 (188 * (T.2.2.1 - 1) + j9)) (kEn X) (i + 1), (T.1, T.2.1, T.2.2.1 - 1, T.2.2.2))]) := hD
        exact ih_25 _ (by omega) (i + 1) rfl (by omega) ls H locs hP hD hS (lv_sub hl [1, 0] rfl)
    exact L_25 _ 0  rfl (by omega) ls H locs hP hD hS (lv_sub hl [1, 0] rfl)
  · skip
    have c_4 : T.2.2.1 = 0 := (nI_eq (a := T.2.2.1) (b := 0) (by omega) (by omega)).mp c_4
    omega
abbrev rm_X5_undo_s : Room := { frames := 1, cells := 0, slots := 0, locals := 21 }
set_option maxHeartbeats 1000000 in
set_option maxRecDepth 100000 in
/-- undo, none saved -/
theorem c_X5_undo_s (l : Launch) (D : va_G) (cy : Nat → ClassId) (ra : Nat → Nat) (al : Nat → Int32) (T : rV) (hs0 : T.2.2.1 = 0) (sz : Nat) : Met l yX5_undo wsX5_undo rm_X5_undo_s (va_Pc [.ref (ra 0)] (kPre D (kT cy) [mW cy ra (al, T)] sz)) (va_Qi (fun r_ (u_ : Unit) => r_ = nI 0) (kFr D (kT cy) [mW cy ra (al, T)] sz (fun u_ : Unit => [mW cy ra (al, (T.1, T.2.1, T.2.2.1, nI 1, T.2.2.2.2))])) (va_A (bkF [mW cy ra (al, T)]) sz)) 0 0 (va_A (bkF [mW cy ra (al, T)]) sz) := by
  refine kOpen (y := yX5_undo) (ws := wsX5_undo) (cc := cX5_undo) (maxL := 2) (ret := (some .int)) (av := [.ref (ra 0)]) (Bs := [mW cy ra (al, T)]) (Qc := fun A => (va_Qi (fun r_ (u_ : Unit) => r_ = nI 0) (fun (u_ : Unit) t9 => kEnd D (kT cy) A [mW cy ra (al, (T.1, T.2.1, T.2.2.1, nI 1, T.2.2.2.2))] t9) A)) (by decide) rfl (Nat.le_of_ble_eq_true rfl) ?_
  intro p e s m args below meth c A Q ls hQ hx hb hml hr hlocks hin hts hown hN hK hP hD hS hA hsz hAe hl
  clear hAe
  have hl : lv_has ls 2 [(0, .ref (ra 0))] := hl
  suffices K9 : ∀ (H : Heap) (locs : List Loc), va_P D vwCl (bkF [mW cy ra (al, T)]) H → va_S A s.heap H locs → W p l e (headSpec wsX5_undo rm_X5_undo_s).room s m args below meth c H locs 0 0 Q (F0 m 0 ls []) from K9 _ _ hP hS
  clear hP hS
  intro H locs hP hS
  refine lv_aload_n hx hb dX5_undo_0 rfl (lv_at hl 0 rfl) ?_
  refine va_get (D := D) (ci := 5) (v := .int (nI T.2.2.1)) (C := RX5) (T := TX5) (N := 16) hx hb hts (by decide +kernel) hown hK hP 0 rfl rfl 3 (by decide) (hts (.fieldLink RX5 48 "DanceHallModel" "savedMany" "I") (by decide +kernel)) (fun _ h9 => h9) rfl dX5_undo_1 ?_
  refine lv_if_ne (tgt := 13) hx hb dX5_undo_4 (by decide) (fun c_4 => False.elim ?_) (fun c_4 => ?_)
  · skip
    have c_4 : ¬ (T.2.2.1 = 0) := fun h => c_4 ((nI_eq (a := T.2.2.1) (b := 0) (by omega) (by omega)).mpr h)
    omega
  · skip
    have c_4 : T.2.2.1 = 0 := (nI_eq (a := T.2.2.1) (b := 0) (by omega) (by omega)).mp c_4
    refine lv_aload_n hx hb dX5_undo_7 rfl (lv_at hl 0 rfl) ?_
    refine lv_iconst (v := nI 1) hx hb dX5_undo_8 (by decide) ?_
    refine kc_i (Cs := [mW cy ra (al, T)]) (Rs := []) (Bs := [mW cy ra (al, T)]) (Cs' := fun u_ : Unit => [mW cy ra (al, (T.1, T.2.1, T.2.2.1, (nI 1), T.2.2.2.2))]) (Fs := fun u_ : Unit => [mW cy ra (al, (T.1, T.2.1, T.2.2.1, (nI 1), T.2.2.2.2))]) hP hD hS hA [0] [] [0] rfl rfl (by decide) (by decide) (fun _ => rfl) (va_runV (As := [.int (nI 1)]) (rest := []) ⟨hx, hb, hml, hown, hts⟩ (c_X5_throwing l D cy ra al T (nI 1) H.size) (cwV 1 hts gX5_undo_X5_throwing rfl rfl rfl (by decide +kernel) ⟨Nat.le_of_ble_eq_true rfl, Nat.le_of_ble_eq_true rfl⟩) (kPre_V (ci := 5) hK hN hP hD [0] (by decide) rfl 0 rfl rfl) rfl rfl hl.1 rfl (lv_room (Nat.le_of_ble_eq_true rfl)) dX5_undo_9 ⟨Nat.le_of_ble_eq_true rfl, Nat.le_of_ble_eq_true rfl⟩) (fun r_ u_ H locs hw hP hD hS => ?_)
    have hw : r_ = nI 0 := hw
    subst hw
    exact kr_i (post := fun r_ (u_ : Unit) => r_ = nI 0) (Bs := fun u_ : Unit => [mW cy ra (al, (T.1, T.2.1, T.2.2.1, nI 1, T.2.2.2.2))]) hx hb hr hlocks rfl () hP hK hD hS rfl dX5_undo_12 hQ
