abbrev rm_X5_parts : Room := { frames := 0, cells := 0, slots := 0, locals := 0 }
set_option maxHeartbeats 1000000 in
set_option maxRecDepth 100000 in
/-- parts -/
theorem c_X5_parts (l : Launch) (D : va_G) (cy : Nat → ClassId) (ra : Nat → Nat) (X : rS) (T : rV) (hfn : X.1.2.2.2.1 ≤ 4) (sz : Nat) : Met l yX5_parts wsX5_parts rm_X5_parts (va_Pc [.ref (ra 0)] (kPre D (kT cy) [mW cy ra (kEn X, T)] sz)) (va_Qi (fun r_ (u_ : Unit) => r_ = ksum X.2.2.2.1.2.1 X.1.2.2.2.1) (kFr D (kT cy) [mW cy ra (kEn X, T)] sz (fun u_ : Unit => [mW cy ra (kEn X, T)])) (va_A (bkF [mW cy ra (kEn X, T)]) sz)) 0 0 (va_A (bkF [mW cy ra (kEn X, T)]) sz) := by
  refine kOpen (y := yX5_parts) (ws := wsX5_parts) (cc := cX5_parts) (maxL := 3) (ret := (some .int)) (av := [.ref (ra 0)]) (Bs := [mW cy ra (kEn X, T)]) (Qc := fun A => (va_Qi (fun r_ (u_ : Unit) => r_ = ksum X.2.2.2.1.2.1 X.1.2.2.2.1) (fun (u_ : Unit) t9 => kEnd D (kT cy) A [mW cy ra (kEn X, T)] t9) A)) (by decide) rfl (Nat.le_of_ble_eq_true rfl) ?_
  intro p e s m args below meth c A Q ls hQ hx hb hml hr hlocks hin hts hown hN hK hP hD hS hA hsz hAe hl
  clear hAe
  have hl : lv_has ls 3 [(0, .ref (ra 0))] := hl
  suffices K9 : ∀ (H : Heap) (locs : List Loc), va_P D vwCl (bkF [mW cy ra (kEn X, T)]) H → va_S A s.heap H locs → W p l e (headSpec wsX5_parts rm_X5_parts).room s m args below meth c H locs 0 0 Q (F0 m 0 ls []) from K9 _ _ hP hS
  clear hP hS
  intro H locs hP hS
  refine lv_iconst (v := nI 0) hx hb dX5_parts_0 (by decide) ?_
  refine lv_istore_n (lv' := [(1, .int (nI 0)), (0, .ref (ra 0))]) hx hb dX5_parts_1 rfl hl (by decide) rfl (fun ls hl => ?_)
  refine lv_iconst (v := nI 0) hx hb dX5_parts_2 (by decide) ?_
  refine lv_istore_n (lv' := [(2, .int (nI 0)), (1, .int (nI 0)), (0, .ref (ra 0))]) hx hb dX5_parts_3 rfl hl (by decide) rfl (fun ls hl => ?_)
  have L_4 : ∀ (n9 : Nat) (i : Nat), X.1.2.2.2.1 - i = n9 → (i ≤ X.1.2.2.2.1) → ∀ (ls : Array Slot) (H : Heap) (locs : List Loc), va_P D vwCl (bkF [mW cy ra (kEn X, T)]) H → va_D A (bkF [mW cy ra (kEn X, T)]) → va_S A s.heap H locs → lv_has ls 3 [(0, .ref (ra 0)), (2, .int (nI i)), (1, .int (ksum X.2.2.2.1.2.1 i))] → W p l e (headSpec wsX5_parts rm_X5_parts).room s m args below meth c H locs 0 0 Q (F0 m 4 ls []) := by
    intro n9
    induction n9 using Nat.strongRecOn with
    | _ n9 ih_4 =>
    intro i hm_4 h4_0 ls H locs hP hD hS hl
    refine lv_iload_n hx hb dX5_parts_4 rfl (lv_at hl 1 rfl) ?_
    refine lv_aload_n hx hb dX5_parts_5 rfl (lv_at hl 0 rfl) ?_
    refine va_get (D := D) (ci := 5) (v := .ref (ra 1)) (C := RX5) (T := TX5) (N := 16) hx hb hts (by decide +kernel) hown hK hP 0 rfl rfl 0 (by decide) (hts (.fieldLink RX5 7 "DanceHallModel" "all" "[I") (by decide +kernel)) (fun _ h9 => h9) rfl dX5_parts_6 ?_
    refine lv_bipush (v := nI 8) hx hb dX5_parts_9 (by decide) ?_
    refine va_iald hx hb hK hP 1 0 rfl rfl (vp_in_nI (n := 8) (N := 188) (by omega) (by omega)) dX5_parts_11 ?_
    refine kv_i (y := nI X.1.2.2.2.1) (show ((kEn X)) (nI 8).toNatClampNeg = nI X.1.2.2.2.1 from rfl) ?_
    refine lv_icmp_ge (tgt := 33) hx hb dX5_parts_12 (by decide) (fun c_12 => ?_) (fun c_12 => ?_)
    · skip
      have c_12 : X.1.2.2.2.1 ≤ i := (nI_leI (a := X.1.2.2.2.1) (b := i) (by omega) (by omega)).mp c_12
      refine lv_iload_n hx hb dX5_parts_33 rfl (lv_at hl 2 rfl) ?_
      exact kr_i (post := fun r_ (u_ : Unit) => r_ = ksum X.2.2.2.1.2.1 X.1.2.2.2.1) (Bs := fun u_ : Unit => [mW cy ra (kEn X, T)]) hx hb hr hlocks rfl () hP hK hD hS (by rw [show i = X.1.2.2.2.1 from by omega]) dX5_parts_34 hQ
    · skip
      have c_12 : ¬ (X.1.2.2.2.1 ≤ i) := fun h => c_12 ((nI_leI (a := X.1.2.2.2.1) (b := i) (by omega) (by omega)).mpr h)
      refine lv_iload_n hx hb dX5_parts_15 rfl (lv_at hl 2 rfl) ?_
      refine lv_aload_n hx hb dX5_parts_16 rfl (lv_at hl 0 rfl) ?_
      refine va_get (D := D) (ci := 5) (v := .ref (ra 1)) (C := RX5) (T := TX5) (N := 16) hx hb hts (by decide +kernel) hown hK hP 0 rfl rfl 0 (by decide) (hts (.fieldLink RX5 7 "DanceHallModel" "all" "[I") (by decide +kernel)) (fun _ h9 => h9) rfl dX5_parts_17 ?_
      refine lv_bipush (v := nI 20) hx hb dX5_parts_20 (by decide) ?_
      refine lv_iload_n hx hb dX5_parts_22 rfl (lv_at hl 1 rfl) ?_
      refine lv_iadd hx hb dX5_parts_23 ?_
      refine kv_i (y := nI (20 + i)) (nI_add 20 i) ?_
      refine va_iald hx hb hK hP 1 0 rfl rfl (vp_in_nI (n := 20 + i) (N := 188) (by omega) (by omega)) dX5_parts_24 ?_
      refine kv_i (y := X.2.2.2.1.2.1 i) (by rw [nI_clamp (n := 20 + i) (by omega)]; exact (kq_p (by omega))) ?_
      refine lv_iadd hx hb dX5_parts_25 ?_
      refine kv_i (y := ksum X.2.2.2.1.2.1 (i + 1)) rfl ?_
      refine lv_istore_n (lv' := [(1, .int (ksum X.2.2.2.1.2.1 (i + 1))), (0, .ref (ra 0)), (2, .int (nI i))]) hx hb dX5_parts_26 rfl hl (by decide) rfl (fun ls hl => ?_)
      refine lv_iinc (v := nI (i + 1)) (lv' := [(2, .int (nI (i + 1))), (1, .int (ksum X.2.2.2.1.2.1 (i + 1))), (0, .ref (ra 0))]) hx hb dX5_parts_27 hl (k := 2) rfl (nI_add i 1) (by decide) rfl (fun ls hl => ?_)
      refine lv_goto (tgt := 4) hx hb dX5_parts_30 (by decide) ?_
      exact ih_4 _ (by omega) (i + 1) rfl (by omega) ls H locs hP hD hS (lv_sub hl [2, 0, 1] rfl)
  exact L_4 _ 0  rfl (by omega) ls H locs hP hD hS (lv_sub hl [2, 0, 1] rfl)
abbrev rm_X5_share : Room := { frames := 1, cells := 0, slots := 0, locals := 22 }
set_option maxHeartbeats 1000000 in
set_option maxRecDepth 100000 in
/-- share -/
theorem c_X5_share (l : Launch) (D : va_G) (cy : Nat → ClassId) (ra : Nat → Nat) (X : rS) (T : rV) (f9 : Nat) (hfn : X.1.2.2.2.1 ≤ 4) (hf1 : 1 ≤ X.1.2.2.2.1) (hf9 : f9 < 4) (hps : ¬ ksum X.2.2.2.1.2.1 X.1.2.2.2.1 ≤ 0) (sz : Nat) : Met l yX5_share wsX5_share rm_X5_share (va_Pc [.ref (ra 0), .int (nI f9)] (kPre D (kT cy) [mW cy ra (kEn X, T)] sz)) (va_Qi (fun r_ (u_ : Unit) => r_ = kcutA X.1.2.2.2.2.1 X.2.2.2.1.2.1 X.1.2.2.2.1 f9) (kFr D (kT cy) [mW cy ra (kEn X, T)] sz (fun u_ : Unit => [mW cy ra (kEn X, T)])) (va_A (bkF [mW cy ra (kEn X, T)]) sz)) 0 0 (va_A (bkF [mW cy ra (kEn X, T)]) sz) := by
  refine kOpen (y := yX5_share) (ws := wsX5_share) (cc := cX5_share) (maxL := 4) (ret := (some .int)) (av := [.ref (ra 0), .int (nI f9)]) (Bs := [mW cy ra (kEn X, T)]) (Qc := fun A => (va_Qi (fun r_ (u_ : Unit) => r_ = kcutA X.1.2.2.2.2.1 X.2.2.2.1.2.1 X.1.2.2.2.1 f9) (fun (u_ : Unit) t9 => kEnd D (kT cy) A [mW cy ra (kEn X, T)] t9) A)) (by decide) rfl (Nat.le_of_ble_eq_true rfl) ?_
  intro p e s m args below meth c A Q ls hQ hx hb hml hr hlocks hin hts hown hN hK hP hD hS hA hsz hAe hl
  clear hAe
  have hl : lv_has ls 4 [(0, .ref (ra 0)), (1, .int (nI f9))] := hl
  suffices K9 : ∀ (H : Heap) (locs : List Loc), va_P D vwCl (bkF [mW cy ra (kEn X, T)]) H → va_S A s.heap H locs → W p l e (headSpec wsX5_share rm_X5_share).room s m args below meth c H locs 0 0 Q (F0 m 0 ls []) from K9 _ _ hP hS
  clear hP hS
  intro H locs hP hS
  refine lv_aload_n hx hb dX5_share_0 rfl (lv_at hl 0 rfl) ?_
  refine va_get (D := D) (ci := 5) (v := .ref (ra 1)) (C := RX5) (T := TX5) (N := 16) hx hb hts (by decide +kernel) hown hK hP 0 rfl rfl 0 (by decide) (hts (.fieldLink RX5 7 "DanceHallModel" "all" "[I") (by decide +kernel)) (fun _ h9 => h9) rfl dX5_share_1 ?_
  refine lv_bipush (v := nI 7) hx hb dX5_share_4 (by decide) ?_
  refine va_iald hx hb hK hP 1 0 rfl rfl (vp_in_nI (n := 7) (N := 188) (by omega) (by omega)) dX5_share_6 ?_
  refine kv_i (y := X.1.2.2.2.2.1) (show ((kEn X)) (nI 7).toNatClampNeg = X.1.2.2.2.2.1 from rfl) ?_
  refine lv_istore_n (lv' := [(2, .int X.1.2.2.2.2.1), (0, .ref (ra 0)), (1, .int (nI f9))]) hx hb dX5_share_7 rfl hl (by decide) rfl (fun ls hl => ?_)
  refine lv_iconst (v := nI 0) hx hb dX5_share_8 (by decide) ?_
  refine lv_istore_n (lv' := [(3, .int (nI 0)), (2, .int X.1.2.2.2.2.1), (0, .ref (ra 0)), (1, .int (nI f9))]) hx hb dX5_share_9 rfl hl (by decide) rfl (fun ls hl => ?_)
  have L_10 : ∀ (n9 : Nat) (i : Nat), X.1.2.2.2.1 - i = n9 → (i ≤ X.1.2.2.2.1) → ∀ (ls : Array Slot) (H : Heap) (locs : List Loc), va_P D vwCl (bkF [mW cy ra (kEn X, T)]) H → va_D A (bkF [mW cy ra (kEn X, T)]) → va_S A s.heap H locs → lv_has ls 4 [(0, .ref (ra 0)), (1, .int (nI f9)), (2, .int (krs X.1.2.2.2.2.1 (kcut X.1.2.2.2.2.1 X.2.2.2.1.2.1 X.1.2.2.2.1) i)), (3, .int (nI i))] → W p l e (headSpec wsX5_share rm_X5_share).room s m args below meth c H locs 0 0 Q (F0 m 10 ls []) := by
    intro n9
    induction n9 using Nat.strongRecOn with
    | _ n9 ih_10 =>
    intro i hm_10 h10_0 ls H locs hP hD hS hl
    refine lv_iload_n hx hb dX5_share_10 rfl (lv_at hl 3 rfl) ?_
    refine lv_aload_n hx hb dX5_share_11 rfl (lv_at hl 0 rfl) ?_
    refine va_get (D := D) (ci := 5) (v := .ref (ra 1)) (C := RX5) (T := TX5) (N := 16) hx hb hts (by decide +kernel) hown hK hP 0 rfl rfl 0 (by decide) (hts (.fieldLink RX5 7 "DanceHallModel" "all" "[I") (by decide +kernel)) (fun _ h9 => h9) rfl dX5_share_12 ?_
    refine lv_bipush (v := nI 8) hx hb dX5_share_15 (by decide) ?_
    refine va_iald hx hb hK hP 1 0 rfl rfl (vp_in_nI (n := 8) (N := 188) (by omega) (by omega)) dX5_share_17 ?_
    refine kv_i (y := nI X.1.2.2.2.1) (show ((kEn X)) (nI 8).toNatClampNeg = nI X.1.2.2.2.1 from rfl) ?_
    refine lv_icmp_ge (tgt := 52) hx hb dX5_share_18 (by decide) (fun c_18 => ?_) (fun c_18 => ?_)
    · skip
      have c_18 : X.1.2.2.2.1 ≤ i := (nI_leI (a := X.1.2.2.2.1) (b := i) (by omega) (by omega)).mp c_18
      refine lv_aload_n hx hb dX5_share_52 rfl (lv_at hl 0 rfl) ?_
      refine va_get (D := D) (ci := 5) (v := .ref (ra 1)) (C := RX5) (T := TX5) (N := 16) hx hb hts (by decide +kernel) hown hK hP 0 rfl rfl 0 (by decide) (hts (.fieldLink RX5 7 "DanceHallModel" "all" "[I") (by decide +kernel)) (fun _ h9 => h9) rfl dX5_share_53 ?_
      refine lv_bipush (v := nI 7) hx hb dX5_share_56 (by decide) ?_
      refine va_iald hx hb hK hP 1 0 rfl rfl (vp_in_nI (n := 7) (N := 188) (by omega) (by omega)) dX5_share_58 ?_
      refine kv_i (y := X.1.2.2.2.2.1) (show ((kEn X)) (nI 7).toNatClampNeg = X.1.2.2.2.2.1 from rfl) ?_
      refine lv_aload_n hx hb dX5_share_59 rfl (lv_at hl 0 rfl) ?_
      refine va_get (D := D) (ci := 5) (v := .ref (ra 1)) (C := RX5) (T := TX5) (N := 16) hx hb hts (by decide +kernel) hown hK hP 0 rfl rfl 0 (by decide) (hts (.fieldLink RX5 7 "DanceHallModel" "all" "[I") (by decide +kernel)) (fun _ h9 => h9) rfl dX5_share_60 ?_
      refine lv_bipush (v := nI 20) hx hb dX5_share_63 (by decide) ?_
      refine lv_iload_n hx hb dX5_share_65 rfl (lv_at hl 1 rfl) ?_
      refine lv_iadd hx hb dX5_share_66 ?_
      refine kv_i (y := nI (20 + f9)) (nI_add 20 f9) ?_
      refine va_iald hx hb hK hP 1 0 rfl rfl (vp_in_nI (n := 20 + f9) (N := 188) (by omega) (by omega)) dX5_share_67 ?_
      refine kv_i (y := X.2.2.2.1.2.1 f9) (by rw [nI_clamp (n := 20 + f9) (by omega)]; exact (kq_p hf9)) ?_
      refine lv_imul hx hb dX5_share_68 ?_
      refine lv_aload_n hx hb dX5_share_69 rfl (lv_at hl 0 rfl) ?_
      refine kc_i (Cs := [mW cy ra (kEn X, T)]) (Rs := []) (Bs := [mW cy ra (kEn X, T)]) (Cs' := fun u_ : Unit => [mW cy ra (kEn X, T)]) (Fs := fun u_ : Unit => [mW cy ra (kEn X, T)]) hP hD hS hA [0] [] [0] rfl rfl (by decide) (by decide) (fun _ => rfl) (va_runV (As := []) (rest := [.int (X.1.2.2.2.2.1 * (X.2.2.2.1.2.1 f9))]) ⟨hx, hb, hml, hown, hts⟩ (c_X5_parts l D cy ra X T (by first | assumption | omega | decide) H.size) (cwV 0 hts gX5_share_X5_parts rfl rfl rfl (by decide +kernel) ⟨Nat.le_of_ble_eq_true rfl, Nat.le_of_ble_eq_true rfl⟩) (kPre_V (ci := 5) hK hN hP hD [0] (by decide) rfl 0 rfl rfl) rfl rfl hl.1 rfl (lv_room (Nat.le_of_ble_eq_true rfl)) dX5_share_70 ⟨Nat.le_of_ble_eq_true rfl, Nat.le_of_ble_eq_true rfl⟩) (fun r_ u_ H locs hw hP hD hS => ?_)
      have hw : r_ = ksum X.2.2.2.1.2.1 X.1.2.2.2.1 := hw
      subst hw
      refine lv_idiv hx hb dX5_share_73 (fun h => hps (by rw [h]; decide)) ?_
      refine kv_i (y := kcut X.1.2.2.2.2.1 X.2.2.2.1.2.1 X.1.2.2.2.1 f9) rfl ?_
      refine lv_iload_n hx hb dX5_share_74 rfl (lv_at hl 1 rfl) ?_
      refine lv_if_ne (tgt := 82) hx hb dX5_share_75 (by decide) (fun c_75 => ?_) (fun c_75 => ?_)
      · skip
        have c_75 : ¬ (f9 = 0) := fun h => c_75 ((nI_eq (a := f9) (b := 0) (by omega) (by omega)).mpr h)
        refine lv_iconst (v := nI 0) hx hb dX5_share_82 (by decide) ?_
        refine lv_iadd hx hb dX5_share_83 ?_
        refine kv_i (y := kcutA X.1.2.2.2.2.1 X.2.2.2.1.2.1 X.1.2.2.2.1 f9) (kshrn c_75) ?_
        exact kr_i (post := fun r_ (u_ : Unit) => r_ = kcutA X.1.2.2.2.2.1 X.2.2.2.1.2.1 X.1.2.2.2.1 f9) (Bs := fun u_ : Unit => [mW cy ra (kEn X, T)]) hx hb hr hlocks rfl () hP hK hD hS rfl dX5_share_84 hQ
      · skip
        have c_75 : f9 = 0 := (nI_eq (a := f9) (b := 0) (by omega) (by omega)).mp c_75
        refine lv_iload_n hx hb dX5_share_78 rfl (lv_at hl 2 rfl) ?_
        refine lv_goto (tgt := 83) hx hb dX5_share_79 (by decide) ?_
        refine lv_iadd hx hb dX5_share_83 ?_
        refine kv_i (y := kcutA X.1.2.2.2.2.1 X.2.2.2.1.2.1 X.1.2.2.2.1 f9) (by rw [c_75, show i = X.1.2.2.2.1 from by omega]; exact kshr0 hf1) ?_
        exact kr_i (post := fun r_ (u_ : Unit) => r_ = kcutA X.1.2.2.2.2.1 X.2.2.2.1.2.1 X.1.2.2.2.1 f9) (Bs := fun u_ : Unit => [mW cy ra (kEn X, T)]) hx hb hr hlocks rfl () hP hK hD hS rfl dX5_share_84 hQ
    · skip
      have c_18 : ¬ (X.1.2.2.2.1 ≤ i) := fun h => c_18 ((nI_leI (a := X.1.2.2.2.1) (b := i) (by omega) (by omega)).mpr h)
      refine lv_iload_n hx hb dX5_share_21 rfl (lv_at hl 2 rfl) ?_
      refine lv_aload_n hx hb dX5_share_22 rfl (lv_at hl 0 rfl) ?_
      refine va_get (D := D) (ci := 5) (v := .ref (ra 1)) (C := RX5) (T := TX5) (N := 16) hx hb hts (by decide +kernel) hown hK hP 0 rfl rfl 0 (by decide) (hts (.fieldLink RX5 7 "DanceHallModel" "all" "[I") (by decide +kernel)) (fun _ h9 => h9) rfl dX5_share_23 ?_
      refine lv_bipush (v := nI 7) hx hb dX5_share_26 (by decide) ?_
      refine va_iald hx hb hK hP 1 0 rfl rfl (vp_in_nI (n := 7) (N := 188) (by omega) (by omega)) dX5_share_28 ?_
      refine kv_i (y := X.1.2.2.2.2.1) (show ((kEn X)) (nI 7).toNatClampNeg = X.1.2.2.2.2.1 from rfl) ?_
      refine lv_aload_n hx hb dX5_share_29 rfl (lv_at hl 0 rfl) ?_
      refine va_get (D := D) (ci := 5) (v := .ref (ra 1)) (C := RX5) (T := TX5) (N := 16) hx hb hts (by decide +kernel) hown hK hP 0 rfl rfl 0 (by decide) (hts (.fieldLink RX5 7 "DanceHallModel" "all" "[I") (by decide +kernel)) (fun _ h9 => h9) rfl dX5_share_30 ?_
      refine lv_bipush (v := nI 20) hx hb dX5_share_33 (by decide) ?_
      refine lv_iload_n hx hb dX5_share_35 rfl (lv_at hl 3 rfl) ?_
      refine lv_iadd hx hb dX5_share_36 ?_
      refine kv_i (y := nI (20 + i)) (nI_add 20 i) ?_
      refine va_iald hx hb hK hP 1 0 rfl rfl (vp_in_nI (n := 20 + i) (N := 188) (by omega) (by omega)) dX5_share_37 ?_
      refine kv_i (y := X.2.2.2.1.2.1 i) (by rw [nI_clamp (n := 20 + i) (by omega)]; exact (kq_p (by omega))) ?_
      refine lv_imul hx hb dX5_share_38 ?_
      refine lv_aload_n hx hb dX5_share_39 rfl (lv_at hl 0 rfl) ?_
      refine kc_i (Cs := [mW cy ra (kEn X, T)]) (Rs := []) (Bs := [mW cy ra (kEn X, T)]) (Cs' := fun u_ : Unit => [mW cy ra (kEn X, T)]) (Fs := fun u_ : Unit => [mW cy ra (kEn X, T)]) hP hD hS hA [0] [] [0] rfl rfl (by decide) (by decide) (fun _ => rfl) (va_runV (As := []) (rest := [.int (X.1.2.2.2.2.1 * (X.2.2.2.1.2.1 i)), .int (krs X.1.2.2.2.2.1 (kcut X.1.2.2.2.2.1 X.2.2.2.1.2.1 X.1.2.2.2.1) i)]) ⟨hx, hb, hml, hown, hts⟩ (c_X5_parts l D cy ra X T (by first | assumption | omega | decide) H.size) (cwV 0 hts gX5_share_X5_parts rfl rfl rfl (by decide +kernel) ⟨Nat.le_of_ble_eq_true rfl, Nat.le_of_ble_eq_true rfl⟩) (kPre_V (ci := 5) hK hN hP hD [0] (by decide) rfl 0 rfl rfl) rfl rfl hl.1 rfl (lv_room (Nat.le_of_ble_eq_true rfl)) dX5_share_40 ⟨Nat.le_of_ble_eq_true rfl, Nat.le_of_ble_eq_true rfl⟩) (fun r_ u_ H locs hw hP hD hS => ?_)
      have hw : r_ = ksum X.2.2.2.1.2.1 X.1.2.2.2.1 := hw
      subst hw
      refine lv_idiv hx hb dX5_share_43 (fun h => hps (by rw [h]; decide)) ?_
      refine kv_i (y := kcut X.1.2.2.2.2.1 X.2.2.2.1.2.1 X.1.2.2.2.1 i) rfl ?_
      refine lv_isub hx hb dX5_share_44 ?_
      refine kv_i (y := krs X.1.2.2.2.2.1 (kcut X.1.2.2.2.2.1 X.2.2.2.1.2.1 X.1.2.2.2.1) (i + 1)) rfl ?_
      refine lv_istore_n (lv' := [(2, .int (krs X.1.2.2.2.2.1 (kcut X.1.2.2.2.2.1 X.2.2.2.1.2.1 X.1.2.2.2.1) (i + 1))), (0, .ref (ra 0)), (1, .int (nI f9)), (3, .int (nI i))]) hx hb dX5_share_45 rfl hl (by decide) rfl (fun ls hl => ?_)
      refine lv_iinc (v := nI (i + 1)) (lv' := [(3, .int (nI (i + 1))), (2, .int (krs X.1.2.2.2.2.1 (kcut X.1.2.2.2.2.1 X.2.2.2.1.2.1 X.1.2.2.2.1) (i + 1))), (0, .ref (ra 0)), (1, .int (nI f9))]) hx hb dX5_share_46 hl (k := 3) rfl (nI_add i 1) (by decide) rfl (fun ls hl => ?_)
      refine lv_goto (tgt := 10) hx hb dX5_share_49 (by decide) ?_
      exact ih_10 _ (by omega) (i + 1) rfl (by omega) ls H locs hP hD hS (lv_sub hl [2, 3, 1, 0] rfl)
  exact L_10 _ 0  rfl (by omega) ls H locs hP hD hS (lv_sub hl [2, 3, 1, 0] rfl)
abbrev rm_X5_isThere_qt : Room := { frames := 0, cells := 0, slots := 0, locals := 0 }
set_option maxHeartbeats 1000000 in
set_option maxRecDepth 100000 in
/-- isThere, a leader, told apart -/
theorem c_X5_isThere_qt (l : Launch) (D : va_G) (cy : Nat → ClassId) (ra : Nat → Nat) (X : rS) (tL : Nat → Nat) (tF : Nat → Nat) (cp : Nat) (T : rV) (pe : Nat) (hpe : pe < 8) (hn : X.2.1.2.2.2.2.2 ≤ 8) (sz : Nat) : Met l yX5_isThere wsX5_isThere rm_X5_isThere_qt (va_Pc [.ref (ra 0), .int (nI pe)] (kPre D (kT cy) [mW cy ra (kEq X tL tF cp, T)] sz)) (va_Qi (fun r_ (u_ : Unit) => r_ = if pe < X.2.1.2.2.2.2.2 then nI 1 else nI 0) (kFr D (kT cy) [mW cy ra (kEq X tL tF cp, T)] sz (fun u_ : Unit => [mW cy ra (kEq X tL tF cp, T)])) (va_A (bkF [mW cy ra (kEq X tL tF cp, T)]) sz)) 0 0 (va_A (bkF [mW cy ra (kEq X tL tF cp, T)]) sz) := by
  refine kOpen (y := yX5_isThere) (ws := wsX5_isThere) (cc := cX5_isThere) (maxL := 2) (ret := (some .boolean)) (av := [.ref (ra 0), .int (nI pe)]) (Bs := [mW cy ra (kEq X tL tF cp, T)]) (Qc := fun A => (va_Qi (fun r_ (u_ : Unit) => r_ = if pe < X.2.1.2.2.2.2.2 then nI 1 else nI 0) (fun (u_ : Unit) t9 => kEnd D (kT cy) A [mW cy ra (kEq X tL tF cp, T)] t9) A)) (by decide) rfl (Nat.le_of_ble_eq_true rfl) ?_
  intro p e s m args below meth c A Q ls hQ hx hb hml hr hlocks hin hts hown hN hK hP hD hS hA hsz hAe hl
  clear hAe
  have hl : lv_has ls 2 [(0, .ref (ra 0)), (1, .int (nI pe))] := hl
  suffices K9 : ∀ (H : Heap) (locs : List Loc), va_P D vwCl (bkF [mW cy ra (kEq X tL tF cp, T)]) H → va_S A s.heap H locs → W p l e (headSpec wsX5_isThere rm_X5_isThere_qt).room s m args below meth c H locs 0 0 Q (F0 m 0 ls []) from K9 _ _ hP hS
  clear hP hS
  intro H locs hP hS
  refine lv_iload_n hx hb dX5_isThere_0 rfl (lv_at hl 1 rfl) ?_
  refine lv_bipush (v := nI 8) hx hb dX5_isThere_1 (by decide) ?_
  refine lv_icmp_ge (tgt := 24) hx hb dX5_isThere_3 (by decide) (fun c_3 => False.elim ?_) (fun c_3 => ?_)
  · skip
    have c_3 : 8 ≤ pe := (nI_leI (a := 8) (b := pe) (by omega) (by omega)).mp c_3
    omega
  · skip
    have c_3 : ¬ (8 ≤ pe) := fun h => c_3 ((nI_leI (a := 8) (b := pe) (by omega) (by omega)).mpr h)
    refine lv_iload_n hx hb dX5_isThere_6 rfl (lv_at hl 1 rfl) ?_
    refine lv_aload_n hx hb dX5_isThere_7 rfl (lv_at hl 0 rfl) ?_
    refine va_get (D := D) (ci := 5) (v := .ref (ra 1)) (C := RX5) (T := TX5) (N := 16) hx hb hts (by decide +kernel) hown hK hP 0 rfl rfl 0 (by decide) (hts (.fieldLink RX5 7 "DanceHallModel" "all" "[I") (by decide +kernel)) (fun _ h9 => h9) rfl dX5_isThere_8 ?_
    refine lv_iconst (v := nI 0) hx hb dX5_isThere_11 (by decide) ?_
    refine va_iald hx hb hK hP 1 0 rfl rfl (vp_in_nI (n := 0) (N := 188) (by omega) (by omega)) dX5_isThere_12 ?_
    refine kv_i (y := nI X.2.1.2.2.2.2.2) (show ((kEq X tL tF cp)) (nI 0).toNatClampNeg = nI X.2.1.2.2.2.2.2 from rfl) ?_
    refine lv_icmp_ge (tgt := 20) hx hb dX5_isThere_13 (by decide) (fun c_13 => ?_) (fun c_13 => ?_)
    · skip
      have c_13 : X.2.1.2.2.2.2.2 ≤ pe := (nI_leI (a := X.2.1.2.2.2.2.2) (b := pe) (by omega) (by omega)).mp c_13
      refine lv_iconst (v := nI 0) hx hb dX5_isThere_20 (by decide) ?_
      refine lv_goto (tgt := 42) hx hb dX5_isThere_21 (by decide) ?_
      exact kr_i (post := fun r_ (u_ : Unit) => r_ = if pe < X.2.1.2.2.2.2.2 then nI 1 else nI 0) (Bs := fun u_ : Unit => [mW cy ra (kEq X tL tF cp, T)]) hx hb hr hlocks rfl () hP hK hD hS (by first | exact (if_pos (by first | assumption | (simp only [c_3, c_13]; done) | (constructor <;> assumption) | omega)).symm | exact (if_neg (by first | assumption | omega)).symm | simp [c_3, c_13] | (split <;> simp_all)) dX5_isThere_42 hQ
    · skip
      have c_13 : ¬ (X.2.1.2.2.2.2.2 ≤ pe) := fun h => c_13 ((nI_leI (a := X.2.1.2.2.2.2.2) (b := pe) (by omega) (by omega)).mpr h)
      refine lv_iconst (v := nI 1) hx hb dX5_isThere_16 (by decide) ?_
      refine lv_goto (tgt := 42) hx hb dX5_isThere_17 (by decide) ?_
      exact kr_i (post := fun r_ (u_ : Unit) => r_ = if pe < X.2.1.2.2.2.2.2 then nI 1 else nI 0) (Bs := fun u_ : Unit => [mW cy ra (kEq X tL tF cp, T)]) hx hb hr hlocks rfl () hP hK hD hS (by first | exact (if_pos (by first | assumption | (simp only [c_3, c_13]; done) | (constructor <;> assumption) | omega)).symm | exact (if_neg (by first | assumption | omega)).symm | simp [c_3, c_13] | (split <;> simp_all)) dX5_isThere_42 hQ
abbrev rm_X5_isThere_qf : Room := { frames := 0, cells := 0, slots := 0, locals := 0 }
set_option maxHeartbeats 1000000 in
set_option maxRecDepth 100000 in
/-- isThere, a follower, told apart -/
theorem c_X5_isThere_qf (l : Launch) (D : va_G) (cy : Nat → ClassId) (ra : Nat → Nat) (X : rS) (tL : Nat → Nat) (tF : Nat → Nat) (cp : Nat) (T : rV) (pe : Nat) (hpe : pe < 8) (hn : X.2.2.1.2.2.2.2.2 ≤ 8) (sz : Nat) : Met l yX5_isThere wsX5_isThere rm_X5_isThere_qf (va_Pc [.ref (ra 0), .int (nI (8 + pe))] (kPre D (kT cy) [mW cy ra (kEq X tL tF cp, T)] sz)) (va_Qi (fun r_ (u_ : Unit) => r_ = if pe < X.2.2.1.2.2.2.2.2 then nI 1 else nI 0) (kFr D (kT cy) [mW cy ra (kEq X tL tF cp, T)] sz (fun u_ : Unit => [mW cy ra (kEq X tL tF cp, T)])) (va_A (bkF [mW cy ra (kEq X tL tF cp, T)]) sz)) 0 0 (va_A (bkF [mW cy ra (kEq X tL tF cp, T)]) sz) := by
  refine kOpen (y := yX5_isThere) (ws := wsX5_isThere) (cc := cX5_isThere) (maxL := 2) (ret := (some .boolean)) (av := [.ref (ra 0), .int (nI (8 + pe))]) (Bs := [mW cy ra (kEq X tL tF cp, T)]) (Qc := fun A => (va_Qi (fun r_ (u_ : Unit) => r_ = if pe < X.2.2.1.2.2.2.2.2 then nI 1 else nI 0) (fun (u_ : Unit) t9 => kEnd D (kT cy) A [mW cy ra (kEq X tL tF cp, T)] t9) A)) (by decide) rfl (Nat.le_of_ble_eq_true rfl) ?_
  intro p e s m args below meth c A Q ls hQ hx hb hml hr hlocks hin hts hown hN hK hP hD hS hA hsz hAe hl
  clear hAe
  have hl : lv_has ls 2 [(0, .ref (ra 0)), (1, .int (nI (8 + pe)))] := hl
  suffices K9 : ∀ (H : Heap) (locs : List Loc), va_P D vwCl (bkF [mW cy ra (kEq X tL tF cp, T)]) H → va_S A s.heap H locs → W p l e (headSpec wsX5_isThere rm_X5_isThere_qf).room s m args below meth c H locs 0 0 Q (F0 m 0 ls []) from K9 _ _ hP hS
  clear hP hS
  intro H locs hP hS
  refine lv_iload_n hx hb dX5_isThere_0 rfl (lv_at hl 1 rfl) ?_
  refine lv_bipush (v := nI 8) hx hb dX5_isThere_1 (by decide) ?_
  refine lv_icmp_ge (tgt := 24) hx hb dX5_isThere_3 (by decide) (fun c_3 => ?_) (fun c_3 => False.elim ?_)
  · skip
    have c_3 : 8 ≤ (8 + pe) := (nI_leI (a := 8) (b := 8 + pe) (by omega) (by omega)).mp c_3
    refine lv_iload_n hx hb dX5_isThere_24 rfl (lv_at hl 1 rfl) ?_
    refine lv_bipush (v := nI 8) hx hb dX5_isThere_25 (by decide) ?_
    refine lv_isub hx hb dX5_isThere_27 ?_
    refine kv_i (y := nI pe) (by rw [pk_sub (by omega)]; exact congrArg nI (by omega)) ?_
    refine lv_aload_n hx hb dX5_isThere_28 rfl (lv_at hl 0 rfl) ?_
    refine va_get (D := D) (ci := 5) (v := .ref (ra 1)) (C := RX5) (T := TX5) (N := 16) hx hb hts (by decide +kernel) hown hK hP 0 rfl rfl 0 (by decide) (hts (.fieldLink RX5 7 "DanceHallModel" "all" "[I") (by decide +kernel)) (fun _ h9 => h9) rfl dX5_isThere_29 ?_
    refine lv_iconst (v := nI 1) hx hb dX5_isThere_32 (by decide) ?_
    refine va_iald hx hb hK hP 1 0 rfl rfl (vp_in_nI (n := 1) (N := 188) (by omega) (by omega)) dX5_isThere_33 ?_
    refine kv_i (y := nI X.2.2.1.2.2.2.2.2) (show ((kEq X tL tF cp)) (nI 1).toNatClampNeg = nI X.2.2.1.2.2.2.2.2 from rfl) ?_
    refine lv_icmp_ge (tgt := 41) hx hb dX5_isThere_34 (by decide) (fun c_34 => ?_) (fun c_34 => ?_)
    · skip
      have c_34 : X.2.2.1.2.2.2.2.2 ≤ pe := (nI_leI (a := X.2.2.1.2.2.2.2.2) (b := pe) (by omega) (by omega)).mp c_34
      refine lv_iconst (v := nI 0) hx hb dX5_isThere_41 (by decide) ?_
      exact kr_i (post := fun r_ (u_ : Unit) => r_ = if pe < X.2.2.1.2.2.2.2.2 then nI 1 else nI 0) (Bs := fun u_ : Unit => [mW cy ra (kEq X tL tF cp, T)]) hx hb hr hlocks rfl () hP hK hD hS (by first | exact (if_pos (by first | assumption | (simp only [c_3, c_34]; done) | (constructor <;> assumption) | omega)).symm | exact (if_neg (by first | assumption | omega)).symm | simp [c_3, c_34] | (split <;> simp_all)) dX5_isThere_42 hQ
    · skip
      have c_34 : ¬ (X.2.2.1.2.2.2.2.2 ≤ pe) := fun h => c_34 ((nI_leI (a := X.2.2.1.2.2.2.2.2) (b := pe) (by omega) (by omega)).mpr h)
      refine lv_iconst (v := nI 1) hx hb dX5_isThere_37 (by decide) ?_
      refine lv_goto (tgt := 42) hx hb dX5_isThere_38 (by decide) ?_
      exact kr_i (post := fun r_ (u_ : Unit) => r_ = if pe < X.2.2.1.2.2.2.2.2 then nI 1 else nI 0) (Bs := fun u_ : Unit => [mW cy ra (kEq X tL tF cp, T)]) hx hb hr hlocks rfl () hP hK hD hS (by first | exact (if_pos (by first | assumption | (simp only [c_3, c_34]; done) | (constructor <;> assumption) | omega)).symm | exact (if_neg (by first | assumption | omega)).symm | simp [c_3, c_34] | (split <;> simp_all)) dX5_isThere_42 hQ
  · skip
    have c_3 : ¬ (8 ≤ (8 + pe)) := fun h => c_3 ((nI_leI (a := 8) (b := 8 + pe) (by omega) (by omega)).mpr h)
    omega
abbrev rm_X5_forgets : Room := { frames := 0, cells := 0, slots := 0, locals := 0 }
set_option maxHeartbeats 1000000 in
set_option maxRecDepth 100000 in
/-- forgets -/
theorem c_X5_forgets (l : Launch) (D : va_G) (cy : Nat → ClassId) (ra : Nat → Nat) (X : rS) (tL : Nat → Nat) (tF : Nat → Nat) (cp : Nat) (T : rV) (sz : Nat) : Met l yX5_forgets wsX5_forgets rm_X5_forgets (va_Pc [.ref (ra 0)] (kPre D (kT cy) [mW cy ra (kEq X tL tF cp, T)] sz)) (va_Qv (fun u_ : Unit => True) (kFr D (kT cy) [mW cy ra (kEq X tL tF cp, T)] sz (fun u_ : Unit => [mW cy ra (kEq ((X.1.1, X.1.2.1, X.1.2.2.1, X.1.2.2.2.1, X.1.2.2.2.2.1, X.1.2.2.2.2.2.1, 0, X.1.2.2.2.2.2.2.2), X.2.1, X.2.2.1, X.2.2.2.1, fun _ _ => (-1 : Int32)) tL tF 0, T)])) (va_A (bkF [mW cy ra (kEq X tL tF cp, T)]) sz)) 0 0 (va_A (bkF [mW cy ra (kEq X tL tF cp, T)]) sz) := by
  refine kOpen (y := yX5_forgets) (ws := wsX5_forgets) (cc := cX5_forgets) (maxL := 2) (ret := none) (av := [.ref (ra 0)]) (Bs := [mW cy ra (kEq X tL tF cp, T)]) (Qc := fun A => (va_Qv (fun u_ : Unit => True) (fun (u_ : Unit) t9 => kEnd D (kT cy) A [mW cy ra (kEq ((X.1.1, X.1.2.1, X.1.2.2.1, X.1.2.2.2.1, X.1.2.2.2.2.1, X.1.2.2.2.2.2.1, 0, X.1.2.2.2.2.2.2.2), X.2.1, X.2.2.1, X.2.2.2.1, fun _ _ => (-1 : Int32)) tL tF 0, T)] t9) A)) (by decide) rfl (Nat.le_of_ble_eq_true rfl) ?_
  intro p e s m args below meth c A Q ls hQ hx hb hml hr hlocks hin hts hown hN hK hP hD hS hA hsz hAe hl
  clear hAe
  have hl : lv_has ls 2 [(0, .ref (ra 0))] := hl
  suffices K9 : ∀ (H : Heap) (locs : List Loc), va_P D vwCl (bkF [mW cy ra (kEq X tL tF cp, T)]) H → va_S A s.heap H locs → W p l e (headSpec wsX5_forgets rm_X5_forgets).room s m args below meth c H locs 0 0 Q (F0 m 0 ls []) from K9 _ _ hP hS
  clear hP hS
  intro H locs hP hS
  refine lv_iconst (v := nI 0) hx hb dX5_forgets_0 (by decide) ?_
  refine lv_istore_n (lv' := [(1, .int (nI 0)), (0, .ref (ra 0))]) hx hb dX5_forgets_1 rfl hl (by decide) rfl (fun ls hl => ?_)
  have hP := kP_cell (g := (kVt 28 (fun _ => (-1 : Int32)) (kEq X tL tF cp) 0)) hP 1 rfl (fun j _ => kVt_0 j)
  have hD := hD.set (p := 1) (e := .inl (cy 0, 188, .inl (kVt 28 (fun _ => (-1 : Int32)) (kEq X tL tF cp) 0))) rfl
  have hP : va_P D vwCl (bkF [mW cy ra (kVt 28 (fun _ => (-1 : Int32)) (kEq X tL tF cp) 0, T)]) H := hP
  have hD : va_D A (bkF [mW cy ra (kVt 28 (fun _ => (-1 : Int32)) (kEq X tL tF cp) 0, T)]) := hD
  have L_2 : ∀ (n9 : Nat) (k9 : Nat), 64 - k9 = n9 → (k9 ≤ 64) → ∀ (ls : Array Slot) (H : Heap) (locs : List Loc), va_P D vwCl (bkF [mW cy ra (kVt 28 (fun _ => (-1 : Int32)) (kEq X tL tF cp) k9, T)]) H → va_D A (bkF [mW cy ra (kVt 28 (fun _ => (-1 : Int32)) (kEq X tL tF cp) k9, T)]) → va_S A s.heap H locs → lv_has ls 2 [(0, .ref (ra 0)), (1, .int (nI k9))] → W p l e (headSpec wsX5_forgets rm_X5_forgets).room s m args below meth c H locs 0 0 Q (F0 m 2 ls []) := by
    intro n9
    induction n9 using Nat.strongRecOn with
    | _ n9 ih_2 =>
    intro k9 hm_2 h2_0 ls H locs hP hD hS hl
    refine lv_iload_n hx hb dX5_forgets_2 rfl (lv_at hl 1 rfl) ?_
    refine lv_bipush (v := nI 64) hx hb dX5_forgets_3 (by decide) ?_
    refine lv_icmp_ge (tgt := 24) hx hb dX5_forgets_5 (by decide) (fun c_5 => ?_) (fun c_5 => ?_)
    · skip
      have c_5 : 64 ≤ k9 := (nI_leI (a := 64) (b := k9) (by omega) (by omega)).mp c_5
      obtain rfl : k9 = 64 := (by omega)
      have hP := kP_cell (g := (kEq (X.1, X.2.1, X.2.2.1, X.2.2.2.1, fun _ _ => (-1 : Int32)) tL tF cp)) hP 1 rfl (fun j hj => kqu_fg j hj)
      have hD := hD.set (p := 1) (e := .inl (cy 0, 188, .inl (kEq (X.1, X.2.1, X.2.2.1, X.2.2.2.1, fun _ _ => (-1 : Int32)) tL tF cp))) rfl
      have hP : va_P D vwCl (bkF [mW cy ra (kEq (X.1, X.2.1, X.2.2.1, X.2.2.2.1, fun _ _ => (-1 : Int32)) tL tF cp, T)]) H := hP
      have hD : va_D A (bkF [mW cy ra (kEq (X.1, X.2.1, X.2.2.1, X.2.2.2.1, fun _ _ => (-1 : Int32)) tL tF cp, T)]) := hD
      refine lv_aload_n hx hb dX5_forgets_24 rfl (lv_at hl 0 rfl) ?_
      refine va_get (D := D) (ci := 5) (v := .ref (ra 1)) (C := RX5) (T := TX5) (N := 16) hx hb hts (by decide +kernel) hown hK hP 0 rfl rfl 0 (by decide) (hts (.fieldLink RX5 7 "DanceHallModel" "all" "[I") (by decide +kernel)) (fun _ h9 => h9) rfl dX5_forgets_25 ?_
      refine lv_iconst (v := nI 5) hx hb dX5_forgets_28 (by decide) ?_
      refine lv_iconst (v := nI 0) hx hb dX5_forgets_29 (by decide) ?_
      refine va_iast hx hb hK hP hD hS 1 0 rfl rfl (vp_in_nI (n := 5) (N := 188) (by omega) (by omega)) dX5_forgets_30 (fun H locs hP hD hS => ?_)
      have hP : va_P D vwCl (bkF [mW cy ra (upd (kEq (X.1, X.2.1, X.2.2.1, X.2.2.2.1, fun _ _ => (-1 : Int32)) tL tF cp) 5 (nI 0), T)]) H := hP
      have hD : va_D A (bkF [mW cy ra (upd (kEq (X.1, X.2.1, X.2.2.1, X.2.2.2.1, fun _ _ => (-1 : Int32)) tL tF cp) 5 (nI 0), T)]) := hD
      have hP := kP_cell (g := (kEq ((X.1.1, X.1.2.1, X.1.2.2.1, X.1.2.2.2.1, X.1.2.2.2.2.1, X.1.2.2.2.2.2.1, 0, X.1.2.2.2.2.2.2.2), X.2.1, X.2.2.1, X.2.2.2.1, fun _ _ => (-1 : Int32)) tL tF cp)) hP 1 rfl (fun j hj => (kqu_C (C' := (X.1.1, X.1.2.1, X.1.2.2.1, X.1.2.2.2.1, X.1.2.2.2.2.1, X.1.2.2.2.2.2.1, 0, X.1.2.2.2.2.2.2.2)) (i := 5) (by decide) rfl (fun j9 hj9 hne => by rcases k11 hj9 with rfl | rfl | rfl | rfl | rfl | rfl | rfl | rfl | rfl | rfl | rfl <;> first | rfl | exact absurd rfl hne)) j hj)
      have hD := hD.set (p := 1) (e := .inl (cy 0, 188, .inl (kEq ((X.1.1, X.1.2.1, X.1.2.2.1, X.1.2.2.2.1, X.1.2.2.2.2.1, X.1.2.2.2.2.2.1, 0, X.1.2.2.2.2.2.2.2), X.2.1, X.2.2.1, X.2.2.2.1, fun _ _ => (-1 : Int32)) tL tF cp))) rfl
      have hP : va_P D vwCl (bkF [mW cy ra (kEq ((X.1.1, X.1.2.1, X.1.2.2.1, X.1.2.2.2.1, X.1.2.2.2.2.1, X.1.2.2.2.2.2.1, 0, X.1.2.2.2.2.2.2.2), X.2.1, X.2.2.1, X.2.2.2.1, fun _ _ => (-1 : Int32)) tL tF cp, T)]) H := hP
      have hD : va_D A (bkF [mW cy ra (kEq ((X.1.1, X.1.2.1, X.1.2.2.1, X.1.2.2.2.1, X.1.2.2.2.2.1, X.1.2.2.2.2.2.1, 0, X.1.2.2.2.2.2.2.2), X.2.1, X.2.2.1, X.2.2.2.1, fun _ _ => (-1 : Int32)) tL tF cp, T)]) := hD
      refine lv_aload_n hx hb dX5_forgets_31 rfl (lv_at hl 0 rfl) ?_
      refine va_get (D := D) (ci := 5) (v := .ref (ra 1)) (C := RX5) (T := TX5) (N := 16) hx hb hts (by decide +kernel) hown hK hP 0 rfl rfl 0 (by decide) (hts (.fieldLink RX5 7 "DanceHallModel" "all" "[I") (by decide +kernel)) (fun _ h9 => h9) rfl dX5_forgets_32 ?_
      refine lv_bipush (v := nI 6) hx hb dX5_forgets_35 (by decide) ?_
      refine lv_iconst (v := nI 0) hx hb dX5_forgets_37 (by decide) ?_
      refine va_iast hx hb hK hP hD hS 1 0 rfl rfl (vp_in_nI (n := 6) (N := 188) (by omega) (by omega)) dX5_forgets_38 (fun H locs hP hD hS => ?_)
      have hP : va_P D vwCl (bkF [mW cy ra (upd (kEq ((X.1.1, X.1.2.1, X.1.2.2.1, X.1.2.2.2.1, X.1.2.2.2.2.1, X.1.2.2.2.2.2.1, 0, X.1.2.2.2.2.2.2.2), X.2.1, X.2.2.1, X.2.2.2.1, fun _ _ => (-1 : Int32)) tL tF cp) 6 (nI 0), T)]) H := hP
      have hD : va_D A (bkF [mW cy ra (upd (kEq ((X.1.1, X.1.2.1, X.1.2.2.1, X.1.2.2.2.1, X.1.2.2.2.2.1, X.1.2.2.2.2.2.1, 0, X.1.2.2.2.2.2.2.2), X.2.1, X.2.2.1, X.2.2.2.1, fun _ _ => (-1 : Int32)) tL tF cp) 6 (nI 0), T)]) := hD
      have hP := kP_cell (g := (kEq ((X.1.1, X.1.2.1, X.1.2.2.1, X.1.2.2.2.1, X.1.2.2.2.2.1, X.1.2.2.2.2.2.1, 0, X.1.2.2.2.2.2.2.2), X.2.1, X.2.2.1, X.2.2.2.1, fun _ _ => (-1 : Int32)) tL tF 0)) hP 1 rfl (fun j hj => kqu_cp j hj)
      have hD := hD.set (p := 1) (e := .inl (cy 0, 188, .inl (kEq ((X.1.1, X.1.2.1, X.1.2.2.1, X.1.2.2.2.1, X.1.2.2.2.2.1, X.1.2.2.2.2.2.1, 0, X.1.2.2.2.2.2.2.2), X.2.1, X.2.2.1, X.2.2.2.1, fun _ _ => (-1 : Int32)) tL tF 0))) rfl
      have hP : va_P D vwCl (bkF [mW cy ra (kEq ((X.1.1, X.1.2.1, X.1.2.2.1, X.1.2.2.2.1, X.1.2.2.2.2.1, X.1.2.2.2.2.2.1, 0, X.1.2.2.2.2.2.2.2), X.2.1, X.2.2.1, X.2.2.2.1, fun _ _ => (-1 : Int32)) tL tF 0, T)]) H := hP
      have hD : va_D A (bkF [mW cy ra (kEq ((X.1.1, X.1.2.1, X.1.2.2.1, X.1.2.2.2.1, X.1.2.2.2.2.1, X.1.2.2.2.2.2.1, 0, X.1.2.2.2.2.2.2.2), X.2.1, X.2.2.1, X.2.2.2.1, fun _ _ => (-1 : Int32)) tL tF 0, T)]) := hD
      exact kr_v (post := fun u_ : Unit => True) (Bs := fun u_ : Unit => [mW cy ra (kEq ((X.1.1, X.1.2.1, X.1.2.2.1, X.1.2.2.2.1, X.1.2.2.2.2.1, X.1.2.2.2.2.2.1, 0, X.1.2.2.2.2.2.2.2), X.2.1, X.2.2.1, X.2.2.2.1, fun _ _ => (-1 : Int32)) tL tF 0, T)]) hx hb hr hlocks () hP hK hD hS trivial dX5_forgets_39 hQ
    · skip
      have c_5 : ¬ (64 ≤ k9) := fun h => c_5 ((nI_leI (a := 64) (b := k9) (by omega) (by omega)).mpr h)
      refine lv_aload_n hx hb dX5_forgets_8 rfl (lv_at hl 0 rfl) ?_
      refine va_get (D := D) (ci := 5) (v := .ref (ra 1)) (C := RX5) (T := TX5) (N := 16) hx hb hts (by decide +kernel) hown hK hP 0 rfl rfl 0 (by decide) (hts (.fieldLink RX5 7 "DanceHallModel" "all" "[I") (by decide +kernel)) (fun _ h9 => h9) rfl dX5_forgets_9 ?_
      refine lv_bipush (v := nI 28) hx hb dX5_forgets_12 (by decide) ?_
      refine lv_iload_n hx hb dX5_forgets_14 rfl (lv_at hl 1 rfl) ?_
      refine lv_iadd hx hb dX5_forgets_15 ?_
      refine kv_i (y := nI (28 + k9)) (nI_add 28 k9) ?_
      refine lv_iconst (v := (-1 : Int32)) hx hb dX5_forgets_16 (by decide) ?_
      refine va_iast hx hb hK hP hD hS 1 0 rfl rfl (vp_in_nI (n := 28 + k9) (N := 188) (by omega) (by omega)) dX5_forgets_17 (fun H locs hP hD hS => ?_)
      rw [nI_clamp (n := 28 + k9) (by omega)] at hP hD
      have hP : va_P D vwCl (bkF [mW cy ra (upd (kVt 28 (fun _ => (-1 : Int32)) (kEq X tL tF cp) k9) (28 + k9) (-1), T)]) H := hP
      have hD : va_D A (bkF [mW cy ra (upd (kVt 28 (fun _ => (-1 : Int32)) (kEq X tL tF cp) k9) (28 + k9) (-1), T)]) := hD
      refine lv_iinc (v := nI (k9 + 1)) (lv' := [(1, .int (nI (k9 + 1))), (0, .ref (ra 0))]) hx hb dX5_forgets_18 hl (k := 1) rfl (nI_add k9 1) (by decide) rfl (fun ls hl => ?_)
      refine lv_goto (tgt := 2) hx hb dX5_forgets_21 (by decide) ?_
      have hP := kP_cell (g := (kVt 28 (fun _ => (-1 : Int32)) (kEq X tL tF cp) (k9 + 1))) hP 1 rfl (fun j _ => kVt_s rfl j)
      have hD := hD.set (p := 1) (e := .inl (cy 0, 188, .inl (kVt 28 (fun _ => (-1 : Int32)) (kEq X tL tF cp) (k9 + 1)))) rfl
      have hP : va_P D vwCl (bkF [mW cy ra (kVt 28 (fun _ => (-1 : Int32)) (kEq X tL tF cp) (k9 + 1), T)]) H := hP
      have hD : va_D A (bkF [mW cy ra (kVt 28 (fun _ => (-1 : Int32)) (kEq X tL tF cp) (k9 + 1), T)]) := hD
      exact ih_2 _ (by omega) (k9 + 1) rfl (by omega) ls H locs hP hD hS (lv_sub hl [1, 0] rfl)
  exact L_2 _ 0  rfl (by omega) ls H locs hP hD hS (lv_sub hl [1, 0] rfl)
abbrev rm_X5_endNight : Room := { frames := 2, cells := 0, slots := 0, locals := 45 }
set_option maxHeartbeats 4000000 in
set_option maxRecDepth 100000 in
/-- endNight -/
theorem c_X5_endNight (l : Launch) (D : va_G) (cy : Nat → ClassId) (ra : Nat → Nat) (X : rS) (T : rV) (hfn : X.1.2.2.2.1 ≤ 4) (hf1 : 1 ≤ X.1.2.2.2.1) (hps : ¬ ksum X.2.2.2.1.2.1 X.1.2.2.2.1 ≤ 0) (hnl : X.2.1.2.2.2.2.2 ≤ 8) (hnf : X.2.2.1.2.2.2.2.2 ≤ 8) (hsm : T.2.2.1 ≤ 4) (sz : Nat) : Met l yX5_endNight wsX5_endNight rm_X5_endNight (va_Pc [.ref (ra 0)] (kPre D (kT cy) [mW cy ra (kEn X, T)] sz)) (va_Qi (fun r_ (u_ : Unit) => r_ = X.1.2.2.2.2.1) (kFr D (kT cy) [mW cy ra (kEn X, T)] sz (fun u_ : Unit => [mW cy ra (kEn ((X.1.1, X.1.2.1, X.1.2.2.1, X.1.2.2.2.1, nI 0, X.1.2.2.2.2.2.1 + nI 1, 0, X.1.2.2.2.2.2.2.2), kNtG X.2.1 X.2.1.2.2.2.2.2, kNtG X.2.2.1 X.2.2.1.2.2.2.2.2, (X.2.2.2.1.1, X.2.2.2.1.2.1, kgot X.1 X.2.2.2.1 X.1.2.2.2.1), fun _ _ => (-1 : Int32)), (kRsv (kEn X) T.1 T.2.2.1, T.2.1, kSc T.2.2.1, nI 0, T.2.2.2.2))])) (va_A (bkF [mW cy ra (kEn X, T)]) sz)) 0 0 (va_A (bkF [mW cy ra (kEn X, T)]) sz) := by
  refine kOpen (y := yX5_endNight) (ws := wsX5_endNight) (cc := cX5_endNight) (maxL := 3) (ret := (some .int)) (av := [.ref (ra 0)]) (Bs := [mW cy ra (kEn X, T)]) (Qc := fun A => (va_Qi (fun r_ (u_ : Unit) => r_ = X.1.2.2.2.2.1) (fun (u_ : Unit) t9 => kEnd D (kT cy) A [mW cy ra (kEn ((X.1.1, X.1.2.1, X.1.2.2.1, X.1.2.2.2.1, nI 0, X.1.2.2.2.2.2.1 + nI 1, 0, X.1.2.2.2.2.2.2.2), kNtG X.2.1 X.2.1.2.2.2.2.2, kNtG X.2.2.1 X.2.2.1.2.2.2.2.2, (X.2.2.2.1.1, X.2.2.2.1.2.1, kgot X.1 X.2.2.2.1 X.1.2.2.2.1), fun _ _ => (-1 : Int32)), (kRsv (kEn X) T.1 T.2.2.1, T.2.1, kSc T.2.2.1, nI 0, T.2.2.2.2))] t9) A)) (by decide) rfl (Nat.le_of_ble_eq_true rfl) ?_
  intro p e s m args below meth c A Q ls hQ hx hb hml hr hlocks hin hts hown hN hK hP hD hS hA hsz hAe hl
  clear hAe
  have hl : lv_has ls 3 [(0, .ref (ra 0))] := hl
  suffices K9 : ∀ (H : Heap) (locs : List Loc), va_P D vwCl (bkF [mW cy ra (kEn X, T)]) H → va_S A s.heap H locs → W p l e (headSpec wsX5_endNight rm_X5_endNight).room s m args below meth c H locs 0 0 Q (F0 m 0 ls []) from K9 _ _ hP hS
  clear hP hS
  intro H locs hP hS
  refine lv_aload_n hx hb dX5_endNight_0 rfl (lv_at hl 0 rfl) ?_
  refine kc_v (Cs := [mW cy ra (kEn X, T)]) (Rs := []) (Bs := [mW cy ra (kEn X, T)]) (Cs' := fun u_ : Unit => [mW cy ra (kEn X, (kRsv (kEn X) T.1 T.2.2.1, T.2.1, kSc T.2.2.1, T.2.2.2))]) (Fs := fun u_ : Unit => [mW cy ra (kEn X, (kRsv (kEn X) T.1 T.2.2.1, T.2.1, kSc T.2.2.1, T.2.2.2))]) hP hD hS hA [0] [] [0] rfl rfl (by decide) (by decide) (fun _ => rfl) (va_runV (As := []) (rest := []) ⟨hx, hb, hml, hown, hts⟩ (c_X5_save l D cy ra X T (by first | assumption | omega | decide) H.size) (cwV 0 hts gX5_endNight_X5_save rfl rfl rfl (by decide +kernel) ⟨Nat.le_of_ble_eq_true rfl, Nat.le_of_ble_eq_true rfl⟩) (kPre_V (ci := 5) hK hN hP hD [0] (by decide) rfl 0 rfl rfl) rfl rfl hl.1 rfl (lv_room (Nat.le_of_ble_eq_true rfl)) dX5_endNight_1 ⟨Nat.le_of_ble_eq_true rfl, Nat.le_of_ble_eq_true rfl⟩) (fun u_ H locs hw hP hD hS => ?_)
  refine lv_aload_n hx hb dX5_endNight_4 rfl (lv_at hl 0 rfl) ?_
  refine va_get (D := D) (ci := 5) (v := .ref (ra 1)) (C := RX5) (T := TX5) (N := 16) hx hb hts (by decide +kernel) hown hK hP 0 rfl rfl 0 (by decide) (hts (.fieldLink RX5 7 "DanceHallModel" "all" "[I") (by decide +kernel)) (fun _ h9 => h9) rfl dX5_endNight_5 ?_
  refine lv_bipush (v := nI 7) hx hb dX5_endNight_8 (by decide) ?_
  refine va_iald hx hb hK hP 1 0 rfl rfl (vp_in_nI (n := 7) (N := 188) (by omega) (by omega)) dX5_endNight_10 ?_
  refine kv_i (y := X.1.2.2.2.2.1) (show ((kEn X)) (nI 7).toNatClampNeg = X.1.2.2.2.2.1 from rfl) ?_
  refine lv_istore_n (lv' := [(1, .int X.1.2.2.2.2.1), (0, .ref (ra 0))]) hx hb dX5_endNight_11 rfl hl (by decide) rfl (fun ls hl => ?_)
  refine lv_iconst (v := nI 0) hx hb dX5_endNight_12 (by decide) ?_
  refine lv_istore_n (lv' := [(2, .int (nI 0)), (1, .int X.1.2.2.2.2.1), (0, .ref (ra 0))]) hx hb dX5_endNight_13 rfl hl (by decide) rfl (fun ls hl => ?_)
  have hP := kP_cell (g := (kEn (X.1, X.2.1, X.2.2.1, (X.2.2.2.1.1, X.2.2.2.1.2.1, kgot X.1 X.2.2.2.1 0), X.2.2.2.2))) hP 1 rfl (fun _ _ => rfl)
  have hD := hD.set (p := 1) (e := .inl (cy 0, 188, .inl (kEn (X.1, X.2.1, X.2.2.1, (X.2.2.2.1.1, X.2.2.2.1.2.1, kgot X.1 X.2.2.2.1 0), X.2.2.2.2)))) rfl
  have hP : va_P D vwCl (bkF [mW cy ra (kEn (X.1, X.2.1, X.2.2.1, (X.2.2.2.1.1, X.2.2.2.1.2.1, kgot X.1 X.2.2.2.1 0), X.2.2.2.2), (kRsv (kEn X) T.1 T.2.2.1, T.2.1, kSc T.2.2.1, T.2.2.2))]) H := hP
  have hD : va_D A (bkF [mW cy ra (kEn (X.1, X.2.1, X.2.2.1, (X.2.2.2.1.1, X.2.2.2.1.2.1, kgot X.1 X.2.2.2.1 0), X.2.2.2.2), (kRsv (kEn X) T.1 T.2.2.1, T.2.1, kSc T.2.2.1, T.2.2.2))]) := hD
  have L_14 : ∀ (n9 : Nat) (i : Nat), X.1.2.2.2.1 - i = n9 → (i ≤ X.1.2.2.2.1) → ∀ (ls : Array Slot) (H : Heap) (locs : List Loc), va_P D vwCl (bkF [mW cy ra (kEn (X.1, X.2.1, X.2.2.1, (X.2.2.2.1.1, X.2.2.2.1.2.1, kgot X.1 X.2.2.2.1 i), X.2.2.2.2), ((kRsv (kEn X) T.1 T.2.2.1), T.2.1, (kSc T.2.2.1), T.2.2.2))]) H → va_D A (bkF [mW cy ra (kEn (X.1, X.2.1, X.2.2.1, (X.2.2.2.1.1, X.2.2.2.1.2.1, kgot X.1 X.2.2.2.1 i), X.2.2.2.2), ((kRsv (kEn X) T.1 T.2.2.1), T.2.1, (kSc T.2.2.1), T.2.2.2))]) → va_S A s.heap H locs → lv_has ls 3 [(0, .ref (ra 0)), (1, .int X.1.2.2.2.2.1), (2, .int (nI i))] → W p l e (headSpec wsX5_endNight rm_X5_endNight).room s m args below meth c H locs 0 0 Q (F0 m 14 ls []) := by
    intro n9
    induction n9 using Nat.strongRecOn with
    | _ n9 ih_14 =>
    intro i hm_14 h14_0 ls H locs hP hD hS hl
    refine lv_iload_n hx hb dX5_endNight_14 rfl (lv_at hl 2 rfl) ?_
    refine lv_aload_n hx hb dX5_endNight_15 rfl (lv_at hl 0 rfl) ?_
    refine va_get (D := D) (ci := 5) (v := .ref (ra 1)) (C := RX5) (T := TX5) (N := 16) hx hb hts (by decide +kernel) hown hK hP 0 rfl rfl 0 (by decide) (hts (.fieldLink RX5 7 "DanceHallModel" "all" "[I") (by decide +kernel)) (fun _ h9 => h9) rfl dX5_endNight_16 ?_
    refine lv_bipush (v := nI 8) hx hb dX5_endNight_19 (by decide) ?_
    refine va_iald hx hb hK hP 1 0 rfl rfl (vp_in_nI (n := 8) (N := 188) (by omega) (by omega)) dX5_endNight_21 ?_
    refine kv_i (y := nI X.1.2.2.2.1) (show ((kEn (X.1, X.2.1, X.2.2.1, (X.2.2.2.1.1, X.2.2.2.1.2.1, kgot X.1 X.2.2.2.1 i), X.2.2.2.2))) (nI 8).toNatClampNeg = nI X.1.2.2.2.1 from rfl) ?_
    refine lv_icmp_ge (tgt := 48) hx hb dX5_endNight_22 (by decide) (fun c_22 => ?_) (fun c_22 => ?_)
    · skip
      have c_22 : X.1.2.2.2.1 ≤ i := (nI_leI (a := X.1.2.2.2.1) (b := i) (by omega) (by omega)).mp c_22
      obtain rfl : i = X.1.2.2.2.1 := (by omega)
      refine lv_aload_n hx hb dX5_endNight_48 rfl (lv_at hl 0 rfl) ?_
      refine va_get (D := D) (ci := 5) (v := .ref (ra 1)) (C := RX5) (T := TX5) (N := 16) hx hb hts (by decide +kernel) hown hK hP 0 rfl rfl 0 (by decide) (hts (.fieldLink RX5 7 "DanceHallModel" "all" "[I") (by decide +kernel)) (fun _ h9 => h9) rfl dX5_endNight_49 ?_
      refine lv_bipush (v := nI 7) hx hb dX5_endNight_52 (by decide) ?_
      refine lv_iconst (v := nI 0) hx hb dX5_endNight_54 (by decide) ?_
      refine va_iast hx hb hK hP hD hS 1 0 rfl rfl (vp_in_nI (n := 7) (N := 188) (by omega) (by omega)) dX5_endNight_55 (fun H locs hP hD hS => ?_)
      have hP : va_P D vwCl (bkF [mW cy ra (upd (kEn (X.1, X.2.1, X.2.2.1, (X.2.2.2.1.1, X.2.2.2.1.2.1, kgot X.1 X.2.2.2.1 X.1.2.2.2.1), X.2.2.2.2)) 7 (nI 0), ((kRsv (kEn X) T.1 T.2.2.1), T.2.1, (kSc T.2.2.1), T.2.2.2))]) H := hP
      have hD : va_D A (bkF [mW cy ra (upd (kEn (X.1, X.2.1, X.2.2.1, (X.2.2.2.1.1, X.2.2.2.1.2.1, kgot X.1 X.2.2.2.1 X.1.2.2.2.1), X.2.2.2.2)) 7 (nI 0), ((kRsv (kEn X) T.1 T.2.2.1), T.2.1, (kSc T.2.2.1), T.2.2.2))]) := hD
      have hP := kP_cell (g := (kEn ((X.1.1, X.1.2.1, X.1.2.2.1, X.1.2.2.2.1, nI 0, X.1.2.2.2.2.2), X.2.1, X.2.2.1, (X.2.2.2.1.1, X.2.2.2.1.2.1, kgot X.1 X.2.2.2.1 X.1.2.2.2.1), X.2.2.2.2))) hP 1 rfl (fun j hj => (kqu_C (C' := (X.1.1, X.1.2.1, X.1.2.2.1, X.1.2.2.2.1, nI 0, X.1.2.2.2.2.2)) (i := 7) (by decide) rfl (fun j9 hj9 hne => by rcases k11 hj9 with rfl | rfl | rfl | rfl | rfl | rfl | rfl | rfl | rfl | rfl | rfl <;> first | rfl | exact absurd rfl hne)) j hj)
      have hD := hD.set (p := 1) (e := .inl (cy 0, 188, .inl (kEn ((X.1.1, X.1.2.1, X.1.2.2.1, X.1.2.2.2.1, nI 0, X.1.2.2.2.2.2), X.2.1, X.2.2.1, (X.2.2.2.1.1, X.2.2.2.1.2.1, kgot X.1 X.2.2.2.1 X.1.2.2.2.1), X.2.2.2.2)))) rfl
      have hP : va_P D vwCl (bkF [mW cy ra (kEn ((X.1.1, X.1.2.1, X.1.2.2.1, X.1.2.2.2.1, nI 0, X.1.2.2.2.2.2), X.2.1, X.2.2.1, (X.2.2.2.1.1, X.2.2.2.1.2.1, kgot X.1 X.2.2.2.1 X.1.2.2.2.1), X.2.2.2.2), ((kRsv (kEn X) T.1 T.2.2.1), T.2.1, (kSc T.2.2.1), T.2.2.2))]) H := hP
      have hD : va_D A (bkF [mW cy ra (kEn ((X.1.1, X.1.2.1, X.1.2.2.1, X.1.2.2.2.1, nI 0, X.1.2.2.2.2.2), X.2.1, X.2.2.1, (X.2.2.2.1.1, X.2.2.2.1.2.1, kgot X.1 X.2.2.2.1 X.1.2.2.2.1), X.2.2.2.2), ((kRsv (kEn X) T.1 T.2.2.1), T.2.1, (kSc T.2.2.1), T.2.2.2))]) := hD
      have hP := kP_cell (g := (kEq (kNt ((X.1.1, X.1.2.1, X.1.2.2.1, X.1.2.2.2.1, nI 0, X.1.2.2.2.2.2), X.2.1, X.2.2.1, (X.2.2.2.1.1, X.2.2.2.1.2.1, kgot X.1 X.2.2.2.1 X.1.2.2.2.1), X.2.2.2.2) (0) (0)) (kNtT (kTL X.2.2.2.2) (0)) (kNtT (kTF X.2.2.2.2) (0)) (kCp X.2.2.2.2))) hP 1 rfl (fun j hj => kq_c (fun q => rfl) (fun _ _ => rfl) (fun _ _ => rfl) (fun _ _ => rfl) (fun _ _ => rfl) (fun _ _ => by rw [kNtT_0]; exact kEnG_c rfl (by omega) (fun _ => rfl) (fun _ => rfl) (fun _ => rfl) (fun _ => (kcp_0 (fun _ => nI 1) _ _).symm) (fun _ => rfl) (fun _ => rfl)) (fun _ _ => by rw [kNtT_0]; exact kEnG_c rfl (by omega) (fun _ => rfl) (fun _ => rfl) (fun _ => rfl) (fun _ => (kcp_0 (fun _ => nI 1) _ _).symm) (fun _ => rfl) (fun _ => rfl)))
      have hD := hD.set (p := 1) (e := .inl (cy 0, 188, .inl (kEq (kNt ((X.1.1, X.1.2.1, X.1.2.2.1, X.1.2.2.2.1, nI 0, X.1.2.2.2.2.2), X.2.1, X.2.2.1, (X.2.2.2.1.1, X.2.2.2.1.2.1, kgot X.1 X.2.2.2.1 X.1.2.2.2.1), X.2.2.2.2) (0) (0)) (kNtT (kTL X.2.2.2.2) (0)) (kNtT (kTF X.2.2.2.2) (0)) (kCp X.2.2.2.2)))) rfl
      have hP : va_P D vwCl (bkF [mW cy ra (kEq (kNt ((X.1.1, X.1.2.1, X.1.2.2.1, X.1.2.2.2.1, nI 0, X.1.2.2.2.2.2), X.2.1, X.2.2.1, (X.2.2.2.1.1, X.2.2.2.1.2.1, kgot X.1 X.2.2.2.1 X.1.2.2.2.1), X.2.2.2.2) (0) (0)) (kNtT (kTL X.2.2.2.2) (0)) (kNtT (kTF X.2.2.2.2) (0)) (kCp X.2.2.2.2), ((kRsv (kEn X) T.1 T.2.2.1), T.2.1, (kSc T.2.2.1), T.2.2.2))]) H := hP
      have hD : va_D A (bkF [mW cy ra (kEq (kNt ((X.1.1, X.1.2.1, X.1.2.2.1, X.1.2.2.2.1, nI 0, X.1.2.2.2.2.2), X.2.1, X.2.2.1, (X.2.2.2.1.1, X.2.2.2.1.2.1, kgot X.1 X.2.2.2.1 X.1.2.2.2.1), X.2.2.2.2) (0) (0)) (kNtT (kTL X.2.2.2.2) (0)) (kNtT (kTF X.2.2.2.2) (0)) (kCp X.2.2.2.2), ((kRsv (kEn X) T.1 T.2.2.1), T.2.1, (kSc T.2.2.1), T.2.2.2))]) := hD
      refine lv_iconst (v := nI 0) hx hb dX5_endNight_56 (by decide) ?_
      refine lv_istore_n (lv' := [(2, .int (nI 0)), (0, .ref (ra 0)), (1, .int X.1.2.2.2.2.1)]) hx hb dX5_endNight_57 rfl hl (by decide) rfl (fun ls hl => ?_)
      have hP := kP_cell (g := (kEq (kNt ((X.1.1, X.1.2.1, X.1.2.2.1, X.1.2.2.2.1, nI 0, X.1.2.2.2.2.2), X.2.1, X.2.2.1, (X.2.2.2.1.1, X.2.2.2.1.2.1, kgot X.1 X.2.2.2.1 X.1.2.2.2.1), X.2.2.2.2) (min 0 X.2.1.2.2.2.2.2) (min (0 - 8) X.2.2.1.2.2.2.2.2)) (kNtT (kTL X.2.2.2.2) (min 0 X.2.1.2.2.2.2.2)) (kNtT (kTF X.2.2.2.2) (min (0 - 8) X.2.2.1.2.2.2.2.2)) (kCp X.2.2.2.2))) hP 1 rfl (fun j hj => by rw [Nat.zero_min, show min (0 - 8) X.2.2.1.2.2.2.2.2 = 0 from by omega])
      have hD := hD.set (p := 1) (e := .inl (cy 0, 188, .inl (kEq (kNt ((X.1.1, X.1.2.1, X.1.2.2.1, X.1.2.2.2.1, nI 0, X.1.2.2.2.2.2), X.2.1, X.2.2.1, (X.2.2.2.1.1, X.2.2.2.1.2.1, kgot X.1 X.2.2.2.1 X.1.2.2.2.1), X.2.2.2.2) (min 0 X.2.1.2.2.2.2.2) (min (0 - 8) X.2.2.1.2.2.2.2.2)) (kNtT (kTL X.2.2.2.2) (min 0 X.2.1.2.2.2.2.2)) (kNtT (kTF X.2.2.2.2) (min (0 - 8) X.2.2.1.2.2.2.2.2)) (kCp X.2.2.2.2)))) rfl
      have hP : va_P D vwCl (bkF [mW cy ra (kEq (kNt ((X.1.1, X.1.2.1, X.1.2.2.1, X.1.2.2.2.1, nI 0, X.1.2.2.2.2.2), X.2.1, X.2.2.1, (X.2.2.2.1.1, X.2.2.2.1.2.1, kgot X.1 X.2.2.2.1 X.1.2.2.2.1), X.2.2.2.2) (min 0 X.2.1.2.2.2.2.2) (min (0 - 8) X.2.2.1.2.2.2.2.2)) (kNtT (kTL X.2.2.2.2) (min 0 X.2.1.2.2.2.2.2)) (kNtT (kTF X.2.2.2.2) (min (0 - 8) X.2.2.1.2.2.2.2.2)) (kCp X.2.2.2.2), ((kRsv (kEn X) T.1 T.2.2.1), T.2.1, (kSc T.2.2.1), T.2.2.2))]) H := hP
      have hD : va_D A (bkF [mW cy ra (kEq (kNt ((X.1.1, X.1.2.1, X.1.2.2.1, X.1.2.2.2.1, nI 0, X.1.2.2.2.2.2), X.2.1, X.2.2.1, (X.2.2.2.1.1, X.2.2.2.1.2.1, kgot X.1 X.2.2.2.1 X.1.2.2.2.1), X.2.2.2.2) (min 0 X.2.1.2.2.2.2.2) (min (0 - 8) X.2.2.1.2.2.2.2.2)) (kNtT (kTL X.2.2.2.2) (min 0 X.2.1.2.2.2.2.2)) (kNtT (kTF X.2.2.2.2) (min (0 - 8) X.2.2.1.2.2.2.2.2)) (kCp X.2.2.2.2), ((kRsv (kEn X) T.1 T.2.2.1), T.2.1, (kSc T.2.2.1), T.2.2.2))]) := hD
      have L_58 : ∀ (n9 : Nat) (pe : Nat), 16 - pe = n9 → (pe ≤ 16) → ∀ (ls : Array Slot) (H : Heap) (locs : List Loc), va_P D vwCl (bkF [mW cy ra (kEq (kNt ((X.1.1, X.1.2.1, X.1.2.2.1, X.1.2.2.2.1, nI 0, X.1.2.2.2.2.2), X.2.1, X.2.2.1, (X.2.2.2.1.1, X.2.2.2.1.2.1, kgot X.1 X.2.2.2.1 X.1.2.2.2.1), X.2.2.2.2) (min pe X.2.1.2.2.2.2.2) (min (pe - 8) X.2.2.1.2.2.2.2.2)) (kNtT (kTL X.2.2.2.2) (min pe X.2.1.2.2.2.2.2)) (kNtT (kTF X.2.2.2.2) (min (pe - 8) X.2.2.1.2.2.2.2.2)) (kCp X.2.2.2.2), ((kRsv (kEn X) T.1 T.2.2.1), T.2.1, (kSc T.2.2.1), T.2.2.2))]) H → va_D A (bkF [mW cy ra (kEq (kNt ((X.1.1, X.1.2.1, X.1.2.2.1, X.1.2.2.2.1, nI 0, X.1.2.2.2.2.2), X.2.1, X.2.2.1, (X.2.2.2.1.1, X.2.2.2.1.2.1, kgot X.1 X.2.2.2.1 X.1.2.2.2.1), X.2.2.2.2) (min pe X.2.1.2.2.2.2.2) (min (pe - 8) X.2.2.1.2.2.2.2.2)) (kNtT (kTL X.2.2.2.2) (min pe X.2.1.2.2.2.2.2)) (kNtT (kTF X.2.2.2.2) (min (pe - 8) X.2.2.1.2.2.2.2.2)) (kCp X.2.2.2.2), ((kRsv (kEn X) T.1 T.2.2.1), T.2.1, (kSc T.2.2.1), T.2.2.2))]) → va_S A s.heap H locs → lv_has ls 3 [(0, .ref (ra 0)), (1, .int X.1.2.2.2.2.1), (2, .int (nI pe))] → W p l e (headSpec wsX5_endNight rm_X5_endNight).room s m args below meth c H locs 0 0 Q (F0 m 58 ls []) := by
        intro n9
        induction n9 using Nat.strongRecOn with
        | _ n9 ih_58 =>
        intro pe hm_58 h58_0 ls H locs hP hD hS hl
        refine lv_iload_n hx hb dX5_endNight_58 rfl (lv_at hl 2 rfl) ?_
        refine lv_bipush (v := nI 16) hx hb dX5_endNight_59 (by decide) ?_
        refine lv_icmp_ge (tgt := 100) hx hb dX5_endNight_61 (by decide) (fun c_61 => ?_) (fun c_61 => ?_)
        · skip
          have c_61 : 16 ≤ pe := (nI_leI (a := 16) (b := pe) (by omega) (by omega)).mp c_61
          obtain rfl : pe = 16 := (by omega)
          refine lv_aload_n hx hb dX5_endNight_100 rfl (lv_at hl 0 rfl) ?_
          refine kc_v (Cs := [mW cy ra (kEq (kNt ((X.1.1, X.1.2.1, X.1.2.2.1, X.1.2.2.2.1, nI 0, X.1.2.2.2.2.2), X.2.1, X.2.2.1, (X.2.2.2.1.1, X.2.2.2.1.2.1, kgot X.1 X.2.2.2.1 X.1.2.2.2.1), X.2.2.2.2) (min 16 X.2.1.2.2.2.2.2) (min (16 - 8) X.2.2.1.2.2.2.2.2)) (kNtT (kTL X.2.2.2.2) (min 16 X.2.1.2.2.2.2.2)) (kNtT (kTF X.2.2.2.2) (min (16 - 8) X.2.2.1.2.2.2.2.2)) (kCp X.2.2.2.2), ((kRsv (kEn X) T.1 T.2.2.1), T.2.1, (kSc T.2.2.1), T.2.2.2))]) (Rs := []) (Bs := [mW cy ra (kEq (kNt ((X.1.1, X.1.2.1, X.1.2.2.1, X.1.2.2.2.1, nI 0, X.1.2.2.2.2.2), X.2.1, X.2.2.1, (X.2.2.2.1.1, X.2.2.2.1.2.1, kgot X.1 X.2.2.2.1 X.1.2.2.2.1), X.2.2.2.2) (min 16 X.2.1.2.2.2.2.2) (min (16 - 8) X.2.2.1.2.2.2.2.2)) (kNtT (kTL X.2.2.2.2) (min 16 X.2.1.2.2.2.2.2)) (kNtT (kTF X.2.2.2.2) (min (16 - 8) X.2.2.1.2.2.2.2.2)) (kCp X.2.2.2.2), ((kRsv (kEn X) T.1 T.2.2.1), T.2.1, (kSc T.2.2.1), T.2.2.2))]) (Cs' := fun u_ : Unit => [mW cy ra (kEq (((kNt ((X.1.1, X.1.2.1, X.1.2.2.1, X.1.2.2.2.1, nI 0, X.1.2.2.2.2.2), X.2.1, X.2.2.1, (X.2.2.2.1.1, X.2.2.2.1.2.1, kgot X.1 X.2.2.2.1 X.1.2.2.2.1), X.2.2.2.2) (min 16 X.2.1.2.2.2.2.2) (min (16 - 8) X.2.2.1.2.2.2.2.2)).1.1, (kNt ((X.1.1, X.1.2.1, X.1.2.2.1, X.1.2.2.2.1, nI 0, X.1.2.2.2.2.2), X.2.1, X.2.2.1, (X.2.2.2.1.1, X.2.2.2.1.2.1, kgot X.1 X.2.2.2.1 X.1.2.2.2.1), X.2.2.2.2) (min 16 X.2.1.2.2.2.2.2) (min (16 - 8) X.2.2.1.2.2.2.2.2)).1.2.1, (kNt ((X.1.1, X.1.2.1, X.1.2.2.1, X.1.2.2.2.1, nI 0, X.1.2.2.2.2.2), X.2.1, X.2.2.1, (X.2.2.2.1.1, X.2.2.2.1.2.1, kgot X.1 X.2.2.2.1 X.1.2.2.2.1), X.2.2.2.2) (min 16 X.2.1.2.2.2.2.2) (min (16 - 8) X.2.2.1.2.2.2.2.2)).1.2.2.1, (kNt ((X.1.1, X.1.2.1, X.1.2.2.1, X.1.2.2.2.1, nI 0, X.1.2.2.2.2.2), X.2.1, X.2.2.1, (X.2.2.2.1.1, X.2.2.2.1.2.1, kgot X.1 X.2.2.2.1 X.1.2.2.2.1), X.2.2.2.2) (min 16 X.2.1.2.2.2.2.2) (min (16 - 8) X.2.2.1.2.2.2.2.2)).1.2.2.2.1, (kNt ((X.1.1, X.1.2.1, X.1.2.2.1, X.1.2.2.2.1, nI 0, X.1.2.2.2.2.2), X.2.1, X.2.2.1, (X.2.2.2.1.1, X.2.2.2.1.2.1, kgot X.1 X.2.2.2.1 X.1.2.2.2.1), X.2.2.2.2) (min 16 X.2.1.2.2.2.2.2) (min (16 - 8) X.2.2.1.2.2.2.2.2)).1.2.2.2.2.1, (kNt ((X.1.1, X.1.2.1, X.1.2.2.1, X.1.2.2.2.1, nI 0, X.1.2.2.2.2.2), X.2.1, X.2.2.1, (X.2.2.2.1.1, X.2.2.2.1.2.1, kgot X.1 X.2.2.2.1 X.1.2.2.2.1), X.2.2.2.2) (min 16 X.2.1.2.2.2.2.2) (min (16 - 8) X.2.2.1.2.2.2.2.2)).1.2.2.2.2.2.1, 0, (kNt ((X.1.1, X.1.2.1, X.1.2.2.1, X.1.2.2.2.1, nI 0, X.1.2.2.2.2.2), X.2.1, X.2.2.1, (X.2.2.2.1.1, X.2.2.2.1.2.1, kgot X.1 X.2.2.2.1 X.1.2.2.2.1), X.2.2.2.2) (min 16 X.2.1.2.2.2.2.2) (min (16 - 8) X.2.2.1.2.2.2.2.2)).1.2.2.2.2.2.2.2), (kNt ((X.1.1, X.1.2.1, X.1.2.2.1, X.1.2.2.2.1, nI 0, X.1.2.2.2.2.2), X.2.1, X.2.2.1, (X.2.2.2.1.1, X.2.2.2.1.2.1, kgot X.1 X.2.2.2.1 X.1.2.2.2.1), X.2.2.2.2) (min 16 X.2.1.2.2.2.2.2) (min (16 - 8) X.2.2.1.2.2.2.2.2)).2.1, (kNt ((X.1.1, X.1.2.1, X.1.2.2.1, X.1.2.2.2.1, nI 0, X.1.2.2.2.2.2), X.2.1, X.2.2.1, (X.2.2.2.1.1, X.2.2.2.1.2.1, kgot X.1 X.2.2.2.1 X.1.2.2.2.1), X.2.2.2.2) (min 16 X.2.1.2.2.2.2.2) (min (16 - 8) X.2.2.1.2.2.2.2.2)).2.2.1, (kNt ((X.1.1, X.1.2.1, X.1.2.2.1, X.1.2.2.2.1, nI 0, X.1.2.2.2.2.2), X.2.1, X.2.2.1, (X.2.2.2.1.1, X.2.2.2.1.2.1, kgot X.1 X.2.2.2.1 X.1.2.2.2.1), X.2.2.2.2) (min 16 X.2.1.2.2.2.2.2) (min (16 - 8) X.2.2.1.2.2.2.2.2)).2.2.2.1, fun _ _ => (-1 : Int32)) (kNtT (kTL X.2.2.2.2) (min 16 X.2.1.2.2.2.2.2)) (kNtT (kTF X.2.2.2.2) (min (16 - 8) X.2.2.1.2.2.2.2.2)) 0, ((kRsv (kEn X) T.1 T.2.2.1), T.2.1, (kSc T.2.2.1), T.2.2.2))]) (Fs := fun u_ : Unit => [mW cy ra (kEq (((kNt ((X.1.1, X.1.2.1, X.1.2.2.1, X.1.2.2.2.1, nI 0, X.1.2.2.2.2.2), X.2.1, X.2.2.1, (X.2.2.2.1.1, X.2.2.2.1.2.1, kgot X.1 X.2.2.2.1 X.1.2.2.2.1), X.2.2.2.2) (min 16 X.2.1.2.2.2.2.2) (min (16 - 8) X.2.2.1.2.2.2.2.2)).1.1, (kNt ((X.1.1, X.1.2.1, X.1.2.2.1, X.1.2.2.2.1, nI 0, X.1.2.2.2.2.2), X.2.1, X.2.2.1, (X.2.2.2.1.1, X.2.2.2.1.2.1, kgot X.1 X.2.2.2.1 X.1.2.2.2.1), X.2.2.2.2) (min 16 X.2.1.2.2.2.2.2) (min (16 - 8) X.2.2.1.2.2.2.2.2)).1.2.1, (kNt ((X.1.1, X.1.2.1, X.1.2.2.1, X.1.2.2.2.1, nI 0, X.1.2.2.2.2.2), X.2.1, X.2.2.1, (X.2.2.2.1.1, X.2.2.2.1.2.1, kgot X.1 X.2.2.2.1 X.1.2.2.2.1), X.2.2.2.2) (min 16 X.2.1.2.2.2.2.2) (min (16 - 8) X.2.2.1.2.2.2.2.2)).1.2.2.1, (kNt ((X.1.1, X.1.2.1, X.1.2.2.1, X.1.2.2.2.1, nI 0, X.1.2.2.2.2.2), X.2.1, X.2.2.1, (X.2.2.2.1.1, X.2.2.2.1.2.1, kgot X.1 X.2.2.2.1 X.1.2.2.2.1), X.2.2.2.2) (min 16 X.2.1.2.2.2.2.2) (min (16 - 8) X.2.2.1.2.2.2.2.2)).1.2.2.2.1, (kNt ((X.1.1, X.1.2.1, X.1.2.2.1, X.1.2.2.2.1, nI 0, X.1.2.2.2.2.2), X.2.1, X.2.2.1, (X.2.2.2.1.1, X.2.2.2.1.2.1, kgot X.1 X.2.2.2.1 X.1.2.2.2.1), X.2.2.2.2) (min 16 X.2.1.2.2.2.2.2) (min (16 - 8) X.2.2.1.2.2.2.2.2)).1.2.2.2.2.1, (kNt ((X.1.1, X.1.2.1, X.1.2.2.1, X.1.2.2.2.1, nI 0, X.1.2.2.2.2.2), X.2.1, X.2.2.1, (X.2.2.2.1.1, X.2.2.2.1.2.1, kgot X.1 X.2.2.2.1 X.1.2.2.2.1), X.2.2.2.2) (min 16 X.2.1.2.2.2.2.2) (min (16 - 8) X.2.2.1.2.2.2.2.2)).1.2.2.2.2.2.1, 0, (kNt ((X.1.1, X.1.2.1, X.1.2.2.1, X.1.2.2.2.1, nI 0, X.1.2.2.2.2.2), X.2.1, X.2.2.1, (X.2.2.2.1.1, X.2.2.2.1.2.1, kgot X.1 X.2.2.2.1 X.1.2.2.2.1), X.2.2.2.2) (min 16 X.2.1.2.2.2.2.2) (min (16 - 8) X.2.2.1.2.2.2.2.2)).1.2.2.2.2.2.2.2), (kNt ((X.1.1, X.1.2.1, X.1.2.2.1, X.1.2.2.2.1, nI 0, X.1.2.2.2.2.2), X.2.1, X.2.2.1, (X.2.2.2.1.1, X.2.2.2.1.2.1, kgot X.1 X.2.2.2.1 X.1.2.2.2.1), X.2.2.2.2) (min 16 X.2.1.2.2.2.2.2) (min (16 - 8) X.2.2.1.2.2.2.2.2)).2.1, (kNt ((X.1.1, X.1.2.1, X.1.2.2.1, X.1.2.2.2.1, nI 0, X.1.2.2.2.2.2), X.2.1, X.2.2.1, (X.2.2.2.1.1, X.2.2.2.1.2.1, kgot X.1 X.2.2.2.1 X.1.2.2.2.1), X.2.2.2.2) (min 16 X.2.1.2.2.2.2.2) (min (16 - 8) X.2.2.1.2.2.2.2.2)).2.2.1, (kNt ((X.1.1, X.1.2.1, X.1.2.2.1, X.1.2.2.2.1, nI 0, X.1.2.2.2.2.2), X.2.1, X.2.2.1, (X.2.2.2.1.1, X.2.2.2.1.2.1, kgot X.1 X.2.2.2.1 X.1.2.2.2.1), X.2.2.2.2) (min 16 X.2.1.2.2.2.2.2) (min (16 - 8) X.2.2.1.2.2.2.2.2)).2.2.2.1, fun _ _ => (-1 : Int32)) (kNtT (kTL X.2.2.2.2) (min 16 X.2.1.2.2.2.2.2)) (kNtT (kTF X.2.2.2.2) (min (16 - 8) X.2.2.1.2.2.2.2.2)) 0, ((kRsv (kEn X) T.1 T.2.2.1), T.2.1, (kSc T.2.2.1), T.2.2.2))]) hP hD hS hA [0] [] [0] rfl rfl (by decide) (by decide) (fun _ => rfl) (va_runV (As := []) (rest := []) ⟨hx, hb, hml, hown, hts⟩ (c_X5_forgets l D cy ra (kNt ((X.1.1, X.1.2.1, X.1.2.2.1, X.1.2.2.2.1, nI 0, X.1.2.2.2.2.2), X.2.1, X.2.2.1, (X.2.2.2.1.1, X.2.2.2.1.2.1, kgot X.1 X.2.2.2.1 X.1.2.2.2.1), X.2.2.2.2) (min 16 X.2.1.2.2.2.2.2) (min (16 - 8) X.2.2.1.2.2.2.2.2)) (kNtT (kTL X.2.2.2.2) (min 16 X.2.1.2.2.2.2.2)) (kNtT (kTF X.2.2.2.2) (min (16 - 8) X.2.2.1.2.2.2.2.2)) (kCp X.2.2.2.2) ((kRsv (kEn X) T.1 T.2.2.1), T.2.1, (kSc T.2.2.1), T.2.2.2) H.size) (cwV 0 hts gX5_endNight_X5_forgets rfl rfl rfl (by decide +kernel) ⟨Nat.le_of_ble_eq_true rfl, Nat.le_of_ble_eq_true rfl⟩) (kPre_V (ci := 5) hK hN hP hD [0] (by decide) rfl 0 rfl rfl) rfl rfl hl.1 rfl (lv_room (Nat.le_of_ble_eq_true rfl)) dX5_endNight_101 ⟨Nat.le_of_ble_eq_true rfl, Nat.le_of_ble_eq_true rfl⟩) (fun u_ H locs hw hP hD hS => ?_)
          refine lv_aload_n hx hb dX5_endNight_104 rfl (lv_at hl 0 rfl) ?_
          refine va_get (D := D) (ci := 5) (v := .ref (ra 1)) (C := RX5) (T := TX5) (N := 16) hx hb hts (by decide +kernel) hown hK hP 0 rfl rfl 0 (by decide) (hts (.fieldLink RX5 7 "DanceHallModel" "all" "[I") (by decide +kernel)) (fun _ h9 => h9) rfl dX5_endNight_105 ?_
          refine lv_iconst (v := nI 4) hx hb dX5_endNight_108 (by decide) ?_
          refine lv_dup2_11 hx hb dX5_endNight_109 rfl rfl ?_
          refine va_iald hx hb hK hP 1 0 rfl rfl (vp_in_nI (n := 4) (N := 188) (by omega) (by omega)) dX5_endNight_110 ?_
          refine kv_i (y := X.1.2.2.2.2.2.1) (show ((kEq (((kNt ((X.1.1, X.1.2.1, X.1.2.2.1, X.1.2.2.2.1, nI 0, X.1.2.2.2.2.2), X.2.1, X.2.2.1, (X.2.2.2.1.1, X.2.2.2.1.2.1, kgot X.1 X.2.2.2.1 X.1.2.2.2.1), X.2.2.2.2) (min 16 X.2.1.2.2.2.2.2) (min (16 - 8) X.2.2.1.2.2.2.2.2)).1.1, (kNt ((X.1.1, X.1.2.1, X.1.2.2.1, X.1.2.2.2.1, nI 0, X.1.2.2.2.2.2), X.2.1, X.2.2.1, (X.2.2.2.1.1, X.2.2.2.1.2.1, kgot X.1 X.2.2.2.1 X.1.2.2.2.1), X.2.2.2.2) (min 16 X.2.1.2.2.2.2.2) (min (16 - 8) X.2.2.1.2.2.2.2.2)).1.2.1, (kNt ((X.1.1, X.1.2.1, X.1.2.2.1, X.1.2.2.2.1, nI 0, X.1.2.2.2.2.2), X.2.1, X.2.2.1, (X.2.2.2.1.1, X.2.2.2.1.2.1, kgot X.1 X.2.2.2.1 X.1.2.2.2.1), X.2.2.2.2) (min 16 X.2.1.2.2.2.2.2) (min (16 - 8) X.2.2.1.2.2.2.2.2)).1.2.2.1, (kNt ((X.1.1, X.1.2.1, X.1.2.2.1, X.1.2.2.2.1, nI 0, X.1.2.2.2.2.2), X.2.1, X.2.2.1, (X.2.2.2.1.1, X.2.2.2.1.2.1, kgot X.1 X.2.2.2.1 X.1.2.2.2.1), X.2.2.2.2) (min 16 X.2.1.2.2.2.2.2) (min (16 - 8) X.2.2.1.2.2.2.2.2)).1.2.2.2.1, (kNt ((X.1.1, X.1.2.1, X.1.2.2.1, X.1.2.2.2.1, nI 0, X.1.2.2.2.2.2), X.2.1, X.2.2.1, (X.2.2.2.1.1, X.2.2.2.1.2.1, kgot X.1 X.2.2.2.1 X.1.2.2.2.1), X.2.2.2.2) (min 16 X.2.1.2.2.2.2.2) (min (16 - 8) X.2.2.1.2.2.2.2.2)).1.2.2.2.2.1, (kNt ((X.1.1, X.1.2.1, X.1.2.2.1, X.1.2.2.2.1, nI 0, X.1.2.2.2.2.2), X.2.1, X.2.2.1, (X.2.2.2.1.1, X.2.2.2.1.2.1, kgot X.1 X.2.2.2.1 X.1.2.2.2.1), X.2.2.2.2) (min 16 X.2.1.2.2.2.2.2) (min (16 - 8) X.2.2.1.2.2.2.2.2)).1.2.2.2.2.2.1, 0, (kNt ((X.1.1, X.1.2.1, X.1.2.2.1, X.1.2.2.2.1, nI 0, X.1.2.2.2.2.2), X.2.1, X.2.2.1, (X.2.2.2.1.1, X.2.2.2.1.2.1, kgot X.1 X.2.2.2.1 X.1.2.2.2.1), X.2.2.2.2) (min 16 X.2.1.2.2.2.2.2) (min (16 - 8) X.2.2.1.2.2.2.2.2)).1.2.2.2.2.2.2.2), (kNt ((X.1.1, X.1.2.1, X.1.2.2.1, X.1.2.2.2.1, nI 0, X.1.2.2.2.2.2), X.2.1, X.2.2.1, (X.2.2.2.1.1, X.2.2.2.1.2.1, kgot X.1 X.2.2.2.1 X.1.2.2.2.1), X.2.2.2.2) (min 16 X.2.1.2.2.2.2.2) (min (16 - 8) X.2.2.1.2.2.2.2.2)).2.1, (kNt ((X.1.1, X.1.2.1, X.1.2.2.1, X.1.2.2.2.1, nI 0, X.1.2.2.2.2.2), X.2.1, X.2.2.1, (X.2.2.2.1.1, X.2.2.2.1.2.1, kgot X.1 X.2.2.2.1 X.1.2.2.2.1), X.2.2.2.2) (min 16 X.2.1.2.2.2.2.2) (min (16 - 8) X.2.2.1.2.2.2.2.2)).2.2.1, (kNt ((X.1.1, X.1.2.1, X.1.2.2.1, X.1.2.2.2.1, nI 0, X.1.2.2.2.2.2), X.2.1, X.2.2.1, (X.2.2.2.1.1, X.2.2.2.1.2.1, kgot X.1 X.2.2.2.1 X.1.2.2.2.1), X.2.2.2.2) (min 16 X.2.1.2.2.2.2.2) (min (16 - 8) X.2.2.1.2.2.2.2.2)).2.2.2.1, fun _ _ => (-1 : Int32)) (kNtT (kTL X.2.2.2.2) (min 16 X.2.1.2.2.2.2.2)) (kNtT (kTF X.2.2.2.2) (min (16 - 8) X.2.2.1.2.2.2.2.2)) 0)) (nI 4).toNatClampNeg = X.1.2.2.2.2.2.1 from rfl) ?_
          refine lv_iconst (v := nI 1) hx hb dX5_endNight_111 (by decide) ?_
          refine lv_iadd hx hb dX5_endNight_112 ?_
          refine va_iast hx hb hK hP hD hS 1 0 rfl rfl (vp_in_nI (n := 4) (N := 188) (by omega) (by omega)) dX5_endNight_113 (fun H locs hP hD hS => ?_)
          have hP : va_P D vwCl (bkF [mW cy ra (upd (kEq (((kNt ((X.1.1, X.1.2.1, X.1.2.2.1, X.1.2.2.2.1, nI 0, X.1.2.2.2.2.2), X.2.1, X.2.2.1, (X.2.2.2.1.1, X.2.2.2.1.2.1, kgot X.1 X.2.2.2.1 X.1.2.2.2.1), X.2.2.2.2) (min 16 X.2.1.2.2.2.2.2) (min (16 - 8) X.2.2.1.2.2.2.2.2)).1.1, (kNt ((X.1.1, X.1.2.1, X.1.2.2.1, X.1.2.2.2.1, nI 0, X.1.2.2.2.2.2), X.2.1, X.2.2.1, (X.2.2.2.1.1, X.2.2.2.1.2.1, kgot X.1 X.2.2.2.1 X.1.2.2.2.1), X.2.2.2.2) (min 16 X.2.1.2.2.2.2.2) (min (16 - 8) X.2.2.1.2.2.2.2.2)).1.2.1, (kNt ((X.1.1, X.1.2.1, X.1.2.2.1, X.1.2.2.2.1, nI 0, X.1.2.2.2.2.2), X.2.1, X.2.2.1, (X.2.2.2.1.1, X.2.2.2.1.2.1, kgot X.1 X.2.2.2.1 X.1.2.2.2.1), X.2.2.2.2) (min 16 X.2.1.2.2.2.2.2) (min (16 - 8) X.2.2.1.2.2.2.2.2)).1.2.2.1, (kNt ((X.1.1, X.1.2.1, X.1.2.2.1, X.1.2.2.2.1, nI 0, X.1.2.2.2.2.2), X.2.1, X.2.2.1, (X.2.2.2.1.1, X.2.2.2.1.2.1, kgot X.1 X.2.2.2.1 X.1.2.2.2.1), X.2.2.2.2) (min 16 X.2.1.2.2.2.2.2) (min (16 - 8) X.2.2.1.2.2.2.2.2)).1.2.2.2.1, (kNt ((X.1.1, X.1.2.1, X.1.2.2.1, X.1.2.2.2.1, nI 0, X.1.2.2.2.2.2), X.2.1, X.2.2.1, (X.2.2.2.1.1, X.2.2.2.1.2.1, kgot X.1 X.2.2.2.1 X.1.2.2.2.1), X.2.2.2.2) (min 16 X.2.1.2.2.2.2.2) (min (16 - 8) X.2.2.1.2.2.2.2.2)).1.2.2.2.2.1, (kNt ((X.1.1, X.1.2.1, X.1.2.2.1, X.1.2.2.2.1, nI 0, X.1.2.2.2.2.2), X.2.1, X.2.2.1, (X.2.2.2.1.1, X.2.2.2.1.2.1, kgot X.1 X.2.2.2.1 X.1.2.2.2.1), X.2.2.2.2) (min 16 X.2.1.2.2.2.2.2) (min (16 - 8) X.2.2.1.2.2.2.2.2)).1.2.2.2.2.2.1, 0, (kNt ((X.1.1, X.1.2.1, X.1.2.2.1, X.1.2.2.2.1, nI 0, X.1.2.2.2.2.2), X.2.1, X.2.2.1, (X.2.2.2.1.1, X.2.2.2.1.2.1, kgot X.1 X.2.2.2.1 X.1.2.2.2.1), X.2.2.2.2) (min 16 X.2.1.2.2.2.2.2) (min (16 - 8) X.2.2.1.2.2.2.2.2)).1.2.2.2.2.2.2.2), (kNt ((X.1.1, X.1.2.1, X.1.2.2.1, X.1.2.2.2.1, nI 0, X.1.2.2.2.2.2), X.2.1, X.2.2.1, (X.2.2.2.1.1, X.2.2.2.1.2.1, kgot X.1 X.2.2.2.1 X.1.2.2.2.1), X.2.2.2.2) (min 16 X.2.1.2.2.2.2.2) (min (16 - 8) X.2.2.1.2.2.2.2.2)).2.1, (kNt ((X.1.1, X.1.2.1, X.1.2.2.1, X.1.2.2.2.1, nI 0, X.1.2.2.2.2.2), X.2.1, X.2.2.1, (X.2.2.2.1.1, X.2.2.2.1.2.1, kgot X.1 X.2.2.2.1 X.1.2.2.2.1), X.2.2.2.2) (min 16 X.2.1.2.2.2.2.2) (min (16 - 8) X.2.2.1.2.2.2.2.2)).2.2.1, (kNt ((X.1.1, X.1.2.1, X.1.2.2.1, X.1.2.2.2.1, nI 0, X.1.2.2.2.2.2), X.2.1, X.2.2.1, (X.2.2.2.1.1, X.2.2.2.1.2.1, kgot X.1 X.2.2.2.1 X.1.2.2.2.1), X.2.2.2.2) (min 16 X.2.1.2.2.2.2.2) (min (16 - 8) X.2.2.1.2.2.2.2.2)).2.2.2.1, fun _ _ => (-1 : Int32)) (kNtT (kTL X.2.2.2.2) (min 16 X.2.1.2.2.2.2.2)) (kNtT (kTF X.2.2.2.2) (min (16 - 8) X.2.2.1.2.2.2.2.2)) 0) 4 (X.1.2.2.2.2.2.1 + (nI 1)), ((kRsv (kEn X) T.1 T.2.2.1), T.2.1, (kSc T.2.2.1), T.2.2.2))]) H := hP
          have hD : va_D A (bkF [mW cy ra (upd (kEq (((kNt ((X.1.1, X.1.2.1, X.1.2.2.1, X.1.2.2.2.1, nI 0, X.1.2.2.2.2.2), X.2.1, X.2.2.1, (X.2.2.2.1.1, X.2.2.2.1.2.1, kgot X.1 X.2.2.2.1 X.1.2.2.2.1), X.2.2.2.2) (min 16 X.2.1.2.2.2.2.2) (min (16 - 8) X.2.2.1.2.2.2.2.2)).1.1, (kNt ((X.1.1, X.1.2.1, X.1.2.2.1, X.1.2.2.2.1, nI 0, X.1.2.2.2.2.2), X.2.1, X.2.2.1, (X.2.2.2.1.1, X.2.2.2.1.2.1, kgot X.1 X.2.2.2.1 X.1.2.2.2.1), X.2.2.2.2) (min 16 X.2.1.2.2.2.2.2) (min (16 - 8) X.2.2.1.2.2.2.2.2)).1.2.1, (kNt ((X.1.1, X.1.2.1, X.1.2.2.1, X.1.2.2.2.1, nI 0, X.1.2.2.2.2.2), X.2.1, X.2.2.1, (X.2.2.2.1.1, X.2.2.2.1.2.1, kgot X.1 X.2.2.2.1 X.1.2.2.2.1), X.2.2.2.2) (min 16 X.2.1.2.2.2.2.2) (min (16 - 8) X.2.2.1.2.2.2.2.2)).1.2.2.1, (kNt ((X.1.1, X.1.2.1, X.1.2.2.1, X.1.2.2.2.1, nI 0, X.1.2.2.2.2.2), X.2.1, X.2.2.1, (X.2.2.2.1.1, X.2.2.2.1.2.1, kgot X.1 X.2.2.2.1 X.1.2.2.2.1), X.2.2.2.2) (min 16 X.2.1.2.2.2.2.2) (min (16 - 8) X.2.2.1.2.2.2.2.2)).1.2.2.2.1, (kNt ((X.1.1, X.1.2.1, X.1.2.2.1, X.1.2.2.2.1, nI 0, X.1.2.2.2.2.2), X.2.1, X.2.2.1, (X.2.2.2.1.1, X.2.2.2.1.2.1, kgot X.1 X.2.2.2.1 X.1.2.2.2.1), X.2.2.2.2) (min 16 X.2.1.2.2.2.2.2) (min (16 - 8) X.2.2.1.2.2.2.2.2)).1.2.2.2.2.1, (kNt ((X.1.1, X.1.2.1, X.1.2.2.1, X.1.2.2.2.1, nI 0, X.1.2.2.2.2.2), X.2.1, X.2.2.1, (X.2.2.2.1.1, X.2.2.2.1.2.1, kgot X.1 X.2.2.2.1 X.1.2.2.2.1), X.2.2.2.2) (min 16 X.2.1.2.2.2.2.2) (min (16 - 8) X.2.2.1.2.2.2.2.2)).1.2.2.2.2.2.1, 0, (kNt ((X.1.1, X.1.2.1, X.1.2.2.1, X.1.2.2.2.1, nI 0, X.1.2.2.2.2.2), X.2.1, X.2.2.1, (X.2.2.2.1.1, X.2.2.2.1.2.1, kgot X.1 X.2.2.2.1 X.1.2.2.2.1), X.2.2.2.2) (min 16 X.2.1.2.2.2.2.2) (min (16 - 8) X.2.2.1.2.2.2.2.2)).1.2.2.2.2.2.2.2), (kNt ((X.1.1, X.1.2.1, X.1.2.2.1, X.1.2.2.2.1, nI 0, X.1.2.2.2.2.2), X.2.1, X.2.2.1, (X.2.2.2.1.1, X.2.2.2.1.2.1, kgot X.1 X.2.2.2.1 X.1.2.2.2.1), X.2.2.2.2) (min 16 X.2.1.2.2.2.2.2) (min (16 - 8) X.2.2.1.2.2.2.2.2)).2.1, (kNt ((X.1.1, X.1.2.1, X.1.2.2.1, X.1.2.2.2.1, nI 0, X.1.2.2.2.2.2), X.2.1, X.2.2.1, (X.2.2.2.1.1, X.2.2.2.1.2.1, kgot X.1 X.2.2.2.1 X.1.2.2.2.1), X.2.2.2.2) (min 16 X.2.1.2.2.2.2.2) (min (16 - 8) X.2.2.1.2.2.2.2.2)).2.2.1, (kNt ((X.1.1, X.1.2.1, X.1.2.2.1, X.1.2.2.2.1, nI 0, X.1.2.2.2.2.2), X.2.1, X.2.2.1, (X.2.2.2.1.1, X.2.2.2.1.2.1, kgot X.1 X.2.2.2.1 X.1.2.2.2.1), X.2.2.2.2) (min 16 X.2.1.2.2.2.2.2) (min (16 - 8) X.2.2.1.2.2.2.2.2)).2.2.2.1, fun _ _ => (-1 : Int32)) (kNtT (kTL X.2.2.2.2) (min 16 X.2.1.2.2.2.2.2)) (kNtT (kTF X.2.2.2.2) (min (16 - 8) X.2.2.1.2.2.2.2.2)) 0) 4 (X.1.2.2.2.2.2.1 + (nI 1)), ((kRsv (kEn X) T.1 T.2.2.1), T.2.1, (kSc T.2.2.1), T.2.2.2))]) := hD
          have hP := kP_cell (g := (kEn ((X.1.1, X.1.2.1, X.1.2.2.1, X.1.2.2.2.1, nI 0, X.1.2.2.2.2.2.1 + nI 1, 0, X.1.2.2.2.2.2.2.2), kNtG X.2.1 X.2.1.2.2.2.2.2, kNtG X.2.2.1 X.2.2.1.2.2.2.2.2, (X.2.2.2.1.1, X.2.2.2.1.2.1, kgot X.1 X.2.2.2.1 X.1.2.2.2.1), fun _ _ => (-1 : Int32)))) hP 1 rfl (fun j hj => ((kqu_C (C' := (X.1.1, X.1.2.1, X.1.2.2.1, X.1.2.2.2.1, nI 0, X.1.2.2.2.2.2.1 + nI 1, 0, X.1.2.2.2.2.2.2.2)) (i := 4) (by decide) rfl (fun j9 hj9 hne => by rcases k11 hj9 with rfl | rfl | rfl | rfl | rfl | rfl | rfl | rfl | rfl | rfl | rfl <;> first | rfl | exact absurd rfl hne)) j hj).trans (kNt_end (X := ((X.1.1, X.1.2.1, X.1.2.2.1, X.1.2.2.2.1, nI 0, X.1.2.2.2.2.2), X.2.1, X.2.2.1, (X.2.2.2.1.1, X.2.2.2.1.2.1, kgot X.1 X.2.2.2.1 X.1.2.2.2.1), X.2.2.2.2)) (show min 16 X.2.1.2.2.2.2.2 = X.2.1.2.2.2.2.2 from by omega) (show min (16 - 8) X.2.2.1.2.2.2.2.2 = X.2.2.1.2.2.2.2.2 from by omega) j))
          have hD := hD.set (p := 1) (e := .inl (cy 0, 188, .inl (kEn ((X.1.1, X.1.2.1, X.1.2.2.1, X.1.2.2.2.1, nI 0, X.1.2.2.2.2.2.1 + nI 1, 0, X.1.2.2.2.2.2.2.2), kNtG X.2.1 X.2.1.2.2.2.2.2, kNtG X.2.2.1 X.2.2.1.2.2.2.2.2, (X.2.2.2.1.1, X.2.2.2.1.2.1, kgot X.1 X.2.2.2.1 X.1.2.2.2.1), fun _ _ => (-1 : Int32))))) rfl
          have hP : va_P D vwCl (bkF [mW cy ra (kEn ((X.1.1, X.1.2.1, X.1.2.2.1, X.1.2.2.2.1, nI 0, X.1.2.2.2.2.2.1 + nI 1, 0, X.1.2.2.2.2.2.2.2), kNtG X.2.1 X.2.1.2.2.2.2.2, kNtG X.2.2.1 X.2.2.1.2.2.2.2.2, (X.2.2.2.1.1, X.2.2.2.1.2.1, kgot X.1 X.2.2.2.1 X.1.2.2.2.1), fun _ _ => (-1 : Int32)), ((kRsv (kEn X) T.1 T.2.2.1), T.2.1, (kSc T.2.2.1), T.2.2.2))]) H := hP
          have hD : va_D A (bkF [mW cy ra (kEn ((X.1.1, X.1.2.1, X.1.2.2.1, X.1.2.2.2.1, nI 0, X.1.2.2.2.2.2.1 + nI 1, 0, X.1.2.2.2.2.2.2.2), kNtG X.2.1 X.2.1.2.2.2.2.2, kNtG X.2.2.1 X.2.2.1.2.2.2.2.2, (X.2.2.2.1.1, X.2.2.2.1.2.1, kgot X.1 X.2.2.2.1 X.1.2.2.2.1), fun _ _ => (-1 : Int32)), ((kRsv (kEn X) T.1 T.2.2.1), T.2.1, (kSc T.2.2.1), T.2.2.2))]) := hD
          refine lv_aload_n hx hb dX5_endNight_114 rfl (lv_at hl 0 rfl) ?_
          refine lv_iload_n hx hb dX5_endNight_115 rfl (lv_at hl 1 rfl) ?_
          refine kc_i (Cs := [mW cy ra (kEn ((X.1.1, X.1.2.1, X.1.2.2.1, X.1.2.2.2.1, nI 0, X.1.2.2.2.2.2.1 + nI 1, 0, X.1.2.2.2.2.2.2.2), kNtG X.2.1 X.2.1.2.2.2.2.2, kNtG X.2.2.1 X.2.2.1.2.2.2.2.2, (X.2.2.2.1.1, X.2.2.2.1.2.1, kgot X.1 X.2.2.2.1 X.1.2.2.2.1), fun _ _ => (-1 : Int32)), ((kRsv (kEn X) T.1 T.2.2.1), T.2.1, (kSc T.2.2.1), T.2.2.2))]) (Rs := []) (Bs := [mW cy ra (kEn ((X.1.1, X.1.2.1, X.1.2.2.1, X.1.2.2.2.1, nI 0, X.1.2.2.2.2.2.1 + nI 1, 0, X.1.2.2.2.2.2.2.2), kNtG X.2.1 X.2.1.2.2.2.2.2, kNtG X.2.2.1 X.2.2.1.2.2.2.2.2, (X.2.2.2.1.1, X.2.2.2.1.2.1, kgot X.1 X.2.2.2.1 X.1.2.2.2.1), fun _ _ => (-1 : Int32)), ((kRsv (kEn X) T.1 T.2.2.1), T.2.1, (kSc T.2.2.1), T.2.2.2))]) (Cs' := fun u_ : Unit => [mW cy ra ((kEn ((X.1.1, X.1.2.1, X.1.2.2.1, X.1.2.2.2.1, nI 0, X.1.2.2.2.2.2.1 + nI 1, 0, X.1.2.2.2.2.2.2.2), kNtG X.2.1 X.2.1.2.2.2.2.2, kNtG X.2.2.1 X.2.2.1.2.2.2.2.2, (X.2.2.2.1.1, X.2.2.2.1.2.1, kgot X.1 X.2.2.2.1 X.1.2.2.2.1), fun _ _ => (-1 : Int32))), ((kRsv (kEn X) T.1 T.2.2.1), T.2.1, (kSc T.2.2.1), nI 0, T.2.2.2.2))]) (Fs := fun u_ : Unit => [mW cy ra ((kEn ((X.1.1, X.1.2.1, X.1.2.2.1, X.1.2.2.2.1, nI 0, X.1.2.2.2.2.2.1 + nI 1, 0, X.1.2.2.2.2.2.2.2), kNtG X.2.1 X.2.1.2.2.2.2.2, kNtG X.2.2.1 X.2.2.1.2.2.2.2.2, (X.2.2.2.1.1, X.2.2.2.1.2.1, kgot X.1 X.2.2.2.1 X.1.2.2.2.1), fun _ _ => (-1 : Int32))), ((kRsv (kEn X) T.1 T.2.2.1), T.2.1, (kSc T.2.2.1), nI 0, T.2.2.2.2))]) hP hD hS hA [0] [] [0] rfl rfl (by decide) (by decide) (fun _ => rfl) (va_runV (As := [.int X.1.2.2.2.2.1]) (rest := []) ⟨hx, hb, hml, hown, hts⟩ (c_X5_fine l D cy ra (kEn ((X.1.1, X.1.2.1, X.1.2.2.1, X.1.2.2.2.1, nI 0, X.1.2.2.2.2.2.1 + nI 1, 0, X.1.2.2.2.2.2.2.2), kNtG X.2.1 X.2.1.2.2.2.2.2, kNtG X.2.2.1 X.2.2.1.2.2.2.2.2, (X.2.2.2.1.1, X.2.2.2.1.2.1, kgot X.1 X.2.2.2.1 X.1.2.2.2.1), fun _ _ => (-1 : Int32))) ((kRsv (kEn X) T.1 T.2.2.1), T.2.1, (kSc T.2.2.1), T.2.2.2) X.1.2.2.2.2.1 H.size) (cwV 1 hts gX5_endNight_X5_fine rfl rfl rfl (by decide +kernel) ⟨Nat.le_of_ble_eq_true rfl, Nat.le_of_ble_eq_true rfl⟩) (kPre_V (ci := 5) hK hN hP hD [0] (by decide) rfl 0 rfl rfl) rfl rfl hl.1 rfl (lv_room (Nat.le_of_ble_eq_true rfl)) dX5_endNight_116 ⟨Nat.le_of_ble_eq_true rfl, Nat.le_of_ble_eq_true rfl⟩) (fun r_ u_ H locs hw hP hD hS => ?_)
          have hw : r_ = X.1.2.2.2.2.1 := hw
          subst hw
          exact kr_i (post := fun r_ (u_ : Unit) => r_ = X.1.2.2.2.2.1) (Bs := fun u_ : Unit => [mW cy ra (kEn ((X.1.1, X.1.2.1, X.1.2.2.1, X.1.2.2.2.1, nI 0, X.1.2.2.2.2.2.1 + nI 1, 0, X.1.2.2.2.2.2.2.2), kNtG X.2.1 X.2.1.2.2.2.2.2, kNtG X.2.2.1 X.2.2.1.2.2.2.2.2, (X.2.2.2.1.1, X.2.2.2.1.2.1, kgot X.1 X.2.2.2.1 X.1.2.2.2.1), fun _ _ => (-1 : Int32)), (kRsv (kEn X) T.1 T.2.2.1, T.2.1, kSc T.2.2.1, nI 0, T.2.2.2.2))]) hx hb hr hlocks rfl () hP hK hD hS rfl dX5_endNight_119 hQ
        · skip
          have c_61 : ¬ (16 ≤ pe) := fun h => c_61 ((nI_leI (a := 16) (b := pe) (by omega) (by omega)).mpr h)
          rcases Nat.lt_or_ge pe 8 with hp8 | hp8
          · skip
            refine lv_aload_n hx hb dX5_endNight_64 rfl (lv_at hl 0 rfl) ?_
            refine lv_iload_n hx hb dX5_endNight_65 rfl (lv_at hl 2 rfl) ?_
            refine kc_i (Cs := [mW cy ra (kEq (kNt ((X.1.1, X.1.2.1, X.1.2.2.1, X.1.2.2.2.1, nI 0, X.1.2.2.2.2.2), X.2.1, X.2.2.1, (X.2.2.2.1.1, X.2.2.2.1.2.1, kgot X.1 X.2.2.2.1 X.1.2.2.2.1), X.2.2.2.2) (min pe X.2.1.2.2.2.2.2) (min (pe - 8) X.2.2.1.2.2.2.2.2)) (kNtT (kTL X.2.2.2.2) (min pe X.2.1.2.2.2.2.2)) (kNtT (kTF X.2.2.2.2) (min (pe - 8) X.2.2.1.2.2.2.2.2)) (kCp X.2.2.2.2), ((kRsv (kEn X) T.1 T.2.2.1), T.2.1, (kSc T.2.2.1), T.2.2.2))]) (Rs := []) (Bs := [mW cy ra (kEq (kNt ((X.1.1, X.1.2.1, X.1.2.2.1, X.1.2.2.2.1, nI 0, X.1.2.2.2.2.2), X.2.1, X.2.2.1, (X.2.2.2.1.1, X.2.2.2.1.2.1, kgot X.1 X.2.2.2.1 X.1.2.2.2.1), X.2.2.2.2) (min pe X.2.1.2.2.2.2.2) (min (pe - 8) X.2.2.1.2.2.2.2.2)) (kNtT (kTL X.2.2.2.2) (min pe X.2.1.2.2.2.2.2)) (kNtT (kTF X.2.2.2.2) (min (pe - 8) X.2.2.1.2.2.2.2.2)) (kCp X.2.2.2.2), ((kRsv (kEn X) T.1 T.2.2.1), T.2.1, (kSc T.2.2.1), T.2.2.2))]) (Cs' := fun u_ : Unit => [mW cy ra (kEq (kNt ((X.1.1, X.1.2.1, X.1.2.2.1, X.1.2.2.2.1, nI 0, X.1.2.2.2.2.2), X.2.1, X.2.2.1, (X.2.2.2.1.1, X.2.2.2.1.2.1, kgot X.1 X.2.2.2.1 X.1.2.2.2.1), X.2.2.2.2) (min pe X.2.1.2.2.2.2.2) (min (pe - 8) X.2.2.1.2.2.2.2.2)) (kNtT (kTL X.2.2.2.2) (min pe X.2.1.2.2.2.2.2)) (kNtT (kTF X.2.2.2.2) (min (pe - 8) X.2.2.1.2.2.2.2.2)) (kCp X.2.2.2.2), ((kRsv (kEn X) T.1 T.2.2.1), T.2.1, (kSc T.2.2.1), T.2.2.2))]) (Fs := fun u_ : Unit => [mW cy ra (kEq (kNt ((X.1.1, X.1.2.1, X.1.2.2.1, X.1.2.2.2.1, nI 0, X.1.2.2.2.2.2), X.2.1, X.2.2.1, (X.2.2.2.1.1, X.2.2.2.1.2.1, kgot X.1 X.2.2.2.1 X.1.2.2.2.1), X.2.2.2.2) (min pe X.2.1.2.2.2.2.2) (min (pe - 8) X.2.2.1.2.2.2.2.2)) (kNtT (kTL X.2.2.2.2) (min pe X.2.1.2.2.2.2.2)) (kNtT (kTF X.2.2.2.2) (min (pe - 8) X.2.2.1.2.2.2.2.2)) (kCp X.2.2.2.2), ((kRsv (kEn X) T.1 T.2.2.1), T.2.1, (kSc T.2.2.1), T.2.2.2))]) hP hD hS hA [0] [] [0] rfl rfl (by decide) (by decide) (fun _ => rfl) (va_runV (As := [.int (nI pe)]) (rest := []) ⟨hx, hb, hml, hown, hts⟩ (c_X5_isThere_qt l D cy ra (kNt ((X.1.1, X.1.2.1, X.1.2.2.1, X.1.2.2.2.1, nI 0, X.1.2.2.2.2.2), X.2.1, X.2.2.1, (X.2.2.2.1.1, X.2.2.2.1.2.1, kgot X.1 X.2.2.2.1 X.1.2.2.2.1), X.2.2.2.2) (min pe X.2.1.2.2.2.2.2) (min (pe - 8) X.2.2.1.2.2.2.2.2)) (kNtT (kTL X.2.2.2.2) (min pe X.2.1.2.2.2.2.2)) (kNtT (kTF X.2.2.2.2) (min (pe - 8) X.2.2.1.2.2.2.2.2)) (kCp X.2.2.2.2) ((kRsv (kEn X) T.1 T.2.2.1), T.2.1, (kSc T.2.2.1), T.2.2.2) pe (by omega) (by first | exact hnl | exact hnf) H.size) (cwV 1 hts gX5_endNight_X5_isThere rfl rfl rfl (by decide +kernel) ⟨Nat.le_of_ble_eq_true rfl, Nat.le_of_ble_eq_true rfl⟩) (kPre_V (ci := 5) hK hN hP hD [0] (by decide) rfl 0 rfl rfl) rfl rfl hl.1 rfl (lv_room (Nat.le_of_ble_eq_true rfl)) dX5_endNight_66 ⟨Nat.le_of_ble_eq_true rfl, Nat.le_of_ble_eq_true rfl⟩) (fun r_ u_ H locs hw hP hD hS => ?_)
            have hw : r_ = if pe < (kNt ((X.1.1, X.1.2.1, X.1.2.2.1, X.1.2.2.2.1, nI 0, X.1.2.2.2.2.2), X.2.1, X.2.2.1, (X.2.2.2.1.1, X.2.2.2.1.2.1, kgot X.1 X.2.2.2.1 X.1.2.2.2.1), X.2.2.2.2) (min pe X.2.1.2.2.2.2.2) (min (pe - 8) X.2.2.1.2.2.2.2.2)).2.1.2.2.2.2.2 then nI 1 else nI 0 := hw
            subst hw
            by_cases b_66 : pe < X.2.1.2.2.2.2.2
            · refine kv_i (y := nI 1) (if_pos b_66) ?_
              refine lv_if_eq (tgt := 94) hx hb dX5_endNight_69 (by decide) (fun h => absurd h (by decide)) (fun _ => ?_)
              rw [show min pe X.2.1.2.2.2.2.2 = pe from by omega] at hP hD
              refine lv_aload_n hx hb dX5_endNight_72 rfl (lv_at hl 0 rfl) ?_
              refine va_get (D := D) (ci := 5) (v := .ref (ra 1)) (C := RX5) (T := TX5) (N := 16) hx hb hts (by decide +kernel) hown hK hP 0 rfl rfl 0 (by decide) (hts (.fieldLink RX5 7 "DanceHallModel" "all" "[I") (by decide +kernel)) (fun _ h9 => h9) rfl dX5_endNight_73 ?_
              refine lv_iload_n hx hb dX5_endNight_76 rfl (lv_at hl 2 rfl) ?_
              refine lv_iconst (v := nI 3) hx hb dX5_endNight_77 (by decide) ?_
              refine kc_i (Cs := []) (Rs := [mW cy ra (kEq (kNt ((X.1.1, X.1.2.1, X.1.2.2.1, X.1.2.2.2.1, nI 0, X.1.2.2.2.2.2), X.2.1, X.2.2.1, (X.2.2.2.1.1, X.2.2.2.1.2.1, kgot X.1 X.2.2.2.1 X.1.2.2.2.1), X.2.2.2.2) pe (min (pe - 8) X.2.2.1.2.2.2.2.2)) (kNtT (kTL X.2.2.2.2) pe) (kNtT (kTF X.2.2.2.2) (min (pe - 8) X.2.2.1.2.2.2.2.2)) (kCp X.2.2.2.2), ((kRsv (kEn X) T.1 T.2.2.1), T.2.1, (kSc T.2.2.1), T.2.2.2))]) (Bs := [mW cy ra (kEq (kNt ((X.1.1, X.1.2.1, X.1.2.2.1, X.1.2.2.2.1, nI 0, X.1.2.2.2.2.2), X.2.1, X.2.2.1, (X.2.2.2.1.1, X.2.2.2.1.2.1, kgot X.1 X.2.2.2.1 X.1.2.2.2.1), X.2.2.2.2) pe (min (pe - 8) X.2.2.1.2.2.2.2.2)) (kNtT (kTL X.2.2.2.2) pe) (kNtT (kTF X.2.2.2.2) (min (pe - 8) X.2.2.1.2.2.2.2.2)) (kCp X.2.2.2.2), ((kRsv (kEn X) T.1 T.2.2.1), T.2.1, (kSc T.2.2.1), T.2.2.2))]) (Cs' := fun u_ : Unit => []) (Fs := fun u_ : Unit => [mW cy ra (kEq (kNt ((X.1.1, X.1.2.1, X.1.2.2.1, X.1.2.2.2.1, nI 0, X.1.2.2.2.2.2), X.2.1, X.2.2.1, (X.2.2.2.1.1, X.2.2.2.1.2.1, kgot X.1 X.2.2.2.1 X.1.2.2.2.1), X.2.2.2.2) pe (min (pe - 8) X.2.2.1.2.2.2.2.2)) (kNtT (kTL X.2.2.2.2) pe) (kNtT (kTF X.2.2.2.2) (min (pe - 8) X.2.2.1.2.2.2.2.2)) (kCp X.2.2.2.2), ((kRsv (kEn X) T.1 T.2.2.1), T.2.1, (kSc T.2.2.1), T.2.2.2))]) hP hD hS hA [] [0] [0] rfl rfl (by decide) (by decide) (fun _ => rfl) (va_runS (As := [.int (nI pe), .int (nI 3)]) (rest := [.ref (ra 1)]) ⟨hx, hb, hml, hown, hts⟩ (c_X5_at l D cy pe 3 H.size) (va_cwS 2 hts gX5_endNight_X5_at rfl rfl rfl (by decide +kernel) ⟨Nat.le_of_ble_eq_true rfl, Nat.le_of_ble_eq_true rfl⟩) (kPre_S hK hN hP hD [] (by decide) rfl) rfl rfl hl.1 rfl (lv_room (Nat.le_of_ble_eq_true rfl)) dX5_endNight_78 ⟨Nat.le_of_ble_eq_true rfl, Nat.le_of_ble_eq_true rfl⟩) (fun r_ u_ H locs hw hP hD hS => ?_)
              have hw : r_ = nI (92 + 6 * pe + 3) := hw
              subst hw
              refine lv_iconst (v := nI 1) hx hb dX5_endNight_81 (by decide) ?_
              refine va_iast hx hb hK hP hD hS 1 0 rfl rfl (vp_in_nI (n := 92 + 6 * pe + 3) (N := 188) (by omega) (by omega)) dX5_endNight_82 (fun H locs hP hD hS => ?_)
              rw [nI_clamp (n := 92 + 6 * pe + 3) (by omega)] at hP hD
              have hP : va_P D vwCl (bkF [mW cy ra (upd (kEq (kNt ((X.1.1, X.1.2.1, X.1.2.2.1, X.1.2.2.2.1, nI 0, X.1.2.2.2.2.2), X.2.1, X.2.2.1, (X.2.2.2.1.1, X.2.2.2.1.2.1, kgot X.1 X.2.2.2.1 X.1.2.2.2.1), X.2.2.2.2) pe (min (pe - 8) X.2.2.1.2.2.2.2.2)) (kNtT (kTL X.2.2.2.2) pe) (kNtT (kTF X.2.2.2.2) (min (pe - 8) X.2.2.1.2.2.2.2.2)) (kCp X.2.2.2.2)) (92 + 6 * pe + 3) (nI 1), ((kRsv (kEn X) T.1 T.2.2.1), T.2.1, (kSc T.2.2.1), T.2.2.2))]) H := hP
              have hD : va_D A (bkF [mW cy ra (upd (kEq (kNt ((X.1.1, X.1.2.1, X.1.2.2.1, X.1.2.2.2.1, nI 0, X.1.2.2.2.2.2), X.2.1, X.2.2.1, (X.2.2.2.1.1, X.2.2.2.1.2.1, kgot X.1 X.2.2.2.1 X.1.2.2.2.1), X.2.2.2.2) pe (min (pe - 8) X.2.2.1.2.2.2.2.2)) (kNtT (kTL X.2.2.2.2) pe) (kNtT (kTF X.2.2.2.2) (min (pe - 8) X.2.2.1.2.2.2.2.2)) (kCp X.2.2.2.2)) (92 + 6 * pe + 3) (nI 1), ((kRsv (kEn X) T.1 T.2.2.1), T.2.1, (kSc T.2.2.1), T.2.2.2))]) := hD
              refine lv_aload_n hx hb dX5_endNight_83 rfl (lv_at hl 0 rfl) ?_
              refine va_get (D := D) (ci := 5) (v := .ref (ra 1)) (C := RX5) (T := TX5) (N := 16) hx hb hts (by decide +kernel) hown hK hP 0 rfl rfl 0 (by decide) (hts (.fieldLink RX5 7 "DanceHallModel" "all" "[I") (by decide +kernel)) (fun _ h9 => h9) rfl dX5_endNight_84 ?_
              refine lv_iload_n hx hb dX5_endNight_87 rfl (lv_at hl 2 rfl) ?_
              refine lv_iconst (v := nI 4) hx hb dX5_endNight_88 (by decide) ?_
              refine kc_i (Cs := []) (Rs := [mW cy ra (upd (kEq (kNt ((X.1.1, X.1.2.1, X.1.2.2.1, X.1.2.2.2.1, nI 0, X.1.2.2.2.2.2), X.2.1, X.2.2.1, (X.2.2.2.1.1, X.2.2.2.1.2.1, kgot X.1 X.2.2.2.1 X.1.2.2.2.1), X.2.2.2.2) pe (min (pe - 8) X.2.2.1.2.2.2.2.2)) (kNtT (kTL X.2.2.2.2) pe) (kNtT (kTF X.2.2.2.2) (min (pe - 8) X.2.2.1.2.2.2.2.2)) (kCp X.2.2.2.2)) (92 + 6 * pe + 3) (nI 1), ((kRsv (kEn X) T.1 T.2.2.1), T.2.1, (kSc T.2.2.1), T.2.2.2))]) (Bs := [mW cy ra (upd (kEq (kNt ((X.1.1, X.1.2.1, X.1.2.2.1, X.1.2.2.2.1, nI 0, X.1.2.2.2.2.2), X.2.1, X.2.2.1, (X.2.2.2.1.1, X.2.2.2.1.2.1, kgot X.1 X.2.2.2.1 X.1.2.2.2.1), X.2.2.2.2) pe (min (pe - 8) X.2.2.1.2.2.2.2.2)) (kNtT (kTL X.2.2.2.2) pe) (kNtT (kTF X.2.2.2.2) (min (pe - 8) X.2.2.1.2.2.2.2.2)) (kCp X.2.2.2.2)) (92 + 6 * pe + 3) (nI 1), ((kRsv (kEn X) T.1 T.2.2.1), T.2.1, (kSc T.2.2.1), T.2.2.2))]) (Cs' := fun u_ : Unit => []) (Fs := fun u_ : Unit => [mW cy ra (upd (kEq (kNt ((X.1.1, X.1.2.1, X.1.2.2.1, X.1.2.2.2.1, nI 0, X.1.2.2.2.2.2), X.2.1, X.2.2.1, (X.2.2.2.1.1, X.2.2.2.1.2.1, kgot X.1 X.2.2.2.1 X.1.2.2.2.1), X.2.2.2.2) pe (min (pe - 8) X.2.2.1.2.2.2.2.2)) (kNtT (kTL X.2.2.2.2) pe) (kNtT (kTF X.2.2.2.2) (min (pe - 8) X.2.2.1.2.2.2.2.2)) (kCp X.2.2.2.2)) (92 + 6 * pe + 3) (nI 1), ((kRsv (kEn X) T.1 T.2.2.1), T.2.1, (kSc T.2.2.1), T.2.2.2))]) hP hD hS hA [] [0] [0] rfl rfl (by decide) (by decide) (fun _ => rfl) (va_runS (As := [.int (nI pe), .int (nI 4)]) (rest := [.ref (ra 1)]) ⟨hx, hb, hml, hown, hts⟩ (c_X5_at l D cy pe 4 H.size) (va_cwS 2 hts gX5_endNight_X5_at rfl rfl rfl (by decide +kernel) ⟨Nat.le_of_ble_eq_true rfl, Nat.le_of_ble_eq_true rfl⟩) (kPre_S hK hN hP hD [] (by decide) rfl) rfl rfl hl.1 rfl (lv_room (Nat.le_of_ble_eq_true rfl)) dX5_endNight_89 ⟨Nat.le_of_ble_eq_true rfl, Nat.le_of_ble_eq_true rfl⟩) (fun r_ u_ H locs hw hP hD hS => ?_)
              have hw : r_ = nI (92 + 6 * pe + 4) := hw
              subst hw
              refine lv_iconst (v := nI 0) hx hb dX5_endNight_92 (by decide) ?_
              refine va_iast hx hb hK hP hD hS 1 0 rfl rfl (vp_in_nI (n := 92 + 6 * pe + 4) (N := 188) (by omega) (by omega)) dX5_endNight_93 (fun H locs hP hD hS => ?_)
              rw [nI_clamp (n := 92 + 6 * pe + 4) (by omega)] at hP hD
              have hP : va_P D vwCl (bkF [mW cy ra (upd (upd (kEq (kNt ((X.1.1, X.1.2.1, X.1.2.2.1, X.1.2.2.2.1, nI 0, X.1.2.2.2.2.2), X.2.1, X.2.2.1, (X.2.2.2.1.1, X.2.2.2.1.2.1, kgot X.1 X.2.2.2.1 X.1.2.2.2.1), X.2.2.2.2) pe (min (pe - 8) X.2.2.1.2.2.2.2.2)) (kNtT (kTL X.2.2.2.2) pe) (kNtT (kTF X.2.2.2.2) (min (pe - 8) X.2.2.1.2.2.2.2.2)) (kCp X.2.2.2.2)) (92 + 6 * pe + 3) (nI 1)) (92 + 6 * pe + 4) (nI 0), ((kRsv (kEn X) T.1 T.2.2.1), T.2.1, (kSc T.2.2.1), T.2.2.2))]) H := hP
              have hD : va_D A (bkF [mW cy ra (upd (upd (kEq (kNt ((X.1.1, X.1.2.1, X.1.2.2.1, X.1.2.2.2.1, nI 0, X.1.2.2.2.2.2), X.2.1, X.2.2.1, (X.2.2.2.1.1, X.2.2.2.1.2.1, kgot X.1 X.2.2.2.1 X.1.2.2.2.1), X.2.2.2.2) pe (min (pe - 8) X.2.2.1.2.2.2.2.2)) (kNtT (kTL X.2.2.2.2) pe) (kNtT (kTF X.2.2.2.2) (min (pe - 8) X.2.2.1.2.2.2.2.2)) (kCp X.2.2.2.2)) (92 + 6 * pe + 3) (nI 1)) (92 + 6 * pe + 4) (nI 0), ((kRsv (kEn X) T.1 T.2.2.1), T.2.1, (kSc T.2.2.1), T.2.2.2))]) := hD
              refine lv_iinc (v := nI (pe + 1)) (lv' := [(2, .int (nI (pe + 1))), (0, .ref (ra 0)), (1, .int X.1.2.2.2.2.1)]) hx hb dX5_endNight_94 hl (k := 2) rfl (nI_add pe 1) (by decide) rfl (fun ls hl => ?_)
              refine lv_goto (tgt := 58) hx hb dX5_endNight_97 (by decide) ?_
              have hP := kP_cell (g := (kEq (kNt ((X.1.1, X.1.2.1, X.1.2.2.1, X.1.2.2.2.1, nI 0, X.1.2.2.2.2.2), X.2.1, X.2.2.1, (X.2.2.2.1.1, X.2.2.2.1.2.1, kgot X.1 X.2.2.2.1 X.1.2.2.2.1), X.2.2.2.2) (min (pe + 1) X.2.1.2.2.2.2.2) (min (pe + 1 - 8) X.2.2.1.2.2.2.2.2)) (kNtT (kTL X.2.2.2.2) (min (pe + 1) X.2.1.2.2.2.2.2)) (kNtT (kTF X.2.2.2.2) (min (pe + 1 - 8) X.2.2.1.2.2.2.2.2)) (kCp X.2.2.2.2))) hP 1 rfl (fun j hj => (kNt_L (X := ((X.1.1, X.1.2.1, X.1.2.2.1, X.1.2.2.2.1, nI 0, X.1.2.2.2.2.2), X.2.1, X.2.2.1, (X.2.2.2.1.1, X.2.2.2.1.2.1, kgot X.1 X.2.2.2.1 X.1.2.2.2.1), X.2.2.2.2)) (tL := kTL X.2.2.2.2) (tF := kNtT (kTF X.2.2.2.2) (min (pe - 8) X.2.2.1.2.2.2.2.2)) (cp := kCp X.2.2.2.2) (mL := pe) (mF := min (pe - 8) X.2.2.1.2.2.2.2.2) b_66 hnl j hj).trans (by rw [show min (pe + 1) X.2.1.2.2.2.2.2 = pe + 1 from by omega, show min (pe + 1 - 8) X.2.2.1.2.2.2.2.2 = min (pe - 8) X.2.2.1.2.2.2.2.2 from by omega]))
              have hD := hD.set (p := 1) (e := .inl (cy 0, 188, .inl (kEq (kNt ((X.1.1, X.1.2.1, X.1.2.2.1, X.1.2.2.2.1, nI 0, X.1.2.2.2.2.2), X.2.1, X.2.2.1, (X.2.2.2.1.1, X.2.2.2.1.2.1, kgot X.1 X.2.2.2.1 X.1.2.2.2.1), X.2.2.2.2) (min (pe + 1) X.2.1.2.2.2.2.2) (min (pe + 1 - 8) X.2.2.1.2.2.2.2.2)) (kNtT (kTL X.2.2.2.2) (min (pe + 1) X.2.1.2.2.2.2.2)) (kNtT (kTF X.2.2.2.2) (min (pe + 1 - 8) X.2.2.1.2.2.2.2.2)) (kCp X.2.2.2.2)))) rfl
              have hP : va_P D vwCl (bkF [mW cy ra (kEq (kNt ((X.1.1, X.1.2.1, X.1.2.2.1, X.1.2.2.2.1, nI 0, X.1.2.2.2.2.2), X.2.1, X.2.2.1, (X.2.2.2.1.1, X.2.2.2.1.2.1, kgot X.1 X.2.2.2.1 X.1.2.2.2.1), X.2.2.2.2) (min (pe + 1) X.2.1.2.2.2.2.2) (min (pe + 1 - 8) X.2.2.1.2.2.2.2.2)) (kNtT (kTL X.2.2.2.2) (min (pe + 1) X.2.1.2.2.2.2.2)) (kNtT (kTF X.2.2.2.2) (min (pe + 1 - 8) X.2.2.1.2.2.2.2.2)) (kCp X.2.2.2.2), ((kRsv (kEn X) T.1 T.2.2.1), T.2.1, (kSc T.2.2.1), T.2.2.2))]) H := hP
              have hD : va_D A (bkF [mW cy ra (kEq (kNt ((X.1.1, X.1.2.1, X.1.2.2.1, X.1.2.2.2.1, nI 0, X.1.2.2.2.2.2), X.2.1, X.2.2.1, (X.2.2.2.1.1, X.2.2.2.1.2.1, kgot X.1 X.2.2.2.1 X.1.2.2.2.1), X.2.2.2.2) (min (pe + 1) X.2.1.2.2.2.2.2) (min (pe + 1 - 8) X.2.2.1.2.2.2.2.2)) (kNtT (kTL X.2.2.2.2) (min (pe + 1) X.2.1.2.2.2.2.2)) (kNtT (kTF X.2.2.2.2) (min (pe + 1 - 8) X.2.2.1.2.2.2.2.2)) (kCp X.2.2.2.2), ((kRsv (kEn X) T.1 T.2.2.1), T.2.1, (kSc T.2.2.1), T.2.2.2))]) := hD
              exact ih_58 _ (by omega) (pe + 1) rfl (by omega) ls H locs hP hD hS (lv_sub hl [1, 2, 0] rfl)
            · refine kv_i (y := nI 0) (if_neg b_66) ?_
              refine lv_if_eq (tgt := 94) hx hb dX5_endNight_69 (by decide) (fun _ => ?_) (fun h => absurd h (by decide))
              refine lv_iinc (v := nI (pe + 1)) (lv' := [(2, .int (nI (pe + 1))), (0, .ref (ra 0)), (1, .int X.1.2.2.2.2.1)]) hx hb dX5_endNight_94 hl (k := 2) rfl (nI_add pe 1) (by decide) rfl (fun ls hl => ?_)
              refine lv_goto (tgt := 58) hx hb dX5_endNight_97 (by decide) ?_
              have hP := kP_cell (g := (kEq (kNt ((X.1.1, X.1.2.1, X.1.2.2.1, X.1.2.2.2.1, nI 0, X.1.2.2.2.2.2), X.2.1, X.2.2.1, (X.2.2.2.1.1, X.2.2.2.1.2.1, kgot X.1 X.2.2.2.1 X.1.2.2.2.1), X.2.2.2.2) (min (pe + 1) X.2.1.2.2.2.2.2) (min (pe + 1 - 8) X.2.2.1.2.2.2.2.2)) (kNtT (kTL X.2.2.2.2) (min (pe + 1) X.2.1.2.2.2.2.2)) (kNtT (kTF X.2.2.2.2) (min (pe + 1 - 8) X.2.2.1.2.2.2.2.2)) (kCp X.2.2.2.2))) hP 1 rfl (fun _ _ => by rw [show min (pe + 1) X.2.1.2.2.2.2.2 = min pe X.2.1.2.2.2.2.2 from by omega, show min (pe + 1 - 8) X.2.2.1.2.2.2.2.2 = min (pe - 8) X.2.2.1.2.2.2.2.2 from by omega])
              have hD := hD.set (p := 1) (e := .inl (cy 0, 188, .inl (kEq (kNt ((X.1.1, X.1.2.1, X.1.2.2.1, X.1.2.2.2.1, nI 0, X.1.2.2.2.2.2), X.2.1, X.2.2.1, (X.2.2.2.1.1, X.2.2.2.1.2.1, kgot X.1 X.2.2.2.1 X.1.2.2.2.1), X.2.2.2.2) (min (pe + 1) X.2.1.2.2.2.2.2) (min (pe + 1 - 8) X.2.2.1.2.2.2.2.2)) (kNtT (kTL X.2.2.2.2) (min (pe + 1) X.2.1.2.2.2.2.2)) (kNtT (kTF X.2.2.2.2) (min (pe + 1 - 8) X.2.2.1.2.2.2.2.2)) (kCp X.2.2.2.2)))) rfl
              have hP : va_P D vwCl (bkF [mW cy ra (kEq (kNt ((X.1.1, X.1.2.1, X.1.2.2.1, X.1.2.2.2.1, nI 0, X.1.2.2.2.2.2), X.2.1, X.2.2.1, (X.2.2.2.1.1, X.2.2.2.1.2.1, kgot X.1 X.2.2.2.1 X.1.2.2.2.1), X.2.2.2.2) (min (pe + 1) X.2.1.2.2.2.2.2) (min (pe + 1 - 8) X.2.2.1.2.2.2.2.2)) (kNtT (kTL X.2.2.2.2) (min (pe + 1) X.2.1.2.2.2.2.2)) (kNtT (kTF X.2.2.2.2) (min (pe + 1 - 8) X.2.2.1.2.2.2.2.2)) (kCp X.2.2.2.2), ((kRsv (kEn X) T.1 T.2.2.1), T.2.1, (kSc T.2.2.1), T.2.2.2))]) H := hP
              have hD : va_D A (bkF [mW cy ra (kEq (kNt ((X.1.1, X.1.2.1, X.1.2.2.1, X.1.2.2.2.1, nI 0, X.1.2.2.2.2.2), X.2.1, X.2.2.1, (X.2.2.2.1.1, X.2.2.2.1.2.1, kgot X.1 X.2.2.2.1 X.1.2.2.2.1), X.2.2.2.2) (min (pe + 1) X.2.1.2.2.2.2.2) (min (pe + 1 - 8) X.2.2.1.2.2.2.2.2)) (kNtT (kTL X.2.2.2.2) (min (pe + 1) X.2.1.2.2.2.2.2)) (kNtT (kTF X.2.2.2.2) (min (pe + 1 - 8) X.2.2.1.2.2.2.2.2)) (kCp X.2.2.2.2), ((kRsv (kEn X) T.1 T.2.2.1), T.2.1, (kSc T.2.2.1), T.2.2.2))]) := hD
              exact ih_58 _ (by omega) (pe + 1) rfl (by omega) ls H locs hP hD hS (lv_sub hl [1, 2, 0] rfl)
          · skip
            obtain ⟨q, rfl⟩ : ∃ q, pe = 8 + q := ⟨pe - 8, by omega⟩
            have hP : va_P D vwCl (bkF [mW cy ra (kEq (kNt ((X.1.1, X.1.2.1, X.1.2.2.1, X.1.2.2.2.1, nI 0, X.1.2.2.2.2.2), X.2.1, X.2.2.1, (X.2.2.2.1.1, X.2.2.2.1.2.1, kgot X.1 X.2.2.2.1 X.1.2.2.2.1), X.2.2.2.2) (min (8 + q) X.2.1.2.2.2.2.2) (min ((8 + q) - 8) X.2.2.1.2.2.2.2.2)) (kNtT (kTL X.2.2.2.2) (min (8 + q) X.2.1.2.2.2.2.2)) (kNtT (kTF X.2.2.2.2) (min ((8 + q) - 8) X.2.2.1.2.2.2.2.2)) (kCp X.2.2.2.2), ((kRsv (kEn X) T.1 T.2.2.1), T.2.1, (kSc T.2.2.1), T.2.2.2))]) H := hP
            have hD : va_D A (bkF [mW cy ra (kEq (kNt ((X.1.1, X.1.2.1, X.1.2.2.1, X.1.2.2.2.1, nI 0, X.1.2.2.2.2.2), X.2.1, X.2.2.1, (X.2.2.2.1.1, X.2.2.2.1.2.1, kgot X.1 X.2.2.2.1 X.1.2.2.2.1), X.2.2.2.2) (min (8 + q) X.2.1.2.2.2.2.2) (min ((8 + q) - 8) X.2.2.1.2.2.2.2.2)) (kNtT (kTL X.2.2.2.2) (min (8 + q) X.2.1.2.2.2.2.2)) (kNtT (kTF X.2.2.2.2) (min ((8 + q) - 8) X.2.2.1.2.2.2.2.2)) (kCp X.2.2.2.2), ((kRsv (kEn X) T.1 T.2.2.1), T.2.1, (kSc T.2.2.1), T.2.2.2))]) := hD
            have hl : lv_has ls 3 [(0, .ref (ra 0)), (1, .int X.1.2.2.2.2.1), (2, .int (nI (8 + q)))] := hl
            refine lv_aload_n hx hb dX5_endNight_64 rfl (lv_at hl 0 rfl) ?_
            refine lv_iload_n hx hb dX5_endNight_65 rfl (lv_at hl 2 rfl) ?_
            refine kc_i (Cs := [mW cy ra (kEq (kNt ((X.1.1, X.1.2.1, X.1.2.2.1, X.1.2.2.2.1, nI 0, X.1.2.2.2.2.2), X.2.1, X.2.2.1, (X.2.2.2.1.1, X.2.2.2.1.2.1, kgot X.1 X.2.2.2.1 X.1.2.2.2.1), X.2.2.2.2) (min (8 + q) X.2.1.2.2.2.2.2) (min ((8 + q) - 8) X.2.2.1.2.2.2.2.2)) (kNtT (kTL X.2.2.2.2) (min (8 + q) X.2.1.2.2.2.2.2)) (kNtT (kTF X.2.2.2.2) (min ((8 + q) - 8) X.2.2.1.2.2.2.2.2)) (kCp X.2.2.2.2), ((kRsv (kEn X) T.1 T.2.2.1), T.2.1, (kSc T.2.2.1), T.2.2.2))]) (Rs := []) (Bs := [mW cy ra (kEq (kNt ((X.1.1, X.1.2.1, X.1.2.2.1, X.1.2.2.2.1, nI 0, X.1.2.2.2.2.2), X.2.1, X.2.2.1, (X.2.2.2.1.1, X.2.2.2.1.2.1, kgot X.1 X.2.2.2.1 X.1.2.2.2.1), X.2.2.2.2) (min (8 + q) X.2.1.2.2.2.2.2) (min ((8 + q) - 8) X.2.2.1.2.2.2.2.2)) (kNtT (kTL X.2.2.2.2) (min (8 + q) X.2.1.2.2.2.2.2)) (kNtT (kTF X.2.2.2.2) (min ((8 + q) - 8) X.2.2.1.2.2.2.2.2)) (kCp X.2.2.2.2), ((kRsv (kEn X) T.1 T.2.2.1), T.2.1, (kSc T.2.2.1), T.2.2.2))]) (Cs' := fun u_ : Unit => [mW cy ra (kEq (kNt ((X.1.1, X.1.2.1, X.1.2.2.1, X.1.2.2.2.1, nI 0, X.1.2.2.2.2.2), X.2.1, X.2.2.1, (X.2.2.2.1.1, X.2.2.2.1.2.1, kgot X.1 X.2.2.2.1 X.1.2.2.2.1), X.2.2.2.2) (min (8 + q) X.2.1.2.2.2.2.2) (min ((8 + q) - 8) X.2.2.1.2.2.2.2.2)) (kNtT (kTL X.2.2.2.2) (min (8 + q) X.2.1.2.2.2.2.2)) (kNtT (kTF X.2.2.2.2) (min ((8 + q) - 8) X.2.2.1.2.2.2.2.2)) (kCp X.2.2.2.2), ((kRsv (kEn X) T.1 T.2.2.1), T.2.1, (kSc T.2.2.1), T.2.2.2))]) (Fs := fun u_ : Unit => [mW cy ra (kEq (kNt ((X.1.1, X.1.2.1, X.1.2.2.1, X.1.2.2.2.1, nI 0, X.1.2.2.2.2.2), X.2.1, X.2.2.1, (X.2.2.2.1.1, X.2.2.2.1.2.1, kgot X.1 X.2.2.2.1 X.1.2.2.2.1), X.2.2.2.2) (min (8 + q) X.2.1.2.2.2.2.2) (min ((8 + q) - 8) X.2.2.1.2.2.2.2.2)) (kNtT (kTL X.2.2.2.2) (min (8 + q) X.2.1.2.2.2.2.2)) (kNtT (kTF X.2.2.2.2) (min ((8 + q) - 8) X.2.2.1.2.2.2.2.2)) (kCp X.2.2.2.2), ((kRsv (kEn X) T.1 T.2.2.1), T.2.1, (kSc T.2.2.1), T.2.2.2))]) hP hD hS hA [0] [] [0] rfl rfl (by decide) (by decide) (fun _ => rfl) (va_runV (As := [.int (nI (8 + q))]) (rest := []) ⟨hx, hb, hml, hown, hts⟩ (c_X5_isThere_qf l D cy ra (kNt ((X.1.1, X.1.2.1, X.1.2.2.1, X.1.2.2.2.1, nI 0, X.1.2.2.2.2.2), X.2.1, X.2.2.1, (X.2.2.2.1.1, X.2.2.2.1.2.1, kgot X.1 X.2.2.2.1 X.1.2.2.2.1), X.2.2.2.2) (min (8 + q) X.2.1.2.2.2.2.2) (min ((8 + q) - 8) X.2.2.1.2.2.2.2.2)) (kNtT (kTL X.2.2.2.2) (min (8 + q) X.2.1.2.2.2.2.2)) (kNtT (kTF X.2.2.2.2) (min ((8 + q) - 8) X.2.2.1.2.2.2.2.2)) (kCp X.2.2.2.2) ((kRsv (kEn X) T.1 T.2.2.1), T.2.1, (kSc T.2.2.1), T.2.2.2) q (by omega) (by first | exact hnl | exact hnf) H.size) (cwV 1 hts gX5_endNight_X5_isThere rfl rfl rfl (by decide +kernel) ⟨Nat.le_of_ble_eq_true rfl, Nat.le_of_ble_eq_true rfl⟩) (kPre_V (ci := 5) hK hN hP hD [0] (by decide) rfl 0 rfl rfl) rfl rfl hl.1 rfl (lv_room (Nat.le_of_ble_eq_true rfl)) dX5_endNight_66 ⟨Nat.le_of_ble_eq_true rfl, Nat.le_of_ble_eq_true rfl⟩) (fun r_ u_ H locs hw hP hD hS => ?_)
            have hw : r_ = if q < (kNt ((X.1.1, X.1.2.1, X.1.2.2.1, X.1.2.2.2.1, nI 0, X.1.2.2.2.2.2), X.2.1, X.2.2.1, (X.2.2.2.1.1, X.2.2.2.1.2.1, kgot X.1 X.2.2.2.1 X.1.2.2.2.1), X.2.2.2.2) (min (8 + q) X.2.1.2.2.2.2.2) (min ((8 + q) - 8) X.2.2.1.2.2.2.2.2)).2.2.1.2.2.2.2.2 then nI 1 else nI 0 := hw
            subst hw
            by_cases b_66 : q < X.2.2.1.2.2.2.2.2
            · refine kv_i (y := nI 1) (if_pos b_66) ?_
              refine lv_if_eq (tgt := 94) hx hb dX5_endNight_69 (by decide) (fun h => absurd h (by decide)) (fun _ => ?_)
              rw [show min (8 + q - 8) X.2.2.1.2.2.2.2.2 = q from by omega] at hP hD
              refine lv_aload_n hx hb dX5_endNight_72 rfl (lv_at hl 0 rfl) ?_
              refine va_get (D := D) (ci := 5) (v := .ref (ra 1)) (C := RX5) (T := TX5) (N := 16) hx hb hts (by decide +kernel) hown hK hP 0 rfl rfl 0 (by decide) (hts (.fieldLink RX5 7 "DanceHallModel" "all" "[I") (by decide +kernel)) (fun _ h9 => h9) rfl dX5_endNight_73 ?_
              refine lv_iload_n hx hb dX5_endNight_76 rfl (lv_at hl 2 rfl) ?_
              refine lv_iconst (v := nI 3) hx hb dX5_endNight_77 (by decide) ?_
              refine kc_i (Cs := []) (Rs := [mW cy ra (kEq (kNt ((X.1.1, X.1.2.1, X.1.2.2.1, X.1.2.2.2.1, nI 0, X.1.2.2.2.2.2), X.2.1, X.2.2.1, (X.2.2.2.1.1, X.2.2.2.1.2.1, kgot X.1 X.2.2.2.1 X.1.2.2.2.1), X.2.2.2.2) (min (8 + q) X.2.1.2.2.2.2.2) q) (kNtT (kTL X.2.2.2.2) (min (8 + q) X.2.1.2.2.2.2.2)) (kNtT (kTF X.2.2.2.2) q) (kCp X.2.2.2.2), ((kRsv (kEn X) T.1 T.2.2.1), T.2.1, (kSc T.2.2.1), T.2.2.2))]) (Bs := [mW cy ra (kEq (kNt ((X.1.1, X.1.2.1, X.1.2.2.1, X.1.2.2.2.1, nI 0, X.1.2.2.2.2.2), X.2.1, X.2.2.1, (X.2.2.2.1.1, X.2.2.2.1.2.1, kgot X.1 X.2.2.2.1 X.1.2.2.2.1), X.2.2.2.2) (min (8 + q) X.2.1.2.2.2.2.2) q) (kNtT (kTL X.2.2.2.2) (min (8 + q) X.2.1.2.2.2.2.2)) (kNtT (kTF X.2.2.2.2) q) (kCp X.2.2.2.2), ((kRsv (kEn X) T.1 T.2.2.1), T.2.1, (kSc T.2.2.1), T.2.2.2))]) (Cs' := fun u_ : Unit => []) (Fs := fun u_ : Unit => [mW cy ra (kEq (kNt ((X.1.1, X.1.2.1, X.1.2.2.1, X.1.2.2.2.1, nI 0, X.1.2.2.2.2.2), X.2.1, X.2.2.1, (X.2.2.2.1.1, X.2.2.2.1.2.1, kgot X.1 X.2.2.2.1 X.1.2.2.2.1), X.2.2.2.2) (min (8 + q) X.2.1.2.2.2.2.2) q) (kNtT (kTL X.2.2.2.2) (min (8 + q) X.2.1.2.2.2.2.2)) (kNtT (kTF X.2.2.2.2) q) (kCp X.2.2.2.2), ((kRsv (kEn X) T.1 T.2.2.1), T.2.1, (kSc T.2.2.1), T.2.2.2))]) hP hD hS hA [] [0] [0] rfl rfl (by decide) (by decide) (fun _ => rfl) (va_runS (As := [.int (nI (8 + q)), .int (nI 3)]) (rest := [.ref (ra 1)]) ⟨hx, hb, hml, hown, hts⟩ (c_X5_at l D cy (8 + q) 3 H.size) (va_cwS 2 hts gX5_endNight_X5_at rfl rfl rfl (by decide +kernel) ⟨Nat.le_of_ble_eq_true rfl, Nat.le_of_ble_eq_true rfl⟩) (kPre_S hK hN hP hD [] (by decide) rfl) rfl rfl hl.1 rfl (lv_room (Nat.le_of_ble_eq_true rfl)) dX5_endNight_78 ⟨Nat.le_of_ble_eq_true rfl, Nat.le_of_ble_eq_true rfl⟩) (fun r_ u_ H locs hw hP hD hS => ?_)
              have hw : r_ = nI (92 + 6 * (8 + q) + 3) := hw
              subst hw
              refine lv_iconst (v := nI 1) hx hb dX5_endNight_81 (by decide) ?_
              refine va_iast hx hb hK hP hD hS 1 0 rfl rfl (vp_in_nI (n := 92 + 6 * (8 + q) + 3) (N := 188) (by omega) (by omega)) dX5_endNight_82 (fun H locs hP hD hS => ?_)
              rw [nI_clamp (n := 92 + 6 * (8 + q) + 3) (by omega)] at hP hD
              have hP : va_P D vwCl (bkF [mW cy ra (upd (kEq (kNt ((X.1.1, X.1.2.1, X.1.2.2.1, X.1.2.2.2.1, nI 0, X.1.2.2.2.2.2), X.2.1, X.2.2.1, (X.2.2.2.1.1, X.2.2.2.1.2.1, kgot X.1 X.2.2.2.1 X.1.2.2.2.1), X.2.2.2.2) (min (8 + q) X.2.1.2.2.2.2.2) q) (kNtT (kTL X.2.2.2.2) (min (8 + q) X.2.1.2.2.2.2.2)) (kNtT (kTF X.2.2.2.2) q) (kCp X.2.2.2.2)) (92 + 6 * (8 + q) + 3) (nI 1), ((kRsv (kEn X) T.1 T.2.2.1), T.2.1, (kSc T.2.2.1), T.2.2.2))]) H := hP
              have hD : va_D A (bkF [mW cy ra (upd (kEq (kNt ((X.1.1, X.1.2.1, X.1.2.2.1, X.1.2.2.2.1, nI 0, X.1.2.2.2.2.2), X.2.1, X.2.2.1, (X.2.2.2.1.1, X.2.2.2.1.2.1, kgot X.1 X.2.2.2.1 X.1.2.2.2.1), X.2.2.2.2) (min (8 + q) X.2.1.2.2.2.2.2) q) (kNtT (kTL X.2.2.2.2) (min (8 + q) X.2.1.2.2.2.2.2)) (kNtT (kTF X.2.2.2.2) q) (kCp X.2.2.2.2)) (92 + 6 * (8 + q) + 3) (nI 1), ((kRsv (kEn X) T.1 T.2.2.1), T.2.1, (kSc T.2.2.1), T.2.2.2))]) := hD
              refine lv_aload_n hx hb dX5_endNight_83 rfl (lv_at hl 0 rfl) ?_
              refine va_get (D := D) (ci := 5) (v := .ref (ra 1)) (C := RX5) (T := TX5) (N := 16) hx hb hts (by decide +kernel) hown hK hP 0 rfl rfl 0 (by decide) (hts (.fieldLink RX5 7 "DanceHallModel" "all" "[I") (by decide +kernel)) (fun _ h9 => h9) rfl dX5_endNight_84 ?_
              refine lv_iload_n hx hb dX5_endNight_87 rfl (lv_at hl 2 rfl) ?_
              refine lv_iconst (v := nI 4) hx hb dX5_endNight_88 (by decide) ?_
              refine kc_i (Cs := []) (Rs := [mW cy ra (upd (kEq (kNt ((X.1.1, X.1.2.1, X.1.2.2.1, X.1.2.2.2.1, nI 0, X.1.2.2.2.2.2), X.2.1, X.2.2.1, (X.2.2.2.1.1, X.2.2.2.1.2.1, kgot X.1 X.2.2.2.1 X.1.2.2.2.1), X.2.2.2.2) (min (8 + q) X.2.1.2.2.2.2.2) q) (kNtT (kTL X.2.2.2.2) (min (8 + q) X.2.1.2.2.2.2.2)) (kNtT (kTF X.2.2.2.2) q) (kCp X.2.2.2.2)) (92 + 6 * (8 + q) + 3) (nI 1), ((kRsv (kEn X) T.1 T.2.2.1), T.2.1, (kSc T.2.2.1), T.2.2.2))]) (Bs := [mW cy ra (upd (kEq (kNt ((X.1.1, X.1.2.1, X.1.2.2.1, X.1.2.2.2.1, nI 0, X.1.2.2.2.2.2), X.2.1, X.2.2.1, (X.2.2.2.1.1, X.2.2.2.1.2.1, kgot X.1 X.2.2.2.1 X.1.2.2.2.1), X.2.2.2.2) (min (8 + q) X.2.1.2.2.2.2.2) q) (kNtT (kTL X.2.2.2.2) (min (8 + q) X.2.1.2.2.2.2.2)) (kNtT (kTF X.2.2.2.2) q) (kCp X.2.2.2.2)) (92 + 6 * (8 + q) + 3) (nI 1), ((kRsv (kEn X) T.1 T.2.2.1), T.2.1, (kSc T.2.2.1), T.2.2.2))]) (Cs' := fun u_ : Unit => []) (Fs := fun u_ : Unit => [mW cy ra (upd (kEq (kNt ((X.1.1, X.1.2.1, X.1.2.2.1, X.1.2.2.2.1, nI 0, X.1.2.2.2.2.2), X.2.1, X.2.2.1, (X.2.2.2.1.1, X.2.2.2.1.2.1, kgot X.1 X.2.2.2.1 X.1.2.2.2.1), X.2.2.2.2) (min (8 + q) X.2.1.2.2.2.2.2) q) (kNtT (kTL X.2.2.2.2) (min (8 + q) X.2.1.2.2.2.2.2)) (kNtT (kTF X.2.2.2.2) q) (kCp X.2.2.2.2)) (92 + 6 * (8 + q) + 3) (nI 1), ((kRsv (kEn X) T.1 T.2.2.1), T.2.1, (kSc T.2.2.1), T.2.2.2))]) hP hD hS hA [] [0] [0] rfl rfl (by decide) (by decide) (fun _ => rfl) (va_runS (As := [.int (nI (8 + q)), .int (nI 4)]) (rest := [.ref (ra 1)]) ⟨hx, hb, hml, hown, hts⟩ (c_X5_at l D cy (8 + q) 4 H.size) (va_cwS 2 hts gX5_endNight_X5_at rfl rfl rfl (by decide +kernel) ⟨Nat.le_of_ble_eq_true rfl, Nat.le_of_ble_eq_true rfl⟩) (kPre_S hK hN hP hD [] (by decide) rfl) rfl rfl hl.1 rfl (lv_room (Nat.le_of_ble_eq_true rfl)) dX5_endNight_89 ⟨Nat.le_of_ble_eq_true rfl, Nat.le_of_ble_eq_true rfl⟩) (fun r_ u_ H locs hw hP hD hS => ?_)
              have hw : r_ = nI (92 + 6 * (8 + q) + 4) := hw
              subst hw
              refine lv_iconst (v := nI 0) hx hb dX5_endNight_92 (by decide) ?_
              refine va_iast hx hb hK hP hD hS 1 0 rfl rfl (vp_in_nI (n := 92 + 6 * (8 + q) + 4) (N := 188) (by omega) (by omega)) dX5_endNight_93 (fun H locs hP hD hS => ?_)
              rw [nI_clamp (n := 92 + 6 * (8 + q) + 4) (by omega)] at hP hD
              have hP : va_P D vwCl (bkF [mW cy ra (upd (upd (kEq (kNt ((X.1.1, X.1.2.1, X.1.2.2.1, X.1.2.2.2.1, nI 0, X.1.2.2.2.2.2), X.2.1, X.2.2.1, (X.2.2.2.1.1, X.2.2.2.1.2.1, kgot X.1 X.2.2.2.1 X.1.2.2.2.1), X.2.2.2.2) (min (8 + q) X.2.1.2.2.2.2.2) q) (kNtT (kTL X.2.2.2.2) (min (8 + q) X.2.1.2.2.2.2.2)) (kNtT (kTF X.2.2.2.2) q) (kCp X.2.2.2.2)) (92 + 6 * (8 + q) + 3) (nI 1)) (92 + 6 * (8 + q) + 4) (nI 0), ((kRsv (kEn X) T.1 T.2.2.1), T.2.1, (kSc T.2.2.1), T.2.2.2))]) H := hP
              have hD : va_D A (bkF [mW cy ra (upd (upd (kEq (kNt ((X.1.1, X.1.2.1, X.1.2.2.1, X.1.2.2.2.1, nI 0, X.1.2.2.2.2.2), X.2.1, X.2.2.1, (X.2.2.2.1.1, X.2.2.2.1.2.1, kgot X.1 X.2.2.2.1 X.1.2.2.2.1), X.2.2.2.2) (min (8 + q) X.2.1.2.2.2.2.2) q) (kNtT (kTL X.2.2.2.2) (min (8 + q) X.2.1.2.2.2.2.2)) (kNtT (kTF X.2.2.2.2) q) (kCp X.2.2.2.2)) (92 + 6 * (8 + q) + 3) (nI 1)) (92 + 6 * (8 + q) + 4) (nI 0), ((kRsv (kEn X) T.1 T.2.2.1), T.2.1, (kSc T.2.2.1), T.2.2.2))]) := hD
              refine lv_iinc (v := nI ((8 + q) + 1)) (lv' := [(2, .int (nI ((8 + q) + 1))), (0, .ref (ra 0)), (1, .int X.1.2.2.2.2.1)]) hx hb dX5_endNight_94 hl (k := 2) rfl (nI_add (8 + q) 1) (by decide) rfl (fun ls hl => ?_)
              refine lv_goto (tgt := 58) hx hb dX5_endNight_97 (by decide) ?_
              have hP := kP_cell (g := (kEq (kNt ((X.1.1, X.1.2.1, X.1.2.2.1, X.1.2.2.2.1, nI 0, X.1.2.2.2.2.2), X.2.1, X.2.2.1, (X.2.2.2.1.1, X.2.2.2.1.2.1, kgot X.1 X.2.2.2.1 X.1.2.2.2.1), X.2.2.2.2) (min (8 + q + 1) X.2.1.2.2.2.2.2) (min (8 + q + 1 - 8) X.2.2.1.2.2.2.2.2)) (kNtT (kTL X.2.2.2.2) (min (8 + q + 1) X.2.1.2.2.2.2.2)) (kNtT (kTF X.2.2.2.2) (min (8 + q + 1 - 8) X.2.2.1.2.2.2.2.2)) (kCp X.2.2.2.2))) hP 1 rfl (fun j hj => (kNt_F (X := ((X.1.1, X.1.2.1, X.1.2.2.1, X.1.2.2.2.1, nI 0, X.1.2.2.2.2.2), X.2.1, X.2.2.1, (X.2.2.2.1.1, X.2.2.2.1.2.1, kgot X.1 X.2.2.2.1 X.1.2.2.2.1), X.2.2.2.2)) (tF := kTF X.2.2.2.2) (tL := kNtT (kTL X.2.2.2.2) (min (8 + q) X.2.1.2.2.2.2.2)) (cp := kCp X.2.2.2.2) (mF := q) (mL := min (8 + q) X.2.1.2.2.2.2.2) b_66 hnf j hj).trans (by rw [show min (8 + q + 1) X.2.1.2.2.2.2.2 = min (8 + q) X.2.1.2.2.2.2.2 from by omega, show min (8 + q + 1 - 8) X.2.2.1.2.2.2.2.2 = q + 1 from by omega]))
              have hD := hD.set (p := 1) (e := .inl (cy 0, 188, .inl (kEq (kNt ((X.1.1, X.1.2.1, X.1.2.2.1, X.1.2.2.2.1, nI 0, X.1.2.2.2.2.2), X.2.1, X.2.2.1, (X.2.2.2.1.1, X.2.2.2.1.2.1, kgot X.1 X.2.2.2.1 X.1.2.2.2.1), X.2.2.2.2) (min (8 + q + 1) X.2.1.2.2.2.2.2) (min (8 + q + 1 - 8) X.2.2.1.2.2.2.2.2)) (kNtT (kTL X.2.2.2.2) (min (8 + q + 1) X.2.1.2.2.2.2.2)) (kNtT (kTF X.2.2.2.2) (min (8 + q + 1 - 8) X.2.2.1.2.2.2.2.2)) (kCp X.2.2.2.2)))) rfl
              have hP : va_P D vwCl (bkF [mW cy ra (kEq (kNt ((X.1.1, X.1.2.1, X.1.2.2.1, X.1.2.2.2.1, nI 0, X.1.2.2.2.2.2), X.2.1, X.2.2.1, (X.2.2.2.1.1, X.2.2.2.1.2.1, kgot X.1 X.2.2.2.1 X.1.2.2.2.1), X.2.2.2.2) (min (8 + q + 1) X.2.1.2.2.2.2.2) (min (8 + q + 1 - 8) X.2.2.1.2.2.2.2.2)) (kNtT (kTL X.2.2.2.2) (min (8 + q + 1) X.2.1.2.2.2.2.2)) (kNtT (kTF X.2.2.2.2) (min (8 + q + 1 - 8) X.2.2.1.2.2.2.2.2)) (kCp X.2.2.2.2), ((kRsv (kEn X) T.1 T.2.2.1), T.2.1, (kSc T.2.2.1), T.2.2.2))]) H := hP
              have hD : va_D A (bkF [mW cy ra (kEq (kNt ((X.1.1, X.1.2.1, X.1.2.2.1, X.1.2.2.2.1, nI 0, X.1.2.2.2.2.2), X.2.1, X.2.2.1, (X.2.2.2.1.1, X.2.2.2.1.2.1, kgot X.1 X.2.2.2.1 X.1.2.2.2.1), X.2.2.2.2) (min (8 + q + 1) X.2.1.2.2.2.2.2) (min (8 + q + 1 - 8) X.2.2.1.2.2.2.2.2)) (kNtT (kTL X.2.2.2.2) (min (8 + q + 1) X.2.1.2.2.2.2.2)) (kNtT (kTF X.2.2.2.2) (min (8 + q + 1 - 8) X.2.2.1.2.2.2.2.2)) (kCp X.2.2.2.2), ((kRsv (kEn X) T.1 T.2.2.1), T.2.1, (kSc T.2.2.1), T.2.2.2))]) := hD
              exact ih_58 _ (by omega) (8 + q + 1) rfl (by omega) ls H locs hP hD hS (lv_sub hl [1, 2, 0] rfl)
            · refine kv_i (y := nI 0) (if_neg b_66) ?_
              refine lv_if_eq (tgt := 94) hx hb dX5_endNight_69 (by decide) (fun _ => ?_) (fun h => absurd h (by decide))
              refine lv_iinc (v := nI ((8 + q) + 1)) (lv' := [(2, .int (nI ((8 + q) + 1))), (0, .ref (ra 0)), (1, .int X.1.2.2.2.2.1)]) hx hb dX5_endNight_94 hl (k := 2) rfl (nI_add (8 + q) 1) (by decide) rfl (fun ls hl => ?_)
              refine lv_goto (tgt := 58) hx hb dX5_endNight_97 (by decide) ?_
              have hP := kP_cell (g := (kEq (kNt ((X.1.1, X.1.2.1, X.1.2.2.1, X.1.2.2.2.1, nI 0, X.1.2.2.2.2.2), X.2.1, X.2.2.1, (X.2.2.2.1.1, X.2.2.2.1.2.1, kgot X.1 X.2.2.2.1 X.1.2.2.2.1), X.2.2.2.2) (min (8 + q + 1) X.2.1.2.2.2.2.2) (min (8 + q + 1 - 8) X.2.2.1.2.2.2.2.2)) (kNtT (kTL X.2.2.2.2) (min (8 + q + 1) X.2.1.2.2.2.2.2)) (kNtT (kTF X.2.2.2.2) (min (8 + q + 1 - 8) X.2.2.1.2.2.2.2.2)) (kCp X.2.2.2.2))) hP 1 rfl (fun _ _ => by rw [show min (8 + q + 1) X.2.1.2.2.2.2.2 = min (8 + q) X.2.1.2.2.2.2.2 from by omega, show min (8 + q + 1 - 8) X.2.2.1.2.2.2.2.2 = min (8 + q - 8) X.2.2.1.2.2.2.2.2 from by omega])
              have hD := hD.set (p := 1) (e := .inl (cy 0, 188, .inl (kEq (kNt ((X.1.1, X.1.2.1, X.1.2.2.1, X.1.2.2.2.1, nI 0, X.1.2.2.2.2.2), X.2.1, X.2.2.1, (X.2.2.2.1.1, X.2.2.2.1.2.1, kgot X.1 X.2.2.2.1 X.1.2.2.2.1), X.2.2.2.2) (min (8 + q + 1) X.2.1.2.2.2.2.2) (min (8 + q + 1 - 8) X.2.2.1.2.2.2.2.2)) (kNtT (kTL X.2.2.2.2) (min (8 + q + 1) X.2.1.2.2.2.2.2)) (kNtT (kTF X.2.2.2.2) (min (8 + q + 1 - 8) X.2.2.1.2.2.2.2.2)) (kCp X.2.2.2.2)))) rfl
              have hP : va_P D vwCl (bkF [mW cy ra (kEq (kNt ((X.1.1, X.1.2.1, X.1.2.2.1, X.1.2.2.2.1, nI 0, X.1.2.2.2.2.2), X.2.1, X.2.2.1, (X.2.2.2.1.1, X.2.2.2.1.2.1, kgot X.1 X.2.2.2.1 X.1.2.2.2.1), X.2.2.2.2) (min (8 + q + 1) X.2.1.2.2.2.2.2) (min (8 + q + 1 - 8) X.2.2.1.2.2.2.2.2)) (kNtT (kTL X.2.2.2.2) (min (8 + q + 1) X.2.1.2.2.2.2.2)) (kNtT (kTF X.2.2.2.2) (min (8 + q + 1 - 8) X.2.2.1.2.2.2.2.2)) (kCp X.2.2.2.2), ((kRsv (kEn X) T.1 T.2.2.1), T.2.1, (kSc T.2.2.1), T.2.2.2))]) H := hP
              have hD : va_D A (bkF [mW cy ra (kEq (kNt ((X.1.1, X.1.2.1, X.1.2.2.1, X.1.2.2.2.1, nI 0, X.1.2.2.2.2.2), X.2.1, X.2.2.1, (X.2.2.2.1.1, X.2.2.2.1.2.1, kgot X.1 X.2.2.2.1 X.1.2.2.2.1), X.2.2.2.2) (min (8 + q + 1) X.2.1.2.2.2.2.2) (min (8 + q + 1 - 8) X.2.2.1.2.2.2.2.2)) (kNtT (kTL X.2.2.2.2) (min (8 + q + 1) X.2.1.2.2.2.2.2)) (kNtT (kTF X.2.2.2.2) (min (8 + q + 1 - 8) X.2.2.1.2.2.2.2.2)) (kCp X.2.2.2.2), ((kRsv (kEn X) T.1 T.2.2.1), T.2.1, (kSc T.2.2.1), T.2.2.2))]) := hD
              exact ih_58 _ (by omega) (8 + q + 1) rfl (by omega) ls H locs hP hD hS (lv_sub hl [1, 2, 0] rfl)
      exact L_58 _ 0  rfl (by omega) ls H locs hP hD hS (lv_sub hl [1, 2, 0] rfl)
    · skip
      have c_22 : ¬ (X.1.2.2.2.1 ≤ i) := fun h => c_22 ((nI_leI (a := X.1.2.2.2.1) (b := i) (by omega) (by omega)).mpr h)
      refine lv_aload_n hx hb dX5_endNight_25 rfl (lv_at hl 0 rfl) ?_
      refine va_get (D := D) (ci := 5) (v := .ref (ra 1)) (C := RX5) (T := TX5) (N := 16) hx hb hts (by decide +kernel) hown hK hP 0 rfl rfl 0 (by decide) (hts (.fieldLink RX5 7 "DanceHallModel" "all" "[I") (by decide +kernel)) (fun _ h9 => h9) rfl dX5_endNight_26 ?_
      refine lv_bipush (v := nI 24) hx hb dX5_endNight_29 (by decide) ?_
      refine lv_iload_n hx hb dX5_endNight_31 rfl (lv_at hl 2 rfl) ?_
      refine lv_iadd hx hb dX5_endNight_32 ?_
      refine kv_i (y := nI (24 + i)) (nI_add 24 i) ?_
      refine lv_dup2_11 hx hb dX5_endNight_33 rfl rfl ?_
      refine va_iald hx hb hK hP 1 0 rfl rfl (vp_in_nI (n := 24 + i) (N := 188) (by omega) (by omega)) dX5_endNight_34 ?_
      refine kv_i (y := kgot X.1 X.2.2.2.1 i i) (by rw [nI_clamp (n := 24 + i) (by omega)]; exact (kq_g (by omega))) ?_
      refine lv_aload_n hx hb dX5_endNight_35 rfl (lv_at hl 0 rfl) ?_
      refine lv_iload_n hx hb dX5_endNight_36 rfl (lv_at hl 2 rfl) ?_
      refine kc_i (Cs := [mW cy ra (kEn (X.1, X.2.1, X.2.2.1, (X.2.2.2.1.1, X.2.2.2.1.2.1, kgot X.1 X.2.2.2.1 i), X.2.2.2.2), ((kRsv (kEn X) T.1 T.2.2.1), T.2.1, (kSc T.2.2.1), T.2.2.2))]) (Rs := []) (Bs := [mW cy ra (kEn (X.1, X.2.1, X.2.2.1, (X.2.2.2.1.1, X.2.2.2.1.2.1, kgot X.1 X.2.2.2.1 i), X.2.2.2.2), ((kRsv (kEn X) T.1 T.2.2.1), T.2.1, (kSc T.2.2.1), T.2.2.2))]) (Cs' := fun u_ : Unit => [mW cy ra (kEn (X.1, X.2.1, X.2.2.1, (X.2.2.2.1.1, X.2.2.2.1.2.1, kgot X.1 X.2.2.2.1 i), X.2.2.2.2), ((kRsv (kEn X) T.1 T.2.2.1), T.2.1, (kSc T.2.2.1), T.2.2.2))]) (Fs := fun u_ : Unit => [mW cy ra (kEn (X.1, X.2.1, X.2.2.1, (X.2.2.2.1.1, X.2.2.2.1.2.1, kgot X.1 X.2.2.2.1 i), X.2.2.2.2), ((kRsv (kEn X) T.1 T.2.2.1), T.2.1, (kSc T.2.2.1), T.2.2.2))]) hP hD hS hA [0] [] [0] rfl rfl (by decide) (by decide) (fun _ => rfl) (va_runV (As := [.int (nI i)]) (rest := [.int (kgot X.1 X.2.2.2.1 i i), .int (nI (24 + i)), .ref (ra 1)]) ⟨hx, hb, hml, hown, hts⟩ (c_X5_share l D cy ra (X.1, X.2.1, X.2.2.1, (X.2.2.2.1.1, X.2.2.2.1.2.1, kgot X.1 X.2.2.2.1 i), X.2.2.2.2) ((kRsv (kEn X) T.1 T.2.2.1), T.2.1, (kSc T.2.2.1), T.2.2.2) i hfn hf1 (by omega) hps H.size) (cwV 1 hts gX5_endNight_X5_share rfl rfl rfl (by decide +kernel) ⟨Nat.le_of_ble_eq_true rfl, Nat.le_of_ble_eq_true rfl⟩) (kPre_V (ci := 5) hK hN hP hD [0] (by decide) rfl 0 rfl rfl) rfl rfl hl.1 rfl (lv_room (Nat.le_of_ble_eq_true rfl)) dX5_endNight_37 ⟨Nat.le_of_ble_eq_true rfl, Nat.le_of_ble_eq_true rfl⟩) (fun r_ u_ H locs hw hP hD hS => ?_)
      have hw : r_ = kcutA X.1.2.2.2.2.1 X.2.2.2.1.2.1 X.1.2.2.2.1 i := hw
      subst hw
      refine lv_iadd hx hb dX5_endNight_40 ?_
      refine va_iast hx hb hK hP hD hS 1 0 rfl rfl (vp_in_nI (n := 24 + i) (N := 188) (by omega) (by omega)) dX5_endNight_41 (fun H locs hP hD hS => ?_)
      rw [nI_clamp (n := 24 + i) (by omega)] at hP hD
      have hP : va_P D vwCl (bkF [mW cy ra (upd (kEn (X.1, X.2.1, X.2.2.1, (X.2.2.2.1.1, X.2.2.2.1.2.1, kgot X.1 X.2.2.2.1 i), X.2.2.2.2)) (24 + i) ((kgot X.1 X.2.2.2.1 i i) + (kcutA X.1.2.2.2.2.1 X.2.2.2.1.2.1 X.1.2.2.2.1 i)), ((kRsv (kEn X) T.1 T.2.2.1), T.2.1, (kSc T.2.2.1), T.2.2.2))]) H := hP
      have hD : va_D A (bkF [mW cy ra (upd (kEn (X.1, X.2.1, X.2.2.1, (X.2.2.2.1.1, X.2.2.2.1.2.1, kgot X.1 X.2.2.2.1 i), X.2.2.2.2)) (24 + i) ((kgot X.1 X.2.2.2.1 i i) + (kcutA X.1.2.2.2.2.1 X.2.2.2.1.2.1 X.1.2.2.2.1 i)), ((kRsv (kEn X) T.1 T.2.2.1), T.2.1, (kSc T.2.2.1), T.2.2.2))]) := hD
      refine lv_iinc (v := nI (i + 1)) (lv' := [(2, .int (nI (i + 1))), (0, .ref (ra 0)), (1, .int X.1.2.2.2.2.1)]) hx hb dX5_endNight_42 hl (k := 2) rfl (nI_add i 1) (by decide) rfl (fun ls hl => ?_)
      refine lv_goto (tgt := 14) hx hb dX5_endNight_45 (by decide) ?_
      have hP := kP_cell (g := (kEn (X.1, X.2.1, X.2.2.1, (X.2.2.2.1.1, X.2.2.2.1.2.1, kgot X.1 X.2.2.2.1 (i + 1)), X.2.2.2.2))) hP 1 rfl (fun j hj => kqu_g (by omega) j hj)
      have hD := hD.set (p := 1) (e := .inl (cy 0, 188, .inl (kEn (X.1, X.2.1, X.2.2.1, (X.2.2.2.1.1, X.2.2.2.1.2.1, kgot X.1 X.2.2.2.1 (i + 1)), X.2.2.2.2)))) rfl
      have hP : va_P D vwCl (bkF [mW cy ra (kEn (X.1, X.2.1, X.2.2.1, (X.2.2.2.1.1, X.2.2.2.1.2.1, kgot X.1 X.2.2.2.1 (i + 1)), X.2.2.2.2), ((kRsv (kEn X) T.1 T.2.2.1), T.2.1, (kSc T.2.2.1), T.2.2.2))]) H := hP
      have hD : va_D A (bkF [mW cy ra (kEn (X.1, X.2.1, X.2.2.1, (X.2.2.2.1.1, X.2.2.2.1.2.1, kgot X.1 X.2.2.2.1 (i + 1)), X.2.2.2.2), ((kRsv (kEn X) T.1 T.2.2.1), T.2.1, (kSc T.2.2.1), T.2.2.2))]) := hD
      exact ih_14 _ (by omega) (i + 1) rfl (by omega) ls H locs hP hD hS (lv_sub hl [1, 2, 0] rfl)
  exact L_14 _ 0  rfl (by omega) ls H locs hP hD hS (lv_sub hl [2, 1, 0] rfl)
abbrev rm_X5_guestOf_t : Room := { frames := 3, cells := 0, slots := 0, locals := 67 }
set_option maxHeartbeats 1000000 in
set_option maxRecDepth 100000 in
/-- guestOf -/
theorem c_X5_guestOf_t (l : Launch) (D : va_G) (cy : Nat → ClassId) (ra : Nat → Nat) (X : rS) (T : rV) (i : Nat) (w : Nat) (hk : kOkR X) (hi : i < X.2.1.2.2.2.2.2) (hw7 : w ≤ 7) (sz : Nat) : Met l yX5_guestOf wsX5_guestOf rm_X5_guestOf_t (va_Pc [.ref (ra 0), .int (nI i), .int (nI w)] (kPre D (kT cy) [mW cy ra (kEn X, T)] sz)) (va_Qi (fun r_ (u_ : (Nat → Int32) × (Nat → Int32) × (Nat → Int32)) => r_ = kGL X.2.2.2.1.1 X.2.1 X.2.2.2.2 i w) (kFr D (kT cy) [mW cy ra (kEn X, T)] sz (fun u_ : (Nat → Int32) × (Nat → Int32) × (Nat → Int32) => [mW cy ra (kEn X, (T.1, T.2.1, T.2.2.1, T.2.2.2.1, u_.1, u_.2.1, u_.2.2, T.2.2.2.2.2.2.2))])) (va_A (bkF [mW cy ra (kEn X, T)]) sz)) 0 0 (va_A (bkF [mW cy ra (kEn X, T)]) sz) := by
  refine kOpen (y := yX5_guestOf) (ws := wsX5_guestOf) (cc := cX5_guestOf) (maxL := 3) (ret := (some .int)) (av := [.ref (ra 0), .int (nI i), .int (nI w)]) (Bs := [mW cy ra (kEn X, T)]) (Qc := fun A => (va_Qi (fun r_ (u_ : (Nat → Int32) × (Nat → Int32) × (Nat → Int32)) => r_ = kGL X.2.2.2.1.1 X.2.1 X.2.2.2.2 i w) (fun (u_ : (Nat → Int32) × (Nat → Int32) × (Nat → Int32)) t9 => kEnd D (kT cy) A [mW cy ra (kEn X, (T.1, T.2.1, T.2.2.1, T.2.2.2.1, u_.1, u_.2.1, u_.2.2, T.2.2.2.2.2.2.2))] t9) A)) (by decide) rfl (Nat.le_of_ble_eq_true rfl) ?_
  intro p e s m args below meth c A Q ls hQ hx hb hml hr hlocks hin hts hown hN hK hP hD hS hA hsz hAe hl
  clear hAe
  have hl : lv_has ls 3 [(0, .ref (ra 0)), (1, .int (nI i)), (2, .int (nI w))] := hl
  suffices K9 : ∀ (H : Heap) (locs : List Loc), va_P D vwCl (bkF [mW cy ra (kEn X, T)]) H → va_S A s.heap H locs → W p l e (headSpec wsX5_guestOf rm_X5_guestOf_t).room s m args below meth c H locs 0 0 Q (F0 m 0 ls []) from K9 _ _ hP hS
  clear hP hS
  intro H locs hP hS
  refine lv_iload_n hx hb dX5_guestOf_0 rfl (lv_at hl 2 rfl) ?_
  have h8i := hk.1.1
  have hrc := kRc_r hk
  rcases (show w = 0 ∨ w = 1 ∨ w = 2 ∨ w = 3 ∨ w = 4 ∨ w = 5 ∨ w = 6 ∨ w = 7 by omega) with h9 | h9 | h9 | h9 | h9 | h9 | h9 | h9
  · skip
    rw [h9]
    refine lv_tableOut (tgt := 81) hx hb dX5_guestOf_1 (by decide) (by decide) ?_
    refine lv_aload_n hx hb dX5_guestOf_81 rfl (lv_at hl 0 rfl) ?_
    refine lv_iload_n hx hb dX5_guestOf_82 rfl (lv_at hl 1 rfl) ?_
    refine lv_iload_n hx hb dX5_guestOf_83 rfl (lv_at hl 2 rfl) ?_
    refine kc_i (Cs := [mW cy ra (kEn X, T)]) (Rs := []) (Bs := [mW cy ra (kEn X, T)]) (Cs' := fun u_ : Unit => [mW cy ra (kEn X, T)]) (Fs := fun u_ : Unit => [mW cy ra (kEn X, T)]) hP hD hS hA [0] [] [0] rfl rfl (by decide) (by decide) (fun _ => rfl) (va_runV (As := [.int (nI i), .int (nI w)]) (rest := []) ⟨hx, hb, hml, hown, hts⟩ (c_X5_of l D cy ra (kEn X) T i w (by first | assumption | omega | decide) (by first | assumption | omega | decide) H.size) (cwV 2 hts gX5_guestOf_X5_of rfl rfl rfl (by decide +kernel) ⟨Nat.le_of_ble_eq_true rfl, Nat.le_of_ble_eq_true rfl⟩) (kPre_V (ci := 5) hK hN hP hD [0] (by decide) rfl 0 rfl rfl) rfl rfl hl.1 rfl (lv_room (Nat.le_of_ble_eq_true rfl)) dX5_guestOf_84 ⟨Nat.le_of_ble_eq_true rfl, Nat.le_of_ble_eq_true rfl⟩) (fun r_ u_ H locs hw hP hD hS => ?_)
    have hw : r_ = (kEn X) (92 + 6 * i + w) := hw
    subst hw
    exact kr_i (post := fun r_ (u_ : (Nat → Int32) × (Nat → Int32) × (Nat → Int32)) => r_ = kGL X.2.2.2.1.1 X.2.1 X.2.2.2.2 i w) (Bs := fun u_ : (Nat → Int32) × (Nat → Int32) × (Nat → Int32) => [mW cy ra (kEn X, (T.1, T.2.1, T.2.2.1, T.2.2.2.1, u_.1, u_.2.1, u_.2.2, T.2.2.2.2.2.2.2))]) hx hb hr hlocks rfl (T.2.2.2.2.1, T.2.2.2.2.2.1, T.2.2.2.2.2.2.1) hP hK hD hS (by rw [h9]; exact ((kq_L (by omega) (by decide)).trans (if_pos hi))) dX5_guestOf_87 hQ
  · skip
    rw [h9]
    refine lv_tableOut (tgt := 81) hx hb dX5_guestOf_1 (by decide) (by decide) ?_
    refine lv_aload_n hx hb dX5_guestOf_81 rfl (lv_at hl 0 rfl) ?_
    refine lv_iload_n hx hb dX5_guestOf_82 rfl (lv_at hl 1 rfl) ?_
    refine lv_iload_n hx hb dX5_guestOf_83 rfl (lv_at hl 2 rfl) ?_
    refine kc_i (Cs := [mW cy ra (kEn X, T)]) (Rs := []) (Bs := [mW cy ra (kEn X, T)]) (Cs' := fun u_ : Unit => [mW cy ra (kEn X, T)]) (Fs := fun u_ : Unit => [mW cy ra (kEn X, T)]) hP hD hS hA [0] [] [0] rfl rfl (by decide) (by decide) (fun _ => rfl) (va_runV (As := [.int (nI i), .int (nI w)]) (rest := []) ⟨hx, hb, hml, hown, hts⟩ (c_X5_of l D cy ra (kEn X) T i w (by first | assumption | omega | decide) (by first | assumption | omega | decide) H.size) (cwV 2 hts gX5_guestOf_X5_of rfl rfl rfl (by decide +kernel) ⟨Nat.le_of_ble_eq_true rfl, Nat.le_of_ble_eq_true rfl⟩) (kPre_V (ci := 5) hK hN hP hD [0] (by decide) rfl 0 rfl rfl) rfl rfl hl.1 rfl (lv_room (Nat.le_of_ble_eq_true rfl)) dX5_guestOf_84 ⟨Nat.le_of_ble_eq_true rfl, Nat.le_of_ble_eq_true rfl⟩) (fun r_ u_ H locs hw hP hD hS => ?_)
    have hw : r_ = (kEn X) (92 + 6 * i + w) := hw
    subst hw
    exact kr_i (post := fun r_ (u_ : (Nat → Int32) × (Nat → Int32) × (Nat → Int32)) => r_ = kGL X.2.2.2.1.1 X.2.1 X.2.2.2.2 i w) (Bs := fun u_ : (Nat → Int32) × (Nat → Int32) × (Nat → Int32) => [mW cy ra (kEn X, (T.1, T.2.1, T.2.2.1, T.2.2.2.1, u_.1, u_.2.1, u_.2.2, T.2.2.2.2.2.2.2))]) hx hb hr hlocks rfl (T.2.2.2.2.1, T.2.2.2.2.2.1, T.2.2.2.2.2.2.1) hP hK hD hS (by rw [h9]; exact ((kq_L (by omega) (by decide)).trans (if_pos hi))) dX5_guestOf_87 hQ
  · skip
    rw [h9]
    refine lv_tableOut (tgt := 81) hx hb dX5_guestOf_1 (by decide) (by decide) ?_
    refine lv_aload_n hx hb dX5_guestOf_81 rfl (lv_at hl 0 rfl) ?_
    refine lv_iload_n hx hb dX5_guestOf_82 rfl (lv_at hl 1 rfl) ?_
    refine lv_iload_n hx hb dX5_guestOf_83 rfl (lv_at hl 2 rfl) ?_
    refine kc_i (Cs := [mW cy ra (kEn X, T)]) (Rs := []) (Bs := [mW cy ra (kEn X, T)]) (Cs' := fun u_ : Unit => [mW cy ra (kEn X, T)]) (Fs := fun u_ : Unit => [mW cy ra (kEn X, T)]) hP hD hS hA [0] [] [0] rfl rfl (by decide) (by decide) (fun _ => rfl) (va_runV (As := [.int (nI i), .int (nI w)]) (rest := []) ⟨hx, hb, hml, hown, hts⟩ (c_X5_of l D cy ra (kEn X) T i w (by first | assumption | omega | decide) (by first | assumption | omega | decide) H.size) (cwV 2 hts gX5_guestOf_X5_of rfl rfl rfl (by decide +kernel) ⟨Nat.le_of_ble_eq_true rfl, Nat.le_of_ble_eq_true rfl⟩) (kPre_V (ci := 5) hK hN hP hD [0] (by decide) rfl 0 rfl rfl) rfl rfl hl.1 rfl (lv_room (Nat.le_of_ble_eq_true rfl)) dX5_guestOf_84 ⟨Nat.le_of_ble_eq_true rfl, Nat.le_of_ble_eq_true rfl⟩) (fun r_ u_ H locs hw hP hD hS => ?_)
    have hw : r_ = (kEn X) (92 + 6 * i + w) := hw
    subst hw
    exact kr_i (post := fun r_ (u_ : (Nat → Int32) × (Nat → Int32) × (Nat → Int32)) => r_ = kGL X.2.2.2.1.1 X.2.1 X.2.2.2.2 i w) (Bs := fun u_ : (Nat → Int32) × (Nat → Int32) × (Nat → Int32) => [mW cy ra (kEn X, (T.1, T.2.1, T.2.2.1, T.2.2.2.1, u_.1, u_.2.1, u_.2.2, T.2.2.2.2.2.2.2))]) hx hb hr hlocks rfl (T.2.2.2.2.1, T.2.2.2.2.2.1, T.2.2.2.2.2.2.1) hP hK hD hS (by rw [h9]; exact ((kq_L (by omega) (by decide)).trans (if_pos hi))) dX5_guestOf_87 hQ
  · skip
    rw [h9]
    refine lv_tableOut (tgt := 81) hx hb dX5_guestOf_1 (by decide) (by decide) ?_
    refine lv_aload_n hx hb dX5_guestOf_81 rfl (lv_at hl 0 rfl) ?_
    refine lv_iload_n hx hb dX5_guestOf_82 rfl (lv_at hl 1 rfl) ?_
    refine lv_iload_n hx hb dX5_guestOf_83 rfl (lv_at hl 2 rfl) ?_
    refine kc_i (Cs := [mW cy ra (kEn X, T)]) (Rs := []) (Bs := [mW cy ra (kEn X, T)]) (Cs' := fun u_ : Unit => [mW cy ra (kEn X, T)]) (Fs := fun u_ : Unit => [mW cy ra (kEn X, T)]) hP hD hS hA [0] [] [0] rfl rfl (by decide) (by decide) (fun _ => rfl) (va_runV (As := [.int (nI i), .int (nI w)]) (rest := []) ⟨hx, hb, hml, hown, hts⟩ (c_X5_of l D cy ra (kEn X) T i w (by first | assumption | omega | decide) (by first | assumption | omega | decide) H.size) (cwV 2 hts gX5_guestOf_X5_of rfl rfl rfl (by decide +kernel) ⟨Nat.le_of_ble_eq_true rfl, Nat.le_of_ble_eq_true rfl⟩) (kPre_V (ci := 5) hK hN hP hD [0] (by decide) rfl 0 rfl rfl) rfl rfl hl.1 rfl (lv_room (Nat.le_of_ble_eq_true rfl)) dX5_guestOf_84 ⟨Nat.le_of_ble_eq_true rfl, Nat.le_of_ble_eq_true rfl⟩) (fun r_ u_ H locs hw hP hD hS => ?_)
    have hw : r_ = (kEn X) (92 + 6 * i + w) := hw
    subst hw
    exact kr_i (post := fun r_ (u_ : (Nat → Int32) × (Nat → Int32) × (Nat → Int32)) => r_ = kGL X.2.2.2.1.1 X.2.1 X.2.2.2.2 i w) (Bs := fun u_ : (Nat → Int32) × (Nat → Int32) × (Nat → Int32) => [mW cy ra (kEn X, (T.1, T.2.1, T.2.2.1, T.2.2.2.1, u_.1, u_.2.1, u_.2.2, T.2.2.2.2.2.2.2))]) hx hb hr hlocks rfl (T.2.2.2.2.1, T.2.2.2.2.2.1, T.2.2.2.2.2.2.1) hP hK hD hS (by rw [h9]; exact ((kq_L (by omega) (by decide)).trans (if_pos hi))) dX5_guestOf_87 hQ
  · skip
    rw [h9]
    refine lv_tableIn (off := 31) (tgt := 32) hx hb dX5_guestOf_1 (by decide) (by decide) (by decide) (by decide) ?_
    refine lv_aload_n hx hb dX5_guestOf_32 rfl (lv_at hl 0 rfl) ?_
    refine kc_i (Cs := [mW cy ra (kEn X, T)]) (Rs := []) (Bs := [mW cy ra (kEn X, T)]) (Cs' := fun u_ : Unit => [mW cy ra (kEn X, (T.1, T.2.1, T.2.2.1, T.2.2.2.1, kLft T.2.2.2.2.1 X, kLnt X, kCan X, T.2.2.2.2.2.2.2))]) (Fs := fun u_ : Unit => [mW cy ra (kEn X, (T.1, T.2.1, T.2.2.1, T.2.2.2.1, kLft T.2.2.2.2.1 X, kLnt X, kCan X, T.2.2.2.2.2.2.2))]) hP hD hS hA [0] [] [0] rfl rfl (by decide) (by decide) (fun _ => rfl) (va_runV (As := []) (rest := []) ⟨hx, hb, hml, hown, hts⟩ (c_X5_lends l D cy ra X T (by first | assumption | omega | decide) H.size) (cwV 0 hts gX5_guestOf_X5_lends rfl rfl rfl (by decide +kernel) ⟨Nat.le_of_ble_eq_true rfl, Nat.le_of_ble_eq_true rfl⟩) (kPre_V (ci := 5) hK hN hP hD [0] (by decide) rfl 0 rfl rfl) rfl rfl hl.1 rfl (lv_room (Nat.le_of_ble_eq_true rfl)) dX5_guestOf_33 ⟨Nat.le_of_ble_eq_true rfl, Nat.le_of_ble_eq_true rfl⟩) (fun r_ u_ H locs hw hP hD hS => ?_)
    have hw : r_ = nI (kRc X.2.2.2.1.1 X.2.1 X.2.2.1 0) := hw
    subst hw
    refine lv_if_lt (tgt := 52) hx hb dX5_guestOf_36 (by decide) (fun c_36 => False.elim ?_) (fun c_36 => ?_)
    · skip
      have c_36 : (kRc X.2.2.2.1.1 X.2.1 X.2.2.1 0) < 0 := (nI_ltI (a := kRc X.2.2.2.1.1 X.2.1 X.2.2.1 0) (b := 0) (by omega) (by omega)).mp c_36
      omega
    · skip
      have c_36 : ¬ ((kRc X.2.2.2.1.1 X.2.1 X.2.2.1 0) < 0) := fun h => c_36 ((nI_ltI (a := kRc X.2.2.2.1.1 X.2.1 X.2.2.1 0) (b := 0) (by omega) (by omega)).mpr h)
      refine lv_aload_n hx hb dX5_guestOf_39 rfl (lv_at hl 0 rfl) ?_
      refine va_get (D := D) (ci := 5) (v := .ref (ra 6)) (C := RX5) (T := TX5) (N := 16) hx hb hts (by decide +kernel) hown hK hP 0 rfl rfl 7 (by decide) (hts (.fieldLink RX5 25 "DanceHallModel" "can" "[Z") (by decide +kernel)) (fun _ h9 => h9) rfl dX5_guestOf_40 ?_
      refine lv_iload_n hx hb dX5_guestOf_43 rfl (lv_at hl 1 rfl) ?_
      refine va_zald hx hb hK hP 6 1 rfl rfl (vp_in_nI (n := i) (N := 16) (by omega) (by omega)) dX5_guestOf_44 ?_
      refine kv_i (y := (kCan X) i) (congrArg (kCan X) (nI_clamp (n := i) (by omega))) ?_
      refine lv_if_eq (tgt := 52) hx hb dX5_guestOf_45 (by decide) (fun c_45 => ?_) (fun c_45 => ?_)
      · skip
        refine lv_iconst (v := nI 0) hx hb dX5_guestOf_52 (by decide) ?_
        exact kr_i (post := fun r_ (u_ : (Nat → Int32) × (Nat → Int32) × (Nat → Int32)) => r_ = kGL X.2.2.2.1.1 X.2.1 X.2.2.2.2 i w) (Bs := fun u_ : (Nat → Int32) × (Nat → Int32) × (Nat → Int32) => [mW cy ra (kEn X, (T.1, T.2.1, T.2.2.1, T.2.2.2.1, u_.1, u_.2.1, u_.2.2, T.2.2.2.2.2.2.2))]) hx hb hr hlocks rfl (kLft T.2.2.2.2.1 X, kLnt X, kCan X) hP hK hD hS (by rw [h9]; exact (if_neg (fun h => (kCan_L (by omega)).mpr (kbit1.mp h) c_45)).symm) dX5_guestOf_53 hQ
      · skip
        refine lv_iconst (v := nI 1) hx hb dX5_guestOf_48 (by decide) ?_
        refine lv_goto (tgt := 53) hx hb dX5_guestOf_49 (by decide) ?_
        exact kr_i (post := fun r_ (u_ : (Nat → Int32) × (Nat → Int32) × (Nat → Int32)) => r_ = kGL X.2.2.2.1.1 X.2.1 X.2.2.2.2 i w) (Bs := fun u_ : (Nat → Int32) × (Nat → Int32) × (Nat → Int32) => [mW cy ra (kEn X, (T.1, T.2.1, T.2.2.1, T.2.2.2.1, u_.1, u_.2.1, u_.2.2, T.2.2.2.2.2.2.2))]) hx hb hr hlocks rfl (kLft T.2.2.2.2.1 X, kLnt X, kCan X) hP hK hD hS (by rw [h9]; exact (if_pos (kbit1.mpr ((kCan_L (by omega)).mp c_45))).symm) dX5_guestOf_53 hQ
  · skip
    rw [h9]
    refine lv_tableIn (off := 53) (tgt := 54) hx hb dX5_guestOf_1 (by decide) (by decide) (by decide) (by decide) ?_
    refine lv_aload_n hx hb dX5_guestOf_54 rfl (lv_at hl 0 rfl) ?_
    refine kc_i (Cs := [mW cy ra (kEn X, T)]) (Rs := []) (Bs := [mW cy ra (kEn X, T)]) (Cs' := fun u_ : Unit => [mW cy ra (kEn X, (T.1, T.2.1, T.2.2.1, T.2.2.2.1, kLft T.2.2.2.2.1 X, kLnt X, kCan X, T.2.2.2.2.2.2.2))]) (Fs := fun u_ : Unit => [mW cy ra (kEn X, (T.1, T.2.1, T.2.2.1, T.2.2.2.1, kLft T.2.2.2.2.1 X, kLnt X, kCan X, T.2.2.2.2.2.2.2))]) hP hD hS hA [0] [] [0] rfl rfl (by decide) (by decide) (fun _ => rfl) (va_runV (As := []) (rest := []) ⟨hx, hb, hml, hown, hts⟩ (c_X5_lends l D cy ra X T (by first | assumption | omega | decide) H.size) (cwV 0 hts gX5_guestOf_X5_lends rfl rfl rfl (by decide +kernel) ⟨Nat.le_of_ble_eq_true rfl, Nat.le_of_ble_eq_true rfl⟩) (kPre_V (ci := 5) hK hN hP hD [0] (by decide) rfl 0 rfl rfl) rfl rfl hl.1 rfl (lv_room (Nat.le_of_ble_eq_true rfl)) dX5_guestOf_55 ⟨Nat.le_of_ble_eq_true rfl, Nat.le_of_ble_eq_true rfl⟩) (fun r_ u_ H locs hw hP hD hS => ?_)
    have hw : r_ = nI (kRc X.2.2.2.1.1 X.2.1 X.2.2.1 0) := hw
    subst hw
    refine lv_if_lt (tgt := 70) hx hb dX5_guestOf_58 (by decide) (fun c_58 => False.elim ?_) (fun c_58 => ?_)
    · skip
      have c_58 : (kRc X.2.2.2.1.1 X.2.1 X.2.2.1 0) < 0 := (nI_ltI (a := kRc X.2.2.2.1.1 X.2.1 X.2.2.1 0) (b := 0) (by omega) (by omega)).mp c_58
      omega
    · skip
      have c_58 : ¬ ((kRc X.2.2.2.1.1 X.2.1 X.2.2.1 0) < 0) := fun h => c_58 ((nI_ltI (a := kRc X.2.2.2.1.1 X.2.1 X.2.2.1 0) (b := 0) (by omega) (by omega)).mpr h)
      refine lv_aload_n hx hb dX5_guestOf_61 rfl (lv_at hl 0 rfl) ?_
      refine va_get (D := D) (ci := 5) (v := .ref (ra 5)) (C := RX5) (T := TX5) (N := 16) hx hb hts (by decide +kernel) hown hK hP 0 rfl rfl 6 (by decide) (hts (.fieldLink RX5 22 "DanceHallModel" "lent" "[I") (by decide +kernel)) (fun _ h9 => h9) rfl dX5_guestOf_62 ?_
      refine lv_iload_n hx hb dX5_guestOf_65 rfl (lv_at hl 1 rfl) ?_
      refine va_iald hx hb hK hP 5 0 rfl rfl (vp_in_nI (n := i) (N := 16) (by omega) (by omega)) dX5_guestOf_66 ?_
      refine kv_i (y := (kLnt X) i) (congrArg (kLnt X) (nI_clamp (n := i) (by omega))) ?_
      refine lv_goto (tgt := 71) hx hb dX5_guestOf_67 (by decide) ?_
      exact kr_i (post := fun r_ (u_ : (Nat → Int32) × (Nat → Int32) × (Nat → Int32)) => r_ = kGL X.2.2.2.1.1 X.2.1 X.2.2.2.2 i w) (Bs := fun u_ : (Nat → Int32) × (Nat → Int32) × (Nat → Int32) => [mW cy ra (kEn X, (T.1, T.2.1, T.2.2.1, T.2.2.2.1, u_.1, u_.2.1, u_.2.2, T.2.2.2.2.2.2.2))]) hx hb hr hlocks rfl (kLft T.2.2.2.2.1 X, kLnt X, kCan X) hP hK hD hS (by rw [h9]; exact kLnt_L (by omega) hi) dX5_guestOf_71 hQ
  · skip
    rw [h9]
    refine lv_tableIn (off := 71) (tgt := 72) hx hb dX5_guestOf_1 (by decide) (by decide) (by decide) (by decide) ?_
    refine lv_aload_n hx hb dX5_guestOf_72 rfl (lv_at hl 0 rfl) ?_
    refine lv_iload_n hx hb dX5_guestOf_73 rfl (lv_at hl 1 rfl) ?_
    refine lv_iload_n hx hb dX5_guestOf_74 rfl (lv_at hl 2 rfl) ?_
    refine lv_iconst (v := nI 2) hx hb dX5_guestOf_75 (by decide) ?_
    refine lv_isub hx hb dX5_guestOf_76 ?_
    refine kv_i (y := nI (w - 2)) (pk_sub (a := w) (b := 2) (by omega)) ?_
    refine kc_i (Cs := [mW cy ra (kEn X, T)]) (Rs := []) (Bs := [mW cy ra (kEn X, T)]) (Cs' := fun u_ : Unit => [mW cy ra (kEn X, T)]) (Fs := fun u_ : Unit => [mW cy ra (kEn X, T)]) hP hD hS hA [0] [] [0] rfl rfl (by decide) (by decide) (fun _ => rfl) (va_runV (As := [.int (nI i), .int (nI (w - 2))]) (rest := []) ⟨hx, hb, hml, hown, hts⟩ (c_X5_of l D cy ra (kEn X) T i (w - 2) (by first | assumption | omega | decide) (by first | assumption | omega | decide) H.size) (cwV 2 hts gX5_guestOf_X5_of rfl rfl rfl (by decide +kernel) ⟨Nat.le_of_ble_eq_true rfl, Nat.le_of_ble_eq_true rfl⟩) (kPre_V (ci := 5) hK hN hP hD [0] (by decide) rfl 0 rfl rfl) rfl rfl hl.1 rfl (lv_room (Nat.le_of_ble_eq_true rfl)) dX5_guestOf_77 ⟨Nat.le_of_ble_eq_true rfl, Nat.le_of_ble_eq_true rfl⟩) (fun r_ u_ H locs hw hP hD hS => ?_)
    have hw : r_ = (kEn X) (92 + 6 * i + (w - 2)) := hw
    subst hw
    exact kr_i (post := fun r_ (u_ : (Nat → Int32) × (Nat → Int32) × (Nat → Int32)) => r_ = kGL X.2.2.2.1.1 X.2.1 X.2.2.2.2 i w) (Bs := fun u_ : (Nat → Int32) × (Nat → Int32) × (Nat → Int32) => [mW cy ra (kEn X, (T.1, T.2.1, T.2.2.1, T.2.2.2.1, u_.1, u_.2.1, u_.2.2, T.2.2.2.2.2.2.2))]) hx hb hr hlocks rfl (T.2.2.2.2.1, T.2.2.2.2.2.1, T.2.2.2.2.2.2.1) hP hK hD hS (by rw [h9]; exact ((kq_L (by omega) (by decide)).trans (if_pos hi))) dX5_guestOf_80 hQ
  · skip
    rw [h9]
    refine lv_tableIn (off := 71) (tgt := 72) hx hb dX5_guestOf_1 (by decide) (by decide) (by decide) (by decide) ?_
    refine lv_aload_n hx hb dX5_guestOf_72 rfl (lv_at hl 0 rfl) ?_
    refine lv_iload_n hx hb dX5_guestOf_73 rfl (lv_at hl 1 rfl) ?_
    refine lv_iload_n hx hb dX5_guestOf_74 rfl (lv_at hl 2 rfl) ?_
    refine lv_iconst (v := nI 2) hx hb dX5_guestOf_75 (by decide) ?_
    refine lv_isub hx hb dX5_guestOf_76 ?_
    refine kv_i (y := nI (w - 2)) (pk_sub (a := w) (b := 2) (by omega)) ?_
    refine kc_i (Cs := [mW cy ra (kEn X, T)]) (Rs := []) (Bs := [mW cy ra (kEn X, T)]) (Cs' := fun u_ : Unit => [mW cy ra (kEn X, T)]) (Fs := fun u_ : Unit => [mW cy ra (kEn X, T)]) hP hD hS hA [0] [] [0] rfl rfl (by decide) (by decide) (fun _ => rfl) (va_runV (As := [.int (nI i), .int (nI (w - 2))]) (rest := []) ⟨hx, hb, hml, hown, hts⟩ (c_X5_of l D cy ra (kEn X) T i (w - 2) (by first | assumption | omega | decide) (by first | assumption | omega | decide) H.size) (cwV 2 hts gX5_guestOf_X5_of rfl rfl rfl (by decide +kernel) ⟨Nat.le_of_ble_eq_true rfl, Nat.le_of_ble_eq_true rfl⟩) (kPre_V (ci := 5) hK hN hP hD [0] (by decide) rfl 0 rfl rfl) rfl rfl hl.1 rfl (lv_room (Nat.le_of_ble_eq_true rfl)) dX5_guestOf_77 ⟨Nat.le_of_ble_eq_true rfl, Nat.le_of_ble_eq_true rfl⟩) (fun r_ u_ H locs hw hP hD hS => ?_)
    have hw : r_ = (kEn X) (92 + 6 * i + (w - 2)) := hw
    subst hw
    exact kr_i (post := fun r_ (u_ : (Nat → Int32) × (Nat → Int32) × (Nat → Int32)) => r_ = kGL X.2.2.2.1.1 X.2.1 X.2.2.2.2 i w) (Bs := fun u_ : (Nat → Int32) × (Nat → Int32) × (Nat → Int32) => [mW cy ra (kEn X, (T.1, T.2.1, T.2.2.1, T.2.2.2.1, u_.1, u_.2.1, u_.2.2, T.2.2.2.2.2.2.2))]) hx hb hr hlocks rfl (T.2.2.2.2.1, T.2.2.2.2.2.1, T.2.2.2.2.2.2.1) hP hK hD hS (by rw [h9]; exact ((kq_L (by omega) (by decide)).trans (if_pos hi))) dX5_guestOf_80 hQ
abbrev rm_X5_guest_t : Room := { frames := 4, cells := 0, slots := 0, locals := 89 }
set_option maxHeartbeats 1000000 in
set_option maxRecDepth 100000 in
/-- guest -/
theorem c_X5_guest_t (l : Launch) (D : va_G) (cy : Nat → ClassId) (ra : Nat → Nat) (X : rS) (T : rV) (x : Int32) (i : Nat) (w : Nat) (hx0 : ¬ x = 0) (hk : kOkR X) (hi : i < X.2.1.2.2.2.2.2) (hw7 : w ≤ 7) (sz : Nat) : Met l yX5_guest wsX5_guest rm_X5_guest_t (va_Pc [.ref (ra 0), .int x, .int (nI i), .int (nI w)] (kPre D (kT cy) [mW cy ra (kEn X, T)] sz)) (va_Qi (fun r_ (u_ : (Nat → Int32) × (Nat → Int32) × (Nat → Int32)) => r_ = kGL X.2.2.2.1.1 X.2.1 X.2.2.2.2 i w) (kFr D (kT cy) [mW cy ra (kEn X, T)] sz (fun u_ : (Nat → Int32) × (Nat → Int32) × (Nat → Int32) => [mW cy ra (kEn X, (T.1, T.2.1, T.2.2.1, nI 0, u_.1, u_.2.1, u_.2.2, T.2.2.2.2.2.2.2))])) (va_A (bkF [mW cy ra (kEn X, T)]) sz)) 0 0 (va_A (bkF [mW cy ra (kEn X, T)]) sz) := by
  refine kOpen (y := yX5_guest) (ws := wsX5_guest) (cc := cX5_guest) (maxL := 4) (ret := (some .int)) (av := [.ref (ra 0), .int x, .int (nI i), .int (nI w)]) (Bs := [mW cy ra (kEn X, T)]) (Qc := fun A => (va_Qi (fun r_ (u_ : (Nat → Int32) × (Nat → Int32) × (Nat → Int32)) => r_ = kGL X.2.2.2.1.1 X.2.1 X.2.2.2.2 i w) (fun (u_ : (Nat → Int32) × (Nat → Int32) × (Nat → Int32)) t9 => kEnd D (kT cy) A [mW cy ra (kEn X, (T.1, T.2.1, T.2.2.1, nI 0, u_.1, u_.2.1, u_.2.2, T.2.2.2.2.2.2.2))] t9) A)) (by decide) rfl (Nat.le_of_ble_eq_true rfl) ?_
  intro p e s m args below meth c A Q ls hQ hx hb hml hr hlocks hin hts hown hN hK hP hD hS hA hsz hAe hl
  clear hAe
  have hl : lv_has ls 4 [(0, .ref (ra 0)), (1, .int x), (2, .int (nI i)), (3, .int (nI w))] := hl
  suffices K9 : ∀ (H : Heap) (locs : List Loc), va_P D vwCl (bkF [mW cy ra (kEn X, T)]) H → va_S A s.heap H locs → W p l e (headSpec wsX5_guest rm_X5_guest_t).room s m args below meth c H locs 0 0 Q (F0 m 0 ls []) from K9 _ _ hP hS
  clear hP hS
  intro H locs hP hS
  have h8i := hk.1.1
  refine lv_aload_n hx hb dX5_guest_0 rfl (lv_at hl 0 rfl) ?_
  refine lv_iload_n hx hb dX5_guest_1 rfl (lv_at hl 1 rfl) ?_
  refine lv_iload_n hx hb dX5_guest_2 rfl (lv_at hl 2 rfl) ?_
  refine kc_i (Cs := [mW cy ra (kEn X, T)]) (Rs := []) (Bs := [mW cy ra (kEn X, T)]) (Cs' := fun u_ : Unit => [mW cy ra (kEn X, T)]) (Fs := fun u_ : Unit => [mW cy ra (kEn X, T)]) hP hD hS hA [0] [] [0] rfl rfl (by decide) (by decide) (fun _ => rfl) (va_runV (As := [.int x, .int (nI i)]) (rest := []) ⟨hx, hb, hml, hown, hts⟩ (c_X5_isGuest_t l D cy ra X T x (nI i) hx0 hk.1.1 H.size) (cwV 2 hts gX5_guest_X5_isGuest rfl rfl rfl (by decide +kernel) ⟨Nat.le_of_ble_eq_true rfl, Nat.le_of_ble_eq_true rfl⟩) (kPre_V (ci := 5) hK hN hP hD [0] (by decide) rfl 0 rfl rfl) rfl rfl hl.1 rfl (lv_room (Nat.le_of_ble_eq_true rfl)) dX5_guest_3 ⟨Nat.le_of_ble_eq_true rfl, Nat.le_of_ble_eq_true rfl⟩) (fun r_ u_ H locs hw hP hD hS => ?_)
  have hw : r_ = if ¬ (nI i) < nI 0 ∧ ¬ nI X.2.1.2.2.2.2.2 ≤ (nI i) then nI 1 else nI 0 := hw
  subst hw
  refine kv_i (y := nI 1) (if_pos (khas (by omega) (by omega))) ?_
  refine lv_if_ne (tgt := 15) hx hb dX5_guest_6 (by decide) (fun _ => ?_) (fun h => absurd h (by decide))
  refine lv_iload_n hx hb dX5_guest_15 rfl (lv_at hl 3 rfl) ?_
  refine lv_i2l (v := (nI w).toInt64) hx hb dX5_guest_16 rfl ?_
  refine lv_lconst (v := 0) hx hb dX5_guest_17 (by decide) ?_
  refine lv_ldc2 hx hb hown (hts (.constantLong RX5 144 (7)) (by decide +kernel)) dX5_guest_18 ?_
  refine kc_i (Cs := []) (Rs := [mW cy ra (kEn X, T)]) (Bs := [mW cy ra (kEn X, T)]) (Cs' := fun u_ : Unit => []) (Fs := fun u_ : Unit => [mW cy ra (kEn X, T)]) hP hD hS hA [] [0] [0] rfl rfl (by decide) (by decide) (fun _ => rfl) (va_runS (As := [.long ((nI w).toInt64), .long 0, .long (7)]) (rest := []) ⟨hx, hb, hml, hown, hts⟩ (c_X5_in l D cy ((nI w).toInt64) 0 (7) H.size) (va_cwS 3 hts gX5_guest_X5_in rfl rfl rfl (by decide +kernel) ⟨Nat.le_of_ble_eq_true rfl, Nat.le_of_ble_eq_true rfl⟩) (kPre_S hK hN hP hD [] (by decide) rfl) rfl rfl hl.1 rfl (lv_room (Nat.le_of_ble_eq_true rfl)) dX5_guest_21 ⟨Nat.le_of_ble_eq_true rfl, Nat.le_of_ble_eq_true rfl⟩) (fun r_ u_ H locs hw hP hD hS => ?_)
  have hw : r_ = if kIn ((nI w).toInt64) 0 (7) then nI 1 else nI 0 := hw
  subst hw
  refine kv_i (y := nI 1) (if_pos ((kIn32 (y := nI 0) (z := nI 7) (by decide) (by decide)).mpr (kwin (by omega) (by omega) (by decide)))) ?_
  refine lv_if_eq (tgt := 44) hx hb dX5_guest_24 (by decide) (fun h => absurd h (by decide)) (fun _ => ?_)
  refine lv_aload_n hx hb dX5_guest_27 rfl (lv_at hl 0 rfl) ?_
  refine lv_aload_n hx hb dX5_guest_28 rfl (lv_at hl 0 rfl) ?_
  refine lv_iload_n hx hb dX5_guest_29 rfl (lv_at hl 1 rfl) ?_
  refine lv_iload_n hx hb dX5_guest_30 rfl (lv_at hl 2 rfl) ?_
  refine kc_i (Cs := []) (Rs := [mW cy ra (kEn X, T)]) (Bs := [mW cy ra (kEn X, T)]) (Cs' := fun u_ : Unit => []) (Fs := fun u_ : Unit => [mW cy ra (kEn X, T)]) hP hD hS hA [] [0] [0] rfl rfl (by decide) (by decide) (fun _ => rfl) (va_runS (As := [.int x, .int (nI i)]) (rest := [.ref (ra 0), .ref (ra 0)]) ⟨hx, hb, hml, hown, hts⟩ (c_X5_person_t l D cy x i hx0 H.size) (va_cwS 2 hts gX5_guest_X5_person rfl rfl rfl (by decide +kernel) ⟨Nat.le_of_ble_eq_true rfl, Nat.le_of_ble_eq_true rfl⟩) (kPre_S hK hN hP hD [] (by decide) rfl) rfl rfl hl.1 rfl (lv_room (Nat.le_of_ble_eq_true rfl)) dX5_guest_31 ⟨Nat.le_of_ble_eq_true rfl, Nat.le_of_ble_eq_true rfl⟩) (fun r_ u_ H locs hw hP hD hS => ?_)
  have hw : r_ = nI i := hw
  subst hw
  refine lv_iload_n hx hb dX5_guest_34 rfl (lv_at hl 3 rfl) ?_
  refine kc_i (Cs := [mW cy ra (kEn X, T)]) (Rs := []) (Bs := [mW cy ra (kEn X, T)]) (Cs' := fun u_ : (Nat → Int32) × (Nat → Int32) × (Nat → Int32) => [mW cy ra (kEn X, (T.1, T.2.1, T.2.2.1, T.2.2.2.1, u_.1, u_.2.1, u_.2.2, T.2.2.2.2.2.2.2))]) (Fs := fun u_ : (Nat → Int32) × (Nat → Int32) × (Nat → Int32) => [mW cy ra (kEn X, (T.1, T.2.1, T.2.2.1, T.2.2.2.1, u_.1, u_.2.1, u_.2.2, T.2.2.2.2.2.2.2))]) hP hD hS hA [0] [] [0] rfl rfl (by decide) (by decide) (fun _ => rfl) (va_runV (As := [.int (nI i), .int (nI w)]) (rest := [.ref (ra 0)]) ⟨hx, hb, hml, hown, hts⟩ (c_X5_guestOf_t l D cy ra X T i w hk (by first | assumption | omega | decide) (by first | assumption | omega | decide) H.size) (cwV 2 hts gX5_guest_X5_guestOf rfl rfl rfl (by decide +kernel) ⟨Nat.le_of_ble_eq_true rfl, Nat.le_of_ble_eq_true rfl⟩) (kPre_V (ci := 5) hK hN hP hD [0] (by decide) rfl 0 rfl rfl) rfl rfl hl.1 rfl (lv_room (Nat.le_of_ble_eq_true rfl)) dX5_guest_35 ⟨Nat.le_of_ble_eq_true rfl, Nat.le_of_ble_eq_true rfl⟩) (fun r_ u_ H locs hw hP hD hS => ?_)
  obtain ⟨e5_35, e6_35, e7_35⟩ := u_
  have hP : va_P D vwCl (bkF [mW cy ra (kEn X, (T.1, T.2.1, T.2.2.1, T.2.2.2.1, e5_35, e6_35, e7_35, T.2.2.2.2.2.2.2))]) H := hP
  have hD : va_D A (bkF [mW cy ra (kEn X, (T.1, T.2.1, T.2.2.1, T.2.2.2.1, e5_35, e6_35, e7_35, T.2.2.2.2.2.2.2))]) := hD
  have hw : r_ = kGL X.2.2.2.1.1 X.2.1 X.2.2.2.2 i w := hw
  subst hw
  refine kc_i (Cs := [mW cy ra (kEn X, (T.1, T.2.1, T.2.2.1, T.2.2.2.1, e5_35, e6_35, e7_35, T.2.2.2.2.2.2.2))]) (Rs := []) (Bs := [mW cy ra (kEn X, (T.1, T.2.1, T.2.2.1, T.2.2.2.1, e5_35, e6_35, e7_35, T.2.2.2.2.2.2.2))]) (Cs' := fun u_ : Unit => [mW cy ra ((kEn X), (T.1, T.2.1, T.2.2.1, nI 0, e5_35, e6_35, e7_35, T.2.2.2.2.2.2.2))]) (Fs := fun u_ : Unit => [mW cy ra ((kEn X), (T.1, T.2.1, T.2.2.1, nI 0, e5_35, e6_35, e7_35, T.2.2.2.2.2.2.2))]) hP hD hS hA [0] [] [0] rfl rfl (by decide) (by decide) (fun _ => rfl) (va_runV (As := [.int (kGL X.2.2.2.1.1 X.2.1 X.2.2.2.2 i w)]) (rest := []) ⟨hx, hb, hml, hown, hts⟩ (c_X5_fine l D cy ra (kEn X) (T.1, T.2.1, T.2.2.1, T.2.2.2.1, e5_35, e6_35, e7_35, T.2.2.2.2.2.2.2) (kGL X.2.2.2.1.1 X.2.1 X.2.2.2.2 i w) H.size) (cwV 1 hts gX5_guest_X5_fine rfl rfl rfl (by decide +kernel) ⟨Nat.le_of_ble_eq_true rfl, Nat.le_of_ble_eq_true rfl⟩) (kPre_V (ci := 5) hK hN hP hD [0] (by decide) rfl 0 rfl rfl) rfl rfl hl.1 rfl (lv_room (Nat.le_of_ble_eq_true rfl)) dX5_guest_38 ⟨Nat.le_of_ble_eq_true rfl, Nat.le_of_ble_eq_true rfl⟩) (fun r_ u_ H locs hw hP hD hS => ?_)
  have hw : r_ = (kGL X.2.2.2.1.1 X.2.1 X.2.2.2.2 i w) := hw
  subst hw
  refine lv_goto (tgt := 49) hx hb dX5_guest_41 (by decide) ?_
  exact kr_i (post := fun r_ (u_ : (Nat → Int32) × (Nat → Int32) × (Nat → Int32)) => r_ = kGL X.2.2.2.1.1 X.2.1 X.2.2.2.2 i w) (Bs := fun u_ : (Nat → Int32) × (Nat → Int32) × (Nat → Int32) => [mW cy ra (kEn X, (T.1, T.2.1, T.2.2.1, nI 0, u_.1, u_.2.1, u_.2.2, T.2.2.2.2.2.2.2))]) hx hb hr hlocks rfl (e5_35, e6_35, e7_35) hP hK hD hS rfl dX5_guest_49 hQ
abbrev rm_X5_guest_it : Room := { frames := 2, cells := 0, slots := 0, locals := 47 }
set_option maxHeartbeats 1000000 in
set_option maxRecDepth 100000 in
/-- guest, no guest -/
theorem c_X5_guest_it (l : Launch) (D : va_G) (cy : Nat → ClassId) (ra : Nat → Nat) (X : rS) (T : rV) (x : Int32) (i : Int32) (w : Int32) (hx0 : ¬ x = 0) (hn : X.2.1.2.2.2.2.2 ≤ 8) (hbad : ¬ (¬ i < nI 0 ∧ ¬ nI X.2.1.2.2.2.2.2 ≤ i)) (sz : Nat) : Met l yX5_guest wsX5_guest rm_X5_guest_it (va_Pc [.ref (ra 0), .int x, .int i, .int w] (kPre D (kT cy) [mW cy ra (kEn X, T)] sz)) (va_Qi (fun r_ (u_ : Unit) => r_ = nI 0) (kFr D (kT cy) [mW cy ra (kEn X, T)] sz (fun u_ : Unit => [mW cy ra (kEn X, (T.1, T.2.1, T.2.2.1, nI 1, T.2.2.2.2))])) (va_A (bkF [mW cy ra (kEn X, T)]) sz)) 0 0 (va_A (bkF [mW cy ra (kEn X, T)]) sz) := by
  refine kOpen (y := yX5_guest) (ws := wsX5_guest) (cc := cX5_guest) (maxL := 4) (ret := (some .int)) (av := [.ref (ra 0), .int x, .int i, .int w]) (Bs := [mW cy ra (kEn X, T)]) (Qc := fun A => (va_Qi (fun r_ (u_ : Unit) => r_ = nI 0) (fun (u_ : Unit) t9 => kEnd D (kT cy) A [mW cy ra (kEn X, (T.1, T.2.1, T.2.2.1, nI 1, T.2.2.2.2))] t9) A)) (by decide) rfl (Nat.le_of_ble_eq_true rfl) ?_
  intro p e s m args below meth c A Q ls hQ hx hb hml hr hlocks hin hts hown hN hK hP hD hS hA hsz hAe hl
  clear hAe
  have hl : lv_has ls 4 [(0, .ref (ra 0)), (1, .int x), (2, .int i), (3, .int w)] := hl
  suffices K9 : ∀ (H : Heap) (locs : List Loc), va_P D vwCl (bkF [mW cy ra (kEn X, T)]) H → va_S A s.heap H locs → W p l e (headSpec wsX5_guest rm_X5_guest_it).room s m args below meth c H locs 0 0 Q (F0 m 0 ls []) from K9 _ _ hP hS
  clear hP hS
  intro H locs hP hS
  refine lv_aload_n hx hb dX5_guest_0 rfl (lv_at hl 0 rfl) ?_
  refine lv_iload_n hx hb dX5_guest_1 rfl (lv_at hl 1 rfl) ?_
  refine lv_iload_n hx hb dX5_guest_2 rfl (lv_at hl 2 rfl) ?_
  refine kc_i (Cs := [mW cy ra (kEn X, T)]) (Rs := []) (Bs := [mW cy ra (kEn X, T)]) (Cs' := fun u_ : Unit => [mW cy ra (kEn X, T)]) (Fs := fun u_ : Unit => [mW cy ra (kEn X, T)]) hP hD hS hA [0] [] [0] rfl rfl (by decide) (by decide) (fun _ => rfl) (va_runV (As := [.int x, .int i]) (rest := []) ⟨hx, hb, hml, hown, hts⟩ (c_X5_isGuest_t l D cy ra X T x i hx0 hn H.size) (cwV 2 hts gX5_guest_X5_isGuest rfl rfl rfl (by decide +kernel) ⟨Nat.le_of_ble_eq_true rfl, Nat.le_of_ble_eq_true rfl⟩) (kPre_V (ci := 5) hK hN hP hD [0] (by decide) rfl 0 rfl rfl) rfl rfl hl.1 rfl (lv_room (Nat.le_of_ble_eq_true rfl)) dX5_guest_3 ⟨Nat.le_of_ble_eq_true rfl, Nat.le_of_ble_eq_true rfl⟩) (fun r_ u_ H locs hw hP hD hS => ?_)
  have hw : r_ = if ¬ i < nI 0 ∧ ¬ nI X.2.1.2.2.2.2.2 ≤ i then nI 1 else nI 0 := hw
  subst hw
  refine kv_i (y := nI 0) (if_neg hbad) ?_
  refine lv_if_ne (tgt := 15) hx hb dX5_guest_6 (by decide) (fun h => absurd h (by decide)) (fun _ => ?_)
  refine lv_aload_n hx hb dX5_guest_9 rfl (lv_at hl 0 rfl) ?_
  refine lv_iconst (v := nI 1) hx hb dX5_guest_10 (by decide) ?_
  refine kc_i (Cs := [mW cy ra (kEn X, T)]) (Rs := []) (Bs := [mW cy ra (kEn X, T)]) (Cs' := fun u_ : Unit => [mW cy ra ((kEn X), (T.1, T.2.1, T.2.2.1, (nI 1), T.2.2.2.2))]) (Fs := fun u_ : Unit => [mW cy ra ((kEn X), (T.1, T.2.1, T.2.2.1, (nI 1), T.2.2.2.2))]) hP hD hS hA [0] [] [0] rfl rfl (by decide) (by decide) (fun _ => rfl) (va_runV (As := [.int (nI 1)]) (rest := []) ⟨hx, hb, hml, hown, hts⟩ (c_X5_throwing l D cy ra (kEn X) T (nI 1) H.size) (cwV 1 hts gX5_guest_X5_throwing rfl rfl rfl (by decide +kernel) ⟨Nat.le_of_ble_eq_true rfl, Nat.le_of_ble_eq_true rfl⟩) (kPre_V (ci := 5) hK hN hP hD [0] (by decide) rfl 0 rfl rfl) rfl rfl hl.1 rfl (lv_room (Nat.le_of_ble_eq_true rfl)) dX5_guest_11 ⟨Nat.le_of_ble_eq_true rfl, Nat.le_of_ble_eq_true rfl⟩) (fun r_ u_ H locs hw hP hD hS => ?_)
  have hw : r_ = nI 0 := hw
  subst hw
  exact kr_i (post := fun r_ (u_ : Unit) => r_ = nI 0) (Bs := fun u_ : Unit => [mW cy ra (kEn X, (T.1, T.2.1, T.2.2.1, nI 1, T.2.2.2.2))]) hx hb hr hlocks rfl () hP hK hD hS rfl dX5_guest_14 hQ
abbrev rm_X5_guest_at : Room := { frames := 2, cells := 0, slots := 0, locals := 47 }
set_option maxHeartbeats 1000000 in
set_option maxRecDepth 100000 in
/-- guest, no such thing -/
theorem c_X5_guest_at (l : Launch) (D : va_G) (cy : Nat → ClassId) (ra : Nat → Nat) (X : rS) (T : rV) (x : Int32) (i : Nat) (w : Int32) (hx0 : ¬ x = 0) (hn : X.2.1.2.2.2.2.2 ≤ 8) (hi : i < X.2.1.2.2.2.2.2) (hbad : ¬ (¬ w < nI 0 ∧ ¬ nI 7 < w)) (sz : Nat) : Met l yX5_guest wsX5_guest rm_X5_guest_at (va_Pc [.ref (ra 0), .int x, .int (nI i), .int w] (kPre D (kT cy) [mW cy ra (kEn X, T)] sz)) (va_Qi (fun r_ (u_ : Unit) => r_ = nI 0) (kFr D (kT cy) [mW cy ra (kEn X, T)] sz (fun u_ : Unit => [mW cy ra (kEn X, (T.1, T.2.1, T.2.2.1, nI 2, T.2.2.2.2))])) (va_A (bkF [mW cy ra (kEn X, T)]) sz)) 0 0 (va_A (bkF [mW cy ra (kEn X, T)]) sz) := by
  refine kOpen (y := yX5_guest) (ws := wsX5_guest) (cc := cX5_guest) (maxL := 4) (ret := (some .int)) (av := [.ref (ra 0), .int x, .int (nI i), .int w]) (Bs := [mW cy ra (kEn X, T)]) (Qc := fun A => (va_Qi (fun r_ (u_ : Unit) => r_ = nI 0) (fun (u_ : Unit) t9 => kEnd D (kT cy) A [mW cy ra (kEn X, (T.1, T.2.1, T.2.2.1, nI 2, T.2.2.2.2))] t9) A)) (by decide) rfl (Nat.le_of_ble_eq_true rfl) ?_
  intro p e s m args below meth c A Q ls hQ hx hb hml hr hlocks hin hts hown hN hK hP hD hS hA hsz hAe hl
  clear hAe
  have hl : lv_has ls 4 [(0, .ref (ra 0)), (1, .int x), (2, .int (nI i)), (3, .int w)] := hl
  suffices K9 : ∀ (H : Heap) (locs : List Loc), va_P D vwCl (bkF [mW cy ra (kEn X, T)]) H → va_S A s.heap H locs → W p l e (headSpec wsX5_guest rm_X5_guest_at).room s m args below meth c H locs 0 0 Q (F0 m 0 ls []) from K9 _ _ hP hS
  clear hP hS
  intro H locs hP hS
  refine lv_aload_n hx hb dX5_guest_0 rfl (lv_at hl 0 rfl) ?_
  refine lv_iload_n hx hb dX5_guest_1 rfl (lv_at hl 1 rfl) ?_
  refine lv_iload_n hx hb dX5_guest_2 rfl (lv_at hl 2 rfl) ?_
  refine kc_i (Cs := [mW cy ra (kEn X, T)]) (Rs := []) (Bs := [mW cy ra (kEn X, T)]) (Cs' := fun u_ : Unit => [mW cy ra (kEn X, T)]) (Fs := fun u_ : Unit => [mW cy ra (kEn X, T)]) hP hD hS hA [0] [] [0] rfl rfl (by decide) (by decide) (fun _ => rfl) (va_runV (As := [.int x, .int (nI i)]) (rest := []) ⟨hx, hb, hml, hown, hts⟩ (c_X5_isGuest_t l D cy ra X T x (nI i) hx0 hn H.size) (cwV 2 hts gX5_guest_X5_isGuest rfl rfl rfl (by decide +kernel) ⟨Nat.le_of_ble_eq_true rfl, Nat.le_of_ble_eq_true rfl⟩) (kPre_V (ci := 5) hK hN hP hD [0] (by decide) rfl 0 rfl rfl) rfl rfl hl.1 rfl (lv_room (Nat.le_of_ble_eq_true rfl)) dX5_guest_3 ⟨Nat.le_of_ble_eq_true rfl, Nat.le_of_ble_eq_true rfl⟩) (fun r_ u_ H locs hw hP hD hS => ?_)
  have hw : r_ = if ¬ (nI i) < nI 0 ∧ ¬ nI X.2.1.2.2.2.2.2 ≤ (nI i) then nI 1 else nI 0 := hw
  subst hw
  refine kv_i (y := nI 1) (if_pos (khas (by omega) (by omega))) ?_
  refine lv_if_ne (tgt := 15) hx hb dX5_guest_6 (by decide) (fun _ => ?_) (fun h => absurd h (by decide))
  refine lv_iload_n hx hb dX5_guest_15 rfl (lv_at hl 3 rfl) ?_
  refine lv_i2l (v := w.toInt64) hx hb dX5_guest_16 rfl ?_
  refine lv_lconst (v := 0) hx hb dX5_guest_17 (by decide) ?_
  refine lv_ldc2 hx hb hown (hts (.constantLong RX5 144 (7)) (by decide +kernel)) dX5_guest_18 ?_
  refine kc_i (Cs := []) (Rs := [mW cy ra (kEn X, T)]) (Bs := [mW cy ra (kEn X, T)]) (Cs' := fun u_ : Unit => []) (Fs := fun u_ : Unit => [mW cy ra (kEn X, T)]) hP hD hS hA [] [0] [0] rfl rfl (by decide) (by decide) (fun _ => rfl) (va_runS (As := [.long w.toInt64, .long 0, .long (7)]) (rest := []) ⟨hx, hb, hml, hown, hts⟩ (c_X5_in l D cy w.toInt64 0 (7) H.size) (va_cwS 3 hts gX5_guest_X5_in rfl rfl rfl (by decide +kernel) ⟨Nat.le_of_ble_eq_true rfl, Nat.le_of_ble_eq_true rfl⟩) (kPre_S hK hN hP hD [] (by decide) rfl) rfl rfl hl.1 rfl (lv_room (Nat.le_of_ble_eq_true rfl)) dX5_guest_21 ⟨Nat.le_of_ble_eq_true rfl, Nat.le_of_ble_eq_true rfl⟩) (fun r_ u_ H locs hw hP hD hS => ?_)
  have hw : r_ = if kIn w.toInt64 0 (7) then nI 1 else nI 0 := hw
  subst hw
  refine kv_i (y := nI 0) (if_neg (fun h => hbad ((kIn32 (y := nI 0) (z := nI 7) (by decide) (by decide)).mp h))) ?_
  refine lv_if_eq (tgt := 44) hx hb dX5_guest_24 (by decide) (fun _ => ?_) (fun h => absurd h (by decide))
  refine lv_aload_n hx hb dX5_guest_44 rfl (lv_at hl 0 rfl) ?_
  refine lv_iconst (v := nI 2) hx hb dX5_guest_45 (by decide) ?_
  refine kc_i (Cs := [mW cy ra (kEn X, T)]) (Rs := []) (Bs := [mW cy ra (kEn X, T)]) (Cs' := fun u_ : Unit => [mW cy ra ((kEn X), (T.1, T.2.1, T.2.2.1, (nI 2), T.2.2.2.2))]) (Fs := fun u_ : Unit => [mW cy ra ((kEn X), (T.1, T.2.1, T.2.2.1, (nI 2), T.2.2.2.2))]) hP hD hS hA [0] [] [0] rfl rfl (by decide) (by decide) (fun _ => rfl) (va_runV (As := [.int (nI 2)]) (rest := []) ⟨hx, hb, hml, hown, hts⟩ (c_X5_throwing l D cy ra (kEn X) T (nI 2) H.size) (cwV 1 hts gX5_guest_X5_throwing rfl rfl rfl (by decide +kernel) ⟨Nat.le_of_ble_eq_true rfl, Nat.le_of_ble_eq_true rfl⟩) (kPre_V (ci := 5) hK hN hP hD [0] (by decide) rfl 0 rfl rfl) rfl rfl hl.1 rfl (lv_room (Nat.le_of_ble_eq_true rfl)) dX5_guest_46 ⟨Nat.le_of_ble_eq_true rfl, Nat.le_of_ble_eq_true rfl⟩) (fun r_ u_ H locs hw hP hD hS => ?_)
  have hw : r_ = nI 0 := hw
  subst hw
  exact kr_i (post := fun r_ (u_ : Unit) => r_ = nI 0) (Bs := fun u_ : Unit => [mW cy ra (kEn X, (T.1, T.2.1, T.2.2.1, nI 2, T.2.2.2.2))]) hx hb hr hlocks rfl () hP hK hD hS rfl dX5_guest_49 hQ
abbrev rm_X5_guestOf_f : Room := { frames := 3, cells := 0, slots := 0, locals := 67 }
set_option maxHeartbeats 1000000 in
set_option maxRecDepth 100000 in
/-- guestOf -/
theorem c_X5_guestOf_f (l : Launch) (D : va_G) (cy : Nat → ClassId) (ra : Nat → Nat) (X : rS) (T : rV) (i : Nat) (w : Nat) (hk : kOkR X) (hi : i < X.2.2.1.2.2.2.2.2) (hw7 : w ≤ 7) (sz : Nat) : Met l yX5_guestOf wsX5_guestOf rm_X5_guestOf_f (va_Pc [.ref (ra 0), .int (nI (8 + i)), .int (nI w)] (kPre D (kT cy) [mW cy ra (kEn X, T)] sz)) (va_Qi (fun r_ (u_ : (Nat → Int32) × (Nat → Int32) × (Nat → Int32)) => r_ = kGO X.2.2.2.1.1 X.2.1 X.2.2.1 X.2.2.2.2 i w) (kFr D (kT cy) [mW cy ra (kEn X, T)] sz (fun u_ : (Nat → Int32) × (Nat → Int32) × (Nat → Int32) => [mW cy ra (kEn X, (T.1, T.2.1, T.2.2.1, T.2.2.2.1, u_.1, u_.2.1, u_.2.2, T.2.2.2.2.2.2.2))])) (va_A (bkF [mW cy ra (kEn X, T)]) sz)) 0 0 (va_A (bkF [mW cy ra (kEn X, T)]) sz) := by
  refine kOpen (y := yX5_guestOf) (ws := wsX5_guestOf) (cc := cX5_guestOf) (maxL := 3) (ret := (some .int)) (av := [.ref (ra 0), .int (nI (8 + i)), .int (nI w)]) (Bs := [mW cy ra (kEn X, T)]) (Qc := fun A => (va_Qi (fun r_ (u_ : (Nat → Int32) × (Nat → Int32) × (Nat → Int32)) => r_ = kGO X.2.2.2.1.1 X.2.1 X.2.2.1 X.2.2.2.2 i w) (fun (u_ : (Nat → Int32) × (Nat → Int32) × (Nat → Int32)) t9 => kEnd D (kT cy) A [mW cy ra (kEn X, (T.1, T.2.1, T.2.2.1, T.2.2.2.1, u_.1, u_.2.1, u_.2.2, T.2.2.2.2.2.2.2))] t9) A)) (by decide) rfl (Nat.le_of_ble_eq_true rfl) ?_
  intro p e s m args below meth c A Q ls hQ hx hb hml hr hlocks hin hts hown hN hK hP hD hS hA hsz hAe hl
  clear hAe
  have hl : lv_has ls 3 [(0, .ref (ra 0)), (1, .int (nI (8 + i))), (2, .int (nI w))] := hl
  suffices K9 : ∀ (H : Heap) (locs : List Loc), va_P D vwCl (bkF [mW cy ra (kEn X, T)]) H → va_S A s.heap H locs → W p l e (headSpec wsX5_guestOf rm_X5_guestOf_f).room s m args below meth c H locs 0 0 Q (F0 m 0 ls []) from K9 _ _ hP hS
  clear hP hS
  intro H locs hP hS
  refine lv_iload_n hx hb dX5_guestOf_0 rfl (lv_at hl 2 rfl) ?_
  have h8i := hk.2.1.1
  have hrc := kRc_r hk
  rcases (show w = 0 ∨ w = 1 ∨ w = 2 ∨ w = 3 ∨ w = 4 ∨ w = 5 ∨ w = 6 ∨ w = 7 by omega) with h9 | h9 | h9 | h9 | h9 | h9 | h9 | h9
  · skip
    rw [h9]
    refine lv_tableOut (tgt := 81) hx hb dX5_guestOf_1 (by decide) (by decide) ?_
    refine lv_aload_n hx hb dX5_guestOf_81 rfl (lv_at hl 0 rfl) ?_
    refine lv_iload_n hx hb dX5_guestOf_82 rfl (lv_at hl 1 rfl) ?_
    refine lv_iload_n hx hb dX5_guestOf_83 rfl (lv_at hl 2 rfl) ?_
    refine kc_i (Cs := [mW cy ra (kEn X, T)]) (Rs := []) (Bs := [mW cy ra (kEn X, T)]) (Cs' := fun u_ : Unit => [mW cy ra (kEn X, T)]) (Fs := fun u_ : Unit => [mW cy ra (kEn X, T)]) hP hD hS hA [0] [] [0] rfl rfl (by decide) (by decide) (fun _ => rfl) (va_runV (As := [.int (nI (8 + i)), .int (nI w)]) (rest := []) ⟨hx, hb, hml, hown, hts⟩ (c_X5_of l D cy ra (kEn X) T (8 + i) w (by first | assumption | omega | decide) (by first | assumption | omega | decide) H.size) (cwV 2 hts gX5_guestOf_X5_of rfl rfl rfl (by decide +kernel) ⟨Nat.le_of_ble_eq_true rfl, Nat.le_of_ble_eq_true rfl⟩) (kPre_V (ci := 5) hK hN hP hD [0] (by decide) rfl 0 rfl rfl) rfl rfl hl.1 rfl (lv_room (Nat.le_of_ble_eq_true rfl)) dX5_guestOf_84 ⟨Nat.le_of_ble_eq_true rfl, Nat.le_of_ble_eq_true rfl⟩) (fun r_ u_ H locs hw hP hD hS => ?_)
    have hw : r_ = (kEn X) (92 + 6 * (8 + i) + w) := hw
    subst hw
    exact kr_i (post := fun r_ (u_ : (Nat → Int32) × (Nat → Int32) × (Nat → Int32)) => r_ = kGO X.2.2.2.1.1 X.2.1 X.2.2.1 X.2.2.2.2 i w) (Bs := fun u_ : (Nat → Int32) × (Nat → Int32) × (Nat → Int32) => [mW cy ra (kEn X, (T.1, T.2.1, T.2.2.1, T.2.2.2.1, u_.1, u_.2.1, u_.2.2, T.2.2.2.2.2.2.2))]) hx hb hr hlocks rfl (T.2.2.2.2.1, T.2.2.2.2.2.1, T.2.2.2.2.2.2.1) hP hK hD hS (by rw [h9]; exact ((kq_F (by decide)).trans (if_pos hi))) dX5_guestOf_87 hQ
  · skip
    rw [h9]
    refine lv_tableOut (tgt := 81) hx hb dX5_guestOf_1 (by decide) (by decide) ?_
    refine lv_aload_n hx hb dX5_guestOf_81 rfl (lv_at hl 0 rfl) ?_
    refine lv_iload_n hx hb dX5_guestOf_82 rfl (lv_at hl 1 rfl) ?_
    refine lv_iload_n hx hb dX5_guestOf_83 rfl (lv_at hl 2 rfl) ?_
    refine kc_i (Cs := [mW cy ra (kEn X, T)]) (Rs := []) (Bs := [mW cy ra (kEn X, T)]) (Cs' := fun u_ : Unit => [mW cy ra (kEn X, T)]) (Fs := fun u_ : Unit => [mW cy ra (kEn X, T)]) hP hD hS hA [0] [] [0] rfl rfl (by decide) (by decide) (fun _ => rfl) (va_runV (As := [.int (nI (8 + i)), .int (nI w)]) (rest := []) ⟨hx, hb, hml, hown, hts⟩ (c_X5_of l D cy ra (kEn X) T (8 + i) w (by first | assumption | omega | decide) (by first | assumption | omega | decide) H.size) (cwV 2 hts gX5_guestOf_X5_of rfl rfl rfl (by decide +kernel) ⟨Nat.le_of_ble_eq_true rfl, Nat.le_of_ble_eq_true rfl⟩) (kPre_V (ci := 5) hK hN hP hD [0] (by decide) rfl 0 rfl rfl) rfl rfl hl.1 rfl (lv_room (Nat.le_of_ble_eq_true rfl)) dX5_guestOf_84 ⟨Nat.le_of_ble_eq_true rfl, Nat.le_of_ble_eq_true rfl⟩) (fun r_ u_ H locs hw hP hD hS => ?_)
    have hw : r_ = (kEn X) (92 + 6 * (8 + i) + w) := hw
    subst hw
    exact kr_i (post := fun r_ (u_ : (Nat → Int32) × (Nat → Int32) × (Nat → Int32)) => r_ = kGO X.2.2.2.1.1 X.2.1 X.2.2.1 X.2.2.2.2 i w) (Bs := fun u_ : (Nat → Int32) × (Nat → Int32) × (Nat → Int32) => [mW cy ra (kEn X, (T.1, T.2.1, T.2.2.1, T.2.2.2.1, u_.1, u_.2.1, u_.2.2, T.2.2.2.2.2.2.2))]) hx hb hr hlocks rfl (T.2.2.2.2.1, T.2.2.2.2.2.1, T.2.2.2.2.2.2.1) hP hK hD hS (by rw [h9]; exact ((kq_F (by decide)).trans (if_pos hi))) dX5_guestOf_87 hQ
  · skip
    rw [h9]
    refine lv_tableOut (tgt := 81) hx hb dX5_guestOf_1 (by decide) (by decide) ?_
    refine lv_aload_n hx hb dX5_guestOf_81 rfl (lv_at hl 0 rfl) ?_
    refine lv_iload_n hx hb dX5_guestOf_82 rfl (lv_at hl 1 rfl) ?_
    refine lv_iload_n hx hb dX5_guestOf_83 rfl (lv_at hl 2 rfl) ?_
    refine kc_i (Cs := [mW cy ra (kEn X, T)]) (Rs := []) (Bs := [mW cy ra (kEn X, T)]) (Cs' := fun u_ : Unit => [mW cy ra (kEn X, T)]) (Fs := fun u_ : Unit => [mW cy ra (kEn X, T)]) hP hD hS hA [0] [] [0] rfl rfl (by decide) (by decide) (fun _ => rfl) (va_runV (As := [.int (nI (8 + i)), .int (nI w)]) (rest := []) ⟨hx, hb, hml, hown, hts⟩ (c_X5_of l D cy ra (kEn X) T (8 + i) w (by first | assumption | omega | decide) (by first | assumption | omega | decide) H.size) (cwV 2 hts gX5_guestOf_X5_of rfl rfl rfl (by decide +kernel) ⟨Nat.le_of_ble_eq_true rfl, Nat.le_of_ble_eq_true rfl⟩) (kPre_V (ci := 5) hK hN hP hD [0] (by decide) rfl 0 rfl rfl) rfl rfl hl.1 rfl (lv_room (Nat.le_of_ble_eq_true rfl)) dX5_guestOf_84 ⟨Nat.le_of_ble_eq_true rfl, Nat.le_of_ble_eq_true rfl⟩) (fun r_ u_ H locs hw hP hD hS => ?_)
    have hw : r_ = (kEn X) (92 + 6 * (8 + i) + w) := hw
    subst hw
    exact kr_i (post := fun r_ (u_ : (Nat → Int32) × (Nat → Int32) × (Nat → Int32)) => r_ = kGO X.2.2.2.1.1 X.2.1 X.2.2.1 X.2.2.2.2 i w) (Bs := fun u_ : (Nat → Int32) × (Nat → Int32) × (Nat → Int32) => [mW cy ra (kEn X, (T.1, T.2.1, T.2.2.1, T.2.2.2.1, u_.1, u_.2.1, u_.2.2, T.2.2.2.2.2.2.2))]) hx hb hr hlocks rfl (T.2.2.2.2.1, T.2.2.2.2.2.1, T.2.2.2.2.2.2.1) hP hK hD hS (by rw [h9]; exact ((kq_F (by decide)).trans (if_pos hi))) dX5_guestOf_87 hQ
  · skip
    rw [h9]
    refine lv_tableOut (tgt := 81) hx hb dX5_guestOf_1 (by decide) (by decide) ?_
    refine lv_aload_n hx hb dX5_guestOf_81 rfl (lv_at hl 0 rfl) ?_
    refine lv_iload_n hx hb dX5_guestOf_82 rfl (lv_at hl 1 rfl) ?_
    refine lv_iload_n hx hb dX5_guestOf_83 rfl (lv_at hl 2 rfl) ?_
    refine kc_i (Cs := [mW cy ra (kEn X, T)]) (Rs := []) (Bs := [mW cy ra (kEn X, T)]) (Cs' := fun u_ : Unit => [mW cy ra (kEn X, T)]) (Fs := fun u_ : Unit => [mW cy ra (kEn X, T)]) hP hD hS hA [0] [] [0] rfl rfl (by decide) (by decide) (fun _ => rfl) (va_runV (As := [.int (nI (8 + i)), .int (nI w)]) (rest := []) ⟨hx, hb, hml, hown, hts⟩ (c_X5_of l D cy ra (kEn X) T (8 + i) w (by first | assumption | omega | decide) (by first | assumption | omega | decide) H.size) (cwV 2 hts gX5_guestOf_X5_of rfl rfl rfl (by decide +kernel) ⟨Nat.le_of_ble_eq_true rfl, Nat.le_of_ble_eq_true rfl⟩) (kPre_V (ci := 5) hK hN hP hD [0] (by decide) rfl 0 rfl rfl) rfl rfl hl.1 rfl (lv_room (Nat.le_of_ble_eq_true rfl)) dX5_guestOf_84 ⟨Nat.le_of_ble_eq_true rfl, Nat.le_of_ble_eq_true rfl⟩) (fun r_ u_ H locs hw hP hD hS => ?_)
    have hw : r_ = (kEn X) (92 + 6 * (8 + i) + w) := hw
    subst hw
    exact kr_i (post := fun r_ (u_ : (Nat → Int32) × (Nat → Int32) × (Nat → Int32)) => r_ = kGO X.2.2.2.1.1 X.2.1 X.2.2.1 X.2.2.2.2 i w) (Bs := fun u_ : (Nat → Int32) × (Nat → Int32) × (Nat → Int32) => [mW cy ra (kEn X, (T.1, T.2.1, T.2.2.1, T.2.2.2.1, u_.1, u_.2.1, u_.2.2, T.2.2.2.2.2.2.2))]) hx hb hr hlocks rfl (T.2.2.2.2.1, T.2.2.2.2.2.1, T.2.2.2.2.2.2.1) hP hK hD hS (by rw [h9]; exact ((kq_F (by decide)).trans (if_pos hi))) dX5_guestOf_87 hQ
  · skip
    rw [h9]
    refine lv_tableIn (off := 31) (tgt := 32) hx hb dX5_guestOf_1 (by decide) (by decide) (by decide) (by decide) ?_
    refine lv_aload_n hx hb dX5_guestOf_32 rfl (lv_at hl 0 rfl) ?_
    refine kc_i (Cs := [mW cy ra (kEn X, T)]) (Rs := []) (Bs := [mW cy ra (kEn X, T)]) (Cs' := fun u_ : Unit => [mW cy ra (kEn X, (T.1, T.2.1, T.2.2.1, T.2.2.2.1, kLft T.2.2.2.2.1 X, kLnt X, kCan X, T.2.2.2.2.2.2.2))]) (Fs := fun u_ : Unit => [mW cy ra (kEn X, (T.1, T.2.1, T.2.2.1, T.2.2.2.1, kLft T.2.2.2.2.1 X, kLnt X, kCan X, T.2.2.2.2.2.2.2))]) hP hD hS hA [0] [] [0] rfl rfl (by decide) (by decide) (fun _ => rfl) (va_runV (As := []) (rest := []) ⟨hx, hb, hml, hown, hts⟩ (c_X5_lends l D cy ra X T (by first | assumption | omega | decide) H.size) (cwV 0 hts gX5_guestOf_X5_lends rfl rfl rfl (by decide +kernel) ⟨Nat.le_of_ble_eq_true rfl, Nat.le_of_ble_eq_true rfl⟩) (kPre_V (ci := 5) hK hN hP hD [0] (by decide) rfl 0 rfl rfl) rfl rfl hl.1 rfl (lv_room (Nat.le_of_ble_eq_true rfl)) dX5_guestOf_33 ⟨Nat.le_of_ble_eq_true rfl, Nat.le_of_ble_eq_true rfl⟩) (fun r_ u_ H locs hw hP hD hS => ?_)
    have hw : r_ = nI (kRc X.2.2.2.1.1 X.2.1 X.2.2.1 0) := hw
    subst hw
    refine lv_if_lt (tgt := 52) hx hb dX5_guestOf_36 (by decide) (fun c_36 => False.elim ?_) (fun c_36 => ?_)
    · skip
      have c_36 : (kRc X.2.2.2.1.1 X.2.1 X.2.2.1 0) < 0 := (nI_ltI (a := kRc X.2.2.2.1.1 X.2.1 X.2.2.1 0) (b := 0) (by omega) (by omega)).mp c_36
      omega
    · skip
      have c_36 : ¬ ((kRc X.2.2.2.1.1 X.2.1 X.2.2.1 0) < 0) := fun h => c_36 ((nI_ltI (a := kRc X.2.2.2.1.1 X.2.1 X.2.2.1 0) (b := 0) (by omega) (by omega)).mpr h)
      refine lv_aload_n hx hb dX5_guestOf_39 rfl (lv_at hl 0 rfl) ?_
      refine va_get (D := D) (ci := 5) (v := .ref (ra 6)) (C := RX5) (T := TX5) (N := 16) hx hb hts (by decide +kernel) hown hK hP 0 rfl rfl 7 (by decide) (hts (.fieldLink RX5 25 "DanceHallModel" "can" "[Z") (by decide +kernel)) (fun _ h9 => h9) rfl dX5_guestOf_40 ?_
      refine lv_iload_n hx hb dX5_guestOf_43 rfl (lv_at hl 1 rfl) ?_
      refine va_zald hx hb hK hP 6 1 rfl rfl (vp_in_nI (n := 8 + i) (N := 16) (by omega) (by omega)) dX5_guestOf_44 ?_
      refine kv_i (y := (kCan X) (8 + i)) (congrArg (kCan X) (nI_clamp (n := 8 + i) (by omega))) ?_
      refine lv_if_eq (tgt := 52) hx hb dX5_guestOf_45 (by decide) (fun c_45 => ?_) (fun c_45 => ?_)
      · skip
        refine lv_iconst (v := nI 0) hx hb dX5_guestOf_52 (by decide) ?_
        exact kr_i (post := fun r_ (u_ : (Nat → Int32) × (Nat → Int32) × (Nat → Int32)) => r_ = kGO X.2.2.2.1.1 X.2.1 X.2.2.1 X.2.2.2.2 i w) (Bs := fun u_ : (Nat → Int32) × (Nat → Int32) × (Nat → Int32) => [mW cy ra (kEn X, (T.1, T.2.1, T.2.2.1, T.2.2.2.1, u_.1, u_.2.1, u_.2.2, T.2.2.2.2.2.2.2))]) hx hb hr hlocks rfl (kLft T.2.2.2.2.1 X, kLnt X, kCan X) hP hK hD hS (by rw [h9]; exact (if_neg (fun h => (kCan_F).mpr (kbit1.mp h) c_45)).symm) dX5_guestOf_53 hQ
      · skip
        refine lv_iconst (v := nI 1) hx hb dX5_guestOf_48 (by decide) ?_
        refine lv_goto (tgt := 53) hx hb dX5_guestOf_49 (by decide) ?_
        exact kr_i (post := fun r_ (u_ : (Nat → Int32) × (Nat → Int32) × (Nat → Int32)) => r_ = kGO X.2.2.2.1.1 X.2.1 X.2.2.1 X.2.2.2.2 i w) (Bs := fun u_ : (Nat → Int32) × (Nat → Int32) × (Nat → Int32) => [mW cy ra (kEn X, (T.1, T.2.1, T.2.2.1, T.2.2.2.1, u_.1, u_.2.1, u_.2.2, T.2.2.2.2.2.2.2))]) hx hb hr hlocks rfl (kLft T.2.2.2.2.1 X, kLnt X, kCan X) hP hK hD hS (by rw [h9]; exact (if_pos (kbit1.mpr ((kCan_F).mp c_45))).symm) dX5_guestOf_53 hQ
  · skip
    rw [h9]
    refine lv_tableIn (off := 53) (tgt := 54) hx hb dX5_guestOf_1 (by decide) (by decide) (by decide) (by decide) ?_
    refine lv_aload_n hx hb dX5_guestOf_54 rfl (lv_at hl 0 rfl) ?_
    refine kc_i (Cs := [mW cy ra (kEn X, T)]) (Rs := []) (Bs := [mW cy ra (kEn X, T)]) (Cs' := fun u_ : Unit => [mW cy ra (kEn X, (T.1, T.2.1, T.2.2.1, T.2.2.2.1, kLft T.2.2.2.2.1 X, kLnt X, kCan X, T.2.2.2.2.2.2.2))]) (Fs := fun u_ : Unit => [mW cy ra (kEn X, (T.1, T.2.1, T.2.2.1, T.2.2.2.1, kLft T.2.2.2.2.1 X, kLnt X, kCan X, T.2.2.2.2.2.2.2))]) hP hD hS hA [0] [] [0] rfl rfl (by decide) (by decide) (fun _ => rfl) (va_runV (As := []) (rest := []) ⟨hx, hb, hml, hown, hts⟩ (c_X5_lends l D cy ra X T (by first | assumption | omega | decide) H.size) (cwV 0 hts gX5_guestOf_X5_lends rfl rfl rfl (by decide +kernel) ⟨Nat.le_of_ble_eq_true rfl, Nat.le_of_ble_eq_true rfl⟩) (kPre_V (ci := 5) hK hN hP hD [0] (by decide) rfl 0 rfl rfl) rfl rfl hl.1 rfl (lv_room (Nat.le_of_ble_eq_true rfl)) dX5_guestOf_55 ⟨Nat.le_of_ble_eq_true rfl, Nat.le_of_ble_eq_true rfl⟩) (fun r_ u_ H locs hw hP hD hS => ?_)
    have hw : r_ = nI (kRc X.2.2.2.1.1 X.2.1 X.2.2.1 0) := hw
    subst hw
    refine lv_if_lt (tgt := 70) hx hb dX5_guestOf_58 (by decide) (fun c_58 => False.elim ?_) (fun c_58 => ?_)
    · skip
      have c_58 : (kRc X.2.2.2.1.1 X.2.1 X.2.2.1 0) < 0 := (nI_ltI (a := kRc X.2.2.2.1.1 X.2.1 X.2.2.1 0) (b := 0) (by omega) (by omega)).mp c_58
      omega
    · skip
      have c_58 : ¬ ((kRc X.2.2.2.1.1 X.2.1 X.2.2.1 0) < 0) := fun h => c_58 ((nI_ltI (a := kRc X.2.2.2.1.1 X.2.1 X.2.2.1 0) (b := 0) (by omega) (by omega)).mpr h)
      refine lv_aload_n hx hb dX5_guestOf_61 rfl (lv_at hl 0 rfl) ?_
      refine va_get (D := D) (ci := 5) (v := .ref (ra 5)) (C := RX5) (T := TX5) (N := 16) hx hb hts (by decide +kernel) hown hK hP 0 rfl rfl 6 (by decide) (hts (.fieldLink RX5 22 "DanceHallModel" "lent" "[I") (by decide +kernel)) (fun _ h9 => h9) rfl dX5_guestOf_62 ?_
      refine lv_iload_n hx hb dX5_guestOf_65 rfl (lv_at hl 1 rfl) ?_
      refine va_iald hx hb hK hP 5 0 rfl rfl (vp_in_nI (n := 8 + i) (N := 16) (by omega) (by omega)) dX5_guestOf_66 ?_
      refine kv_i (y := (kLnt X) (8 + i)) (congrArg (kLnt X) (nI_clamp (n := 8 + i) (by omega))) ?_
      refine lv_goto (tgt := 71) hx hb dX5_guestOf_67 (by decide) ?_
      exact kr_i (post := fun r_ (u_ : (Nat → Int32) × (Nat → Int32) × (Nat → Int32)) => r_ = kGO X.2.2.2.1.1 X.2.1 X.2.2.1 X.2.2.2.2 i w) (Bs := fun u_ : (Nat → Int32) × (Nat → Int32) × (Nat → Int32) => [mW cy ra (kEn X, (T.1, T.2.1, T.2.2.1, T.2.2.2.1, u_.1, u_.2.1, u_.2.2, T.2.2.2.2.2.2.2))]) hx hb hr hlocks rfl (kLft T.2.2.2.2.1 X, kLnt X, kCan X) hP hK hD hS (by rw [h9]; exact kLnt_F hi) dX5_guestOf_71 hQ
  · skip
    rw [h9]
    refine lv_tableIn (off := 71) (tgt := 72) hx hb dX5_guestOf_1 (by decide) (by decide) (by decide) (by decide) ?_
    refine lv_aload_n hx hb dX5_guestOf_72 rfl (lv_at hl 0 rfl) ?_
    refine lv_iload_n hx hb dX5_guestOf_73 rfl (lv_at hl 1 rfl) ?_
    refine lv_iload_n hx hb dX5_guestOf_74 rfl (lv_at hl 2 rfl) ?_
    refine lv_iconst (v := nI 2) hx hb dX5_guestOf_75 (by decide) ?_
    refine lv_isub hx hb dX5_guestOf_76 ?_
    refine kv_i (y := nI (w - 2)) (pk_sub (a := w) (b := 2) (by omega)) ?_
    refine kc_i (Cs := [mW cy ra (kEn X, T)]) (Rs := []) (Bs := [mW cy ra (kEn X, T)]) (Cs' := fun u_ : Unit => [mW cy ra (kEn X, T)]) (Fs := fun u_ : Unit => [mW cy ra (kEn X, T)]) hP hD hS hA [0] [] [0] rfl rfl (by decide) (by decide) (fun _ => rfl) (va_runV (As := [.int (nI (8 + i)), .int (nI (w - 2))]) (rest := []) ⟨hx, hb, hml, hown, hts⟩ (c_X5_of l D cy ra (kEn X) T (8 + i) (w - 2) (by first | assumption | omega | decide) (by first | assumption | omega | decide) H.size) (cwV 2 hts gX5_guestOf_X5_of rfl rfl rfl (by decide +kernel) ⟨Nat.le_of_ble_eq_true rfl, Nat.le_of_ble_eq_true rfl⟩) (kPre_V (ci := 5) hK hN hP hD [0] (by decide) rfl 0 rfl rfl) rfl rfl hl.1 rfl (lv_room (Nat.le_of_ble_eq_true rfl)) dX5_guestOf_77 ⟨Nat.le_of_ble_eq_true rfl, Nat.le_of_ble_eq_true rfl⟩) (fun r_ u_ H locs hw hP hD hS => ?_)
    have hw : r_ = (kEn X) (92 + 6 * (8 + i) + (w - 2)) := hw
    subst hw
    exact kr_i (post := fun r_ (u_ : (Nat → Int32) × (Nat → Int32) × (Nat → Int32)) => r_ = kGO X.2.2.2.1.1 X.2.1 X.2.2.1 X.2.2.2.2 i w) (Bs := fun u_ : (Nat → Int32) × (Nat → Int32) × (Nat → Int32) => [mW cy ra (kEn X, (T.1, T.2.1, T.2.2.1, T.2.2.2.1, u_.1, u_.2.1, u_.2.2, T.2.2.2.2.2.2.2))]) hx hb hr hlocks rfl (T.2.2.2.2.1, T.2.2.2.2.2.1, T.2.2.2.2.2.2.1) hP hK hD hS (by rw [h9]; exact ((kq_F (by decide)).trans (if_pos hi))) dX5_guestOf_80 hQ
  · skip
    rw [h9]
    refine lv_tableIn (off := 71) (tgt := 72) hx hb dX5_guestOf_1 (by decide) (by decide) (by decide) (by decide) ?_
    refine lv_aload_n hx hb dX5_guestOf_72 rfl (lv_at hl 0 rfl) ?_
    refine lv_iload_n hx hb dX5_guestOf_73 rfl (lv_at hl 1 rfl) ?_
    refine lv_iload_n hx hb dX5_guestOf_74 rfl (lv_at hl 2 rfl) ?_
    refine lv_iconst (v := nI 2) hx hb dX5_guestOf_75 (by decide) ?_
    refine lv_isub hx hb dX5_guestOf_76 ?_
    refine kv_i (y := nI (w - 2)) (pk_sub (a := w) (b := 2) (by omega)) ?_
    refine kc_i (Cs := [mW cy ra (kEn X, T)]) (Rs := []) (Bs := [mW cy ra (kEn X, T)]) (Cs' := fun u_ : Unit => [mW cy ra (kEn X, T)]) (Fs := fun u_ : Unit => [mW cy ra (kEn X, T)]) hP hD hS hA [0] [] [0] rfl rfl (by decide) (by decide) (fun _ => rfl) (va_runV (As := [.int (nI (8 + i)), .int (nI (w - 2))]) (rest := []) ⟨hx, hb, hml, hown, hts⟩ (c_X5_of l D cy ra (kEn X) T (8 + i) (w - 2) (by first | assumption | omega | decide) (by first | assumption | omega | decide) H.size) (cwV 2 hts gX5_guestOf_X5_of rfl rfl rfl (by decide +kernel) ⟨Nat.le_of_ble_eq_true rfl, Nat.le_of_ble_eq_true rfl⟩) (kPre_V (ci := 5) hK hN hP hD [0] (by decide) rfl 0 rfl rfl) rfl rfl hl.1 rfl (lv_room (Nat.le_of_ble_eq_true rfl)) dX5_guestOf_77 ⟨Nat.le_of_ble_eq_true rfl, Nat.le_of_ble_eq_true rfl⟩) (fun r_ u_ H locs hw hP hD hS => ?_)
    have hw : r_ = (kEn X) (92 + 6 * (8 + i) + (w - 2)) := hw
    subst hw
    exact kr_i (post := fun r_ (u_ : (Nat → Int32) × (Nat → Int32) × (Nat → Int32)) => r_ = kGO X.2.2.2.1.1 X.2.1 X.2.2.1 X.2.2.2.2 i w) (Bs := fun u_ : (Nat → Int32) × (Nat → Int32) × (Nat → Int32) => [mW cy ra (kEn X, (T.1, T.2.1, T.2.2.1, T.2.2.2.1, u_.1, u_.2.1, u_.2.2, T.2.2.2.2.2.2.2))]) hx hb hr hlocks rfl (T.2.2.2.2.1, T.2.2.2.2.2.1, T.2.2.2.2.2.2.1) hP hK hD hS (by rw [h9]; exact ((kq_F (by decide)).trans (if_pos hi))) dX5_guestOf_80 hQ
abbrev rm_X5_guest_f : Room := { frames := 4, cells := 0, slots := 0, locals := 89 }
set_option maxHeartbeats 1000000 in
set_option maxRecDepth 100000 in
/-- guest -/
theorem c_X5_guest_f (l : Launch) (D : va_G) (cy : Nat → ClassId) (ra : Nat → Nat) (X : rS) (T : rV) (x : Int32) (i : Nat) (w : Nat) (hx0 : x = 0) (hk : kOkR X) (hi : i < X.2.2.1.2.2.2.2.2) (hw7 : w ≤ 7) (sz : Nat) : Met l yX5_guest wsX5_guest rm_X5_guest_f (va_Pc [.ref (ra 0), .int x, .int (nI i), .int (nI w)] (kPre D (kT cy) [mW cy ra (kEn X, T)] sz)) (va_Qi (fun r_ (u_ : (Nat → Int32) × (Nat → Int32) × (Nat → Int32)) => r_ = kGO X.2.2.2.1.1 X.2.1 X.2.2.1 X.2.2.2.2 i w) (kFr D (kT cy) [mW cy ra (kEn X, T)] sz (fun u_ : (Nat → Int32) × (Nat → Int32) × (Nat → Int32) => [mW cy ra (kEn X, (T.1, T.2.1, T.2.2.1, nI 0, u_.1, u_.2.1, u_.2.2, T.2.2.2.2.2.2.2))])) (va_A (bkF [mW cy ra (kEn X, T)]) sz)) 0 0 (va_A (bkF [mW cy ra (kEn X, T)]) sz) := by
  refine kOpen (y := yX5_guest) (ws := wsX5_guest) (cc := cX5_guest) (maxL := 4) (ret := (some .int)) (av := [.ref (ra 0), .int x, .int (nI i), .int (nI w)]) (Bs := [mW cy ra (kEn X, T)]) (Qc := fun A => (va_Qi (fun r_ (u_ : (Nat → Int32) × (Nat → Int32) × (Nat → Int32)) => r_ = kGO X.2.2.2.1.1 X.2.1 X.2.2.1 X.2.2.2.2 i w) (fun (u_ : (Nat → Int32) × (Nat → Int32) × (Nat → Int32)) t9 => kEnd D (kT cy) A [mW cy ra (kEn X, (T.1, T.2.1, T.2.2.1, nI 0, u_.1, u_.2.1, u_.2.2, T.2.2.2.2.2.2.2))] t9) A)) (by decide) rfl (Nat.le_of_ble_eq_true rfl) ?_
  intro p e s m args below meth c A Q ls hQ hx hb hml hr hlocks hin hts hown hN hK hP hD hS hA hsz hAe hl
  clear hAe
  have hl : lv_has ls 4 [(0, .ref (ra 0)), (1, .int x), (2, .int (nI i)), (3, .int (nI w))] := hl
  suffices K9 : ∀ (H : Heap) (locs : List Loc), va_P D vwCl (bkF [mW cy ra (kEn X, T)]) H → va_S A s.heap H locs → W p l e (headSpec wsX5_guest rm_X5_guest_f).room s m args below meth c H locs 0 0 Q (F0 m 0 ls []) from K9 _ _ hP hS
  clear hP hS
  intro H locs hP hS
  have h8i := hk.2.1.1
  refine lv_aload_n hx hb dX5_guest_0 rfl (lv_at hl 0 rfl) ?_
  refine lv_iload_n hx hb dX5_guest_1 rfl (lv_at hl 1 rfl) ?_
  refine lv_iload_n hx hb dX5_guest_2 rfl (lv_at hl 2 rfl) ?_
  refine kc_i (Cs := [mW cy ra (kEn X, T)]) (Rs := []) (Bs := [mW cy ra (kEn X, T)]) (Cs' := fun u_ : Unit => [mW cy ra (kEn X, T)]) (Fs := fun u_ : Unit => [mW cy ra (kEn X, T)]) hP hD hS hA [0] [] [0] rfl rfl (by decide) (by decide) (fun _ => rfl) (va_runV (As := [.int x, .int (nI i)]) (rest := []) ⟨hx, hb, hml, hown, hts⟩ (c_X5_isGuest_f l D cy ra X T x (nI i) hx0 hk.2.1.1 H.size) (cwV 2 hts gX5_guest_X5_isGuest rfl rfl rfl (by decide +kernel) ⟨Nat.le_of_ble_eq_true rfl, Nat.le_of_ble_eq_true rfl⟩) (kPre_V (ci := 5) hK hN hP hD [0] (by decide) rfl 0 rfl rfl) rfl rfl hl.1 rfl (lv_room (Nat.le_of_ble_eq_true rfl)) dX5_guest_3 ⟨Nat.le_of_ble_eq_true rfl, Nat.le_of_ble_eq_true rfl⟩) (fun r_ u_ H locs hw hP hD hS => ?_)
  have hw : r_ = if ¬ (nI i) < nI 0 ∧ ¬ nI X.2.2.1.2.2.2.2.2 ≤ (nI i) then nI 1 else nI 0 := hw
  subst hw
  refine kv_i (y := nI 1) (if_pos (khas (by omega) (by omega))) ?_
  refine lv_if_ne (tgt := 15) hx hb dX5_guest_6 (by decide) (fun _ => ?_) (fun h => absurd h (by decide))
  refine lv_iload_n hx hb dX5_guest_15 rfl (lv_at hl 3 rfl) ?_
  refine lv_i2l (v := (nI w).toInt64) hx hb dX5_guest_16 rfl ?_
  refine lv_lconst (v := 0) hx hb dX5_guest_17 (by decide) ?_
  refine lv_ldc2 hx hb hown (hts (.constantLong RX5 144 (7)) (by decide +kernel)) dX5_guest_18 ?_
  refine kc_i (Cs := []) (Rs := [mW cy ra (kEn X, T)]) (Bs := [mW cy ra (kEn X, T)]) (Cs' := fun u_ : Unit => []) (Fs := fun u_ : Unit => [mW cy ra (kEn X, T)]) hP hD hS hA [] [0] [0] rfl rfl (by decide) (by decide) (fun _ => rfl) (va_runS (As := [.long ((nI w).toInt64), .long 0, .long (7)]) (rest := []) ⟨hx, hb, hml, hown, hts⟩ (c_X5_in l D cy ((nI w).toInt64) 0 (7) H.size) (va_cwS 3 hts gX5_guest_X5_in rfl rfl rfl (by decide +kernel) ⟨Nat.le_of_ble_eq_true rfl, Nat.le_of_ble_eq_true rfl⟩) (kPre_S hK hN hP hD [] (by decide) rfl) rfl rfl hl.1 rfl (lv_room (Nat.le_of_ble_eq_true rfl)) dX5_guest_21 ⟨Nat.le_of_ble_eq_true rfl, Nat.le_of_ble_eq_true rfl⟩) (fun r_ u_ H locs hw hP hD hS => ?_)
  have hw : r_ = if kIn ((nI w).toInt64) 0 (7) then nI 1 else nI 0 := hw
  subst hw
  refine kv_i (y := nI 1) (if_pos ((kIn32 (y := nI 0) (z := nI 7) (by decide) (by decide)).mpr (kwin (by omega) (by omega) (by decide)))) ?_
  refine lv_if_eq (tgt := 44) hx hb dX5_guest_24 (by decide) (fun h => absurd h (by decide)) (fun _ => ?_)
  refine lv_aload_n hx hb dX5_guest_27 rfl (lv_at hl 0 rfl) ?_
  refine lv_aload_n hx hb dX5_guest_28 rfl (lv_at hl 0 rfl) ?_
  refine lv_iload_n hx hb dX5_guest_29 rfl (lv_at hl 1 rfl) ?_
  refine lv_iload_n hx hb dX5_guest_30 rfl (lv_at hl 2 rfl) ?_
  refine kc_i (Cs := []) (Rs := [mW cy ra (kEn X, T)]) (Bs := [mW cy ra (kEn X, T)]) (Cs' := fun u_ : Unit => []) (Fs := fun u_ : Unit => [mW cy ra (kEn X, T)]) hP hD hS hA [] [0] [0] rfl rfl (by decide) (by decide) (fun _ => rfl) (va_runS (As := [.int x, .int (nI i)]) (rest := [.ref (ra 0), .ref (ra 0)]) ⟨hx, hb, hml, hown, hts⟩ (c_X5_person_f l D cy x i hx0 H.size) (va_cwS 2 hts gX5_guest_X5_person rfl rfl rfl (by decide +kernel) ⟨Nat.le_of_ble_eq_true rfl, Nat.le_of_ble_eq_true rfl⟩) (kPre_S hK hN hP hD [] (by decide) rfl) rfl rfl hl.1 rfl (lv_room (Nat.le_of_ble_eq_true rfl)) dX5_guest_31 ⟨Nat.le_of_ble_eq_true rfl, Nat.le_of_ble_eq_true rfl⟩) (fun r_ u_ H locs hw hP hD hS => ?_)
  have hw : r_ = nI (8 + i) := hw
  subst hw
  refine lv_iload_n hx hb dX5_guest_34 rfl (lv_at hl 3 rfl) ?_
  refine kc_i (Cs := [mW cy ra (kEn X, T)]) (Rs := []) (Bs := [mW cy ra (kEn X, T)]) (Cs' := fun u_ : (Nat → Int32) × (Nat → Int32) × (Nat → Int32) => [mW cy ra (kEn X, (T.1, T.2.1, T.2.2.1, T.2.2.2.1, u_.1, u_.2.1, u_.2.2, T.2.2.2.2.2.2.2))]) (Fs := fun u_ : (Nat → Int32) × (Nat → Int32) × (Nat → Int32) => [mW cy ra (kEn X, (T.1, T.2.1, T.2.2.1, T.2.2.2.1, u_.1, u_.2.1, u_.2.2, T.2.2.2.2.2.2.2))]) hP hD hS hA [0] [] [0] rfl rfl (by decide) (by decide) (fun _ => rfl) (va_runV (As := [.int (nI (8 + i)), .int (nI w)]) (rest := [.ref (ra 0)]) ⟨hx, hb, hml, hown, hts⟩ (c_X5_guestOf_f l D cy ra X T i w hk (by first | assumption | omega | decide) (by first | assumption | omega | decide) H.size) (cwV 2 hts gX5_guest_X5_guestOf rfl rfl rfl (by decide +kernel) ⟨Nat.le_of_ble_eq_true rfl, Nat.le_of_ble_eq_true rfl⟩) (kPre_V (ci := 5) hK hN hP hD [0] (by decide) rfl 0 rfl rfl) rfl rfl hl.1 rfl (lv_room (Nat.le_of_ble_eq_true rfl)) dX5_guest_35 ⟨Nat.le_of_ble_eq_true rfl, Nat.le_of_ble_eq_true rfl⟩) (fun r_ u_ H locs hw hP hD hS => ?_)
  obtain ⟨e5_35, e6_35, e7_35⟩ := u_
  have hP : va_P D vwCl (bkF [mW cy ra (kEn X, (T.1, T.2.1, T.2.2.1, T.2.2.2.1, e5_35, e6_35, e7_35, T.2.2.2.2.2.2.2))]) H := hP
  have hD : va_D A (bkF [mW cy ra (kEn X, (T.1, T.2.1, T.2.2.1, T.2.2.2.1, e5_35, e6_35, e7_35, T.2.2.2.2.2.2.2))]) := hD
  have hw : r_ = kGO X.2.2.2.1.1 X.2.1 X.2.2.1 X.2.2.2.2 i w := hw
  subst hw
  refine kc_i (Cs := [mW cy ra (kEn X, (T.1, T.2.1, T.2.2.1, T.2.2.2.1, e5_35, e6_35, e7_35, T.2.2.2.2.2.2.2))]) (Rs := []) (Bs := [mW cy ra (kEn X, (T.1, T.2.1, T.2.2.1, T.2.2.2.1, e5_35, e6_35, e7_35, T.2.2.2.2.2.2.2))]) (Cs' := fun u_ : Unit => [mW cy ra ((kEn X), (T.1, T.2.1, T.2.2.1, nI 0, e5_35, e6_35, e7_35, T.2.2.2.2.2.2.2))]) (Fs := fun u_ : Unit => [mW cy ra ((kEn X), (T.1, T.2.1, T.2.2.1, nI 0, e5_35, e6_35, e7_35, T.2.2.2.2.2.2.2))]) hP hD hS hA [0] [] [0] rfl rfl (by decide) (by decide) (fun _ => rfl) (va_runV (As := [.int (kGO X.2.2.2.1.1 X.2.1 X.2.2.1 X.2.2.2.2 i w)]) (rest := []) ⟨hx, hb, hml, hown, hts⟩ (c_X5_fine l D cy ra (kEn X) (T.1, T.2.1, T.2.2.1, T.2.2.2.1, e5_35, e6_35, e7_35, T.2.2.2.2.2.2.2) (kGO X.2.2.2.1.1 X.2.1 X.2.2.1 X.2.2.2.2 i w) H.size) (cwV 1 hts gX5_guest_X5_fine rfl rfl rfl (by decide +kernel) ⟨Nat.le_of_ble_eq_true rfl, Nat.le_of_ble_eq_true rfl⟩) (kPre_V (ci := 5) hK hN hP hD [0] (by decide) rfl 0 rfl rfl) rfl rfl hl.1 rfl (lv_room (Nat.le_of_ble_eq_true rfl)) dX5_guest_38 ⟨Nat.le_of_ble_eq_true rfl, Nat.le_of_ble_eq_true rfl⟩) (fun r_ u_ H locs hw hP hD hS => ?_)
  have hw : r_ = (kGO X.2.2.2.1.1 X.2.1 X.2.2.1 X.2.2.2.2 i w) := hw
  subst hw
  refine lv_goto (tgt := 49) hx hb dX5_guest_41 (by decide) ?_
  exact kr_i (post := fun r_ (u_ : (Nat → Int32) × (Nat → Int32) × (Nat → Int32)) => r_ = kGO X.2.2.2.1.1 X.2.1 X.2.2.1 X.2.2.2.2 i w) (Bs := fun u_ : (Nat → Int32) × (Nat → Int32) × (Nat → Int32) => [mW cy ra (kEn X, (T.1, T.2.1, T.2.2.1, nI 0, u_.1, u_.2.1, u_.2.2, T.2.2.2.2.2.2.2))]) hx hb hr hlocks rfl (e5_35, e6_35, e7_35) hP hK hD hS rfl dX5_guest_49 hQ
abbrev rm_X5_guest_if : Room := { frames := 2, cells := 0, slots := 0, locals := 47 }
set_option maxHeartbeats 1000000 in
set_option maxRecDepth 100000 in
/-- guest, no guest -/
theorem c_X5_guest_if (l : Launch) (D : va_G) (cy : Nat → ClassId) (ra : Nat → Nat) (X : rS) (T : rV) (x : Int32) (i : Int32) (w : Int32) (hx0 : x = 0) (hn : X.2.2.1.2.2.2.2.2 ≤ 8) (hbad : ¬ (¬ i < nI 0 ∧ ¬ nI X.2.2.1.2.2.2.2.2 ≤ i)) (sz : Nat) : Met l yX5_guest wsX5_guest rm_X5_guest_if (va_Pc [.ref (ra 0), .int x, .int i, .int w] (kPre D (kT cy) [mW cy ra (kEn X, T)] sz)) (va_Qi (fun r_ (u_ : Unit) => r_ = nI 0) (kFr D (kT cy) [mW cy ra (kEn X, T)] sz (fun u_ : Unit => [mW cy ra (kEn X, (T.1, T.2.1, T.2.2.1, nI 1, T.2.2.2.2))])) (va_A (bkF [mW cy ra (kEn X, T)]) sz)) 0 0 (va_A (bkF [mW cy ra (kEn X, T)]) sz) := by
  refine kOpen (y := yX5_guest) (ws := wsX5_guest) (cc := cX5_guest) (maxL := 4) (ret := (some .int)) (av := [.ref (ra 0), .int x, .int i, .int w]) (Bs := [mW cy ra (kEn X, T)]) (Qc := fun A => (va_Qi (fun r_ (u_ : Unit) => r_ = nI 0) (fun (u_ : Unit) t9 => kEnd D (kT cy) A [mW cy ra (kEn X, (T.1, T.2.1, T.2.2.1, nI 1, T.2.2.2.2))] t9) A)) (by decide) rfl (Nat.le_of_ble_eq_true rfl) ?_
  intro p e s m args below meth c A Q ls hQ hx hb hml hr hlocks hin hts hown hN hK hP hD hS hA hsz hAe hl
  clear hAe
  have hl : lv_has ls 4 [(0, .ref (ra 0)), (1, .int x), (2, .int i), (3, .int w)] := hl
  suffices K9 : ∀ (H : Heap) (locs : List Loc), va_P D vwCl (bkF [mW cy ra (kEn X, T)]) H → va_S A s.heap H locs → W p l e (headSpec wsX5_guest rm_X5_guest_if).room s m args below meth c H locs 0 0 Q (F0 m 0 ls []) from K9 _ _ hP hS
  clear hP hS
  intro H locs hP hS
  refine lv_aload_n hx hb dX5_guest_0 rfl (lv_at hl 0 rfl) ?_
  refine lv_iload_n hx hb dX5_guest_1 rfl (lv_at hl 1 rfl) ?_
  refine lv_iload_n hx hb dX5_guest_2 rfl (lv_at hl 2 rfl) ?_
  refine kc_i (Cs := [mW cy ra (kEn X, T)]) (Rs := []) (Bs := [mW cy ra (kEn X, T)]) (Cs' := fun u_ : Unit => [mW cy ra (kEn X, T)]) (Fs := fun u_ : Unit => [mW cy ra (kEn X, T)]) hP hD hS hA [0] [] [0] rfl rfl (by decide) (by decide) (fun _ => rfl) (va_runV (As := [.int x, .int i]) (rest := []) ⟨hx, hb, hml, hown, hts⟩ (c_X5_isGuest_f l D cy ra X T x i hx0 hn H.size) (cwV 2 hts gX5_guest_X5_isGuest rfl rfl rfl (by decide +kernel) ⟨Nat.le_of_ble_eq_true rfl, Nat.le_of_ble_eq_true rfl⟩) (kPre_V (ci := 5) hK hN hP hD [0] (by decide) rfl 0 rfl rfl) rfl rfl hl.1 rfl (lv_room (Nat.le_of_ble_eq_true rfl)) dX5_guest_3 ⟨Nat.le_of_ble_eq_true rfl, Nat.le_of_ble_eq_true rfl⟩) (fun r_ u_ H locs hw hP hD hS => ?_)
  have hw : r_ = if ¬ i < nI 0 ∧ ¬ nI X.2.2.1.2.2.2.2.2 ≤ i then nI 1 else nI 0 := hw
  subst hw
  refine kv_i (y := nI 0) (if_neg hbad) ?_
  refine lv_if_ne (tgt := 15) hx hb dX5_guest_6 (by decide) (fun h => absurd h (by decide)) (fun _ => ?_)
  refine lv_aload_n hx hb dX5_guest_9 rfl (lv_at hl 0 rfl) ?_
  refine lv_iconst (v := nI 1) hx hb dX5_guest_10 (by decide) ?_
  refine kc_i (Cs := [mW cy ra (kEn X, T)]) (Rs := []) (Bs := [mW cy ra (kEn X, T)]) (Cs' := fun u_ : Unit => [mW cy ra ((kEn X), (T.1, T.2.1, T.2.2.1, (nI 1), T.2.2.2.2))]) (Fs := fun u_ : Unit => [mW cy ra ((kEn X), (T.1, T.2.1, T.2.2.1, (nI 1), T.2.2.2.2))]) hP hD hS hA [0] [] [0] rfl rfl (by decide) (by decide) (fun _ => rfl) (va_runV (As := [.int (nI 1)]) (rest := []) ⟨hx, hb, hml, hown, hts⟩ (c_X5_throwing l D cy ra (kEn X) T (nI 1) H.size) (cwV 1 hts gX5_guest_X5_throwing rfl rfl rfl (by decide +kernel) ⟨Nat.le_of_ble_eq_true rfl, Nat.le_of_ble_eq_true rfl⟩) (kPre_V (ci := 5) hK hN hP hD [0] (by decide) rfl 0 rfl rfl) rfl rfl hl.1 rfl (lv_room (Nat.le_of_ble_eq_true rfl)) dX5_guest_11 ⟨Nat.le_of_ble_eq_true rfl, Nat.le_of_ble_eq_true rfl⟩) (fun r_ u_ H locs hw hP hD hS => ?_)
  have hw : r_ = nI 0 := hw
  subst hw
  exact kr_i (post := fun r_ (u_ : Unit) => r_ = nI 0) (Bs := fun u_ : Unit => [mW cy ra (kEn X, (T.1, T.2.1, T.2.2.1, nI 1, T.2.2.2.2))]) hx hb hr hlocks rfl () hP hK hD hS rfl dX5_guest_14 hQ
abbrev rm_X5_guest_af : Room := { frames := 2, cells := 0, slots := 0, locals := 47 }
set_option maxHeartbeats 1000000 in
set_option maxRecDepth 100000 in
/-- guest, no such thing -/
theorem c_X5_guest_af (l : Launch) (D : va_G) (cy : Nat → ClassId) (ra : Nat → Nat) (X : rS) (T : rV) (x : Int32) (i : Nat) (w : Int32) (hx0 : x = 0) (hn : X.2.2.1.2.2.2.2.2 ≤ 8) (hi : i < X.2.2.1.2.2.2.2.2) (hbad : ¬ (¬ w < nI 0 ∧ ¬ nI 7 < w)) (sz : Nat) : Met l yX5_guest wsX5_guest rm_X5_guest_af (va_Pc [.ref (ra 0), .int x, .int (nI i), .int w] (kPre D (kT cy) [mW cy ra (kEn X, T)] sz)) (va_Qi (fun r_ (u_ : Unit) => r_ = nI 0) (kFr D (kT cy) [mW cy ra (kEn X, T)] sz (fun u_ : Unit => [mW cy ra (kEn X, (T.1, T.2.1, T.2.2.1, nI 2, T.2.2.2.2))])) (va_A (bkF [mW cy ra (kEn X, T)]) sz)) 0 0 (va_A (bkF [mW cy ra (kEn X, T)]) sz) := by
  refine kOpen (y := yX5_guest) (ws := wsX5_guest) (cc := cX5_guest) (maxL := 4) (ret := (some .int)) (av := [.ref (ra 0), .int x, .int (nI i), .int w]) (Bs := [mW cy ra (kEn X, T)]) (Qc := fun A => (va_Qi (fun r_ (u_ : Unit) => r_ = nI 0) (fun (u_ : Unit) t9 => kEnd D (kT cy) A [mW cy ra (kEn X, (T.1, T.2.1, T.2.2.1, nI 2, T.2.2.2.2))] t9) A)) (by decide) rfl (Nat.le_of_ble_eq_true rfl) ?_
  intro p e s m args below meth c A Q ls hQ hx hb hml hr hlocks hin hts hown hN hK hP hD hS hA hsz hAe hl
  clear hAe
  have hl : lv_has ls 4 [(0, .ref (ra 0)), (1, .int x), (2, .int (nI i)), (3, .int w)] := hl
  suffices K9 : ∀ (H : Heap) (locs : List Loc), va_P D vwCl (bkF [mW cy ra (kEn X, T)]) H → va_S A s.heap H locs → W p l e (headSpec wsX5_guest rm_X5_guest_af).room s m args below meth c H locs 0 0 Q (F0 m 0 ls []) from K9 _ _ hP hS
  clear hP hS
  intro H locs hP hS
  refine lv_aload_n hx hb dX5_guest_0 rfl (lv_at hl 0 rfl) ?_
  refine lv_iload_n hx hb dX5_guest_1 rfl (lv_at hl 1 rfl) ?_
  refine lv_iload_n hx hb dX5_guest_2 rfl (lv_at hl 2 rfl) ?_
  refine kc_i (Cs := [mW cy ra (kEn X, T)]) (Rs := []) (Bs := [mW cy ra (kEn X, T)]) (Cs' := fun u_ : Unit => [mW cy ra (kEn X, T)]) (Fs := fun u_ : Unit => [mW cy ra (kEn X, T)]) hP hD hS hA [0] [] [0] rfl rfl (by decide) (by decide) (fun _ => rfl) (va_runV (As := [.int x, .int (nI i)]) (rest := []) ⟨hx, hb, hml, hown, hts⟩ (c_X5_isGuest_f l D cy ra X T x (nI i) hx0 hn H.size) (cwV 2 hts gX5_guest_X5_isGuest rfl rfl rfl (by decide +kernel) ⟨Nat.le_of_ble_eq_true rfl, Nat.le_of_ble_eq_true rfl⟩) (kPre_V (ci := 5) hK hN hP hD [0] (by decide) rfl 0 rfl rfl) rfl rfl hl.1 rfl (lv_room (Nat.le_of_ble_eq_true rfl)) dX5_guest_3 ⟨Nat.le_of_ble_eq_true rfl, Nat.le_of_ble_eq_true rfl⟩) (fun r_ u_ H locs hw hP hD hS => ?_)
  have hw : r_ = if ¬ (nI i) < nI 0 ∧ ¬ nI X.2.2.1.2.2.2.2.2 ≤ (nI i) then nI 1 else nI 0 := hw
  subst hw
  refine kv_i (y := nI 1) (if_pos (khas (by omega) (by omega))) ?_
  refine lv_if_ne (tgt := 15) hx hb dX5_guest_6 (by decide) (fun _ => ?_) (fun h => absurd h (by decide))
  refine lv_iload_n hx hb dX5_guest_15 rfl (lv_at hl 3 rfl) ?_
  refine lv_i2l (v := w.toInt64) hx hb dX5_guest_16 rfl ?_
  refine lv_lconst (v := 0) hx hb dX5_guest_17 (by decide) ?_
  refine lv_ldc2 hx hb hown (hts (.constantLong RX5 144 (7)) (by decide +kernel)) dX5_guest_18 ?_
  refine kc_i (Cs := []) (Rs := [mW cy ra (kEn X, T)]) (Bs := [mW cy ra (kEn X, T)]) (Cs' := fun u_ : Unit => []) (Fs := fun u_ : Unit => [mW cy ra (kEn X, T)]) hP hD hS hA [] [0] [0] rfl rfl (by decide) (by decide) (fun _ => rfl) (va_runS (As := [.long w.toInt64, .long 0, .long (7)]) (rest := []) ⟨hx, hb, hml, hown, hts⟩ (c_X5_in l D cy w.toInt64 0 (7) H.size) (va_cwS 3 hts gX5_guest_X5_in rfl rfl rfl (by decide +kernel) ⟨Nat.le_of_ble_eq_true rfl, Nat.le_of_ble_eq_true rfl⟩) (kPre_S hK hN hP hD [] (by decide) rfl) rfl rfl hl.1 rfl (lv_room (Nat.le_of_ble_eq_true rfl)) dX5_guest_21 ⟨Nat.le_of_ble_eq_true rfl, Nat.le_of_ble_eq_true rfl⟩) (fun r_ u_ H locs hw hP hD hS => ?_)
  have hw : r_ = if kIn w.toInt64 0 (7) then nI 1 else nI 0 := hw
  subst hw
  refine kv_i (y := nI 0) (if_neg (fun h => hbad ((kIn32 (y := nI 0) (z := nI 7) (by decide) (by decide)).mp h))) ?_
  refine lv_if_eq (tgt := 44) hx hb dX5_guest_24 (by decide) (fun _ => ?_) (fun h => absurd h (by decide))
  refine lv_aload_n hx hb dX5_guest_44 rfl (lv_at hl 0 rfl) ?_
  refine lv_iconst (v := nI 2) hx hb dX5_guest_45 (by decide) ?_
  refine kc_i (Cs := [mW cy ra (kEn X, T)]) (Rs := []) (Bs := [mW cy ra (kEn X, T)]) (Cs' := fun u_ : Unit => [mW cy ra ((kEn X), (T.1, T.2.1, T.2.2.1, (nI 2), T.2.2.2.2))]) (Fs := fun u_ : Unit => [mW cy ra ((kEn X), (T.1, T.2.1, T.2.2.1, (nI 2), T.2.2.2.2))]) hP hD hS hA [0] [] [0] rfl rfl (by decide) (by decide) (fun _ => rfl) (va_runV (As := [.int (nI 2)]) (rest := []) ⟨hx, hb, hml, hown, hts⟩ (c_X5_throwing l D cy ra (kEn X) T (nI 2) H.size) (cwV 1 hts gX5_guest_X5_throwing rfl rfl rfl (by decide +kernel) ⟨Nat.le_of_ble_eq_true rfl, Nat.le_of_ble_eq_true rfl⟩) (kPre_V (ci := 5) hK hN hP hD [0] (by decide) rfl 0 rfl rfl) rfl rfl hl.1 rfl (lv_room (Nat.le_of_ble_eq_true rfl)) dX5_guest_46 ⟨Nat.le_of_ble_eq_true rfl, Nat.le_of_ble_eq_true rfl⟩) (fun r_ u_ H locs hw hP hD hS => ?_)
  have hw : r_ = nI 0 := hw
  subst hw
  exact kr_i (post := fun r_ (u_ : Unit) => r_ = nI 0) (Bs := fun u_ : Unit => [mW cy ra (kEn X, (T.1, T.2.1, T.2.2.1, nI 2, T.2.2.2.2))]) hx hb hr hlocks rfl () hP hK hD hS rfl dX5_guest_49 hQ
