abbrev rm_X5_dances : Room := { frames := 4, cells := 0, slots := 0, locals := 96 }
set_option maxHeartbeats 2000000 in
set_option maxRecDepth 100000 in
/-- dances -/
theorem c_X5_dances (l : Launch) (D : va_G) (cy : Nat → ClassId) (ra : Nat → Nat) (X : rS) (T : rV) (hk : kOkR X) (hoc : kOkC X.1) (sz : Nat) : Met l yX5_dances wsX5_dances rm_X5_dances (va_Pc [.ref (ra 0)] (kPre D (kT cy) [mW cy ra (kEn X, T)] sz)) (va_Qi (fun r_ (u_ : Unit) => r_ = nI (kCX X (kro X.1))) (kFr D (kT cy) [mW cy ra (kEn X, T)] sz (fun u_ : Unit => [mW cy ra (kEn (kX4 X (kDn X.2.2.2.1.1 (kS4 X))), (T.1, T.2.1, T.2.2.1, T.2.2.2.1, kLft T.2.2.2.2.1 X, kLnt X, kCan X, (kVv (kMX X)), kFX X (kro X.1), T.2.2.2.2.2.2.2.2.2))])) (va_A (bkF [mW cy ra (kEn X, T)]) sz)) 0 0 (va_A (bkF [mW cy ra (kEn X, T)]) sz) := by
  refine kOpen (y := yX5_dances) (ws := wsX5_dances) (cc := cX5_dances) (maxL := 3) (ret := (some .int)) (av := [.ref (ra 0)]) (Bs := [mW cy ra (kEn X, T)]) (Qc := fun A => (va_Qi (fun r_ (u_ : Unit) => r_ = nI (kCX X (kro X.1))) (fun (u_ : Unit) t9 => kEnd D (kT cy) A [mW cy ra (kEn (kX4 X (kDn X.2.2.2.1.1 (kS4 X))), (T.1, T.2.1, T.2.2.1, T.2.2.2.1, kLft T.2.2.2.2.1 X, kLnt X, kCan X, (kVv (kMX X)), kFX X (kro X.1), T.2.2.2.2.2.2.2.2.2))] t9) A)) (by decide) rfl (Nat.le_of_ble_eq_true rfl) ?_
  intro p e s m args below meth c A Q ls hQ hx hb hml hr hlocks hin hts hown hN hK hP hD hS hA hsz hAe hl
  clear hAe
  have hl : lv_has ls 3 [(0, .ref (ra 0))] := hl
  suffices K9 : ∀ (H : Heap) (locs : List Loc), va_P D vwCl (bkF [mW cy ra (kEn X, T)]) H → va_S A s.heap H locs → W p l e (headSpec wsX5_dances rm_X5_dances).room s m args below meth c H locs 0 0 Q (F0 m 0 ls []) from K9 _ _ hP hS
  clear hP hS
  intro H locs hP hS
  refine lv_aload_n hx hb dX5_dances_0 rfl (lv_at hl 0 rfl) ?_
  refine lv_aload_n hx hb dX5_dances_1 rfl (lv_at hl 0 rfl) ?_
  refine va_get (D := D) (ci := 5) (v := .ref (ra 1)) (C := RX5) (T := TX5) (N := 16) hx hb hts (by decide +kernel) hown hK hP 0 rfl rfl 0 (by decide) (hts (.fieldLink RX5 7 "DanceHallModel" "all" "[I") (by decide +kernel)) (fun _ h9 => h9) rfl dX5_dances_2 ?_
  refine lv_iconst (v := nI 2) hx hb dX5_dances_5 (by decide) ?_
  refine va_iald hx hb hK hP 1 0 rfl rfl (vp_in_nI (n := 2) (N := 188) (by omega) (by omega)) dX5_dances_6 ?_
  refine kv_i (y := nI X.1.1) (show ((kEn X)) (nI 2).toNatClampNeg = nI X.1.1 from rfl) ?_
  refine kc_i (Cs := [mW cy ra (kEn X, T)]) (Rs := []) (Bs := [mW cy ra (kEn X, T)]) (Cs' := fun u_ : Unit => [mW cy ra (kEn X, (T.1, T.2.1, T.2.2.1, T.2.2.2.1, kLft T.2.2.2.2.1 X, kLnt X, kCan X, (kVv (kMX X)), kFX X (2 * min X.1.1 (X.1.2.1 / 2)), T.2.2.2.2.2.2.2.2.2))]) (Fs := fun u_ : Unit => [mW cy ra (kEn X, (T.1, T.2.1, T.2.2.1, T.2.2.2.1, kLft T.2.2.2.2.1 X, kLnt X, kCan X, (kVv (kMX X)), kFX X (2 * min X.1.1 (X.1.2.1 / 2)), T.2.2.2.2.2.2.2.2.2))]) hP hD hS hA [0] [] [0] rfl rfl (by decide) (by decide) (fun _ => rfl) (va_runV (As := [.int (nI X.1.1)]) (rest := []) ⟨hx, hb, hml, hown, hts⟩ (c_X5_chooses l D cy ra X T X.1.1 hk hoc.1 hoc.2.1 H.size) (cwV 1 hts gX5_dances_X5_chooses rfl rfl rfl (by decide +kernel) ⟨Nat.le_of_ble_eq_true rfl, Nat.le_of_ble_eq_true rfl⟩) (kPre_V (ci := 5) hK hN hP hD [0] (by decide) rfl 0 rfl rfl) rfl rfl hl.1 rfl (lv_room (Nat.le_of_ble_eq_true rfl)) dX5_dances_7 ⟨Nat.le_of_ble_eq_true rfl, Nat.le_of_ble_eq_true rfl⟩) (fun r_ u_ H locs hw hP hD hS => ?_)
  have hw : r_ = nI (kCX X (2 * min X.1.1 (X.1.2.1 / 2))) := hw
  subst hw
  refine kv_i (y := nI (kCX X (kro X.1))) rfl ?_
  rw [show 2 * min X.1.1 (X.1.2.1 / 2) = kro X.1 from rfl] at hP hD
  obtain ⟨fo9, hfo⟩ : ∃ fo9, fo9 = kFX X (kro X.1) := ⟨_, rfl⟩
  rw [← hfo] at hP hD
  have hP : va_P D vwCl (bkF [mW cy ra (kEn X, (T.1, T.2.1, T.2.2.1, T.2.2.2.1, kLft T.2.2.2.2.1 X, kLnt X, kCan X, (kVv (kMX X)), fo9, T.2.2.2.2.2.2.2.2.2))]) H := hP
  have hD : va_D A (bkF [mW cy ra (kEn X, (T.1, T.2.1, T.2.2.1, T.2.2.2.1, kLft T.2.2.2.2.1 X, kLnt X, kCan X, (kVv (kMX X)), fo9, T.2.2.2.2.2.2.2.2.2))]) := hD
  refine lv_istore_n (lv' := [(1, .int (nI (kCX X (kro X.1)))), (0, .ref (ra 0))]) hx hb dX5_dances_10 rfl hl (by decide) rfl (fun ls hl => ?_)
  have hP : va_P D vwCl (bkF [mW cy ra (kEq X (kTL X.2.2.2.2) (kTF X.2.2.2.2) (kCp X.2.2.2.2), (T.1, T.2.1, T.2.2.1, T.2.2.2.1, kLft T.2.2.2.2.1 X, kLnt X, kCan X, (kVv (kMX X)), fo9, T.2.2.2.2.2.2.2.2.2))]) H := hP
  have hD : va_D A (bkF [mW cy ra (kEq X (kTL X.2.2.2.2) (kTF X.2.2.2.2) (kCp X.2.2.2.2), (T.1, T.2.1, T.2.2.1, T.2.2.2.1, kLft T.2.2.2.2.1 X, kLnt X, kCan X, (kVv (kMX X)), fo9, T.2.2.2.2.2.2.2.2.2))]) := hD
  refine lv_iconst (v := nI 0) hx hb dX5_dances_11 (by decide) ?_
  refine lv_istore_n (lv' := [(2, .int (nI 0)), (1, .int (nI (kCX X (kro X.1)))), (0, .ref (ra 0))]) hx hb dX5_dances_12 rfl hl (by decide) rfl (fun ls hl => ?_)
  have hP := kP_cell (g := (kEq (kXB X (kS4 X)) (kTL (kS4 X).2.2.2) (kTF (kS4 X).2.2.2) (kCp X.2.2.2.2))) hP 1 rfl (fun _ _ => rfl)
  have hD := hD.set (p := 1) (e := .inl (cy 0, 188, .inl (kEq (kXB X (kS4 X)) (kTL (kS4 X).2.2.2) (kTF (kS4 X).2.2.2) (kCp X.2.2.2.2)))) rfl
  have hP : va_P D vwCl (bkF [mW cy ra (kEq (kXB X (kS4 X)) (kTL (kS4 X).2.2.2) (kTF (kS4 X).2.2.2) (kCp X.2.2.2.2), (T.1, T.2.1, T.2.2.1, T.2.2.2.1, kLft T.2.2.2.2.1 X, kLnt X, kCan X, (kVv (kMX X)), fo9, T.2.2.2.2.2.2.2.2.2))]) H := hP
  have hD : va_D A (bkF [mW cy ra (kEq (kXB X (kS4 X)) (kTL (kS4 X).2.2.2) (kTF (kS4 X).2.2.2) (kCp X.2.2.2.2), (T.1, T.2.1, T.2.2.1, T.2.2.2.1, kLft T.2.2.2.2.1 X, kLnt X, kCan X, (kVv (kMX X)), fo9, T.2.2.2.2.2.2.2.2.2))]) := hD
  have L_13 : ∀ (n9 : Nat) (i : Nat) (B : kSt), 8 - i = n9 → (i ≤ 8) → (B = (kBook (kFX X (kro X.1)) (kS4 X) i)) → ∀ (ls : Array Slot) (H : Heap) (locs : List Loc), va_P D vwCl (bkF [mW cy ra (kEq (kXB X B) (kTL B.2.2.2) (kTF B.2.2.2) (kCp X.2.2.2.2), (T.1, T.2.1, T.2.2.1, T.2.2.2.1, kLft T.2.2.2.2.1 X, kLnt X, kCan X, (kVv (kMX X)), fo9, T.2.2.2.2.2.2.2.2.2))]) H → va_D A (bkF [mW cy ra (kEq (kXB X B) (kTL B.2.2.2) (kTF B.2.2.2) (kCp X.2.2.2.2), (T.1, T.2.1, T.2.2.1, T.2.2.2.1, kLft T.2.2.2.2.1 X, kLnt X, kCan X, (kVv (kMX X)), fo9, T.2.2.2.2.2.2.2.2.2))]) → va_S A s.heap H locs → lv_has ls 3 [(0, .ref (ra 0)), (1, .int (nI (kCX X (kro X.1)))), (2, .int (nI i))] → W p l e (headSpec wsX5_dances rm_X5_dances).room s m args below meth c H locs 0 0 Q (F0 m 13 ls []) := by
    intro n9
    induction n9 using Nat.strongRecOn with
    | _ n9 ih_13 =>
    intro i B hm_13 h13_0 h13_1 ls H locs hP hD hS hl
    refine lv_iload_n hx hb dX5_dances_13 rfl (lv_at hl 2 rfl) ?_
    refine lv_bipush (v := nI 8) hx hb dX5_dances_14 (by decide) ?_
    refine lv_icmp_ge (tgt := 78) hx hb dX5_dances_16 (by decide) (fun c_16 => ?_) (fun c_16 => ?_)
    · skip
      have c_16 : 8 ≤ i := (nI_leI (a := 8) (b := i) (by omega) (by omega)).mp c_16
      obtain rfl : i = 8 := (by omega)
      have hsm := kBook_same (kFX X (kro X.1)) (kS4 X) 8
      have hB := h13_1
      rw [← hB] at hsm
      have hl6 : B.1.1 ≤ 6 := by rw [hsm.1]; exact hoc.1
      have ho6 : B.1.2.1 ≤ 999 := by rw [hsm.2.1]; exact hoc.2.1
      refine lv_iconst (v := nI 2) hx hb dX5_dances_78 (by decide) ?_
      refine lv_aload_n hx hb dX5_dances_79 rfl (lv_at hl 0 rfl) ?_
      refine lv_aload_n hx hb dX5_dances_80 rfl (lv_at hl 0 rfl) ?_
      refine va_get (D := D) (ci := 5) (v := .ref (ra 1)) (C := RX5) (T := TX5) (N := 16) hx hb hts (by decide +kernel) hown hK hP 0 rfl rfl 0 (by decide) (hts (.fieldLink RX5 7 "DanceHallModel" "all" "[I") (by decide +kernel)) (fun _ h9 => h9) rfl dX5_dances_81 ?_
      refine lv_iconst (v := nI 2) hx hb dX5_dances_84 (by decide) ?_
      refine va_iald hx hb hK hP 1 0 rfl rfl (vp_in_nI (n := 2) (N := 188) (by omega) (by omega)) dX5_dances_85 ?_
      refine kv_i (y := nI B.1.1) (show ((kEq (kXB X B) (kTL B.2.2.2) (kTF B.2.2.2) (kCp X.2.2.2.2))) (nI 2).toNatClampNeg = nI B.1.1 from rfl) ?_
      refine kc_i (Cs := [mW cy ra (kEq (kXB X B) (kTL B.2.2.2) (kTF B.2.2.2) (kCp X.2.2.2.2), (T.1, T.2.1, T.2.2.1, T.2.2.2.1, kLft T.2.2.2.2.1 X, kLnt X, kCan X, (kVv (kMX X)), fo9, T.2.2.2.2.2.2.2.2.2))]) (Rs := []) (Bs := [mW cy ra (kEq (kXB X B) (kTL B.2.2.2) (kTF B.2.2.2) (kCp X.2.2.2.2), (T.1, T.2.1, T.2.2.1, T.2.2.2.1, kLft T.2.2.2.2.1 X, kLnt X, kCan X, (kVv (kMX X)), fo9, T.2.2.2.2.2.2.2.2.2))]) (Cs' := fun u_ : Unit => [mW cy ra (kEq (kXB X B) (kTL B.2.2.2) (kTF B.2.2.2) (kCp X.2.2.2.2), (T.1, T.2.1, T.2.2.1, T.2.2.2.1, kLft T.2.2.2.2.1 X, kLnt X, kCan X, (kVv (kMX X)), fo9, T.2.2.2.2.2.2.2.2.2))]) (Fs := fun u_ : Unit => [mW cy ra (kEq (kXB X B) (kTL B.2.2.2) (kTF B.2.2.2) (kCp X.2.2.2.2), (T.1, T.2.1, T.2.2.1, T.2.2.2.1, kLft T.2.2.2.2.1 X, kLnt X, kCan X, (kVv (kMX X)), fo9, T.2.2.2.2.2.2.2.2.2))]) hP hD hS hA [0] [] [0] rfl rfl (by decide) (by decide) (fun _ => rfl) (va_runV (As := [.int (nI B.1.1)]) (rest := [.int (nI 2)]) ⟨hx, hb, hml, hown, hts⟩ (c_X5_litOf_q l D cy ra (kEq (kXB X B) (kTL B.2.2.2) (kTF B.2.2.2) (kCp X.2.2.2.2)) (T.1, T.2.1, T.2.2.1, T.2.2.2.1, kLft T.2.2.2.2.1 X, kLnt X, kCan X, (kVv (kMX X)), fo9, T.2.2.2.2.2.2.2.2.2) B.1.1 B.1.2.1 hl6 ho6 rfl H.size) (cwV 1 hts gX5_dances_X5_litOf rfl rfl rfl (by decide +kernel) ⟨Nat.le_of_ble_eq_true rfl, Nat.le_of_ble_eq_true rfl⟩) (kPre_V (ci := 5) hK hN hP hD [0] (by decide) rfl 0 rfl rfl) rfl rfl hl.1 rfl (lv_room (Nat.le_of_ble_eq_true rfl)) dX5_dances_86 ⟨Nat.le_of_ble_eq_true rfl, Nat.le_of_ble_eq_true rfl⟩) (fun r_ u_ H locs hw hP hD hS => ?_)
      have hw : r_ = nI (min B.1.1 (B.1.2.1 / 2)) := hw
      subst hw
      refine lv_imul hx hb dX5_dances_89 ?_
      refine kv_i (y := nI (kro B.1)) (pk_mul _ _) ?_
      refine lv_istore_n (lv' := [(2, .int (nI (kro B.1))), (0, .ref (ra 0)), (1, .int (nI (kCX X (kro X.1))))]) hx hb dX5_dances_90 rfl hl (by decide) rfl (fun ls hl => ?_)
      refine lv_aload_n hx hb dX5_dances_91 rfl (lv_at hl 1 rfl) ?_
      refine va_get (D := D) (ci := 5) (v := .ref (ra 1)) (C := RX5) (T := TX5) (N := 16) hx hb hts (by decide +kernel) hown hK hP 0 rfl rfl 0 (by decide) (hts (.fieldLink RX5 7 "DanceHallModel" "all" "[I") (by decide +kernel)) (fun _ h9 => h9) rfl dX5_dances_92 ?_
      refine lv_iconst (v := nI 3) hx hb dX5_dances_95 (by decide) ?_
      refine lv_dup2_11 hx hb dX5_dances_96 rfl rfl ?_
      refine va_iald hx hb hK hP 1 0 rfl rfl (vp_in_nI (n := 3) (N := 188) (by omega) (by omega)) dX5_dances_97 ?_
      refine kv_i (y := nI B.1.2.1) (show ((kEq (kXB X B) (kTL B.2.2.2) (kTF B.2.2.2) (kCp X.2.2.2.2))) (nI 3).toNatClampNeg = nI B.1.2.1 from rfl) ?_
      refine lv_iload_n hx hb dX5_dances_98 rfl (lv_at hl 0 rfl) ?_
      refine lv_isub hx hb dX5_dances_99 ?_
      refine kv_i (y := nI (B.1.2.1 - (kro B.1))) (pk_sub (a := B.1.2.1) (b := kro B.1) (by unfold kro; omega)) ?_
      refine va_iast hx hb hK hP hD hS 1 0 rfl rfl (vp_in_nI (n := 3) (N := 188) (by omega) (by omega)) dX5_dances_100 (fun H locs hP hD hS => ?_)
      have hP : va_P D vwCl (bkF [mW cy ra (upd (kEq (kXB X B) (kTL B.2.2.2) (kTF B.2.2.2) (kCp X.2.2.2.2)) 3 (nI (B.1.2.1 - (kro B.1))), (T.1, T.2.1, T.2.2.1, T.2.2.2.1, kLft T.2.2.2.2.1 X, kLnt X, kCan X, (kVv (kMX X)), fo9, T.2.2.2.2.2.2.2.2.2))]) H := hP
      have hD : va_D A (bkF [mW cy ra (upd (kEq (kXB X B) (kTL B.2.2.2) (kTF B.2.2.2) (kCp X.2.2.2.2)) 3 (nI (B.1.2.1 - (kro B.1))), (T.1, T.2.1, T.2.2.1, T.2.2.2.1, kLft T.2.2.2.2.1 X, kLnt X, kCan X, (kVv (kMX X)), fo9, T.2.2.2.2.2.2.2.2.2))]) := hD
      have hP := kP_cell (g := (kEq ((B.1.1, B.1.2.1 - kro B.1, B.1.2.2.1, B.1.2.2.2.1, B.1.2.2.2.2.1, B.1.2.2.2.2.2.1, B.1.2.2.2.2.2.2.1, X.1.2.2.2.2.2.2.2), B.2.1, B.2.2.1, X.2.2.2.1, B.2.2.2) (kTL B.2.2.2) (kTF B.2.2.2) (kCp X.2.2.2.2))) hP 1 rfl (fun j hj => (kqu_C (C' := (B.1.1, B.1.2.1 - kro B.1, B.1.2.2.1, B.1.2.2.2.1, B.1.2.2.2.2.1, B.1.2.2.2.2.2.1, B.1.2.2.2.2.2.2.1, X.1.2.2.2.2.2.2.2)) (i := 3) (by decide) rfl (fun j9 hj9 hne => by rcases k11 hj9 with rfl | rfl | rfl | rfl | rfl | rfl | rfl | rfl | rfl | rfl | rfl <;> first | rfl | exact absurd rfl hne)) j hj)
      have hD := hD.set (p := 1) (e := .inl (cy 0, 188, .inl (kEq ((B.1.1, B.1.2.1 - kro B.1, B.1.2.2.1, B.1.2.2.2.1, B.1.2.2.2.2.1, B.1.2.2.2.2.2.1, B.1.2.2.2.2.2.2.1, X.1.2.2.2.2.2.2.2), B.2.1, B.2.2.1, X.2.2.2.1, B.2.2.2) (kTL B.2.2.2) (kTF B.2.2.2) (kCp X.2.2.2.2)))) rfl
      have hP : va_P D vwCl (bkF [mW cy ra (kEq ((B.1.1, B.1.2.1 - kro B.1, B.1.2.2.1, B.1.2.2.2.1, B.1.2.2.2.2.1, B.1.2.2.2.2.2.1, B.1.2.2.2.2.2.2.1, X.1.2.2.2.2.2.2.2), B.2.1, B.2.2.1, X.2.2.2.1, B.2.2.2) (kTL B.2.2.2) (kTF B.2.2.2) (kCp X.2.2.2.2), (T.1, T.2.1, T.2.2.1, T.2.2.2.1, kLft T.2.2.2.2.1 X, kLnt X, kCan X, (kVv (kMX X)), fo9, T.2.2.2.2.2.2.2.2.2))]) H := hP
      have hD : va_D A (bkF [mW cy ra (kEq ((B.1.1, B.1.2.1 - kro B.1, B.1.2.2.1, B.1.2.2.2.1, B.1.2.2.2.2.1, B.1.2.2.2.2.2.1, B.1.2.2.2.2.2.2.1, X.1.2.2.2.2.2.2.2), B.2.1, B.2.2.1, X.2.2.2.1, B.2.2.2) (kTL B.2.2.2) (kTF B.2.2.2) (kCp X.2.2.2.2), (T.1, T.2.1, T.2.2.1, T.2.2.2.1, kLft T.2.2.2.2.1 X, kLnt X, kCan X, (kVv (kMX X)), fo9, T.2.2.2.2.2.2.2.2.2))]) := hD
      refine lv_aload_n hx hb dX5_dances_101 rfl (lv_at hl 1 rfl) ?_
      refine va_get (D := D) (ci := 5) (v := .ref (ra 1)) (C := RX5) (T := TX5) (N := 16) hx hb hts (by decide +kernel) hown hK hP 0 rfl rfl 0 (by decide) (hts (.fieldLink RX5 7 "DanceHallModel" "all" "[I") (by decide +kernel)) (fun _ h9 => h9) rfl dX5_dances_102 ?_
      refine lv_bipush (v := nI 10) hx hb dX5_dances_105 (by decide) ?_
      refine lv_dup2_11 hx hb dX5_dances_107 rfl rfl ?_
      refine va_iald hx hb hK hP 1 0 rfl rfl (vp_in_nI (n := 10) (N := 188) (by omega) (by omega)) dX5_dances_108 ?_
      refine kv_i (y := B.1.2.2.1) (show ((kEq ((B.1.1, B.1.2.1 - kro B.1, B.1.2.2.1, B.1.2.2.2.1, B.1.2.2.2.2.1, B.1.2.2.2.2.2.1, B.1.2.2.2.2.2.2.1, X.1.2.2.2.2.2.2.2), B.2.1, B.2.2.1, X.2.2.2.1, B.2.2.2) (kTL B.2.2.2) (kTF B.2.2.2) (kCp X.2.2.2.2))) (nI 10).toNatClampNeg = B.1.2.2.1 from rfl) ?_
      refine lv_iload_n hx hb dX5_dances_109 rfl (lv_at hl 0 rfl) ?_
      refine lv_iadd hx hb dX5_dances_110 ?_
      refine va_iast hx hb hK hP hD hS 1 0 rfl rfl (vp_in_nI (n := 10) (N := 188) (by omega) (by omega)) dX5_dances_111 (fun H locs hP hD hS => ?_)
      have hP : va_P D vwCl (bkF [mW cy ra (upd (kEq ((B.1.1, B.1.2.1 - kro B.1, B.1.2.2.1, B.1.2.2.2.1, B.1.2.2.2.2.1, B.1.2.2.2.2.2.1, B.1.2.2.2.2.2.2.1, X.1.2.2.2.2.2.2.2), B.2.1, B.2.2.1, X.2.2.2.1, B.2.2.2) (kTL B.2.2.2) (kTF B.2.2.2) (kCp X.2.2.2.2)) 10 (B.1.2.2.1 + (nI (kro B.1))), (T.1, T.2.1, T.2.2.1, T.2.2.2.1, kLft T.2.2.2.2.1 X, kLnt X, kCan X, (kVv (kMX X)), fo9, T.2.2.2.2.2.2.2.2.2))]) H := hP
      have hD : va_D A (bkF [mW cy ra (upd (kEq ((B.1.1, B.1.2.1 - kro B.1, B.1.2.2.1, B.1.2.2.2.1, B.1.2.2.2.2.1, B.1.2.2.2.2.2.1, B.1.2.2.2.2.2.2.1, X.1.2.2.2.2.2.2.2), B.2.1, B.2.2.1, X.2.2.2.1, B.2.2.2) (kTL B.2.2.2) (kTF B.2.2.2) (kCp X.2.2.2.2)) 10 (B.1.2.2.1 + (nI (kro B.1))), (T.1, T.2.1, T.2.2.1, T.2.2.2.1, kLft T.2.2.2.2.1 X, kLnt X, kCan X, (kVv (kMX X)), fo9, T.2.2.2.2.2.2.2.2.2))]) := hD
      have hP := kP_cell (g := (kEq ((B.1.1, B.1.2.1 - kro B.1, B.1.2.2.1 + nI (kro B.1), B.1.2.2.2.1, B.1.2.2.2.2.1, B.1.2.2.2.2.2.1, B.1.2.2.2.2.2.2.1, X.1.2.2.2.2.2.2.2), B.2.1, B.2.2.1, X.2.2.2.1, B.2.2.2) (kTL B.2.2.2) (kTF B.2.2.2) (kCp X.2.2.2.2))) hP 1 rfl (fun j hj => (kqu_C (C' := (B.1.1, B.1.2.1 - kro B.1, B.1.2.2.1 + nI (kro B.1), B.1.2.2.2.1, B.1.2.2.2.2.1, B.1.2.2.2.2.2.1, B.1.2.2.2.2.2.2.1, X.1.2.2.2.2.2.2.2)) (i := 10) (by decide) rfl (fun j9 hj9 hne => by rcases k11 hj9 with rfl | rfl | rfl | rfl | rfl | rfl | rfl | rfl | rfl | rfl | rfl <;> first | rfl | exact absurd rfl hne)) j hj)
      have hD := hD.set (p := 1) (e := .inl (cy 0, 188, .inl (kEq ((B.1.1, B.1.2.1 - kro B.1, B.1.2.2.1 + nI (kro B.1), B.1.2.2.2.1, B.1.2.2.2.2.1, B.1.2.2.2.2.2.1, B.1.2.2.2.2.2.2.1, X.1.2.2.2.2.2.2.2), B.2.1, B.2.2.1, X.2.2.2.1, B.2.2.2) (kTL B.2.2.2) (kTF B.2.2.2) (kCp X.2.2.2.2)))) rfl
      have hP : va_P D vwCl (bkF [mW cy ra (kEq ((B.1.1, B.1.2.1 - kro B.1, B.1.2.2.1 + nI (kro B.1), B.1.2.2.2.1, B.1.2.2.2.2.1, B.1.2.2.2.2.2.1, B.1.2.2.2.2.2.2.1, X.1.2.2.2.2.2.2.2), B.2.1, B.2.2.1, X.2.2.2.1, B.2.2.2) (kTL B.2.2.2) (kTF B.2.2.2) (kCp X.2.2.2.2), (T.1, T.2.1, T.2.2.1, T.2.2.2.1, kLft T.2.2.2.2.1 X, kLnt X, kCan X, (kVv (kMX X)), fo9, T.2.2.2.2.2.2.2.2.2))]) H := hP
      have hD : va_D A (bkF [mW cy ra (kEq ((B.1.1, B.1.2.1 - kro B.1, B.1.2.2.1 + nI (kro B.1), B.1.2.2.2.1, B.1.2.2.2.2.1, B.1.2.2.2.2.2.1, B.1.2.2.2.2.2.2.1, X.1.2.2.2.2.2.2.2), B.2.1, B.2.2.1, X.2.2.2.1, B.2.2.2) (kTL B.2.2.2) (kTF B.2.2.2) (kCp X.2.2.2.2), (T.1, T.2.1, T.2.2.1, T.2.2.2.1, kLft T.2.2.2.2.1 X, kLnt X, kCan X, (kVv (kMX X)), fo9, T.2.2.2.2.2.2.2.2.2))]) := hD
      refine lv_aload_n hx hb dX5_dances_112 rfl (lv_at hl 1 rfl) ?_
      refine va_get (D := D) (ci := 5) (v := .ref (ra 1)) (C := RX5) (T := TX5) (N := 16) hx hb hts (by decide +kernel) hown hK hP 0 rfl rfl 0 (by decide) (hts (.fieldLink RX5 7 "DanceHallModel" "all" "[I") (by decide +kernel)) (fun _ h9 => h9) rfl dX5_dances_113 ?_
      refine lv_iconst (v := nI 5) hx hb dX5_dances_116 (by decide) ?_
      refine lv_dup2_11 hx hb dX5_dances_117 rfl rfl ?_
      refine va_iald hx hb hK hP 1 0 rfl rfl (vp_in_nI (n := 5) (N := 188) (by omega) (by omega)) dX5_dances_118 ?_
      refine kv_i (y := nI B.1.2.2.2.2.2.2.1) (show ((kEq ((B.1.1, B.1.2.1 - kro B.1, B.1.2.2.1 + nI (kro B.1), B.1.2.2.2.1, B.1.2.2.2.2.1, B.1.2.2.2.2.2.1, B.1.2.2.2.2.2.2.1, X.1.2.2.2.2.2.2.2), B.2.1, B.2.2.1, X.2.2.2.1, B.2.2.2) (kTL B.2.2.2) (kTF B.2.2.2) (kCp X.2.2.2.2))) (nI 5).toNatClampNeg = nI B.1.2.2.2.2.2.2.1 from rfl) ?_
      refine lv_iconst (v := nI 1) hx hb dX5_dances_119 (by decide) ?_
      refine lv_iadd hx hb dX5_dances_120 ?_
      refine kv_i (y := nI (B.1.2.2.2.2.2.2.1 + 1)) (nI_add B.1.2.2.2.2.2.2.1 1) ?_
      refine va_iast hx hb hK hP hD hS 1 0 rfl rfl (vp_in_nI (n := 5) (N := 188) (by omega) (by omega)) dX5_dances_121 (fun H locs hP hD hS => ?_)
      have hP : va_P D vwCl (bkF [mW cy ra (upd (kEq ((B.1.1, B.1.2.1 - kro B.1, B.1.2.2.1 + nI (kro B.1), B.1.2.2.2.1, B.1.2.2.2.2.1, B.1.2.2.2.2.2.1, B.1.2.2.2.2.2.2.1, X.1.2.2.2.2.2.2.2), B.2.1, B.2.2.1, X.2.2.2.1, B.2.2.2) (kTL B.2.2.2) (kTF B.2.2.2) (kCp X.2.2.2.2)) 5 (nI (B.1.2.2.2.2.2.2.1 + 1)), (T.1, T.2.1, T.2.2.1, T.2.2.2.1, kLft T.2.2.2.2.1 X, kLnt X, kCan X, (kVv (kMX X)), fo9, T.2.2.2.2.2.2.2.2.2))]) H := hP
      have hD : va_D A (bkF [mW cy ra (upd (kEq ((B.1.1, B.1.2.1 - kro B.1, B.1.2.2.1 + nI (kro B.1), B.1.2.2.2.1, B.1.2.2.2.2.1, B.1.2.2.2.2.2.1, B.1.2.2.2.2.2.2.1, X.1.2.2.2.2.2.2.2), B.2.1, B.2.2.1, X.2.2.2.1, B.2.2.2) (kTL B.2.2.2) (kTF B.2.2.2) (kCp X.2.2.2.2)) 5 (nI (B.1.2.2.2.2.2.2.1 + 1)), (T.1, T.2.1, T.2.2.1, T.2.2.2.1, kLft T.2.2.2.2.1 X, kLnt X, kCan X, (kVv (kMX X)), fo9, T.2.2.2.2.2.2.2.2.2))]) := hD
      have hP := kP_cell (g := (kEq ((B.1.1, B.1.2.1 - kro B.1, B.1.2.2.1 + nI (kro B.1), B.1.2.2.2.1, B.1.2.2.2.2.1, B.1.2.2.2.2.2.1, B.1.2.2.2.2.2.2.1 + 1, X.1.2.2.2.2.2.2.2), B.2.1, B.2.2.1, X.2.2.2.1, B.2.2.2) (kTL B.2.2.2) (kTF B.2.2.2) (kCp X.2.2.2.2))) hP 1 rfl (fun j hj => (kqu_C (C' := (B.1.1, B.1.2.1 - kro B.1, B.1.2.2.1 + nI (kro B.1), B.1.2.2.2.1, B.1.2.2.2.2.1, B.1.2.2.2.2.2.1, B.1.2.2.2.2.2.2.1 + 1, X.1.2.2.2.2.2.2.2)) (i := 5) (by decide) rfl (fun j9 hj9 hne => by rcases k11 hj9 with rfl | rfl | rfl | rfl | rfl | rfl | rfl | rfl | rfl | rfl | rfl <;> first | rfl | exact absurd rfl hne)) j hj)
      have hD := hD.set (p := 1) (e := .inl (cy 0, 188, .inl (kEq ((B.1.1, B.1.2.1 - kro B.1, B.1.2.2.1 + nI (kro B.1), B.1.2.2.2.1, B.1.2.2.2.2.1, B.1.2.2.2.2.2.1, B.1.2.2.2.2.2.2.1 + 1, X.1.2.2.2.2.2.2.2), B.2.1, B.2.2.1, X.2.2.2.1, B.2.2.2) (kTL B.2.2.2) (kTF B.2.2.2) (kCp X.2.2.2.2)))) rfl
      have hP : va_P D vwCl (bkF [mW cy ra (kEq ((B.1.1, B.1.2.1 - kro B.1, B.1.2.2.1 + nI (kro B.1), B.1.2.2.2.1, B.1.2.2.2.2.1, B.1.2.2.2.2.2.1, B.1.2.2.2.2.2.2.1 + 1, X.1.2.2.2.2.2.2.2), B.2.1, B.2.2.1, X.2.2.2.1, B.2.2.2) (kTL B.2.2.2) (kTF B.2.2.2) (kCp X.2.2.2.2), (T.1, T.2.1, T.2.2.1, T.2.2.2.1, kLft T.2.2.2.2.1 X, kLnt X, kCan X, (kVv (kMX X)), fo9, T.2.2.2.2.2.2.2.2.2))]) H := hP
      have hD : va_D A (bkF [mW cy ra (kEq ((B.1.1, B.1.2.1 - kro B.1, B.1.2.2.1 + nI (kro B.1), B.1.2.2.2.1, B.1.2.2.2.2.1, B.1.2.2.2.2.2.1, B.1.2.2.2.2.2.2.1 + 1, X.1.2.2.2.2.2.2.2), B.2.1, B.2.2.1, X.2.2.2.1, B.2.2.2) (kTL B.2.2.2) (kTF B.2.2.2) (kCp X.2.2.2.2), (T.1, T.2.1, T.2.2.1, T.2.2.2.1, kLft T.2.2.2.2.1 X, kLnt X, kCan X, (kVv (kMX X)), fo9, T.2.2.2.2.2.2.2.2.2))]) := hD
      refine lv_aload_n hx hb dX5_dances_122 rfl (lv_at hl 1 rfl) ?_
      refine va_get (D := D) (ci := 5) (v := .ref (ra 1)) (C := RX5) (T := TX5) (N := 16) hx hb hts (by decide +kernel) hown hK hP 0 rfl rfl 0 (by decide) (hts (.fieldLink RX5 7 "DanceHallModel" "all" "[I") (by decide +kernel)) (fun _ h9 => h9) rfl dX5_dances_123 ?_
      refine lv_bipush (v := nI 6) hx hb dX5_dances_126 (by decide) ?_
      refine lv_dup2_11 hx hb dX5_dances_128 rfl rfl ?_
      refine va_iald hx hb hK hP 1 0 rfl rfl (vp_in_nI (n := 6) (N := 188) (by omega) (by omega)) dX5_dances_129 ?_
      refine kv_i (y := nI (kCp X.2.2.2.2)) (show ((kEq ((B.1.1, B.1.2.1 - kro B.1, B.1.2.2.1 + nI (kro B.1), B.1.2.2.2.1, B.1.2.2.2.2.1, B.1.2.2.2.2.2.1, B.1.2.2.2.2.2.2.1 + 1, X.1.2.2.2.2.2.2.2), B.2.1, B.2.2.1, X.2.2.2.1, B.2.2.2) (kTL B.2.2.2) (kTF B.2.2.2) (kCp X.2.2.2.2))) (nI 6).toNatClampNeg = nI (kCp X.2.2.2.2) from rfl) ?_
      refine lv_iload_n hx hb dX5_dances_130 rfl (lv_at hl 2 rfl) ?_
      refine lv_iadd hx hb dX5_dances_131 ?_
      refine kv_i (y := nI ((kCp X.2.2.2.2) + (kCX X (kro X.1)))) (nI_add (kCp X.2.2.2.2) (kCX X (kro X.1))) ?_
      refine va_iast hx hb hK hP hD hS 1 0 rfl rfl (vp_in_nI (n := 6) (N := 188) (by omega) (by omega)) dX5_dances_132 (fun H locs hP hD hS => ?_)
      have hP : va_P D vwCl (bkF [mW cy ra (upd (kEq ((B.1.1, B.1.2.1 - kro B.1, B.1.2.2.1 + nI (kro B.1), B.1.2.2.2.1, B.1.2.2.2.2.1, B.1.2.2.2.2.2.1, B.1.2.2.2.2.2.2.1 + 1, X.1.2.2.2.2.2.2.2), B.2.1, B.2.2.1, X.2.2.2.1, B.2.2.2) (kTL B.2.2.2) (kTF B.2.2.2) (kCp X.2.2.2.2)) 6 (nI ((kCp X.2.2.2.2) + (kCX X (kro X.1)))), (T.1, T.2.1, T.2.2.1, T.2.2.2.1, kLft T.2.2.2.2.1 X, kLnt X, kCan X, (kVv (kMX X)), fo9, T.2.2.2.2.2.2.2.2.2))]) H := hP
      have hD : va_D A (bkF [mW cy ra (upd (kEq ((B.1.1, B.1.2.1 - kro B.1, B.1.2.2.1 + nI (kro B.1), B.1.2.2.2.1, B.1.2.2.2.2.1, B.1.2.2.2.2.2.1, B.1.2.2.2.2.2.2.1 + 1, X.1.2.2.2.2.2.2.2), B.2.1, B.2.2.1, X.2.2.2.1, B.2.2.2) (kTL B.2.2.2) (kTF B.2.2.2) (kCp X.2.2.2.2)) 6 (nI ((kCp X.2.2.2.2) + (kCX X (kro X.1)))), (T.1, T.2.1, T.2.2.1, T.2.2.2.1, kLft T.2.2.2.2.1 X, kLnt X, kCan X, (kVv (kMX X)), fo9, T.2.2.2.2.2.2.2.2.2))]) := hD
      have hP := kP_cell (g := (kEq ((B.1.1, B.1.2.1 - kro B.1, B.1.2.2.1 + nI (kro B.1), B.1.2.2.2.1, B.1.2.2.2.2.1, B.1.2.2.2.2.2.1, B.1.2.2.2.2.2.2.1 + 1, X.1.2.2.2.2.2.2.2), B.2.1, B.2.2.1, X.2.2.2.1, B.2.2.2) (kTL B.2.2.2) (kTF B.2.2.2) (kCp X.2.2.2.2 + kCX X (kro X.1)))) hP 1 rfl (fun j hj => kqu_cp j hj)
      have hD := hD.set (p := 1) (e := .inl (cy 0, 188, .inl (kEq ((B.1.1, B.1.2.1 - kro B.1, B.1.2.2.1 + nI (kro B.1), B.1.2.2.2.1, B.1.2.2.2.2.1, B.1.2.2.2.2.2.1, B.1.2.2.2.2.2.2.1 + 1, X.1.2.2.2.2.2.2.2), B.2.1, B.2.2.1, X.2.2.2.1, B.2.2.2) (kTL B.2.2.2) (kTF B.2.2.2) (kCp X.2.2.2.2 + kCX X (kro X.1))))) rfl
      have hP : va_P D vwCl (bkF [mW cy ra (kEq ((B.1.1, B.1.2.1 - kro B.1, B.1.2.2.1 + nI (kro B.1), B.1.2.2.2.1, B.1.2.2.2.2.1, B.1.2.2.2.2.2.1, B.1.2.2.2.2.2.2.1 + 1, X.1.2.2.2.2.2.2.2), B.2.1, B.2.2.1, X.2.2.2.1, B.2.2.2) (kTL B.2.2.2) (kTF B.2.2.2) (kCp X.2.2.2.2 + kCX X (kro X.1)), (T.1, T.2.1, T.2.2.1, T.2.2.2.1, kLft T.2.2.2.2.1 X, kLnt X, kCan X, (kVv (kMX X)), fo9, T.2.2.2.2.2.2.2.2.2))]) H := hP
      have hD : va_D A (bkF [mW cy ra (kEq ((B.1.1, B.1.2.1 - kro B.1, B.1.2.2.1 + nI (kro B.1), B.1.2.2.2.1, B.1.2.2.2.2.1, B.1.2.2.2.2.2.1, B.1.2.2.2.2.2.2.1 + 1, X.1.2.2.2.2.2.2.2), B.2.1, B.2.2.1, X.2.2.2.1, B.2.2.2) (kTL B.2.2.2) (kTF B.2.2.2) (kCp X.2.2.2.2 + kCX X (kro X.1)), (T.1, T.2.1, T.2.2.1, T.2.2.2.1, kLft T.2.2.2.2.1 X, kLnt X, kCan X, (kVv (kMX X)), fo9, T.2.2.2.2.2.2.2.2.2))]) := hD
      refine lv_aload_n hx hb dX5_dances_133 rfl (lv_at hl 1 rfl) ?_
      refine va_get (D := D) (ci := 5) (v := .ref (ra 1)) (C := RX5) (T := TX5) (N := 16) hx hb hts (by decide +kernel) hown hK hP 0 rfl rfl 0 (by decide) (hts (.fieldLink RX5 7 "DanceHallModel" "all" "[I") (by decide +kernel)) (fun _ h9 => h9) rfl dX5_dances_134 ?_
      refine lv_bipush (v := nI 9) hx hb dX5_dances_137 (by decide) ?_
      refine lv_dup2_11 hx hb dX5_dances_139 rfl rfl ?_
      refine va_iald hx hb hK hP 1 0 rfl rfl (vp_in_nI (n := 9) (N := 188) (by omega) (by omega)) dX5_dances_140 ?_
      refine kv_i (y := X.1.2.2.2.2.2.2.2) (show ((kEq ((B.1.1, B.1.2.1 - kro B.1, B.1.2.2.1 + nI (kro B.1), B.1.2.2.2.1, B.1.2.2.2.2.1, B.1.2.2.2.2.2.1, B.1.2.2.2.2.2.2.1 + 1, X.1.2.2.2.2.2.2.2), B.2.1, B.2.2.1, X.2.2.2.1, B.2.2.2) (kTL B.2.2.2) (kTF B.2.2.2) (kCp X.2.2.2.2 + kCX X (kro X.1)))) (nI 9).toNatClampNeg = X.1.2.2.2.2.2.2.2 from rfl) ?_
      refine lv_iload_n hx hb dX5_dances_141 rfl (lv_at hl 2 rfl) ?_
      refine lv_iadd hx hb dX5_dances_142 ?_
      refine va_iast hx hb hK hP hD hS 1 0 rfl rfl (vp_in_nI (n := 9) (N := 188) (by omega) (by omega)) dX5_dances_143 (fun H locs hP hD hS => ?_)
      have hP : va_P D vwCl (bkF [mW cy ra (upd (kEq ((B.1.1, B.1.2.1 - kro B.1, B.1.2.2.1 + nI (kro B.1), B.1.2.2.2.1, B.1.2.2.2.2.1, B.1.2.2.2.2.2.1, B.1.2.2.2.2.2.2.1 + 1, X.1.2.2.2.2.2.2.2), B.2.1, B.2.2.1, X.2.2.2.1, B.2.2.2) (kTL B.2.2.2) (kTF B.2.2.2) (kCp X.2.2.2.2 + kCX X (kro X.1))) 9 (X.1.2.2.2.2.2.2.2 + (nI (kCX X (kro X.1)))), (T.1, T.2.1, T.2.2.1, T.2.2.2.1, kLft T.2.2.2.2.1 X, kLnt X, kCan X, (kVv (kMX X)), fo9, T.2.2.2.2.2.2.2.2.2))]) H := hP
      have hD : va_D A (bkF [mW cy ra (upd (kEq ((B.1.1, B.1.2.1 - kro B.1, B.1.2.2.1 + nI (kro B.1), B.1.2.2.2.1, B.1.2.2.2.2.1, B.1.2.2.2.2.2.1, B.1.2.2.2.2.2.2.1 + 1, X.1.2.2.2.2.2.2.2), B.2.1, B.2.2.1, X.2.2.2.1, B.2.2.2) (kTL B.2.2.2) (kTF B.2.2.2) (kCp X.2.2.2.2 + kCX X (kro X.1))) 9 (X.1.2.2.2.2.2.2.2 + (nI (kCX X (kro X.1)))), (T.1, T.2.1, T.2.2.1, T.2.2.2.1, kLft T.2.2.2.2.1 X, kLnt X, kCan X, (kVv (kMX X)), fo9, T.2.2.2.2.2.2.2.2.2))]) := hD
      have hP := kP_cell (g := (kEq ((B.1.1, B.1.2.1 - kro B.1, B.1.2.2.1 + nI (kro B.1), B.1.2.2.2.1, B.1.2.2.2.2.1, B.1.2.2.2.2.2.1, B.1.2.2.2.2.2.2.1 + 1, X.1.2.2.2.2.2.2.2 + nI (kCX X (kro X.1))), B.2.1, B.2.2.1, X.2.2.2.1, B.2.2.2) (kTL B.2.2.2) (kTF B.2.2.2) (kCp X.2.2.2.2 + kCX X (kro X.1)))) hP 1 rfl (fun j hj => (kqu_C (C' := (B.1.1, B.1.2.1 - kro B.1, B.1.2.2.1 + nI (kro B.1), B.1.2.2.2.1, B.1.2.2.2.2.1, B.1.2.2.2.2.2.1, B.1.2.2.2.2.2.2.1 + 1, X.1.2.2.2.2.2.2.2 + nI (kCX X (kro X.1)))) (i := 9) (by decide) rfl (fun j9 hj9 hne => by rcases k11 hj9 with rfl | rfl | rfl | rfl | rfl | rfl | rfl | rfl | rfl | rfl | rfl <;> first | rfl | exact absurd rfl hne)) j hj)
      have hD := hD.set (p := 1) (e := .inl (cy 0, 188, .inl (kEq ((B.1.1, B.1.2.1 - kro B.1, B.1.2.2.1 + nI (kro B.1), B.1.2.2.2.1, B.1.2.2.2.2.1, B.1.2.2.2.2.2.1, B.1.2.2.2.2.2.2.1 + 1, X.1.2.2.2.2.2.2.2 + nI (kCX X (kro X.1))), B.2.1, B.2.2.1, X.2.2.2.1, B.2.2.2) (kTL B.2.2.2) (kTF B.2.2.2) (kCp X.2.2.2.2 + kCX X (kro X.1))))) rfl
      have hP : va_P D vwCl (bkF [mW cy ra (kEq ((B.1.1, B.1.2.1 - kro B.1, B.1.2.2.1 + nI (kro B.1), B.1.2.2.2.1, B.1.2.2.2.2.1, B.1.2.2.2.2.2.1, B.1.2.2.2.2.2.2.1 + 1, X.1.2.2.2.2.2.2.2 + nI (kCX X (kro X.1))), B.2.1, B.2.2.1, X.2.2.2.1, B.2.2.2) (kTL B.2.2.2) (kTF B.2.2.2) (kCp X.2.2.2.2 + kCX X (kro X.1)), (T.1, T.2.1, T.2.2.1, T.2.2.2.1, kLft T.2.2.2.2.1 X, kLnt X, kCan X, (kVv (kMX X)), fo9, T.2.2.2.2.2.2.2.2.2))]) H := hP
      have hD : va_D A (bkF [mW cy ra (kEq ((B.1.1, B.1.2.1 - kro B.1, B.1.2.2.1 + nI (kro B.1), B.1.2.2.2.1, B.1.2.2.2.2.1, B.1.2.2.2.2.2.1, B.1.2.2.2.2.2.2.1 + 1, X.1.2.2.2.2.2.2.2 + nI (kCX X (kro X.1))), B.2.1, B.2.2.1, X.2.2.2.1, B.2.2.2) (kTL B.2.2.2) (kTF B.2.2.2) (kCp X.2.2.2.2 + kCX X (kro X.1)), (T.1, T.2.1, T.2.2.1, T.2.2.2.1, kLft T.2.2.2.2.1 X, kLnt X, kCan X, (kVv (kMX X)), fo9, T.2.2.2.2.2.2.2.2.2))]) := hD
      obtain ⟨g9, hg9⟩ : ∃ g9, g9 = kEn (kX4 X (kDn X.2.2.2.1.1 (kS4 X))) := ⟨_, rfl⟩
      have hP := kP_cell (g := g9) hP 1 rfl (fun j hj => by rw [hg9]; exact kEq_dn hk hoc.2.2 B hB rfl j hj)
      have hD := hD.set (p := 1) (e := .inl (cy 0, 188, .inl g9)) rfl
      have hP : va_P D vwCl (bkF [mW cy ra (g9, (T.1, T.2.1, T.2.2.1, T.2.2.2.1, kLft T.2.2.2.2.1 X, kLnt X, kCan X, (kVv (kMX X)), fo9, T.2.2.2.2.2.2.2.2.2))]) H := hP
      have hD : va_D A (bkF [mW cy ra (g9, (T.1, T.2.1, T.2.2.1, T.2.2.2.1, kLft T.2.2.2.2.1 X, kLnt X, kCan X, (kVv (kMX X)), fo9, T.2.2.2.2.2.2.2.2.2))]) := hD
      rw [hg9] at hP hD
      refine lv_iload_n hx hb dX5_dances_144 rfl (lv_at hl 2 rfl) ?_
      rw [hfo] at hP hD
      have hP : va_P D vwCl (bkF [mW cy ra (kEn (kX4 X (kDn X.2.2.2.1.1 (kS4 X))), (T.1, T.2.1, T.2.2.1, T.2.2.2.1, kLft T.2.2.2.2.1 X, kLnt X, kCan X, (kVv (kMX X)), kFX X (kro X.1), T.2.2.2.2.2.2.2.2.2))]) H := hP
      have hD : va_D A (bkF [mW cy ra (kEn (kX4 X (kDn X.2.2.2.1.1 (kS4 X))), (T.1, T.2.1, T.2.2.1, T.2.2.2.1, kLft T.2.2.2.2.1 X, kLnt X, kCan X, (kVv (kMX X)), kFX X (kro X.1), T.2.2.2.2.2.2.2.2.2))]) := hD
      exact kr_i (post := fun r_ (u_ : Unit) => r_ = nI (kCX X (kro X.1))) (Bs := fun u_ : Unit => [mW cy ra (kEn (kX4 X (kDn X.2.2.2.1.1 (kS4 X))), (T.1, T.2.1, T.2.2.1, T.2.2.2.1, kLft T.2.2.2.2.1 X, kLnt X, kCan X, (kVv (kMX X)), kFX X (kro X.1), T.2.2.2.2.2.2.2.2.2))]) hx hb hr hlocks rfl () hP hK hD hS rfl dX5_dances_145 hQ
    · skip
      have c_16 : ¬ (8 ≤ i) := fun h => c_16 ((nI_leI (a := 8) (b := i) (by omega) (by omega)).mpr h)
      refine lv_aload_n hx hb dX5_dances_19 rfl (lv_at hl 0 rfl) ?_
      refine va_get (D := D) (ci := 5) (v := .ref (ra 8)) (C := RX5) (T := TX5) (N := 16) hx hb hts (by decide +kernel) hown hK hP 0 rfl rfl 9 (by decide) (hts (.fieldLink RX5 32 "DanceHallModel" "chosen" "[I") (by decide +kernel)) (fun _ h9 => h9) rfl dX5_dances_20 ?_
      refine lv_iload_n hx hb dX5_dances_23 rfl (lv_at hl 2 rfl) ?_
      refine va_iald hx hb hK hP 8 0 rfl rfl (vp_in_nI (n := i) (N := 8) (by omega) (by omega)) dX5_dances_24 ?_
      refine kv_i (y := kFX X (kro X.1) i) (by rw [nI_clamp (n := i) (by omega)]; exact (congrFun hfo i)) ?_
      refine lv_iconst (v := (-1 : Int32)) hx hb dX5_dances_25 (by decide) ?_
      refine lv_icmp_eq (tgt := 72) hx hb dX5_dances_26 (by decide) (fun c_26 => ?_) (fun c_26 => ?_)
      · skip
        refine lv_iinc (v := nI (i + 1)) (lv' := [(2, .int (nI (i + 1))), (0, .ref (ra 0)), (1, .int (nI (kCX X (kro X.1))))]) hx hb dX5_dances_72 hl (k := 2) rfl (nI_add i 1) (by decide) rfl (fun ls hl => ?_)
        refine lv_goto (tgt := 13) hx hb dX5_dances_75 (by decide) ?_
        exact ih_13 _ (by omega) (i + 1) B rfl (by omega) (h13_1.trans (kBook_n (fo := kFX X (kro X.1)) (s := kS4 X) (i := i) c_26).symm) ls H locs hP hD hS (lv_sub hl [1, 2, 0] rfl)
      · skip
        obtain ⟨g8, hf1, hf2, hf3, hf4, hf5⟩ := kFX_ok2 hk (ro := kro X.1) (i := i) (by omega) c_26
        have hsm := kBook_same (kFX X (kro X.1)) (kS4 X) i
        have hrow := kBook_row (kFX X (kro X.1)) (kS4 X) i i (Nat.le_refl i)
        rw [← h13_1] at hsm hrow
        have hL8 := hk.1.1
        have hF8 := hk.2.1.1
        have hg8 : g8 < 8 := by omega
        have hiL : i < B.2.1.2.2.2.2.2 := by rw [hsm.2.2.2.2.2.2.2.2.2.1]; exact hf1
        have hiF : g8 < B.2.2.1.2.2.2.2.2 := by rw [hsm.2.2.2.2.2.2.2.2.2.2.2.2.2]; exact hf2
        have hnL : B.2.1.2.2.2.2.2 ≤ 8 := by rw [hsm.2.2.2.2.2.2.2.2.2.1]; exact hL8
        have hnF : B.2.2.1.2.2.2.2.2 ≤ 8 := by rw [hsm.2.2.2.2.2.2.2.2.2.2.2.2.2]; exact hF8
        have hd9 : B.2.2.2 i g8 = (-1 : Int32) := by rw [hrow]; exact hf3
        have hdb : B.1.2.2.2.2.2.2.1 ≤ 30 := by rw [hsm.2.2.2.2.2.1]; exact hoc.2.2
        refine lv_aload_n hx hb dX5_dances_29 rfl (lv_at hl 0 rfl) ?_
        refine lv_iload_n hx hb dX5_dances_30 rfl (lv_at hl 2 rfl) ?_
        refine kc_v (Cs := [mW cy ra (kEq (kXB X B) (kTL B.2.2.2) (kTF B.2.2.2) (kCp X.2.2.2.2), (T.1, T.2.1, T.2.2.1, T.2.2.2.1, kLft T.2.2.2.2.1 X, kLnt X, kCan X, (kVv (kMX X)), fo9, T.2.2.2.2.2.2.2.2.2))]) (Rs := []) (Bs := [mW cy ra (kEq (kXB X B) (kTL B.2.2.2) (kTF B.2.2.2) (kCp X.2.2.2.2), (T.1, T.2.1, T.2.2.1, T.2.2.2.1, kLft T.2.2.2.2.1 X, kLnt X, kCan X, (kVv (kMX X)), fo9, T.2.2.2.2.2.2.2.2.2))]) (Cs' := fun u_ : Unit => [mW cy ra (kEq (kPyL i (kXB X B)) (kuN (kTL B.2.2.2) i ((kTL B.2.2.2) i + 1)) (kTF B.2.2.2) (kCp X.2.2.2.2), (T.1, T.2.1, T.2.2.1, T.2.2.2.1, (kLft T.2.2.2.2.1 X), (kLnt X), (kCan X), (kVv (kMX X)), fo9, T.2.2.2.2.2.2.2.2.2))]) (Fs := fun u_ : Unit => [mW cy ra (kEq (kPyL i (kXB X B)) (kuN (kTL B.2.2.2) i ((kTL B.2.2.2) i + 1)) (kTF B.2.2.2) (kCp X.2.2.2.2), (T.1, T.2.1, T.2.2.1, T.2.2.2.1, (kLft T.2.2.2.2.1 X), (kLnt X), (kCan X), (kVv (kMX X)), fo9, T.2.2.2.2.2.2.2.2.2))]) hP hD hS hA [0] [] [0] rfl rfl (by decide) (by decide) (fun _ => rfl) (va_runV (As := [.int (nI i)]) (rest := []) ⟨hx, hb, hml, hown, hts⟩ (c_X5_pays_t l D cy ra (kXB X B) (kTL B.2.2.2) (kTF B.2.2.2) (kCp X.2.2.2.2) (T.1, T.2.1, T.2.2.1, T.2.2.2.1, kLft T.2.2.2.2.1 X, kLnt X, kCan X, (kVv (kMX X)), fo9, T.2.2.2.2.2.2.2.2.2) i hiL hnL H.size) (cwV 1 hts gX5_dances_X5_pays rfl rfl rfl (by decide +kernel) ⟨Nat.le_of_ble_eq_true rfl, Nat.le_of_ble_eq_true rfl⟩) (kPre_V (ci := 5) hK hN hP hD [0] (by decide) rfl 0 rfl rfl) rfl rfl hl.1 rfl (lv_room (Nat.le_of_ble_eq_true rfl)) dX5_dances_31 ⟨Nat.le_of_ble_eq_true rfl, Nat.le_of_ble_eq_true rfl⟩) (fun u_ H locs hw hP hD hS => ?_)
        refine lv_aload_n hx hb dX5_dances_34 rfl (lv_at hl 0 rfl) ?_
        refine lv_bipush (v := nI 8) hx hb dX5_dances_35 (by decide) ?_
        refine lv_aload_n hx hb dX5_dances_37 rfl (lv_at hl 0 rfl) ?_
        refine va_get (D := D) (ci := 5) (v := .ref (ra 8)) (C := RX5) (T := TX5) (N := 16) hx hb hts (by decide +kernel) hown hK hP 0 rfl rfl 9 (by decide) (hts (.fieldLink RX5 32 "DanceHallModel" "chosen" "[I") (by decide +kernel)) (fun _ h9 => h9) rfl dX5_dances_38 ?_
        refine lv_iload_n hx hb dX5_dances_41 rfl (lv_at hl 2 rfl) ?_
        refine va_iald hx hb hK hP 8 0 rfl rfl (vp_in_nI (n := i) (N := 8) (by omega) (by omega)) dX5_dances_42 ?_
        refine kv_i (y := nI g8) (by rw [nI_clamp (n := i) (by omega)]; exact ((congrFun hfo i).trans hf4)) ?_
        refine lv_iadd hx hb dX5_dances_43 ?_
        refine kv_i (y := nI (8 + g8)) (nI_add 8 g8) ?_
        refine kc_v (Cs := [mW cy ra (kEq (kPyL i (kXB X B)) (kuN (kTL B.2.2.2) i ((kTL B.2.2.2) i + 1)) (kTF B.2.2.2) (kCp X.2.2.2.2), (T.1, T.2.1, T.2.2.1, T.2.2.2.1, (kLft T.2.2.2.2.1 X), (kLnt X), (kCan X), (kVv (kMX X)), fo9, T.2.2.2.2.2.2.2.2.2))]) (Rs := []) (Bs := [mW cy ra (kEq (kPyL i (kXB X B)) (kuN (kTL B.2.2.2) i ((kTL B.2.2.2) i + 1)) (kTF B.2.2.2) (kCp X.2.2.2.2), (T.1, T.2.1, T.2.2.1, T.2.2.2.1, (kLft T.2.2.2.2.1 X), (kLnt X), (kCan X), (kVv (kMX X)), fo9, T.2.2.2.2.2.2.2.2.2))]) (Cs' := fun u_ : Unit => [mW cy ra (kEq (kPyF (g8) (kPyL i (kXB X B))) (kuN (kTL B.2.2.2) i ((kTL B.2.2.2) i + 1)) (kuN (kTF B.2.2.2) (g8) ((kTF B.2.2.2) (g8) + 1)) (kCp X.2.2.2.2), (T.1, T.2.1, T.2.2.1, T.2.2.2.1, (kLft T.2.2.2.2.1 X), (kLnt X), (kCan X), (kVv (kMX X)), fo9, T.2.2.2.2.2.2.2.2.2))]) (Fs := fun u_ : Unit => [mW cy ra (kEq (kPyF (g8) (kPyL i (kXB X B))) (kuN (kTL B.2.2.2) i ((kTL B.2.2.2) i + 1)) (kuN (kTF B.2.2.2) (g8) ((kTF B.2.2.2) (g8) + 1)) (kCp X.2.2.2.2), (T.1, T.2.1, T.2.2.1, T.2.2.2.1, (kLft T.2.2.2.2.1 X), (kLnt X), (kCan X), (kVv (kMX X)), fo9, T.2.2.2.2.2.2.2.2.2))]) hP hD hS hA [0] [] [0] rfl rfl (by decide) (by decide) (fun _ => rfl) (va_runV (As := [.int (nI (8 + g8))]) (rest := []) ⟨hx, hb, hml, hown, hts⟩ (c_X5_pays_f l D cy ra (kPyL i (kXB X B)) (kuN (kTL B.2.2.2) i ((kTL B.2.2.2) i + 1)) (kTF B.2.2.2) (kCp X.2.2.2.2) (T.1, T.2.1, T.2.2.1, T.2.2.2.1, (kLft T.2.2.2.2.1 X), (kLnt X), (kCan X), (kVv (kMX X)), fo9, T.2.2.2.2.2.2.2.2.2) (g8) hiF hnF H.size) (cwV 1 hts gX5_dances_X5_pays rfl rfl rfl (by decide +kernel) ⟨Nat.le_of_ble_eq_true rfl, Nat.le_of_ble_eq_true rfl⟩) (kPre_V (ci := 5) hK hN hP hD [0] (by decide) rfl 0 rfl rfl) rfl rfl hl.1 rfl (lv_room (Nat.le_of_ble_eq_true rfl)) dX5_dances_44 ⟨Nat.le_of_ble_eq_true rfl, Nat.le_of_ble_eq_true rfl⟩) (fun u_ H locs hw hP hD hS => ?_)
        refine lv_aload_n hx hb dX5_dances_47 rfl (lv_at hl 0 rfl) ?_
        refine va_get (D := D) (ci := 5) (v := .ref (ra 1)) (C := RX5) (T := TX5) (N := 16) hx hb hts (by decide +kernel) hown hK hP 0 rfl rfl 0 (by decide) (hts (.fieldLink RX5 7 "DanceHallModel" "all" "[I") (by decide +kernel)) (fun _ h9 => h9) rfl dX5_dances_48 ?_
        refine lv_bipush (v := nI 28) hx hb dX5_dances_51 (by decide) ?_
        refine lv_bipush (v := nI 8) hx hb dX5_dances_53 (by decide) ?_
        refine lv_iload_n hx hb dX5_dances_55 rfl (lv_at hl 2 rfl) ?_
        refine lv_imul hx hb dX5_dances_56 ?_
        refine kv_i (y := nI (8 * i)) (pk_mul 8 i) ?_
        refine lv_iadd hx hb dX5_dances_57 ?_
        refine kv_i (y := nI (28 + (8 * i))) (nI_add 28 (8 * i)) ?_
        refine lv_aload_n hx hb dX5_dances_58 rfl (lv_at hl 0 rfl) ?_
        refine va_get (D := D) (ci := 5) (v := .ref (ra 8)) (C := RX5) (T := TX5) (N := 16) hx hb hts (by decide +kernel) hown hK hP 0 rfl rfl 9 (by decide) (hts (.fieldLink RX5 32 "DanceHallModel" "chosen" "[I") (by decide +kernel)) (fun _ h9 => h9) rfl dX5_dances_59 ?_
        refine lv_iload_n hx hb dX5_dances_62 rfl (lv_at hl 2 rfl) ?_
        refine va_iald hx hb hK hP 8 0 rfl rfl (vp_in_nI (n := i) (N := 8) (by omega) (by omega)) dX5_dances_63 ?_
        refine kv_i (y := nI g8) (by rw [nI_clamp (n := i) (by omega)]; exact ((congrFun hfo i).trans hf4)) ?_
        refine lv_iadd hx hb dX5_dances_64 ?_
        refine kv_i (y := nI ((28 + (8 * i)) + g8)) (nI_add (28 + (8 * i)) g8) ?_
        refine lv_aload_n hx hb dX5_dances_65 rfl (lv_at hl 0 rfl) ?_
        refine va_get (D := D) (ci := 5) (v := .ref (ra 1)) (C := RX5) (T := TX5) (N := 16) hx hb hts (by decide +kernel) hown hK hP 0 rfl rfl 0 (by decide) (hts (.fieldLink RX5 7 "DanceHallModel" "all" "[I") (by decide +kernel)) (fun _ h9 => h9) rfl dX5_dances_66 ?_
        refine lv_iconst (v := nI 5) hx hb dX5_dances_69 (by decide) ?_
        refine va_iald hx hb hK hP 1 0 rfl rfl (vp_in_nI (n := 5) (N := 188) (by omega) (by omega)) dX5_dances_70 ?_
        refine kv_i (y := nI B.1.2.2.2.2.2.2.1) (show ((kEq (kPyF (g8) (kPyL i (kXB X B))) (kuN (kTL B.2.2.2) i ((kTL B.2.2.2) i + 1)) (kuN (kTF B.2.2.2) (g8) ((kTF B.2.2.2) (g8) + 1)) (kCp X.2.2.2.2))) (nI 5).toNatClampNeg = nI B.1.2.2.2.2.2.2.1 from rfl) ?_
        refine va_iast hx hb hK hP hD hS 1 0 rfl rfl (vp_in_nI (n := (28 + (8 * i)) + g8) (N := 188) (by omega) (by omega)) dX5_dances_71 (fun H locs hP hD hS => ?_)
        rw [nI_clamp (n := (28 + (8 * i)) + g8) (by omega)] at hP hD
        have hP : va_P D vwCl (bkF [mW cy ra (upd (kEq (kPyF (g8) (kPyL i (kXB X B))) (kuN (kTL B.2.2.2) i ((kTL B.2.2.2) i + 1)) (kuN (kTF B.2.2.2) (g8) ((kTF B.2.2.2) (g8) + 1)) (kCp X.2.2.2.2)) ((28 + (8 * i)) + g8) (nI B.1.2.2.2.2.2.2.1), (T.1, T.2.1, T.2.2.1, T.2.2.2.1, (kLft T.2.2.2.2.1 X), (kLnt X), (kCan X), (kVv (kMX X)), fo9, T.2.2.2.2.2.2.2.2.2))]) H := hP
        have hD : va_D A (bkF [mW cy ra (upd (kEq (kPyF (g8) (kPyL i (kXB X B))) (kuN (kTL B.2.2.2) i ((kTL B.2.2.2) i + 1)) (kuN (kTF B.2.2.2) (g8) ((kTF B.2.2.2) (g8) + 1)) (kCp X.2.2.2.2)) ((28 + (8 * i)) + g8) (nI B.1.2.2.2.2.2.2.1), (T.1, T.2.1, T.2.2.1, T.2.2.2.1, (kLft T.2.2.2.2.1 X), (kLnt X), (kCan X), (kVv (kMX X)), fo9, T.2.2.2.2.2.2.2.2.2))]) := hD
        refine lv_iinc (v := nI (i + 1)) (lv' := [(2, .int (nI (i + 1))), (0, .ref (ra 0)), (1, .int (nI (kCX X (kro X.1))))]) hx hb dX5_dances_72 hl (k := 2) rfl (nI_add i 1) (by decide) rfl (fun ls hl => ?_)
        refine lv_goto (tgt := 13) hx hb dX5_dances_75 (by decide) ?_
        have hP := kP_cell (g := (kEq (kXB X (kBk i g8 B)) (kTL (kBk i g8 B).2.2.2) (kTF (kBk i g8 B).2.2.2) (kCp X.2.2.2.2))) hP 1 rfl (fun j hj => (kqu_d (by omega) hg8 j hj).trans (kEq_bk (by omega) hg8 hd9 hdb j hj))
        have hD := hD.set (p := 1) (e := .inl (cy 0, 188, .inl (kEq (kXB X (kBk i g8 B)) (kTL (kBk i g8 B).2.2.2) (kTF (kBk i g8 B).2.2.2) (kCp X.2.2.2.2)))) rfl
        have hP : va_P D vwCl (bkF [mW cy ra (kEq (kXB X (kBk i g8 B)) (kTL (kBk i g8 B).2.2.2) (kTF (kBk i g8 B).2.2.2) (kCp X.2.2.2.2), (T.1, T.2.1, T.2.2.1, T.2.2.2.1, (kLft T.2.2.2.2.1 X), (kLnt X), (kCan X), (kVv (kMX X)), fo9, T.2.2.2.2.2.2.2.2.2))]) H := hP
        have hD : va_D A (bkF [mW cy ra (kEq (kXB X (kBk i g8 B)) (kTL (kBk i g8 B).2.2.2) (kTF (kBk i g8 B).2.2.2) (kCp X.2.2.2.2), (T.1, T.2.1, T.2.2.1, T.2.2.2.1, (kLft T.2.2.2.2.1 X), (kLnt X), (kCan X), (kVv (kMX X)), fo9, T.2.2.2.2.2.2.2.2.2))]) := hD
        exact ih_13 _ (by omega) (i + 1) (kBk i g8 B) rfl (by omega) ((congrArg (kBk i g8) h13_1).trans (kBook_g c_26 hf5).symm) ls H locs hP hD hS (lv_sub hl [1, 2, 0] rfl)
  exact L_13 _ 0 (kS4 X) rfl (by omega) rfl ls H locs hP hD hS (lv_sub hl [2, 1, 0] rfl)
abbrev rm_X5_dance : Room := { frames := 5, cells := 0, slots := 0, locals := 118 }
set_option maxHeartbeats 1000000 in
set_option maxRecDepth 100000 in
/-- dance -/
theorem c_X5_dance (l : Launch) (D : va_G) (cy : Nat → ClassId) (ra : Nat → Nat) (X : rS) (T : rV) (hk : kOkR X) (hoc : kOkC X.1) (hpos : kPoss X.1) (hsm : T.2.2.1 ≤ 4) (sz : Nat) : Met l yX5_dance wsX5_dance rm_X5_dance (va_Pc [.ref (ra 0)] (kPre D (kT cy) [mW cy ra (kEn X, T)] sz)) (va_Qi (fun r_ (u_ : Unit) => r_ = nI (kCX X (kro X.1))) (kFr D (kT cy) [mW cy ra (kEn X, T)] sz (fun u_ : Unit => [mW cy ra (kEn (kX4 X (kDn X.2.2.2.1.1 (kS4 X))), (kRsv (kEn X) T.1 T.2.2.1, T.2.1, kSc T.2.2.1, nI 0, kLft T.2.2.2.2.1 X, kLnt X, kCan X, (kVv (kMX X)), kFX X (kro X.1), T.2.2.2.2.2.2.2.2.2))])) (va_A (bkF [mW cy ra (kEn X, T)]) sz)) 0 0 (va_A (bkF [mW cy ra (kEn X, T)]) sz) := by
  refine kOpen (y := yX5_dance) (ws := wsX5_dance) (cc := cX5_dance) (maxL := 1) (ret := (some .int)) (av := [.ref (ra 0)]) (Bs := [mW cy ra (kEn X, T)]) (Qc := fun A => (va_Qi (fun r_ (u_ : Unit) => r_ = nI (kCX X (kro X.1))) (fun (u_ : Unit) t9 => kEnd D (kT cy) A [mW cy ra (kEn (kX4 X (kDn X.2.2.2.1.1 (kS4 X))), (kRsv (kEn X) T.1 T.2.2.1, T.2.1, kSc T.2.2.1, nI 0, kLft T.2.2.2.2.1 X, kLnt X, kCan X, (kVv (kMX X)), kFX X (kro X.1), T.2.2.2.2.2.2.2.2.2))] t9) A)) (by decide) rfl (Nat.le_of_ble_eq_true rfl) ?_
  intro p e s m args below meth c A Q ls hQ hx hb hml hr hlocks hin hts hown hN hK hP hD hS hA hsz hAe hl
  clear hAe
  have hl : lv_has ls 1 [(0, .ref (ra 0))] := hl
  suffices K9 : ∀ (H : Heap) (locs : List Loc), va_P D vwCl (bkF [mW cy ra (kEn X, T)]) H → va_S A s.heap H locs → W p l e (headSpec wsX5_dance rm_X5_dance).room s m args below meth c H locs 0 0 Q (F0 m 0 ls []) from K9 _ _ hP hS
  clear hP hS
  intro H locs hP hS
  refine lv_aload_n hx hb dX5_dance_0 rfl (lv_at hl 0 rfl) ?_
  refine kc_i (Cs := [mW cy ra (kEn X, T)]) (Rs := []) (Bs := [mW cy ra (kEn X, T)]) (Cs' := fun u_ : Unit => [mW cy ra (kEn X, T)]) (Fs := fun u_ : Unit => [mW cy ra (kEn X, T)]) hP hD hS hA [0] [] [0] rfl rfl (by decide) (by decide) (fun _ => rfl) (va_runV (As := []) (rest := []) ⟨hx, hb, hml, hown, hts⟩ (c_X5_canBe l D cy ra X T hoc H.size) (cwV 0 hts gX5_dance_X5_canBe rfl rfl rfl (by decide +kernel) ⟨Nat.le_of_ble_eq_true rfl, Nat.le_of_ble_eq_true rfl⟩) (kPre_V (ci := 5) hK hN hP hD [0] (by decide) rfl 0 rfl rfl) rfl rfl hl.1 rfl (lv_room (Nat.le_of_ble_eq_true rfl)) dX5_dance_1 ⟨Nat.le_of_ble_eq_true rfl, Nat.le_of_ble_eq_true rfl⟩) (fun r_ u_ H locs hw hP hD hS => ?_)
  have hw : r_ = if kPoss X.1 then nI 1 else nI 0 := hw
  subst hw
  refine kv_i (y := nI 1) (if_pos hpos) ?_
  refine lv_if_ne (tgt := 13) hx hb dX5_dance_4 (by decide) (fun _ => ?_) (fun h => absurd h (by decide))
  refine lv_aload_n hx hb dX5_dance_13 rfl (lv_at hl 0 rfl) ?_
  refine kc_v (Cs := [mW cy ra (kEn X, T)]) (Rs := []) (Bs := [mW cy ra (kEn X, T)]) (Cs' := fun u_ : Unit => [mW cy ra (kEn X, (kRsv (kEn X) T.1 T.2.2.1, T.2.1, kSc T.2.2.1, T.2.2.2))]) (Fs := fun u_ : Unit => [mW cy ra (kEn X, (kRsv (kEn X) T.1 T.2.2.1, T.2.1, kSc T.2.2.1, T.2.2.2))]) hP hD hS hA [0] [] [0] rfl rfl (by decide) (by decide) (fun _ => rfl) (va_runV (As := []) (rest := []) ⟨hx, hb, hml, hown, hts⟩ (c_X5_save l D cy ra X T (by first | assumption | omega | decide) H.size) (cwV 0 hts gX5_dance_X5_save rfl rfl rfl (by decide +kernel) ⟨Nat.le_of_ble_eq_true rfl, Nat.le_of_ble_eq_true rfl⟩) (kPre_V (ci := 5) hK hN hP hD [0] (by decide) rfl 0 rfl rfl) rfl rfl hl.1 rfl (lv_room (Nat.le_of_ble_eq_true rfl)) dX5_dance_14 ⟨Nat.le_of_ble_eq_true rfl, Nat.le_of_ble_eq_true rfl⟩) (fun u_ H locs hw hP hD hS => ?_)
  refine lv_aload_n hx hb dX5_dance_17 rfl (lv_at hl 0 rfl) ?_
  refine lv_aload_n hx hb dX5_dance_18 rfl (lv_at hl 0 rfl) ?_
  refine kc_i (Cs := [mW cy ra (kEn X, (kRsv (kEn X) T.1 T.2.2.1, T.2.1, kSc T.2.2.1, T.2.2.2))]) (Rs := []) (Bs := [mW cy ra (kEn X, (kRsv (kEn X) T.1 T.2.2.1, T.2.1, kSc T.2.2.1, T.2.2.2))]) (Cs' := fun u_ : Unit => [mW cy ra (kEn (kX4 X (kDn X.2.2.2.1.1 (kS4 X))), ((kRsv (kEn X) T.1 T.2.2.1), T.2.1, (kSc T.2.2.1), T.2.2.2.1, kLft T.2.2.2.2.1 X, kLnt X, kCan X, (kVv (kMX X)), kFX X (kro X.1), T.2.2.2.2.2.2.2.2.2))]) (Fs := fun u_ : Unit => [mW cy ra (kEn (kX4 X (kDn X.2.2.2.1.1 (kS4 X))), ((kRsv (kEn X) T.1 T.2.2.1), T.2.1, (kSc T.2.2.1), T.2.2.2.1, kLft T.2.2.2.2.1 X, kLnt X, kCan X, (kVv (kMX X)), kFX X (kro X.1), T.2.2.2.2.2.2.2.2.2))]) hP hD hS hA [0] [] [0] rfl rfl (by decide) (by decide) (fun _ => rfl) (va_runV (As := []) (rest := [.ref (ra 0)]) ⟨hx, hb, hml, hown, hts⟩ (c_X5_dances l D cy ra X (kRsv (kEn X) T.1 T.2.2.1, T.2.1, kSc T.2.2.1, T.2.2.2) hk hoc H.size) (cwV 0 hts gX5_dance_X5_dances rfl rfl rfl (by decide +kernel) ⟨Nat.le_of_ble_eq_true rfl, Nat.le_of_ble_eq_true rfl⟩) (kPre_V (ci := 5) hK hN hP hD [0] (by decide) rfl 0 rfl rfl) rfl rfl hl.1 rfl (lv_room (Nat.le_of_ble_eq_true rfl)) dX5_dance_19 ⟨Nat.le_of_ble_eq_true rfl, Nat.le_of_ble_eq_true rfl⟩) (fun r_ u_ H locs hw hP hD hS => ?_)
  have hw : r_ = nI (kCX X (kro X.1)) := hw
  subst hw
  refine kc_i (Cs := [mW cy ra (kEn (kX4 X (kDn X.2.2.2.1.1 (kS4 X))), ((kRsv (kEn X) T.1 T.2.2.1), T.2.1, (kSc T.2.2.1), T.2.2.2.1, kLft T.2.2.2.2.1 X, kLnt X, kCan X, (kVv (kMX X)), kFX X (kro X.1), T.2.2.2.2.2.2.2.2.2))]) (Rs := []) (Bs := [mW cy ra (kEn (kX4 X (kDn X.2.2.2.1.1 (kS4 X))), ((kRsv (kEn X) T.1 T.2.2.1), T.2.1, (kSc T.2.2.1), T.2.2.2.1, kLft T.2.2.2.2.1 X, kLnt X, kCan X, (kVv (kMX X)), kFX X (kro X.1), T.2.2.2.2.2.2.2.2.2))]) (Cs' := fun u_ : Unit => [mW cy ra ((kEn (kX4 X (kDn X.2.2.2.1.1 (kS4 X)))), ((kRsv (kEn X) T.1 T.2.2.1), T.2.1, (kSc T.2.2.1), nI 0, (kLft T.2.2.2.2.1 X), (kLnt X), (kCan X), (kVv (kMX X)), (kFX X (kro X.1)), T.2.2.2.2.2.2.2.2.2))]) (Fs := fun u_ : Unit => [mW cy ra ((kEn (kX4 X (kDn X.2.2.2.1.1 (kS4 X)))), ((kRsv (kEn X) T.1 T.2.2.1), T.2.1, (kSc T.2.2.1), nI 0, (kLft T.2.2.2.2.1 X), (kLnt X), (kCan X), (kVv (kMX X)), (kFX X (kro X.1)), T.2.2.2.2.2.2.2.2.2))]) hP hD hS hA [0] [] [0] rfl rfl (by decide) (by decide) (fun _ => rfl) (va_runV (As := [.int (nI (kCX X (kro X.1)))]) (rest := []) ⟨hx, hb, hml, hown, hts⟩ (c_X5_fine l D cy ra (kEn (kX4 X (kDn X.2.2.2.1.1 (kS4 X)))) ((kRsv (kEn X) T.1 T.2.2.1), T.2.1, (kSc T.2.2.1), T.2.2.2.1, kLft T.2.2.2.2.1 X, kLnt X, kCan X, (kVv (kMX X)), kFX X (kro X.1), T.2.2.2.2.2.2.2.2.2) (nI (kCX X (kro X.1))) H.size) (cwV 1 hts gX5_dance_X5_fine rfl rfl rfl (by decide +kernel) ⟨Nat.le_of_ble_eq_true rfl, Nat.le_of_ble_eq_true rfl⟩) (kPre_V (ci := 5) hK hN hP hD [0] (by decide) rfl 0 rfl rfl) rfl rfl hl.1 rfl (lv_room (Nat.le_of_ble_eq_true rfl)) dX5_dance_22 ⟨Nat.le_of_ble_eq_true rfl, Nat.le_of_ble_eq_true rfl⟩) (fun r_ u_ H locs hw hP hD hS => ?_)
  have hw : r_ = (nI (kCX X (kro X.1))) := hw
  subst hw
  exact kr_i (post := fun r_ (u_ : Unit) => r_ = nI (kCX X (kro X.1))) (Bs := fun u_ : Unit => [mW cy ra (kEn (kX4 X (kDn X.2.2.2.1.1 (kS4 X))), (kRsv (kEn X) T.1 T.2.2.1, T.2.1, kSc T.2.2.1, nI 0, kLft T.2.2.2.2.1 X, kLnt X, kCan X, (kVv (kMX X)), kFX X (kro X.1), T.2.2.2.2.2.2.2.2.2))]) hx hb hr hlocks rfl () hP hK hD hS rfl dX5_dance_25 hQ
abbrev rm_X5_dance_s : Room := { frames := 2, cells := 0, slots := 0, locals := 41 }
set_option maxHeartbeats 1000000 in
set_option maxRecDepth 100000 in
/-- dance, not possible -/
theorem c_X5_dance_s (l : Launch) (D : va_G) (cy : Nat → ClassId) (ra : Nat → Nat) (X : rS) (T : rV) (hoc : kOkC X.1) (hbad : ¬ kPoss X.1) (sz : Nat) : Met l yX5_dance wsX5_dance rm_X5_dance_s (va_Pc [.ref (ra 0)] (kPre D (kT cy) [mW cy ra (kEn X, T)] sz)) (va_Qi (fun r_ (u_ : Unit) => r_ = nI 0) (kFr D (kT cy) [mW cy ra (kEn X, T)] sz (fun u_ : Unit => [mW cy ra (kEn X, (T.1, T.2.1, T.2.2.1, nI 1, T.2.2.2.2))])) (va_A (bkF [mW cy ra (kEn X, T)]) sz)) 0 0 (va_A (bkF [mW cy ra (kEn X, T)]) sz) := by
  refine kOpen (y := yX5_dance) (ws := wsX5_dance) (cc := cX5_dance) (maxL := 1) (ret := (some .int)) (av := [.ref (ra 0)]) (Bs := [mW cy ra (kEn X, T)]) (Qc := fun A => (va_Qi (fun r_ (u_ : Unit) => r_ = nI 0) (fun (u_ : Unit) t9 => kEnd D (kT cy) A [mW cy ra (kEn X, (T.1, T.2.1, T.2.2.1, nI 1, T.2.2.2.2))] t9) A)) (by decide) rfl (Nat.le_of_ble_eq_true rfl) ?_
  intro p e s m args below meth c A Q ls hQ hx hb hml hr hlocks hin hts hown hN hK hP hD hS hA hsz hAe hl
  clear hAe
  have hl : lv_has ls 1 [(0, .ref (ra 0))] := hl
  suffices K9 : ∀ (H : Heap) (locs : List Loc), va_P D vwCl (bkF [mW cy ra (kEn X, T)]) H → va_S A s.heap H locs → W p l e (headSpec wsX5_dance rm_X5_dance_s).room s m args below meth c H locs 0 0 Q (F0 m 0 ls []) from K9 _ _ hP hS
  clear hP hS
  intro H locs hP hS
  refine lv_aload_n hx hb dX5_dance_0 rfl (lv_at hl 0 rfl) ?_
  refine kc_i (Cs := [mW cy ra (kEn X, T)]) (Rs := []) (Bs := [mW cy ra (kEn X, T)]) (Cs' := fun u_ : Unit => [mW cy ra (kEn X, T)]) (Fs := fun u_ : Unit => [mW cy ra (kEn X, T)]) hP hD hS hA [0] [] [0] rfl rfl (by decide) (by decide) (fun _ => rfl) (va_runV (As := []) (rest := []) ⟨hx, hb, hml, hown, hts⟩ (c_X5_canBe l D cy ra X T hoc H.size) (cwV 0 hts gX5_dance_X5_canBe rfl rfl rfl (by decide +kernel) ⟨Nat.le_of_ble_eq_true rfl, Nat.le_of_ble_eq_true rfl⟩) (kPre_V (ci := 5) hK hN hP hD [0] (by decide) rfl 0 rfl rfl) rfl rfl hl.1 rfl (lv_room (Nat.le_of_ble_eq_true rfl)) dX5_dance_1 ⟨Nat.le_of_ble_eq_true rfl, Nat.le_of_ble_eq_true rfl⟩) (fun r_ u_ H locs hw hP hD hS => ?_)
  have hw : r_ = if kPoss X.1 then nI 1 else nI 0 := hw
  subst hw
  refine kv_i (y := nI 0) (if_neg hbad) ?_
  refine lv_if_ne (tgt := 13) hx hb dX5_dance_4 (by decide) (fun h => absurd h (by decide)) (fun _ => ?_)
  refine lv_aload_n hx hb dX5_dance_7 rfl (lv_at hl 0 rfl) ?_
  refine lv_iconst (v := nI 1) hx hb dX5_dance_8 (by decide) ?_
  refine kc_i (Cs := [mW cy ra (kEn X, T)]) (Rs := []) (Bs := [mW cy ra (kEn X, T)]) (Cs' := fun u_ : Unit => [mW cy ra ((kEn X), (T.1, T.2.1, T.2.2.1, (nI 1), T.2.2.2.2))]) (Fs := fun u_ : Unit => [mW cy ra ((kEn X), (T.1, T.2.1, T.2.2.1, (nI 1), T.2.2.2.2))]) hP hD hS hA [0] [] [0] rfl rfl (by decide) (by decide) (fun _ => rfl) (va_runV (As := [.int (nI 1)]) (rest := []) ⟨hx, hb, hml, hown, hts⟩ (c_X5_throwing l D cy ra (kEn X) T (nI 1) H.size) (cwV 1 hts gX5_dance_X5_throwing rfl rfl rfl (by decide +kernel) ⟨Nat.le_of_ble_eq_true rfl, Nat.le_of_ble_eq_true rfl⟩) (kPre_V (ci := 5) hK hN hP hD [0] (by decide) rfl 0 rfl rfl) rfl rfl hl.1 rfl (lv_room (Nat.le_of_ble_eq_true rfl)) dX5_dance_9 ⟨Nat.le_of_ble_eq_true rfl, Nat.le_of_ble_eq_true rfl⟩) (fun r_ u_ H locs hw hP hD hS => ?_)
  have hw : r_ = nI 0 := hw
  subst hw
  exact kr_i (post := fun r_ (u_ : Unit) => r_ = nI 0) (Bs := fun u_ : Unit => [mW cy ra (kEn X, (T.1, T.2.1, T.2.2.1, nI 1, T.2.2.2.2))]) hx hb hr hlocks rfl () hP hK hD hS rfl dX5_dance_12 hQ
abbrev rm_X5_dancesOn : Room := { frames := 5, cells := 0, slots := 0, locals := 118 }
set_option maxHeartbeats 1000000 in
set_option maxRecDepth 100000 in
/-- dancesOn -/
theorem c_X5_dancesOn (l : Launch) (D : va_G) (cy : Nat → ClassId) (ra : Nat → Nat) (X : rS) (T : rV) (hk : kOkR X) (hoc : kOkC X.1) (sz : Nat) : Met l yX5_dancesOn wsX5_dancesOn rm_X5_dancesOn (va_Pc [.ref (ra 0)] (kPre D (kT cy) [mW cy ra (kEn X, T)] sz)) (va_Qi (fun r_ (u_ : (Nat → Int32) × (Nat → Int32) × (Nat → Int32) × (Nat → Int32) × (Nat → Int32)) => r_ = nI (kOnE X.2.2.2.1.1 (kS4 X)).2) (kFr D (kT cy) [mW cy ra (kEn X, T)] sz (fun u_ : (Nat → Int32) × (Nat → Int32) × (Nat → Int32) × (Nat → Int32) × (Nat → Int32) => [mW cy ra (kEn (kX4 X (kOnE X.2.2.2.1.1 (kS4 X)).1), (T.1, T.2.1, T.2.2.1, T.2.2.2.1, u_.1, u_.2.1, u_.2.2.1, u_.2.2.2.1, u_.2.2.2.2, T.2.2.2.2.2.2.2.2.2))])) (va_A (bkF [mW cy ra (kEn X, T)]) sz)) 0 0 (va_A (bkF [mW cy ra (kEn X, T)]) sz) := by
  refine kOpen (y := yX5_dancesOn) (ws := wsX5_dancesOn) (cc := cX5_dancesOn) (maxL := 3) (ret := (some .int)) (av := [.ref (ra 0)]) (Bs := [mW cy ra (kEn X, T)]) (Qc := fun A => (va_Qi (fun r_ (u_ : (Nat → Int32) × (Nat → Int32) × (Nat → Int32) × (Nat → Int32) × (Nat → Int32)) => r_ = nI (kOnE X.2.2.2.1.1 (kS4 X)).2) (fun (u_ : (Nat → Int32) × (Nat → Int32) × (Nat → Int32) × (Nat → Int32) × (Nat → Int32)) t9 => kEnd D (kT cy) A [mW cy ra (kEn (kX4 X (kOnE X.2.2.2.1.1 (kS4 X)).1), (T.1, T.2.1, T.2.2.1, T.2.2.2.1, u_.1, u_.2.1, u_.2.2.1, u_.2.2.2.1, u_.2.2.2.2, T.2.2.2.2.2.2.2.2.2))] t9) A)) (by decide) rfl (Nat.le_of_ble_eq_true rfl) ?_
  intro p e s m args below meth c A Q ls hQ hx hb hml hr hlocks hin hts hown hN hK hP hD hS hA hsz hAe hl
  clear hAe
  have hl : lv_has ls 3 [(0, .ref (ra 0))] := hl
  suffices K9 : ∀ (H : Heap) (locs : List Loc), va_P D vwCl (bkF [mW cy ra (kEn X, T)]) H → va_S A s.heap H locs → W p l e (headSpec wsX5_dancesOn rm_X5_dancesOn).room s m args below meth c H locs 0 0 Q (F0 m 0 ls []) from K9 _ _ hP hS
  clear hP hS
  intro H locs hP hS
  refine lv_iconst (v := nI 0) hx hb dX5_dancesOn_0 (by decide) ?_
  refine lv_istore_n (lv' := [(1, .int (nI 0)), (0, .ref (ra 0))]) hx hb dX5_dancesOn_1 rfl hl (by decide) rfl (fun ls hl => ?_)
  refine lv_iconst (v := nI 1) hx hb dX5_dancesOn_2 (by decide) ?_
  refine lv_istore_n (lv' := [(2, .int (nI 1)), (1, .int (nI 0)), (0, .ref (ra 0))]) hx hb dX5_dancesOn_3 rfl hl (by decide) rfl (fun ls hl => ?_)
  have hP := kP_cell (g := (kEn (kX4 X (kOn X.2.2.2.1.1 (kS4 X) 0).1))) hP 1 rfl (fun _ _ => rfl)
  have hD := hD.set (p := 1) (e := .inl (cy 0, 188, .inl (kEn (kX4 X (kOn X.2.2.2.1.1 (kS4 X) 0).1)))) rfl
  have hP : va_P D vwCl (bkF [mW cy ra (kEn (kX4 X (kOn X.2.2.2.1.1 (kS4 X) 0).1), T)]) H := hP
  have hD : va_D A (bkF [mW cy ra (kEn (kX4 X (kOn X.2.2.2.1.1 (kS4 X) 0).1), T)]) := hD
  have L_4 : ∀ (n9 : Nat) (q : Nat) (e5 : Nat → Int32) (e6 : Nat → Int32) (e7 : Nat → Int32) (e8 : Nat → Int32) (e9 : Nat → Int32), 31 - q = n9 → (q ≤ 30) → ((kOn X.2.2.2.1.1 (kS4 X) q).2.2 = q) → ∀ (ls : Array Slot) (H : Heap) (locs : List Loc), va_P D vwCl (bkF [mW cy ra (kEn (kX4 X (kOn X.2.2.2.1.1 (kS4 X) q).1), (T.1, T.2.1, T.2.2.1, T.2.2.2.1, e5, e6, e7, e8, e9, T.2.2.2.2.2.2.2.2.2))]) H → va_D A (bkF [mW cy ra (kEn (kX4 X (kOn X.2.2.2.1.1 (kS4 X) q).1), (T.1, T.2.1, T.2.2.1, T.2.2.2.1, e5, e6, e7, e8, e9, T.2.2.2.2.2.2.2.2.2))]) → va_S A s.heap H locs → lv_has ls 3 [(0, .ref (ra 0)), (1, .int (nI (kOn X.2.2.2.1.1 (kS4 X) q).2.2)), (2, .int (nI (kgo (kOn X.2.2.2.1.1 (kS4 X) q).2.1)))] → W p l e (headSpec wsX5_dancesOn rm_X5_dancesOn).room s m args below meth c H locs 0 0 Q (F0 m 4 ls []) := by
    intro n9
    induction n9 using Nat.strongRecOn with
    | _ n9 ih_4 =>
    intro q e5 e6 e7 e8 e9 hm_4 h4_0 h4_1 ls H locs hP hD hS hl
    refine lv_iload_n hx hb dX5_dancesOn_4 rfl (lv_at hl 2 rfl) ?_
    have hon := kOn_R hk hoc q
    refine lv_if_eq (tgt := 34) hx hb dX5_dancesOn_5 (by decide) (fun c_5 => ?_) (fun c_5 => ?_)
    · skip
      have c_5 : (kgo (kOn X.2.2.2.1.1 (kS4 X) q).2.1) = 0 := (nI_eq (a := kgo (kOn X.2.2.2.1.1 (kS4 X) q).2.1) (b := 0) (by first | omega | exact Nat.lt_of_le_of_lt (kgo_1 _) (by decide)) (by first | omega | exact Nat.lt_of_le_of_lt (kgo_1 _) (by decide))).mp c_5
      refine lv_iload_n hx hb dX5_dancesOn_34 rfl (lv_at hl 1 rfl) ?_
      have E : (kOnE X.2.2.2.1.1 (kS4 X)) = ((kOn X.2.2.2.1.1 (kS4 X) q).1, (kOn X.2.2.2.1.1 (kS4 X) q).2.2) := by unfold kOnE; rw [kOn_30 (p := X.2.2.2.1.1) (s := kS4 X) (k := q) h4_0 (fun h => absurd h.1 (fun h9 => absurd c_5 (by rw [kgo_y (by omega)]; decide)))]
      rw [show (kOn X.2.2.2.1.1 (kS4 X) q).1 = (kOnE X.2.2.2.1.1 (kS4 X)).1 from by rw [E]] at hP hD
      exact kr_i (post := fun r_ (u_ : (Nat → Int32) × (Nat → Int32) × (Nat → Int32) × (Nat → Int32) × (Nat → Int32)) => r_ = nI (kOnE X.2.2.2.1.1 (kS4 X)).2) (Bs := fun u_ : (Nat → Int32) × (Nat → Int32) × (Nat → Int32) × (Nat → Int32) × (Nat → Int32) => [mW cy ra (kEn (kX4 X (kOnE X.2.2.2.1.1 (kS4 X)).1), (T.1, T.2.1, T.2.2.1, T.2.2.2.1, u_.1, u_.2.1, u_.2.2.1, u_.2.2.2.1, u_.2.2.2.2, T.2.2.2.2.2.2.2.2.2))]) hx hb hr hlocks rfl (e5, e6, e7, e8, e9) hP hK hD hS (congrArg nI (by rw [E])) dX5_dancesOn_35 hQ
    · skip
      have c_5 : ¬ ((kgo (kOn X.2.2.2.1.1 (kS4 X) q).2.1) = 0) := fun h => c_5 ((nI_eq (a := kgo (kOn X.2.2.2.1.1 (kS4 X) q).2.1) (b := 0) (by first | omega | exact Nat.lt_of_le_of_lt (kgo_1 _) (by decide)) (by first | omega | exact Nat.lt_of_le_of_lt (kgo_1 _) (by decide))).mpr h)
      refine lv_aload_n hx hb dX5_dancesOn_8 rfl (lv_at hl 0 rfl) ?_
      have hgo : 0 < (kOn X.2.2.2.1.1 (kS4 X) q).2.1 := (Nat.eq_zero_or_pos _).resolve_left (fun h => absurd (kgo_n (Nat.le_of_eq h)) c_5)
      refine kc_i (Cs := [mW cy ra (kEn (kX4 X (kOn X.2.2.2.1.1 (kS4 X) q).1), (T.1, T.2.1, T.2.2.1, T.2.2.2.1, e5, e6, e7, e8, e9, T.2.2.2.2.2.2.2.2.2))]) (Rs := []) (Bs := [mW cy ra (kEn (kX4 X (kOn X.2.2.2.1.1 (kS4 X) q).1), (T.1, T.2.1, T.2.2.1, T.2.2.2.1, e5, e6, e7, e8, e9, T.2.2.2.2.2.2.2.2.2))]) (Cs' := fun u_ : Unit => [mW cy ra (kEn (kX4 X (kOn X.2.2.2.1.1 (kS4 X) q).1), (T.1, T.2.1, T.2.2.1, T.2.2.2.1, e5, e6, e7, e8, e9, T.2.2.2.2.2.2.2.2.2))]) (Fs := fun u_ : Unit => [mW cy ra (kEn (kX4 X (kOn X.2.2.2.1.1 (kS4 X) q).1), (T.1, T.2.1, T.2.2.1, T.2.2.2.1, e5, e6, e7, e8, e9, T.2.2.2.2.2.2.2.2.2))]) hP hD hS hA [0] [] [0] rfl rfl (by decide) (by decide) (fun _ => rfl) (va_runV (As := []) (rest := []) ⟨hx, hb, hml, hown, hts⟩ (c_X5_canBe l D cy ra (kX4 X (kOn X.2.2.2.1.1 (kS4 X) q).1) (T.1, T.2.1, T.2.2.1, T.2.2.2.1, e5, e6, e7, e8, e9, T.2.2.2.2.2.2.2.2.2) hon.2 H.size) (cwV 0 hts gX5_dancesOn_X5_canBe rfl rfl rfl (by decide +kernel) ⟨Nat.le_of_ble_eq_true rfl, Nat.le_of_ble_eq_true rfl⟩) (kPre_V (ci := 5) hK hN hP hD [0] (by decide) rfl 0 rfl rfl) rfl rfl hl.1 rfl (lv_room (Nat.le_of_ble_eq_true rfl)) dX5_dancesOn_9 ⟨Nat.le_of_ble_eq_true rfl, Nat.le_of_ble_eq_true rfl⟩) (fun r_ u_ H locs hw hP hD hS => ?_)
      have hw : r_ = if kPoss (kX4 X (kOn X.2.2.2.1.1 (kS4 X) q).1).1 then nI 1 else nI 0 := hw
      subst hw
      by_cases b_9 : kPoss (kX4 X (kOn X.2.2.2.1.1 (kS4 X) q).1).1
      · refine kv_i (y := nI 1) (if_pos b_9) ?_
        refine lv_if_eq (tgt := 34) hx hb dX5_dancesOn_12 (by decide) (fun h => absurd h (by decide)) (fun _ => ?_)
        refine lv_aload_n hx hb dX5_dancesOn_15 rfl (lv_at hl 0 rfl) ?_
        refine kc_i (Cs := [mW cy ra (kEn (kX4 X (kOn X.2.2.2.1.1 (kS4 X) q).1), (T.1, T.2.1, T.2.2.1, T.2.2.2.1, e5, e6, e7, e8, e9, T.2.2.2.2.2.2.2.2.2))]) (Rs := []) (Bs := [mW cy ra (kEn (kX4 X (kOn X.2.2.2.1.1 (kS4 X) q).1), (T.1, T.2.1, T.2.2.1, T.2.2.2.1, e5, e6, e7, e8, e9, T.2.2.2.2.2.2.2.2.2))]) (Cs' := fun u_ : Unit => [mW cy ra (kEn (kX4 (kX4 X (kOn X.2.2.2.1.1 (kS4 X) q).1) (kDn (kX4 X (kOn X.2.2.2.1.1 (kS4 X) q).1).2.2.2.1.1 (kS4 (kX4 X (kOn X.2.2.2.1.1 (kS4 X) q).1)))), (T.1, T.2.1, T.2.2.1, T.2.2.2.1, kLft e5 (kX4 X (kOn X.2.2.2.1.1 (kS4 X) q).1), kLnt (kX4 X (kOn X.2.2.2.1.1 (kS4 X) q).1), kCan (kX4 X (kOn X.2.2.2.1.1 (kS4 X) q).1), (kVv (kMX (kX4 X (kOn X.2.2.2.1.1 (kS4 X) q).1))), kFX (kX4 X (kOn X.2.2.2.1.1 (kS4 X) q).1) (kro (kX4 X (kOn X.2.2.2.1.1 (kS4 X) q).1).1), T.2.2.2.2.2.2.2.2.2))]) (Fs := fun u_ : Unit => [mW cy ra (kEn (kX4 (kX4 X (kOn X.2.2.2.1.1 (kS4 X) q).1) (kDn (kX4 X (kOn X.2.2.2.1.1 (kS4 X) q).1).2.2.2.1.1 (kS4 (kX4 X (kOn X.2.2.2.1.1 (kS4 X) q).1)))), (T.1, T.2.1, T.2.2.1, T.2.2.2.1, kLft e5 (kX4 X (kOn X.2.2.2.1.1 (kS4 X) q).1), kLnt (kX4 X (kOn X.2.2.2.1.1 (kS4 X) q).1), kCan (kX4 X (kOn X.2.2.2.1.1 (kS4 X) q).1), (kVv (kMX (kX4 X (kOn X.2.2.2.1.1 (kS4 X) q).1))), kFX (kX4 X (kOn X.2.2.2.1.1 (kS4 X) q).1) (kro (kX4 X (kOn X.2.2.2.1.1 (kS4 X) q).1).1), T.2.2.2.2.2.2.2.2.2))]) hP hD hS hA [0] [] [0] rfl rfl (by decide) (by decide) (fun _ => rfl) (va_runV (As := []) (rest := []) ⟨hx, hb, hml, hown, hts⟩ (c_X5_dances l D cy ra (kX4 X (kOn X.2.2.2.1.1 (kS4 X) q).1) (T.1, T.2.1, T.2.2.1, T.2.2.2.1, e5, e6, e7, e8, e9, T.2.2.2.2.2.2.2.2.2) hon.1 hon.2 H.size) (cwV 0 hts gX5_dancesOn_X5_dances rfl rfl rfl (by decide +kernel) ⟨Nat.le_of_ble_eq_true rfl, Nat.le_of_ble_eq_true rfl⟩) (kPre_V (ci := 5) hK hN hP hD [0] (by decide) rfl 0 rfl rfl) rfl rfl hl.1 rfl (lv_room (Nat.le_of_ble_eq_true rfl)) dX5_dancesOn_16 ⟨Nat.le_of_ble_eq_true rfl, Nat.le_of_ble_eq_true rfl⟩) (fun r_ u_ H locs hw hP hD hS => ?_)
        have hw : r_ = nI (kCX (kX4 X (kOn X.2.2.2.1.1 (kS4 X) q).1) (kro (kX4 X (kOn X.2.2.2.1.1 (kS4 X) q).1).1)) := hw
        subst hw
        have hc8 : kCX (kX4 X (kOn X.2.2.2.1.1 (kS4 X) q).1) (kro (kX4 X (kOn X.2.2.2.1.1 (kS4 X) q).1).1) ≤ 8 := kCx_le _ _ _ _ _
        refine lv_if_le (tgt := 26) hx hb dX5_dancesOn_19 (by decide) (fun c_19 => ?_) (fun c_19 => ?_)
        · skip
          have c_19 : (kCX (kX4 X (kOn X.2.2.2.1.1 (kS4 X) q).1) (kro (kX4 X (kOn X.2.2.2.1.1 (kS4 X) q).1).1)) ≤ 0 := (nI_leI (a := kCX (kX4 X (kOn X.2.2.2.1.1 (kS4 X) q).1) (kro (kX4 X (kOn X.2.2.2.1.1 (kS4 X) q).1).1)) (b := 0) (by omega) (by omega)).mp c_19
          refine lv_iconst (v := nI 0) hx hb dX5_dancesOn_26 (by decide) ?_
          refine lv_istore_n (lv' := [(2, .int (nI 0)), (0, .ref (ra 0)), (1, .int (nI (kOn X.2.2.2.1.1 (kS4 X) q).2.2))]) hx hb dX5_dancesOn_27 rfl hl (by decide) rfl (fun ls hl => ?_)
          refine lv_iinc (v := nI ((kOn X.2.2.2.1.1 (kS4 X) q).2.2 + 1)) (lv' := [(1, .int (nI ((kOn X.2.2.2.1.1 (kS4 X) q).2.2 + 1))), (2, .int (nI 0)), (0, .ref (ra 0))]) hx hb dX5_dancesOn_28 hl (k := 2) rfl (nI_add (kOn X.2.2.2.1.1 (kS4 X) q).2.2 1) (by decide) rfl (fun ls hl => ?_)
          refine lv_goto (tgt := 4) hx hb dX5_dancesOn_31 (by decide) ?_
          have hcnd : 0 < (kOn X.2.2.2.1.1 (kS4 X) q).2.1 ∧ kPoss (kOn X.2.2.2.1.1 (kS4 X) q).1.1 := ⟨hgo, b_9⟩
          have e9x := kOn_y hcnd
          have hl : lv_has ls 3 [(1, .int (nI ((kOn X.2.2.2.1.1 (kS4 X) q).2.2 + 1))), (2, .int (nI (kgo (kOn X.2.2.2.1.1 (kS4 X) (q + 1)).2.1))), (0, .ref (ra 0))] := by rw [show nI (kgo (kOn X.2.2.2.1.1 (kS4 X) (q + 1)).2.1) = nI 0 from (congrArg nI (by rw [e9x]; exact kgo_n c_19))]; exact hl
          have hl : lv_has ls 3 [(1, .int (nI (kOn X.2.2.2.1.1 (kS4 X) (q + 1)).2.2)), (2, .int (nI (kgo (kOn X.2.2.2.1.1 (kS4 X) (q + 1)).2.1))), (0, .ref (ra 0))] := by rw [show nI (kOn X.2.2.2.1.1 (kS4 X) (q + 1)).2.2 = nI ((kOn X.2.2.2.1.1 (kS4 X) q).2.2 + 1) from (congrArg nI (by rw [e9x]))]; exact hl
          rw [kOn_X hcnd] at hP hD
          exact ih_4 _ (by omega) (q + 1) (kLft e5 (kX4 X (kOn X.2.2.2.1.1 (kS4 X) q).1)) (kLnt (kX4 X (kOn X.2.2.2.1.1 (kS4 X) q).1)) (kCan (kX4 X (kOn X.2.2.2.1.1 (kS4 X) q).1)) (kVv (kMX (kX4 X (kOn X.2.2.2.1.1 (kS4 X) q).1))) (kFX (kX4 X (kOn X.2.2.2.1.1 (kS4 X) q).1) (kro (kX4 X (kOn X.2.2.2.1.1 (kS4 X) q).1).1)) rfl (by have h1 := kOn_dn (p := X.2.2.2.1.1) (s := kS4 X) q; have h2 := b_9.2; omega) (by rw [e9x]; show (kOn X.2.2.2.1.1 (kS4 X) q).2.2 + 1 = q + 1; rw [h4_1]) ls H locs hP hD hS (lv_sub hl [2, 0, 1] rfl)
        · skip
          have c_19 : ¬ ((kCX (kX4 X (kOn X.2.2.2.1.1 (kS4 X) q).1) (kro (kX4 X (kOn X.2.2.2.1.1 (kS4 X) q).1).1)) ≤ 0) := fun h => c_19 ((nI_leI (a := kCX (kX4 X (kOn X.2.2.2.1.1 (kS4 X) q).1) (kro (kX4 X (kOn X.2.2.2.1.1 (kS4 X) q).1).1)) (b := 0) (by omega) (by omega)).mpr h)
          refine lv_iconst (v := nI 1) hx hb dX5_dancesOn_22 (by decide) ?_
          refine lv_goto (tgt := 27) hx hb dX5_dancesOn_23 (by decide) ?_
          refine lv_istore_n (lv' := [(2, .int (nI 1)), (0, .ref (ra 0)), (1, .int (nI (kOn X.2.2.2.1.1 (kS4 X) q).2.2))]) hx hb dX5_dancesOn_27 rfl hl (by decide) rfl (fun ls hl => ?_)
          refine lv_iinc (v := nI ((kOn X.2.2.2.1.1 (kS4 X) q).2.2 + 1)) (lv' := [(1, .int (nI ((kOn X.2.2.2.1.1 (kS4 X) q).2.2 + 1))), (2, .int (nI 1)), (0, .ref (ra 0))]) hx hb dX5_dancesOn_28 hl (k := 2) rfl (nI_add (kOn X.2.2.2.1.1 (kS4 X) q).2.2 1) (by decide) rfl (fun ls hl => ?_)
          refine lv_goto (tgt := 4) hx hb dX5_dancesOn_31 (by decide) ?_
          have hcnd : 0 < (kOn X.2.2.2.1.1 (kS4 X) q).2.1 ∧ kPoss (kOn X.2.2.2.1.1 (kS4 X) q).1.1 := ⟨hgo, b_9⟩
          have e9x := kOn_y hcnd
          have hl : lv_has ls 3 [(1, .int (nI ((kOn X.2.2.2.1.1 (kS4 X) q).2.2 + 1))), (2, .int (nI (kgo (kOn X.2.2.2.1.1 (kS4 X) (q + 1)).2.1))), (0, .ref (ra 0))] := by rw [show nI (kgo (kOn X.2.2.2.1.1 (kS4 X) (q + 1)).2.1) = nI 1 from (congrArg nI (by rw [e9x]; exact kgo_y c_19))]; exact hl
          have hl : lv_has ls 3 [(1, .int (nI (kOn X.2.2.2.1.1 (kS4 X) (q + 1)).2.2)), (2, .int (nI (kgo (kOn X.2.2.2.1.1 (kS4 X) (q + 1)).2.1))), (0, .ref (ra 0))] := by rw [show nI (kOn X.2.2.2.1.1 (kS4 X) (q + 1)).2.2 = nI ((kOn X.2.2.2.1.1 (kS4 X) q).2.2 + 1) from (congrArg nI (by rw [e9x]))]; exact hl
          rw [kOn_X hcnd] at hP hD
          exact ih_4 _ (by omega) (q + 1) (kLft e5 (kX4 X (kOn X.2.2.2.1.1 (kS4 X) q).1)) (kLnt (kX4 X (kOn X.2.2.2.1.1 (kS4 X) q).1)) (kCan (kX4 X (kOn X.2.2.2.1.1 (kS4 X) q).1)) (kVv (kMX (kX4 X (kOn X.2.2.2.1.1 (kS4 X) q).1))) (kFX (kX4 X (kOn X.2.2.2.1.1 (kS4 X) q).1) (kro (kX4 X (kOn X.2.2.2.1.1 (kS4 X) q).1).1)) rfl (by have h1 := kOn_dn (p := X.2.2.2.1.1) (s := kS4 X) q; have h2 := b_9.2; omega) (by rw [e9x]; show (kOn X.2.2.2.1.1 (kS4 X) q).2.2 + 1 = q + 1; rw [h4_1]) ls H locs hP hD hS (lv_sub hl [2, 0, 1] rfl)
      · refine kv_i (y := nI 0) (if_neg b_9) ?_
        refine lv_if_eq (tgt := 34) hx hb dX5_dancesOn_12 (by decide) (fun _ => ?_) (fun h => absurd h (by decide))
        refine lv_iload_n hx hb dX5_dancesOn_34 rfl (lv_at hl 1 rfl) ?_
        have E : (kOnE X.2.2.2.1.1 (kS4 X)) = ((kOn X.2.2.2.1.1 (kS4 X) q).1, (kOn X.2.2.2.1.1 (kS4 X) q).2.2) := by unfold kOnE; rw [kOn_30 (p := X.2.2.2.1.1) (s := kS4 X) (k := q) h4_0 (fun h => b_9 h.2)]
        rw [show (kOn X.2.2.2.1.1 (kS4 X) q).1 = (kOnE X.2.2.2.1.1 (kS4 X)).1 from by rw [E]] at hP hD
        exact kr_i (post := fun r_ (u_ : (Nat → Int32) × (Nat → Int32) × (Nat → Int32) × (Nat → Int32) × (Nat → Int32)) => r_ = nI (kOnE X.2.2.2.1.1 (kS4 X)).2) (Bs := fun u_ : (Nat → Int32) × (Nat → Int32) × (Nat → Int32) × (Nat → Int32) × (Nat → Int32) => [mW cy ra (kEn (kX4 X (kOnE X.2.2.2.1.1 (kS4 X)).1), (T.1, T.2.1, T.2.2.1, T.2.2.2.1, u_.1, u_.2.1, u_.2.2.1, u_.2.2.2.1, u_.2.2.2.2, T.2.2.2.2.2.2.2.2.2))]) hx hb hr hlocks rfl (e5, e6, e7, e8, e9) hP hK hD hS (congrArg nI (by rw [E])) dX5_dancesOn_35 hQ
  exact L_4 _ 0 T.2.2.2.2.1 T.2.2.2.2.2.1 T.2.2.2.2.2.2.1 T.2.2.2.2.2.2.2.1 T.2.2.2.2.2.2.2.2.1 rfl (by omega) rfl ls H locs hP hD hS (lv_sub hl [2, 1, 0] rfl)
abbrev rm_X5_danceOn : Room := { frames := 6, cells := 0, slots := 0, locals := 140 }
set_option maxHeartbeats 1000000 in
set_option maxRecDepth 100000 in
/-- danceOn -/
theorem c_X5_danceOn (l : Launch) (D : va_G) (cy : Nat → ClassId) (ra : Nat → Nat) (X : rS) (T : rV) (hk : kOkR X) (hoc : kOkC X.1) (hsm : T.2.2.1 ≤ 4) (sz : Nat) : Met l yX5_danceOn wsX5_danceOn rm_X5_danceOn (va_Pc [.ref (ra 0)] (kPre D (kT cy) [mW cy ra (kEn X, T)] sz)) (va_Qi (fun r_ (u_ : (Nat → Int32) × (Nat → Int32) × (Nat → Int32) × (Nat → Int32) × (Nat → Int32)) => r_ = nI (kOnE X.2.2.2.1.1 (kS4 X)).2) (kFr D (kT cy) [mW cy ra (kEn X, T)] sz (fun u_ : (Nat → Int32) × (Nat → Int32) × (Nat → Int32) × (Nat → Int32) × (Nat → Int32) => [mW cy ra (kEn (kX4 X (kOnE X.2.2.2.1.1 (kS4 X)).1), (kRsv (kEn X) T.1 T.2.2.1, T.2.1, kSc T.2.2.1, nI 0, u_.1, u_.2.1, u_.2.2.1, u_.2.2.2.1, u_.2.2.2.2, T.2.2.2.2.2.2.2.2.2))])) (va_A (bkF [mW cy ra (kEn X, T)]) sz)) 0 0 (va_A (bkF [mW cy ra (kEn X, T)]) sz) := by
  refine kOpen (y := yX5_danceOn) (ws := wsX5_danceOn) (cc := cX5_danceOn) (maxL := 1) (ret := (some .int)) (av := [.ref (ra 0)]) (Bs := [mW cy ra (kEn X, T)]) (Qc := fun A => (va_Qi (fun r_ (u_ : (Nat → Int32) × (Nat → Int32) × (Nat → Int32) × (Nat → Int32) × (Nat → Int32)) => r_ = nI (kOnE X.2.2.2.1.1 (kS4 X)).2) (fun (u_ : (Nat → Int32) × (Nat → Int32) × (Nat → Int32) × (Nat → Int32) × (Nat → Int32)) t9 => kEnd D (kT cy) A [mW cy ra (kEn (kX4 X (kOnE X.2.2.2.1.1 (kS4 X)).1), (kRsv (kEn X) T.1 T.2.2.1, T.2.1, kSc T.2.2.1, nI 0, u_.1, u_.2.1, u_.2.2.1, u_.2.2.2.1, u_.2.2.2.2, T.2.2.2.2.2.2.2.2.2))] t9) A)) (by decide) rfl (Nat.le_of_ble_eq_true rfl) ?_
  intro p e s m args below meth c A Q ls hQ hx hb hml hr hlocks hin hts hown hN hK hP hD hS hA hsz hAe hl
  clear hAe
  have hl : lv_has ls 1 [(0, .ref (ra 0))] := hl
  suffices K9 : ∀ (H : Heap) (locs : List Loc), va_P D vwCl (bkF [mW cy ra (kEn X, T)]) H → va_S A s.heap H locs → W p l e (headSpec wsX5_danceOn rm_X5_danceOn).room s m args below meth c H locs 0 0 Q (F0 m 0 ls []) from K9 _ _ hP hS
  clear hP hS
  intro H locs hP hS
  refine lv_aload_n hx hb dX5_danceOn_0 rfl (lv_at hl 0 rfl) ?_
  refine kc_v (Cs := [mW cy ra (kEn X, T)]) (Rs := []) (Bs := [mW cy ra (kEn X, T)]) (Cs' := fun u_ : Unit => [mW cy ra (kEn X, (kRsv (kEn X) T.1 T.2.2.1, T.2.1, kSc T.2.2.1, T.2.2.2))]) (Fs := fun u_ : Unit => [mW cy ra (kEn X, (kRsv (kEn X) T.1 T.2.2.1, T.2.1, kSc T.2.2.1, T.2.2.2))]) hP hD hS hA [0] [] [0] rfl rfl (by decide) (by decide) (fun _ => rfl) (va_runV (As := []) (rest := []) ⟨hx, hb, hml, hown, hts⟩ (c_X5_save l D cy ra X T (by first | assumption | omega | decide) H.size) (cwV 0 hts gX5_danceOn_X5_save rfl rfl rfl (by decide +kernel) ⟨Nat.le_of_ble_eq_true rfl, Nat.le_of_ble_eq_true rfl⟩) (kPre_V (ci := 5) hK hN hP hD [0] (by decide) rfl 0 rfl rfl) rfl rfl hl.1 rfl (lv_room (Nat.le_of_ble_eq_true rfl)) dX5_danceOn_1 ⟨Nat.le_of_ble_eq_true rfl, Nat.le_of_ble_eq_true rfl⟩) (fun u_ H locs hw hP hD hS => ?_)
  refine lv_aload_n hx hb dX5_danceOn_4 rfl (lv_at hl 0 rfl) ?_
  refine lv_aload_n hx hb dX5_danceOn_5 rfl (lv_at hl 0 rfl) ?_
  refine kc_i (Cs := [mW cy ra (kEn X, (kRsv (kEn X) T.1 T.2.2.1, T.2.1, kSc T.2.2.1, T.2.2.2))]) (Rs := []) (Bs := [mW cy ra (kEn X, (kRsv (kEn X) T.1 T.2.2.1, T.2.1, kSc T.2.2.1, T.2.2.2))]) (Cs' := fun u_ : (Nat → Int32) × (Nat → Int32) × (Nat → Int32) × (Nat → Int32) × (Nat → Int32) => [mW cy ra (kEn (kX4 X (kOnE X.2.2.2.1.1 (kS4 X)).1), ((kRsv (kEn X) T.1 T.2.2.1), T.2.1, (kSc T.2.2.1), T.2.2.2.1, u_.1, u_.2.1, u_.2.2.1, u_.2.2.2.1, u_.2.2.2.2, T.2.2.2.2.2.2.2.2.2))]) (Fs := fun u_ : (Nat → Int32) × (Nat → Int32) × (Nat → Int32) × (Nat → Int32) × (Nat → Int32) => [mW cy ra (kEn (kX4 X (kOnE X.2.2.2.1.1 (kS4 X)).1), ((kRsv (kEn X) T.1 T.2.2.1), T.2.1, (kSc T.2.2.1), T.2.2.2.1, u_.1, u_.2.1, u_.2.2.1, u_.2.2.2.1, u_.2.2.2.2, T.2.2.2.2.2.2.2.2.2))]) hP hD hS hA [0] [] [0] rfl rfl (by decide) (by decide) (fun _ => rfl) (va_runV (As := []) (rest := [.ref (ra 0)]) ⟨hx, hb, hml, hown, hts⟩ (c_X5_dancesOn l D cy ra X (kRsv (kEn X) T.1 T.2.2.1, T.2.1, kSc T.2.2.1, T.2.2.2) hk hoc H.size) (cwV 0 hts gX5_danceOn_X5_dancesOn rfl rfl rfl (by decide +kernel) ⟨Nat.le_of_ble_eq_true rfl, Nat.le_of_ble_eq_true rfl⟩) (kPre_V (ci := 5) hK hN hP hD [0] (by decide) rfl 0 rfl rfl) rfl rfl hl.1 rfl (lv_room (Nat.le_of_ble_eq_true rfl)) dX5_danceOn_6 ⟨Nat.le_of_ble_eq_true rfl, Nat.le_of_ble_eq_true rfl⟩) (fun r_ u_ H locs hw hP hD hS => ?_)
  obtain ⟨e5_6, e6_6, e7_6, e8_6, e9_6⟩ := u_
  have hP : va_P D vwCl (bkF [mW cy ra (kEn (kX4 X (kOnE X.2.2.2.1.1 (kS4 X)).1), ((kRsv (kEn X) T.1 T.2.2.1), T.2.1, (kSc T.2.2.1), T.2.2.2.1, e5_6, e6_6, e7_6, e8_6, e9_6, T.2.2.2.2.2.2.2.2.2))]) H := hP
  have hD : va_D A (bkF [mW cy ra (kEn (kX4 X (kOnE X.2.2.2.1.1 (kS4 X)).1), ((kRsv (kEn X) T.1 T.2.2.1), T.2.1, (kSc T.2.2.1), T.2.2.2.1, e5_6, e6_6, e7_6, e8_6, e9_6, T.2.2.2.2.2.2.2.2.2))]) := hD
  have hw : r_ = nI (kOnE X.2.2.2.1.1 (kS4 X)).2 := hw
  subst hw
  refine kc_i (Cs := [mW cy ra (kEn (kX4 X (kOnE X.2.2.2.1.1 (kS4 X)).1), ((kRsv (kEn X) T.1 T.2.2.1), T.2.1, (kSc T.2.2.1), T.2.2.2.1, e5_6, e6_6, e7_6, e8_6, e9_6, T.2.2.2.2.2.2.2.2.2))]) (Rs := []) (Bs := [mW cy ra (kEn (kX4 X (kOnE X.2.2.2.1.1 (kS4 X)).1), ((kRsv (kEn X) T.1 T.2.2.1), T.2.1, (kSc T.2.2.1), T.2.2.2.1, e5_6, e6_6, e7_6, e8_6, e9_6, T.2.2.2.2.2.2.2.2.2))]) (Cs' := fun u_ : Unit => [mW cy ra ((kEn (kX4 X (kOnE X.2.2.2.1.1 (kS4 X)).1)), ((kRsv (kEn X) T.1 T.2.2.1), T.2.1, (kSc T.2.2.1), nI 0, e5_6, e6_6, e7_6, e8_6, e9_6, T.2.2.2.2.2.2.2.2.2))]) (Fs := fun u_ : Unit => [mW cy ra ((kEn (kX4 X (kOnE X.2.2.2.1.1 (kS4 X)).1)), ((kRsv (kEn X) T.1 T.2.2.1), T.2.1, (kSc T.2.2.1), nI 0, e5_6, e6_6, e7_6, e8_6, e9_6, T.2.2.2.2.2.2.2.2.2))]) hP hD hS hA [0] [] [0] rfl rfl (by decide) (by decide) (fun _ => rfl) (va_runV (As := [.int (nI (kOnE X.2.2.2.1.1 (kS4 X)).2)]) (rest := []) ⟨hx, hb, hml, hown, hts⟩ (c_X5_fine l D cy ra (kEn (kX4 X (kOnE X.2.2.2.1.1 (kS4 X)).1)) ((kRsv (kEn X) T.1 T.2.2.1), T.2.1, (kSc T.2.2.1), T.2.2.2.1, e5_6, e6_6, e7_6, e8_6, e9_6, T.2.2.2.2.2.2.2.2.2) (nI (kOnE X.2.2.2.1.1 (kS4 X)).2) H.size) (cwV 1 hts gX5_danceOn_X5_fine rfl rfl rfl (by decide +kernel) ⟨Nat.le_of_ble_eq_true rfl, Nat.le_of_ble_eq_true rfl⟩) (kPre_V (ci := 5) hK hN hP hD [0] (by decide) rfl 0 rfl rfl) rfl rfl hl.1 rfl (lv_room (Nat.le_of_ble_eq_true rfl)) dX5_danceOn_9 ⟨Nat.le_of_ble_eq_true rfl, Nat.le_of_ble_eq_true rfl⟩) (fun r_ u_ H locs hw hP hD hS => ?_)
  have hw : r_ = (nI (kOnE X.2.2.2.1.1 (kS4 X)).2) := hw
  subst hw
  exact kr_i (post := fun r_ (u_ : (Nat → Int32) × (Nat → Int32) × (Nat → Int32) × (Nat → Int32) × (Nat → Int32)) => r_ = nI (kOnE X.2.2.2.1.1 (kS4 X)).2) (Bs := fun u_ : (Nat → Int32) × (Nat → Int32) × (Nat → Int32) × (Nat → Int32) × (Nat → Int32) => [mW cy ra (kEn (kX4 X (kOnE X.2.2.2.1.1 (kS4 X)).1), (kRsv (kEn X) T.1 T.2.2.1, T.2.1, kSc T.2.2.1, nI 0, u_.1, u_.2.1, u_.2.2.1, u_.2.2.2.1, u_.2.2.2.2, T.2.2.2.2.2.2.2.2.2))]) hx hb hr hlocks rfl (e5_6, e6_6, e7_6, e8_6, e9_6) hP hK hD hS rfl dX5_danceOn_12 hQ
