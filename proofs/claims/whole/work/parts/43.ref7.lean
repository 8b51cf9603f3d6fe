abbrev rm_X5_hashGuests : Room := { frames := 4, cells := 0, slots := 0, locals := 89 }
set_option maxHeartbeats 1000000 in
set_option maxRecDepth 100000 in
/-- hashGuests -/
theorem c_X5_hashGuests (l : Launch) (D : va_G) (cy : Nat → ClassId) (ra : Nat → Nat) (X : rS) (T : rV) (h9 : Int64) (hk : kOkR X) (sz : Nat) : Met l yX5_hashGuests wsX5_hashGuests rm_X5_hashGuests (va_Pc [.ref (ra 0), .long h9] (kPre D (kT cy) [mW cy ra (kEn X, T)] sz)) (va_Ql (fun r_ (u_ : (Nat → Int32) × (Nat → Int32) × (Nat → Int32)) => r_ = kMg (kGO X.2.2.2.1.1 X.2.1 X.2.2.1 X.2.2.2.2) 8 (kMg (kGL X.2.2.2.1.1 X.2.1 X.2.2.2.2) 8 h9 X.2.1.2.2.2.2.2) X.2.2.1.2.2.2.2.2) (kFr D (kT cy) [mW cy ra (kEn X, T)] sz (fun u_ : (Nat → Int32) × (Nat → Int32) × (Nat → Int32) => [mW cy ra (kEn X, (T.1, T.2.1, T.2.2.1, T.2.2.2.1, u_.1, u_.2.1, u_.2.2, T.2.2.2.2.2.2.2))])) (va_A (bkF [mW cy ra (kEn X, T)]) sz)) 0 0 (va_A (bkF [mW cy ra (kEn X, T)]) sz) := by
  refine kOpen (y := yX5_hashGuests) (ws := wsX5_hashGuests) (cc := cX5_hashGuests) (maxL := 7) (ret := (some .long)) (av := [.ref (ra 0), .long h9]) (Bs := [mW cy ra (kEn X, T)]) (Qc := fun A => (va_Ql (fun r_ (u_ : (Nat → Int32) × (Nat → Int32) × (Nat → Int32)) => r_ = kMg (kGO X.2.2.2.1.1 X.2.1 X.2.2.1 X.2.2.2.2) 8 (kMg (kGL X.2.2.2.1.1 X.2.1 X.2.2.2.2) 8 h9 X.2.1.2.2.2.2.2) X.2.2.1.2.2.2.2.2) (fun (u_ : (Nat → Int32) × (Nat → Int32) × (Nat → Int32)) t9 => kEnd D (kT cy) A [mW cy ra (kEn X, (T.1, T.2.1, T.2.2.1, T.2.2.2.1, u_.1, u_.2.1, u_.2.2, T.2.2.2.2.2.2.2))] t9) A)) (by decide) rfl (Nat.le_of_ble_eq_true rfl) ?_
  intro p e s m args below meth c A Q ls hQ hx hb hml hr hlocks hin hts hown hN hK hP hD hS hA hsz hAe hl
  clear hAe
  have hl : lv_has ls 7 [(0, .ref (ra 0)), (1, .long h9)] := hl
  suffices K9 : ∀ (H : Heap) (locs : List Loc), va_P D vwCl (bkF [mW cy ra (kEn X, T)]) H → va_S A s.heap H locs → W p l e (headSpec wsX5_hashGuests rm_X5_hashGuests).room s m args below meth c H locs 0 0 Q (F0 m 0 ls []) from K9 _ _ hP hS
  clear hP hS
  intro H locs hP hS
  refine lv_lload_n hx hb dX5_hashGuests_0 rfl (lv_at hl 1 rfl) ?_
  refine lv_lstore_n (lv' := [(3, .long h9), (0, .ref (ra 0)), (1, .long h9)]) hx hb dX5_hashGuests_1 rfl hl (by decide) rfl (fun ls hl => ?_)
  refine lv_iconst (v := nI 0) hx hb dX5_hashGuests_2 (by decide) ?_
  refine lv_istore (lv' := [(5, .int (nI 0)), (3, .long h9), (0, .ref (ra 0)), (1, .long h9)]) hx hb dX5_hashGuests_3 hl (by decide) rfl (fun ls hl => ?_)
  have L_5 : ∀ (n9 : Nat) (pe : Nat) (e5 : Nat → Int32) (e6 : Nat → Int32) (e7 : Nat → Int32), 16 - pe = n9 → (pe ≤ 16) → ∀ (ls : Array Slot) (H : Heap) (locs : List Loc), va_P D vwCl (bkF [mW cy ra (kEn X, (T.1, T.2.1, T.2.2.1, T.2.2.2.1, e5, e6, e7, T.2.2.2.2.2.2.2))]) H → va_D A (bkF [mW cy ra (kEn X, (T.1, T.2.1, T.2.2.1, T.2.2.2.1, e5, e6, e7, T.2.2.2.2.2.2.2))]) → va_S A s.heap H locs → lv_has ls 7 [(0, .ref (ra 0)), (5, .int (nI pe)), (3, .long (kHg X h9 pe))] → W p l e (headSpec wsX5_hashGuests rm_X5_hashGuests).room s m args below meth c H locs 0 0 Q (F0 m 5 ls []) := by
    intro n9
    induction n9 using Nat.strongRecOn with
    | _ n9 ih_5 =>
    intro pe e5 e6 e7 hm_5 h5_0 ls H locs hP hD hS hl
    refine lv_iload hx hb dX5_hashGuests_5 (lv_at hl 1 rfl) ?_
    refine lv_bipush (v := nI 16) hx hb dX5_hashGuests_7 (by decide) ?_
    refine lv_icmp_ge (tgt := 59) hx hb dX5_hashGuests_9 (by decide) (fun c_9 => ?_) (fun c_9 => ?_)
    · skip
      have c_9 : 16 ≤ pe := (nI_leI (a := 16) (b := pe) (by omega) (by omega)).mp c_9
      refine lv_lload_n hx hb dX5_hashGuests_59 rfl (lv_at hl 2 rfl) ?_
      exact kr_l (post := fun r_ (u_ : (Nat → Int32) × (Nat → Int32) × (Nat → Int32)) => r_ = kMg (kGO X.2.2.2.1.1 X.2.1 X.2.2.1 X.2.2.2.2) 8 (kMg (kGL X.2.2.2.1.1 X.2.1 X.2.2.2.2) 8 h9 X.2.1.2.2.2.2.2) X.2.2.1.2.2.2.2.2) (Bs := fun u_ : (Nat → Int32) × (Nat → Int32) × (Nat → Int32) => [mW cy ra (kEn X, (T.1, T.2.1, T.2.2.1, T.2.2.2.1, u_.1, u_.2.1, u_.2.2, T.2.2.2.2.2.2.2))]) hx hb hr hlocks (e5, e6, e7) hP hK hD hS (by rw [show pe = 16 from by omega]; exact kHg_e hk.1.1 hk.2.1.1) dX5_hashGuests_60 hQ
    · skip
      have c_9 : ¬ (16 ≤ pe) := fun h => c_9 ((nI_leI (a := 16) (b := pe) (by omega) (by omega)).mpr h)
      refine lv_iconst (v := nI 0) hx hb dX5_hashGuests_12 (by decide) ?_
      refine lv_istore (lv' := [(6, .int (nI 0)), (0, .ref (ra 0)), (5, .int (nI pe)), (3, .long (kHg X h9 pe))]) hx hb dX5_hashGuests_13 hl (by decide) rfl (fun ls hl => ?_)
      have L_15 : ∀ (n9 : Nat) (w : Nat) (a5 : Nat → Int32) (a6 : Nat → Int32) (a7 : Nat → Int32), 8 - w = n9 → (w ≤ 8) → (w = 0 ∨ ((pe < 8 → pe < X.2.1.2.2.2.2.2) ∧ (∀ q, pe = 8 + q → q < X.2.2.1.2.2.2.2.2))) → ∀ (ls : Array Slot) (H : Heap) (locs : List Loc), va_P D vwCl (bkF [mW cy ra (kEn X, (T.1, T.2.1, T.2.2.1, T.2.2.2.1, a5, a6, a7, T.2.2.2.2.2.2.2))]) H → va_D A (bkF [mW cy ra (kEn X, (T.1, T.2.1, T.2.2.1, T.2.2.2.1, a5, a6, a7, T.2.2.2.2.2.2.2))]) → va_S A s.heap H locs → lv_has ls 7 [(0, .ref (ra 0)), (5, .int (nI pe)), (6, .int (nI w)), (3, .long (kMxs (kPx X pe) (kHg X h9 pe) w))] → W p l e (headSpec wsX5_hashGuests rm_X5_hashGuests).room s m args below meth c H locs 0 0 Q (F0 m 15 ls []) := by
        intro n9
        induction n9 using Nat.strongRecOn with
        | _ n9 ih_15 =>
        intro w a5 a6 a7 hm_15 h15_0 h15_1 ls H locs hP hD hS hl
        refine lv_iload hx hb dX5_hashGuests_15 (lv_at hl 2 rfl) ?_
        refine lv_bipush (v := nI 8) hx hb dX5_hashGuests_17 (by decide) ?_
        refine lv_icmp_ge (tgt := 53) hx hb dX5_hashGuests_19 (by decide) (fun c_19 => ?_) (fun c_19 => ?_)
        · skip
          have c_19 : 8 ≤ w := (nI_leI (a := 8) (b := w) (by omega) (by omega)).mp c_19
          have hw8 : w = 8 := by omega
          have hth := (h15_1).resolve_left (by omega)
          have e7 : kMxs (kPx X pe) (kHg X h9 pe) w = kHg X h9 (pe + 1) := by rw [hw8]; exact (Nat.lt_or_ge pe 8).elim (fun hp8 => kHg_L hp8 (hth.1 hp8)) (fun hp8 => by obtain ⟨q, hq⟩ : ∃ q, pe = 8 + q := ⟨pe - 8, by omega⟩; rw [hq]; exact kHg_F hk.1.1 (hth.2 q hq))
          have hl : lv_has ls 7 [(0, .ref (ra 0)), (5, .int (nI pe)), (6, .int (nI w)), (3, .long (kHg X h9 (pe + 1)))] := by rw [← e7]; exact hl
          refine lv_iinc (v := nI (pe + 1)) (lv' := [(5, .int (nI (pe + 1))), (0, .ref (ra 0)), (6, .int (nI w)), (3, .long (kHg X h9 (pe + 1)))]) hx hb dX5_hashGuests_53 hl (k := 1) rfl (nI_add pe 1) (by decide) rfl (fun ls hl => ?_)
          refine lv_goto (tgt := 5) hx hb dX5_hashGuests_56 (by decide) ?_
          exact ih_5 _ (by omega) (pe + 1) a5 a6 a7 rfl (by omega) ls H locs hP hD hS (lv_sub hl [1, 0, 3] rfl)
        · skip
          have c_19 : ¬ (8 ≤ w) := fun h => c_19 ((nI_leI (a := 8) (b := w) (by omega) (by omega)).mpr h)
          rcases Nat.lt_or_ge pe 8 with hp8 | hp8
          · skip
            refine lv_aload_n hx hb dX5_hashGuests_22 rfl (lv_at hl 0 rfl) ?_
            refine lv_iload hx hb dX5_hashGuests_23 (lv_at hl 1 rfl) ?_
            refine kc_i (Cs := [mW cy ra (kEn X, (T.1, T.2.1, T.2.2.1, T.2.2.2.1, a5, a6, a7, T.2.2.2.2.2.2.2))]) (Rs := []) (Bs := [mW cy ra (kEn X, (T.1, T.2.1, T.2.2.1, T.2.2.2.1, a5, a6, a7, T.2.2.2.2.2.2.2))]) (Cs' := fun u_ : Unit => [mW cy ra (kEn X, (T.1, T.2.1, T.2.2.1, T.2.2.2.1, a5, a6, a7, T.2.2.2.2.2.2.2))]) (Fs := fun u_ : Unit => [mW cy ra (kEn X, (T.1, T.2.1, T.2.2.1, T.2.2.2.1, a5, a6, a7, T.2.2.2.2.2.2.2))]) hP hD hS hA [0] [] [0] rfl rfl (by decide) (by decide) (fun _ => rfl) (va_runV (As := [.int (nI pe)]) (rest := []) ⟨hx, hb, hml, hown, hts⟩ (c_X5_isThere_t l D cy ra X (T.1, T.2.1, T.2.2.1, T.2.2.2.1, a5, a6, a7, T.2.2.2.2.2.2.2) pe (by omega) (by first | exact hk.1.1 | exact hk.2.1.1) H.size) (cwV 1 hts gX5_hashGuests_X5_isThere rfl rfl rfl (by decide +kernel) ⟨Nat.le_of_ble_eq_true rfl, Nat.le_of_ble_eq_true rfl⟩) (kPre_V (ci := 5) hK hN hP hD [0] (by decide) rfl 0 rfl rfl) rfl rfl hl.1 rfl (lv_room (Nat.le_of_ble_eq_true rfl)) dX5_hashGuests_25 ⟨Nat.le_of_ble_eq_true rfl, Nat.le_of_ble_eq_true rfl⟩) (fun r_ u_ H locs hw hP hD hS => ?_)
            have hw : r_ = if pe < X.2.1.2.2.2.2.2 then nI 1 else nI 0 := hw
            subst hw
            by_cases b_25 : pe < X.2.1.2.2.2.2.2
            · refine kv_i (y := nI 1) (if_pos b_25) ?_
              refine lv_if_eq (tgt := 53) hx hb dX5_hashGuests_28 (by decide) (fun h => absurd h (by decide)) (fun _ => ?_)
              refine lv_ldc2 hx hb hown (hts (.constantLong RX5 204 (31)) (by decide +kernel)) dX5_hashGuests_31 ?_
              refine lv_lload_n hx hb dX5_hashGuests_34 rfl (lv_at hl 3 rfl) ?_
              refine lv_lmul hx hb dX5_hashGuests_35 ?_
              refine lv_aload_n hx hb dX5_hashGuests_36 rfl (lv_at hl 0 rfl) ?_
              refine lv_iload hx hb dX5_hashGuests_37 (lv_at hl 1 rfl) ?_
              refine lv_iload hx hb dX5_hashGuests_39 (lv_at hl 2 rfl) ?_
              refine kc_i (Cs := [mW cy ra (kEn X, (T.1, T.2.1, T.2.2.1, T.2.2.2.1, a5, a6, a7, T.2.2.2.2.2.2.2))]) (Rs := []) (Bs := [mW cy ra (kEn X, (T.1, T.2.1, T.2.2.1, T.2.2.2.1, a5, a6, a7, T.2.2.2.2.2.2.2))]) (Cs' := fun u_ : (Nat → Int32) × (Nat → Int32) × (Nat → Int32) => [mW cy ra (kEn X, (T.1, T.2.1, T.2.2.1, T.2.2.2.1, u_.1, u_.2.1, u_.2.2, T.2.2.2.2.2.2.2))]) (Fs := fun u_ : (Nat → Int32) × (Nat → Int32) × (Nat → Int32) => [mW cy ra (kEn X, (T.1, T.2.1, T.2.2.1, T.2.2.2.1, u_.1, u_.2.1, u_.2.2, T.2.2.2.2.2.2.2))]) hP hD hS hA [0] [] [0] rfl rfl (by decide) (by decide) (fun _ => rfl) (va_runV (As := [.int (nI pe), .int (nI w)]) (rest := [.long ((31) * (kMxs (kPx X pe) (kHg X h9 pe) w))]) ⟨hx, hb, hml, hown, hts⟩ (c_X5_guestOf_t l D cy ra X (T.1, T.2.1, T.2.2.1, T.2.2.2.1, a5, a6, a7, T.2.2.2.2.2.2.2) pe w hk b_25 (by first | assumption | omega | decide) H.size) (cwV 2 hts gX5_hashGuests_X5_guestOf rfl rfl rfl (by decide +kernel) ⟨Nat.le_of_ble_eq_true rfl, Nat.le_of_ble_eq_true rfl⟩) (kPre_V (ci := 5) hK hN hP hD [0] (by decide) rfl 0 rfl rfl) rfl rfl hl.1 rfl (lv_room (Nat.le_of_ble_eq_true rfl)) dX5_hashGuests_41 ⟨Nat.le_of_ble_eq_true rfl, Nat.le_of_ble_eq_true rfl⟩) (fun r_ u_ H locs hw hP hD hS => ?_)
              obtain ⟨e5_41, e6_41, e7_41⟩ := u_
              have hP : va_P D vwCl (bkF [mW cy ra (kEn X, (T.1, T.2.1, T.2.2.1, T.2.2.2.1, e5_41, e6_41, e7_41, T.2.2.2.2.2.2.2))]) H := hP
              have hD : va_D A (bkF [mW cy ra (kEn X, (T.1, T.2.1, T.2.2.1, T.2.2.2.1, e5_41, e6_41, e7_41, T.2.2.2.2.2.2.2))]) := hD
              have hw : r_ = kGL X.2.2.2.1.1 X.2.1 X.2.2.2.2 pe w := hw
              subst hw
              refine lv_i2l (v := (kGL X.2.2.2.1.1 X.2.1 X.2.2.2.2 pe w).toInt64) hx hb dX5_hashGuests_44 rfl ?_
              refine lv_ladd hx hb dX5_hashGuests_45 ?_
              refine kv_l (y := kMxs (kPx X pe) (kHg X h9 pe) (w + 1)) (by rw [show kGL X.2.2.2.1.1 X.2.1 X.2.2.2.2 pe w = kPx X pe w from by rw [kPx_L hp8]]; rfl) ?_
              refine lv_lstore_n (lv' := [(3, .long (kMxs (kPx X pe) (kHg X h9 pe) (w + 1))), (0, .ref (ra 0)), (5, .int (nI pe)), (6, .int (nI w))]) hx hb dX5_hashGuests_46 rfl hl (by decide) rfl (fun ls hl => ?_)
              refine lv_iinc (v := nI (w + 1)) (lv' := [(6, .int (nI (w + 1))), (3, .long (kMxs (kPx X pe) (kHg X h9 pe) (w + 1))), (0, .ref (ra 0)), (5, .int (nI pe))]) hx hb dX5_hashGuests_47 hl (k := 3) rfl (nI_add w 1) (by decide) rfl (fun ls hl => ?_)
              refine lv_goto (tgt := 15) hx hb dX5_hashGuests_50 (by decide) ?_
              exact ih_15 _ (by omega) (w + 1) e5_41 e6_41 e7_41 rfl (by omega) (Or.inr ⟨fun _ => b_25, fun q h => by omega⟩) ls H locs hP hD hS (lv_sub hl [2, 3, 0, 1] rfl)
            · refine kv_i (y := nI 0) (if_neg b_25) ?_
              refine lv_if_eq (tgt := 53) hx hb dX5_hashGuests_28 (by decide) (fun _ => ?_) (fun h => absurd h (by decide))
              have hw0 : w = 0 := (h15_1).resolve_right (fun h => b_25 (h.1 hp8))
              have e7 : kMxs (kPx X pe) (kHg X h9 pe) w = kHg X h9 (pe + 1) := by rw [hw0]; exact (kHg_Ln (h := h9) hp8 b_25)
              have hl : lv_has ls 7 [(0, .ref (ra 0)), (5, .int (nI pe)), (6, .int (nI w)), (3, .long (kHg X h9 (pe + 1)))] := by rw [← e7]; exact hl
              refine lv_iinc (v := nI (pe + 1)) (lv' := [(5, .int (nI (pe + 1))), (0, .ref (ra 0)), (6, .int (nI w)), (3, .long (kHg X h9 (pe + 1)))]) hx hb dX5_hashGuests_53 hl (k := 1) rfl (nI_add pe 1) (by decide) rfl (fun ls hl => ?_)
              refine lv_goto (tgt := 5) hx hb dX5_hashGuests_56 (by decide) ?_
              exact ih_5 _ (by omega) (pe + 1) a5 a6 a7 rfl (by omega) ls H locs hP hD hS (lv_sub hl [1, 0, 3] rfl)
          · skip
            obtain ⟨q, hq⟩ : ∃ q, pe = 8 + q := ⟨pe - 8, by omega⟩
            refine lv_aload_n hx hb dX5_hashGuests_22 rfl (lv_at hl 0 rfl) ?_
            refine lv_iload hx hb dX5_hashGuests_23 (lv_at hl 1 rfl) ?_
            refine kv_i (y := nI (8 + q)) (congrArg nI hq) ?_
            refine kc_i (Cs := [mW cy ra (kEn X, (T.1, T.2.1, T.2.2.1, T.2.2.2.1, a5, a6, a7, T.2.2.2.2.2.2.2))]) (Rs := []) (Bs := [mW cy ra (kEn X, (T.1, T.2.1, T.2.2.1, T.2.2.2.1, a5, a6, a7, T.2.2.2.2.2.2.2))]) (Cs' := fun u_ : Unit => [mW cy ra (kEn X, (T.1, T.2.1, T.2.2.1, T.2.2.2.1, a5, a6, a7, T.2.2.2.2.2.2.2))]) (Fs := fun u_ : Unit => [mW cy ra (kEn X, (T.1, T.2.1, T.2.2.1, T.2.2.2.1, a5, a6, a7, T.2.2.2.2.2.2.2))]) hP hD hS hA [0] [] [0] rfl rfl (by decide) (by decide) (fun _ => rfl) (va_runV (As := [.int (nI (8 + q))]) (rest := []) ⟨hx, hb, hml, hown, hts⟩ (c_X5_isThere_f l D cy ra X (T.1, T.2.1, T.2.2.1, T.2.2.2.1, a5, a6, a7, T.2.2.2.2.2.2.2) q (by omega) (by first | exact hk.1.1 | exact hk.2.1.1) H.size) (cwV 1 hts gX5_hashGuests_X5_isThere rfl rfl rfl (by decide +kernel) ⟨Nat.le_of_ble_eq_true rfl, Nat.le_of_ble_eq_true rfl⟩) (kPre_V (ci := 5) hK hN hP hD [0] (by decide) rfl 0 rfl rfl) rfl rfl hl.1 rfl (lv_room (Nat.le_of_ble_eq_true rfl)) dX5_hashGuests_25 ⟨Nat.le_of_ble_eq_true rfl, Nat.le_of_ble_eq_true rfl⟩) (fun r_ u_ H locs hw hP hD hS => ?_)
            have hw : r_ = if q < X.2.2.1.2.2.2.2.2 then nI 1 else nI 0 := hw
            subst hw
            by_cases b_25 : q < X.2.2.1.2.2.2.2.2
            · refine kv_i (y := nI 1) (if_pos b_25) ?_
              refine lv_if_eq (tgt := 53) hx hb dX5_hashGuests_28 (by decide) (fun h => absurd h (by decide)) (fun _ => ?_)
              refine lv_ldc2 hx hb hown (hts (.constantLong RX5 204 (31)) (by decide +kernel)) dX5_hashGuests_31 ?_
              refine lv_lload_n hx hb dX5_hashGuests_34 rfl (lv_at hl 3 rfl) ?_
              refine lv_lmul hx hb dX5_hashGuests_35 ?_
              refine lv_aload_n hx hb dX5_hashGuests_36 rfl (lv_at hl 0 rfl) ?_
              refine lv_iload hx hb dX5_hashGuests_37 (lv_at hl 1 rfl) ?_
              refine kv_i (y := nI (8 + q)) (congrArg nI hq) ?_
              refine lv_iload hx hb dX5_hashGuests_39 (lv_at hl 2 rfl) ?_
              refine kc_i (Cs := [mW cy ra (kEn X, (T.1, T.2.1, T.2.2.1, T.2.2.2.1, a5, a6, a7, T.2.2.2.2.2.2.2))]) (Rs := []) (Bs := [mW cy ra (kEn X, (T.1, T.2.1, T.2.2.1, T.2.2.2.1, a5, a6, a7, T.2.2.2.2.2.2.2))]) (Cs' := fun u_ : (Nat → Int32) × (Nat → Int32) × (Nat → Int32) => [mW cy ra (kEn X, (T.1, T.2.1, T.2.2.1, T.2.2.2.1, u_.1, u_.2.1, u_.2.2, T.2.2.2.2.2.2.2))]) (Fs := fun u_ : (Nat → Int32) × (Nat → Int32) × (Nat → Int32) => [mW cy ra (kEn X, (T.1, T.2.1, T.2.2.1, T.2.2.2.1, u_.1, u_.2.1, u_.2.2, T.2.2.2.2.2.2.2))]) hP hD hS hA [0] [] [0] rfl rfl (by decide) (by decide) (fun _ => rfl) (va_runV (As := [.int (nI (8 + q)), .int (nI w)]) (rest := [.long ((31) * (kMxs (kPx X pe) (kHg X h9 pe) w))]) ⟨hx, hb, hml, hown, hts⟩ (c_X5_guestOf_f l D cy ra X (T.1, T.2.1, T.2.2.1, T.2.2.2.1, a5, a6, a7, T.2.2.2.2.2.2.2) q w hk b_25 (by first | assumption | omega | decide) H.size) (cwV 2 hts gX5_hashGuests_X5_guestOf rfl rfl rfl (by decide +kernel) ⟨Nat.le_of_ble_eq_true rfl, Nat.le_of_ble_eq_true rfl⟩) (kPre_V (ci := 5) hK hN hP hD [0] (by decide) rfl 0 rfl rfl) rfl rfl hl.1 rfl (lv_room (Nat.le_of_ble_eq_true rfl)) dX5_hashGuests_41 ⟨Nat.le_of_ble_eq_true rfl, Nat.le_of_ble_eq_true rfl⟩) (fun r_ u_ H locs hw hP hD hS => ?_)
              obtain ⟨e5_41, e6_41, e7_41⟩ := u_
              have hP : va_P D vwCl (bkF [mW cy ra (kEn X, (T.1, T.2.1, T.2.2.1, T.2.2.2.1, e5_41, e6_41, e7_41, T.2.2.2.2.2.2.2))]) H := hP
              have hD : va_D A (bkF [mW cy ra (kEn X, (T.1, T.2.1, T.2.2.1, T.2.2.2.1, e5_41, e6_41, e7_41, T.2.2.2.2.2.2.2))]) := hD
              have hw : r_ = kGO X.2.2.2.1.1 X.2.1 X.2.2.1 X.2.2.2.2 q w := hw
              subst hw
              refine lv_i2l (v := (kGO X.2.2.2.1.1 X.2.1 X.2.2.1 X.2.2.2.2 q w).toInt64) hx hb dX5_hashGuests_44 rfl ?_
              refine lv_ladd hx hb dX5_hashGuests_45 ?_
              refine kv_l (y := kMxs (kPx X pe) (kHg X h9 pe) (w + 1)) (by rw [show kGO X.2.2.2.1.1 X.2.1 X.2.2.1 X.2.2.2.2 q w = kPx X pe w from by rw [hq, kPx_F]]; rfl) ?_
              refine lv_lstore_n (lv' := [(3, .long (kMxs (kPx X pe) (kHg X h9 pe) (w + 1))), (0, .ref (ra 0)), (5, .int (nI pe)), (6, .int (nI w))]) hx hb dX5_hashGuests_46 rfl hl (by decide) rfl (fun ls hl => ?_)
              refine lv_iinc (v := nI (w + 1)) (lv' := [(6, .int (nI (w + 1))), (3, .long (kMxs (kPx X pe) (kHg X h9 pe) (w + 1))), (0, .ref (ra 0)), (5, .int (nI pe))]) hx hb dX5_hashGuests_47 hl (k := 3) rfl (nI_add w 1) (by decide) rfl (fun ls hl => ?_)
              refine lv_goto (tgt := 15) hx hb dX5_hashGuests_50 (by decide) ?_
              exact ih_15 _ (by omega) (w + 1) e5_41 e6_41 e7_41 rfl (by omega) (Or.inr ⟨fun h => by omega, fun q8 h => by have e8 : q8 = q := (by omega); rw [e8]; exact b_25⟩) ls H locs hP hD hS (lv_sub hl [2, 3, 0, 1] rfl)
            · refine kv_i (y := nI 0) (if_neg b_25) ?_
              refine lv_if_eq (tgt := 53) hx hb dX5_hashGuests_28 (by decide) (fun _ => ?_) (fun h => absurd h (by decide))
              have hw0 : w = 0 := (h15_1).resolve_right (fun h => b_25 (h.2 q hq))
              have e7 : kMxs (kPx X pe) (kHg X h9 pe) w = kHg X h9 (pe + 1) := by rw [hw0]; exact (show kHg X h9 pe = kHg X h9 (pe + 1) from by rw [hq]; exact kHg_Fn (h := h9) hk.1.1 b_25)
              have hl : lv_has ls 7 [(0, .ref (ra 0)), (5, .int (nI pe)), (6, .int (nI w)), (3, .long (kHg X h9 (pe + 1)))] := by rw [← e7]; exact hl
              refine lv_iinc (v := nI (pe + 1)) (lv' := [(5, .int (nI (pe + 1))), (0, .ref (ra 0)), (6, .int (nI w)), (3, .long (kHg X h9 (pe + 1)))]) hx hb dX5_hashGuests_53 hl (k := 1) rfl (nI_add pe 1) (by decide) rfl (fun ls hl => ?_)
              refine lv_goto (tgt := 5) hx hb dX5_hashGuests_56 (by decide) ?_
              exact ih_5 _ (by omega) (pe + 1) a5 a6 a7 rfl (by omega) ls H locs hP hD hS (lv_sub hl [1, 0, 3] rfl)
      exact L_15 _ 0 e5 e6 e7 rfl (by omega) (Or.inl rfl) ls H locs hP hD hS (lv_sub hl [1, 2, 0, 3] rfl)
  exact L_5 _ 0 T.2.2.2.2.1 T.2.2.2.2.2.1 T.2.2.2.2.2.2.1 rfl (by omega) ls H locs hP hD hS (lv_sub hl [2, 0, 1] rfl)
abbrev rm_X5_digest : Room := { frames := 5, cells := 0, slots := 0, locals := 115 }
set_option maxHeartbeats 1000000 in
set_option maxRecDepth 100000 in
/-- digest -/
theorem c_X5_digest (l : Launch) (D : va_G) (cy : Nat → ClassId) (ra : Nat → Nat) (X : rS) (T : rV) (hk : kOkR X) (hoc : kOkC X.1) (hfn : X.1.2.2.2.1 ≤ 4) (hf1 : 1 ≤ X.1.2.2.2.1) (hps : ¬ ksum X.2.2.2.1.2.1 X.1.2.2.2.1 ≤ 0) (hsm : T.2.2.1 ≤ 4) (sz : Nat) : Met l yX5_digest wsX5_digest rm_X5_digest (va_Pc [.ref (ra 0)] (kPre D (kT cy) [mW cy ra (kEn X, T)] sz)) (va_Ql (fun r_ (u_ : (Nat → Int32) × (Nat → Int32) × (Nat → Int32) × (Nat → Int32) × (Nat → Int32)) => r_ = kDgst T.2.2.2.2.2.2.2.2.2.2.1 T.2.2.1 X.1 X.2.1 X.2.2.1 X.2.2.2.1 X.2.2.2.2) (kFr D (kT cy) [mW cy ra (kEn X, T)] sz (fun u_ : (Nat → Int32) × (Nat → Int32) × (Nat → Int32) × (Nat → Int32) × (Nat → Int32) => [mW cy ra (kEn X, (T.1, T.2.1, T.2.2.1, nI 0, u_.1, u_.2.1, u_.2.2.1, u_.2.2.2.1, u_.2.2.2.2, T.2.2.2.2.2.2.2.2.2))])) (va_A (bkF [mW cy ra (kEn X, T)]) sz)) 0 0 (va_A (bkF [mW cy ra (kEn X, T)]) sz) := by
  refine kOpen (y := yX5_digest) (ws := wsX5_digest) (cc := cX5_digest) (maxL := 6) (ret := (some .long)) (av := [.ref (ra 0)]) (Bs := [mW cy ra (kEn X, T)]) (Qc := fun A => (va_Ql (fun r_ (u_ : (Nat → Int32) × (Nat → Int32) × (Nat → Int32) × (Nat → Int32) × (Nat → Int32)) => r_ = kDgst T.2.2.2.2.2.2.2.2.2.2.1 T.2.2.1 X.1 X.2.1 X.2.2.1 X.2.2.2.1 X.2.2.2.2) (fun (u_ : (Nat → Int32) × (Nat → Int32) × (Nat → Int32) × (Nat → Int32) × (Nat → Int32)) t9 => kEnd D (kT cy) A [mW cy ra (kEn X, (T.1, T.2.1, T.2.2.1, nI 0, u_.1, u_.2.1, u_.2.2.1, u_.2.2.2.1, u_.2.2.2.2, T.2.2.2.2.2.2.2.2.2))] t9) A)) (by decide) rfl (Nat.le_of_ble_eq_true rfl) ?_
  intro p e s m args below meth c A Q ls hQ hx hb hml hr hlocks hin hts hown hN hK hP hD hS hA hsz hAe hl
  clear hAe
  have hl : lv_has ls 6 [(0, .ref (ra 0))] := hl
  suffices K9 : ∀ (H : Heap) (locs : List Loc), va_P D vwCl (bkF [mW cy ra (kEn X, T)]) H → va_S A s.heap H locs → W p l e (headSpec wsX5_digest rm_X5_digest).room s m args below meth c H locs 0 0 Q (F0 m 0 ls []) from K9 _ _ hP hS
  clear hP hS
  intro H locs hP hS
  have hL8 := hk.1.1
  have hF8 := hk.2.1.1
  refine lv_aload_n hx hb dX5_digest_0 rfl (lv_at hl 0 rfl) ?_
  refine lv_iconst (v := nI 0) hx hb dX5_digest_1 (by decide) ?_
  refine va_put (D := D) (ci := 5) (v := .int (nI 0)) (ty := .int) (C := RX5) (T := TX5) (N := 16) hx hb hts (by decide +kernel) tyX5 tyX5_ok nmX5 hown hK hP hD hS 0 rfl rfl 4 (by decide) (hts (.fieldLink RX5 44 "DanceHallModel" "threw" "I") (by decide +kernel)) (fun _ h9 => h9) rfl (by decide +kernel) rfl rfl (Nat.le_of_ble_eq_true rfl) dX5_digest_2 (fun H locs hP hD hS => ?_)
  have hP : va_P D vwCl (bkF [mW cy ra (kEn X, (T.1, T.2.1, T.2.2.1, nI 0, T.2.2.2.2))]) H := hP
  have hD : va_D A (bkF [mW cy ra (kEn X, (T.1, T.2.1, T.2.2.1, nI 0, T.2.2.2.2))]) := hD
  refine lv_ldc2 hx hb hown (hts (.constantLong RX5 206 (109337)) (by decide +kernel)) dX5_digest_5 ?_
  refine lv_aload_n hx hb dX5_digest_8 rfl (lv_at hl 0 rfl) ?_
  refine va_get (D := D) (ci := 5) (v := .int (nI T.2.2.2.2.2.2.2.2.2.2.1)) (C := RX5) (T := TX5) (N := 16) hx hb hts (by decide +kernel) hown hK hP 0 rfl rfl 11 (by decide) (hts (.fieldLink RX5 171 "DanceHallModel" "textLong" "I") (by decide +kernel)) (fun _ h9 => h9) rfl dX5_digest_9 ?_
  refine lv_i2l (v := (nI T.2.2.2.2.2.2.2.2.2.2.1).toInt64) hx hb dX5_digest_12 rfl ?_
  refine lv_ladd hx hb dX5_digest_13 ?_
  refine kv_l (y := kMix 3527 (nI T.2.2.2.2.2.2.2.2.2.2.1)) (kMix_0 _) ?_
  refine lv_lstore_n (lv' := [(1, .long (kMix 3527 (nI T.2.2.2.2.2.2.2.2.2.2.1))), (0, .ref (ra 0))]) hx hb dX5_digest_14 rfl hl (by decide) rfl (fun ls hl => ?_)
  refine lv_iconst (v := nI 0) hx hb dX5_digest_15 (by decide) ?_
  refine lv_istore_n (lv' := [(3, .int (nI 0)), (1, .long (kMix 3527 (nI T.2.2.2.2.2.2.2.2.2.2.1))), (0, .ref (ra 0))]) hx hb dX5_digest_16 rfl hl (by decide) rfl (fun ls hl => ?_)
  have L_17 : ∀ (n9 : Nat) (w : Nat), 14 - w = n9 → (w ≤ 14) → ∀ (ls : Array Slot) (H : Heap) (locs : List Loc), va_P D vwCl (bkF [mW cy ra (kEn X, (T.1, T.2.1, T.2.2.1, nI 0, T.2.2.2.2))]) H → va_D A (bkF [mW cy ra (kEn X, (T.1, T.2.1, T.2.2.1, nI 0, T.2.2.2.2))]) → va_S A s.heap H locs → lv_has ls 6 [(0, .ref (ra 0)), (3, .int (nI w)), (1, .long (kMxs (fun x9 => knum X.1 X.2.1 X.2.2.1 X.2.2.2.1 X.2.2.2.2 x9) (kMix 3527 (nI T.2.2.2.2.2.2.2.2.2.2.1)) w))] → W p l e (headSpec wsX5_digest rm_X5_digest).room s m args below meth c H locs 0 0 Q (F0 m 17 ls []) := by
    intro n9
    induction n9 using Nat.strongRecOn with
    | _ n9 ih_17 =>
    intro w hm_17 h17_0 ls H locs hP hD hS hl
    refine lv_iload_n hx hb dX5_digest_17 rfl (lv_at hl 1 rfl) ?_
    refine lv_bipush (v := nI 14) hx hb dX5_digest_18 (by decide) ?_
    refine lv_icmp_ge (tgt := 42) hx hb dX5_digest_20 (by decide) (fun c_20 => ?_) (fun c_20 => ?_)
    · skip
      have c_20 : 14 ≤ w := (nI_leI (a := 14) (b := w) (by omega) (by omega)).mp c_20
      obtain rfl : w = 14 := (by omega)
      refine lv_iconst (v := nI 1) hx hb dX5_digest_42 (by decide) ?_
      refine lv_istore_n (lv' := [(3, .int (nI 1)), (0, .ref (ra 0)), (1, .long (kMxs (fun x9 => knum X.1 X.2.1 X.2.2.1 X.2.2.2.1 X.2.2.2.2 x9) (kMix 3527 (nI T.2.2.2.2.2.2.2.2.2.2.1)) 14))]) hx hb dX5_digest_43 rfl hl (by decide) rfl (fun ls hl => ?_)
      have L_44 : ∀ (n9 : Nat) (z : Nat) (e5 : Nat → Int32) (e6 : Nat → Int32) (e7 : Nat → Int32), 9 - z = n9 → (z ≤ 9) → ∀ (ls : Array Slot) (H : Heap) (locs : List Loc), va_P D vwCl (bkF [mW cy ra (kEn X, (T.1, T.2.1, T.2.2.1, nI 0, e5, e6, e7, T.2.2.2.2.2.2.2))]) H → va_D A (bkF [mW cy ra (kEn X, (T.1, T.2.1, T.2.2.1, nI 0, e5, e6, e7, T.2.2.2.2.2.2.2))]) → va_S A s.heap H locs → lv_has ls 6 [(0, .ref (ra 0)), (3, .int (nI (z + 1))), (1, .long (kD2 X.2.2.2.1.1 (kLf X.2.2.2.1.1 X.2.1 X.2.2.1) (kMxs (fun x9 => knum X.1 X.2.1 X.2.2.1 X.2.2.2.1 X.2.2.2.2 x9) (kMix 3527 (nI T.2.2.2.2.2.2.2.2.2.2.1)) 14) z))] → W p l e (headSpec wsX5_digest rm_X5_digest).room s m args below meth c H locs 0 0 Q (F0 m 44 ls []) := by
        intro n9
        induction n9 using Nat.strongRecOn with
        | _ n9 ih_44 =>
        intro z e5 e6 e7 hm_44 h44_0 ls H locs hP hD hS hl
        refine lv_iload_n hx hb dX5_digest_44 rfl (lv_at hl 1 rfl) ?_
        refine lv_bipush (v := nI 10) hx hb dX5_digest_45 (by decide) ?_
        refine lv_icmp_ge (tgt := 82) hx hb dX5_digest_47 (by decide) (fun c_47 => ?_) (fun c_47 => ?_)
        · skip
          have c_47 : 10 ≤ (z + 1) := (nI_leI (a := 10) (b := z + 1) (by omega) (by omega)).mp c_47
          obtain rfl : z = 9 := (by omega)
          refine lv_aload_n hx hb dX5_digest_82 rfl (lv_at hl 0 rfl) ?_
          refine lv_lload_n hx hb dX5_digest_83 rfl (lv_at hl 2 rfl) ?_
          refine kc_l (Cs := [mW cy ra (kEn X, (T.1, T.2.1, T.2.2.1, nI 0, e5, e6, e7, T.2.2.2.2.2.2.2))]) (Rs := []) (Bs := [mW cy ra (kEn X, (T.1, T.2.1, T.2.2.1, nI 0, e5, e6, e7, T.2.2.2.2.2.2.2))]) (Cs' := fun u_ : (Nat → Int32) × (Nat → Int32) × (Nat → Int32) => [mW cy ra (kEn X, (T.1, T.2.1, T.2.2.1, (nI 0), u_.1, u_.2.1, u_.2.2, T.2.2.2.2.2.2.2))]) (Fs := fun u_ : (Nat → Int32) × (Nat → Int32) × (Nat → Int32) => [mW cy ra (kEn X, (T.1, T.2.1, T.2.2.1, (nI 0), u_.1, u_.2.1, u_.2.2, T.2.2.2.2.2.2.2))]) hP hD hS hA [0] [] [0] rfl rfl (by decide) (by decide) (fun _ => rfl) (va_runV (As := [.long (kD2 X.2.2.2.1.1 (kLf X.2.2.2.1.1 X.2.1 X.2.2.1) (kMxs (fun x9 => knum X.1 X.2.1 X.2.2.1 X.2.2.2.1 X.2.2.2.2 x9) (kMix 3527 (nI T.2.2.2.2.2.2.2.2.2.2.1)) 14) 9)]) (rest := []) ⟨hx, hb, hml, hown, hts⟩ (c_X5_hashGuests l D cy ra X (T.1, T.2.1, T.2.2.1, nI 0, e5, e6, e7, T.2.2.2.2.2.2.2) (kD2 X.2.2.2.1.1 (kLf X.2.2.2.1.1 X.2.1 X.2.2.1) (kMxs (fun x9 => knum X.1 X.2.1 X.2.2.1 X.2.2.2.1 X.2.2.2.2 x9) (kMix 3527 (nI T.2.2.2.2.2.2.2.2.2.2.1)) 14) 9) hk H.size) (cwV 1 hts gX5_digest_X5_hashGuests rfl rfl rfl (by decide +kernel) ⟨Nat.le_of_ble_eq_true rfl, Nat.le_of_ble_eq_true rfl⟩) (kPre_V (ci := 5) hK hN hP hD [0] (by decide) rfl 0 rfl rfl) rfl rfl hl.1 rfl (lv_room (Nat.le_of_ble_eq_true rfl)) dX5_digest_84 ⟨Nat.le_of_ble_eq_true rfl, Nat.le_of_ble_eq_true rfl⟩) (fun r_ u_ H locs hw hP hD hS => ?_)
          obtain ⟨e5_84, e6_84, e7_84⟩ := u_
          have hP : va_P D vwCl (bkF [mW cy ra (kEn X, (T.1, T.2.1, T.2.2.1, (nI 0), e5_84, e6_84, e7_84, T.2.2.2.2.2.2.2))]) H := hP
          have hD : va_D A (bkF [mW cy ra (kEn X, (T.1, T.2.1, T.2.2.1, (nI 0), e5_84, e6_84, e7_84, T.2.2.2.2.2.2.2))]) := hD
          have hw : r_ = kMg (kGO X.2.2.2.1.1 X.2.1 X.2.2.1 X.2.2.2.2) 8 (kMg (kGL X.2.2.2.1.1 X.2.1 X.2.2.2.2) 8 (kD2 X.2.2.2.1.1 (kLf X.2.2.2.1.1 X.2.1 X.2.2.1) (kMxs (fun x9 => knum X.1 X.2.1 X.2.2.1 X.2.2.2.1 X.2.2.2.2 x9) (kMix 3527 (nI T.2.2.2.2.2.2.2.2.2.2.1)) 14) 9) X.2.1.2.2.2.2.2) X.2.2.1.2.2.2.2.2 := hw
          subst hw
          refine lv_lstore_n (lv' := [(1, .long (kMg (kGO X.2.2.2.1.1 X.2.1 X.2.2.1 X.2.2.2.2) 8 (kMg (kGL X.2.2.2.1.1 X.2.1 X.2.2.2.2) 8 (kD2 X.2.2.2.1.1 (kLf X.2.2.2.1.1 X.2.1 X.2.2.1) (kMxs (fun x9 => knum X.1 X.2.1 X.2.2.1 X.2.2.2.1 X.2.2.2.2 x9) (kMix 3527 (nI T.2.2.2.2.2.2.2.2.2.2.1)) 14) 9) X.2.1.2.2.2.2.2) X.2.2.1.2.2.2.2.2)), (0, .ref (ra 0)), (3, .int (nI (9 + 1)))]) hx hb dX5_digest_87 rfl hl (by decide) rfl (fun ls hl => ?_)
          refine lv_aload_n hx hb dX5_digest_88 rfl (lv_at hl 1 rfl) ?_
          refine lv_aload_n hx hb dX5_digest_89 rfl (lv_at hl 1 rfl) ?_
          refine va_get (D := D) (ci := 5) (v := .ref (ra 1)) (C := RX5) (T := TX5) (N := 16) hx hb hts (by decide +kernel) hown hK hP 0 rfl rfl 0 (by decide) (hts (.fieldLink RX5 7 "DanceHallModel" "all" "[I") (by decide +kernel)) (fun _ h9 => h9) rfl dX5_digest_90 ?_
          refine lv_iconst (v := nI 2) hx hb dX5_digest_93 (by decide) ?_
          refine va_iald hx hb hK hP 1 0 rfl rfl (vp_in_nI (n := 2) (N := 188) (by omega) (by omega)) dX5_digest_94 ?_
          refine kv_i (y := nI X.1.1) (show ((kEn X)) (nI 2).toNatClampNeg = nI X.1.1 from rfl) ?_
          refine kc_i (Cs := [mW cy ra (kEn X, (T.1, T.2.1, T.2.2.1, (nI 0), e5_84, e6_84, e7_84, T.2.2.2.2.2.2.2))]) (Rs := []) (Bs := [mW cy ra (kEn X, (T.1, T.2.1, T.2.2.1, (nI 0), e5_84, e6_84, e7_84, T.2.2.2.2.2.2.2))]) (Cs' := fun u_ : Unit => [mW cy ra (kEn X, (T.1, T.2.1, T.2.2.1, (nI 0), kLft e5_84 X, kLnt X, kCan X, (kVv (kMX X)), kFX X (2 * min X.1.1 (X.1.2.1 / 2)), T.2.2.2.2.2.2.2.2.2))]) (Fs := fun u_ : Unit => [mW cy ra (kEn X, (T.1, T.2.1, T.2.2.1, (nI 0), kLft e5_84 X, kLnt X, kCan X, (kVv (kMX X)), kFX X (2 * min X.1.1 (X.1.2.1 / 2)), T.2.2.2.2.2.2.2.2.2))]) hP hD hS hA [0] [] [0] rfl rfl (by decide) (by decide) (fun _ => rfl) (va_runV (As := [.int (nI X.1.1)]) (rest := []) ⟨hx, hb, hml, hown, hts⟩ (c_X5_chooses l D cy ra X (T.1, T.2.1, T.2.2.1, (nI 0), e5_84, e6_84, e7_84, T.2.2.2.2.2.2.2) X.1.1 hk hoc.1 hoc.2.1 H.size) (cwV 1 hts gX5_digest_X5_chooses rfl rfl rfl (by decide +kernel) ⟨Nat.le_of_ble_eq_true rfl, Nat.le_of_ble_eq_true rfl⟩) (kPre_V (ci := 5) hK hN hP hD [0] (by decide) rfl 0 rfl rfl) rfl rfl hl.1 rfl (lv_room (Nat.le_of_ble_eq_true rfl)) dX5_digest_95 ⟨Nat.le_of_ble_eq_true rfl, Nat.le_of_ble_eq_true rfl⟩) (fun r_ u_ H locs hw hP hD hS => ?_)
          have hw : r_ = nI (kCX X (2 * min X.1.1 (X.1.2.1 / 2))) := hw
          subst hw
          refine kv_i (y := nI (kCX X (kro X.1))) rfl ?_
          rw [show 2 * min X.1.1 (X.1.2.1 / 2) = kro X.1 from rfl] at hP hD
          obtain ⟨fo9, hfo⟩ : ∃ fo9, fo9 = kFX X (kro X.1) := ⟨_, rfl⟩
          rw [← hfo] at hP hD
          have hP : va_P D vwCl (bkF [mW cy ra (kEn X, (T.1, T.2.1, T.2.2.1, (nI 0), kLft e5_84 X, kLnt X, kCan X, (kVv (kMX X)), fo9, T.2.2.2.2.2.2.2.2.2))]) H := hP
          have hD : va_D A (bkF [mW cy ra (kEn X, (T.1, T.2.1, T.2.2.1, (nI 0), kLft e5_84 X, kLnt X, kCan X, (kVv (kMX X)), fo9, T.2.2.2.2.2.2.2.2.2))]) := hD
          refine lv_istore_n (lv' := [(3, .int (nI (kCX X (kro X.1)))), (1, .long (kMg (kGO X.2.2.2.1.1 X.2.1 X.2.2.1 X.2.2.2.2) 8 (kMg (kGL X.2.2.2.1.1 X.2.1 X.2.2.2.2) 8 (kD2 X.2.2.2.1.1 (kLf X.2.2.2.1.1 X.2.1 X.2.2.1) (kMxs (fun x9 => knum X.1 X.2.1 X.2.2.1 X.2.2.2.1 X.2.2.2.2 x9) (kMix 3527 (nI T.2.2.2.2.2.2.2.2.2.2.1)) 14) 9) X.2.1.2.2.2.2.2) X.2.2.1.2.2.2.2.2)), (0, .ref (ra 0))]) hx hb dX5_digest_98 rfl hl (by decide) rfl (fun ls hl => ?_)
          refine lv_iconst (v := nI 0) hx hb dX5_digest_99 (by decide) ?_
          refine lv_istore (lv' := [(4, .int (nI 0)), (3, .int (nI (kCX X (kro X.1)))), (1, .long (kMg (kGO X.2.2.2.1.1 X.2.1 X.2.2.1 X.2.2.2.2) 8 (kMg (kGL X.2.2.2.1.1 X.2.1 X.2.2.2.2) 8 (kD2 X.2.2.2.1.1 (kLf X.2.2.2.1.1 X.2.1 X.2.2.1) (kMxs (fun x9 => knum X.1 X.2.1 X.2.2.1 X.2.2.2.1 X.2.2.2.2 x9) (kMix 3527 (nI T.2.2.2.2.2.2.2.2.2.2.1)) 14) 9) X.2.1.2.2.2.2.2) X.2.2.1.2.2.2.2.2)), (0, .ref (ra 0))]) hx hb dX5_digest_100 hl (by decide) rfl (fun ls hl => ?_)
          have L_102 : ∀ (n9 : Nat) (i : Nat), X.2.1.2.2.2.2.2 - i = n9 → (i ≤ X.2.1.2.2.2.2.2) → ∀ (ls : Array Slot) (H : Heap) (locs : List Loc), va_P D vwCl (bkF [mW cy ra (kEn X, (T.1, T.2.1, T.2.2.1, (nI 0), kLft e5_84 X, kLnt X, kCan X, (kVv (kMX X)), fo9, T.2.2.2.2.2.2.2.2.2))]) H → va_D A (bkF [mW cy ra (kEn X, (T.1, T.2.1, T.2.2.1, (nI 0), kLft e5_84 X, kLnt X, kCan X, (kVv (kMX X)), fo9, T.2.2.2.2.2.2.2.2.2))]) → va_S A s.heap H locs → lv_has ls 6 [(0, .ref (ra 0)), (3, .int (nI (kCX X (kro X.1)))), (4, .int (nI i)), (1, .long (kMb X.2.2.2.2 (kFX X (kro X.1)) X.2.2.1.2.2.2.2.2 (kMg (kGO X.2.2.2.1.1 X.2.1 X.2.2.1 X.2.2.2.2) 8 (kMg (kGL X.2.2.2.1.1 X.2.1 X.2.2.2.2) 8 (kD2 X.2.2.2.1.1 (kLf X.2.2.2.1.1 X.2.1 X.2.2.1) (kMxs (fun x9 => knum X.1 X.2.1 X.2.2.1 X.2.2.2.1 X.2.2.2.2 x9) (kMix 3527 (nI T.2.2.2.2.2.2.2.2.2.2.1)) 14) 9) X.2.1.2.2.2.2.2) X.2.2.1.2.2.2.2.2) i))] → W p l e (headSpec wsX5_digest rm_X5_digest).room s m args below meth c H locs 0 0 Q (F0 m 102 ls []) := by
            intro n9
            induction n9 using Nat.strongRecOn with
            | _ n9 ih_102 =>
            intro i hm_102 h102_0 ls H locs hP hD hS hl
            refine lv_iload hx hb dX5_digest_102 (lv_at hl 2 rfl) ?_
            refine lv_aload_n hx hb dX5_digest_104 rfl (lv_at hl 0 rfl) ?_
            refine va_get (D := D) (ci := 5) (v := .ref (ra 1)) (C := RX5) (T := TX5) (N := 16) hx hb hts (by decide +kernel) hown hK hP 0 rfl rfl 0 (by decide) (hts (.fieldLink RX5 7 "DanceHallModel" "all" "[I") (by decide +kernel)) (fun _ h9 => h9) rfl dX5_digest_105 ?_
            refine lv_iconst (v := nI 0) hx hb dX5_digest_108 (by decide) ?_
            refine va_iald hx hb hK hP 1 0 rfl rfl (vp_in_nI (n := 0) (N := 188) (by omega) (by omega)) dX5_digest_109 ?_
            refine kv_i (y := nI X.2.1.2.2.2.2.2) (show ((kEn X)) (nI 0).toNatClampNeg = nI X.2.1.2.2.2.2.2 from rfl) ?_
            refine lv_icmp_ge (tgt := 186) hx hb dX5_digest_110 (by decide) (fun c_110 => ?_) (fun c_110 => ?_)
            · skip
              have c_110 : X.2.1.2.2.2.2.2 ≤ i := (nI_leI (a := X.2.1.2.2.2.2.2) (b := i) (by omega) (by omega)).mp c_110
              obtain rfl : i = X.2.1.2.2.2.2.2 := (by omega)
              refine lv_iconst (v := nI 0) hx hb dX5_digest_186 (by decide) ?_
              refine lv_istore (lv' := [(4, .int (nI 0)), (0, .ref (ra 0)), (3, .int (nI (kCX X (kro X.1)))), (1, .long (kMb X.2.2.2.2 (kFX X (kro X.1)) X.2.2.1.2.2.2.2.2 (kMg (kGO X.2.2.2.1.1 X.2.1 X.2.2.1 X.2.2.2.2) 8 (kMg (kGL X.2.2.2.1.1 X.2.1 X.2.2.2.2) 8 (kD2 X.2.2.2.1.1 (kLf X.2.2.2.1.1 X.2.1 X.2.2.1) (kMxs (fun x9 => knum X.1 X.2.1 X.2.2.1 X.2.2.2.1 X.2.2.2.2 x9) (kMix 3527 (nI T.2.2.2.2.2.2.2.2.2.2.1)) 14) 9) X.2.1.2.2.2.2.2) X.2.2.1.2.2.2.2.2) X.2.1.2.2.2.2.2))]) hx hb dX5_digest_187 hl (by decide) rfl (fun ls hl => ?_)
              have L_189 : ∀ (n9 : Nat) (k9 : Nat), 3 * X.1.2.2.2.1 - k9 = n9 → (k9 ≤ 3 * X.1.2.2.2.1) → ∀ (ls : Array Slot) (H : Heap) (locs : List Loc), va_P D vwCl (bkF [mW cy ra (kEn X, (T.1, T.2.1, T.2.2.1, (nI 0), kLft e5_84 X, kLnt X, kCan X, (kVv (kMX X)), fo9, T.2.2.2.2.2.2.2.2.2))]) H → va_D A (bkF [mW cy ra (kEn X, (T.1, T.2.1, T.2.2.1, (nI 0), kLft e5_84 X, kLnt X, kCan X, (kVv (kMX X)), fo9, T.2.2.2.2.2.2.2.2.2))]) → va_S A s.heap H locs → lv_has ls 6 [(0, .ref (ra 0)), (4, .int (nI k9)), (1, .long (kFk (fun x8 x9 => kff X.1 X.2.2.2.1 x8 x9) (kMb X.2.2.2.2 (kFX X (kro X.1)) X.2.2.1.2.2.2.2.2 (kMg (kGO X.2.2.2.1.1 X.2.1 X.2.2.1 X.2.2.2.2) 8 (kMg (kGL X.2.2.2.1.1 X.2.1 X.2.2.2.2) 8 (kD2 X.2.2.2.1.1 (kLf X.2.2.2.1.1 X.2.1 X.2.2.1) (kMxs (fun x9 => knum X.1 X.2.1 X.2.2.1 X.2.2.2.1 X.2.2.2.2 x9) (kMix 3527 (nI T.2.2.2.2.2.2.2.2.2.2.1)) 14) 9) X.2.1.2.2.2.2.2) X.2.2.1.2.2.2.2.2) X.2.1.2.2.2.2.2) k9))] → W p l e (headSpec wsX5_digest rm_X5_digest).room s m args below meth c H locs 0 0 Q (F0 m 189 ls []) := by
                intro n9
                induction n9 using Nat.strongRecOn with
                | _ n9 ih_189 =>
                intro k9 hm_189 h189_0 ls H locs hP hD hS hl
                refine lv_iload hx hb dX5_digest_189 (lv_at hl 1 rfl) ?_
                refine lv_iconst (v := nI 3) hx hb dX5_digest_191 (by decide) ?_
                refine lv_aload_n hx hb dX5_digest_192 rfl (lv_at hl 0 rfl) ?_
                refine va_get (D := D) (ci := 5) (v := .ref (ra 1)) (C := RX5) (T := TX5) (N := 16) hx hb hts (by decide +kernel) hown hK hP 0 rfl rfl 0 (by decide) (hts (.fieldLink RX5 7 "DanceHallModel" "all" "[I") (by decide +kernel)) (fun _ h9 => h9) rfl dX5_digest_193 ?_
                refine lv_bipush (v := nI 8) hx hb dX5_digest_196 (by decide) ?_
                refine va_iald hx hb hK hP 1 0 rfl rfl (vp_in_nI (n := 8) (N := 188) (by omega) (by omega)) dX5_digest_198 ?_
                refine kv_i (y := nI X.1.2.2.2.1) (show ((kEn X)) (nI 8).toNatClampNeg = nI X.1.2.2.2.1 from rfl) ?_
                refine lv_imul hx hb dX5_digest_199 ?_
                refine kv_i (y := nI (3 * X.1.2.2.2.1)) (pk_mul 3 X.1.2.2.2.1) ?_
                refine lv_icmp_ge (tgt := 229) hx hb dX5_digest_200 (by decide) (fun c_200 => ?_) (fun c_200 => ?_)
                · skip
                  have c_200 : (3 * X.1.2.2.2.1) ≤ k9 := (nI_leI (a := 3 * X.1.2.2.2.1) (b := k9) (by omega) (by omega)).mp c_200
                  obtain rfl : k9 = (3 * X.1.2.2.2.1) := (by omega)
                  have hl : lv_has ls 6 [(0, .ref (ra 0)), (4, .int (nI (3 * X.1.2.2.2.1))), (1, .long (kMg (fun x8 x9 => kff X.1 X.2.2.2.1 x8 x9) 3 (kMb X.2.2.2.2 (kFX X (kro X.1)) X.2.2.1.2.2.2.2.2 (kMg (kGO X.2.2.2.1.1 X.2.1 X.2.2.1 X.2.2.2.2) 8 (kMg (kGL X.2.2.2.1.1 X.2.1 X.2.2.2.2) 8 (kD2 X.2.2.2.1.1 (kLf X.2.2.2.1.1 X.2.1 X.2.2.1) (kMxs (fun x9 => knum X.1 X.2.1 X.2.2.1 X.2.2.2.1 X.2.2.2.2 x9) (kMix 3527 (nI T.2.2.2.2.2.2.2.2.2.2.1)) 14) 9) X.2.1.2.2.2.2.2) X.2.2.1.2.2.2.2.2) X.2.1.2.2.2.2.2) X.1.2.2.2.1))] := by rw [← kFk_e (fun x8 x9 => kff X.1 X.2.2.2.1 x8 x9) (kMb X.2.2.2.2 (kFX X (kro X.1)) X.2.2.1.2.2.2.2.2 (kMg (kGO X.2.2.2.1.1 X.2.1 X.2.2.1 X.2.2.2.2) 8 (kMg (kGL X.2.2.2.1.1 X.2.1 X.2.2.2.2) 8 (kD2 X.2.2.2.1.1 (kLf X.2.2.2.1.1 X.2.1 X.2.2.1) (kMxs (fun x9 => knum X.1 X.2.1 X.2.2.1 X.2.2.2.1 X.2.2.2.2 x9) (kMix 3527 (nI T.2.2.2.2.2.2.2.2.2.2.1)) 14) 9) X.2.1.2.2.2.2.2) X.2.2.1.2.2.2.2.2) X.2.1.2.2.2.2.2) X.1.2.2.2.1]; exact hl
                  refine lv_ldc2 hx hb hown (hts (.constantLong RX5 204 (31)) (by decide +kernel)) dX5_digest_229 ?_
                  refine lv_lload_n hx hb dX5_digest_232 rfl (lv_at hl 2 rfl) ?_
                  refine lv_lmul hx hb dX5_digest_233 ?_
                  refine lv_aload_n hx hb dX5_digest_234 rfl (lv_at hl 0 rfl) ?_
                  refine va_get (D := D) (ci := 5) (v := .int (nI T.2.2.1)) (C := RX5) (T := TX5) (N := 16) hx hb hts (by decide +kernel) hown hK hP 0 rfl rfl 3 (by decide) (hts (.fieldLink RX5 48 "DanceHallModel" "savedMany" "I") (by decide +kernel)) (fun _ h9 => h9) rfl dX5_digest_235 ?_
                  refine lv_i2l (v := (nI T.2.2.1).toInt64) hx hb dX5_digest_238 rfl ?_
                  refine lv_ladd hx hb dX5_digest_239 ?_
                  exact kr_l (post := fun r_ (u_ : (Nat → Int32) × (Nat → Int32) × (Nat → Int32) × (Nat → Int32) × (Nat → Int32)) => r_ = kDgst T.2.2.2.2.2.2.2.2.2.2.1 T.2.2.1 X.1 X.2.1 X.2.2.1 X.2.2.2.1 X.2.2.2.2) (Bs := fun u_ : (Nat → Int32) × (Nat → Int32) × (Nat → Int32) × (Nat → Int32) × (Nat → Int32) => [mW cy ra (kEn X, (T.1, T.2.1, T.2.2.1, nI 0, u_.1, u_.2.1, u_.2.2.1, u_.2.2.2.1, u_.2.2.2.2, T.2.2.2.2.2.2.2.2.2))]) hx hb hr hlocks (kLft e5_84 X, kLnt X, kCan X, (kVv (kMX X)), fo9) hP hK hD hS rfl dX5_digest_240 hQ
                · skip
                  have c_200 : ¬ ((3 * X.1.2.2.2.1) ≤ k9) := fun h => c_200 ((nI_leI (a := 3 * X.1.2.2.2.1) (b := k9) (by omega) (by omega)).mpr h)
                  refine lv_ldc2 hx hb hown (hts (.constantLong RX5 204 (31)) (by decide +kernel)) dX5_digest_203 ?_
                  refine lv_lload_n hx hb dX5_digest_206 rfl (lv_at hl 2 rfl) ?_
                  refine lv_lmul hx hb dX5_digest_207 ?_
                  refine lv_aload_n hx hb dX5_digest_208 rfl (lv_at hl 0 rfl) ?_
                  refine lv_iload hx hb dX5_digest_209 (lv_at hl 1 rfl) ?_
                  refine lv_iconst (v := nI 3) hx hb dX5_digest_211 (by decide) ?_
                  refine lv_idiv hx hb dX5_digest_212 (by decide) ?_
                  refine kv_i (y := nI (k9 / 3)) (pk_div (by omega) (by omega) (by omega)) ?_
                  refine lv_iload hx hb dX5_digest_213 (lv_at hl 1 rfl) ?_
                  refine lv_iconst (v := nI 3) hx hb dX5_digest_215 (by decide) ?_
                  refine lv_irem hx hb dX5_digest_216 (by decide) ?_
                  refine kv_i (y := nI (k9 % 3)) (kmod3 (by omega)) ?_
                  refine kc_i (Cs := [mW cy ra (kEn X, (T.1, T.2.1, T.2.2.1, (nI 0), kLft e5_84 X, kLnt X, kCan X, (kVv (kMX X)), fo9, T.2.2.2.2.2.2.2.2.2))]) (Rs := []) (Bs := [mW cy ra (kEn X, (T.1, T.2.1, T.2.2.1, (nI 0), kLft e5_84 X, kLnt X, kCan X, (kVv (kMX X)), fo9, T.2.2.2.2.2.2.2.2.2))]) (Cs' := fun u_ : Unit => [mW cy ra (kEn X, (T.1, T.2.1, T.2.2.1, (nI 0), kLft e5_84 X, kLnt X, kCan X, (kVv (kMX X)), fo9, T.2.2.2.2.2.2.2.2.2))]) (Fs := fun u_ : Unit => [mW cy ra (kEn X, (T.1, T.2.1, T.2.2.1, (nI 0), kLft e5_84 X, kLnt X, kCan X, (kVv (kMX X)), fo9, T.2.2.2.2.2.2.2.2.2))]) hP hD hS hA [0] [] [0] rfl rfl (by decide) (by decide) (fun _ => rfl) (va_runV (As := [.int (nI (k9 / 3)), .int (nI (k9 % 3))]) (rest := [.long ((31) * (kFk (fun x8 x9 => kff X.1 X.2.2.2.1 x8 x9) (kMb X.2.2.2.2 (kFX X (kro X.1)) X.2.2.1.2.2.2.2.2 (kMg (kGO X.2.2.2.1.1 X.2.1 X.2.2.1 X.2.2.2.2) 8 (kMg (kGL X.2.2.2.1.1 X.2.1 X.2.2.2.2) 8 (kD2 X.2.2.2.1.1 (kLf X.2.2.2.1.1 X.2.1 X.2.2.1) (kMxs (fun x9 => knum X.1 X.2.1 X.2.2.1 X.2.2.2.1 X.2.2.2.2 x9) (kMix 3527 (nI T.2.2.2.2.2.2.2.2.2.2.1)) 14) 9) X.2.1.2.2.2.2.2) X.2.2.1.2.2.2.2.2) X.2.1.2.2.2.2.2) k9))]) ⟨hx, hb, hml, hown, hts⟩ (c_X5_fiddlerOf l D cy ra X (T.1, T.2.1, T.2.2.1, (nI 0), kLft e5_84 X, kLnt X, kCan X, (kVv (kMX X)), fo9, T.2.2.2.2.2.2.2.2.2) (k9 / 3) (k9 % 3) (by first | assumption | omega | decide) (by first | assumption | omega | decide) (by first | assumption | omega | decide) (by first | assumption | omega | decide) (by first | assumption | omega | decide) H.size) (cwV 2 hts gX5_digest_X5_fiddlerOf rfl rfl rfl (by decide +kernel) ⟨Nat.le_of_ble_eq_true rfl, Nat.le_of_ble_eq_true rfl⟩) (kPre_V (ci := 5) hK hN hP hD [0] (by decide) rfl 0 rfl rfl) rfl rfl hl.1 rfl (lv_room (Nat.le_of_ble_eq_true rfl)) dX5_digest_217 ⟨Nat.le_of_ble_eq_true rfl, Nat.le_of_ble_eq_true rfl⟩) (fun r_ u_ H locs hw hP hD hS => ?_)
                  have hw : r_ = kff X.1 X.2.2.2.1 (k9 / 3) (k9 % 3) := hw
                  subst hw
                  refine lv_i2l (v := (kff X.1 X.2.2.2.1 (k9 / 3) (k9 % 3)).toInt64) hx hb dX5_digest_220 rfl ?_
                  refine lv_ladd hx hb dX5_digest_221 ?_
                  refine kv_l (y := kFk (fun x8 x9 => kff X.1 X.2.2.2.1 x8 x9) (kMb X.2.2.2.2 (kFX X (kro X.1)) X.2.2.1.2.2.2.2.2 (kMg (kGO X.2.2.2.1.1 X.2.1 X.2.2.1 X.2.2.2.2) 8 (kMg (kGL X.2.2.2.1.1 X.2.1 X.2.2.2.2) 8 (kD2 X.2.2.2.1.1 (kLf X.2.2.2.1.1 X.2.1 X.2.2.1) (kMxs (fun x9 => knum X.1 X.2.1 X.2.2.1 X.2.2.2.1 X.2.2.2.2 x9) (kMix 3527 (nI T.2.2.2.2.2.2.2.2.2.2.1)) 14) 9) X.2.1.2.2.2.2.2) X.2.2.1.2.2.2.2.2) X.2.1.2.2.2.2.2) (k9 + 1)) (kFk_s (fun x8 x9 => kff X.1 X.2.2.2.1 x8 x9) (kMb X.2.2.2.2 (kFX X (kro X.1)) X.2.2.1.2.2.2.2.2 (kMg (kGO X.2.2.2.1.1 X.2.1 X.2.2.1 X.2.2.2.2) 8 (kMg (kGL X.2.2.2.1.1 X.2.1 X.2.2.2.2) 8 (kD2 X.2.2.2.1.1 (kLf X.2.2.2.1.1 X.2.1 X.2.2.1) (kMxs (fun x9 => knum X.1 X.2.1 X.2.2.1 X.2.2.2.1 X.2.2.2.2 x9) (kMix 3527 (nI T.2.2.2.2.2.2.2.2.2.2.1)) 14) 9) X.2.1.2.2.2.2.2) X.2.2.1.2.2.2.2.2) X.2.1.2.2.2.2.2) k9) ?_
                  refine lv_lstore_n (lv' := [(1, .long (kFk (fun x8 x9 => kff X.1 X.2.2.2.1 x8 x9) (kMb X.2.2.2.2 (kFX X (kro X.1)) X.2.2.1.2.2.2.2.2 (kMg (kGO X.2.2.2.1.1 X.2.1 X.2.2.1 X.2.2.2.2) 8 (kMg (kGL X.2.2.2.1.1 X.2.1 X.2.2.2.2) 8 (kD2 X.2.2.2.1.1 (kLf X.2.2.2.1.1 X.2.1 X.2.2.1) (kMxs (fun x9 => knum X.1 X.2.1 X.2.2.1 X.2.2.2.1 X.2.2.2.2 x9) (kMix 3527 (nI T.2.2.2.2.2.2.2.2.2.2.1)) 14) 9) X.2.1.2.2.2.2.2) X.2.2.1.2.2.2.2.2) X.2.1.2.2.2.2.2) (k9 + 1))), (0, .ref (ra 0)), (4, .int (nI k9))]) hx hb dX5_digest_222 rfl hl (by decide) rfl (fun ls hl => ?_)
                  refine lv_iinc (v := nI (k9 + 1)) (lv' := [(4, .int (nI (k9 + 1))), (1, .long (kFk (fun x8 x9 => kff X.1 X.2.2.2.1 x8 x9) (kMb X.2.2.2.2 (kFX X (kro X.1)) X.2.2.1.2.2.2.2.2 (kMg (kGO X.2.2.2.1.1 X.2.1 X.2.2.1 X.2.2.2.2) 8 (kMg (kGL X.2.2.2.1.1 X.2.1 X.2.2.2.2) 8 (kD2 X.2.2.2.1.1 (kLf X.2.2.2.1.1 X.2.1 X.2.2.1) (kMxs (fun x9 => knum X.1 X.2.1 X.2.2.1 X.2.2.2.1 X.2.2.2.2 x9) (kMix 3527 (nI T.2.2.2.2.2.2.2.2.2.2.1)) 14) 9) X.2.1.2.2.2.2.2) X.2.2.1.2.2.2.2.2) X.2.1.2.2.2.2.2) (k9 + 1))), (0, .ref (ra 0))]) hx hb dX5_digest_223 hl (k := 2) rfl (nI_add k9 1) (by decide) rfl (fun ls hl => ?_)
                  refine lv_goto (tgt := 189) hx hb dX5_digest_226 (by decide) ?_
                  exact ih_189 _ (by omega) (k9 + 1) rfl (by omega) ls H locs hP hD hS (lv_sub hl [2, 0, 1] rfl)
              exact L_189 _ 0  rfl (by omega) ls H locs hP hD hS (lv_sub hl [1, 0, 3] rfl)
            · skip
              have c_110 : ¬ (X.2.1.2.2.2.2.2 ≤ i) := fun h => c_110 ((nI_leI (a := X.2.1.2.2.2.2.2) (b := i) (by omega) (by omega)).mpr h)
              refine lv_iconst (v := nI 0) hx hb dX5_digest_113 (by decide) ?_
              refine lv_istore (lv' := [(5, .int (nI 0)), (0, .ref (ra 0)), (3, .int (nI (kCX X (kro X.1)))), (4, .int (nI i)), (1, .long (kMb X.2.2.2.2 (kFX X (kro X.1)) X.2.2.1.2.2.2.2.2 (kMg (kGO X.2.2.2.1.1 X.2.1 X.2.2.1 X.2.2.2.2) 8 (kMg (kGL X.2.2.2.1.1 X.2.1 X.2.2.2.2) 8 (kD2 X.2.2.2.1.1 (kLf X.2.2.2.1.1 X.2.1 X.2.2.1) (kMxs (fun x9 => knum X.1 X.2.1 X.2.2.1 X.2.2.2.1 X.2.2.2.2 x9) (kMix 3527 (nI T.2.2.2.2.2.2.2.2.2.2.1)) 14) 9) X.2.1.2.2.2.2.2) X.2.2.1.2.2.2.2.2) i))]) hx hb dX5_digest_114 hl (by decide) rfl (fun ls hl => ?_)
              have L_116 : ∀ (n9 : Nat) (f8 : Nat), X.2.2.1.2.2.2.2.2 - f8 = n9 → (f8 ≤ X.2.2.1.2.2.2.2.2) → ∀ (ls : Array Slot) (H : Heap) (locs : List Loc), va_P D vwCl (bkF [mW cy ra (kEn X, (T.1, T.2.1, T.2.2.1, (nI 0), kLft e5_84 X, kLnt X, kCan X, (kVv (kMX X)), fo9, T.2.2.2.2.2.2.2.2.2))]) H → va_D A (bkF [mW cy ra (kEn X, (T.1, T.2.1, T.2.2.1, (nI 0), kLft e5_84 X, kLnt X, kCan X, (kVv (kMX X)), fo9, T.2.2.2.2.2.2.2.2.2))]) → va_S A s.heap H locs → lv_has ls 6 [(0, .ref (ra 0)), (3, .int (nI (kCX X (kro X.1)))), (4, .int (nI i)), (5, .int (nI f8)), (1, .long (kMxs (X.2.2.2.2 i) (kMb X.2.2.2.2 (kFX X (kro X.1)) X.2.2.1.2.2.2.2.2 (kMg (kGO X.2.2.2.1.1 X.2.1 X.2.2.1 X.2.2.2.2) 8 (kMg (kGL X.2.2.2.1.1 X.2.1 X.2.2.2.2) 8 (kD2 X.2.2.2.1.1 (kLf X.2.2.2.1.1 X.2.1 X.2.2.1) (kMxs (fun x9 => knum X.1 X.2.1 X.2.2.1 X.2.2.2.1 X.2.2.2.2 x9) (kMix 3527 (nI T.2.2.2.2.2.2.2.2.2.2.1)) 14) 9) X.2.1.2.2.2.2.2) X.2.2.1.2.2.2.2.2) i) f8))] → W p l e (headSpec wsX5_digest rm_X5_digest).room s m args below meth c H locs 0 0 Q (F0 m 116 ls []) := by
                intro n9
                induction n9 using Nat.strongRecOn with
                | _ n9 ih_116 =>
                intro f8 hm_116 h116_0 ls H locs hP hD hS hl
                refine lv_iload hx hb dX5_digest_116 (lv_at hl 3 rfl) ?_
                refine lv_aload_n hx hb dX5_digest_118 rfl (lv_at hl 0 rfl) ?_
                refine va_get (D := D) (ci := 5) (v := .ref (ra 1)) (C := RX5) (T := TX5) (N := 16) hx hb hts (by decide +kernel) hown hK hP 0 rfl rfl 0 (by decide) (hts (.fieldLink RX5 7 "DanceHallModel" "all" "[I") (by decide +kernel)) (fun _ h9 => h9) rfl dX5_digest_119 ?_
                refine lv_iconst (v := nI 1) hx hb dX5_digest_122 (by decide) ?_
                refine va_iald hx hb hK hP 1 0 rfl rfl (vp_in_nI (n := 1) (N := 188) (by omega) (by omega)) dX5_digest_123 ?_
                refine kv_i (y := nI X.2.2.1.2.2.2.2.2) (show ((kEn X)) (nI 1).toNatClampNeg = nI X.2.2.1.2.2.2.2.2 from rfl) ?_
                refine lv_icmp_ge (tgt := 157) hx hb dX5_digest_124 (by decide) (fun c_124 => ?_) (fun c_124 => ?_)
                · skip
                  have c_124 : X.2.2.1.2.2.2.2.2 ≤ f8 := (nI_leI (a := X.2.2.1.2.2.2.2.2) (b := f8) (by omega) (by omega)).mp c_124
                  obtain rfl : f8 = X.2.2.1.2.2.2.2.2 := (by omega)
                  refine lv_ldc2 hx hb hown (hts (.constantLong RX5 204 (31)) (by decide +kernel)) dX5_digest_157 ?_
                  refine lv_lload_n hx hb dX5_digest_160 rfl (lv_at hl 4 rfl) ?_
                  refine lv_lmul hx hb dX5_digest_161 ?_
                  refine lv_iload_n hx hb dX5_digest_162 rfl (lv_at hl 1 rfl) ?_
                  have hc8 : kCX X (kro X.1) ≤ 8 := kCx_le _ _ _ _ _
                  refine lv_if_le (tgt := 176) hx hb dX5_digest_163 (by decide) (fun c_163 => ?_) (fun c_163 => ?_)
                  · skip
                    have c_163 : (kCX X (kro X.1)) ≤ 0 := (nI_leI (a := kCX X (kro X.1)) (b := 0) (by omega) (by omega)).mp c_163
                    refine lv_iconst (v := (-1 : Int32)) hx hb dX5_digest_176 (by decide) ?_
                    refine lv_i2l (v := (-1).toInt64) hx hb dX5_digest_177 rfl ?_
                    refine lv_ladd hx hb dX5_digest_178 ?_
                    refine kv_l (y := kMb X.2.2.2.2 (kFX X (kro X.1)) X.2.2.1.2.2.2.2.2 (kMg (kGO X.2.2.2.1.1 X.2.1 X.2.2.1 X.2.2.2.2) 8 (kMg (kGL X.2.2.2.1.1 X.2.1 X.2.2.2.2) 8 (kD2 X.2.2.2.1.1 (kLf X.2.2.2.1.1 X.2.1 X.2.2.1) (kMxs (fun x9 => knum X.1 X.2.1 X.2.2.1 X.2.2.2.1 X.2.2.2.2 x9) (kMix 3527 (nI T.2.2.2.2.2.2.2.2.2.2.1)) 14) 9) X.2.1.2.2.2.2.2) X.2.2.1.2.2.2.2.2) (i + 1)) (by have e9 := kFX_0 (i := i) c_163 (by omega); show _ + ((-1 : Int32)).toInt64 = _; rw [← e9]; rfl) ?_
                    refine lv_lstore_n (lv' := [(1, .long (kMb X.2.2.2.2 (kFX X (kro X.1)) X.2.2.1.2.2.2.2.2 (kMg (kGO X.2.2.2.1.1 X.2.1 X.2.2.1 X.2.2.2.2) 8 (kMg (kGL X.2.2.2.1.1 X.2.1 X.2.2.2.2) 8 (kD2 X.2.2.2.1.1 (kLf X.2.2.2.1.1 X.2.1 X.2.2.1) (kMxs (fun x9 => knum X.1 X.2.1 X.2.2.1 X.2.2.2.1 X.2.2.2.2 x9) (kMix 3527 (nI T.2.2.2.2.2.2.2.2.2.2.1)) 14) 9) X.2.1.2.2.2.2.2) X.2.2.1.2.2.2.2.2) (i + 1))), (0, .ref (ra 0)), (3, .int (nI (kCX X (kro X.1)))), (4, .int (nI i)), (5, .int (nI X.2.2.1.2.2.2.2.2))]) hx hb dX5_digest_179 rfl hl (by decide) rfl (fun ls hl => ?_)
                    refine lv_iinc (v := nI (i + 1)) (lv' := [(4, .int (nI (i + 1))), (1, .long (kMb X.2.2.2.2 (kFX X (kro X.1)) X.2.2.1.2.2.2.2.2 (kMg (kGO X.2.2.2.1.1 X.2.1 X.2.2.1 X.2.2.2.2) 8 (kMg (kGL X.2.2.2.1.1 X.2.1 X.2.2.2.2) 8 (kD2 X.2.2.2.1.1 (kLf X.2.2.2.1.1 X.2.1 X.2.2.1) (kMxs (fun x9 => knum X.1 X.2.1 X.2.2.1 X.2.2.2.1 X.2.2.2.2 x9) (kMix 3527 (nI T.2.2.2.2.2.2.2.2.2.2.1)) 14) 9) X.2.1.2.2.2.2.2) X.2.2.1.2.2.2.2.2) (i + 1))), (0, .ref (ra 0)), (3, .int (nI (kCX X (kro X.1)))), (5, .int (nI X.2.2.1.2.2.2.2.2))]) hx hb dX5_digest_180 hl (k := 3) rfl (nI_add i 1) (by decide) rfl (fun ls hl => ?_)
                    refine lv_goto (tgt := 102) hx hb dX5_digest_183 (by decide) ?_
                    exact ih_102 _ (by omega) (i + 1) rfl (by omega) ls H locs hP hD hS (lv_sub hl [2, 3, 0, 1] rfl)
                  · skip
                    have c_163 : ¬ ((kCX X (kro X.1)) ≤ 0) := fun h => c_163 ((nI_leI (a := kCX X (kro X.1)) (b := 0) (by omega) (by omega)).mpr h)
                    refine lv_aload_n hx hb dX5_digest_166 rfl (lv_at hl 0 rfl) ?_
                    refine va_get (D := D) (ci := 5) (v := .ref (ra 8)) (C := RX5) (T := TX5) (N := 16) hx hb hts (by decide +kernel) hown hK hP 0 rfl rfl 9 (by decide) (hts (.fieldLink RX5 32 "DanceHallModel" "chosen" "[I") (by decide +kernel)) (fun _ h9 => h9) rfl dX5_digest_167 ?_
                    refine lv_iload hx hb dX5_digest_170 (lv_at hl 2 rfl) ?_
                    refine va_iald hx hb hK hP 8 0 rfl rfl (vp_in_nI (n := i) (N := 8) (by omega) (by omega)) dX5_digest_172 ?_
                    refine kv_i (y := kFX X (kro X.1) i) (by rw [nI_clamp (n := i) (by omega)]; exact (congrFun hfo i)) ?_
                    refine lv_goto (tgt := 177) hx hb dX5_digest_173 (by decide) ?_
                    refine lv_i2l (v := (kFX X (kro X.1) i).toInt64) hx hb dX5_digest_177 rfl ?_
                    refine lv_ladd hx hb dX5_digest_178 ?_
                    refine kv_l (y := kMb X.2.2.2.2 (kFX X (kro X.1)) X.2.2.1.2.2.2.2.2 (kMg (kGO X.2.2.2.1.1 X.2.1 X.2.2.1 X.2.2.2.2) 8 (kMg (kGL X.2.2.2.1.1 X.2.1 X.2.2.2.2) 8 (kD2 X.2.2.2.1.1 (kLf X.2.2.2.1.1 X.2.1 X.2.2.1) (kMxs (fun x9 => knum X.1 X.2.1 X.2.2.1 X.2.2.2.1 X.2.2.2.2 x9) (kMix 3527 (nI T.2.2.2.2.2.2.2.2.2.2.1)) 14) 9) X.2.1.2.2.2.2.2) X.2.2.1.2.2.2.2.2) (i + 1)) rfl ?_
                    refine lv_lstore_n (lv' := [(1, .long (kMb X.2.2.2.2 (kFX X (kro X.1)) X.2.2.1.2.2.2.2.2 (kMg (kGO X.2.2.2.1.1 X.2.1 X.2.2.1 X.2.2.2.2) 8 (kMg (kGL X.2.2.2.1.1 X.2.1 X.2.2.2.2) 8 (kD2 X.2.2.2.1.1 (kLf X.2.2.2.1.1 X.2.1 X.2.2.1) (kMxs (fun x9 => knum X.1 X.2.1 X.2.2.1 X.2.2.2.1 X.2.2.2.2 x9) (kMix 3527 (nI T.2.2.2.2.2.2.2.2.2.2.1)) 14) 9) X.2.1.2.2.2.2.2) X.2.2.1.2.2.2.2.2) (i + 1))), (0, .ref (ra 0)), (3, .int (nI (kCX X (kro X.1)))), (4, .int (nI i)), (5, .int (nI X.2.2.1.2.2.2.2.2))]) hx hb dX5_digest_179 rfl hl (by decide) rfl (fun ls hl => ?_)
                    refine lv_iinc (v := nI (i + 1)) (lv' := [(4, .int (nI (i + 1))), (1, .long (kMb X.2.2.2.2 (kFX X (kro X.1)) X.2.2.1.2.2.2.2.2 (kMg (kGO X.2.2.2.1.1 X.2.1 X.2.2.1 X.2.2.2.2) 8 (kMg (kGL X.2.2.2.1.1 X.2.1 X.2.2.2.2) 8 (kD2 X.2.2.2.1.1 (kLf X.2.2.2.1.1 X.2.1 X.2.2.1) (kMxs (fun x9 => knum X.1 X.2.1 X.2.2.1 X.2.2.2.1 X.2.2.2.2 x9) (kMix 3527 (nI T.2.2.2.2.2.2.2.2.2.2.1)) 14) 9) X.2.1.2.2.2.2.2) X.2.2.1.2.2.2.2.2) (i + 1))), (0, .ref (ra 0)), (3, .int (nI (kCX X (kro X.1)))), (5, .int (nI X.2.2.1.2.2.2.2.2))]) hx hb dX5_digest_180 hl (k := 3) rfl (nI_add i 1) (by decide) rfl (fun ls hl => ?_)
                    refine lv_goto (tgt := 102) hx hb dX5_digest_183 (by decide) ?_
                    exact ih_102 _ (by omega) (i + 1) rfl (by omega) ls H locs hP hD hS (lv_sub hl [2, 3, 0, 1] rfl)
                · skip
                  have c_124 : ¬ (X.2.2.1.2.2.2.2.2 ≤ f8) := fun h => c_124 ((nI_leI (a := X.2.2.1.2.2.2.2.2) (b := f8) (by omega) (by omega)).mpr h)
                  refine lv_ldc2 hx hb hown (hts (.constantLong RX5 204 (31)) (by decide +kernel)) dX5_digest_127 ?_
                  refine lv_lload_n hx hb dX5_digest_130 rfl (lv_at hl 4 rfl) ?_
                  refine lv_lmul hx hb dX5_digest_131 ?_
                  refine lv_aload_n hx hb dX5_digest_132 rfl (lv_at hl 0 rfl) ?_
                  refine va_get (D := D) (ci := 5) (v := .ref (ra 1)) (C := RX5) (T := TX5) (N := 16) hx hb hts (by decide +kernel) hown hK hP 0 rfl rfl 0 (by decide) (hts (.fieldLink RX5 7 "DanceHallModel" "all" "[I") (by decide +kernel)) (fun _ h9 => h9) rfl dX5_digest_133 ?_
                  refine lv_bipush (v := nI 28) hx hb dX5_digest_136 (by decide) ?_
                  refine lv_bipush (v := nI 8) hx hb dX5_digest_138 (by decide) ?_
                  refine lv_iload hx hb dX5_digest_140 (lv_at hl 2 rfl) ?_
                  refine lv_imul hx hb dX5_digest_142 ?_
                  refine kv_i (y := nI (8 * i)) (pk_mul 8 i) ?_
                  refine lv_iadd hx hb dX5_digest_143 ?_
                  refine kv_i (y := nI (28 + (8 * i))) (nI_add 28 (8 * i)) ?_
                  refine lv_iload hx hb dX5_digest_144 (lv_at hl 3 rfl) ?_
                  refine lv_iadd hx hb dX5_digest_146 ?_
                  refine kv_i (y := nI ((28 + (8 * i)) + f8)) (nI_add (28 + (8 * i)) f8) ?_
                  refine va_iald hx hb hK hP 1 0 rfl rfl (vp_in_nI (n := (28 + (8 * i)) + f8) (N := 188) (by omega) (by omega)) dX5_digest_147 ?_
                  refine kv_i (y := X.2.2.2.2 i f8) (by rw [nI_clamp (n := (28 + (8 * i)) + f8) (by omega)]; exact (kq_d (by omega) (by omega))) ?_
                  refine lv_i2l (v := (X.2.2.2.2 i f8).toInt64) hx hb dX5_digest_148 rfl ?_
                  refine lv_ladd hx hb dX5_digest_149 ?_
                  refine kv_l (y := kMxs (X.2.2.2.2 i) (kMb X.2.2.2.2 (kFX X (kro X.1)) X.2.2.1.2.2.2.2.2 (kMg (kGO X.2.2.2.1.1 X.2.1 X.2.2.1 X.2.2.2.2) 8 (kMg (kGL X.2.2.2.1.1 X.2.1 X.2.2.2.2) 8 (kD2 X.2.2.2.1.1 (kLf X.2.2.2.1.1 X.2.1 X.2.2.1) (kMxs (fun x9 => knum X.1 X.2.1 X.2.2.1 X.2.2.2.1 X.2.2.2.2 x9) (kMix 3527 (nI T.2.2.2.2.2.2.2.2.2.2.1)) 14) 9) X.2.1.2.2.2.2.2) X.2.2.1.2.2.2.2.2) i) (f8 + 1)) rfl ?_
                  refine lv_lstore_n (lv' := [(1, .long (kMxs (X.2.2.2.2 i) (kMb X.2.2.2.2 (kFX X (kro X.1)) X.2.2.1.2.2.2.2.2 (kMg (kGO X.2.2.2.1.1 X.2.1 X.2.2.1 X.2.2.2.2) 8 (kMg (kGL X.2.2.2.1.1 X.2.1 X.2.2.2.2) 8 (kD2 X.2.2.2.1.1 (kLf X.2.2.2.1.1 X.2.1 X.2.2.1) (kMxs (fun x9 => knum X.1 X.2.1 X.2.2.1 X.2.2.2.1 X.2.2.2.2 x9) (kMix 3527 (nI T.2.2.2.2.2.2.2.2.2.2.1)) 14) 9) X.2.1.2.2.2.2.2) X.2.2.1.2.2.2.2.2) i) (f8 + 1))), (0, .ref (ra 0)), (3, .int (nI (kCX X (kro X.1)))), (4, .int (nI i)), (5, .int (nI f8))]) hx hb dX5_digest_150 rfl hl (by decide) rfl (fun ls hl => ?_)
                  refine lv_iinc (v := nI (f8 + 1)) (lv' := [(5, .int (nI (f8 + 1))), (1, .long (kMxs (X.2.2.2.2 i) (kMb X.2.2.2.2 (kFX X (kro X.1)) X.2.2.1.2.2.2.2.2 (kMg (kGO X.2.2.2.1.1 X.2.1 X.2.2.1 X.2.2.2.2) 8 (kMg (kGL X.2.2.2.1.1 X.2.1 X.2.2.2.2) 8 (kD2 X.2.2.2.1.1 (kLf X.2.2.2.1.1 X.2.1 X.2.2.1) (kMxs (fun x9 => knum X.1 X.2.1 X.2.2.1 X.2.2.2.1 X.2.2.2.2 x9) (kMix 3527 (nI T.2.2.2.2.2.2.2.2.2.2.1)) 14) 9) X.2.1.2.2.2.2.2) X.2.2.1.2.2.2.2.2) i) (f8 + 1))), (0, .ref (ra 0)), (3, .int (nI (kCX X (kro X.1)))), (4, .int (nI i))]) hx hb dX5_digest_151 hl (k := 4) rfl (nI_add f8 1) (by decide) rfl (fun ls hl => ?_)
                  refine lv_goto (tgt := 116) hx hb dX5_digest_154 (by decide) ?_
                  exact ih_116 _ (by omega) (f8 + 1) rfl (by omega) ls H locs hP hD hS (lv_sub hl [2, 3, 4, 0, 1] rfl)
              exact L_116 _ 0  rfl (by omega) ls H locs hP hD hS (lv_sub hl [1, 2, 3, 0, 4] rfl)
          exact L_102 _ 0  rfl (by omega) ls H locs hP hD hS (lv_sub hl [3, 1, 0, 2] rfl)
        · skip
          have c_47 : ¬ (10 ≤ (z + 1)) := fun h => c_47 ((nI_leI (a := 10) (b := z + 1) (by omega) (by omega)).mpr h)
          refine lv_ldc2 hx hb hown (hts (.constantLong RX5 204 (31)) (by decide +kernel)) dX5_digest_50 ?_
          refine lv_ldc2 hx hb hown (hts (.constantLong RX5 204 (31)) (by decide +kernel)) dX5_digest_53 ?_
          refine lv_lload_n hx hb dX5_digest_56 rfl (lv_at hl 2 rfl) ?_
          refine lv_lmul hx hb dX5_digest_57 ?_
          refine lv_aload_n hx hb dX5_digest_58 rfl (lv_at hl 0 rfl) ?_
          refine lv_iload_n hx hb dX5_digest_59 rfl (lv_at hl 1 rfl) ?_
          refine lv_iconst (v := nI 0) hx hb dX5_digest_60 (by decide) ?_
          refine kc_i (Cs := [mW cy ra (kEn X, (T.1, T.2.1, T.2.2.1, nI 0, e5, e6, e7, T.2.2.2.2.2.2.2))]) (Rs := []) (Bs := [mW cy ra (kEn X, (T.1, T.2.1, T.2.2.1, nI 0, e5, e6, e7, T.2.2.2.2.2.2.2))]) (Cs' := fun u_ : (Nat → Int32) × (Nat → Int32) × (Nat → Int32) => [mW cy ra (kEn X, (T.1, T.2.1, T.2.2.1, (nI 0), u_.1, u_.2.1, u_.2.2, T.2.2.2.2.2.2.2))]) (Fs := fun u_ : (Nat → Int32) × (Nat → Int32) × (Nat → Int32) => [mW cy ra (kEn X, (T.1, T.2.1, T.2.2.1, (nI 0), u_.1, u_.2.1, u_.2.2, T.2.2.2.2.2.2.2))]) hP hD hS hA [0] [] [0] rfl rfl (by decide) (by decide) (fun _ => rfl) (va_runV (As := [.int (nI (z + 1)), .int (nI 0)]) (rest := [.long ((31) * (kD2 X.2.2.2.1.1 (kLf X.2.2.2.1.1 X.2.1 X.2.2.1) (kMxs (fun x9 => knum X.1 X.2.1 X.2.2.1 X.2.2.2.1 X.2.2.2.2 x9) (kMix 3527 (nI T.2.2.2.2.2.2.2.2.2.2.1)) 14) z)), .long (31)]) ⟨hx, hb, hml, hown, hts⟩ (c_X5_shoesOf_p l D cy ra X (T.1, T.2.1, T.2.2.1, nI 0, e5, e6, e7, T.2.2.2.2.2.2.2) (z + 1) (nI 0) rfl hk (by first | assumption | omega | decide) (by first | assumption | omega | decide) H.size) (cwV 2 hts gX5_digest_X5_shoesOf rfl rfl rfl (by decide +kernel) ⟨Nat.le_of_ble_eq_true rfl, Nat.le_of_ble_eq_true rfl⟩) (kPre_V (ci := 5) hK hN hP hD [0] (by decide) rfl 0 rfl rfl) rfl rfl hl.1 rfl (lv_room (Nat.le_of_ble_eq_true rfl)) dX5_digest_61 ⟨Nat.le_of_ble_eq_true rfl, Nat.le_of_ble_eq_true rfl⟩) (fun r_ u_ H locs hw hP hD hS => ?_)
          obtain ⟨e5_61, e6_61, e7_61⟩ := u_
          have hP : va_P D vwCl (bkF [mW cy ra (kEn X, (T.1, T.2.1, T.2.2.1, (nI 0), e5_61, e6_61, e7_61, T.2.2.2.2.2.2.2))]) H := hP
          have hD : va_D A (bkF [mW cy ra (kEn X, (T.1, T.2.1, T.2.2.1, (nI 0), e5_61, e6_61, e7_61, T.2.2.2.2.2.2.2))]) := hD
          have hw : r_ = X.2.2.2.1.1 (z + 1) := hw
          subst hw
          refine lv_i2l (v := (X.2.2.2.1.1 (z + 1)).toInt64) hx hb dX5_digest_64 rfl ?_
          refine lv_ladd hx hb dX5_digest_65 ?_
          refine lv_lmul hx hb dX5_digest_66 ?_
          refine lv_aload_n hx hb dX5_digest_67 rfl (lv_at hl 0 rfl) ?_
          refine lv_iload_n hx hb dX5_digest_68 rfl (lv_at hl 1 rfl) ?_
          refine lv_iconst (v := nI 1) hx hb dX5_digest_69 (by decide) ?_
          refine kc_i (Cs := [mW cy ra (kEn X, (T.1, T.2.1, T.2.2.1, (nI 0), e5_61, e6_61, e7_61, T.2.2.2.2.2.2.2))]) (Rs := []) (Bs := [mW cy ra (kEn X, (T.1, T.2.1, T.2.2.1, (nI 0), e5_61, e6_61, e7_61, T.2.2.2.2.2.2.2))]) (Cs' := fun u_ : (Nat → Int32) × (Nat → Int32) × (Nat → Int32) => [mW cy ra (kEn X, (T.1, T.2.1, T.2.2.1, (nI 0), u_.1, u_.2.1, u_.2.2, T.2.2.2.2.2.2.2))]) (Fs := fun u_ : (Nat → Int32) × (Nat → Int32) × (Nat → Int32) => [mW cy ra (kEn X, (T.1, T.2.1, T.2.2.1, (nI 0), u_.1, u_.2.1, u_.2.2, T.2.2.2.2.2.2.2))]) hP hD hS hA [0] [] [0] rfl rfl (by decide) (by decide) (fun _ => rfl) (va_runV (As := [.int (nI (z + 1)), .int (nI 1)]) (rest := [.long ((31) * (((31) * (kD2 X.2.2.2.1.1 (kLf X.2.2.2.1.1 X.2.1 X.2.2.1) (kMxs (fun x9 => knum X.1 X.2.1 X.2.2.1 X.2.2.2.1 X.2.2.2.2 x9) (kMix 3527 (nI T.2.2.2.2.2.2.2.2.2.2.1)) 14) z)) + ((X.2.2.2.1.1 (z + 1)).toInt64)))]) ⟨hx, hb, hml, hown, hts⟩ (c_X5_shoesOf_l l D cy ra X (T.1, T.2.1, T.2.2.1, (nI 0), e5_61, e6_61, e7_61, T.2.2.2.2.2.2.2) (z + 1) (nI 1) (by decide) hk (by first | assumption | omega | decide) (by first | assumption | omega | decide) H.size) (cwV 2 hts gX5_digest_X5_shoesOf rfl rfl rfl (by decide +kernel) ⟨Nat.le_of_ble_eq_true rfl, Nat.le_of_ble_eq_true rfl⟩) (kPre_V (ci := 5) hK hN hP hD [0] (by decide) rfl 0 rfl rfl) rfl rfl hl.1 rfl (lv_room (Nat.le_of_ble_eq_true rfl)) dX5_digest_70 ⟨Nat.le_of_ble_eq_true rfl, Nat.le_of_ble_eq_true rfl⟩) (fun r_ u_ H locs hw hP hD hS => ?_)
          obtain ⟨e5_70, e6_70, e7_70⟩ := u_
          have hP : va_P D vwCl (bkF [mW cy ra (kEn X, (T.1, T.2.1, T.2.2.1, (nI 0), e5_70, e6_70, e7_70, T.2.2.2.2.2.2.2))]) H := hP
          have hD : va_D A (bkF [mW cy ra (kEn X, (T.1, T.2.1, T.2.2.1, (nI 0), e5_70, e6_70, e7_70, T.2.2.2.2.2.2.2))]) := hD
          have hw : r_ = kLf X.2.2.2.1.1 X.2.1 X.2.2.1 (z + 1) := hw
          subst hw
          refine lv_i2l (v := (kLf X.2.2.2.1.1 X.2.1 X.2.2.1 (z + 1)).toInt64) hx hb dX5_digest_73 rfl ?_
          refine lv_ladd hx hb dX5_digest_74 ?_
          refine kv_l (y := kD2 X.2.2.2.1.1 (kLf X.2.2.2.1.1 X.2.1 X.2.2.1) (kMxs (fun x9 => knum X.1 X.2.1 X.2.2.1 X.2.2.2.1 X.2.2.2.2 x9) (kMix 3527 (nI T.2.2.2.2.2.2.2.2.2.2.1)) 14) (z + 1)) rfl ?_
          refine lv_lstore_n (lv' := [(1, .long (kD2 X.2.2.2.1.1 (kLf X.2.2.2.1.1 X.2.1 X.2.2.1) (kMxs (fun x9 => knum X.1 X.2.1 X.2.2.1 X.2.2.2.1 X.2.2.2.2 x9) (kMix 3527 (nI T.2.2.2.2.2.2.2.2.2.2.1)) 14) (z + 1))), (0, .ref (ra 0)), (3, .int (nI (z + 1)))]) hx hb dX5_digest_75 rfl hl (by decide) rfl (fun ls hl => ?_)
          refine lv_iinc (v := nI ((z + 1) + 1)) (lv' := [(3, .int (nI ((z + 1) + 1))), (1, .long (kD2 X.2.2.2.1.1 (kLf X.2.2.2.1.1 X.2.1 X.2.2.1) (kMxs (fun x9 => knum X.1 X.2.1 X.2.2.1 X.2.2.2.1 X.2.2.2.2 x9) (kMix 3527 (nI T.2.2.2.2.2.2.2.2.2.2.1)) 14) (z + 1))), (0, .ref (ra 0))]) hx hb dX5_digest_76 hl (k := 2) rfl (nI_add (z + 1) 1) (by decide) rfl (fun ls hl => ?_)
          refine lv_goto (tgt := 44) hx hb dX5_digest_79 (by decide) ?_
          exact ih_44 _ (by omega) (z + 1) e5_70 e6_70 e7_70 rfl (by omega) ls H locs hP hD hS (lv_sub hl [2, 0, 1] rfl)
      exact L_44 _ 0 T.2.2.2.2.1 T.2.2.2.2.2.1 T.2.2.2.2.2.2.1 rfl (by omega) ls H locs hP hD hS (lv_sub hl [1, 0, 2] rfl)
    · skip
      have c_20 : ¬ (14 ≤ w) := fun h => c_20 ((nI_leI (a := 14) (b := w) (by omega) (by omega)).mpr h)
      refine lv_ldc2 hx hb hown (hts (.constantLong RX5 204 (31)) (by decide +kernel)) dX5_digest_23 ?_
      refine lv_lload_n hx hb dX5_digest_26 rfl (lv_at hl 2 rfl) ?_
      refine lv_lmul hx hb dX5_digest_27 ?_
      refine lv_aload_n hx hb dX5_digest_28 rfl (lv_at hl 0 rfl) ?_
      refine lv_iload_n hx hb dX5_digest_29 rfl (lv_at hl 1 rfl) ?_
      refine kc_i (Cs := [mW cy ra (kEn X, (T.1, T.2.1, T.2.2.1, nI 0, T.2.2.2.2))]) (Rs := []) (Bs := [mW cy ra (kEn X, (T.1, T.2.1, T.2.2.1, nI 0, T.2.2.2.2))]) (Cs' := fun u_ : Unit => [mW cy ra (kEn X, (T.1, T.2.1, T.2.2.1, nI 0, T.2.2.2.2))]) (Fs := fun u_ : Unit => [mW cy ra (kEn X, (T.1, T.2.1, T.2.2.1, nI 0, T.2.2.2.2))]) hP hD hS hA [0] [] [0] rfl rfl (by decide) (by decide) (fun _ => rfl) (va_runV (As := [.int (nI w)]) (rest := [.long ((31) * (kMxs (fun x9 => knum X.1 X.2.1 X.2.2.1 X.2.2.2.1 X.2.2.2.2 x9) (kMix 3527 (nI T.2.2.2.2.2.2.2.2.2.2.1)) w))]) ⟨hx, hb, hml, hown, hts⟩ (c_X5_valueOf l D cy ra X (T.1, T.2.1, T.2.2.1, nI 0, T.2.2.2.2) w hoc hfn (by first | assumption | omega | decide) H.size) (cwV 1 hts gX5_digest_X5_valueOf rfl rfl rfl (by decide +kernel) ⟨Nat.le_of_ble_eq_true rfl, Nat.le_of_ble_eq_true rfl⟩) (kPre_V (ci := 5) hK hN hP hD [0] (by decide) rfl 0 rfl rfl) rfl rfl hl.1 rfl (lv_room (Nat.le_of_ble_eq_true rfl)) dX5_digest_30 ⟨Nat.le_of_ble_eq_true rfl, Nat.le_of_ble_eq_true rfl⟩) (fun r_ u_ H locs hw hP hD hS => ?_)
      have hw : r_ = knum X.1 X.2.1 X.2.2.1 X.2.2.2.1 X.2.2.2.2 w := hw
      subst hw
      refine lv_i2l (v := (knum X.1 X.2.1 X.2.2.1 X.2.2.2.1 X.2.2.2.2 w).toInt64) hx hb dX5_digest_33 rfl ?_
      refine lv_ladd hx hb dX5_digest_34 ?_
      refine kv_l (y := kMxs (fun x9 => knum X.1 X.2.1 X.2.2.1 X.2.2.2.1 X.2.2.2.2 x9) (kMix 3527 (nI T.2.2.2.2.2.2.2.2.2.2.1)) (w + 1)) rfl ?_
      refine lv_lstore_n (lv' := [(1, .long (kMxs (fun x9 => knum X.1 X.2.1 X.2.2.1 X.2.2.2.1 X.2.2.2.2 x9) (kMix 3527 (nI T.2.2.2.2.2.2.2.2.2.2.1)) (w + 1))), (0, .ref (ra 0)), (3, .int (nI w))]) hx hb dX5_digest_35 rfl hl (by decide) rfl (fun ls hl => ?_)
      refine lv_iinc (v := nI (w + 1)) (lv' := [(3, .int (nI (w + 1))), (1, .long (kMxs (fun x9 => knum X.1 X.2.1 X.2.2.1 X.2.2.2.1 X.2.2.2.2 x9) (kMix 3527 (nI T.2.2.2.2.2.2.2.2.2.2.1)) (w + 1))), (0, .ref (ra 0))]) hx hb dX5_digest_36 hl (k := 2) rfl (nI_add w 1) (by decide) rfl (fun ls hl => ?_)
      refine lv_goto (tgt := 17) hx hb dX5_digest_39 (by decide) ?_
      exact ih_17 _ (by omega) (w + 1) rfl (by omega) ls H locs hP hD hS (lv_sub hl [2, 0, 1] rfl)
  exact L_17 _ 0  rfl (by omega) ls H locs hP hD hS (lv_sub hl [2, 0, 1] rfl)
abbrev rm_X5_init : Room := { frames := 1, cells := 10, slots := 3647, locals := 21 }
set_option maxHeartbeats 1000000 in
set_option maxRecDepth 100000 in
/-- DanceHallModel() -/
theorem c_X5_init (l : Launch) (D : va_G) (cy : Nat → ClassId) (b : Nat) (sz : Nat) : Met l yX5_init wsX5_init rm_X5_init (va_Pc [.ref b] (kPre D (kT cy) [[(b, .inr (5, [.null, .null, .null, .int (nI 0), .int (nI 0), .null, .null, .null, .null, .null, .null, .int (nI 0), .int (nI 0), .null, .int (nI 0), .int (nI 0)]))]] sz)) (va_Qv (fun u_ : (Nat → Nat) => u_ 0 = b) (kFr D (kT cy) [[(b, .inr (5, [.null, .null, .null, .int (nI 0), .int (nI 0), .null, .null, .null, .null, .null, .null, .int (nI 0), .int (nI 0), .null, .int (nI 0), .int (nI 0)]))]] sz (fun u_ : (Nat → Nat) => [mW cy u_ (kEn ((3, 60, 0, 2, 0, 0, 0, 0), kG00, kG00, (fun _ => nI 1, fun _ => nI 1, k0), (fun _ _ => (-1 : Int32))), (k0, k0, 0, (nI 0), k0, k0, k0, k0, k0, k0, 0, 0, k0, 0, 0))])) (va_A (bkF [[(b, .inr (5, [.null, .null, .null, .int (nI 0), .int (nI 0), .null, .null, .null, .null, .null, .null, .int (nI 0), .int (nI 0), .null, .int (nI 0), .int (nI 0)]))]]) sz)) 10 3647 (va_A (bkF [[(b, .inr (5, [.null, .null, .null, .int (nI 0), .int (nI 0), .null, .null, .null, .null, .null, .null, .int (nI 0), .int (nI 0), .null, .int (nI 0), .int (nI 0)]))]]) sz) := by
  refine kOpen (y := yX5_init) (ws := wsX5_init) (cc := cX5_init) (maxL := 2) (ret := none) (av := [.ref b]) (Bs := [[(b, .inr (5, [.null, .null, .null, .int (nI 0), .int (nI 0), .null, .null, .null, .null, .null, .null, .int (nI 0), .int (nI 0), .null, .int (nI 0), .int (nI 0)]))]]) (Qc := fun A => (va_Qv (fun u_ : (Nat → Nat) => u_ 0 = b) (fun (u_ : (Nat → Nat)) t9 => kEnd D (kT cy) A [mW cy u_ (kEn ((3, 60, 0, 2, 0, 0, 0, 0), kG00, kG00, (fun _ => nI 1, fun _ => nI 1, k0), (fun _ _ => (-1 : Int32))), (k0, k0, 0, (nI 0), k0, k0, k0, k0, k0, k0, 0, 0, k0, 0, 0))] t9) A)) (by decide) rfl (Nat.le_of_ble_eq_true rfl) ?_
  intro p e s m args below meth c A Q ls hQ hx hb hml hr hlocks hin hts hown hN hK hP hD hS hA hsz hAe hl
  clear hAe
  have hl : lv_has ls 2 [(0, .ref b)] := hl
  suffices K9 : ∀ (H : Heap) (locs : List Loc), va_P D vwCl (bkF [[(b, .inr (5, [.null, .null, .null, .int (nI 0), .int (nI 0), .null, .null, .null, .null, .null, .null, .int (nI 0), .int (nI 0), .null, .int (nI 0), .int (nI 0)]))]]) H → va_S A s.heap H locs → W p l e (headSpec wsX5_init rm_X5_init).room s m args below meth c H locs 0 0 Q (F0 m 0 ls []) from K9 _ _ hP hS
  clear hP hS
  intro H locs hP hS
  refine lv_aload_n hx hb dX5_init_0 rfl (lv_at hl 0 rfl) ?_
  refine W.objInit hx hb hown (hts (.methodLink RX5 1 objectInit) (by decide +kernel)) (hts (.instanceMethod objectInit) (by decide +kernel)) (hts (.code objectInit ⟨#[0xb1]⟩ 1 none) (by decide +kernel)) rfl (by rw [hml]; exact hl.1) rfl dX5_init_1 (Nat.le_of_ble_eq_true rfl) (Nat.le_of_ble_eq_true rfl) ?_
  refine W.eq (g2 := F0 m 4 ls []) rfl ?_
  refine lv_aload_n hx hb dX5_init_4 rfl (lv_at hl 0 rfl) ?_
  refine lv_sipush (v := nI 188) hx hb dX5_init_5 (by decide) ?_
  refine va_newa (atype := .int) (a0 := (188, .inl k0)) (ty := .int) (N' := 188) hx hb (hts (.arrayClass .int) (by decide +kernel)) rfl hK hP hD hS hA (fun c9 => by rw [vp_cell_i]; rfl) (by decide +kernel) (by decide +kernel) (by decide +kernel) (Nat.le_of_ble_eq_true rfl) (Nat.le_of_ble_eq_true rfl) dX5_init_8 (fun q8 cA H hK9 hP hD hS => ?_)
  obtain rfl := kcy hK9 0 rfl
  clear hK9
  have hP : va_P D vwCl (bkF [[(b, .inr (5, [.null, .null, .null, .int (nI 0), .int (nI 0), .null, .null, .null, .null, .null, .null, .int (nI 0), .int (nI 0), .null, .int (nI 0), .int (nI 0)]))], [(q8, .inl (cy 0, 188, .inl k0))]]) H := hP
  have hD : va_D A (bkF [[(b, .inr (5, [.null, .null, .null, .int (nI 0), .int (nI 0), .null, .null, .null, .null, .null, .null, .int (nI 0), .int (nI 0), .null, .int (nI 0), .int (nI 0)]))], [(q8, .inl (cy 0, 188, .inl k0))]]) := hD
  refine va_putF (D := D) (ci := 5) (v := .ref q8) (ty := .array .int) (C := RX5) (T := TX5) (N := 16) hx hb hts (by decide +kernel) tyX5 tyX5_ok nmX5 hown hK hP hD hS 0 rfl rfl 0 (by decide) (hts (.fieldLink RX5 7 "DanceHallModel" "all" "[I") (by decide +kernel)) (fun _ h9 => h9) rfl hin rfl (by decide +kernel) rfl rfl (Nat.le_of_ble_eq_true rfl) dX5_init_10 (fun H locs hP hD hS => ?_)
  have hP : va_P D vwCl (bkF [[(b, .inr (5, [.ref q8, .null, .null, .int (nI 0), .int (nI 0), .null, .null, .null, .null, .null, .null, .int (nI 0), .int (nI 0), .null, .int (nI 0), .int (nI 0)]))], [(q8, .inl (cy 0, 188, .inl k0))]]) H := hP
  have hD : va_D A (bkF [[(b, .inr (5, [.ref q8, .null, .null, .int (nI 0), .int (nI 0), .null, .null, .null, .null, .null, .null, .int (nI 0), .int (nI 0), .null, .int (nI 0), .int (nI 0)]))], [(q8, .inl (cy 0, 188, .inl k0))]]) := hD
  refine lv_aload_n hx hb dX5_init_13 rfl (lv_at hl 0 rfl) ?_
  refine lv_sipush (v := nI 752) hx hb dX5_init_14 (by decide) ?_
  refine va_newa (atype := .int) (a0 := (752, .inl k0)) (ty := .int) (N' := 752) hx hb (hts (.arrayClass .int) (by decide +kernel)) rfl hK hP hD hS hA (fun c9 => by rw [vp_cell_i]; rfl) (by decide +kernel) (by decide +kernel) (by decide +kernel) (Nat.le_of_ble_eq_true rfl) (Nat.le_of_ble_eq_true rfl) dX5_init_17 (fun q17 cA H hK9 hP hD hS => ?_)
  obtain rfl := kcy hK9 0 rfl
  clear hK9
  have hP : va_P D vwCl (bkF [[(b, .inr (5, [.ref q8, .null, .null, .int (nI 0), .int (nI 0), .null, .null, .null, .null, .null, .null, .int (nI 0), .int (nI 0), .null, .int (nI 0), .int (nI 0)]))], [(q8, .inl (cy 0, 188, .inl k0))], [(q17, .inl (cy 0, 752, .inl k0))]]) H := hP
  have hD : va_D A (bkF [[(b, .inr (5, [.ref q8, .null, .null, .int (nI 0), .int (nI 0), .null, .null, .null, .null, .null, .null, .int (nI 0), .int (nI 0), .null, .int (nI 0), .int (nI 0)]))], [(q8, .inl (cy 0, 188, .inl k0))], [(q17, .inl (cy 0, 752, .inl k0))]]) := hD
  refine va_putF (D := D) (ci := 5) (v := .ref q17) (ty := .array .int) (C := RX5) (T := TX5) (N := 16) hx hb hts (by decide +kernel) tyX5 tyX5_ok nmX5 hown hK hP hD hS 0 rfl rfl 1 (by decide) (hts (.fieldLink RX5 13 "DanceHallModel" "saved" "[I") (by decide +kernel)) (fun _ h9 => h9) rfl hin rfl (by decide +kernel) rfl rfl (Nat.le_of_ble_eq_true rfl) dX5_init_19 (fun H locs hP hD hS => ?_)
  have hP : va_P D vwCl (bkF [[(b, .inr (5, [.ref q8, .ref q17, .null, .int (nI 0), .int (nI 0), .null, .null, .null, .null, .null, .null, .int (nI 0), .int (nI 0), .null, .int (nI 0), .int (nI 0)]))], [(q8, .inl (cy 0, 188, .inl k0))], [(q17, .inl (cy 0, 752, .inl k0))]]) H := hP
  have hD : va_D A (bkF [[(b, .inr (5, [.ref q8, .ref q17, .null, .int (nI 0), .int (nI 0), .null, .null, .null, .null, .null, .null, .int (nI 0), .int (nI 0), .null, .int (nI 0), .int (nI 0)]))], [(q8, .inl (cy 0, 188, .inl k0))], [(q17, .inl (cy 0, 752, .inl k0))]]) := hD
  refine lv_aload_n hx hb dX5_init_22 rfl (lv_at hl 0 rfl) ?_
  refine lv_sipush (v := nI 188) hx hb dX5_init_23 (by decide) ?_
  refine va_newa (atype := .int) (a0 := (188, .inl k0)) (ty := .int) (N' := 188) hx hb (hts (.arrayClass .int) (by decide +kernel)) rfl hK hP hD hS hA (fun c9 => by rw [vp_cell_i]; rfl) (by decide +kernel) (by decide +kernel) (by decide +kernel) (Nat.le_of_ble_eq_true rfl) (Nat.le_of_ble_eq_true rfl) dX5_init_26 (fun q26 cA H hK9 hP hD hS => ?_)
  obtain rfl := kcy hK9 0 rfl
  clear hK9
  have hP : va_P D vwCl (bkF [[(b, .inr (5, [.ref q8, .ref q17, .null, .int (nI 0), .int (nI 0), .null, .null, .null, .null, .null, .null, .int (nI 0), .int (nI 0), .null, .int (nI 0), .int (nI 0)]))], [(q8, .inl (cy 0, 188, .inl k0))], [(q17, .inl (cy 0, 752, .inl k0))], [(q26, .inl (cy 0, 188, .inl k0))]]) H := hP
  have hD : va_D A (bkF [[(b, .inr (5, [.ref q8, .ref q17, .null, .int (nI 0), .int (nI 0), .null, .null, .null, .null, .null, .null, .int (nI 0), .int (nI 0), .null, .int (nI 0), .int (nI 0)]))], [(q8, .inl (cy 0, 188, .inl k0))], [(q17, .inl (cy 0, 752, .inl k0))], [(q26, .inl (cy 0, 188, .inl k0))]]) := hD
  refine va_putF (D := D) (ci := 5) (v := .ref q26) (ty := .array .int) (C := RX5) (T := TX5) (N := 16) hx hb hts (by decide +kernel) tyX5 tyX5_ok nmX5 hown hK hP hD hS 0 rfl rfl 2 (by decide) (hts (.fieldLink RX5 16 "DanceHallModel" "aside" "[I") (by decide +kernel)) (fun _ h9 => h9) rfl hin rfl (by decide +kernel) rfl rfl (Nat.le_of_ble_eq_true rfl) dX5_init_28 (fun H locs hP hD hS => ?_)
  have hP : va_P D vwCl (bkF [[(b, .inr (5, [.ref q8, .ref q17, .ref q26, .int (nI 0), .int (nI 0), .null, .null, .null, .null, .null, .null, .int (nI 0), .int (nI 0), .null, .int (nI 0), .int (nI 0)]))], [(q8, .inl (cy 0, 188, .inl k0))], [(q17, .inl (cy 0, 752, .inl k0))], [(q26, .inl (cy 0, 188, .inl k0))]]) H := hP
  have hD : va_D A (bkF [[(b, .inr (5, [.ref q8, .ref q17, .ref q26, .int (nI 0), .int (nI 0), .null, .null, .null, .null, .null, .null, .int (nI 0), .int (nI 0), .null, .int (nI 0), .int (nI 0)]))], [(q8, .inl (cy 0, 188, .inl k0))], [(q17, .inl (cy 0, 752, .inl k0))], [(q26, .inl (cy 0, 188, .inl k0))]]) := hD
  refine lv_aload_n hx hb dX5_init_31 rfl (lv_at hl 0 rfl) ?_
  refine lv_bipush (v := nI 11) hx hb dX5_init_32 (by decide) ?_
  refine va_newa (atype := .int) (a0 := (11, .inl k0)) (ty := .int) (N' := 11) hx hb (hts (.arrayClass .int) (by decide +kernel)) rfl hK hP hD hS hA (fun c9 => by rw [vp_cell_i]; rfl) (by decide +kernel) (by decide +kernel) (by decide +kernel) (Nat.le_of_ble_eq_true rfl) (Nat.le_of_ble_eq_true rfl) dX5_init_34 (fun q34 cA H hK9 hP hD hS => ?_)
  obtain rfl := kcy hK9 0 rfl
  clear hK9
  have hP : va_P D vwCl (bkF [[(b, .inr (5, [.ref q8, .ref q17, .ref q26, .int (nI 0), .int (nI 0), .null, .null, .null, .null, .null, .null, .int (nI 0), .int (nI 0), .null, .int (nI 0), .int (nI 0)]))], [(q8, .inl (cy 0, 188, .inl k0))], [(q17, .inl (cy 0, 752, .inl k0))], [(q26, .inl (cy 0, 188, .inl k0))], [(q34, .inl (cy 0, 11, .inl k0))]]) H := hP
  have hD : va_D A (bkF [[(b, .inr (5, [.ref q8, .ref q17, .ref q26, .int (nI 0), .int (nI 0), .null, .null, .null, .null, .null, .null, .int (nI 0), .int (nI 0), .null, .int (nI 0), .int (nI 0)]))], [(q8, .inl (cy 0, 188, .inl k0))], [(q17, .inl (cy 0, 752, .inl k0))], [(q26, .inl (cy 0, 188, .inl k0))], [(q34, .inl (cy 0, 11, .inl k0))]]) := hD
  refine va_putF (D := D) (ci := 5) (v := .ref q34) (ty := .array .int) (C := RX5) (T := TX5) (N := 16) hx hb hts (by decide +kernel) tyX5 tyX5_ok nmX5 hown hK hP hD hS 0 rfl rfl 5 (by decide) (hts (.fieldLink RX5 19 "DanceHallModel" "left" "[I") (by decide +kernel)) (fun _ h9 => h9) rfl hin rfl (by decide +kernel) rfl rfl (Nat.le_of_ble_eq_true rfl) dX5_init_36 (fun H locs hP hD hS => ?_)
  have hP : va_P D vwCl (bkF [[(b, .inr (5, [.ref q8, .ref q17, .ref q26, .int (nI 0), .int (nI 0), .ref q34, .null, .null, .null, .null, .null, .int (nI 0), .int (nI 0), .null, .int (nI 0), .int (nI 0)]))], [(q8, .inl (cy 0, 188, .inl k0))], [(q17, .inl (cy 0, 752, .inl k0))], [(q26, .inl (cy 0, 188, .inl k0))], [(q34, .inl (cy 0, 11, .inl k0))]]) H := hP
  have hD : va_D A (bkF [[(b, .inr (5, [.ref q8, .ref q17, .ref q26, .int (nI 0), .int (nI 0), .ref q34, .null, .null, .null, .null, .null, .int (nI 0), .int (nI 0), .null, .int (nI 0), .int (nI 0)]))], [(q8, .inl (cy 0, 188, .inl k0))], [(q17, .inl (cy 0, 752, .inl k0))], [(q26, .inl (cy 0, 188, .inl k0))], [(q34, .inl (cy 0, 11, .inl k0))]]) := hD
  refine lv_aload_n hx hb dX5_init_39 rfl (lv_at hl 0 rfl) ?_
  refine lv_bipush (v := nI 16) hx hb dX5_init_40 (by decide) ?_
  refine va_newa (atype := .int) (a0 := (16, .inl k0)) (ty := .int) (N' := 16) hx hb (hts (.arrayClass .int) (by decide +kernel)) rfl hK hP hD hS hA (fun c9 => by rw [vp_cell_i]; rfl) (by decide +kernel) (by decide +kernel) (by decide +kernel) (Nat.le_of_ble_eq_true rfl) (Nat.le_of_ble_eq_true rfl) dX5_init_42 (fun q42 cA H hK9 hP hD hS => ?_)
  obtain rfl := kcy hK9 0 rfl
  clear hK9
  have hP : va_P D vwCl (bkF [[(b, .inr (5, [.ref q8, .ref q17, .ref q26, .int (nI 0), .int (nI 0), .ref q34, .null, .null, .null, .null, .null, .int (nI 0), .int (nI 0), .null, .int (nI 0), .int (nI 0)]))], [(q8, .inl (cy 0, 188, .inl k0))], [(q17, .inl (cy 0, 752, .inl k0))], [(q26, .inl (cy 0, 188, .inl k0))], [(q34, .inl (cy 0, 11, .inl k0))], [(q42, .inl (cy 0, 16, .inl k0))]]) H := hP
  have hD : va_D A (bkF [[(b, .inr (5, [.ref q8, .ref q17, .ref q26, .int (nI 0), .int (nI 0), .ref q34, .null, .null, .null, .null, .null, .int (nI 0), .int (nI 0), .null, .int (nI 0), .int (nI 0)]))], [(q8, .inl (cy 0, 188, .inl k0))], [(q17, .inl (cy 0, 752, .inl k0))], [(q26, .inl (cy 0, 188, .inl k0))], [(q34, .inl (cy 0, 11, .inl k0))], [(q42, .inl (cy 0, 16, .inl k0))]]) := hD
  refine va_putF (D := D) (ci := 5) (v := .ref q42) (ty := .array .int) (C := RX5) (T := TX5) (N := 16) hx hb hts (by decide +kernel) tyX5 tyX5_ok nmX5 hown hK hP hD hS 0 rfl rfl 6 (by decide) (hts (.fieldLink RX5 22 "DanceHallModel" "lent" "[I") (by decide +kernel)) (fun _ h9 => h9) rfl hin rfl (by decide +kernel) rfl rfl (Nat.le_of_ble_eq_true rfl) dX5_init_44 (fun H locs hP hD hS => ?_)
  have hP : va_P D vwCl (bkF [[(b, .inr (5, [.ref q8, .ref q17, .ref q26, .int (nI 0), .int (nI 0), .ref q34, .ref q42, .null, .null, .null, .null, .int (nI 0), .int (nI 0), .null, .int (nI 0), .int (nI 0)]))], [(q8, .inl (cy 0, 188, .inl k0))], [(q17, .inl (cy 0, 752, .inl k0))], [(q26, .inl (cy 0, 188, .inl k0))], [(q34, .inl (cy 0, 11, .inl k0))], [(q42, .inl (cy 0, 16, .inl k0))]]) H := hP
  have hD : va_D A (bkF [[(b, .inr (5, [.ref q8, .ref q17, .ref q26, .int (nI 0), .int (nI 0), .ref q34, .ref q42, .null, .null, .null, .null, .int (nI 0), .int (nI 0), .null, .int (nI 0), .int (nI 0)]))], [(q8, .inl (cy 0, 188, .inl k0))], [(q17, .inl (cy 0, 752, .inl k0))], [(q26, .inl (cy 0, 188, .inl k0))], [(q34, .inl (cy 0, 11, .inl k0))], [(q42, .inl (cy 0, 16, .inl k0))]]) := hD
  refine lv_aload_n hx hb dX5_init_47 rfl (lv_at hl 0 rfl) ?_
  refine lv_bipush (v := nI 16) hx hb dX5_init_48 (by decide) ?_
  refine va_newa (atype := .boolean) (a0 := (16, .inl k0)) (ty := .boolean) (N' := 16) hx hb (hts (.arrayClass .boolean) (by decide +kernel)) rfl hK hP hD hS hA (fun c9 => by rw [vp_cell_i]; rfl) (by decide +kernel) (by decide +kernel) (by decide +kernel) (Nat.le_of_ble_eq_true rfl) (Nat.le_of_ble_eq_true rfl) dX5_init_50 (fun q50 cA H hK9 hP hD hS => ?_)
  obtain rfl := kcy hK9 1 rfl
  clear hK9
  have hP : va_P D vwCl (bkF [[(b, .inr (5, [.ref q8, .ref q17, .ref q26, .int (nI 0), .int (nI 0), .ref q34, .ref q42, .null, .null, .null, .null, .int (nI 0), .int (nI 0), .null, .int (nI 0), .int (nI 0)]))], [(q8, .inl (cy 0, 188, .inl k0))], [(q17, .inl (cy 0, 752, .inl k0))], [(q26, .inl (cy 0, 188, .inl k0))], [(q34, .inl (cy 0, 11, .inl k0))], [(q42, .inl (cy 0, 16, .inl k0))], [(q50, .inl (cy 1, 16, .inl k0))]]) H := hP
  have hD : va_D A (bkF [[(b, .inr (5, [.ref q8, .ref q17, .ref q26, .int (nI 0), .int (nI 0), .ref q34, .ref q42, .null, .null, .null, .null, .int (nI 0), .int (nI 0), .null, .int (nI 0), .int (nI 0)]))], [(q8, .inl (cy 0, 188, .inl k0))], [(q17, .inl (cy 0, 752, .inl k0))], [(q26, .inl (cy 0, 188, .inl k0))], [(q34, .inl (cy 0, 11, .inl k0))], [(q42, .inl (cy 0, 16, .inl k0))], [(q50, .inl (cy 1, 16, .inl k0))]]) := hD
  refine va_putF (D := D) (ci := 5) (v := .ref q50) (ty := .array .boolean) (C := RX5) (T := TX5) (N := 16) hx hb hts (by decide +kernel) tyX5 tyX5_ok nmX5 hown hK hP hD hS 0 rfl rfl 7 (by decide) (hts (.fieldLink RX5 25 "DanceHallModel" "can" "[Z") (by decide +kernel)) (fun _ h9 => h9) rfl hin rfl (by decide +kernel) rfl rfl (Nat.le_of_ble_eq_true rfl) dX5_init_52 (fun H locs hP hD hS => ?_)
  have hP : va_P D vwCl (bkF [[(b, .inr (5, [.ref q8, .ref q17, .ref q26, .int (nI 0), .int (nI 0), .ref q34, .ref q42, .ref q50, .null, .null, .null, .int (nI 0), .int (nI 0), .null, .int (nI 0), .int (nI 0)]))], [(q8, .inl (cy 0, 188, .inl k0))], [(q17, .inl (cy 0, 752, .inl k0))], [(q26, .inl (cy 0, 188, .inl k0))], [(q34, .inl (cy 0, 11, .inl k0))], [(q42, .inl (cy 0, 16, .inl k0))], [(q50, .inl (cy 1, 16, .inl k0))]]) H := hP
  have hD : va_D A (bkF [[(b, .inr (5, [.ref q8, .ref q17, .ref q26, .int (nI 0), .int (nI 0), .ref q34, .ref q42, .ref q50, .null, .null, .null, .int (nI 0), .int (nI 0), .null, .int (nI 0), .int (nI 0)]))], [(q8, .inl (cy 0, 188, .inl k0))], [(q17, .inl (cy 0, 752, .inl k0))], [(q26, .inl (cy 0, 188, .inl k0))], [(q34, .inl (cy 0, 11, .inl k0))], [(q42, .inl (cy 0, 16, .inl k0))], [(q50, .inl (cy 1, 16, .inl k0))]]) := hD
  refine lv_aload_n hx hb dX5_init_55 rfl (lv_at hl 0 rfl) ?_
  refine lv_sipush (v := nI 2304) hx hb dX5_init_56 (by decide) ?_
  refine va_newa (atype := .int) (a0 := (2304, .inl k0)) (ty := .int) (N' := 2304) hx hb (hts (.arrayClass .int) (by decide +kernel)) rfl hK hP hD hS hA (fun c9 => by rw [vp_cell_i]; rfl) (by decide +kernel) (by decide +kernel) (by decide +kernel) (Nat.le_of_ble_eq_true rfl) (Nat.le_of_ble_eq_true rfl) dX5_init_59 (fun q59 cA H hK9 hP hD hS => ?_)
  obtain rfl := kcy hK9 0 rfl
  clear hK9
  have hP : va_P D vwCl (bkF [[(b, .inr (5, [.ref q8, .ref q17, .ref q26, .int (nI 0), .int (nI 0), .ref q34, .ref q42, .ref q50, .null, .null, .null, .int (nI 0), .int (nI 0), .null, .int (nI 0), .int (nI 0)]))], [(q8, .inl (cy 0, 188, .inl k0))], [(q17, .inl (cy 0, 752, .inl k0))], [(q26, .inl (cy 0, 188, .inl k0))], [(q34, .inl (cy 0, 11, .inl k0))], [(q42, .inl (cy 0, 16, .inl k0))], [(q50, .inl (cy 1, 16, .inl k0))], [(q59, .inl (cy 0, 2304, .inl k0))]]) H := hP
  have hD : va_D A (bkF [[(b, .inr (5, [.ref q8, .ref q17, .ref q26, .int (nI 0), .int (nI 0), .ref q34, .ref q42, .ref q50, .null, .null, .null, .int (nI 0), .int (nI 0), .null, .int (nI 0), .int (nI 0)]))], [(q8, .inl (cy 0, 188, .inl k0))], [(q17, .inl (cy 0, 752, .inl k0))], [(q26, .inl (cy 0, 188, .inl k0))], [(q34, .inl (cy 0, 11, .inl k0))], [(q42, .inl (cy 0, 16, .inl k0))], [(q50, .inl (cy 1, 16, .inl k0))], [(q59, .inl (cy 0, 2304, .inl k0))]]) := hD
  refine va_putF (D := D) (ci := 5) (v := .ref q59) (ty := .array .int) (C := RX5) (T := TX5) (N := 16) hx hb hts (by decide +kernel) tyX5 tyX5_ok nmX5 hown hK hP hD hS 0 rfl rfl 8 (by decide) (hts (.fieldLink RX5 29 "DanceHallModel" "greatest" "[I") (by decide +kernel)) (fun _ h9 => h9) rfl hin rfl (by decide +kernel) rfl rfl (Nat.le_of_ble_eq_true rfl) dX5_init_61 (fun H locs hP hD hS => ?_)
  have hP : va_P D vwCl (bkF [[(b, .inr (5, [.ref q8, .ref q17, .ref q26, .int (nI 0), .int (nI 0), .ref q34, .ref q42, .ref q50, .ref q59, .null, .null, .int (nI 0), .int (nI 0), .null, .int (nI 0), .int (nI 0)]))], [(q8, .inl (cy 0, 188, .inl k0))], [(q17, .inl (cy 0, 752, .inl k0))], [(q26, .inl (cy 0, 188, .inl k0))], [(q34, .inl (cy 0, 11, .inl k0))], [(q42, .inl (cy 0, 16, .inl k0))], [(q50, .inl (cy 1, 16, .inl k0))], [(q59, .inl (cy 0, 2304, .inl k0))]]) H := hP
  have hD : va_D A (bkF [[(b, .inr (5, [.ref q8, .ref q17, .ref q26, .int (nI 0), .int (nI 0), .ref q34, .ref q42, .ref q50, .ref q59, .null, .null, .int (nI 0), .int (nI 0), .null, .int (nI 0), .int (nI 0)]))], [(q8, .inl (cy 0, 188, .inl k0))], [(q17, .inl (cy 0, 752, .inl k0))], [(q26, .inl (cy 0, 188, .inl k0))], [(q34, .inl (cy 0, 11, .inl k0))], [(q42, .inl (cy 0, 16, .inl k0))], [(q50, .inl (cy 1, 16, .inl k0))], [(q59, .inl (cy 0, 2304, .inl k0))]]) := hD
  refine lv_aload_n hx hb dX5_init_64 rfl (lv_at hl 0 rfl) ?_
  refine lv_bipush (v := nI 8) hx hb dX5_init_65 (by decide) ?_
  refine va_newa (atype := .int) (a0 := (8, .inl k0)) (ty := .int) (N' := 8) hx hb (hts (.arrayClass .int) (by decide +kernel)) rfl hK hP hD hS hA (fun c9 => by rw [vp_cell_i]; rfl) (by decide +kernel) (by decide +kernel) (by decide +kernel) (Nat.le_of_ble_eq_true rfl) (Nat.le_of_ble_eq_true rfl) dX5_init_67 (fun q67 cA H hK9 hP hD hS => ?_)
  obtain rfl := kcy hK9 0 rfl
  clear hK9
  have hP : va_P D vwCl (bkF [[(b, .inr (5, [.ref q8, .ref q17, .ref q26, .int (nI 0), .int (nI 0), .ref q34, .ref q42, .ref q50, .ref q59, .null, .null, .int (nI 0), .int (nI 0), .null, .int (nI 0), .int (nI 0)]))], [(q8, .inl (cy 0, 188, .inl k0))], [(q17, .inl (cy 0, 752, .inl k0))], [(q26, .inl (cy 0, 188, .inl k0))], [(q34, .inl (cy 0, 11, .inl k0))], [(q42, .inl (cy 0, 16, .inl k0))], [(q50, .inl (cy 1, 16, .inl k0))], [(q59, .inl (cy 0, 2304, .inl k0))], [(q67, .inl (cy 0, 8, .inl k0))]]) H := hP
  have hD : va_D A (bkF [[(b, .inr (5, [.ref q8, .ref q17, .ref q26, .int (nI 0), .int (nI 0), .ref q34, .ref q42, .ref q50, .ref q59, .null, .null, .int (nI 0), .int (nI 0), .null, .int (nI 0), .int (nI 0)]))], [(q8, .inl (cy 0, 188, .inl k0))], [(q17, .inl (cy 0, 752, .inl k0))], [(q26, .inl (cy 0, 188, .inl k0))], [(q34, .inl (cy 0, 11, .inl k0))], [(q42, .inl (cy 0, 16, .inl k0))], [(q50, .inl (cy 1, 16, .inl k0))], [(q59, .inl (cy 0, 2304, .inl k0))], [(q67, .inl (cy 0, 8, .inl k0))]]) := hD
  refine va_putF (D := D) (ci := 5) (v := .ref q67) (ty := .array .int) (C := RX5) (T := TX5) (N := 16) hx hb hts (by decide +kernel) tyX5 tyX5_ok nmX5 hown hK hP hD hS 0 rfl rfl 9 (by decide) (hts (.fieldLink RX5 32 "DanceHallModel" "chosen" "[I") (by decide +kernel)) (fun _ h9 => h9) rfl hin rfl (by decide +kernel) rfl rfl (Nat.le_of_ble_eq_true rfl) dX5_init_69 (fun H locs hP hD hS => ?_)
  have hP : va_P D vwCl (bkF [[(b, .inr (5, [.ref q8, .ref q17, .ref q26, .int (nI 0), .int (nI 0), .ref q34, .ref q42, .ref q50, .ref q59, .ref q67, .null, .int (nI 0), .int (nI 0), .null, .int (nI 0), .int (nI 0)]))], [(q8, .inl (cy 0, 188, .inl k0))], [(q17, .inl (cy 0, 752, .inl k0))], [(q26, .inl (cy 0, 188, .inl k0))], [(q34, .inl (cy 0, 11, .inl k0))], [(q42, .inl (cy 0, 16, .inl k0))], [(q50, .inl (cy 1, 16, .inl k0))], [(q59, .inl (cy 0, 2304, .inl k0))], [(q67, .inl (cy 0, 8, .inl k0))]]) H := hP
  have hD : va_D A (bkF [[(b, .inr (5, [.ref q8, .ref q17, .ref q26, .int (nI 0), .int (nI 0), .ref q34, .ref q42, .ref q50, .ref q59, .ref q67, .null, .int (nI 0), .int (nI 0), .null, .int (nI 0), .int (nI 0)]))], [(q8, .inl (cy 0, 188, .inl k0))], [(q17, .inl (cy 0, 752, .inl k0))], [(q26, .inl (cy 0, 188, .inl k0))], [(q34, .inl (cy 0, 11, .inl k0))], [(q42, .inl (cy 0, 16, .inl k0))], [(q50, .inl (cy 1, 16, .inl k0))], [(q59, .inl (cy 0, 2304, .inl k0))], [(q67, .inl (cy 0, 8, .inl k0))]]) := hD
  refine lv_aload_n hx hb dX5_init_72 rfl (lv_at hl 0 rfl) ?_
  refine lv_bipush (v := nI 100) hx hb dX5_init_73 (by decide) ?_
  refine va_newa (atype := .int) (a0 := (100, .inl k0)) (ty := .int) (N' := 100) hx hb (hts (.arrayClass .int) (by decide +kernel)) rfl hK hP hD hS hA (fun c9 => by rw [vp_cell_i]; rfl) (by decide +kernel) (by decide +kernel) (by decide +kernel) (Nat.le_of_ble_eq_true rfl) (Nat.le_of_ble_eq_true rfl) dX5_init_75 (fun q75 cA H hK9 hP hD hS => ?_)
  obtain rfl := kcy hK9 0 rfl
  clear hK9
  have hP : va_P D vwCl (bkF [[(b, .inr (5, [.ref q8, .ref q17, .ref q26, .int (nI 0), .int (nI 0), .ref q34, .ref q42, .ref q50, .ref q59, .ref q67, .null, .int (nI 0), .int (nI 0), .null, .int (nI 0), .int (nI 0)]))], [(q8, .inl (cy 0, 188, .inl k0))], [(q17, .inl (cy 0, 752, .inl k0))], [(q26, .inl (cy 0, 188, .inl k0))], [(q34, .inl (cy 0, 11, .inl k0))], [(q42, .inl (cy 0, 16, .inl k0))], [(q50, .inl (cy 1, 16, .inl k0))], [(q59, .inl (cy 0, 2304, .inl k0))], [(q67, .inl (cy 0, 8, .inl k0))], [(q75, .inl (cy 0, 100, .inl k0))]]) H := hP
  have hD : va_D A (bkF [[(b, .inr (5, [.ref q8, .ref q17, .ref q26, .int (nI 0), .int (nI 0), .ref q34, .ref q42, .ref q50, .ref q59, .ref q67, .null, .int (nI 0), .int (nI 0), .null, .int (nI 0), .int (nI 0)]))], [(q8, .inl (cy 0, 188, .inl k0))], [(q17, .inl (cy 0, 752, .inl k0))], [(q26, .inl (cy 0, 188, .inl k0))], [(q34, .inl (cy 0, 11, .inl k0))], [(q42, .inl (cy 0, 16, .inl k0))], [(q50, .inl (cy 1, 16, .inl k0))], [(q59, .inl (cy 0, 2304, .inl k0))], [(q67, .inl (cy 0, 8, .inl k0))], [(q75, .inl (cy 0, 100, .inl k0))]]) := hD
  refine va_putF (D := D) (ci := 5) (v := .ref q75) (ty := .array .int) (C := RX5) (T := TX5) (N := 16) hx hb hts (by decide +kernel) tyX5 tyX5_ok nmX5 hown hK hP hD hS 0 rfl rfl 10 (by decide) (hts (.fieldLink RX5 35 "DanceHallModel" "text" "[I") (by decide +kernel)) (fun _ h9 => h9) rfl hin rfl (by decide +kernel) rfl rfl (Nat.le_of_ble_eq_true rfl) dX5_init_77 (fun H locs hP hD hS => ?_)
  have hP : va_P D vwCl (bkF [[(b, .inr (5, [.ref q8, .ref q17, .ref q26, .int (nI 0), .int (nI 0), .ref q34, .ref q42, .ref q50, .ref q59, .ref q67, .ref q75, .int (nI 0), .int (nI 0), .null, .int (nI 0), .int (nI 0)]))], [(q8, .inl (cy 0, 188, .inl k0))], [(q17, .inl (cy 0, 752, .inl k0))], [(q26, .inl (cy 0, 188, .inl k0))], [(q34, .inl (cy 0, 11, .inl k0))], [(q42, .inl (cy 0, 16, .inl k0))], [(q50, .inl (cy 1, 16, .inl k0))], [(q59, .inl (cy 0, 2304, .inl k0))], [(q67, .inl (cy 0, 8, .inl k0))], [(q75, .inl (cy 0, 100, .inl k0))]]) H := hP
  have hD : va_D A (bkF [[(b, .inr (5, [.ref q8, .ref q17, .ref q26, .int (nI 0), .int (nI 0), .ref q34, .ref q42, .ref q50, .ref q59, .ref q67, .ref q75, .int (nI 0), .int (nI 0), .null, .int (nI 0), .int (nI 0)]))], [(q8, .inl (cy 0, 188, .inl k0))], [(q17, .inl (cy 0, 752, .inl k0))], [(q26, .inl (cy 0, 188, .inl k0))], [(q34, .inl (cy 0, 11, .inl k0))], [(q42, .inl (cy 0, 16, .inl k0))], [(q50, .inl (cy 1, 16, .inl k0))], [(q59, .inl (cy 0, 2304, .inl k0))], [(q67, .inl (cy 0, 8, .inl k0))], [(q75, .inl (cy 0, 100, .inl k0))]]) := hD
  refine lv_aload_n hx hb dX5_init_80 rfl (lv_at hl 0 rfl) ?_
  refine lv_bipush (v := nI 64) hx hb dX5_init_81 (by decide) ?_
  refine va_newa (atype := .int) (a0 := (64, .inl k0)) (ty := .int) (N' := 64) hx hb (hts (.arrayClass .int) (by decide +kernel)) rfl hK hP hD hS hA (fun c9 => by rw [vp_cell_i]; rfl) (by decide +kernel) (by decide +kernel) (by decide +kernel) (Nat.le_of_ble_eq_true rfl) (Nat.le_of_ble_eq_true rfl) dX5_init_83 (fun q83 cA H hK9 hP hD hS => ?_)
  obtain rfl := kcy hK9 0 rfl
  clear hK9
  have hP : va_P D vwCl (bkF [[(b, .inr (5, [.ref q8, .ref q17, .ref q26, .int (nI 0), .int (nI 0), .ref q34, .ref q42, .ref q50, .ref q59, .ref q67, .ref q75, .int (nI 0), .int (nI 0), .null, .int (nI 0), .int (nI 0)]))], [(q8, .inl (cy 0, 188, .inl k0))], [(q17, .inl (cy 0, 752, .inl k0))], [(q26, .inl (cy 0, 188, .inl k0))], [(q34, .inl (cy 0, 11, .inl k0))], [(q42, .inl (cy 0, 16, .inl k0))], [(q50, .inl (cy 1, 16, .inl k0))], [(q59, .inl (cy 0, 2304, .inl k0))], [(q67, .inl (cy 0, 8, .inl k0))], [(q75, .inl (cy 0, 100, .inl k0))], [(q83, .inl (cy 0, 64, .inl k0))]]) H := hP
  have hD : va_D A (bkF [[(b, .inr (5, [.ref q8, .ref q17, .ref q26, .int (nI 0), .int (nI 0), .ref q34, .ref q42, .ref q50, .ref q59, .ref q67, .ref q75, .int (nI 0), .int (nI 0), .null, .int (nI 0), .int (nI 0)]))], [(q8, .inl (cy 0, 188, .inl k0))], [(q17, .inl (cy 0, 752, .inl k0))], [(q26, .inl (cy 0, 188, .inl k0))], [(q34, .inl (cy 0, 11, .inl k0))], [(q42, .inl (cy 0, 16, .inl k0))], [(q50, .inl (cy 1, 16, .inl k0))], [(q59, .inl (cy 0, 2304, .inl k0))], [(q67, .inl (cy 0, 8, .inl k0))], [(q75, .inl (cy 0, 100, .inl k0))], [(q83, .inl (cy 0, 64, .inl k0))]]) := hD
  refine va_putF (D := D) (ci := 5) (v := .ref q83) (ty := .array .int) (C := RX5) (T := TX5) (N := 16) hx hb hts (by decide +kernel) tyX5 tyX5_ok nmX5 hown hK hP hD hS 0 rfl rfl 13 (by decide) (hts (.fieldLink RX5 38 "DanceHallModel" "read" "[I") (by decide +kernel)) (fun _ h9 => h9) rfl hin rfl (by decide +kernel) rfl rfl (Nat.le_of_ble_eq_true rfl) dX5_init_85 (fun H locs hP hD hS => ?_)
  have hP : va_P D vwCl (bkF [[(b, .inr (5, [.ref q8, .ref q17, .ref q26, .int (nI 0), .int (nI 0), .ref q34, .ref q42, .ref q50, .ref q59, .ref q67, .ref q75, .int (nI 0), .int (nI 0), .ref q83, .int (nI 0), .int (nI 0)]))], [(q8, .inl (cy 0, 188, .inl k0))], [(q17, .inl (cy 0, 752, .inl k0))], [(q26, .inl (cy 0, 188, .inl k0))], [(q34, .inl (cy 0, 11, .inl k0))], [(q42, .inl (cy 0, 16, .inl k0))], [(q50, .inl (cy 1, 16, .inl k0))], [(q59, .inl (cy 0, 2304, .inl k0))], [(q67, .inl (cy 0, 8, .inl k0))], [(q75, .inl (cy 0, 100, .inl k0))], [(q83, .inl (cy 0, 64, .inl k0))]]) H := hP
  have hD : va_D A (bkF [[(b, .inr (5, [.ref q8, .ref q17, .ref q26, .int (nI 0), .int (nI 0), .ref q34, .ref q42, .ref q50, .ref q59, .ref q67, .ref q75, .int (nI 0), .int (nI 0), .ref q83, .int (nI 0), .int (nI 0)]))], [(q8, .inl (cy 0, 188, .inl k0))], [(q17, .inl (cy 0, 752, .inl k0))], [(q26, .inl (cy 0, 188, .inl k0))], [(q34, .inl (cy 0, 11, .inl k0))], [(q42, .inl (cy 0, 16, .inl k0))], [(q50, .inl (cy 1, 16, .inl k0))], [(q59, .inl (cy 0, 2304, .inl k0))], [(q67, .inl (cy 0, 8, .inl k0))], [(q75, .inl (cy 0, 100, .inl k0))], [(q83, .inl (cy 0, 64, .inl k0))]]) := hD
  have hP : va_P D vwCl (bkF [mW cy (fun i9 => if i9 = 0 then b else if i9 = 1 then q8 else if i9 = 2 then q17 else if i9 = 3 then q26 else if i9 = 4 then q34 else if i9 = 5 then q42 else if i9 = 6 then q50 else if i9 = 7 then q59 else if i9 = 8 then q67 else if i9 = 9 then q75 else if i9 = 10 then q83 else 0) (k0, (k0, k0, 0, nI 0, k0, k0, k0, k0, k0, k0, 0, 0, k0, 0, 0))]) H := hP
  have hD : va_D A (bkF [mW cy (fun i9 => if i9 = 0 then b else if i9 = 1 then q8 else if i9 = 2 then q17 else if i9 = 3 then q26 else if i9 = 4 then q34 else if i9 = 5 then q42 else if i9 = 6 then q50 else if i9 = 7 then q59 else if i9 = 8 then q67 else if i9 = 9 then q75 else if i9 = 10 then q83 else 0) (k0, (k0, k0, 0, nI 0, k0, k0, k0, k0, k0, k0, 0, 0, k0, 0, 0))]) := hD
  have hb0 : b = (fun i9 => if i9 = 0 then b else if i9 = 1 then q8 else if i9 = 2 then q17 else if i9 = 3 then q26 else if i9 = 4 then q34 else if i9 = 5 then q42 else if i9 = 6 then q50 else if i9 = 7 then q59 else if i9 = 8 then q67 else if i9 = 9 then q75 else if i9 = 10 then q83 else 0) 0 := rfl
  generalize (fun i9 => if i9 = 0 then b else if i9 = 1 then q8 else if i9 = 2 then q17 else if i9 = 3 then q26 else if i9 = 4 then q34 else if i9 = 5 then q42 else if i9 = 6 then q50 else if i9 = 7 then q59 else if i9 = 8 then q67 else if i9 = 9 then q75 else if i9 = 10 then q83 else 0) = ra at hP hD hb0
  have hl : lv_has ls 2 [(0, .ref (ra 0))] := by rw [← hb0]; exact hl
  have hP : va_P D vwCl (bkF [mW cy ra (k0, (k0, k0, 0, (nI 0), k0, k0, k0, k0, k0, k0, 0, 0, k0, 0, 0))]) H := hP
  have hD : va_D A (bkF [mW cy ra (k0, (k0, k0, 0, (nI 0), k0, k0, k0, k0, k0, k0, 0, 0, k0, 0, 0))]) := hD
  refine lv_aload_n hx hb dX5_init_88 rfl (lv_at hl 0 rfl) ?_
  refine va_get (D := D) (ci := 5) (v := .ref (ra 1)) (C := RX5) (T := TX5) (N := 16) hx hb hts (by decide +kernel) hown hK hP 0 rfl rfl 0 (by decide) (hts (.fieldLink RX5 7 "DanceHallModel" "all" "[I") (by decide +kernel)) (fun _ h9 => h9) rfl dX5_init_89 ?_
  refine lv_iconst (v := nI 2) hx hb dX5_init_92 (by decide) ?_
  refine lv_iconst (v := nI 3) hx hb dX5_init_93 (by decide) ?_
  refine va_iast hx hb hK hP hD hS 1 0 rfl rfl (vp_in_nI (n := 2) (N := 188) (by omega) (by omega)) dX5_init_94 (fun H locs hP hD hS => ?_)
  have hP : va_P D vwCl (bkF [mW cy ra (upd k0 2 (nI 3), (k0, k0, 0, (nI 0), k0, k0, k0, k0, k0, k0, 0, 0, k0, 0, 0))]) H := hP
  have hD : va_D A (bkF [mW cy ra (upd k0 2 (nI 3), (k0, k0, 0, (nI 0), k0, k0, k0, k0, k0, k0, 0, 0, k0, 0, 0))]) := hD
  refine lv_aload_n hx hb dX5_init_95 rfl (lv_at hl 0 rfl) ?_
  refine va_get (D := D) (ci := 5) (v := .ref (ra 1)) (C := RX5) (T := TX5) (N := 16) hx hb hts (by decide +kernel) hown hK hP 0 rfl rfl 0 (by decide) (hts (.fieldLink RX5 7 "DanceHallModel" "all" "[I") (by decide +kernel)) (fun _ h9 => h9) rfl dX5_init_96 ?_
  refine lv_iconst (v := nI 3) hx hb dX5_init_99 (by decide) ?_
  refine lv_bipush (v := nI 60) hx hb dX5_init_100 (by decide) ?_
  refine va_iast hx hb hK hP hD hS 1 0 rfl rfl (vp_in_nI (n := 3) (N := 188) (by omega) (by omega)) dX5_init_102 (fun H locs hP hD hS => ?_)
  have hP : va_P D vwCl (bkF [mW cy ra (upd (upd k0 2 (nI 3)) 3 (nI 60), (k0, k0, 0, (nI 0), k0, k0, k0, k0, k0, k0, 0, 0, k0, 0, 0))]) H := hP
  have hD : va_D A (bkF [mW cy ra (upd (upd k0 2 (nI 3)) 3 (nI 60), (k0, k0, 0, (nI 0), k0, k0, k0, k0, k0, k0, 0, 0, k0, 0, 0))]) := hD
  refine lv_aload_n hx hb dX5_init_103 rfl (lv_at hl 0 rfl) ?_
  refine va_get (D := D) (ci := 5) (v := .ref (ra 1)) (C := RX5) (T := TX5) (N := 16) hx hb hts (by decide +kernel) hown hK hP 0 rfl rfl 0 (by decide) (hts (.fieldLink RX5 7 "DanceHallModel" "all" "[I") (by decide +kernel)) (fun _ h9 => h9) rfl dX5_init_104 ?_
  refine lv_bipush (v := nI 8) hx hb dX5_init_107 (by decide) ?_
  refine lv_iconst (v := nI 2) hx hb dX5_init_109 (by decide) ?_
  refine va_iast hx hb hK hP hD hS 1 0 rfl rfl (vp_in_nI (n := 8) (N := 188) (by omega) (by omega)) dX5_init_110 (fun H locs hP hD hS => ?_)
  have hP : va_P D vwCl (bkF [mW cy ra (upd (upd (upd k0 2 (nI 3)) 3 (nI 60)) 8 (nI 2), (k0, k0, 0, (nI 0), k0, k0, k0, k0, k0, k0, 0, 0, k0, 0, 0))]) H := hP
  have hD : va_D A (bkF [mW cy ra (upd (upd (upd k0 2 (nI 3)) 3 (nI 60)) 8 (nI 2), (k0, k0, 0, (nI 0), k0, k0, k0, k0, k0, k0, 0, 0, k0, 0, 0))]) := hD
  refine lv_iconst (v := nI 0) hx hb dX5_init_111 (by decide) ?_
  refine lv_istore_n (lv' := [(1, .int (nI 0)), (0, .ref (ra 0))]) hx hb dX5_init_112 rfl hl (by decide) rfl (fun ls hl => ?_)
  have hP := kP_cell (g := (kVt 11 (fun _ => nI 1) (upd (upd (upd k0 2 (nI 3)) 3 (nI 60)) 8 (nI 2)) 0)) hP 1 rfl (fun j _ => kVt_0 j)
  have hD := hD.set (p := 1) (e := .inl (cy 0, 188, .inl (kVt 11 (fun _ => nI 1) (upd (upd (upd k0 2 (nI 3)) 3 (nI 60)) 8 (nI 2)) 0))) rfl
  have hP : va_P D vwCl (bkF [mW cy ra (kVt 11 (fun _ => nI 1) (upd (upd (upd k0 2 (nI 3)) 3 (nI 60)) 8 (nI 2)) 0, (k0, k0, 0, (nI 0), k0, k0, k0, k0, k0, k0, 0, 0, k0, 0, 0))]) H := hP
  have hD : va_D A (bkF [mW cy ra (kVt 11 (fun _ => nI 1) (upd (upd (upd k0 2 (nI 3)) 3 (nI 60)) 8 (nI 2)) 0, (k0, k0, 0, (nI 0), k0, k0, k0, k0, k0, k0, 0, 0, k0, 0, 0))]) := hD
  have L_113 : ∀ (n9 : Nat) (k9 : Nat), 9 - k9 = n9 → (k9 ≤ 9) → ∀ (ls : Array Slot) (H : Heap) (locs : List Loc), va_P D vwCl (bkF [mW cy ra (kVt 11 (fun _ => nI 1) (upd (upd (upd k0 2 (nI 3)) 3 (nI 60)) 8 (nI 2)) k9, (k0, k0, 0, (nI 0), k0, k0, k0, k0, k0, k0, 0, 0, k0, 0, 0))]) H → va_D A (bkF [mW cy ra (kVt 11 (fun _ => nI 1) (upd (upd (upd k0 2 (nI 3)) 3 (nI 60)) 8 (nI 2)) k9, (k0, k0, 0, (nI 0), k0, k0, k0, k0, k0, k0, 0, 0, k0, 0, 0))]) → va_S A s.heap H locs → lv_has ls 2 [(0, .ref (ra 0)), (1, .int (nI k9))] → W p l e (headSpec wsX5_init rm_X5_init).room s m args below meth c H locs 10 3647 Q (F0 m 113 ls []) := by
    intro n9
    induction n9 using Nat.strongRecOn with
    | _ n9 ih_113 =>
    intro k9 hm_113 h113_0 ls H locs hP hD hS hl
    refine lv_iload_n hx hb dX5_init_113 rfl (lv_at hl 1 rfl) ?_
    refine lv_bipush (v := nI 9) hx hb dX5_init_114 (by decide) ?_
    refine lv_icmp_ge (tgt := 135) hx hb dX5_init_116 (by decide) (fun c_116 => ?_) (fun c_116 => ?_)
    · skip
      have c_116 : 9 ≤ k9 := (nI_leI (a := 9) (b := k9) (by omega) (by omega)).mp c_116
      obtain rfl : k9 = 9 := (by omega)
      refine lv_iconst (v := nI 0) hx hb dX5_init_135 (by decide) ?_
      refine lv_istore_n (lv' := [(1, .int (nI 0)), (0, .ref (ra 0))]) hx hb dX5_init_136 rfl hl (by decide) rfl (fun ls hl => ?_)
      have hP := kP_cell (g := (kVt 20 (fun _ => nI 1) (kVt 11 (fun _ => nI 1) (upd (upd (upd k0 2 (nI 3)) 3 (nI 60)) 8 (nI 2)) 9) 0)) hP 1 rfl (fun j _ => kVt_0 j)
      have hD := hD.set (p := 1) (e := .inl (cy 0, 188, .inl (kVt 20 (fun _ => nI 1) (kVt 11 (fun _ => nI 1) (upd (upd (upd k0 2 (nI 3)) 3 (nI 60)) 8 (nI 2)) 9) 0))) rfl
      have hP : va_P D vwCl (bkF [mW cy ra (kVt 20 (fun _ => nI 1) (kVt 11 (fun _ => nI 1) (upd (upd (upd k0 2 (nI 3)) 3 (nI 60)) 8 (nI 2)) 9) 0, (k0, k0, 0, (nI 0), k0, k0, k0, k0, k0, k0, 0, 0, k0, 0, 0))]) H := hP
      have hD : va_D A (bkF [mW cy ra (kVt 20 (fun _ => nI 1) (kVt 11 (fun _ => nI 1) (upd (upd (upd k0 2 (nI 3)) 3 (nI 60)) 8 (nI 2)) 9) 0, (k0, k0, 0, (nI 0), k0, k0, k0, k0, k0, k0, 0, 0, k0, 0, 0))]) := hD
      have L_137 : ∀ (n9 : Nat) (f8 : Nat), 4 - f8 = n9 → (f8 ≤ 4) → ∀ (ls : Array Slot) (H : Heap) (locs : List Loc), va_P D vwCl (bkF [mW cy ra (kVt 20 (fun _ => nI 1) (kVt 11 (fun _ => nI 1) (upd (upd (upd k0 2 (nI 3)) 3 (nI 60)) 8 (nI 2)) 9) f8, (k0, k0, 0, (nI 0), k0, k0, k0, k0, k0, k0, 0, 0, k0, 0, 0))]) H → va_D A (bkF [mW cy ra (kVt 20 (fun _ => nI 1) (kVt 11 (fun _ => nI 1) (upd (upd (upd k0 2 (nI 3)) 3 (nI 60)) 8 (nI 2)) 9) f8, (k0, k0, 0, (nI 0), k0, k0, k0, k0, k0, k0, 0, 0, k0, 0, 0))]) → va_S A s.heap H locs → lv_has ls 2 [(0, .ref (ra 0)), (1, .int (nI f8))] → W p l e (headSpec wsX5_init rm_X5_init).room s m args below meth c H locs 10 3647 Q (F0 m 137 ls []) := by
        intro n9
        induction n9 using Nat.strongRecOn with
        | _ n9 ih_137 =>
        intro f8 hm_137 h137_0 ls H locs hP hD hS hl
        refine lv_iload_n hx hb dX5_init_137 rfl (lv_at hl 1 rfl) ?_
        refine lv_iconst (v := nI 4) hx hb dX5_init_138 (by decide) ?_
        refine lv_icmp_ge (tgt := 158) hx hb dX5_init_139 (by decide) (fun c_139 => ?_) (fun c_139 => ?_)
        · skip
          have c_139 : 4 ≤ f8 := (nI_leI (a := 4) (b := f8) (by omega) (by omega)).mp c_139
          obtain rfl : f8 = 4 := (by omega)
          have hP := kP_cell (g := (kEq ((3, 60, 0, 2, 0, 0, 0, 0), kG00, kG00, (fun _ => nI 1, fun _ => nI 1, k0), fun _ _ => 0) (fun _ => 0) (fun _ => 0) 0)) hP 1 rfl (by decide +kernel)
          have hD := hD.set (p := 1) (e := .inl (cy 0, 188, .inl (kEq ((3, 60, 0, 2, 0, 0, 0, 0), kG00, kG00, (fun _ => nI 1, fun _ => nI 1, k0), fun _ _ => 0) (fun _ => 0) (fun _ => 0) 0))) rfl
          have hP : va_P D vwCl (bkF [mW cy ra (kEq ((3, 60, 0, 2, 0, 0, 0, 0), kG00, kG00, (fun _ => nI 1, fun _ => nI 1, k0), fun _ _ => 0) (fun _ => 0) (fun _ => 0) 0, (k0, k0, 0, (nI 0), k0, k0, k0, k0, k0, k0, 0, 0, k0, 0, 0))]) H := hP
          have hD : va_D A (bkF [mW cy ra (kEq ((3, 60, 0, 2, 0, 0, 0, 0), kG00, kG00, (fun _ => nI 1, fun _ => nI 1, k0), fun _ _ => 0) (fun _ => 0) (fun _ => 0) 0, (k0, k0, 0, (nI 0), k0, k0, k0, k0, k0, k0, 0, 0, k0, 0, 0))]) := hD
          refine lv_aload_n hx hb dX5_init_158 rfl (lv_at hl 0 rfl) ?_
          refine kc_v (Cs := [mW cy ra (kEq ((3, 60, 0, 2, 0, 0, 0, 0), kG00, kG00, (fun _ => nI 1, fun _ => nI 1, k0), fun _ _ => 0) (fun _ => 0) (fun _ => 0) 0, (k0, k0, 0, (nI 0), k0, k0, k0, k0, k0, k0, 0, 0, k0, 0, 0))]) (Rs := []) (Bs := [mW cy ra (kEq ((3, 60, 0, 2, 0, 0, 0, 0), kG00, kG00, (fun _ => nI 1, fun _ => nI 1, k0), fun _ _ => 0) (fun _ => 0) (fun _ => 0) 0, (k0, k0, 0, (nI 0), k0, k0, k0, k0, k0, k0, 0, 0, k0, 0, 0))]) (Cs' := fun u_ : Unit => [mW cy ra (kEq ((3, 60, 0, 2, 0, 0, 0, 0), kG00, kG00, (fun _ => nI 1, fun _ => nI 1, k0), fun _ _ => (-1 : Int32)) (fun _ => 0) (fun _ => 0) 0, (k0, k0, 0, (nI 0), k0, k0, k0, k0, k0, k0, 0, 0, k0, 0, 0))]) (Fs := fun u_ : Unit => [mW cy ra (kEq ((3, 60, 0, 2, 0, 0, 0, 0), kG00, kG00, (fun _ => nI 1, fun _ => nI 1, k0), fun _ _ => (-1 : Int32)) (fun _ => 0) (fun _ => 0) 0, (k0, k0, 0, (nI 0), k0, k0, k0, k0, k0, k0, 0, 0, k0, 0, 0))]) hP hD hS hA [0] [] [0] rfl rfl (by decide) (by decide) (fun _ => rfl) (va_runV (As := []) (rest := []) ⟨hx, hb, hml, hown, hts⟩ (c_X5_forgets l D cy ra ((3, 60, 0, 2, 0, 0, 0, 0), kG00, kG00, (fun _ => nI 1, fun _ => nI 1, k0), fun _ _ => 0) (fun _ => 0) (fun _ => 0) 0 (k0, k0, 0, (nI 0), k0, k0, k0, k0, k0, k0, 0, 0, k0, 0, 0) H.size) (cwV 0 hts gX5_init_X5_forgets rfl rfl rfl (by decide +kernel) ⟨Nat.le_of_ble_eq_true rfl, Nat.le_of_ble_eq_true rfl⟩) (kPre_V (ci := 5) hK hN hP hD [0] (by decide) rfl 0 rfl rfl) rfl rfl hl.1 rfl (lv_room (Nat.le_of_ble_eq_true rfl)) dX5_init_159 ⟨Nat.le_of_ble_eq_true rfl, Nat.le_of_ble_eq_true rfl⟩) (fun u_ H locs hw hP hD hS => ?_)
          have hP := kP_cell (g := (kEn ((3, 60, 0, 2, 0, 0, 0, 0), kG00, kG00, (fun _ => nI 1, fun _ => nI 1, k0), (fun _ _ => (-1 : Int32))))) hP 1 rfl (fun _ _ => rfl)
          have hD := hD.set (p := 1) (e := .inl (cy 0, 188, .inl (kEn ((3, 60, 0, 2, 0, 0, 0, 0), kG00, kG00, (fun _ => nI 1, fun _ => nI 1, k0), (fun _ _ => (-1 : Int32)))))) rfl
          have hP : va_P D vwCl (bkF [mW cy ra (kEn ((3, 60, 0, 2, 0, 0, 0, 0), kG00, kG00, (fun _ => nI 1, fun _ => nI 1, k0), (fun _ _ => (-1 : Int32))), (k0, k0, 0, (nI 0), k0, k0, k0, k0, k0, k0, 0, 0, k0, 0, 0))]) H := hP
          have hD : va_D A (bkF [mW cy ra (kEn ((3, 60, 0, 2, 0, 0, 0, 0), kG00, kG00, (fun _ => nI 1, fun _ => nI 1, k0), (fun _ _ => (-1 : Int32))), (k0, k0, 0, (nI 0), k0, k0, k0, k0, k0, k0, 0, 0, k0, 0, 0))]) := hD
          exact kr_v (post := fun u_ : (Nat → Nat) => u_ 0 = b) (Bs := fun u_ : (Nat → Nat) => [mW cy u_ (kEn ((3, 60, 0, 2, 0, 0, 0, 0), kG00, kG00, (fun _ => nI 1, fun _ => nI 1, k0), (fun _ _ => (-1 : Int32))), (k0, k0, 0, (nI 0), k0, k0, k0, k0, k0, k0, 0, 0, k0, 0, 0))]) hx hb hr hlocks (ra) hP hK hD hS hb0.symm dX5_init_162 hQ
        · skip
          have c_139 : ¬ (4 ≤ f8) := fun h => c_139 ((nI_leI (a := 4) (b := f8) (by omega) (by omega)).mpr h)
          refine lv_aload_n hx hb dX5_init_142 rfl (lv_at hl 0 rfl) ?_
          refine va_get (D := D) (ci := 5) (v := .ref (ra 1)) (C := RX5) (T := TX5) (N := 16) hx hb hts (by decide +kernel) hown hK hP 0 rfl rfl 0 (by decide) (hts (.fieldLink RX5 7 "DanceHallModel" "all" "[I") (by decide +kernel)) (fun _ h9 => h9) rfl dX5_init_143 ?_
          refine lv_bipush (v := nI 20) hx hb dX5_init_146 (by decide) ?_
          refine lv_iload_n hx hb dX5_init_148 rfl (lv_at hl 1 rfl) ?_
          refine lv_iadd hx hb dX5_init_149 ?_
          refine kv_i (y := nI (20 + f8)) (nI_add 20 f8) ?_
          refine lv_iconst (v := nI 1) hx hb dX5_init_150 (by decide) ?_
          refine va_iast hx hb hK hP hD hS 1 0 rfl rfl (vp_in_nI (n := 20 + f8) (N := 188) (by omega) (by omega)) dX5_init_151 (fun H locs hP hD hS => ?_)
          rw [nI_clamp (n := 20 + f8) (by omega)] at hP hD
          have hP : va_P D vwCl (bkF [mW cy ra (upd (kVt 20 (fun _ => nI 1) (kVt 11 (fun _ => nI 1) (upd (upd (upd k0 2 (nI 3)) 3 (nI 60)) 8 (nI 2)) 9) f8) (20 + f8) (nI 1), (k0, k0, 0, (nI 0), k0, k0, k0, k0, k0, k0, 0, 0, k0, 0, 0))]) H := hP
          have hD : va_D A (bkF [mW cy ra (upd (kVt 20 (fun _ => nI 1) (kVt 11 (fun _ => nI 1) (upd (upd (upd k0 2 (nI 3)) 3 (nI 60)) 8 (nI 2)) 9) f8) (20 + f8) (nI 1), (k0, k0, 0, (nI 0), k0, k0, k0, k0, k0, k0, 0, 0, k0, 0, 0))]) := hD
          refine lv_iinc (v := nI (f8 + 1)) (lv' := [(1, .int (nI (f8 + 1))), (0, .ref (ra 0))]) hx hb dX5_init_152 hl (k := 1) rfl (nI_add f8 1) (by decide) rfl (fun ls hl => ?_)
          refine lv_goto (tgt := 137) hx hb dX5_init_155 (by decide) ?_
          have hP := kP_cell (g := (kVt 20 (fun _ => nI 1) (kVt 11 (fun _ => nI 1) (upd (upd (upd k0 2 (nI 3)) 3 (nI 60)) 8 (nI 2)) 9) (f8 + 1))) hP 1 rfl (fun j _ => kVt_s rfl j)
          have hD := hD.set (p := 1) (e := .inl (cy 0, 188, .inl (kVt 20 (fun _ => nI 1) (kVt 11 (fun _ => nI 1) (upd (upd (upd k0 2 (nI 3)) 3 (nI 60)) 8 (nI 2)) 9) (f8 + 1)))) rfl
          have hP : va_P D vwCl (bkF [mW cy ra (kVt 20 (fun _ => nI 1) (kVt 11 (fun _ => nI 1) (upd (upd (upd k0 2 (nI 3)) 3 (nI 60)) 8 (nI 2)) 9) (f8 + 1), (k0, k0, 0, (nI 0), k0, k0, k0, k0, k0, k0, 0, 0, k0, 0, 0))]) H := hP
          have hD : va_D A (bkF [mW cy ra (kVt 20 (fun _ => nI 1) (kVt 11 (fun _ => nI 1) (upd (upd (upd k0 2 (nI 3)) 3 (nI 60)) 8 (nI 2)) 9) (f8 + 1), (k0, k0, 0, (nI 0), k0, k0, k0, k0, k0, k0, 0, 0, k0, 0, 0))]) := hD
          exact ih_137 _ (by omega) (f8 + 1) rfl (by omega) ls H locs hP hD hS (lv_sub hl [1, 0] rfl)
      exact L_137 _ 0  rfl (by omega) ls H locs hP hD hS (lv_sub hl [1, 0] rfl)
    · skip
      have c_116 : ¬ (9 ≤ k9) := fun h => c_116 ((nI_leI (a := 9) (b := k9) (by omega) (by omega)).mpr h)
      refine lv_aload_n hx hb dX5_init_119 rfl (lv_at hl 0 rfl) ?_
      refine va_get (D := D) (ci := 5) (v := .ref (ra 1)) (C := RX5) (T := TX5) (N := 16) hx hb hts (by decide +kernel) hown hK hP 0 rfl rfl 0 (by decide) (hts (.fieldLink RX5 7 "DanceHallModel" "all" "[I") (by decide +kernel)) (fun _ h9 => h9) rfl dX5_init_120 ?_
      refine lv_bipush (v := nI 11) hx hb dX5_init_123 (by decide) ?_
      refine lv_iload_n hx hb dX5_init_125 rfl (lv_at hl 1 rfl) ?_
      refine lv_iadd hx hb dX5_init_126 ?_
      refine kv_i (y := nI (11 + k9)) (nI_add 11 k9) ?_
      refine lv_iconst (v := nI 1) hx hb dX5_init_127 (by decide) ?_
      refine va_iast hx hb hK hP hD hS 1 0 rfl rfl (vp_in_nI (n := 11 + k9) (N := 188) (by omega) (by omega)) dX5_init_128 (fun H locs hP hD hS => ?_)
      rw [nI_clamp (n := 11 + k9) (by omega)] at hP hD
      have hP : va_P D vwCl (bkF [mW cy ra (upd (kVt 11 (fun _ => nI 1) (upd (upd (upd k0 2 (nI 3)) 3 (nI 60)) 8 (nI 2)) k9) (11 + k9) (nI 1), (k0, k0, 0, (nI 0), k0, k0, k0, k0, k0, k0, 0, 0, k0, 0, 0))]) H := hP
      have hD : va_D A (bkF [mW cy ra (upd (kVt 11 (fun _ => nI 1) (upd (upd (upd k0 2 (nI 3)) 3 (nI 60)) 8 (nI 2)) k9) (11 + k9) (nI 1), (k0, k0, 0, (nI 0), k0, k0, k0, k0, k0, k0, 0, 0, k0, 0, 0))]) := hD
      refine lv_iinc (v := nI (k9 + 1)) (lv' := [(1, .int (nI (k9 + 1))), (0, .ref (ra 0))]) hx hb dX5_init_129 hl (k := 1) rfl (nI_add k9 1) (by decide) rfl (fun ls hl => ?_)
      refine lv_goto (tgt := 113) hx hb dX5_init_132 (by decide) ?_
      have hP := kP_cell (g := (kVt 11 (fun _ => nI 1) (upd (upd (upd k0 2 (nI 3)) 3 (nI 60)) 8 (nI 2)) (k9 + 1))) hP 1 rfl (fun j _ => kVt_s rfl j)
      have hD := hD.set (p := 1) (e := .inl (cy 0, 188, .inl (kVt 11 (fun _ => nI 1) (upd (upd (upd k0 2 (nI 3)) 3 (nI 60)) 8 (nI 2)) (k9 + 1)))) rfl
      have hP : va_P D vwCl (bkF [mW cy ra (kVt 11 (fun _ => nI 1) (upd (upd (upd k0 2 (nI 3)) 3 (nI 60)) 8 (nI 2)) (k9 + 1), (k0, k0, 0, (nI 0), k0, k0, k0, k0, k0, k0, 0, 0, k0, 0, 0))]) H := hP
      have hD : va_D A (bkF [mW cy ra (kVt 11 (fun _ => nI 1) (upd (upd (upd k0 2 (nI 3)) 3 (nI 60)) 8 (nI 2)) (k9 + 1), (k0, k0, 0, (nI 0), k0, k0, k0, k0, k0, k0, 0, 0, k0, 0, 0))]) := hD
      exact ih_113 _ (by omega) (k9 + 1) rfl (by omega) ls H locs hP hD hS (lv_sub hl [1, 0] rfl)
  exact L_113 _ 0  rfl (by omega) ls H locs hP hD hS (lv_sub hl [1, 0] rfl)
