abbrev rmX5_rg : Room := { frames := 3, cells := 0, slots := 0, locals := 64 }
theorem mW_set10 {cy : Nat → ClassId} {ra : Nat → Nat} {al : Nat → Int32} {v0 : Nat → Int32} {v1 : Nat → Int32} {v2 : Nat} {v3 : Int32} {v4 : Nat → Int32} {v5 : Nat → Int32} {v6 : Nat → Int32} {v7 : Nat → Int32} {v8 : Nat → Int32} {v9 : Nat → Int32} {v10 : Nat} {v11 : Nat} {v12 : Nat → Int32} {v13 : Nat} {v14 : Nat} {g : Nat → Int32} : (bkF [mW cy ra (al, v0, v1, v2, v3, v4, v5, v6, v7, v8, v9, v10, v11, v12, v13, v14)]).set 10 (ra 10, .inl (cy 0, 64, .inl g)) = bkF [mW cy ra (al, v0, v1, v2, v3, v4, v5, v6, v7, v8, v9, v10, v11, g, v13, v14)] := rfl
set_option maxHeartbeats 4000000 in
set_option maxRecDepth 100000 in
/-- readsGuest -/
theorem c_X5_readsGuest_ln (l : Launch) (D : va_G) (cy : Nat → ClassId) (ra : Nat → Nat) (al : Nat → Int32) (v0 : Nat → Int32) (v1 : Nat → Int32) (v2 : Nat) (v3 : Int32) (v4 : Nat → Int32) (v5 : Nat → Int32) (v6 : Nat → Int32) (v7 : Nat → Int32) (v8 : Nat → Int32) (v9 : Nat → Int32) (v10 : Nat) (v11 : Nat) (v12 : Nat → Int32) (v13 : Nat) (v14 : Nat) (L : rG) (F : rG) (hby : kBy v9) (htl : v10 ≤ 100) (hpl : v11 ≤ 100) (hL8 : L.2.2.2.2.2 ≤ 8) (hF8 : F.2.2.2.2.2 ≤ 8) (hgs : v13 = L.2.2.2.2.2 + F.2.2.2.2.2) (hrl : v14 = L.2.2.2.2.2) (hsd : kIs v9 v10 v11 108) (k_43 : ¬ kDig v9 v10 (v11 + 1) 0) (sz : Nat) : Met l yX5_readsGuest wsX5_readsGuest rmX5_rg (va_Pc [.ref (ra 0)] (kPre D (kT cy) [mW cy ra (al, (v0, v1, v2, v3, v4, v5, v6, v7, v8, v9, v10, v11, v12, v13, v14))] sz)) (va_Qi (fun r_ (u_ : (Nat → Int32) × Nat × Nat) => r_ = (if (kRG v9 v10 v11 L F).1 = true then nI 1 else nI 0) ∧ True ∧ kRgP v9 v10 v11 L F v12 v13 v14 u_.1 u_.2.1 u_.2.2) (kFr D (kT cy) [mW cy ra (al, (v0, v1, v2, v3, v4, v5, v6, v7, v8, v9, v10, v11, v12, v13, v14))] sz (fun u_ : (Nat → Int32) × Nat × Nat => [mW cy ra (al, (v0, v1, v2, v3, v4, v5, v6, v7, v8, v9, v10, (kRG v9 v10 v11 L F).2.1, u_.1, u_.2.1, u_.2.2))])) (va_A (bkF [mW cy ra (al, (v0, v1, v2, v3, v4, v5, v6, v7, v8, v9, v10, v11, v12, v13, v14))]) sz)) 0 0 (va_A (bkF [mW cy ra (al, (v0, v1, v2, v3, v4, v5, v6, v7, v8, v9, v10, v11, v12, v13, v14))]) sz) := by
  refine kOpen (y := yX5_readsGuest) (ws := wsX5_readsGuest) (cc := cX5_readsGuest) (maxL := 3) (ret := (some .boolean)) (av := [.ref (ra 0)]) (Bs := [mW cy ra (al, (v0, v1, v2, v3, v4, v5, v6, v7, v8, v9, v10, v11, v12, v13, v14))]) (Qc := fun A => (va_Qi (fun r_ (u_ : (Nat → Int32) × Nat × Nat) => r_ = (if (kRG v9 v10 v11 L F).1 = true then nI 1 else nI 0) ∧ True ∧ kRgP v9 v10 v11 L F v12 v13 v14 u_.1 u_.2.1 u_.2.2) (fun (u_ : (Nat → Int32) × Nat × Nat) t9 => kEnd D (kT cy) A [mW cy ra (al, (v0, v1, v2, v3, v4, v5, v6, v7, v8, v9, v10, (kRG v9 v10 v11 L F).2.1, u_.1, u_.2.1, u_.2.2))] t9) A)) (by decide) rfl (Nat.le_of_ble_eq_true rfl) ?_
  intro p e s m args below meth c A Q ls hQ hx hb hml hr hlocks hin hts hown hN hK hP hD hS hA hsz hAe hl
  clear hAe
  have hl : lv_has ls 3 [(0, .ref (ra 0))] := hl
  suffices K9 : ∀ (H : Heap) (locs : List Loc), va_P D vwCl (bkF [mW cy ra (al, (v0, v1, v2, v3, v4, v5, v6, v7, v8, v9, v10, v11, v12, v13, v14))]) H → va_S A s.heap H locs → W p l e (headSpec wsX5_readsGuest rmX5_rg).room s m args below meth c H locs 0 0 Q (F0 m 0 ls []) from K9 _ _ hP hS
  clear hP hS
  intro H locs hP hS
  refine lv_aload_n hx hb dX5_readsGuest_0 rfl (lv_at hl 0 rfl) ?_
  refine kc_i (Cs := [mW cy ra (al, (v0, v1, v2, v3, v4, v5, v6, v7, v8, v9, v10, v11, v12, v13, v14))]) (Rs := []) (Bs := [mW cy ra (al, (v0, v1, v2, v3, v4, v5, v6, v7, v8, v9, v10, v11, v12, v13, v14))]) (Cs' := fun u_ : Unit => [mW cy ra (al, (v0, v1, v2, v3, v4, v5, v6, v7, v8, v9, v10, v11, v12, v13, v14))]) (Fs := fun u_ : Unit => [mW cy ra (al, (v0, v1, v2, v3, v4, v5, v6, v7, v8, v9, v10, v11, v12, v13, v14))]) hP hD hS hA [0] [] [0] rfl rfl (by decide) (by decide) (fun _ => rfl) (va_runV (As := []) (rest := []) ⟨hx, hb, hml, hown, hts⟩ (c_X5_here l D cy ra al (v0, v1, v2, v3, v4, v5, v6, v7, v8, v9, v10, v11, v12, v13, v14) (by (try dsimp only); first | assumption | omega | decide) (by (try dsimp only); first | assumption | omega | decide) H.size) (cwV 0 hts gX5_readsGuest_X5_here rfl rfl rfl (by decide +kernel) ⟨Nat.le_of_ble_eq_true rfl, Nat.le_of_ble_eq_true rfl⟩) (kPre_V (ci := 5) hK hN hP hD [0] (by decide) rfl 0 rfl rfl) rfl rfl hl.1 rfl (lv_room (Nat.le_of_ble_eq_true rfl)) dX5_readsGuest_1 ⟨Nat.le_of_ble_eq_true rfl, Nat.le_of_ble_eq_true rfl⟩) (fun r_ u_ H locs hw hP hD hS => ?_)
  have hw : r_ = kHr v9 v10 v11 := hw
  refine kv_i hw ?_
  clear hw
  refine lv_bipush (v := nI 108) hx hb dX5_readsGuest_4 (by decide) ?_
  refine lv_icmp_ne (tgt := 13) hx hb dX5_readsGuest_6 (by decide) (fun c_6 => False.elim ?_) (fun c_6 => ?_)
  · skip
    exact c_6 ((kHr_is (by decide)).mpr hsd)
  · skip
    have k_l : kIs v9 v10 v11 108 := (kHr_is (by decide)).mp c_6
    refine lv_iconst (v := nI 1) hx hb dX5_readsGuest_9 (by decide) ?_
    refine lv_goto (tgt := 14) hx hb dX5_readsGuest_10 (by decide) ?_
    refine lv_istore_n (lv' := [(1, .int (nI 1)), (0, .ref (ra 0))]) hx hb dX5_readsGuest_14 rfl hl (by decide) rfl (fun ls hl => ?_)
    refine lv_iload_n hx hb dX5_readsGuest_15 rfl (lv_at hl 0 rfl) ?_
    refine lv_if_eq (tgt := 26) hx hb dX5_readsGuest_16 (by decide) (fun h => absurd h (by decide)) (fun _ => ?_)
    refine lv_aload_n hx hb dX5_readsGuest_19 rfl (lv_at hl 1 rfl) ?_
    refine va_get (D := D) (ci := 5) (v := .int (nI v14)) (C := RX5) (T := TX5) (N := 16) hx hb hts (by decide +kernel) hown hK hP 0 rfl rfl 15 (by decide) (hts (.fieldLink RX5 190 "DanceHallModel" "readLeaders" "I") (by decide +kernel)) (fun _ h9 => h9) rfl dX5_readsGuest_20 ?_
    refine kv_i (y := nI L.2.2.2.2.2) (congrArg nI hrl) ?_
    refine lv_goto (tgt := 35) hx hb dX5_readsGuest_23 (by decide) ?_
    refine lv_bipush (v := nI 8) hx hb dX5_readsGuest_35 (by decide) ?_
    refine lv_icmp_ge (tgt := 44) hx hb dX5_readsGuest_37 (by decide) (fun c_37 => ?_) (fun c_37 => ?_)
    · skip
      have c_37 : 8 ≤ L.2.2.2.2.2 := (nI_leI (a := 8) (b := L.2.2.2.2.2) (by omega) (by omega)).mp c_37
      refine lv_iconst (v := nI 0) hx hb dX5_readsGuest_44 (by decide) ?_
      refine lv_istore_n (lv' := [(2, .int (nI 0)), (1, .int (nI 1)), (0, .ref (ra 0))]) hx hb dX5_readsGuest_45 rfl hl (by decide) rfl (fun ls hl => ?_)
      refine lv_iload_n hx hb dX5_readsGuest_46 rfl (lv_at hl 1 rfl) ?_
      refine lv_if_ne (tgt := 59) hx hb dX5_readsGuest_47 (by decide) (fun _ => ?_) (fun h => absurd h (by decide))
      refine lv_iload_n hx hb dX5_readsGuest_59 rfl (lv_at hl 0 rfl) ?_
      refine lv_if_ne (tgt := 65) hx hb dX5_readsGuest_60 (by decide) (fun h => absurd h (by decide)) (fun _ => ?_)
      refine lv_iconst (v := nI 0) hx hb dX5_readsGuest_63 (by decide) ?_
      have E : (kRG v9 v10 v11 L F) = (false, v11, L, F) := kRG_x1 k_l c_37
      have hP : va_P D vwCl (bkF [mW cy ra (al, (v0, v1, v2, v3, v4, v5, v6, v7, v8, v9, v10, (kRG v9 v10 v11 L F).2.1, (v12, v13, v14)))]) H := by rw [show (kRG v9 v10 v11 L F).2.1 = v11 from (by rw [E])]; exact hP
      have hD : va_D A (bkF [mW cy ra (al, (v0, v1, v2, v3, v4, v5, v6, v7, v8, v9, v10, (kRG v9 v10 v11 L F).2.1, (v12, v13, v14)))]) := by rw [show (kRG v9 v10 v11 L F).2.1 = v11 from (by rw [E])]; exact hD
      exact kr_i (post := fun r_ (u_ : (Nat → Int32) × Nat × Nat) => r_ = (if (kRG v9 v10 v11 L F).1 = true then nI 1 else nI 0) ∧ True ∧ kRgP v9 v10 v11 L F v12 v13 v14 u_.1 u_.2.1 u_.2.2) (Bs := fun u_ : (Nat → Int32) × Nat × Nat => [mW cy ra (al, (v0, v1, v2, v3, v4, v5, v6, v7, v8, v9, v10, (kRG v9 v10 v11 L F).2.1, u_.1, u_.2.1, u_.2.2))]) hx hb hr hlocks rfl (v12, v13, v14) hP hK hD hS ⟨(by rw [E]; rfl), ⟨trivial, kRG_n1 (by rw [E]; exact Bool.false_ne_true)⟩⟩ dX5_readsGuest_64 hQ
    · skip
      have c_37 : ¬ (8 ≤ L.2.2.2.2.2) := fun h => c_37 ((nI_leI (a := 8) (b := L.2.2.2.2.2) (by omega) (by omega)).mpr h)
      refine lv_iconst (v := nI 1) hx hb dX5_readsGuest_40 (by decide) ?_
      refine lv_goto (tgt := 45) hx hb dX5_readsGuest_41 (by decide) ?_
      refine lv_istore_n (lv' := [(2, .int (nI 1)), (1, .int (nI 1)), (0, .ref (ra 0))]) hx hb dX5_readsGuest_45 rfl hl (by decide) rfl (fun ls hl => ?_)
      refine lv_iload_n hx hb dX5_readsGuest_46 rfl (lv_at hl 1 rfl) ?_
      refine lv_if_ne (tgt := 59) hx hb dX5_readsGuest_47 (by decide) (fun _ => ?_) (fun h => absurd h (by decide))
      refine lv_iload_n hx hb dX5_readsGuest_59 rfl (lv_at hl 0 rfl) ?_
      refine lv_if_ne (tgt := 65) hx hb dX5_readsGuest_60 (by decide) (fun _ => ?_) (fun h => absurd h (by decide))
      refine lv_aload_n hx hb dX5_readsGuest_65 rfl (lv_at hl 2 rfl) ?_
      refine lv_dup hx hb dX5_readsGuest_66 rfl ?_
      refine va_get (D := D) (ci := 5) (v := .int (nI v11)) (C := RX5) (T := TX5) (N := 16) hx hb hts (by decide +kernel) hown hK hP 0 rfl rfl 12 (by decide) (hts (.fieldLink RX5 174 "DanceHallModel" "place" "I") (by decide +kernel)) (fun _ h9 => h9) rfl dX5_readsGuest_67 ?_
      refine lv_iconst (v := nI 1) hx hb dX5_readsGuest_70 (by decide) ?_
      refine lv_iadd hx hb dX5_readsGuest_71 ?_
      refine kv_i (y := nI (v11 + 1)) (nI_add v11 1) ?_
      refine va_put (D := D) (ci := 5) (v := .int (nI (v11 + 1))) (ty := .int) (C := RX5) (T := TX5) (N := 16) hx hb hts (by decide +kernel) tyX5 tyX5_ok nmX5 hown hK hP hD hS 0 rfl rfl 12 (by decide) (hts (.fieldLink RX5 174 "DanceHallModel" "place" "I") (by decide +kernel)) (fun _ h9 => h9) rfl (by decide +kernel) rfl rfl (Nat.le_of_ble_eq_true rfl) dX5_readsGuest_72 (fun H locs hP hD hS => ?_)
      have hP : va_P D vwCl (bkF [mW cy ra (al, (v0, v1, v2, v3, v4, v5, v6, v7, v8, v9, v10, v11 + 1, (v12, v13, v14)))]) H := hP
      have hD : va_D A (bkF [mW cy ra (al, (v0, v1, v2, v3, v4, v5, v6, v7, v8, v9, v10, v11 + 1, (v12, v13, v14)))]) := hD
      refine lv_aload_n hx hb dX5_readsGuest_75 rfl (lv_at hl 2 rfl) ?_
      skip
      · skip
        refine kc_i (Cs := [mW cy ra (al, (v0, v1, v2, v3, v4, v5, v6, v7, v8, v9, v10, v11 + 1, (v12, v13, v14)))]) (Rs := []) (Bs := [mW cy ra (al, (v0, v1, v2, v3, v4, v5, v6, v7, v8, v9, v10, v11 + 1, (v12, v13, v14)))]) (Cs' := fun u_ : Unit => [mW cy ra (al, (v0, v1, v2, v3, v4, v5, v6, v7, v8, v9, v10, (v11 + 1), upd v12 (4 * v13 + 1) (nI 0), (v13, v14)))]) (Fs := fun u_ : Unit => [mW cy ra (al, (v0, v1, v2, v3, v4, v5, v6, v7, v8, v9, v10, (v11 + 1), upd v12 (4 * v13 + 1) (nI 0), (v13, v14)))]) hP hD hS hA [0] [] [0] rfl rfl (by decide) (by decide) (fun _ => rfl) (va_runV (As := []) (rest := []) ⟨hx, hb, hml, hown, hts⟩ (c_X5_readsTokens_n l D cy ra al (v0, v1, v2, v3, v4, v5, v6, v7, v8, v9, v10, v11 + 1, (v12, v13, v14)) hby htl (by (try dsimp only); first | assumption | omega | decide) (by (try dsimp only); omega) k_43 H.size) (cwV 0 hts gX5_readsGuest_X5_readsTokens rfl rfl rfl (by decide +kernel) ⟨Nat.le_of_ble_eq_true rfl, Nat.le_of_ble_eq_true rfl⟩) (kPre_V (ci := 5) hK hN hP hD [0] (by decide) rfl 0 rfl rfl) rfl rfl hl.1 rfl (lv_room (Nat.le_of_ble_eq_true rfl)) dX5_readsGuest_76 ⟨Nat.le_of_ble_eq_true rfl, Nat.le_of_ble_eq_true rfl⟩) (fun r_ u_ H locs hw hP hD hS => ?_)
        have hw : r_ = nI 0 := hw
        refine kv_i hw ?_
        clear hw
        have hP : va_P D vwCl (bkF [mW cy ra (al, (v0, v1, v2, v3, v4, v5, v6, v7, v8, v9, v10, (v11 + 1), upd v12 (4 * v13 + 1) (nI 0), (v13, v14)))]) H := hP
        have hD : va_D A (bkF [mW cy ra (al, (v0, v1, v2, v3, v4, v5, v6, v7, v8, v9, v10, (v11 + 1), upd v12 (4 * v13 + 1) (nI 0), (v13, v14)))]) := hD
        obtain ⟨rd6, hrd6⟩ : ∃ z : Nat → Int32, z = upd v12 (4 * v13 + 1) (nI 0) := ⟨_, rfl⟩
        rw [← hrd6] at hP hD
        have hP : va_P D vwCl (bkF [mW cy ra (al, (v0, v1, v2, v3, v4, v5, v6, v7, v8, v9, v10, (v11 + 1), rd6, (v13, v14)))]) H := hP
        have hD : va_D A (bkF [mW cy ra (al, (v0, v1, v2, v3, v4, v5, v6, v7, v8, v9, v10, (v11 + 1), rd6, (v13, v14)))]) := hD
        refine lv_if_eq (tgt := 99) hx hb dX5_readsGuest_79 (by decide) (fun _ => ?_) (fun h => absurd h (by decide))
        refine lv_iconst (v := nI 0) hx hb dX5_readsGuest_99 (by decide) ?_
        have E : (kRG v9 v10 v11 L F) = (false, v11 + 1, L, F) := (kRG_l k_l c_37 (show kRT v9 v10 (v11 + 1) = (false, v11 + 1, 0, 0, 0) from (by unfold kRT; rw [if_neg k_43]))).trans (if_neg (by decide))
        have hP : va_P D vwCl (bkF [mW cy ra (al, (v0, v1, v2, v3, v4, v5, v6, v7, v8, v9, v10, (kRG v9 v10 v11 L F).2.1, rd6, (v13, v14)))]) H := by rw [show (kRG v9 v10 v11 L F).2.1 = (v11 + 1) from (by rw [E])]; exact hP
        have hD : va_D A (bkF [mW cy ra (al, (v0, v1, v2, v3, v4, v5, v6, v7, v8, v9, v10, (kRG v9 v10 v11 L F).2.1, rd6, (v13, v14)))]) := by rw [show (kRG v9 v10 v11 L F).2.1 = (v11 + 1) from (by rw [E])]; exact hD
        exact kr_i (post := fun r_ (u_ : (Nat → Int32) × Nat × Nat) => r_ = (if (kRG v9 v10 v11 L F).1 = true then nI 1 else nI 0) ∧ True ∧ kRgP v9 v10 v11 L F v12 v13 v14 u_.1 u_.2.1 u_.2.2) (Bs := fun u_ : (Nat → Int32) × Nat × Nat => [mW cy ra (al, (v0, v1, v2, v3, v4, v5, v6, v7, v8, v9, v10, (kRG v9 v10 v11 L F).2.1, u_.1, u_.2.1, u_.2.2))]) hx hb hr hlocks rfl (rd6, v13, v14) hP hK hD hS ⟨(by rw [E]; rfl), ⟨trivial, kRG_n1 (by rw [E]; exact Bool.false_ne_true)⟩⟩ dX5_readsGuest_100 hQ
set_option maxHeartbeats 4000000 in
set_option maxRecDepth 100000 in
/-- readsGuest -/
theorem c_X5_readsGuest_l1n (l : Launch) (D : va_G) (cy : Nat → ClassId) (ra : Nat → Nat) (al : Nat → Int32) (v0 : Nat → Int32) (v1 : Nat → Int32) (v2 : Nat) (v3 : Int32) (v4 : Nat → Int32) (v5 : Nat → Int32) (v6 : Nat → Int32) (v7 : Nat → Int32) (v8 : Nat → Int32) (v9 : Nat → Int32) (v10 : Nat) (v11 : Nat) (v12 : Nat → Int32) (v13 : Nat) (v14 : Nat) (L : rG) (F : rG) (hby : kBy v9) (htl : v10 ≤ 100) (hpl : v11 ≤ 100) (hL8 : L.2.2.2.2.2 ≤ 8) (hF8 : F.2.2.2.2.2 ≤ 8) (hgs : v13 = L.2.2.2.2.2 + F.2.2.2.2.2) (hrl : v14 = L.2.2.2.2.2) (hsd : kIs v9 v10 v11 108) (k_43 : kDig v9 v10 (v11 + 1) 0) (k_43b : ¬ kDig v9 v10 (v11 + 1 + 1) 0) (k_57 : ¬ kIs v9 v10 (v11 + 1 + 1) 44) (sz : Nat) : Met l yX5_readsGuest wsX5_readsGuest rmX5_rg (va_Pc [.ref (ra 0)] (kPre D (kT cy) [mW cy ra (al, (v0, v1, v2, v3, v4, v5, v6, v7, v8, v9, v10, v11, v12, v13, v14))] sz)) (va_Qi (fun r_ (u_ : (Nat → Int32) × Nat × Nat) => r_ = (if (kRG v9 v10 v11 L F).1 = true then nI 1 else nI 0) ∧ True ∧ kRgP v9 v10 v11 L F v12 v13 v14 u_.1 u_.2.1 u_.2.2) (kFr D (kT cy) [mW cy ra (al, (v0, v1, v2, v3, v4, v5, v6, v7, v8, v9, v10, v11, v12, v13, v14))] sz (fun u_ : (Nat → Int32) × Nat × Nat => [mW cy ra (al, (v0, v1, v2, v3, v4, v5, v6, v7, v8, v9, v10, (kRG v9 v10 v11 L F).2.1, u_.1, u_.2.1, u_.2.2))])) (va_A (bkF [mW cy ra (al, (v0, v1, v2, v3, v4, v5, v6, v7, v8, v9, v10, v11, v12, v13, v14))]) sz)) 0 0 (va_A (bkF [mW cy ra (al, (v0, v1, v2, v3, v4, v5, v6, v7, v8, v9, v10, v11, v12, v13, v14))]) sz) := by
  refine kOpen (y := yX5_readsGuest) (ws := wsX5_readsGuest) (cc := cX5_readsGuest) (maxL := 3) (ret := (some .boolean)) (av := [.ref (ra 0)]) (Bs := [mW cy ra (al, (v0, v1, v2, v3, v4, v5, v6, v7, v8, v9, v10, v11, v12, v13, v14))]) (Qc := fun A => (va_Qi (fun r_ (u_ : (Nat → Int32) × Nat × Nat) => r_ = (if (kRG v9 v10 v11 L F).1 = true then nI 1 else nI 0) ∧ True ∧ kRgP v9 v10 v11 L F v12 v13 v14 u_.1 u_.2.1 u_.2.2) (fun (u_ : (Nat → Int32) × Nat × Nat) t9 => kEnd D (kT cy) A [mW cy ra (al, (v0, v1, v2, v3, v4, v5, v6, v7, v8, v9, v10, (kRG v9 v10 v11 L F).2.1, u_.1, u_.2.1, u_.2.2))] t9) A)) (by decide) rfl (Nat.le_of_ble_eq_true rfl) ?_
  intro p e s m args below meth c A Q ls hQ hx hb hml hr hlocks hin hts hown hN hK hP hD hS hA hsz hAe hl
  clear hAe
  have hl : lv_has ls 3 [(0, .ref (ra 0))] := hl
  suffices K9 : ∀ (H : Heap) (locs : List Loc), va_P D vwCl (bkF [mW cy ra (al, (v0, v1, v2, v3, v4, v5, v6, v7, v8, v9, v10, v11, v12, v13, v14))]) H → va_S A s.heap H locs → W p l e (headSpec wsX5_readsGuest rmX5_rg).room s m args below meth c H locs 0 0 Q (F0 m 0 ls []) from K9 _ _ hP hS
  clear hP hS
  intro H locs hP hS
  refine lv_aload_n hx hb dX5_readsGuest_0 rfl (lv_at hl 0 rfl) ?_
  refine kc_i (Cs := [mW cy ra (al, (v0, v1, v2, v3, v4, v5, v6, v7, v8, v9, v10, v11, v12, v13, v14))]) (Rs := []) (Bs := [mW cy ra (al, (v0, v1, v2, v3, v4, v5, v6, v7, v8, v9, v10, v11, v12, v13, v14))]) (Cs' := fun u_ : Unit => [mW cy ra (al, (v0, v1, v2, v3, v4, v5, v6, v7, v8, v9, v10, v11, v12, v13, v14))]) (Fs := fun u_ : Unit => [mW cy ra (al, (v0, v1, v2, v3, v4, v5, v6, v7, v8, v9, v10, v11, v12, v13, v14))]) hP hD hS hA [0] [] [0] rfl rfl (by decide) (by decide) (fun _ => rfl) (va_runV (As := []) (rest := []) ⟨hx, hb, hml, hown, hts⟩ (c_X5_here l D cy ra al (v0, v1, v2, v3, v4, v5, v6, v7, v8, v9, v10, v11, v12, v13, v14) (by (try dsimp only); first | assumption | omega | decide) (by (try dsimp only); first | assumption | omega | decide) H.size) (cwV 0 hts gX5_readsGuest_X5_here rfl rfl rfl (by decide +kernel) ⟨Nat.le_of_ble_eq_true rfl, Nat.le_of_ble_eq_true rfl⟩) (kPre_V (ci := 5) hK hN hP hD [0] (by decide) rfl 0 rfl rfl) rfl rfl hl.1 rfl (lv_room (Nat.le_of_ble_eq_true rfl)) dX5_readsGuest_1 ⟨Nat.le_of_ble_eq_true rfl, Nat.le_of_ble_eq_true rfl⟩) (fun r_ u_ H locs hw hP hD hS => ?_)
  have hw : r_ = kHr v9 v10 v11 := hw
  refine kv_i hw ?_
  clear hw
  refine lv_bipush (v := nI 108) hx hb dX5_readsGuest_4 (by decide) ?_
  refine lv_icmp_ne (tgt := 13) hx hb dX5_readsGuest_6 (by decide) (fun c_6 => False.elim ?_) (fun c_6 => ?_)
  · skip
    exact c_6 ((kHr_is (by decide)).mpr hsd)
  · skip
    have k_l : kIs v9 v10 v11 108 := (kHr_is (by decide)).mp c_6
    refine lv_iconst (v := nI 1) hx hb dX5_readsGuest_9 (by decide) ?_
    refine lv_goto (tgt := 14) hx hb dX5_readsGuest_10 (by decide) ?_
    refine lv_istore_n (lv' := [(1, .int (nI 1)), (0, .ref (ra 0))]) hx hb dX5_readsGuest_14 rfl hl (by decide) rfl (fun ls hl => ?_)
    refine lv_iload_n hx hb dX5_readsGuest_15 rfl (lv_at hl 0 rfl) ?_
    refine lv_if_eq (tgt := 26) hx hb dX5_readsGuest_16 (by decide) (fun h => absurd h (by decide)) (fun _ => ?_)
    refine lv_aload_n hx hb dX5_readsGuest_19 rfl (lv_at hl 1 rfl) ?_
    refine va_get (D := D) (ci := 5) (v := .int (nI v14)) (C := RX5) (T := TX5) (N := 16) hx hb hts (by decide +kernel) hown hK hP 0 rfl rfl 15 (by decide) (hts (.fieldLink RX5 190 "DanceHallModel" "readLeaders" "I") (by decide +kernel)) (fun _ h9 => h9) rfl dX5_readsGuest_20 ?_
    refine kv_i (y := nI L.2.2.2.2.2) (congrArg nI hrl) ?_
    refine lv_goto (tgt := 35) hx hb dX5_readsGuest_23 (by decide) ?_
    refine lv_bipush (v := nI 8) hx hb dX5_readsGuest_35 (by decide) ?_
    refine lv_icmp_ge (tgt := 44) hx hb dX5_readsGuest_37 (by decide) (fun c_37 => ?_) (fun c_37 => ?_)
    · skip
      have c_37 : 8 ≤ L.2.2.2.2.2 := (nI_leI (a := 8) (b := L.2.2.2.2.2) (by omega) (by omega)).mp c_37
      refine lv_iconst (v := nI 0) hx hb dX5_readsGuest_44 (by decide) ?_
      refine lv_istore_n (lv' := [(2, .int (nI 0)), (1, .int (nI 1)), (0, .ref (ra 0))]) hx hb dX5_readsGuest_45 rfl hl (by decide) rfl (fun ls hl => ?_)
      refine lv_iload_n hx hb dX5_readsGuest_46 rfl (lv_at hl 1 rfl) ?_
      refine lv_if_ne (tgt := 59) hx hb dX5_readsGuest_47 (by decide) (fun _ => ?_) (fun h => absurd h (by decide))
      refine lv_iload_n hx hb dX5_readsGuest_59 rfl (lv_at hl 0 rfl) ?_
      refine lv_if_ne (tgt := 65) hx hb dX5_readsGuest_60 (by decide) (fun h => absurd h (by decide)) (fun _ => ?_)
      refine lv_iconst (v := nI 0) hx hb dX5_readsGuest_63 (by decide) ?_
      have E : (kRG v9 v10 v11 L F) = (false, v11, L, F) := kRG_x1 k_l c_37
      have hP : va_P D vwCl (bkF [mW cy ra (al, (v0, v1, v2, v3, v4, v5, v6, v7, v8, v9, v10, (kRG v9 v10 v11 L F).2.1, (v12, v13, v14)))]) H := by rw [show (kRG v9 v10 v11 L F).2.1 = v11 from (by rw [E])]; exact hP
      have hD : va_D A (bkF [mW cy ra (al, (v0, v1, v2, v3, v4, v5, v6, v7, v8, v9, v10, (kRG v9 v10 v11 L F).2.1, (v12, v13, v14)))]) := by rw [show (kRG v9 v10 v11 L F).2.1 = v11 from (by rw [E])]; exact hD
      exact kr_i (post := fun r_ (u_ : (Nat → Int32) × Nat × Nat) => r_ = (if (kRG v9 v10 v11 L F).1 = true then nI 1 else nI 0) ∧ True ∧ kRgP v9 v10 v11 L F v12 v13 v14 u_.1 u_.2.1 u_.2.2) (Bs := fun u_ : (Nat → Int32) × Nat × Nat => [mW cy ra (al, (v0, v1, v2, v3, v4, v5, v6, v7, v8, v9, v10, (kRG v9 v10 v11 L F).2.1, u_.1, u_.2.1, u_.2.2))]) hx hb hr hlocks rfl (v12, v13, v14) hP hK hD hS ⟨(by rw [E]; rfl), ⟨trivial, kRG_n1 (by rw [E]; exact Bool.false_ne_true)⟩⟩ dX5_readsGuest_64 hQ
    · skip
      have c_37 : ¬ (8 ≤ L.2.2.2.2.2) := fun h => c_37 ((nI_leI (a := 8) (b := L.2.2.2.2.2) (by omega) (by omega)).mpr h)
      refine lv_iconst (v := nI 1) hx hb dX5_readsGuest_40 (by decide) ?_
      refine lv_goto (tgt := 45) hx hb dX5_readsGuest_41 (by decide) ?_
      refine lv_istore_n (lv' := [(2, .int (nI 1)), (1, .int (nI 1)), (0, .ref (ra 0))]) hx hb dX5_readsGuest_45 rfl hl (by decide) rfl (fun ls hl => ?_)
      refine lv_iload_n hx hb dX5_readsGuest_46 rfl (lv_at hl 1 rfl) ?_
      refine lv_if_ne (tgt := 59) hx hb dX5_readsGuest_47 (by decide) (fun _ => ?_) (fun h => absurd h (by decide))
      refine lv_iload_n hx hb dX5_readsGuest_59 rfl (lv_at hl 0 rfl) ?_
      refine lv_if_ne (tgt := 65) hx hb dX5_readsGuest_60 (by decide) (fun _ => ?_) (fun h => absurd h (by decide))
      refine lv_aload_n hx hb dX5_readsGuest_65 rfl (lv_at hl 2 rfl) ?_
      refine lv_dup hx hb dX5_readsGuest_66 rfl ?_
      refine va_get (D := D) (ci := 5) (v := .int (nI v11)) (C := RX5) (T := TX5) (N := 16) hx hb hts (by decide +kernel) hown hK hP 0 rfl rfl 12 (by decide) (hts (.fieldLink RX5 174 "DanceHallModel" "place" "I") (by decide +kernel)) (fun _ h9 => h9) rfl dX5_readsGuest_67 ?_
      refine lv_iconst (v := nI 1) hx hb dX5_readsGuest_70 (by decide) ?_
      refine lv_iadd hx hb dX5_readsGuest_71 ?_
      refine kv_i (y := nI (v11 + 1)) (nI_add v11 1) ?_
      refine va_put (D := D) (ci := 5) (v := .int (nI (v11 + 1))) (ty := .int) (C := RX5) (T := TX5) (N := 16) hx hb hts (by decide +kernel) tyX5 tyX5_ok nmX5 hown hK hP hD hS 0 rfl rfl 12 (by decide) (hts (.fieldLink RX5 174 "DanceHallModel" "place" "I") (by decide +kernel)) (fun _ h9 => h9) rfl (by decide +kernel) rfl rfl (Nat.le_of_ble_eq_true rfl) dX5_readsGuest_72 (fun H locs hP hD hS => ?_)
      have hP : va_P D vwCl (bkF [mW cy ra (al, (v0, v1, v2, v3, v4, v5, v6, v7, v8, v9, v10, v11 + 1, (v12, v13, v14)))]) H := hP
      have hD : va_D A (bkF [mW cy ra (al, (v0, v1, v2, v3, v4, v5, v6, v7, v8, v9, v10, v11 + 1, (v12, v13, v14)))]) := hD
      refine lv_aload_n hx hb dX5_readsGuest_75 rfl (lv_at hl 2 rfl) ?_
      skip
      · skip
        refine kc_i (Cs := [mW cy ra (al, (v0, v1, v2, v3, v4, v5, v6, v7, v8, v9, v10, v11 + 1, (v12, v13, v14)))]) (Rs := []) (Bs := [mW cy ra (al, (v0, v1, v2, v3, v4, v5, v6, v7, v8, v9, v10, v11 + 1, (v12, v13, v14)))]) (Cs' := fun u_ : Unit => [mW cy ra (al, (v0, v1, v2, v3, v4, v5, v6, v7, v8, v9, v10, (v11 + 1) + 1, upd v12 (4 * v13 + 1) (nI (kb9 v9 (v11 + 1) - 48)), (v13, v14)))]) (Fs := fun u_ : Unit => [mW cy ra (al, (v0, v1, v2, v3, v4, v5, v6, v7, v8, v9, v10, (v11 + 1) + 1, upd v12 (4 * v13 + 1) (nI (kb9 v9 (v11 + 1) - 48)), (v13, v14)))]) hP hD hS hA [0] [] [0] rfl rfl (by decide) (by decide) (fun _ => rfl) (va_runV (As := []) (rest := []) ⟨hx, hb, hml, hown, hts⟩ (c_X5_readsTokens_1n l D cy ra al (v0, v1, v2, v3, v4, v5, v6, v7, v8, v9, v10, v11 + 1, (v12, v13, v14)) hby htl (by (try dsimp only); first | assumption | omega | decide) (by (try dsimp only); omega) k_43 k_43b k_57 H.size) (cwV 0 hts gX5_readsGuest_X5_readsTokens rfl rfl rfl (by decide +kernel) ⟨Nat.le_of_ble_eq_true rfl, Nat.le_of_ble_eq_true rfl⟩) (kPre_V (ci := 5) hK hN hP hD [0] (by decide) rfl 0 rfl rfl) rfl rfl hl.1 rfl (lv_room (Nat.le_of_ble_eq_true rfl)) dX5_readsGuest_76 ⟨Nat.le_of_ble_eq_true rfl, Nat.le_of_ble_eq_true rfl⟩) (fun r_ u_ H locs hw hP hD hS => ?_)
        have hw : r_ = nI 0 := hw
        refine kv_i hw ?_
        clear hw
        have hP : va_P D vwCl (bkF [mW cy ra (al, (v0, v1, v2, v3, v4, v5, v6, v7, v8, v9, v10, (v11 + 1) + 1, upd v12 (4 * v13 + 1) (nI (kb9 v9 (v11 + 1) - 48)), (v13, v14)))]) H := hP
        have hD : va_D A (bkF [mW cy ra (al, (v0, v1, v2, v3, v4, v5, v6, v7, v8, v9, v10, (v11 + 1) + 1, upd v12 (4 * v13 + 1) (nI (kb9 v9 (v11 + 1) - 48)), (v13, v14)))]) := hD
        obtain ⟨rd6, hrd6⟩ : ∃ z : Nat → Int32, z = upd v12 (4 * v13 + 1) (nI (kb9 v9 (v11 + 1) - 48)) := ⟨_, rfl⟩
        rw [← hrd6] at hP hD
        have hP : va_P D vwCl (bkF [mW cy ra (al, (v0, v1, v2, v3, v4, v5, v6, v7, v8, v9, v10, (v11 + 1) + 1, rd6, (v13, v14)))]) H := hP
        have hD : va_D A (bkF [mW cy ra (al, (v0, v1, v2, v3, v4, v5, v6, v7, v8, v9, v10, (v11 + 1) + 1, rd6, (v13, v14)))]) := hD
        refine lv_if_eq (tgt := 99) hx hb dX5_readsGuest_79 (by decide) (fun _ => ?_) (fun h => absurd h (by decide))
        refine lv_iconst (v := nI 0) hx hb dX5_readsGuest_99 (by decide) ?_
        have E : (kRG v9 v10 v11 L F) = (false, v11 + 1 + 1, L, F) := (kRG_l k_l c_37 (show kRT v9 v10 (v11 + 1) = (false, v11 + 1 + 1, kb9 v9 (v11 + 1) - 48, 0, 0) from (by unfold kRT; rw [if_pos k_43, if_neg k_43b]; unfold kRT2; rw [if_neg k_57]))).trans (if_neg (by decide))
        have hP : va_P D vwCl (bkF [mW cy ra (al, (v0, v1, v2, v3, v4, v5, v6, v7, v8, v9, v10, (kRG v9 v10 v11 L F).2.1, rd6, (v13, v14)))]) H := by rw [show (kRG v9 v10 v11 L F).2.1 = (v11 + 1) + 1 from (by rw [E])]; exact hP
        have hD : va_D A (bkF [mW cy ra (al, (v0, v1, v2, v3, v4, v5, v6, v7, v8, v9, v10, (kRG v9 v10 v11 L F).2.1, rd6, (v13, v14)))]) := by rw [show (kRG v9 v10 v11 L F).2.1 = (v11 + 1) + 1 from (by rw [E])]; exact hD
        exact kr_i (post := fun r_ (u_ : (Nat → Int32) × Nat × Nat) => r_ = (if (kRG v9 v10 v11 L F).1 = true then nI 1 else nI 0) ∧ True ∧ kRgP v9 v10 v11 L F v12 v13 v14 u_.1 u_.2.1 u_.2.2) (Bs := fun u_ : (Nat → Int32) × Nat × Nat => [mW cy ra (al, (v0, v1, v2, v3, v4, v5, v6, v7, v8, v9, v10, (kRG v9 v10 v11 L F).2.1, u_.1, u_.2.1, u_.2.2))]) hx hb hr hlocks rfl (rd6, v13, v14) hP hK hD hS ⟨(by rw [E]; rfl), ⟨trivial, kRG_n1 (by rw [E]; exact Bool.false_ne_true)⟩⟩ dX5_readsGuest_100 hQ
set_option maxHeartbeats 4000000 in
set_option maxRecDepth 100000 in
/-- readsGuest -/
theorem c_X5_readsGuest_l2n (l : Launch) (D : va_G) (cy : Nat → ClassId) (ra : Nat → Nat) (al : Nat → Int32) (v0 : Nat → Int32) (v1 : Nat → Int32) (v2 : Nat) (v3 : Int32) (v4 : Nat → Int32) (v5 : Nat → Int32) (v6 : Nat → Int32) (v7 : Nat → Int32) (v8 : Nat → Int32) (v9 : Nat → Int32) (v10 : Nat) (v11 : Nat) (v12 : Nat → Int32) (v13 : Nat) (v14 : Nat) (L : rG) (F : rG) (hby : kBy v9) (htl : v10 ≤ 100) (hpl : v11 ≤ 100) (hL8 : L.2.2.2.2.2 ≤ 8) (hF8 : F.2.2.2.2.2 ≤ 8) (hgs : v13 = L.2.2.2.2.2 + F.2.2.2.2.2) (hrl : v14 = L.2.2.2.2.2) (hsd : kIs v9 v10 v11 108) (k_43 : kDig v9 v10 (v11 + 1) 0) (k_43b : kDig v9 v10 (v11 + 1 + 1) 0) (k_57 : ¬ kIs v9 v10 (v11 + 1 + 1 + 1) 44) (sz : Nat) : Met l yX5_readsGuest wsX5_readsGuest rmX5_rg (va_Pc [.ref (ra 0)] (kPre D (kT cy) [mW cy ra (al, (v0, v1, v2, v3, v4, v5, v6, v7, v8, v9, v10, v11, v12, v13, v14))] sz)) (va_Qi (fun r_ (u_ : (Nat → Int32) × Nat × Nat) => r_ = (if (kRG v9 v10 v11 L F).1 = true then nI 1 else nI 0) ∧ True ∧ kRgP v9 v10 v11 L F v12 v13 v14 u_.1 u_.2.1 u_.2.2) (kFr D (kT cy) [mW cy ra (al, (v0, v1, v2, v3, v4, v5, v6, v7, v8, v9, v10, v11, v12, v13, v14))] sz (fun u_ : (Nat → Int32) × Nat × Nat => [mW cy ra (al, (v0, v1, v2, v3, v4, v5, v6, v7, v8, v9, v10, (kRG v9 v10 v11 L F).2.1, u_.1, u_.2.1, u_.2.2))])) (va_A (bkF [mW cy ra (al, (v0, v1, v2, v3, v4, v5, v6, v7, v8, v9, v10, v11, v12, v13, v14))]) sz)) 0 0 (va_A (bkF [mW cy ra (al, (v0, v1, v2, v3, v4, v5, v6, v7, v8, v9, v10, v11, v12, v13, v14))]) sz) := by
  refine kOpen (y := yX5_readsGuest) (ws := wsX5_readsGuest) (cc := cX5_readsGuest) (maxL := 3) (ret := (some .boolean)) (av := [.ref (ra 0)]) (Bs := [mW cy ra (al, (v0, v1, v2, v3, v4, v5, v6, v7, v8, v9, v10, v11, v12, v13, v14))]) (Qc := fun A => (va_Qi (fun r_ (u_ : (Nat → Int32) × Nat × Nat) => r_ = (if (kRG v9 v10 v11 L F).1 = true then nI 1 else nI 0) ∧ True ∧ kRgP v9 v10 v11 L F v12 v13 v14 u_.1 u_.2.1 u_.2.2) (fun (u_ : (Nat → Int32) × Nat × Nat) t9 => kEnd D (kT cy) A [mW cy ra (al, (v0, v1, v2, v3, v4, v5, v6, v7, v8, v9, v10, (kRG v9 v10 v11 L F).2.1, u_.1, u_.2.1, u_.2.2))] t9) A)) (by decide) rfl (Nat.le_of_ble_eq_true rfl) ?_
  intro p e s m args below meth c A Q ls hQ hx hb hml hr hlocks hin hts hown hN hK hP hD hS hA hsz hAe hl
  clear hAe
  have hl : lv_has ls 3 [(0, .ref (ra 0))] := hl
  suffices K9 : ∀ (H : Heap) (locs : List Loc), va_P D vwCl (bkF [mW cy ra (al, (v0, v1, v2, v3, v4, v5, v6, v7, v8, v9, v10, v11, v12, v13, v14))]) H → va_S A s.heap H locs → W p l e (headSpec wsX5_readsGuest rmX5_rg).room s m args below meth c H locs 0 0 Q (F0 m 0 ls []) from K9 _ _ hP hS
  clear hP hS
  intro H locs hP hS
  refine lv_aload_n hx hb dX5_readsGuest_0 rfl (lv_at hl 0 rfl) ?_
  refine kc_i (Cs := [mW cy ra (al, (v0, v1, v2, v3, v4, v5, v6, v7, v8, v9, v10, v11, v12, v13, v14))]) (Rs := []) (Bs := [mW cy ra (al, (v0, v1, v2, v3, v4, v5, v6, v7, v8, v9, v10, v11, v12, v13, v14))]) (Cs' := fun u_ : Unit => [mW cy ra (al, (v0, v1, v2, v3, v4, v5, v6, v7, v8, v9, v10, v11, v12, v13, v14))]) (Fs := fun u_ : Unit => [mW cy ra (al, (v0, v1, v2, v3, v4, v5, v6, v7, v8, v9, v10, v11, v12, v13, v14))]) hP hD hS hA [0] [] [0] rfl rfl (by decide) (by decide) (fun _ => rfl) (va_runV (As := []) (rest := []) ⟨hx, hb, hml, hown, hts⟩ (c_X5_here l D cy ra al (v0, v1, v2, v3, v4, v5, v6, v7, v8, v9, v10, v11, v12, v13, v14) (by (try dsimp only); first | assumption | omega | decide) (by (try dsimp only); first | assumption | omega | decide) H.size) (cwV 0 hts gX5_readsGuest_X5_here rfl rfl rfl (by decide +kernel) ⟨Nat.le_of_ble_eq_true rfl, Nat.le_of_ble_eq_true rfl⟩) (kPre_V (ci := 5) hK hN hP hD [0] (by decide) rfl 0 rfl rfl) rfl rfl hl.1 rfl (lv_room (Nat.le_of_ble_eq_true rfl)) dX5_readsGuest_1 ⟨Nat.le_of_ble_eq_true rfl, Nat.le_of_ble_eq_true rfl⟩) (fun r_ u_ H locs hw hP hD hS => ?_)
  have hw : r_ = kHr v9 v10 v11 := hw
  refine kv_i hw ?_
  clear hw
  refine lv_bipush (v := nI 108) hx hb dX5_readsGuest_4 (by decide) ?_
  refine lv_icmp_ne (tgt := 13) hx hb dX5_readsGuest_6 (by decide) (fun c_6 => False.elim ?_) (fun c_6 => ?_)
  · skip
    exact c_6 ((kHr_is (by decide)).mpr hsd)
  · skip
    have k_l : kIs v9 v10 v11 108 := (kHr_is (by decide)).mp c_6
    refine lv_iconst (v := nI 1) hx hb dX5_readsGuest_9 (by decide) ?_
    refine lv_goto (tgt := 14) hx hb dX5_readsGuest_10 (by decide) ?_
    refine lv_istore_n (lv' := [(1, .int (nI 1)), (0, .ref (ra 0))]) hx hb dX5_readsGuest_14 rfl hl (by decide) rfl (fun ls hl => ?_)
    refine lv_iload_n hx hb dX5_readsGuest_15 rfl (lv_at hl 0 rfl) ?_
    refine lv_if_eq (tgt := 26) hx hb dX5_readsGuest_16 (by decide) (fun h => absurd h (by decide)) (fun _ => ?_)
    refine lv_aload_n hx hb dX5_readsGuest_19 rfl (lv_at hl 1 rfl) ?_
    refine va_get (D := D) (ci := 5) (v := .int (nI v14)) (C := RX5) (T := TX5) (N := 16) hx hb hts (by decide +kernel) hown hK hP 0 rfl rfl 15 (by decide) (hts (.fieldLink RX5 190 "DanceHallModel" "readLeaders" "I") (by decide +kernel)) (fun _ h9 => h9) rfl dX5_readsGuest_20 ?_
    refine kv_i (y := nI L.2.2.2.2.2) (congrArg nI hrl) ?_
    refine lv_goto (tgt := 35) hx hb dX5_readsGuest_23 (by decide) ?_
    refine lv_bipush (v := nI 8) hx hb dX5_readsGuest_35 (by decide) ?_
    refine lv_icmp_ge (tgt := 44) hx hb dX5_readsGuest_37 (by decide) (fun c_37 => ?_) (fun c_37 => ?_)
    · skip
      have c_37 : 8 ≤ L.2.2.2.2.2 := (nI_leI (a := 8) (b := L.2.2.2.2.2) (by omega) (by omega)).mp c_37
      refine lv_iconst (v := nI 0) hx hb dX5_readsGuest_44 (by decide) ?_
      refine lv_istore_n (lv' := [(2, .int (nI 0)), (1, .int (nI 1)), (0, .ref (ra 0))]) hx hb dX5_readsGuest_45 rfl hl (by decide) rfl (fun ls hl => ?_)
      refine lv_iload_n hx hb dX5_readsGuest_46 rfl (lv_at hl 1 rfl) ?_
      refine lv_if_ne (tgt := 59) hx hb dX5_readsGuest_47 (by decide) (fun _ => ?_) (fun h => absurd h (by decide))
      refine lv_iload_n hx hb dX5_readsGuest_59 rfl (lv_at hl 0 rfl) ?_
      refine lv_if_ne (tgt := 65) hx hb dX5_readsGuest_60 (by decide) (fun h => absurd h (by decide)) (fun _ => ?_)
      refine lv_iconst (v := nI 0) hx hb dX5_readsGuest_63 (by decide) ?_
      have E : (kRG v9 v10 v11 L F) = (false, v11, L, F) := kRG_x1 k_l c_37
      have hP : va_P D vwCl (bkF [mW cy ra (al, (v0, v1, v2, v3, v4, v5, v6, v7, v8, v9, v10, (kRG v9 v10 v11 L F).2.1, (v12, v13, v14)))]) H := by rw [show (kRG v9 v10 v11 L F).2.1 = v11 from (by rw [E])]; exact hP
      have hD : va_D A (bkF [mW cy ra (al, (v0, v1, v2, v3, v4, v5, v6, v7, v8, v9, v10, (kRG v9 v10 v11 L F).2.1, (v12, v13, v14)))]) := by rw [show (kRG v9 v10 v11 L F).2.1 = v11 from (by rw [E])]; exact hD
      exact kr_i (post := fun r_ (u_ : (Nat → Int32) × Nat × Nat) => r_ = (if (kRG v9 v10 v11 L F).1 = true then nI 1 else nI 0) ∧ True ∧ kRgP v9 v10 v11 L F v12 v13 v14 u_.1 u_.2.1 u_.2.2) (Bs := fun u_ : (Nat → Int32) × Nat × Nat => [mW cy ra (al, (v0, v1, v2, v3, v4, v5, v6, v7, v8, v9, v10, (kRG v9 v10 v11 L F).2.1, u_.1, u_.2.1, u_.2.2))]) hx hb hr hlocks rfl (v12, v13, v14) hP hK hD hS ⟨(by rw [E]; rfl), ⟨trivial, kRG_n1 (by rw [E]; exact Bool.false_ne_true)⟩⟩ dX5_readsGuest_64 hQ
    · skip
      have c_37 : ¬ (8 ≤ L.2.2.2.2.2) := fun h => c_37 ((nI_leI (a := 8) (b := L.2.2.2.2.2) (by omega) (by omega)).mpr h)
      refine lv_iconst (v := nI 1) hx hb dX5_readsGuest_40 (by decide) ?_
      refine lv_goto (tgt := 45) hx hb dX5_readsGuest_41 (by decide) ?_
      refine lv_istore_n (lv' := [(2, .int (nI 1)), (1, .int (nI 1)), (0, .ref (ra 0))]) hx hb dX5_readsGuest_45 rfl hl (by decide) rfl (fun ls hl => ?_)
      refine lv_iload_n hx hb dX5_readsGuest_46 rfl (lv_at hl 1 rfl) ?_
      refine lv_if_ne (tgt := 59) hx hb dX5_readsGuest_47 (by decide) (fun _ => ?_) (fun h => absurd h (by decide))
      refine lv_iload_n hx hb dX5_readsGuest_59 rfl (lv_at hl 0 rfl) ?_
      refine lv_if_ne (tgt := 65) hx hb dX5_readsGuest_60 (by decide) (fun _ => ?_) (fun h => absurd h (by decide))
      refine lv_aload_n hx hb dX5_readsGuest_65 rfl (lv_at hl 2 rfl) ?_
      refine lv_dup hx hb dX5_readsGuest_66 rfl ?_
      refine va_get (D := D) (ci := 5) (v := .int (nI v11)) (C := RX5) (T := TX5) (N := 16) hx hb hts (by decide +kernel) hown hK hP 0 rfl rfl 12 (by decide) (hts (.fieldLink RX5 174 "DanceHallModel" "place" "I") (by decide +kernel)) (fun _ h9 => h9) rfl dX5_readsGuest_67 ?_
      refine lv_iconst (v := nI 1) hx hb dX5_readsGuest_70 (by decide) ?_
      refine lv_iadd hx hb dX5_readsGuest_71 ?_
      refine kv_i (y := nI (v11 + 1)) (nI_add v11 1) ?_
      refine va_put (D := D) (ci := 5) (v := .int (nI (v11 + 1))) (ty := .int) (C := RX5) (T := TX5) (N := 16) hx hb hts (by decide +kernel) tyX5 tyX5_ok nmX5 hown hK hP hD hS 0 rfl rfl 12 (by decide) (hts (.fieldLink RX5 174 "DanceHallModel" "place" "I") (by decide +kernel)) (fun _ h9 => h9) rfl (by decide +kernel) rfl rfl (Nat.le_of_ble_eq_true rfl) dX5_readsGuest_72 (fun H locs hP hD hS => ?_)
      have hP : va_P D vwCl (bkF [mW cy ra (al, (v0, v1, v2, v3, v4, v5, v6, v7, v8, v9, v10, v11 + 1, (v12, v13, v14)))]) H := hP
      have hD : va_D A (bkF [mW cy ra (al, (v0, v1, v2, v3, v4, v5, v6, v7, v8, v9, v10, v11 + 1, (v12, v13, v14)))]) := hD
      refine lv_aload_n hx hb dX5_readsGuest_75 rfl (lv_at hl 2 rfl) ?_
      skip
      · skip
        refine kc_i (Cs := [mW cy ra (al, (v0, v1, v2, v3, v4, v5, v6, v7, v8, v9, v10, v11 + 1, (v12, v13, v14)))]) (Rs := []) (Bs := [mW cy ra (al, (v0, v1, v2, v3, v4, v5, v6, v7, v8, v9, v10, v11 + 1, (v12, v13, v14)))]) (Cs' := fun u_ : Unit => [mW cy ra (al, (v0, v1, v2, v3, v4, v5, v6, v7, v8, v9, v10, (v11 + 1) + 1 + 1, upd v12 (4 * v13 + 1) (nI (10 * (kb9 v9 (v11 + 1) - 48) + (kb9 v9 ((v11 + 1) + 1) - 48))), (v13, v14)))]) (Fs := fun u_ : Unit => [mW cy ra (al, (v0, v1, v2, v3, v4, v5, v6, v7, v8, v9, v10, (v11 + 1) + 1 + 1, upd v12 (4 * v13 + 1) (nI (10 * (kb9 v9 (v11 + 1) - 48) + (kb9 v9 ((v11 + 1) + 1) - 48))), (v13, v14)))]) hP hD hS hA [0] [] [0] rfl rfl (by decide) (by decide) (fun _ => rfl) (va_runV (As := []) (rest := []) ⟨hx, hb, hml, hown, hts⟩ (c_X5_readsTokens_2n l D cy ra al (v0, v1, v2, v3, v4, v5, v6, v7, v8, v9, v10, v11 + 1, (v12, v13, v14)) hby htl (by (try dsimp only); first | assumption | omega | decide) (by (try dsimp only); omega) k_43 k_43b k_57 H.size) (cwV 0 hts gX5_readsGuest_X5_readsTokens rfl rfl rfl (by decide +kernel) ⟨Nat.le_of_ble_eq_true rfl, Nat.le_of_ble_eq_true rfl⟩) (kPre_V (ci := 5) hK hN hP hD [0] (by decide) rfl 0 rfl rfl) rfl rfl hl.1 rfl (lv_room (Nat.le_of_ble_eq_true rfl)) dX5_readsGuest_76 ⟨Nat.le_of_ble_eq_true rfl, Nat.le_of_ble_eq_true rfl⟩) (fun r_ u_ H locs hw hP hD hS => ?_)
        have hw : r_ = nI 0 := hw
        refine kv_i hw ?_
        clear hw
        have hP : va_P D vwCl (bkF [mW cy ra (al, (v0, v1, v2, v3, v4, v5, v6, v7, v8, v9, v10, (v11 + 1) + 1 + 1, upd v12 (4 * v13 + 1) (nI (10 * (kb9 v9 (v11 + 1) - 48) + (kb9 v9 ((v11 + 1) + 1) - 48))), (v13, v14)))]) H := hP
        have hD : va_D A (bkF [mW cy ra (al, (v0, v1, v2, v3, v4, v5, v6, v7, v8, v9, v10, (v11 + 1) + 1 + 1, upd v12 (4 * v13 + 1) (nI (10 * (kb9 v9 (v11 + 1) - 48) + (kb9 v9 ((v11 + 1) + 1) - 48))), (v13, v14)))]) := hD
        obtain ⟨rd6, hrd6⟩ : ∃ z : Nat → Int32, z = upd v12 (4 * v13 + 1) (nI (10 * (kb9 v9 (v11 + 1) - 48) + (kb9 v9 ((v11 + 1) + 1) - 48))) := ⟨_, rfl⟩
        rw [← hrd6] at hP hD
        have hP : va_P D vwCl (bkF [mW cy ra (al, (v0, v1, v2, v3, v4, v5, v6, v7, v8, v9, v10, (v11 + 1) + 1 + 1, rd6, (v13, v14)))]) H := hP
        have hD : va_D A (bkF [mW cy ra (al, (v0, v1, v2, v3, v4, v5, v6, v7, v8, v9, v10, (v11 + 1) + 1 + 1, rd6, (v13, v14)))]) := hD
        refine lv_if_eq (tgt := 99) hx hb dX5_readsGuest_79 (by decide) (fun _ => ?_) (fun h => absurd h (by decide))
        refine lv_iconst (v := nI 0) hx hb dX5_readsGuest_99 (by decide) ?_
        have E : (kRG v9 v10 v11 L F) = (false, v11 + 1 + 1 + 1, L, F) := (kRG_l k_l c_37 (show kRT v9 v10 (v11 + 1) = (false, v11 + 1 + 1 + 1, 10 * (kb9 v9 (v11 + 1) - 48) + (kb9 v9 (v11 + 1 + 1) - 48), 0, 0) from (by unfold kRT; rw [if_pos k_43, if_pos k_43b]; unfold kRT2; rw [if_neg k_57]))).trans (if_neg (by decide))
        have hP : va_P D vwCl (bkF [mW cy ra (al, (v0, v1, v2, v3, v4, v5, v6, v7, v8, v9, v10, (kRG v9 v10 v11 L F).2.1, rd6, (v13, v14)))]) H := by rw [show (kRG v9 v10 v11 L F).2.1 = (v11 + 1) + 1 + 1 from (by rw [E])]; exact hP
        have hD : va_D A (bkF [mW cy ra (al, (v0, v1, v2, v3, v4, v5, v6, v7, v8, v9, v10, (kRG v9 v10 v11 L F).2.1, rd6, (v13, v14)))]) := by rw [show (kRG v9 v10 v11 L F).2.1 = (v11 + 1) + 1 + 1 from (by rw [E])]; exact hD
        exact kr_i (post := fun r_ (u_ : (Nat → Int32) × Nat × Nat) => r_ = (if (kRG v9 v10 v11 L F).1 = true then nI 1 else nI 0) ∧ True ∧ kRgP v9 v10 v11 L F v12 v13 v14 u_.1 u_.2.1 u_.2.2) (Bs := fun u_ : (Nat → Int32) × Nat × Nat => [mW cy ra (al, (v0, v1, v2, v3, v4, v5, v6, v7, v8, v9, v10, (kRG v9 v10 v11 L F).2.1, u_.1, u_.2.1, u_.2.2))]) hx hb hr hlocks rfl (rd6, v13, v14) hP hK hD hS ⟨(by rw [E]; rfl), ⟨trivial, kRG_n1 (by rw [E]; exact Bool.false_ne_true)⟩⟩ dX5_readsGuest_100 hQ
