abbrev rm_L_up : Room := { frames := 0, cells := 0, slots := 0, locals := 0 }
set_option maxHeartbeats 1000000 in
set_option maxRecDepth 100000 in
/-- up -/
theorem c_L_up (l : Launch) (D : va_G) (cy : Nat → ClassId) (v : Int32) (n : Nat) (h0 : 0 < n) (hn : n < 2 ^ 31) (sz : Nat) : Met l yL_up wsL_up rm_L_up (va_Pc [.int v, .int (nI n)] (kPre D (kT cy) [] sz)) (va_Qi (fun r_ (u_ : Unit) => r_ = nI (kUp v n)) (kFr D (kT cy) [] sz (fun u_ : Unit => [])) (va_A (bkF []) sz)) 0 0 (va_A (bkF []) sz) := by
  refine kOpen (y := yL_up) (ws := wsL_up) (cc := cL_up) (maxL := 2) (ret := (some .int)) (av := [.int v, .int (nI n)]) (Bs := []) (Qc := fun A => (va_Qi (fun r_ (u_ : Unit) => r_ = nI (kUp v n)) (fun (u_ : Unit) t9 => kEnd D (kT cy) A [] t9) A)) (by decide) rfl (Nat.le_of_ble_eq_true rfl) ?_
  intro p e s m args below meth c A Q ls hQ hx hb hml hr hlocks hin hts hown hN hK hP hD hS hA hsz hAe hl
  clear hAe
  have hl : lv_has ls 2 [(0, .int v), (1, .int (nI n))] := hl
  suffices K9 : ∀ (H : Heap) (locs : List Loc), va_P D vwCl (bkF []) H → va_S A s.heap H locs → W p l e (headSpec wsL_up rm_L_up).room s m args below meth c H locs 0 0 Q (F0 m 0 ls []) from K9 _ _ hP hS
  clear hP hS
  intro H locs hP hS
  refine lv_iload_n hx hb dL_up_0 rfl (lv_at hl 0 rfl) ?_
  refine lv_ldc hx hb hown (hts (.constant RL 8 (2147483647)) (by decide +kernel)) dL_up_1 ?_
  refine lv_iand hx hb dL_up_3 ?_
  refine lv_iload_n hx hb dL_up_4 rfl (lv_at hl 1 rfl) ?_
  refine lv_irem hx hb dL_up_5 (fun q => by have := (nI_eq (a := n) (b := 0) (by omega) (by omega)).mp q; omega) ?_
  refine kv_i (y := nI (kUp v n)) (kUp_ok v h0 hn) ?_
  exact kr_i (post := fun r_ (u_ : Unit) => r_ = nI (kUp v n)) (Bs := fun u_ : Unit => []) hx hb hr hlocks rfl () hP hK hD hS rfl dL_up_6 hQ
abbrev rm_L_other : Room := { frames := 0, cells := 0, slots := 0, locals := 0 }
set_option maxHeartbeats 1000000 in
set_option maxRecDepth 100000 in
/-- other -/
theorem c_L_other (l : Launch) (D : va_G) (cy : Nat → ClassId) (v : Int32) (sz : Nat) : Met l yL_other wsL_other rm_L_other (va_Pc [.int v] (kPre D (kT cy) [] sz)) (va_Qi (fun r_ (u_ : Unit) => r_ = kOth v) (kFr D (kT cy) [] sz (fun u_ : Unit => [])) (va_A (bkF []) sz)) 0 0 (va_A (bkF []) sz) := by
  refine kOpen (y := yL_other) (ws := wsL_other) (cc := cL_other) (maxL := 1) (ret := (some .int)) (av := [.int v]) (Bs := []) (Qc := fun A => (va_Qi (fun r_ (u_ : Unit) => r_ = kOth v) (fun (u_ : Unit) t9 => kEnd D (kT cy) A [] t9) A)) (by decide) rfl (Nat.le_of_ble_eq_true rfl) ?_
  intro p e s m args below meth c A Q ls hQ hx hb hml hr hlocks hin hts hown hN hK hP hD hS hA hsz hAe hl
  clear hAe
  have hl : lv_has ls 1 [(0, .int v)] := hl
  suffices K9 : ∀ (H : Heap) (locs : List Loc), va_P D vwCl (bkF []) H → va_S A s.heap H locs → W p l e (headSpec wsL_other rm_L_other).room s m args below meth c H locs 0 0 Q (F0 m 0 ls []) from K9 _ _ hP hS
  clear hP hS
  intro H locs hP hS
  refine lv_iload_n hx hb dL_other_0 rfl (lv_at hl 0 rfl) ?_
  refine lv_if_ge (tgt := 8) hx hb dL_other_1 (by decide) (fun c_1 => ?_) (fun c_1 => ?_)
  · skip
    refine lv_iconst (v := nI 2) hx hb dL_other_8 (by decide) ?_
    refine lv_iload_n hx hb dL_other_9 rfl (lv_at hl 0 rfl) ?_
    refine lv_imul hx hb dL_other_10 ?_
    refine lv_iconst (v := nI 1) hx hb dL_other_11 (by decide) ?_
    refine lv_iadd hx hb dL_other_12 ?_
    exact kr_i (post := fun r_ (u_ : Unit) => r_ = kOth v) (Bs := fun u_ : Unit => []) hx hb hr hlocks rfl () hP hK hD hS (by unfold kOth; first | rw [if_pos (Int32.not_le.mp c_1)] | rw [if_neg (Int32.not_lt.mpr c_1)]) dL_other_13 hQ
  · skip
    refine lv_iload_n hx hb dL_other_4 rfl (lv_at hl 0 rfl) ?_
    refine lv_goto (tgt := 13) hx hb dL_other_5 (by decide) ?_
    exact kr_i (post := fun r_ (u_ : Unit) => r_ = kOth v) (Bs := fun u_ : Unit => []) hx hb hr hlocks rfl () hP hK hD hS (by unfold kOth; first | rw [if_pos (Int32.not_le.mp c_1)] | rw [if_neg (Int32.not_lt.mpr c_1)]) dL_other_13 hQ
abbrev rm_L_isSound : Room := { frames := 13, cells := 0, slots := 0, locals := 323 }
set_option maxHeartbeats 1000000 in
set_option maxRecDepth 100000 in
/-- isSound -/
theorem c_L_isSound (l : Launch) (D : va_G) (cy : Nat → ClassId) (o : Nat → Nat) (a : Nat → Nat) (b : Nat → Nat) (fa : Nat → Nat) (ta : Nat → Nat) (sc : Nat) (X : rS) (Fl : rF) (hg : vGd X) (sz : Nat) : Met l yL_isSound wsL_isSound rm_L_isSound (va_Pc [.ref (o 0)] (kPre D (kT cy) [jO o (a, b, fa, ta, sc), sO a X.1, gW cy a 1 X.2.1, gW cy a 7 X.2.2.1, sA cy a X.2.2.2.1, rW cy a X.2.2.2.2, fW cy fa Fl] sz)) (va_Qi (fun r_ (u_ : rF) => r_ = nI 1) (kFr D (kT cy) [jO o (a, b, fa, ta, sc), sO a X.1, gW cy a 1 X.2.1, gW cy a 7 X.2.2.1, sA cy a X.2.2.2.1, rW cy a X.2.2.2.2, fW cy fa Fl] sz (fun u_ : rF => [jO o (a, b, fa, ta, sc), sO a X.1, gW cy a 1 X.2.1, gW cy a 7 X.2.2.1, sA cy a X.2.2.2.1, rW cy a X.2.2.2.2, fW cy fa u_])) (va_A (bkF [jO o (a, b, fa, ta, sc), sO a X.1, gW cy a 1 X.2.1, gW cy a 7 X.2.2.1, sA cy a X.2.2.2.1, rW cy a X.2.2.2.2, fW cy fa Fl]) sz)) 0 0 (va_A (bkF [jO o (a, b, fa, ta, sc), sO a X.1, gW cy a 1 X.2.1, gW cy a 7 X.2.2.1, sA cy a X.2.2.2.1, rW cy a X.2.2.2.2, fW cy fa Fl]) sz) := by
  refine kOpen (y := yL_isSound) (ws := wsL_isSound) (cc := cL_isSound) (maxL := 5) (ret := (some .boolean)) (av := [.ref (o 0)]) (Bs := [jO o (a, b, fa, ta, sc), sO a X.1, gW cy a 1 X.2.1, gW cy a 7 X.2.2.1, sA cy a X.2.2.2.1, rW cy a X.2.2.2.2, fW cy fa Fl]) (Qc := fun A => (va_Qi (fun r_ (u_ : rF) => r_ = nI 1) (fun (u_ : rF) t9 => kEnd D (kT cy) A [jO o (a, b, fa, ta, sc), sO a X.1, gW cy a 1 X.2.1, gW cy a 7 X.2.2.1, sA cy a X.2.2.2.1, rW cy a X.2.2.2.2, fW cy fa u_] t9) A)) (by decide) rfl (Nat.le_of_ble_eq_true rfl) ?_
  intro p e s m args below meth c A Q ls hQ hx hb hml hr hlocks hin hts hown hN hK hP hD hS hA hsz hAe hl
  clear hAe
  have hl : lv_has ls 5 [(0, .ref (o 0))] := hl
  suffices K9 : ∀ (H : Heap) (locs : List Loc), va_P D vwCl (bkF [jO o (a, b, fa, ta, sc), sO a X.1, gW cy a 1 X.2.1, gW cy a 7 X.2.2.1, sA cy a X.2.2.2.1, rW cy a X.2.2.2.2, fW cy fa Fl]) H → va_S A s.heap H locs → W p l e (headSpec wsL_isSound rm_L_isSound).room s m args below meth c H locs 0 0 Q (F0 m 0 ls []) from K9 _ _ hP hS
  clear hP hS
  intro H locs hP hS
  have hb1 : kBo X.2.1.2.2.1 := hg.1.2.1.2.1
  have hb2 : kBo X.2.1.2.2.2.1 := hg.1.2.1.2.2
  have hb3 : kBo X.2.2.1.2.2.1 := hg.1.2.2.1.2.1
  have hb4 : kBo X.2.2.1.2.2.2.1 := hg.1.2.2.1.2.2
  have hnl : X.2.1.2.2.2.2.2 ≤ 8 := hg.1.2.1.1.1
  have hnf : X.2.2.1.2.2.2.2.2 ≤ 8 := hg.1.2.2.1.1.1
  have hsl : kSz X.2.1 := hg.1.2.1.1.2
  have hsf : kSz X.2.2.1 := hg.1.2.2.1.1.2
  have hla : X.1.1 ≤ 6 := hg.1.1.1
  have ho9 : X.1.2.1 ≤ 999 := hg.1.1.2.1
  have hdn : X.1.2.2.2.2.2.2.1 ≤ 30 := hg.1.1.2.2
  have hf1 : 1 ≤ X.1.2.2.2.1 := hg.1.2.2.2.1.1.1
  have hfn : X.1.2.2.2.1 ≤ 4 := hg.1.2.2.2.1.1.2
  have hl1 : 1 ≤ X.1.1 := hg.1.2.2.2.1.2
  have hps : ¬ ksum X.2.2.2.1.2.1 X.1.2.2.2.1 ≤ 0 := vP_sum hg.2 hf1 hfn
  have hok : kOkS (X.1, X.2.1, X.2.2.1, X.2.2.2.2) := vI_S hg.1
  have hcp := vCP_64 X
  refine lv_iconst (v := nI 0) hx hb dL_isSound_0 (by decide) ?_
  refine lv_istore_n (lv' := [(1, .int (nI 0)), (0, .ref (o 0))]) hx hb dL_isSound_1 rfl hl (by decide) rfl (fun ls hl => ?_)
  refine lv_iconst (v := nI 0) hx hb dL_isSound_2 (by decide) ?_
  refine lv_istore_n (lv' := [(2, .int (nI 0)), (1, .int (nI 0)), (0, .ref (o 0))]) hx hb dL_isSound_3 rfl hl (by decide) rfl (fun ls hl => ?_)
  refine lv_iconst (v := nI 0) hx hb dL_isSound_4 (by decide) ?_
  refine lv_istore_n (lv' := [(3, .int (nI 0)), (2, .int (nI 0)), (1, .int (nI 0)), (0, .ref (o 0))]) hx hb dL_isSound_5 rfl hl (by decide) rfl (fun ls hl => ?_)
  have L_6 : ∀ (n9 : Nat) (i : Nat) (F7 : rF), X.2.1.2.2.2.2.2 - i = n9 → (i ≤ X.2.1.2.2.2.2.2) → ∀ (ls : Array Slot) (H : Heap) (locs : List Loc), va_P D vwCl (bkF [jO o (a, b, fa, ta, sc), sO a X.1, gW cy a 1 X.2.1, gW cy a 7 X.2.2.1, sA cy a X.2.2.2.1, rW cy a X.2.2.2.2, fW cy fa F7]) H → va_D A (bkF [jO o (a, b, fa, ta, sc), sO a X.1, gW cy a 1 X.2.1, gW cy a 7 X.2.2.1, sA cy a X.2.2.2.1, rW cy a X.2.2.2.2, fW cy fa F7]) → va_S A s.heap H locs → lv_has ls 5 [(0, .ref (o 0)), (1, .int (nI (vDl X i))), (2, .int (nI (vPr X i))), (3, .int (nI i))] → W p l e (headSpec wsL_isSound rm_L_isSound).room s m args below meth c H locs 0 0 Q (F0 m 6 ls []) := by
    intro n9
    induction n9 using Nat.strongRecOn with
    | _ n9 ih_6 =>
    intro i F7 hm_6 h6_0 ls H locs hP hD hS hl
    refine lv_iload_n hx hb dL_isSound_6 rfl (lv_at hl 3 rfl) ?_
    refine lv_aload_n hx hb dL_isSound_7 rfl (lv_at hl 0 rfl) ?_
    refine lv_iconst (v := nI 0) hx hb dL_isSound_8 (by decide) ?_
    refine kc_i (Cs := [jO o (a, b, fa, ta, sc), sO a X.1, gW cy a 1 X.2.1, gW cy a 7 X.2.2.1, sA cy a X.2.2.2.1, rW cy a X.2.2.2.2]) (Rs := [fW cy fa F7]) (Bs := [jO o (a, b, fa, ta, sc), sO a X.1, gW cy a 1 X.2.1, gW cy a 7 X.2.2.1, sA cy a X.2.2.2.1, rW cy a X.2.2.2.2, fW cy fa F7]) (Cs' := fun u_ : Unit => [jO o (a, b, fa, ta, sc), sO a X.1, gW cy a 1 X.2.1, gW cy a 7 X.2.2.1, sA cy a X.2.2.2.1, rW cy a X.2.2.2.2]) (Fs := fun u_ : Unit => [jO o (a, b, fa, ta, sc), sO a X.1, gW cy a 1 X.2.1, gW cy a 7 X.2.2.1, sA cy a X.2.2.2.1, rW cy a X.2.2.2.2, fW cy fa F7]) hP hD hS hA [0, 1, 2, 3, 4, 5] [6] [1, 2, 3, 4, 5, 6, 0] rfl rfl (by decide) (by decide) (fun _ => rfl) (va_runV (As := [.int (nI 0)]) (rest := [.int (nI i)]) ⟨hx, hb, hml, hown, hts⟩ (c_X4_value l D cy 0 o a b fa ta sc X.1 X.2.1 X.2.2.1 X.2.2.2.1 X.2.2.2.2 (by first | assumption | omega | decide) (by first | assumption | omega | decide) (by first | assumption | omega | decide) (by first | assumption | omega | decide) H.size) (cwV 1 hts gL_isSound_X4_value rfl rfl rfl (by decide +kernel) ⟨Nat.le_of_ble_eq_true rfl, Nat.le_of_ble_eq_true rfl⟩) (kPre_V (ci := 4) hK hN hP hD [0, 1, 2, 3, 4, 5] (by decide) rfl 0 rfl rfl) rfl rfl hl.1 rfl (lv_room (Nat.le_of_ble_eq_true rfl)) dL_isSound_9 ⟨Nat.le_of_ble_eq_true rfl, Nat.le_of_ble_eq_true rfl⟩) (fun r_ u_ H locs hw hP hD hS => ?_)
    have hw : r_ = knum X.1 X.2.1 X.2.2.1 X.2.2.2.1 X.2.2.2.2 0 := hw
    refine kv_i hw ?_
    clear hw
    refine kv_i (y := nI X.2.1.2.2.2.2.2) rfl ?_
    refine lv_icmp_ge (tgt := 69) hx hb dL_isSound_12 (by decide) (fun c_12 => ?_) (fun c_12 => ?_)
    · skip
      have c_12 : X.2.1.2.2.2.2.2 ≤ i := (nI_leI (a := X.2.1.2.2.2.2.2) (b := i) (by omega) (by omega)).mp c_12
      have hl : lv_has ls 5 [(0, .ref (o 0)), (1, .int (nI (vDf X 0))), (2, .int (nI (vPr X i))), (3, .int (nI i))] := by rw [show nI (vDf X 0) = nI (vDl X i) from (by rw [show i = X.2.1.2.2.2.2.2 from by omega, vDf_0, vDl_n hg])]; exact hl
      have hl : lv_has ls 5 [(0, .ref (o 0)), (1, .int (nI (vDf X 0))), (2, .int (nI (vCP X))), (3, .int (nI i))] := by rw [show nI (vCP X) = nI (vPr X i) from (by rw [show i = X.2.1.2.2.2.2.2 from by omega, vPr_n hg])]; exact hl
      refine lv_iconst (v := nI 0) hx hb dL_isSound_69 (by decide) ?_
      refine lv_istore_n (lv' := [(3, .int (nI 0)), (0, .ref (o 0)), (1, .int (nI (vDf X 0))), (2, .int (nI (vCP X)))]) hx hb dL_isSound_70 rfl hl (by decide) rfl (fun ls hl => ?_)
      have L_71 : ∀ (n9 : Nat) (j : Nat) (F9 : rF), X.2.2.1.2.2.2.2.2 - j = n9 → (j ≤ X.2.2.1.2.2.2.2.2) → ∀ (ls : Array Slot) (H : Heap) (locs : List Loc), va_P D vwCl (bkF [jO o (a, b, fa, ta, sc), sO a X.1, gW cy a 1 X.2.1, gW cy a 7 X.2.2.1, sA cy a X.2.2.2.1, rW cy a X.2.2.2.2, fW cy fa F9]) H → va_D A (bkF [jO o (a, b, fa, ta, sc), sO a X.1, gW cy a 1 X.2.1, gW cy a 7 X.2.2.1, sA cy a X.2.2.2.1, rW cy a X.2.2.2.2, fW cy fa F9]) → va_S A s.heap H locs → lv_has ls 5 [(0, .ref (o 0)), (1, .int (nI (vDf X j))), (2, .int (nI (vCP X))), (3, .int (nI j))] → W p l e (headSpec wsL_isSound rm_L_isSound).room s m args below meth c H locs 0 0 Q (F0 m 71 ls []) := by
        intro n9
        induction n9 using Nat.strongRecOn with
        | _ n9 ih_71 =>
        intro j F9 hm_71 h71_0 ls H locs hP hD hS hl
        refine lv_iload_n hx hb dL_isSound_71 rfl (lv_at hl 3 rfl) ?_
        refine lv_aload_n hx hb dL_isSound_72 rfl (lv_at hl 0 rfl) ?_
        refine lv_iconst (v := nI 1) hx hb dL_isSound_73 (by decide) ?_
        refine kc_i (Cs := [jO o (a, b, fa, ta, sc), sO a X.1, gW cy a 1 X.2.1, gW cy a 7 X.2.2.1, sA cy a X.2.2.2.1, rW cy a X.2.2.2.2]) (Rs := [fW cy fa F9]) (Bs := [jO o (a, b, fa, ta, sc), sO a X.1, gW cy a 1 X.2.1, gW cy a 7 X.2.2.1, sA cy a X.2.2.2.1, rW cy a X.2.2.2.2, fW cy fa F9]) (Cs' := fun u_ : Unit => [jO o (a, b, fa, ta, sc), sO a X.1, gW cy a 1 X.2.1, gW cy a 7 X.2.2.1, sA cy a X.2.2.2.1, rW cy a X.2.2.2.2]) (Fs := fun u_ : Unit => [jO o (a, b, fa, ta, sc), sO a X.1, gW cy a 1 X.2.1, gW cy a 7 X.2.2.1, sA cy a X.2.2.2.1, rW cy a X.2.2.2.2, fW cy fa F9]) hP hD hS hA [0, 1, 2, 3, 4, 5] [6] [1, 2, 3, 4, 5, 6, 0] rfl rfl (by decide) (by decide) (fun _ => rfl) (va_runV (As := [.int (nI 1)]) (rest := [.int (nI j)]) ⟨hx, hb, hml, hown, hts⟩ (c_X4_value l D cy 1 o a b fa ta sc X.1 X.2.1 X.2.2.1 X.2.2.2.1 X.2.2.2.2 (by first | assumption | omega | decide) (by first | assumption | omega | decide) (by first | assumption | omega | decide) (by first | assumption | omega | decide) H.size) (cwV 1 hts gL_isSound_X4_value rfl rfl rfl (by decide +kernel) ⟨Nat.le_of_ble_eq_true rfl, Nat.le_of_ble_eq_true rfl⟩) (kPre_V (ci := 4) hK hN hP hD [0, 1, 2, 3, 4, 5] (by decide) rfl 0 rfl rfl) rfl rfl hl.1 rfl (lv_room (Nat.le_of_ble_eq_true rfl)) dL_isSound_74 ⟨Nat.le_of_ble_eq_true rfl, Nat.le_of_ble_eq_true rfl⟩) (fun r_ u_ H locs hw hP hD hS => ?_)
        have hw : r_ = knum X.1 X.2.1 X.2.2.1 X.2.2.2.1 X.2.2.2.2 1 := hw
        refine kv_i hw ?_
        clear hw
        refine kv_i (y := nI X.2.2.1.2.2.2.2.2) rfl ?_
        refine lv_icmp_ge (tgt := 97) hx hb dL_isSound_77 (by decide) (fun c_77 => ?_) (fun c_77 => ?_)
        · skip
          have c_77 : X.2.2.1.2.2.2.2.2 ≤ j := (nI_leI (a := X.2.2.1.2.2.2.2.2) (b := j) (by omega) (by omega)).mp c_77
          refine lv_iload_n hx hb dL_isSound_97 rfl (lv_at hl 1 rfl) ?_
          refine lv_if_ne (tgt := 175) hx hb dL_isSound_98 (by decide) (fun c_98 => False.elim ?_) (fun c_98 => ?_)
          · skip
            have c_98 : ¬ ((vDf X j) = 0) := fun h => c_98 ((nI_eq (a := vDf X j) (b := 0) (by have := vDf_le X j; omega) (by have := vDf_le X j; omega)).mpr h)
            exact c_98 (by rw [show j = X.2.2.1.2.2.2.2.2 from by omega]; exact vDf_n hg)
          · skip
            have c_98 : (vDf X j) = 0 := (nI_eq (a := vDf X j) (b := 0) (by have := vDf_le X j; omega) (by have := vDf_le X j; omega)).mp c_98
            refine lv_iload_n hx hb dL_isSound_101 rfl (lv_at hl 2 rfl) ?_
            refine lv_aload_n hx hb dL_isSound_102 rfl (lv_at hl 0 rfl) ?_
            refine lv_bipush (v := nI 8) hx hb dL_isSound_103 (by decide) ?_
            refine kc_i (Cs := [jO o (a, b, fa, ta, sc), sO a X.1, gW cy a 1 X.2.1, gW cy a 7 X.2.2.1, sA cy a X.2.2.2.1, rW cy a X.2.2.2.2]) (Rs := [fW cy fa F9]) (Bs := [jO o (a, b, fa, ta, sc), sO a X.1, gW cy a 1 X.2.1, gW cy a 7 X.2.2.1, sA cy a X.2.2.2.1, rW cy a X.2.2.2.2, fW cy fa F9]) (Cs' := fun u_ : Unit => [jO o (a, b, fa, ta, sc), sO a X.1, gW cy a 1 X.2.1, gW cy a 7 X.2.2.1, sA cy a X.2.2.2.1, rW cy a X.2.2.2.2]) (Fs := fun u_ : Unit => [jO o (a, b, fa, ta, sc), sO a X.1, gW cy a 1 X.2.1, gW cy a 7 X.2.2.1, sA cy a X.2.2.2.1, rW cy a X.2.2.2.2, fW cy fa F9]) hP hD hS hA [0, 1, 2, 3, 4, 5] [6] [1, 2, 3, 4, 5, 6, 0] rfl rfl (by decide) (by decide) (fun _ => rfl) (va_runV (As := [.int (nI 8)]) (rest := [.int (nI (vCP X))]) ⟨hx, hb, hml, hown, hts⟩ (c_X4_value l D cy 8 o a b fa ta sc X.1 X.2.1 X.2.2.1 X.2.2.2.1 X.2.2.2.2 (by first | assumption | omega | decide) (by first | assumption | omega | decide) (by first | assumption | omega | decide) (by first | assumption | omega | decide) H.size) (cwV 1 hts gL_isSound_X4_value rfl rfl rfl (by decide +kernel) ⟨Nat.le_of_ble_eq_true rfl, Nat.le_of_ble_eq_true rfl⟩) (kPre_V (ci := 4) hK hN hP hD [0, 1, 2, 3, 4, 5] (by decide) rfl 0 rfl rfl) rfl rfl hl.1 rfl (lv_room (Nat.le_of_ble_eq_true rfl)) dL_isSound_105 ⟨Nat.le_of_ble_eq_true rfl, Nat.le_of_ble_eq_true rfl⟩) (fun r_ u_ H locs hw hP hD hS => ?_)
            have hw : r_ = knum X.1 X.2.1 X.2.2.1 X.2.2.2.1 X.2.2.2.2 8 := hw
            refine kv_i hw ?_
            clear hw
            refine kv_i (y := nI (vCP X)) rfl ?_
            refine lv_icmp_ne (tgt := 175) hx hb dL_isSound_108 (by decide) (fun c_108 => False.elim ?_) (fun c_108 => ?_)
            · skip
              have c_108 : ¬ ((vCP X) = (vCP X)) := fun h => c_108 ((nI_eq (a := vCP X) (b := vCP X) (by omega) (by omega)).mpr h)
              exact c_108 rfl
            · skip
              have c_108 : (vCP X) = (vCP X) := (nI_eq (a := vCP X) (b := vCP X) (by omega) (by omega)).mp c_108
              refine lv_aload_n hx hb dL_isSound_111 rfl (lv_at hl 0 rfl) ?_
              refine lv_bipush (v := nI 9) hx hb dL_isSound_112 (by decide) ?_
              refine kc_i (Cs := [jO o (a, b, fa, ta, sc), sO a X.1, gW cy a 1 X.2.1, gW cy a 7 X.2.2.1, sA cy a X.2.2.2.1, rW cy a X.2.2.2.2]) (Rs := [fW cy fa F9]) (Bs := [jO o (a, b, fa, ta, sc), sO a X.1, gW cy a 1 X.2.1, gW cy a 7 X.2.2.1, sA cy a X.2.2.2.1, rW cy a X.2.2.2.2, fW cy fa F9]) (Cs' := fun u_ : Unit => [jO o (a, b, fa, ta, sc), sO a X.1, gW cy a 1 X.2.1, gW cy a 7 X.2.2.1, sA cy a X.2.2.2.1, rW cy a X.2.2.2.2]) (Fs := fun u_ : Unit => [jO o (a, b, fa, ta, sc), sO a X.1, gW cy a 1 X.2.1, gW cy a 7 X.2.2.1, sA cy a X.2.2.2.1, rW cy a X.2.2.2.2, fW cy fa F9]) hP hD hS hA [0, 1, 2, 3, 4, 5] [6] [1, 2, 3, 4, 5, 6, 0] rfl rfl (by decide) (by decide) (fun _ => rfl) (va_runV (As := [.int (nI 9)]) (rest := []) ⟨hx, hb, hml, hown, hts⟩ (c_X4_value l D cy 9 o a b fa ta sc X.1 X.2.1 X.2.2.1 X.2.2.2.1 X.2.2.2.2 (by first | assumption | omega | decide) (by first | assumption | omega | decide) (by first | assumption | omega | decide) (by first | assumption | omega | decide) H.size) (cwV 1 hts gL_isSound_X4_value rfl rfl rfl (by decide +kernel) ⟨Nat.le_of_ble_eq_true rfl, Nat.le_of_ble_eq_true rfl⟩) (kPre_V (ci := 4) hK hN hP hD [0, 1, 2, 3, 4, 5] (by decide) rfl 0 rfl rfl) rfl rfl hl.1 rfl (lv_room (Nat.le_of_ble_eq_true rfl)) dL_isSound_114 ⟨Nat.le_of_ble_eq_true rfl, Nat.le_of_ble_eq_true rfl⟩) (fun r_ u_ H locs hw hP hD hS => ?_)
              have hw : r_ = knum X.1 X.2.1 X.2.2.1 X.2.2.2.1 X.2.2.2.2 9 := hw
              refine kv_i hw ?_
              clear hw
              refine kv_i (y := nI (2 * vCP X)) hg.1.2.2.2.2.2 ?_
              refine lv_iconst (v := nI 2) hx hb dL_isSound_117 (by decide) ?_
              refine lv_irem hx hb dL_isSound_118 (by decide) ?_
              refine kv_i (y := nI 0) ((pk_rem (by omega) (by decide) (by decide)).trans (congrArg nI (Nat.mul_mod_right 2 _))) ?_
              refine lv_if_ne (tgt := 175) hx hb dL_isSound_119 (by decide) (fun h => absurd h (by decide)) (fun _ => ?_)
              refine lv_aload_n hx hb dL_isSound_122 rfl (lv_at hl 0 rfl) ?_
              refine lv_bipush (v := nI 9) hx hb dL_isSound_123 (by decide) ?_
              refine kc_i (Cs := [jO o (a, b, fa, ta, sc), sO a X.1, gW cy a 1 X.2.1, gW cy a 7 X.2.2.1, sA cy a X.2.2.2.1, rW cy a X.2.2.2.2]) (Rs := [fW cy fa F9]) (Bs := [jO o (a, b, fa, ta, sc), sO a X.1, gW cy a 1 X.2.1, gW cy a 7 X.2.2.1, sA cy a X.2.2.2.1, rW cy a X.2.2.2.2, fW cy fa F9]) (Cs' := fun u_ : Unit => [jO o (a, b, fa, ta, sc), sO a X.1, gW cy a 1 X.2.1, gW cy a 7 X.2.2.1, sA cy a X.2.2.2.1, rW cy a X.2.2.2.2]) (Fs := fun u_ : Unit => [jO o (a, b, fa, ta, sc), sO a X.1, gW cy a 1 X.2.1, gW cy a 7 X.2.2.1, sA cy a X.2.2.2.1, rW cy a X.2.2.2.2, fW cy fa F9]) hP hD hS hA [0, 1, 2, 3, 4, 5] [6] [1, 2, 3, 4, 5, 6, 0] rfl rfl (by decide) (by decide) (fun _ => rfl) (va_runV (As := [.int (nI 9)]) (rest := []) ⟨hx, hb, hml, hown, hts⟩ (c_X4_value l D cy 9 o a b fa ta sc X.1 X.2.1 X.2.2.1 X.2.2.2.1 X.2.2.2.2 (by first | assumption | omega | decide) (by first | assumption | omega | decide) (by first | assumption | omega | decide) (by first | assumption | omega | decide) H.size) (cwV 1 hts gL_isSound_X4_value rfl rfl rfl (by decide +kernel) ⟨Nat.le_of_ble_eq_true rfl, Nat.le_of_ble_eq_true rfl⟩) (kPre_V (ci := 4) hK hN hP hD [0, 1, 2, 3, 4, 5] (by decide) rfl 0 rfl rfl) rfl rfl hl.1 rfl (lv_room (Nat.le_of_ble_eq_true rfl)) dL_isSound_125 ⟨Nat.le_of_ble_eq_true rfl, Nat.le_of_ble_eq_true rfl⟩) (fun r_ u_ H locs hw hP hD hS => ?_)
              have hw : r_ = knum X.1 X.2.1 X.2.2.1 X.2.2.2.1 X.2.2.2.2 9 := hw
              refine kv_i hw ?_
              clear hw
              refine kv_i (y := nI (2 * vCP X)) hg.1.2.2.2.2.2 ?_
              refine lv_iconst (v := nI 2) hx hb dL_isSound_128 (by decide) ?_
              refine lv_aload_n hx hb dL_isSound_129 rfl (lv_at hl 0 rfl) ?_
              refine lv_bipush (v := nI 8) hx hb dL_isSound_130 (by decide) ?_
              refine kc_i (Cs := [jO o (a, b, fa, ta, sc), sO a X.1, gW cy a 1 X.2.1, gW cy a 7 X.2.2.1, sA cy a X.2.2.2.1, rW cy a X.2.2.2.2]) (Rs := [fW cy fa F9]) (Bs := [jO o (a, b, fa, ta, sc), sO a X.1, gW cy a 1 X.2.1, gW cy a 7 X.2.2.1, sA cy a X.2.2.2.1, rW cy a X.2.2.2.2, fW cy fa F9]) (Cs' := fun u_ : Unit => [jO o (a, b, fa, ta, sc), sO a X.1, gW cy a 1 X.2.1, gW cy a 7 X.2.2.1, sA cy a X.2.2.2.1, rW cy a X.2.2.2.2]) (Fs := fun u_ : Unit => [jO o (a, b, fa, ta, sc), sO a X.1, gW cy a 1 X.2.1, gW cy a 7 X.2.2.1, sA cy a X.2.2.2.1, rW cy a X.2.2.2.2, fW cy fa F9]) hP hD hS hA [0, 1, 2, 3, 4, 5] [6] [1, 2, 3, 4, 5, 6, 0] rfl rfl (by decide) (by decide) (fun _ => rfl) (va_runV (As := [.int (nI 8)]) (rest := [.int (nI 2), .int (nI (2 * vCP X))]) ⟨hx, hb, hml, hown, hts⟩ (c_X4_value l D cy 8 o a b fa ta sc X.1 X.2.1 X.2.2.1 X.2.2.2.1 X.2.2.2.2 (by first | assumption | omega | decide) (by first | assumption | omega | decide) (by first | assumption | omega | decide) (by first | assumption | omega | decide) H.size) (cwV 1 hts gL_isSound_X4_value rfl rfl rfl (by decide +kernel) ⟨Nat.le_of_ble_eq_true rfl, Nat.le_of_ble_eq_true rfl⟩) (kPre_V (ci := 4) hK hN hP hD [0, 1, 2, 3, 4, 5] (by decide) rfl 0 rfl rfl) rfl rfl hl.1 rfl (lv_room (Nat.le_of_ble_eq_true rfl)) dL_isSound_132 ⟨Nat.le_of_ble_eq_true rfl, Nat.le_of_ble_eq_true rfl⟩) (fun r_ u_ H locs hw hP hD hS => ?_)
              have hw : r_ = knum X.1 X.2.1 X.2.2.1 X.2.2.2.1 X.2.2.2.2 8 := hw
              refine kv_i hw ?_
              clear hw
              refine kv_i (y := nI (vCP X)) rfl ?_
              refine lv_imul hx hb dL_isSound_135 ?_
              refine kv_i (y := nI (2 * (vCP X))) (pk_mul 2 (vCP X)) ?_
              refine lv_icmp_ne (tgt := 175) hx hb dL_isSound_136 (by decide) (fun c_136 => False.elim ?_) (fun c_136 => ?_)
              · skip
                have c_136 : ¬ ((2 * vCP X) = (2 * (vCP X))) := fun h => c_136 ((nI_eq (a := 2 * vCP X) (b := 2 * (vCP X)) (by omega) (by omega)).mpr h)
                exact c_136 rfl
              · skip
                have c_136 : (2 * vCP X) = (2 * (vCP X)) := (nI_eq (a := 2 * vCP X) (b := 2 * (vCP X)) (by omega) (by omega)).mp c_136
                refine lv_aload_n hx hb dL_isSound_139 rfl (lv_at hl 0 rfl) ?_
                refine lv_iconst (v := nI 5) hx hb dL_isSound_140 (by decide) ?_
                refine kc_i (Cs := [jO o (a, b, fa, ta, sc), sO a X.1, gW cy a 1 X.2.1, gW cy a 7 X.2.2.1, sA cy a X.2.2.2.1, rW cy a X.2.2.2.2]) (Rs := [fW cy fa F9]) (Bs := [jO o (a, b, fa, ta, sc), sO a X.1, gW cy a 1 X.2.1, gW cy a 7 X.2.2.1, sA cy a X.2.2.2.1, rW cy a X.2.2.2.2, fW cy fa F9]) (Cs' := fun u_ : Unit => [jO o (a, b, fa, ta, sc), sO a X.1, gW cy a 1 X.2.1, gW cy a 7 X.2.2.1, sA cy a X.2.2.2.1, rW cy a X.2.2.2.2]) (Fs := fun u_ : Unit => [jO o (a, b, fa, ta, sc), sO a X.1, gW cy a 1 X.2.1, gW cy a 7 X.2.2.1, sA cy a X.2.2.2.1, rW cy a X.2.2.2.2, fW cy fa F9]) hP hD hS hA [0, 1, 2, 3, 4, 5] [6] [1, 2, 3, 4, 5, 6, 0] rfl rfl (by decide) (by decide) (fun _ => rfl) (va_runV (As := [.int (nI 5)]) (rest := []) ⟨hx, hb, hml, hown, hts⟩ (c_X4_value l D cy 5 o a b fa ta sc X.1 X.2.1 X.2.2.1 X.2.2.2.1 X.2.2.2.2 (by first | assumption | omega | decide) (by first | assumption | omega | decide) (by first | assumption | omega | decide) (by first | assumption | omega | decide) H.size) (cwV 1 hts gL_isSound_X4_value rfl rfl rfl (by decide +kernel) ⟨Nat.le_of_ble_eq_true rfl, Nat.le_of_ble_eq_true rfl⟩) (kPre_V (ci := 4) hK hN hP hD [0, 1, 2, 3, 4, 5] (by decide) rfl 0 rfl rfl) rfl rfl hl.1 rfl (lv_room (Nat.le_of_ble_eq_true rfl)) dL_isSound_141 ⟨Nat.le_of_ble_eq_true rfl, Nat.le_of_ble_eq_true rfl⟩) (fun r_ u_ H locs hw hP hD hS => ?_)
                have hw : r_ = knum X.1 X.2.1 X.2.2.1 X.2.2.2.1 X.2.2.2.2 5 := hw
                refine kv_i hw ?_
                clear hw
                refine kv_i (y := nI (2 * min X.1.1 (X.1.2.1 / 2))) rfl ?_
                refine lv_iconst (v := nI 2) hx hb dL_isSound_144 (by decide) ?_
                refine lv_aload_n hx hb dL_isSound_145 rfl (lv_at hl 0 rfl) ?_
                refine lv_iconst (v := nI 4) hx hb dL_isSound_146 (by decide) ?_
                refine kc_i (Cs := [jO o (a, b, fa, ta, sc), sO a X.1, gW cy a 1 X.2.1, gW cy a 7 X.2.2.1, sA cy a X.2.2.2.1, rW cy a X.2.2.2.2]) (Rs := [fW cy fa F9]) (Bs := [jO o (a, b, fa, ta, sc), sO a X.1, gW cy a 1 X.2.1, gW cy a 7 X.2.2.1, sA cy a X.2.2.2.1, rW cy a X.2.2.2.2, fW cy fa F9]) (Cs' := fun u_ : Unit => [jO o (a, b, fa, ta, sc), sO a X.1, gW cy a 1 X.2.1, gW cy a 7 X.2.2.1, sA cy a X.2.2.2.1, rW cy a X.2.2.2.2]) (Fs := fun u_ : Unit => [jO o (a, b, fa, ta, sc), sO a X.1, gW cy a 1 X.2.1, gW cy a 7 X.2.2.1, sA cy a X.2.2.2.1, rW cy a X.2.2.2.2, fW cy fa F9]) hP hD hS hA [0, 1, 2, 3, 4, 5] [6] [1, 2, 3, 4, 5, 6, 0] rfl rfl (by decide) (by decide) (fun _ => rfl) (va_runV (As := [.int (nI 4)]) (rest := [.int (nI 2), .int (nI (2 * min X.1.1 (X.1.2.1 / 2)))]) ⟨hx, hb, hml, hown, hts⟩ (c_X4_value l D cy 4 o a b fa ta sc X.1 X.2.1 X.2.2.1 X.2.2.2.1 X.2.2.2.2 (by first | assumption | omega | decide) (by first | assumption | omega | decide) (by first | assumption | omega | decide) (by first | assumption | omega | decide) H.size) (cwV 1 hts gL_isSound_X4_value rfl rfl rfl (by decide +kernel) ⟨Nat.le_of_ble_eq_true rfl, Nat.le_of_ble_eq_true rfl⟩) (kPre_V (ci := 4) hK hN hP hD [0, 1, 2, 3, 4, 5] (by decide) rfl 0 rfl rfl) rfl rfl hl.1 rfl (lv_room (Nat.le_of_ble_eq_true rfl)) dL_isSound_147 ⟨Nat.le_of_ble_eq_true rfl, Nat.le_of_ble_eq_true rfl⟩) (fun r_ u_ H locs hw hP hD hS => ?_)
                have hw : r_ = knum X.1 X.2.1 X.2.2.1 X.2.2.2.1 X.2.2.2.2 4 := hw
                refine kv_i hw ?_
                clear hw
                refine kv_i (y := nI (min X.1.1 (X.1.2.1 / 2))) rfl ?_
                refine lv_imul hx hb dL_isSound_150 ?_
                refine kv_i (y := nI (2 * (min X.1.1 (X.1.2.1 / 2)))) (pk_mul 2 (min X.1.1 (X.1.2.1 / 2))) ?_
                refine lv_icmp_ne (tgt := 175) hx hb dL_isSound_151 (by decide) (fun c_151 => False.elim ?_) (fun c_151 => ?_)
                · skip
                  have c_151 : ¬ ((2 * min X.1.1 (X.1.2.1 / 2)) = (2 * (min X.1.1 (X.1.2.1 / 2)))) := fun h => c_151 ((nI_eq (a := 2 * min X.1.1 (X.1.2.1 / 2)) (b := 2 * (min X.1.1 (X.1.2.1 / 2))) (by omega) (by omega)).mpr h)
                  exact c_151 rfl
                · skip
                  have c_151 : (2 * min X.1.1 (X.1.2.1 / 2)) = (2 * (min X.1.1 (X.1.2.1 / 2))) := (nI_eq (a := 2 * min X.1.1 (X.1.2.1 / 2)) (b := 2 * (min X.1.1 (X.1.2.1 / 2))) (by omega) (by omega)).mp c_151
                  refine lv_aload_n hx hb dL_isSound_154 rfl (lv_at hl 0 rfl) ?_
                  refine lv_aload_n hx hb dL_isSound_155 rfl (lv_at hl 0 rfl) ?_
                  refine lv_iconst (v := nI 2) hx hb dL_isSound_156 (by decide) ?_
                  refine kc_i (Cs := [jO o (a, b, fa, ta, sc), sO a X.1, gW cy a 1 X.2.1, gW cy a 7 X.2.2.1, sA cy a X.2.2.2.1, rW cy a X.2.2.2.2]) (Rs := [fW cy fa F9]) (Bs := [jO o (a, b, fa, ta, sc), sO a X.1, gW cy a 1 X.2.1, gW cy a 7 X.2.2.1, sA cy a X.2.2.2.1, rW cy a X.2.2.2.2, fW cy fa F9]) (Cs' := fun u_ : Unit => [jO o (a, b, fa, ta, sc), sO a X.1, gW cy a 1 X.2.1, gW cy a 7 X.2.2.1, sA cy a X.2.2.2.1, rW cy a X.2.2.2.2]) (Fs := fun u_ : Unit => [jO o (a, b, fa, ta, sc), sO a X.1, gW cy a 1 X.2.1, gW cy a 7 X.2.2.1, sA cy a X.2.2.2.1, rW cy a X.2.2.2.2, fW cy fa F9]) hP hD hS hA [0, 1, 2, 3, 4, 5] [6] [1, 2, 3, 4, 5, 6, 0] rfl rfl (by decide) (by decide) (fun _ => rfl) (va_runV (As := [.int (nI 2)]) (rest := [.ref (o 0)]) ⟨hx, hb, hml, hown, hts⟩ (c_X4_value l D cy 2 o a b fa ta sc X.1 X.2.1 X.2.2.1 X.2.2.2.1 X.2.2.2.2 (by first | assumption | omega | decide) (by first | assumption | omega | decide) (by first | assumption | omega | decide) (by first | assumption | omega | decide) H.size) (cwV 1 hts gL_isSound_X4_value rfl rfl rfl (by decide +kernel) ⟨Nat.le_of_ble_eq_true rfl, Nat.le_of_ble_eq_true rfl⟩) (kPre_V (ci := 4) hK hN hP hD [0, 1, 2, 3, 4, 5] (by decide) rfl 0 rfl rfl) rfl rfl hl.1 rfl (lv_room (Nat.le_of_ble_eq_true rfl)) dL_isSound_157 ⟨Nat.le_of_ble_eq_true rfl, Nat.le_of_ble_eq_true rfl⟩) (fun r_ u_ H locs hw hP hD hS => ?_)
                  have hw : r_ = knum X.1 X.2.1 X.2.2.1 X.2.2.2.1 X.2.2.2.2 2 := hw
                  refine kv_i hw ?_
                  clear hw
                  refine kv_i (y := nI X.1.1) rfl ?_
                  refine kc_i (Cs := [jO o (a, b, fa, ta, sc), sO a X.1, gW cy a 1 X.2.1, gW cy a 7 X.2.2.1, sA cy a X.2.2.2.1, rW cy a X.2.2.2.2, fW cy fa F9]) (Rs := []) (Bs := [jO o (a, b, fa, ta, sc), sO a X.1, gW cy a 1 X.2.1, gW cy a 7 X.2.2.1, sA cy a X.2.2.2.1, rW cy a X.2.2.2.2, fW cy fa F9]) (Cs' := fun u_ : rF => [jO o (a, b, fa, ta, sc), sO a X.1, gW cy a 1 X.2.1, gW cy a 7 X.2.2.1, sA cy a X.2.2.2.1, rW cy a X.2.2.2.2, fW cy fa u_]) (Fs := fun u_ : rF => [jO o (a, b, fa, ta, sc), sO a X.1, gW cy a 1 X.2.1, gW cy a 7 X.2.2.1, sA cy a X.2.2.2.1, rW cy a X.2.2.2.2, fW cy fa u_]) hP hD hS hA [0, 1, 2, 3, 4, 5, 6] [] [0, 1, 2, 3, 4, 5, 6] rfl rfl (by decide) (by decide) (fun _ => rfl) (va_runV (As := [.int (nI X.1.1)]) (rest := []) ⟨hx, hb, hml, hown, hts⟩ (c_X4_couplesWith l D cy X.1.1 o a b fa ta sc X.1 X.2.1 X.2.2.1 X.2.2.2.1 X.2.2.2.2 F9 (by first | assumption | omega | decide) (by first | assumption | omega | decide) (by first | assumption | omega | decide) (by first | assumption | omega | decide) (by first | assumption | omega | decide) (by first | assumption | omega | decide) (by first | assumption | omega | decide) H.size) (cwV 1 hts gL_isSound_X4_couplesWith rfl rfl rfl (by decide +kernel) ⟨Nat.le_of_ble_eq_true rfl, Nat.le_of_ble_eq_true rfl⟩) (kPre_V (ci := 4) hK hN hP hD [0, 1, 2, 3, 4, 5, 6] (by decide) rfl 0 rfl rfl) rfl rfl hl.1 rfl (lv_room (Nat.le_of_ble_eq_true rfl)) dL_isSound_160 ⟨Nat.le_of_ble_eq_true rfl, Nat.le_of_ble_eq_true rfl⟩) (fun r_ u_ H locs hw hP hD hS => ?_)
                  obtain ⟨Fl2_160, rfl⟩ : ∃ z, z = u_ := ⟨_, rfl⟩
                  have hP : va_P D vwCl (bkF [jO o (a, b, fa, ta, sc), sO a X.1, gW cy a 1 X.2.1, gW cy a 7 X.2.2.1, sA cy a X.2.2.2.1, rW cy a X.2.2.2.2, fW cy fa Fl2_160]) H := hP
                  have hD : va_D A (bkF [jO o (a, b, fa, ta, sc), sO a X.1, gW cy a 1 X.2.1, gW cy a 7 X.2.2.1, sA cy a X.2.2.2.1, rW cy a X.2.2.2.2, fW cy fa Fl2_160]) := hD
                  have hw : r_ = nI (kCx X.2.2.2.1.1 X.2.1 X.2.2.1 X.2.2.2.2 (2 * (min X.1.1 (X.1.2.1 / 2)))) := hw
                  refine kv_i hw ?_
                  clear hw
                  obtain ⟨cx9, hcx9⟩ : ∃ z, z = kCx X.2.2.2.1.1 X.2.1 X.2.2.1 X.2.2.2.2 (2 * (min X.1.1 (X.1.2.1 / 2))) := ⟨_, rfl⟩
                  have hce9 : cx9 ≤ 2 * (min X.1.1 (X.1.2.1 / 2)) := by rw [hcx9]; exact kCx_en _ _ _ _ _
                  rw [← hcx9]
                  clear hcx9
                  refine lv_aload_n hx hb dL_isSound_163 rfl (lv_at hl 0 rfl) ?_
                  refine lv_iconst (v := nI 5) hx hb dL_isSound_164 (by decide) ?_
                  refine kc_i (Cs := [jO o (a, b, fa, ta, sc), sO a X.1, gW cy a 1 X.2.1, gW cy a 7 X.2.2.1, sA cy a X.2.2.2.1, rW cy a X.2.2.2.2]) (Rs := [fW cy fa Fl2_160]) (Bs := [jO o (a, b, fa, ta, sc), sO a X.1, gW cy a 1 X.2.1, gW cy a 7 X.2.2.1, sA cy a X.2.2.2.1, rW cy a X.2.2.2.2, fW cy fa Fl2_160]) (Cs' := fun u_ : Unit => [jO o (a, b, fa, ta, sc), sO a X.1, gW cy a 1 X.2.1, gW cy a 7 X.2.2.1, sA cy a X.2.2.2.1, rW cy a X.2.2.2.2]) (Fs := fun u_ : Unit => [jO o (a, b, fa, ta, sc), sO a X.1, gW cy a 1 X.2.1, gW cy a 7 X.2.2.1, sA cy a X.2.2.2.1, rW cy a X.2.2.2.2, fW cy fa Fl2_160]) hP hD hS hA [0, 1, 2, 3, 4, 5] [6] [1, 2, 3, 4, 5, 6, 0] rfl rfl (by decide) (by decide) (fun _ => rfl) (va_runV (As := [.int (nI 5)]) (rest := [.int (nI cx9)]) ⟨hx, hb, hml, hown, hts⟩ (c_X4_value l D cy 5 o a b fa ta sc X.1 X.2.1 X.2.2.1 X.2.2.2.1 X.2.2.2.2 (by first | assumption | omega | decide) (by first | assumption | omega | decide) (by first | assumption | omega | decide) (by first | assumption | omega | decide) H.size) (cwV 1 hts gL_isSound_X4_value rfl rfl rfl (by decide +kernel) ⟨Nat.le_of_ble_eq_true rfl, Nat.le_of_ble_eq_true rfl⟩) (kPre_V (ci := 4) hK hN hP hD [0, 1, 2, 3, 4, 5] (by decide) rfl 0 rfl rfl) rfl rfl hl.1 rfl (lv_room (Nat.le_of_ble_eq_true rfl)) dL_isSound_165 ⟨Nat.le_of_ble_eq_true rfl, Nat.le_of_ble_eq_true rfl⟩) (fun r_ u_ H locs hw hP hD hS => ?_)
                  have hw : r_ = knum X.1 X.2.1 X.2.2.1 X.2.2.2.1 X.2.2.2.2 5 := hw
                  refine kv_i hw ?_
                  clear hw
                  refine kv_i (y := nI (2 * min X.1.1 (X.1.2.1 / 2))) rfl ?_
                  refine lv_icmp_gt (tgt := 175) hx hb dL_isSound_168 (by decide) (fun c_168 => False.elim ?_) (fun c_168 => ?_)
                  · skip
                    have c_168 : (2 * min X.1.1 (X.1.2.1 / 2)) < cx9 := (nI_ltI (a := 2 * min X.1.1 (X.1.2.1 / 2)) (b := cx9) (by omega) (by omega)).mp c_168
                    omega
                  · skip
                    have c_168 : ¬ ((2 * min X.1.1 (X.1.2.1 / 2)) < cx9) := fun h => c_168 ((nI_ltI (a := 2 * min X.1.1 (X.1.2.1 / 2)) (b := cx9) (by omega) (by omega)).mpr h)
                    refine lv_iconst (v := nI 1) hx hb dL_isSound_171 (by decide) ?_
                    refine lv_goto (tgt := 176) hx hb dL_isSound_172 (by decide) ?_
                    exact kr_i (post := fun r_ (u_ : rF) => r_ = nI 1) (Bs := fun u_ : rF => [jO o (a, b, fa, ta, sc), sO a X.1, gW cy a 1 X.2.1, gW cy a 7 X.2.2.1, sA cy a X.2.2.2.1, rW cy a X.2.2.2.2, fW cy fa u_]) hx hb hr hlocks rfl (Fl2_160) hP hK hD hS rfl dL_isSound_176 hQ
        · skip
          have c_77 : ¬ (X.2.2.1.2.2.2.2.2 ≤ j) := fun h => c_77 ((nI_leI (a := X.2.2.1.2.2.2.2.2) (b := j) (by omega) (by omega)).mpr h)
          refine lv_iload_n hx hb dL_isSound_80 rfl (lv_at hl 1 rfl) ?_
          refine lv_aload_n hx hb dL_isSound_81 rfl (lv_at hl 0 rfl) ?_
          refine lv_iconst (v := nI 0) hx hb dL_isSound_82 (by decide) ?_
          refine lv_iload_n hx hb dL_isSound_83 rfl (lv_at hl 3 rfl) ?_
          refine lv_bipush (v := nI 6) hx hb dL_isSound_84 (by decide) ?_
          refine kc_i (Cs := [jO o (a, b, fa, ta, sc), sO a X.1, gW cy a 1 X.2.1, gW cy a 7 X.2.2.1, sA cy a X.2.2.2.1, rW cy a X.2.2.2.2, fW cy fa F9]) (Rs := []) (Bs := [jO o (a, b, fa, ta, sc), sO a X.1, gW cy a 1 X.2.1, gW cy a 7 X.2.2.1, sA cy a X.2.2.2.1, rW cy a X.2.2.2.2, fW cy fa F9]) (Cs' := fun u_ : rF => [jO o (a, b, fa, ta, sc), sO a X.1, gW cy a 1 X.2.1, gW cy a 7 X.2.2.1, sA cy a X.2.2.2.1, rW cy a X.2.2.2.2, fW cy fa u_]) (Fs := fun u_ : rF => [jO o (a, b, fa, ta, sc), sO a X.1, gW cy a 1 X.2.1, gW cy a 7 X.2.2.1, sA cy a X.2.2.2.1, rW cy a X.2.2.2.2, fW cy fa u_]) hP hD hS hA [0, 1, 2, 3, 4, 5, 6] [] [0, 1, 2, 3, 4, 5, 6] rfl rfl (by decide) (by decide) (fun _ => rfl) (va_runV (As := [.int (nI 0), .int (nI j), .int (nI 6)]) (rest := [.int (nI (vDf X j))]) ⟨hx, hb, hml, hown, hts⟩ (c_X4_guest_f l D cy (nI 0) j 6 o a b fa ta sc X.1 X.2.1 X.2.2.1 X.2.2.2.1 X.2.2.2.2 F9 (by first | assumption | omega | decide) (by first | assumption | omega | decide) (by first | assumption | omega | decide) (by first | assumption | omega | decide) (by first | assumption | omega | decide) (by first | assumption | omega | decide) (by first | assumption | omega | decide) (by first | assumption | omega | decide) (by first | assumption | omega | decide) (by first | assumption | omega | decide) (by first | assumption | omega | decide) H.size) (cwV 3 hts gL_isSound_X4_guest rfl rfl rfl (by decide +kernel) ⟨Nat.le_of_ble_eq_true rfl, Nat.le_of_ble_eq_true rfl⟩) (kPre_V (ci := 4) hK hN hP hD [0, 1, 2, 3, 4, 5, 6] (by decide) rfl 0 rfl rfl) rfl rfl hl.1 rfl (lv_room (Nat.le_of_ble_eq_true rfl)) dL_isSound_86 ⟨Nat.le_of_ble_eq_true rfl, Nat.le_of_ble_eq_true rfl⟩) (fun r_ u_ H locs hw hP hD hS => ?_)
          obtain ⟨Fl2_86, rfl⟩ : ∃ z, z = u_ := ⟨_, rfl⟩
          have hP : va_P D vwCl (bkF [jO o (a, b, fa, ta, sc), sO a X.1, gW cy a 1 X.2.1, gW cy a 7 X.2.2.1, sA cy a X.2.2.2.1, rW cy a X.2.2.2.2, fW cy fa Fl2_86]) H := hP
          have hD : va_D A (bkF [jO o (a, b, fa, ta, sc), sO a X.1, gW cy a 1 X.2.1, gW cy a 7 X.2.2.1, sA cy a X.2.2.2.1, rW cy a X.2.2.2.2, fW cy fa Fl2_86]) := hD
          have hw : r_ = kGO X.2.2.2.1.1 X.2.1 X.2.2.1 X.2.2.2.2 j 6 := hw
          refine kv_i hw ?_
          clear hw
          refine kv_i (y := nI (kcnt (fun q => X.2.2.2.2 q j) 8)) rfl ?_
          refine lv_isub hx hb dL_isSound_89 ?_
          refine kv_i (y := nI (vDf X (j + 1))) (vDf_s hg (by omega)) ?_
          refine lv_istore_n (lv' := [(1, .int (nI (vDf X (j + 1)))), (0, .ref (o 0)), (2, .int (nI (vCP X))), (3, .int (nI j))]) hx hb dL_isSound_90 rfl hl (by decide) rfl (fun ls hl => ?_)
          refine lv_iinc (v := nI (j + 1)) (lv' := [(3, .int (nI (j + 1))), (1, .int (nI (vDf X (j + 1)))), (0, .ref (o 0)), (2, .int (nI (vCP X)))]) hx hb dL_isSound_91 hl (k := 3) rfl (nI_add j 1) (by decide) rfl (fun ls hl => ?_)
          refine lv_goto (tgt := 71) hx hb dL_isSound_94 (by decide) ?_
          exact ih_71 _ (by omega) (j + 1) Fl2_86 rfl (by omega) ls H locs hP hD hS (lv_sub hl [2, 1, 3, 0] rfl)
      exact L_71 _ 0 F7 rfl (by omega) ls H locs hP hD hS (lv_sub hl [1, 2, 3, 0] rfl)
    · skip
      have c_12 : ¬ (X.2.1.2.2.2.2.2 ≤ i) := fun h => c_12 ((nI_leI (a := X.2.1.2.2.2.2.2) (b := i) (by omega) (by omega)).mpr h)
      refine lv_iload_n hx hb dL_isSound_15 rfl (lv_at hl 1 rfl) ?_
      refine lv_aload_n hx hb dL_isSound_16 rfl (lv_at hl 0 rfl) ?_
      refine lv_iconst (v := nI 1) hx hb dL_isSound_17 (by decide) ?_
      refine lv_iload_n hx hb dL_isSound_18 rfl (lv_at hl 3 rfl) ?_
      refine lv_bipush (v := nI 6) hx hb dL_isSound_19 (by decide) ?_
      refine kc_i (Cs := [jO o (a, b, fa, ta, sc), sO a X.1, gW cy a 1 X.2.1, gW cy a 7 X.2.2.1, sA cy a X.2.2.2.1, rW cy a X.2.2.2.2, fW cy fa F7]) (Rs := []) (Bs := [jO o (a, b, fa, ta, sc), sO a X.1, gW cy a 1 X.2.1, gW cy a 7 X.2.2.1, sA cy a X.2.2.2.1, rW cy a X.2.2.2.2, fW cy fa F7]) (Cs' := fun u_ : rF => [jO o (a, b, fa, ta, sc), sO a X.1, gW cy a 1 X.2.1, gW cy a 7 X.2.2.1, sA cy a X.2.2.2.1, rW cy a X.2.2.2.2, fW cy fa u_]) (Fs := fun u_ : rF => [jO o (a, b, fa, ta, sc), sO a X.1, gW cy a 1 X.2.1, gW cy a 7 X.2.2.1, sA cy a X.2.2.2.1, rW cy a X.2.2.2.2, fW cy fa u_]) hP hD hS hA [0, 1, 2, 3, 4, 5, 6] [] [0, 1, 2, 3, 4, 5, 6] rfl rfl (by decide) (by decide) (fun _ => rfl) (va_runV (As := [.int (nI 1), .int (nI i), .int (nI 6)]) (rest := [.int (nI (vDl X i))]) ⟨hx, hb, hml, hown, hts⟩ (c_X4_guest_t l D cy (nI 1) i 6 o a b fa ta sc X.1 X.2.1 X.2.2.1 X.2.2.2.1 X.2.2.2.2 F7 (by first | assumption | omega | decide) (by first | assumption | omega | decide) (by first | assumption | omega | decide) (by first | assumption | omega | decide) (by first | assumption | omega | decide) (by first | assumption | omega | decide) (by first | assumption | omega | decide) (by first | assumption | omega | decide) (by first | assumption | omega | decide) (by first | assumption | omega | decide) (by first | assumption | omega | decide) H.size) (cwV 3 hts gL_isSound_X4_guest rfl rfl rfl (by decide +kernel) ⟨Nat.le_of_ble_eq_true rfl, Nat.le_of_ble_eq_true rfl⟩) (kPre_V (ci := 4) hK hN hP hD [0, 1, 2, 3, 4, 5, 6] (by decide) rfl 0 rfl rfl) rfl rfl hl.1 rfl (lv_room (Nat.le_of_ble_eq_true rfl)) dL_isSound_21 ⟨Nat.le_of_ble_eq_true rfl, Nat.le_of_ble_eq_true rfl⟩) (fun r_ u_ H locs hw hP hD hS => ?_)
      obtain ⟨Fl2_21, rfl⟩ : ∃ z, z = u_ := ⟨_, rfl⟩
      have hP : va_P D vwCl (bkF [jO o (a, b, fa, ta, sc), sO a X.1, gW cy a 1 X.2.1, gW cy a 7 X.2.2.1, sA cy a X.2.2.2.1, rW cy a X.2.2.2.2, fW cy fa Fl2_21]) H := hP
      have hD : va_D A (bkF [jO o (a, b, fa, ta, sc), sO a X.1, gW cy a 1 X.2.1, gW cy a 7 X.2.2.1, sA cy a X.2.2.2.1, rW cy a X.2.2.2.2, fW cy fa Fl2_21]) := hD
      have hw : r_ = kGL X.2.2.2.1.1 X.2.1 X.2.2.2.2 i 6 := hw
      refine kv_i hw ?_
      clear hw
      refine kv_i (y := nI (kcnt (X.2.2.2.2 i) 8)) rfl ?_
      refine lv_iadd hx hb dL_isSound_24 ?_
      refine kv_i (y := nI (vDl X (i + 1))) (nI_add _ _) ?_
      refine lv_istore_n (lv' := [(1, .int (nI (vDl X (i + 1)))), (0, .ref (o 0)), (2, .int (nI (vPr X i))), (3, .int (nI i))]) hx hb dL_isSound_25 rfl hl (by decide) rfl (fun ls hl => ?_)
      refine lv_iconst (v := nI 0) hx hb dL_isSound_26 (by decide) ?_
      have hl : lv_has ls 5 [(1, .int (nI (vDl X (i + 1)))), (0, .ref (o 0)), (2, .int (nI (vPi X i 0))), (3, .int (nI i))] := by rw [show nI (vPi X i 0) = nI (vPr X i) from rfl]; exact hl
      refine lv_istore (lv' := [(4, .int (nI 0)), (1, .int (nI (vDl X (i + 1)))), (0, .ref (o 0)), (2, .int (nI (vPi X i 0))), (3, .int (nI i))]) hx hb dL_isSound_27 hl (by decide) rfl (fun ls hl => ?_)
      have L_29 : ∀ (n9 : Nat) (f : Nat) (F8 : rF), X.2.2.1.2.2.2.2.2 - f = n9 → (f ≤ X.2.2.1.2.2.2.2.2) → ∀ (ls : Array Slot) (H : Heap) (locs : List Loc), va_P D vwCl (bkF [jO o (a, b, fa, ta, sc), sO a X.1, gW cy a 1 X.2.1, gW cy a 7 X.2.2.1, sA cy a X.2.2.2.1, rW cy a X.2.2.2.2, fW cy fa F8]) H → va_D A (bkF [jO o (a, b, fa, ta, sc), sO a X.1, gW cy a 1 X.2.1, gW cy a 7 X.2.2.1, sA cy a X.2.2.2.1, rW cy a X.2.2.2.2, fW cy fa F8]) → va_S A s.heap H locs → lv_has ls 5 [(0, .ref (o 0)), (1, .int (nI (vDl X (i + 1)))), (2, .int (nI (vPi X i f))), (3, .int (nI i)), (4, .int (nI f))] → W p l e (headSpec wsL_isSound rm_L_isSound).room s m args below meth c H locs 0 0 Q (F0 m 29 ls []) := by
        intro n9
        induction n9 using Nat.strongRecOn with
        | _ n9 ih_29 =>
        intro f F8 hm_29 h29_0 ls H locs hP hD hS hl
        refine lv_iload hx hb dL_isSound_29 (lv_at hl 4 rfl) ?_
        refine lv_aload_n hx hb dL_isSound_31 rfl (lv_at hl 0 rfl) ?_
        refine lv_iconst (v := nI 1) hx hb dL_isSound_32 (by decide) ?_
        refine kc_i (Cs := [jO o (a, b, fa, ta, sc), sO a X.1, gW cy a 1 X.2.1, gW cy a 7 X.2.2.1, sA cy a X.2.2.2.1, rW cy a X.2.2.2.2]) (Rs := [fW cy fa F8]) (Bs := [jO o (a, b, fa, ta, sc), sO a X.1, gW cy a 1 X.2.1, gW cy a 7 X.2.2.1, sA cy a X.2.2.2.1, rW cy a X.2.2.2.2, fW cy fa F8]) (Cs' := fun u_ : Unit => [jO o (a, b, fa, ta, sc), sO a X.1, gW cy a 1 X.2.1, gW cy a 7 X.2.2.1, sA cy a X.2.2.2.1, rW cy a X.2.2.2.2]) (Fs := fun u_ : Unit => [jO o (a, b, fa, ta, sc), sO a X.1, gW cy a 1 X.2.1, gW cy a 7 X.2.2.1, sA cy a X.2.2.2.1, rW cy a X.2.2.2.2, fW cy fa F8]) hP hD hS hA [0, 1, 2, 3, 4, 5] [6] [1, 2, 3, 4, 5, 6, 0] rfl rfl (by decide) (by decide) (fun _ => rfl) (va_runV (As := [.int (nI 1)]) (rest := [.int (nI f)]) ⟨hx, hb, hml, hown, hts⟩ (c_X4_value l D cy 1 o a b fa ta sc X.1 X.2.1 X.2.2.1 X.2.2.2.1 X.2.2.2.2 (by first | assumption | omega | decide) (by first | assumption | omega | decide) (by first | assumption | omega | decide) (by first | assumption | omega | decide) H.size) (cwV 1 hts gL_isSound_X4_value rfl rfl rfl (by decide +kernel) ⟨Nat.le_of_ble_eq_true rfl, Nat.le_of_ble_eq_true rfl⟩) (kPre_V (ci := 4) hK hN hP hD [0, 1, 2, 3, 4, 5] (by decide) rfl 0 rfl rfl) rfl rfl hl.1 rfl (lv_room (Nat.le_of_ble_eq_true rfl)) dL_isSound_33 ⟨Nat.le_of_ble_eq_true rfl, Nat.le_of_ble_eq_true rfl⟩) (fun r_ u_ H locs hw hP hD hS => ?_)
        have hw : r_ = knum X.1 X.2.1 X.2.2.1 X.2.2.2.1 X.2.2.2.2 1 := hw
        refine kv_i hw ?_
        clear hw
        refine kv_i (y := nI X.2.2.1.2.2.2.2.2) rfl ?_
        refine lv_icmp_ge (tgt := 63) hx hb dL_isSound_36 (by decide) (fun c_36 => ?_) (fun c_36 => ?_)
        · skip
          have c_36 : X.2.2.1.2.2.2.2.2 ≤ f := (nI_leI (a := X.2.2.1.2.2.2.2.2) (b := f) (by omega) (by omega)).mp c_36
          refine lv_iinc (v := nI (i + 1)) (lv' := [(3, .int (nI (i + 1))), (0, .ref (o 0)), (1, .int (nI (vDl X (i + 1)))), (2, .int (nI (vPi X i f))), (4, .int (nI f))]) hx hb dL_isSound_63 hl (k := 3) rfl (nI_add i 1) (by decide) rfl (fun ls hl => ?_)
          refine lv_goto (tgt := 6) hx hb dL_isSound_66 (by decide) ?_
          have e7 : vPr X (i + 1) = vPi X i f := (by rw [show f = X.2.2.1.2.2.2.2.2 from by omega]; rfl)
          rw [← e7] at hl
          exact ih_6 _ (by omega) (i + 1) F8 rfl (by omega) ls H locs hP hD hS (lv_sub hl [1, 2, 3, 0] rfl)
        · skip
          have c_36 : ¬ (X.2.2.1.2.2.2.2.2 ≤ f) := fun h => c_36 ((nI_leI (a := X.2.2.1.2.2.2.2.2) (b := f) (by omega) (by omega)).mpr h)
          refine lv_iload_n hx hb dL_isSound_39 rfl (lv_at hl 2 rfl) ?_
          refine lv_aload_n hx hb dL_isSound_40 rfl (lv_at hl 0 rfl) ?_
          refine lv_iload_n hx hb dL_isSound_41 rfl (lv_at hl 3 rfl) ?_
          refine lv_iload hx hb dL_isSound_42 (lv_at hl 4 rfl) ?_
          refine kc_i (Cs := [jO o (a, b, fa, ta, sc), sO a X.1, gW cy a 1 X.2.1, gW cy a 7 X.2.2.1, sA cy a X.2.2.2.1, rW cy a X.2.2.2.2]) (Rs := [fW cy fa F8]) (Bs := [jO o (a, b, fa, ta, sc), sO a X.1, gW cy a 1 X.2.1, gW cy a 7 X.2.2.1, sA cy a X.2.2.2.1, rW cy a X.2.2.2.2, fW cy fa F8]) (Cs' := fun u_ : Unit => [jO o (a, b, fa, ta, sc), sO a X.1, gW cy a 1 X.2.1, gW cy a 7 X.2.2.1, sA cy a X.2.2.2.1, rW cy a X.2.2.2.2]) (Fs := fun u_ : Unit => [jO o (a, b, fa, ta, sc), sO a X.1, gW cy a 1 X.2.1, gW cy a 7 X.2.2.1, sA cy a X.2.2.2.1, rW cy a X.2.2.2.2, fW cy fa F8]) hP hD hS hA [0, 1, 2, 3, 4, 5] [6] [1, 2, 3, 4, 5, 6, 0] rfl rfl (by decide) (by decide) (fun _ => rfl) (va_runV (As := [.int (nI i), .int (nI f)]) (rest := [.int (nI (vPi X i f))]) ⟨hx, hb, hml, hown, hts⟩ (c_X4_danced l D cy i f o a b fa ta sc X.1 X.2.1 X.2.2.1 X.2.2.2.1 X.2.2.2.2 (by first | assumption | omega | decide) (by first | assumption | omega | decide) (by first | assumption | omega | decide) (by first | assumption | omega | decide) H.size) (cwV 2 hts gL_isSound_X4_danced rfl rfl rfl (by decide +kernel) ⟨Nat.le_of_ble_eq_true rfl, Nat.le_of_ble_eq_true rfl⟩) (kPre_V (ci := 4) hK hN hP hD [0, 1, 2, 3, 4, 5] (by decide) rfl 0 rfl rfl) rfl rfl hl.1 rfl (lv_room (Nat.le_of_ble_eq_true rfl)) dL_isSound_44 ⟨Nat.le_of_ble_eq_true rfl, Nat.le_of_ble_eq_true rfl⟩) (fun r_ u_ H locs hw hP hD hS => ?_)
          have hw : r_ = X.2.2.2.2 i f := hw
          refine kv_i hw ?_
          clear hw
          refine lv_if_lt (tgt := 54) hx hb dL_isSound_47 (by decide) (fun c_47 => ?_) (fun c_47 => ?_)
          · skip
            refine lv_iconst (v := nI 0) hx hb dL_isSound_54 (by decide) ?_
            refine lv_iadd hx hb dL_isSound_55 ?_
            refine kv_i (y := nI (vPi X i (f + 1))) ((nI_add _ _).trans (congrArg nI (vPi_e ((vD_c hg (l := i) (f := f) (by omega) (by omega)).resolve_right (fun h => h c_47))).symm)) ?_
            refine lv_istore_n (lv' := [(2, .int (nI (vPi X i (f + 1)))), (0, .ref (o 0)), (1, .int (nI (vDl X (i + 1)))), (3, .int (nI i)), (4, .int (nI f))]) hx hb dL_isSound_56 rfl hl (by decide) rfl (fun ls hl => ?_)
            refine lv_iinc (v := nI (f + 1)) (lv' := [(4, .int (nI (f + 1))), (2, .int (nI (vPi X i (f + 1)))), (0, .ref (o 0)), (1, .int (nI (vDl X (i + 1)))), (3, .int (nI i))]) hx hb dL_isSound_57 hl (k := 4) rfl (nI_add f 1) (by decide) rfl (fun ls hl => ?_)
            refine lv_goto (tgt := 29) hx hb dL_isSound_60 (by decide) ?_
            exact ih_29 _ (by omega) (f + 1) F8 rfl (by omega) ls H locs hP hD hS (lv_sub hl [2, 3, 1, 4, 0] rfl)
          · skip
            refine lv_iconst (v := nI 1) hx hb dL_isSound_50 (by decide) ?_
            refine lv_goto (tgt := 55) hx hb dL_isSound_51 (by decide) ?_
            refine lv_iadd hx hb dL_isSound_55 ?_
            refine kv_i (y := nI (vPi X i (f + 1))) ((nI_add _ _).trans (congrArg nI (vPi_y (fun h => c_47 (by rw [h]; decide))).symm)) ?_
            refine lv_istore_n (lv' := [(2, .int (nI (vPi X i (f + 1)))), (0, .ref (o 0)), (1, .int (nI (vDl X (i + 1)))), (3, .int (nI i)), (4, .int (nI f))]) hx hb dL_isSound_56 rfl hl (by decide) rfl (fun ls hl => ?_)
            refine lv_iinc (v := nI (f + 1)) (lv' := [(4, .int (nI (f + 1))), (2, .int (nI (vPi X i (f + 1)))), (0, .ref (o 0)), (1, .int (nI (vDl X (i + 1)))), (3, .int (nI i))]) hx hb dL_isSound_57 hl (k := 4) rfl (nI_add f 1) (by decide) rfl (fun ls hl => ?_)
            refine lv_goto (tgt := 29) hx hb dL_isSound_60 (by decide) ?_
            exact ih_29 _ (by omega) (f + 1) F8 rfl (by omega) ls H locs hP hD hS (lv_sub hl [2, 3, 1, 4, 0] rfl)
      exact L_29 _ 0 Fl2_21 rfl (by omega) ls H locs hP hD hS (lv_sub hl [2, 1, 3, 4, 0] rfl)
  exact L_6 _ 0 Fl rfl (by omega) ls H locs hP hD hS (lv_sub hl [3, 2, 1, 0] rfl)
