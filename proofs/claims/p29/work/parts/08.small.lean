abbrev rm_J7_fill : Room := { frames := 0, cells := 0, slots := 0, locals := 0 }
set_option maxHeartbeats 1000000 in
set_option maxRecDepth 100000 in
/-- Arrays.fill -/
theorem c_J7_fill (l : Launch) (D : va_G) (cy : Nat → ClassId) (r : Nat) (n : Nat) (f : Nat → Int32) (v : Int32) (hn : n < 65536) (sz : Nat) : Met l yJ7_fill_53178 wsJ7_fill_53178 rm_J7_fill (va_Pc [.ref r, .int v] (kPre D (kT cy) [[(r, .inl (cy 0, n, .inl f))]] sz)) (va_Qv (fun u_ : Unit => True) (kFr D (kT cy) [[(r, .inl (cy 0, n, .inl f))]] sz (fun u_ : Unit => [[(r, .inl (cy 0, n, .inl (fun _ => v)))]])) (va_A (bkF [[(r, .inl (cy 0, n, .inl f))]]) sz)) 0 0 (va_A (bkF [[(r, .inl (cy 0, n, .inl f))]]) sz) := by
  refine kOpen (y := yJ7_fill_53178) (ws := wsJ7_fill_53178) (cc := cJ7_fill_53178) (maxL := 4) (ret := none) (av := [.ref r, .int v]) (Bs := [[(r, .inl (cy 0, n, .inl f))]]) (Qc := fun A => (va_Qv (fun u_ : Unit => True) (fun (u_ : Unit) t9 => kEnd D (kT cy) A [[(r, .inl (cy 0, n, .inl (fun _ => v)))]] t9) A)) (by decide) rfl (Nat.le_of_ble_eq_true rfl) ?_
  intro p e s m args below meth c A Q ls hQ hx hb hml hr hlocks hin hts hown hN hK hP hD hS hA hsz hAe hl
  clear hAe
  have hl : lv_has ls 4 [(0, .ref r), (1, .int v)] := hl
  suffices K9 : ∀ (H : Heap) (locs : List Loc), va_P D vwCl (bkF [[(r, .inl (cy 0, n, .inl f))]]) H → va_S A s.heap H locs → W p l e (headSpec wsJ7_fill_53178 rm_J7_fill).room s m args below meth c H locs 0 0 Q (F0 m 0 ls []) from K9 _ _ hP hS
  clear hP hS
  intro H locs hP hS
  refine lv_iconst (v := nI 0) hx hb dJ7_fill_53178_0 (by decide) ?_
  refine lv_istore_n (lv' := [(2, .int (nI 0)), (0, .ref r), (1, .int v)]) hx hb dJ7_fill_53178_1 rfl hl (by decide) rfl (fun ls hl => ?_)
  refine lv_aload_n hx hb dJ7_fill_53178_2 rfl (lv_at hl 1 rfl) ?_
  refine va_alen hx hb hK hP 0 0 rfl rfl (v := nI n) rfl dJ7_fill_53178_3 ?_
  refine lv_istore_n (lv' := [(3, .int (nI n)), (2, .int (nI 0)), (0, .ref r), (1, .int v)]) hx hb dJ7_fill_53178_4 rfl hl (by decide) rfl (fun ls hl => ?_)
  have hP := kP_cell (g := (kcp (fun _ => v) f 0)) hP 0 rfl (fun j _ => (kcp_0 _ _ j).symm)
  have hD := hD.set (p := 0) (e := .inl (cy 0, n, .inl (kcp (fun _ => v) f 0))) rfl
  have hP : va_P D vwCl (bkF [[(r, .inl (cy 0, n, .inl (kcp (fun _ => v) f 0)))]]) H := hP
  have hD : va_D A (bkF [[(r, .inl (cy 0, n, .inl (kcp (fun _ => v) f 0)))]]) := hD
  have L_5 : ∀ (n9 : Nat) (i : Nat), n - i = n9 → (i ≤ n) → ∀ (ls : Array Slot) (H : Heap) (locs : List Loc), va_P D vwCl (bkF [[(r, .inl (cy 0, n, .inl (kcp (fun _ => v) f i)))]]) H → va_D A (bkF [[(r, .inl (cy 0, n, .inl (kcp (fun _ => v) f i)))]]) → va_S A s.heap H locs → lv_has ls 4 [(0, .ref r), (1, .int v), (2, .int (nI i)), (3, .int (nI n))] → W p l e (headSpec wsJ7_fill_53178 rm_J7_fill).room s m args below meth c H locs 0 0 Q (F0 m 5 ls []) := by
    intro n9
    induction n9 using Nat.strongRecOn with
    | _ n9 ih_5 =>
    intro i hm_5 h5_0 ls H locs hP hD hS hl
    refine lv_iload_n hx hb dJ7_fill_53178_5 rfl (lv_at hl 2 rfl) ?_
    refine lv_iload_n hx hb dJ7_fill_53178_6 rfl (lv_at hl 3 rfl) ?_
    refine lv_icmp_ge (tgt := 20) hx hb dJ7_fill_53178_7 (by decide) (fun c_7 => ?_) (fun c_7 => ?_)
    · skip
      have c_7 : n ≤ i := (nI_leI (a := n) (b := i) (by omega) (by omega)).mp c_7
      have hP := kP_cell (g := (fun _ => v)) hP 0 rfl (fun j hj => kcp_in _ _ (by omega))
      have hD := hD.set (p := 0) (e := .inl (cy 0, n, .inl (fun _ => v))) rfl
      have hP : va_P D vwCl (bkF [[(r, .inl (cy 0, n, .inl (fun _ => v)))]]) H := hP
      have hD : va_D A (bkF [[(r, .inl (cy 0, n, .inl (fun _ => v)))]]) := hD
      exact kr_v (post := fun u_ : Unit => True) (Bs := fun u_ : Unit => [[(r, .inl (cy 0, n, .inl (fun _ => v)))]]) hx hb hr hlocks () hP hK hD hS trivial dJ7_fill_53178_20 hQ
    · skip
      have c_7 : ¬ (n ≤ i) := fun h => c_7 ((nI_leI (a := n) (b := i) (by omega) (by omega)).mpr h)
      refine lv_aload_n hx hb dJ7_fill_53178_10 rfl (lv_at hl 0 rfl) ?_
      refine lv_iload_n hx hb dJ7_fill_53178_11 rfl (lv_at hl 2 rfl) ?_
      refine lv_iload_n hx hb dJ7_fill_53178_12 rfl (lv_at hl 1 rfl) ?_
      refine va_iast hx hb hK hP hD hS 0 0 rfl rfl (vp_in_nI (n := i) (N := n) (by omega) (by omega)) dJ7_fill_53178_13 (fun H locs hP hD hS => ?_)
      rw [nI_clamp (n := i) (by omega)] at hP hD
      have hP : va_P D vwCl (bkF [[(r, .inl (cy 0, n, .inl (upd (kcp (fun _ => v) f i) i v)))]]) H := hP
      have hD : va_D A (bkF [[(r, .inl (cy 0, n, .inl (upd (kcp (fun _ => v) f i) i v)))]]) := hD
      refine lv_iinc (v := nI (i + 1)) (lv' := [(2, .int (nI (i + 1))), (0, .ref r), (1, .int v), (3, .int (nI n))]) hx hb dJ7_fill_53178_14 hl (k := 2) rfl (nI_add i 1) (by decide) rfl (fun ls hl => ?_)
      refine lv_goto (tgt := 5) hx hb dJ7_fill_53178_17 (by decide) ?_
      have hP := kP_cell (g := (kcp (fun _ => v) f (i + 1))) hP 0 rfl (fun j _ => kcp_s (fun _ => v) _ i j)
      have hD := hD.set (p := 0) (e := .inl (cy 0, n, .inl (kcp (fun _ => v) f (i + 1)))) rfl
      have hP : va_P D vwCl (bkF [[(r, .inl (cy 0, n, .inl (kcp (fun _ => v) f (i + 1))))]]) H := hP
      have hD : va_D A (bkF [[(r, .inl (cy 0, n, .inl (kcp (fun _ => v) f (i + 1))))]]) := hD
      exact ih_5 _ (by omega) (i + 1) rfl (by omega) ls H locs hP hD hS (lv_sub hl [1, 2, 0, 3] rfl)
  exact L_5 _ 0  rfl (by omega) ls H locs hP hD hS (lv_sub hl [2, 3, 1, 0] rfl)
abbrev rm_X4_oneIf_n : Room := { frames := 0, cells := 0, slots := 0, locals := 0 }
set_option maxHeartbeats 1000000 in
set_option maxRecDepth 100000 in
/-- oneIf -/
theorem c_X4_oneIf_n (l : Launch) (D : va_G) (cy : Nat → ClassId) (b : Nat) (hbo : b ≤ 1) (sz : Nat) : Met l yX4_oneIf wsX4_oneIf rm_X4_oneIf_n (va_Pc [.int (nI b)] (kPre D (kT cy) [] sz)) (va_Qi (fun r_ (u_ : Unit) => r_ = nI b) (kFr D (kT cy) [] sz (fun u_ : Unit => [])) (va_A (bkF []) sz)) 0 0 (va_A (bkF []) sz) := by
  refine kOpen (y := yX4_oneIf) (ws := wsX4_oneIf) (cc := cX4_oneIf) (maxL := 1) (ret := (some .int)) (av := [.int (nI b)]) (Bs := []) (Qc := fun A => (va_Qi (fun r_ (u_ : Unit) => r_ = nI b) (fun (u_ : Unit) t9 => kEnd D (kT cy) A [] t9) A)) (by decide) rfl (Nat.le_of_ble_eq_true rfl) ?_
  intro p e s m args below meth c A Q ls hQ hx hb hml hr hlocks hin hts hown hN hK hP hD hS hA hsz hAe hl
  clear hAe
  have hl : lv_has ls 1 [(0, .int (nI b))] := hl
  suffices K9 : ∀ (H : Heap) (locs : List Loc), va_P D vwCl (bkF []) H → va_S A s.heap H locs → W p l e (headSpec wsX4_oneIf rm_X4_oneIf_n).room s m args below meth c H locs 0 0 Q (F0 m 0 ls []) from K9 _ _ hP hS
  clear hP hS
  intro H locs hP hS
  refine lv_iload_n hx hb dX4_oneIf_0 rfl (lv_at hl 0 rfl) ?_
  refine lv_if_eq (tgt := 8) hx hb dX4_oneIf_1 (by decide) (fun c_1 => ?_) (fun c_1 => ?_)
  · skip
    have c_1 : b = 0 := (nI_eq (a := b) (b := 0) (by omega) (by omega)).mp c_1
    refine lv_iconst (v := nI 0) hx hb dX4_oneIf_8 (by decide) ?_
    exact kr_i (post := fun r_ (u_ : Unit) => r_ = nI b) (Bs := fun u_ : Unit => []) hx hb hr hlocks rfl () hP hK hD hS (by first | (rw [show b = 0 from by omega]; done) | (rw [show b = 1 from by omega])) dX4_oneIf_9 hQ
  · skip
    have c_1 : ¬ (b = 0) := fun h => c_1 ((nI_eq (a := b) (b := 0) (by omega) (by omega)).mpr h)
    refine lv_iconst (v := nI 1) hx hb dX4_oneIf_4 (by decide) ?_
    refine lv_goto (tgt := 9) hx hb dX4_oneIf_5 (by decide) ?_
    exact kr_i (post := fun r_ (u_ : Unit) => r_ = nI b) (Bs := fun u_ : Unit => []) hx hb hr hlocks rfl () hP hK hD hS (by first | (rw [show b = 0 from by omega]; done) | (rw [show b = 1 from by omega])) dX4_oneIf_9 hQ
abbrev rm_X4_oneIf : Room := { frames := 0, cells := 0, slots := 0, locals := 0 }
set_option maxHeartbeats 1000000 in
set_option maxRecDepth 100000 in
/-- oneIf -/
theorem c_X4_oneIf (l : Launch) (D : va_G) (cy : Nat → ClassId) (x : Int32) (hbo : x = nI 0 ∨ x = nI 1) (sz : Nat) : Met l yX4_oneIf wsX4_oneIf rm_X4_oneIf (va_Pc [.int x] (kPre D (kT cy) [] sz)) (va_Qi (fun r_ (u_ : Unit) => r_ = x) (kFr D (kT cy) [] sz (fun u_ : Unit => [])) (va_A (bkF []) sz)) 0 0 (va_A (bkF []) sz) := by
  refine kOpen (y := yX4_oneIf) (ws := wsX4_oneIf) (cc := cX4_oneIf) (maxL := 1) (ret := (some .int)) (av := [.int x]) (Bs := []) (Qc := fun A => (va_Qi (fun r_ (u_ : Unit) => r_ = x) (fun (u_ : Unit) t9 => kEnd D (kT cy) A [] t9) A)) (by decide) rfl (Nat.le_of_ble_eq_true rfl) ?_
  intro p e s m args below meth c A Q ls hQ hx hb hml hr hlocks hin hts hown hN hK hP hD hS hA hsz hAe hl
  clear hAe
  have hl : lv_has ls 1 [(0, .int x)] := hl
  suffices K9 : ∀ (H : Heap) (locs : List Loc), va_P D vwCl (bkF []) H → va_S A s.heap H locs → W p l e (headSpec wsX4_oneIf rm_X4_oneIf).room s m args below meth c H locs 0 0 Q (F0 m 0 ls []) from K9 _ _ hP hS
  clear hP hS
  intro H locs hP hS
  refine lv_iload_n hx hb dX4_oneIf_0 rfl (lv_at hl 0 rfl) ?_
  refine lv_if_eq (tgt := 8) hx hb dX4_oneIf_1 (by decide) (fun c_1 => ?_) (fun c_1 => ?_)
  · skip
    refine lv_iconst (v := nI 0) hx hb dX4_oneIf_8 (by decide) ?_
    exact kr_i (post := fun r_ (u_ : Unit) => r_ = x) (Bs := fun u_ : Unit => []) hx hb hr hlocks rfl () hP hK hD hS (by rcases hbo with h | h <;> first | exact h.symm | (exact absurd h c_1) | (rw [h] at c_1; exact absurd c_1 (by decide))) dX4_oneIf_9 hQ
  · skip
    refine lv_iconst (v := nI 1) hx hb dX4_oneIf_4 (by decide) ?_
    refine lv_goto (tgt := 9) hx hb dX4_oneIf_5 (by decide) ?_
    exact kr_i (post := fun r_ (u_ : Unit) => r_ = x) (Bs := fun u_ : Unit => []) hx hb hr hlocks rfl () hP hK hD hS (by rcases hbo with h | h <;> first | exact h.symm | (exact absurd h c_1) | (rw [h] at c_1; exact absurd c_1 (by decide))) dX4_oneIf_9 hQ
abbrev rm_X4_isWithin : Room := { frames := 0, cells := 0, slots := 0, locals := 0 }
set_option maxHeartbeats 1000000 in
set_option maxRecDepth 100000 in
/-- isWithin -/
theorem c_X4_isWithin (l : Launch) (D : va_G) (cy : Nat → ClassId) (x : Int32) (lo : Int32) (hi : Int32) (sz : Nat) : Met l yX4_isWithin wsX4_isWithin rm_X4_isWithin (va_Pc [.int x, .int lo, .int hi] (kPre D (kT cy) [] sz)) (va_Qi (fun r_ (u_ : Unit) => r_ = if ¬ x < lo ∧ ¬ hi < x then nI 1 else nI 0) (kFr D (kT cy) [] sz (fun u_ : Unit => [])) (va_A (bkF []) sz)) 0 0 (va_A (bkF []) sz) := by
  refine kOpen (y := yX4_isWithin) (ws := wsX4_isWithin) (cc := cX4_isWithin) (maxL := 3) (ret := (some .boolean)) (av := [.int x, .int lo, .int hi]) (Bs := []) (Qc := fun A => (va_Qi (fun r_ (u_ : Unit) => r_ = if ¬ x < lo ∧ ¬ hi < x then nI 1 else nI 0) (fun (u_ : Unit) t9 => kEnd D (kT cy) A [] t9) A)) (by decide) rfl (Nat.le_of_ble_eq_true rfl) ?_
  intro p e s m args below meth c A Q ls hQ hx hb hml hr hlocks hin hts hown hN hK hP hD hS hA hsz hAe hl
  clear hAe
  have hl : lv_has ls 3 [(0, .int x), (1, .int lo), (2, .int hi)] := hl
  suffices K9 : ∀ (H : Heap) (locs : List Loc), va_P D vwCl (bkF []) H → va_S A s.heap H locs → W p l e (headSpec wsX4_isWithin rm_X4_isWithin).room s m args below meth c H locs 0 0 Q (F0 m 0 ls []) from K9 _ _ hP hS
  clear hP hS
  intro H locs hP hS
  refine lv_iload_n hx hb dX4_isWithin_0 rfl (lv_at hl 1 rfl) ?_
  refine lv_iload_n hx hb dX4_isWithin_1 rfl (lv_at hl 0 rfl) ?_
  refine lv_icmp_gt (tgt := 14) hx hb dX4_isWithin_2 (by decide) (fun c_2 => ?_) (fun c_2 => ?_)
  · skip
    refine lv_iconst (v := nI 0) hx hb dX4_isWithin_14 (by decide) ?_
    exact kr_i (post := fun r_ (u_ : Unit) => r_ = if ¬ x < lo ∧ ¬ hi < x then nI 1 else nI 0) (Bs := fun u_ : Unit => []) hx hb hr hlocks rfl () hP hK hD hS (by first | exact (if_pos (by first | assumption | (simp only [c_2]; done) | (constructor <;> assumption) | omega)).symm | exact (if_neg (by first | assumption | omega)).symm | simp [c_2] | (split <;> simp_all)) dX4_isWithin_15 hQ
  · skip
    refine lv_iload_n hx hb dX4_isWithin_5 rfl (lv_at hl 0 rfl) ?_
    refine lv_iload_n hx hb dX4_isWithin_6 rfl (lv_at hl 2 rfl) ?_
    refine lv_icmp_gt (tgt := 14) hx hb dX4_isWithin_7 (by decide) (fun c_7 => ?_) (fun c_7 => ?_)
    · skip
      refine lv_iconst (v := nI 0) hx hb dX4_isWithin_14 (by decide) ?_
      exact kr_i (post := fun r_ (u_ : Unit) => r_ = if ¬ x < lo ∧ ¬ hi < x then nI 1 else nI 0) (Bs := fun u_ : Unit => []) hx hb hr hlocks rfl () hP hK hD hS (by first | exact (if_pos (by first | assumption | (simp only [c_2, c_7]; done) | (constructor <;> assumption) | omega)).symm | exact (if_neg (by first | assumption | omega)).symm | simp [c_2, c_7] | (split <;> simp_all)) dX4_isWithin_15 hQ
    · skip
      refine lv_iconst (v := nI 1) hx hb dX4_isWithin_10 (by decide) ?_
      refine lv_goto (tgt := 15) hx hb dX4_isWithin_11 (by decide) ?_
      exact kr_i (post := fun r_ (u_ : Unit) => r_ = if ¬ x < lo ∧ ¬ hi < x then nI 1 else nI 0) (Bs := fun u_ : Unit => []) hx hb hr hlocks rfl () hP hK hD hS (by first | exact (if_pos (by first | assumption | (simp only [c_2, c_7]; done) | (constructor <;> assumption) | omega)).symm | exact (if_neg (by first | assumption | omega)).symm | simp [c_2, c_7] | (split <;> simp_all)) dX4_isWithin_15 hQ
