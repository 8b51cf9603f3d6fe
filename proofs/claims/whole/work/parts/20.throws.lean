/-! what throws: the words, the strings and the statics that a throw reads -/
abbrev nIO : String := "java/lang/IndexOutOfBoundsException"
abbrev nIA : String := "java/lang/IllegalArgumentException"
abbrev nIS : String := "java/lang/IllegalStateException"
def kX (S : Nat × Nat × Nat) (A : Nat → Prop) (U : State) : Prop :=
  (va_Nw (.castable nIO nIO) U ∧ va_Nw (.castable nIA nIA) U ∧ va_Nw (.castable nIS nIS) U ∧ va_Nw (.declares (Bundle.initS "java/lang/RuntimeException")) U ∧ va_Nw (.declares (Bundle.initS "java/lang/Exception")) U ∧ va_Nw (.declares (Bundle.initS Bundle.tN)) U) ∧
  vk_R RX4 245 "there is no such thing" S.1 U ∧ vk_R RX4 252 "a number is out of range" S.2.1 U ∧ vk_R RX4 257 "the state does not allow it" S.2.2 U ∧
  vx_Zq Bundle.tN "UNASSIGNED_STACK" Bundle.steD A U U.heap ∧ vx_Zq Bundle.tN "SUPPRESSED_SENTINEL" Bundle.listD A U U.heap
theorem kX.at {S : Nat × Nat × Nat} {A B : Nat → Prop} {s U : State} {H : Heap} {locs : List Loc} (h : kX S A s) (hW : s.WarmedH U.vm) (hU : U.heap = H) (hS : va_S A s.heap H locs) (hF : ∀ q, B q → A q) : kX S B U := by
  obtain ⟨⟨c1, c2, c3, d1, d2, d3⟩, r1, r2, r3, z1, z2⟩ := h
  refine ⟨⟨c1.warmC hW, c2.warmC hW, c3.warmC hW, d1.warmD hW, d2.warmD hW, d3.warmD hW⟩, vk_R.warm hW r1, vk_R.warm hW r2, vk_R.warm hW r3, ?_, ?_⟩
  · rw [hU]
    exact (vx_Zq.moved hW.alike (z1.kept hS.2.1)).narrow hF
  · rw [hU]
    exact (vx_Zq.moved hW.alike (z2.kept hS.2.1)).narrow hF
def kPreX (D : va_G) (tys : List (ClassId × FieldType)) (S : Nat × Nat × Nat) (Bs : List va_W) (sz : Nat) : State → Prop := fun U => kPre D tys Bs sz U ∧ kX S (va_A (bkF Bs) sz) U
theorem kPreX_blind {av : List Value} {D : va_G} {tys : List (ClassId × FieldType)} {S : Nat × Nat × Nat} {Bs : List va_W} {sz : Nat} : FrameBlind (va_Pc av (kPreX D tys S Bs sz)) := fun a U g mk q => by
  obtain ⟨q0, q1, qX⟩ := q
  obtain ⟨-, p1⟩ := kPre_blind (av := av) (D := D) (tys := tys) (Bs := Bs) (sz := sz) a U g mk ⟨q0, q1⟩
  exact ⟨q0, p1, kX.at (s := U) (U := U.calling g mk a) (H := U.heap) (locs := []) qX (State.WarmedH.refl U) rfl va_S.rf (fun _ h => h)⟩
theorem kPreX_S {s : State} {H : Heap} {locs : List Loc} {A : Nat → Prop} {D : va_G} {tys : List (ClassId × FieldType)} {S : Nat × Nat × Nat} {Bs Cs : List va_W} {As : List Value} (hK : va_K D vwCl tys s) (hN : kN s) (hX : kX S A s) (hP : va_P D vwCl (bkF Bs) H) (hD : va_D A (bkF Bs)) (hS : va_S A s.heap H locs) (hA : ∀ q, s.heap.size ≤ q → A q) (isC : List Nat) (hn : isC.Nodup) (hC : isC.map (fun i => Bs[i]?) = Cs.map some) : PreS s H (va_Pc As (kPreX D tys S Cs H.size)) As :=
  ⟨kPreX_blind, fun U hU hW => by
    obtain ⟨q0, q1⟩ := (kPre_S (As := As) hK hN hP hD isC hn hC).2 U hU hW
    exact ⟨q0, q1, hX.at hW hU hS (bk_free (Cs := Cs) hD hS hA isC hC)⟩⟩
abbrev kXC (D : va_G) (Bs : List va_W) (A : Nat → Prop) (E0 : String) : String → State → State → Prop := vx_X (fun _ : Unit => True) (fun E _ t => E = E0 ∧ va_P D vwCl (bkF Bs) t.heap) A
theorem kXC_in {D : va_G} {Bs : List va_W} {A : Nat → Prop} {E0 E : String} {s t : State} {H : Heap} {locs : List Loc} (hE : E = E0) (hS : va_S A s.heap H locs) (hP : va_P D vwCl (bkF Bs) H) (h1 : H.size ≤ t.heap.size) (h2 : ∀ q : Nat, q < H.size → t.heap[q]? = H[q]?) : kXC D Bs A E0 E s t :=
  ⟨(), trivial, ⟨hE, hP.kept (fun k x hx => h2 x.1 ((hP k x hx).lt))⟩, Nat.le_trans hS.1 h1, fun q g1 g2 => (h2 q (Nat.lt_of_lt_of_le g1 hS.1)).trans (hS.2.1 q g1 g2)⟩
/-- what every body that throws begins with -/
theorem kOpenX {l : Launch} {y : MethodName} {ws ws' : List Cond} {rm : Room} {cc : ByteArray} {maxL : Nat} {ret : Option FieldType} {av : List Value} {D : va_G} {tys : List (ClassId × FieldType)} {S : Nat × Nat × Nat} {Bs : List va_W} {sz mc ms : Nat} {Qc : Array Value → State → Outcome → State → Prop} {XC : (Nat → Prop) → String → State → State → Prop}
    (hy : plainName y.cls = true) (hw : ws = Cond.code y cc maxL ret :: ws') (hlen : (lg_sl av).length ≤ maxL)
    (body : ∀ (p : Program) (e : Env) (s : State) (m : MethodId) (args : Array Value) (below : List Frame) (meth : Method) (c : Code) (A : Nat → Prop) (Q : State → Prop) (ls : Array Slot), vx_MQ below Qc (XC A) args s mc ms A = Q → p.tables.exec = Jvm.exec → c.code = cc → c.maxLocals = maxL → meth.locks = false → (∀ x ∈ c.exceptionTable.toList, False) → (∀ w ∈ ws, w.before args s = true) → s.vm.findClass y.cls = some m.cls → kN s → kX S A s → va_K D vwCl tys s → va_P D vwCl (bkF Bs) s.heap → va_D A (bkF Bs) → va_S A s.heap s.heap [] → (∀ q, s.heap.size ≤ q → A q) → lv_has ls maxL (lv_args 0 av) →
      W p l e (headSpec ws rm).room s m args below meth c s.heap [] 0 0 Q (F0 m 0 ls [])) :
    vx_Met l y ws rm (va_Pc av (kPreX D tys S Bs sz)) Qc (XC (va_A (bkF Bs) sz)) mc ms (va_A (bkF Bs) sz) := by
  refine vx_ofW (cc := cc) (maxL := maxL) (ret := ret) hy hw ?_
  intro p e s m args below meth c s₁ B hml ht hv
  obtain ⟨rfl, ⟨hsz, hP, hK, hD0, hN⟩, hX⟩ := hv
  have hl := lv_entry av (n := maxL) hlen
  rw [lg_entry_eq]
  generalize (lg_sl av ++ List.replicate (maxL - (lg_sl av).length) Slot.unset).toArray = ls at hl ⊢
  subst hsz
  exact body p e s m av.toArray below meth c (va_A (bkF Bs) s.heap.size) _ ls rfl B.exec B.bytes hml B.notSynchronized ht (atoms_spec (ws := ws) B.pre) (findClass_of_methodNamed B.named) hN hX hK hP hD0.self va_S.rf (fun q h => Or.inr h) hl
abbrev kNo : Array Value → State → Outcome → State → Prop := fun _ _ _ _ => False
abbrev rm_x0 : Room := { frames := 6, cells := 1, slots := 6, locals := 82 }
abbrev kNames : List String := ["java/lang/RuntimeException", "java/lang/Exception"]
section KX
variable {args : Array Value} {s : State} {S : Nat × Nat × Nat} {A : Nat → Prop}
theorem kX_hat {E : String} {ic : Nat} (h1 : ∀ w ∈ (vx_atS RX4 ic E kNames).filter goodWord, w.before args s = true) (h2 : ∀ w ∈ (vx_atS RX4 ic E kNames).filter (fun w => !goodWord w), w ∈ [.castable E E, .declares (Bundle.initS "java/lang/RuntimeException"), .declares (Bundle.initS "java/lang/Exception"), .declares (Bundle.initS Bundle.tN)]) (hX : kX S A s) (hc : va_Nw (.castable E E) s) : ∀ w ∈ vx_atS RX4 ic E kNames, w.before args s = true :=
  vx_hat h1 h2 (vx_c (va_Nw.use rfl hc) (vx_c (va_Nw.use rfl hX.1.2.2.2.1) (vx_c (va_Nw.use rfl hX.1.2.2.2.2.1) (vx_c (va_Nw.use rfl hX.1.2.2.2.2.2) vx_n))))
end KX
set_option maxHeartbeats 1000000 in
theorem x_X4_needIndex (l : Launch) (hst : l.stackTraces = false) (D : va_G) (cy : Nat → ClassId) (S : Nat × Nat × Nat) (sz : Nat) : vx_Met l yX4_needIndex wsX4_needIndex rm_x0 (va_Pc [.int (nI 0)] (kPreX D (kT cy) S [] sz)) kNo (kXC D [] (va_A (bkF []) sz) nIO) 1 6 (va_A (bkF []) sz) := by
  refine kOpenX (y := yX4_needIndex) (ws := wsX4_needIndex) (cc := cX4_needIndex) (maxL := 1) (ret := none) (av := [.int (nI 0)]) (Bs := []) (XC := fun A => kXC D [] A nIO) (by decide) rfl (Nat.le_of_ble_eq_true rfl) ?_
  intro p e s m args below meth c A Q ls hQ hx hb hml hlocks htb hts hown hN hX hK hP hD hS hA hl
  have hl : lv_has ls 1 [(0, .int (nI 0))] := hl
  refine lv_iload_n hx hb dX4_needIndex_0 rfl (lv_at hl 0 rfl) ?_
  refine lv_if_ne (tgt := 14) hx hb dX4_needIndex_1 (by decide) (fun h => absurd h (by decide)) (fun _ => ?_)
  subst hQ
  exact vx_throwS (ik := 243) (is := 245) (ic := 247) (names := kNames) (cls := nIO) (own := RX4) (text := "there is no such thing") (sa := S.1) (A := A) hx hb hst hown (by decide) (by decide)
    (hts _ (by decide +kernel)) (hts _ (by decide +kernel)) hX.2.1 (kX_hat (fun w hw => hts w (by unfold wsX4_needIndex; exact List.mem_cons_of_mem _ (List.mem_append_right _ hw))) (by decide +kernel) hX hX.1.1) (by decide +kernel)
    hX.2.2.2.2.1 hX.2.2.2.2.2 hS (hl.1.trans hml.symm) dX4_needIndex_4 dX4_needIndex_7 dX4_needIndex_8 dX4_needIndex_10 dX4_needIndex_13 (fun x hx => (htb x hx).elim) (by decide) (by decide) (by decide) (by decide) hlocks (fun t _ h1 h2 => kXC_in rfl hS hP h1 h2) (fun z hz => nomatch hz) (by decide) (by decide)
set_option maxHeartbeats 1000000 in
theorem x_X4_needArgument (l : Launch) (hst : l.stackTraces = false) (D : va_G) (cy : Nat → ClassId) (S : Nat × Nat × Nat) (sz : Nat) : vx_Met l yX4_needArgument wsX4_needArgument rm_x0 (va_Pc [.int (nI 0)] (kPreX D (kT cy) S [] sz)) kNo (kXC D [] (va_A (bkF []) sz) nIA) 1 6 (va_A (bkF []) sz) := by
  refine kOpenX (y := yX4_needArgument) (ws := wsX4_needArgument) (cc := cX4_needArgument) (maxL := 1) (ret := none) (av := [.int (nI 0)]) (Bs := []) (XC := fun A => kXC D [] A nIA) (by decide) rfl (Nat.le_of_ble_eq_true rfl) ?_
  intro p e s m args below meth c A Q ls hQ hx hb hml hlocks htb hts hown hN hX hK hP hD hS hA hl
  have hl : lv_has ls 1 [(0, .int (nI 0))] := hl
  refine lv_iload_n hx hb dX4_needArgument_0 rfl (lv_at hl 0 rfl) ?_
  refine lv_if_ne (tgt := 14) hx hb dX4_needArgument_1 (by decide) (fun h => absurd h (by decide)) (fun _ => ?_)
  subst hQ
  exact vx_throwS (ik := 250) (is := 252) (ic := 254) (names := kNames) (cls := nIA) (own := RX4) (text := "a number is out of range") (sa := S.2.1) (A := A) hx hb hst hown (by decide) (by decide)
    (hts _ (by decide +kernel)) (hts _ (by decide +kernel)) hX.2.2.1 (kX_hat (fun w hw => hts w (by unfold wsX4_needArgument; exact List.mem_cons_of_mem _ (List.mem_append_right _ hw))) (by decide +kernel) hX hX.1.2.1) (by decide +kernel)
    hX.2.2.2.2.1 hX.2.2.2.2.2 hS (hl.1.trans hml.symm) dX4_needArgument_4 dX4_needArgument_7 dX4_needArgument_8 dX4_needArgument_10 dX4_needArgument_13 (fun x hx => (htb x hx).elim) (by decide) (by decide) (by decide) (by decide) hlocks (fun t _ h1 h2 => kXC_in rfl hS hP h1 h2) (fun z hz => nomatch hz) (by decide) (by decide)
set_option maxHeartbeats 1000000 in
theorem x_X4_needState (l : Launch) (hst : l.stackTraces = false) (D : va_G) (cy : Nat → ClassId) (S : Nat × Nat × Nat) (sz : Nat) : vx_Met l yX4_needState wsX4_needState rm_x0 (va_Pc [.int (nI 0)] (kPreX D (kT cy) S [] sz)) kNo (kXC D [] (va_A (bkF []) sz) nIS) 1 6 (va_A (bkF []) sz) := by
  refine kOpenX (y := yX4_needState) (ws := wsX4_needState) (cc := cX4_needState) (maxL := 1) (ret := none) (av := [.int (nI 0)]) (Bs := []) (XC := fun A => kXC D [] A nIS) (by decide) rfl (Nat.le_of_ble_eq_true rfl) ?_
  intro p e s m args below meth c A Q ls hQ hx hb hml hlocks htb hts hown hN hX hK hP hD hS hA hl
  have hl : lv_has ls 1 [(0, .int (nI 0))] := hl
  refine lv_iload_n hx hb dX4_needState_0 rfl (lv_at hl 0 rfl) ?_
  refine lv_if_ne (tgt := 15) hx hb dX4_needState_1 (by decide) (fun h => absurd h (by decide)) (fun _ => ?_)
  subst hQ
  exact vx_throwSW (ik := 255) (is := 257) (ic := 259) (names := kNames) (cls := nIS) (own := RX4) (text := "the state does not allow it") (sa := S.2.2) (A := A) hx hb hst hown (by decide) (by decide)
    (hts _ (by decide +kernel)) (hts _ (by decide +kernel)) hX.2.2.2.1 (kX_hat (fun w hw => hts w (by unfold wsX4_needState; exact List.mem_cons_of_mem _ (List.mem_append_right _ hw))) (by decide +kernel) hX hX.1.2.2.1) (by decide +kernel)
    hX.2.2.2.2.1 hX.2.2.2.2.2 hS (hl.1.trans hml.symm) dX4_needState_4 dX4_needState_7 dX4_needState_8 dX4_needState_11 dX4_needState_14 (fun x hx => (htb x hx).elim) (by decide) (by decide) (by decide) (by decide) hlocks (fun t _ h1 h2 => kXC_in rfl hS hP h1 h2) (fun z hz => nomatch hz) (by decide) (by decide)
section KXC
variable {p : Program} {l : Launch} {e : Env} {R : Room} {s : State} {m : MethodId} {args : Array Value} {below : List Frame} {meth : Method} {c : Code} {H : Heap} {locs : List Loc} {cells slots : Nat} {pc : Nat} {ls : Array Slot} {rest st0 : List Value} {D : va_G} {A : Nat → Prop} {mc ms : Nat} {a : Array Value} {Qc : Array Value → State → Outcome → State → Prop}
/-- a call that throws, not caught here -/
theorem kx_call {E0 : String} {Bs : List va_W} (hr : vx_Run p l e R s m args below meth c H locs cells slots 1 6 (F0 m pc ls st0) rest (kNo a) (kXC D [] (va_A (bkF []) H.size) E0) (va_A (bkF []) H.size)) (hS : va_S A s.heap H locs) (hA : ∀ q, s.heap.size ≤ q → A q) (hP : va_P D vwCl (bkF Bs) H) (htb : ∀ x ∈ c.exceptionTable.toList, False) (hlocks : meth.locks = false) (hc : cells + 1 ≤ mc) (hs : slots + 6 ≤ ms) : W p l e R s m args below meth c H locs cells slots (vx_MQ below Qc (kXC D Bs A E0) args s mc ms A) (F0 m pc ls st0) := by
  have hf : ∀ q, va_A (bkF []) H.size q → A q := by
    intro q hq
    rcases hq with ⟨k, e9, hk⟩ | hq
    · cases hk
    · exact hA q (Nat.le_trans hS.1 hq)
  have hr2 : vx_Run p l e R s m args below meth c H locs cells slots 1 6 (F0 m pc ls st0) rest (va_Qv (fun _ : Unit => False) (fun _ _ => True) (fun _ => False) a) (kXC D [] (va_A (bkF []) H.size) E0) (va_A (bkF []) H.size) := by
    intro T hT X
    rcases hr T hT X with ⟨v, st₀, t, T', L, h0, X', hL, e1, e2, hq, st⟩ | h
    · exact hq.elim
    · exact Or.inr h
  refine vx_callv hr2 hS (fun q _ h => h.elim) hf (fun q _ h => hf q h) (fun E ce q9 u t H1 locs1 ht hvm _ hB hz hk hS1 hce hcv hcl => ?_) (fun _ _ _ _ _ _ h => h.elim)
  have hk' : ∀ q : Nat, q < H.size → H1[q]? = H[q]? := fun q hq => hk q hq (fun h => by
    rcases h with ⟨k, e9, hk9⟩ | h
    · cases hk9
    · omega)
  exact vx_out (fun x hx => (htb x hx).elim) hlocks hce hcv hcl (fun t9 h9 _ => ⟨(), trivial, ⟨hB.1, by rw [h9]; exact hP.kept (fun k x hx => hk' x.1 ((hP k x hx).lt))⟩, by rw [h9]; exact hS1.1, fun q g1 g2 => by rw [h9]; exact hS1.2.1 q g1 g2⟩) hS1.2.2 hc hs
end KXC
