/-! the law's own methods: they catch what the class throws -/
def kNc (U : State) : Prop := va_Nc nIS nIA U ∧ va_Nc nIA nIO U ∧ va_Nc nIS nIO U
theorem kNc.at {s U : State} (h : kNc s) (hW : s.WarmedH U.vm) : kNc U := ⟨va_Nc.moved hW.alike h.1, va_Nc.moved hW.alike h.2.1, va_Nc.moved hW.alike h.2.2⟩
def kPreY (D : va_G) (tys : List (ClassId × FieldType)) (S : Nat × Nat × Nat) (Bs : List va_W) (sz : Nat) : State → Prop := fun U => kPreX D tys S Bs sz U ∧ kNc U
theorem kPreY_blind {av : List Value} {D : va_G} {tys : List (ClassId × FieldType)} {S : Nat × Nat × Nat} {Bs : List va_W} {sz : Nat} : FrameBlind (va_Pc av (kPreY D tys S Bs sz)) := fun a U g mk q => by
  obtain ⟨q0, q1, qN⟩ := q
  obtain ⟨-, p1⟩ := kPreX_blind (av := av) (D := D) (tys := tys) (S := S) (Bs := Bs) (sz := sz) a U g mk ⟨q0, q1⟩
  exact ⟨q0, p1, kNc.at (s := U) (U := U.calling g mk a) qN (State.WarmedH.refl U)⟩
theorem kPreY_S {s : State} {H : Heap} {locs : List Loc} {A : Nat → Prop} {D : va_G} {tys : List (ClassId × FieldType)} {S : Nat × Nat × Nat} {Bs Cs : List va_W} {As : List Value} (hK : va_K D vwCl tys s) (hN : kN s) (hX : kX S A s) (hNc : kNc s) (hP : va_P D vwCl (bkF Bs) H) (hD : va_D A (bkF Bs)) (hS : va_S A s.heap H locs) (hA : ∀ q, s.heap.size ≤ q → A q) (isC : List Nat) (hn : isC.Nodup) (hC : isC.map (fun i => Bs[i]?) = Cs.map some) : PreS s H (va_Pc As (kPreY D tys S Cs H.size)) As :=
  ⟨kPreY_blind, fun U hU hW => by
    obtain ⟨q0, q1⟩ := (kPreX_S (S := S) (As := As) hK hN hX hP hD hS hA isC hn hC).2 U hU hW
    exact ⟨q0, q1, hNc.at hW⟩⟩
theorem kPreX_V {s : State} {H : Heap} {locs : List Loc} {A : Nat → Prop} {D : va_G} {tys : List (ClassId × FieldType)} {S : Nat × Nat × Nat} {Bs Cs : List va_W} {As : List Value} {b ci : Nat} {q : vw_C} {fs : List Value} (hK : va_K D vwCl tys s) (hN : kN s) (hX : kX S A s) (hP : va_P D vwCl (bkF Bs) H) (hD : va_D A (bkF Bs)) (hS : va_S A s.heap H locs) (hA : ∀ q, s.heap.size ≤ q → A q) (isC : List Nat) (hn : isC.Nodup) (hC : isC.map (fun i => Bs[i]?) = Cs.map some) (q0 : Nat) (hc : vwCl[ci]? = some q) (he : (bkF Cs)[q0]? = some (b, .inr (ci, fs))) : PreV s H q.1 b (va_Pc (.ref b :: As) (kPreX D tys S Cs H.size)) As :=
  ⟨kPreX_blind, va_recv hK (bk_P isC hC hP) hc he, (kPreX_S (S := S) (As := .ref b :: As) hK hN hX hP hD hS hA isC hn hC).2⟩
/-- what every body with handlers begins with -/
theorem kOpenY {l : Launch} {y : MethodName} {ws ws' : List Cond} {rm : Room} {cc : ByteArray} {maxL : Nat} {ret : Option FieldType} {hh : List (Nat × Nat × Nat × Nat)} {av : List Value} {D : va_G} {tys : List (ClassId × FieldType)} {S : Nat × Nat × Nat} {Bs : List va_W} {sz mc ms : Nat} {Qc : (Nat → Prop) → Array Value → State → Outcome → State → Prop}
    (hy : plainName y.cls = true) (hw : ws = Cond.codeWith y cc maxL ret hh :: ws') (hlen : (lg_sl av).length ≤ maxL)
    (body : ∀ (p : Program) (e : Env) (s : State) (m : MethodId) (args : Array Value) (below : List Frame) (meth : Method) (c : Code) (A : Nat → Prop) (Q : State → Prop) (ls : Array Slot), MQ below (Qc A) args s mc ms A = Q → p.tables.exec = Jvm.exec → c.code = cc → c.maxLocals = maxL → meth.sig.returnType = ret → meth.locks = false → c.exceptionTable.toList = tableOf hh → (∀ w ∈ ws, w.before args s = true) → s.vm.findClass y.cls = some m.cls → kN s → kX S A s → kNc s → va_K D vwCl tys s → va_P D vwCl (bkF Bs) s.heap → va_D A (bkF Bs) → va_S A s.heap s.heap [] → (∀ q, s.heap.size ≤ q → A q) → lv_has ls maxL (lv_args 0 av) →
      W p l e (headSpec ws rm).room s m args below meth c s.heap [] 0 0 Q (F0 m 0 ls [])) :
    Met l y ws rm (va_Pc av (kPreY D tys S Bs sz)) (Qc (va_A (bkF Bs) sz)) mc ms (va_A (bkF Bs) sz) := by
  refine va_MetW (cc := cc) (maxL := maxL) (ret := ret) (hh := hh) hy hw ?_
  intro p e s m args below meth c s₁ B hml hv
  obtain ⟨rfl, ⟨⟨hsz, hP, hK, hD0, hN⟩, hX⟩, hNc⟩ := hv
  have hl := lv_entry av (n := maxL) hlen
  rw [lg_entry_eq]
  generalize (lg_sl av ++ List.replicate (maxL - (lg_sl av).length) Slot.unset).toArray = ls at hl ⊢
  subst hsz
  have hts := atoms_spec (ws := ws) B.pre
  exact body p e s m av.toArray below meth c (va_A (bkF Bs) s.heap.size) _ ls rfl B.exec B.bytes hml B.returns B.notSynchronized (vx_table (x := y) B (hts _ (by rw [hw]; exact List.mem_cons_self))) hts (findClass_of_methodNamed B.named) hN hX hNc hK hP hD0.self va_S.rf (fun q h => Or.inr h) hl
section KYC
variable {p : Program} {l : Launch} {e : Env} {R : Room} {s : State} {m : MethodId} {args : Array Value} {below : List Frame} {meth : Method} {c : Code} {H : Heap} {locs : List Loc} {cells slots : Nat} {Q : State → Prop} {pc : Nat} {ls : Array Slot} {rest st0 : List Value} {D : va_G} {A : Nat → Prop} {a : Array Value}
/-- a call that throws: the world is as it was -/
theorem ky_call {E0 : String} {Bs Cs Rs : List va_W} (hP : va_P D vwCl (bkF Bs) H) (hD : va_D A (bkF Bs)) (hS : va_S A s.heap H locs) (hA : ∀ q, s.heap.size ≤ q → A q) (isC isR pm : List Nat) (hC : isC.map (fun i => Bs[i]?) = Cs.map some) (hR : isR.map (fun i => Bs[i]?) = Rs.map some) (hn : (isC ++ isR).Nodup) (hpn : pm.Nodup) (hp : pm.map (fun i => (Rs ++ Cs)[i]?) = Bs.map some)
    (hr : vx_Run p l e R s m args below meth c H locs cells slots 1 6 (F0 m pc ls st0) rest (kNo a) (kXC D Cs (va_A (bkF Cs) H.size) E0) (va_A (bkF Cs) H.size))
    (kx : ∀ (ce : Cell) (q9 : Addr) (H1 : Heap) (locs1 : List Loc), va_P D vwCl (bkF Bs) H1 → va_D A (bkF Bs) → va_S A s.heap H1 locs1 → H1[q9]? = some ce → ce.vm = .none → s.vm.findClass E0 = some ce.cls → vx_W p l e R s m args below meth c H1 locs1 (cells + 1) (slots + 6) Q (F0 m pc ls rest) q9) : W p l e R s m args below meth c H locs cells slots Q (F0 m pc ls st0) := by
  have hF := bk_free (Cs := Cs) hD hS hA isC hC
  have hr2 : vx_Run p l e R s m args below meth c H locs cells slots 1 6 (F0 m pc ls st0) rest (va_Qv (fun _ : Unit => False) (fun _ _ => True) (fun _ => False) a) (kXC D Cs (va_A (bkF Cs) H.size) E0) (va_A (bkF Cs) H.size) := by
    intro T hT X
    rcases hr T hT X with ⟨v, st₀, t, T', L, h0, X', hL, e1, e2, hq, st⟩ | h
    · exact hq.elim
    · exact Or.inr h
  refine vx_callv hr2 hS (fun q _ h => h.elim) hF (fun q _ h => hF q h) (fun E ce q9 u t H1 locs1 ht hvm _ hB hz hk hS1 hce hcv hcl => ?_) (fun _ _ _ _ _ _ h => h.elim)
  obtain ⟨rfl, hB2⟩ := hB
  rw [ht] at hB2
  have hDC := (bk_D isC (List.nodup_append.mp hn).1 hC hD).self (sz := H.size)
  obtain ⟨hPF, hDF⟩ := bk_join hP hD isC isR hC hR hn hk hF hB2 hDC pm hpn hp
  exact kx ce q9 H1 locs1 hPF hDF hS1 hce hcv hcl
end KYC
