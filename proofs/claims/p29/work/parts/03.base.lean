/-! Worlds as lists of blocks; contracts in one form; a call's frame by blocks. -/
abbrev bkF (Bs : List va_W) : va_W := Bs.flatten
theorem kP_iff {D : va_G} {cl : List vw_C} {ws : va_W} {H : Heap} : va_P D cl ws H ↔ ∀ q ∈ ws, va_at D cl q H := by
  constructor
  · intro h q hq
    obtain ⟨k, hk⟩ := List.getElem?_of_mem hq
    exact h k q hk
  · intro h k q hk
    exact h q (List.mem_of_getElem? hk)
theorem kD_iff {A : Nat → Prop} {ws : va_W} : va_D A ws ↔ ws.Pairwise (fun p q => p.1 ≠ q.1) ∧ ∀ q ∈ ws, A q.1 := by
  constructor
  · intro h
    refine ⟨List.pairwise_iff_getElem.mpr fun i j hi hj hij e => ?_, fun q hq => ?_⟩
    · have := h.1 i j _ _ (List.getElem?_eq_getElem hi) (List.getElem?_eq_getElem hj) e
      omega
    · obtain ⟨k, hk⟩ := List.getElem?_of_mem hq
      exact h.2 k q hk
  · intro h
    refine ⟨fun i j p q hi hj e => ?_, fun k q hk => h.2 q (List.mem_of_getElem? hk)⟩
    obtain ⟨hi', ei⟩ := List.getElem?_eq_some_iff.mp hi
    obtain ⟨hj', ej⟩ := List.getElem?_eq_some_iff.mp hj
    rcases Nat.lt_trichotomy i j with q1 | q1 | q1
    · exact absurd (by rw [ei, ej]; exact e) (List.pairwise_iff_getElem.mp h.1 i j hi' hj' q1)
    · exact q1
    · exact absurd (by rw [ei, ej]; exact e.symm) (List.pairwise_iff_getElem.mp h.1 j i hj' hi' q1)
theorem bk_mem {Bs Cs : List va_W} (is : List Nat) (h : is.map (fun i => Bs[i]?) = Cs.map some) {C : va_W} (hC : C ∈ Cs) : C ∈ Bs := by
  have h1 : some C ∈ Cs.map some := List.mem_map_of_mem hC
  rw [← h] at h1
  obtain ⟨i, -, hi⟩ := List.mem_map.mp h1
  exact List.mem_of_getElem? hi
theorem bk_P {D : va_G} {cl : List vw_C} {H : Heap} {Bs Cs : List va_W} (is : List Nat) (h : is.map (fun i => Bs[i]?) = Cs.map some) (hP : va_P D cl (bkF Bs) H) : va_P D cl (bkF Cs) H := by
  rw [kP_iff] at hP ⊢
  intro q hq
  obtain ⟨C, hC, hqC⟩ := List.mem_flatten.mp hq
  exact hP q (List.mem_flatten.mpr ⟨C, bk_mem is h hC, hqC⟩)
theorem bk_D {A : Nat → Prop} {Bs Cs : List va_W} (is : List Nat) (hn : is.Nodup) (h : is.map (fun i => Bs[i]?) = Cs.map some) (hD : va_D A (bkF Bs)) : va_D A (bkF Cs) := by
  rw [kD_iff] at hD ⊢
  obtain ⟨h1, h2⟩ := hD
  rw [List.pairwise_flatten] at h1
  refine ⟨List.pairwise_flatten.mpr ⟨fun C hC => h1.1 C (bk_mem is h hC), ?_⟩, fun q hq => ?_⟩
  · refine List.pairwise_iff_getElem.mpr fun i j hi hj hij => ?_
    have hl : is.length = Cs.length := by
      have := congrArg List.length h
      simpa using this
    have e1 : ∀ (k : Nat) (hk : k < Cs.length), ∃ hb : is[k]'(by omega) < Bs.length, Bs[is[k]'(by omega)] = Cs[k] := by
      intro k hk
      have h9 := congrArg (fun l => l[k]?) h
      simp only [List.getElem?_map, List.getElem?_eq_getElem hk, List.getElem?_eq_getElem (show k < is.length by omega), Option.map_some, Option.some.injEq] at h9
      exact List.getElem?_eq_some_iff.mp h9
    obtain ⟨bi, ei⟩ := e1 i hi
    obtain ⟨bj, ej⟩ := e1 j hj
    have hne : is[i]'(by omega) ≠ is[j]'(by omega) := List.pairwise_iff_getElem.mp hn i j (by omega) (by omega) hij
    intro x hx y hy
    rw [← ei] at hx
    rw [← ej] at hy
    rcases Nat.lt_or_gt_of_ne hne with q | q
    · exact List.pairwise_iff_getElem.mp h1.2 _ _ bi bj q x hx y hy
    · exact (List.pairwise_iff_getElem.mp h1.2 _ _ bj bi q y hy x hx).symm
  · obtain ⟨C, hC, hqC⟩ := List.mem_flatten.mp hq
    exact h2 q (List.mem_flatten.mpr ⟨C, bk_mem is h hC, hqC⟩)
theorem kA_in {ws : va_W} {sz : Nat} {q : Nat × va_E} (h : q ∈ ws) : va_A ws sz q.1 := by
  obtain ⟨k, hk⟩ := List.getElem?_of_mem h
  exact va_A.in hk
theorem bk_free {A0 : Nat → Prop} {Bs Cs : List va_W} {H0 H : Heap} {locs : List Loc} (hD : va_D A0 (bkF Bs)) (hS : va_S A0 H0 H locs) (hA : ∀ q, H0.size ≤ q → A0 q) (is : List Nat) (h : is.map (fun i => Bs[i]?) = Cs.map some) : ∀ q, va_A (bkF Cs) H.size q → A0 q := by
  intro q hq
  rcases hq with ⟨k, e, hk⟩ | hq
  · have hm := List.mem_of_getElem? hk
    obtain ⟨C, hC, hqC⟩ := List.mem_flatten.mp hm
    exact (kD_iff.mp hD).2 (q, e) (List.mem_flatten.mpr ⟨C, bk_mem is h hC, hqC⟩)
  · exact hA q (Nat.le_trans hS.1 hq)
theorem bk_join {A0 : Nat → Prop} {D : va_G} {cl : List vw_C} {Bs Cs Rs Cs' Fs : List va_W} {H H1 : Heap} (hP : va_P D cl (bkF Bs) H) (hD : va_D A0 (bkF Bs)) (isC isR : List Nat) (hC : isC.map (fun i => Bs[i]?) = Cs.map some) (hR : isR.map (fun i => Bs[i]?) = Rs.map some) (hn : (isC ++ isR).Nodup)
    (hk : ∀ q : Nat, q < H.size → ¬ va_A (bkF Cs) H.size q → H1[q]? = H[q]?) (hF : ∀ q, va_A (bkF Cs) H.size q → A0 q) (hP1 : va_P D cl (bkF Cs') H1) (hD1 : va_D (va_A (bkF Cs) H.size) (bkF Cs'))
    (pm : List Nat) (hpn : pm.Nodup) (hp : pm.map (fun i => (Rs ++ Cs')[i]?) = Fs.map some) : va_P D cl (bkF Fs) H1 ∧ va_D A0 (bkF Fs) := by
  have hall : (isC ++ isR).map (fun i => Bs[i]?) = (Cs ++ Rs).map some := by rw [List.map_append, List.map_append, hC, hR]
  have hDall := bk_D (isC ++ isR) hn hall hD
  have hPR := bk_P isR hR hP
  have hDR := bk_D isR (List.nodup_append.mp hn).2.1 hR hD
  rw [kP_iff] at hPR hP1
  rw [kD_iff] at hDall hDR hD1
  have hx : ∀ c ∈ bkF Cs, ∀ r ∈ bkF Rs, c.1 ≠ r.1 := by
    have := hDall.1
    unfold bkF at this
    rw [List.flatten_append, List.pairwise_append] at this
    exact this.2.2
  have hlt : ∀ r ∈ bkF Rs, r.1 < H.size := fun r hr => (hPR r hr).lt
  have hnot : ∀ r ∈ bkF Rs, ¬ va_A (bkF Cs) H.size r.1 := by
    intro r hr h9
    rcases h9 with ⟨k, e, hk9⟩ | h9
    · exact hx _ (List.mem_of_getElem? hk9) r hr rfl
    · have := hlt r hr
      omega
  have hPJ : va_P D cl (bkF (Rs ++ Cs')) H1 := by
    rw [kP_iff]
    intro q hq
    unfold bkF at hq
    rw [List.flatten_append, List.mem_append] at hq
    rcases hq with hq | hq
    · exact (hPR q hq).kept (hk q.1 (hlt q hq) (hnot q hq))
    · exact hP1 q hq
  have hDJ : va_D A0 (bkF (Rs ++ Cs')) := by
    rw [kD_iff]
    unfold bkF
    rw [List.flatten_append]
    refine ⟨List.pairwise_append.mpr ⟨hDR.1, hD1.1, fun r hr c hc e => ?_⟩, fun q hq => ?_⟩
    · have h9 := hD1.2 c hc
      rw [← e] at h9
      exact hnot r hr h9
    · rcases List.mem_append.mp hq with hq | hq
      · exact hDR.2 q hq
      · exact hF _ (hD1.2 q hq)
  exact ⟨bk_P pm hp hPJ, bk_D pm hpn hp hDJ⟩
/-- a cell seen with other contents that agree where there are places -/
theorem kP_row {D : va_G} {cl : List vw_C} {Bs Cs : List va_W} {H : Heap} (hP : va_P D cl (bkF Bs) H) (h : (bkF Bs).map (fun q => (q.1, (match q.2 with | .inl x => .inl (vp_cell x.1 x.2) | .inr y => .inr y : Cell ⊕ (Nat × List Value)))) = (bkF Cs).map (fun q => (q.1, (match q.2 with | .inl x => .inl (vp_cell x.1 x.2) | .inr y => .inr y : Cell ⊕ (Nat × List Value))))) : va_P D cl (bkF Cs) H := by
  intro k q hq
  have h9 := congrArg (fun l => l[k]?) h
  simp only [List.getElem?_map, hq, Option.map_some] at h9
  cases hb : (bkF Bs)[k]? with
  | none => rw [hb] at h9; cases h9
  | some b =>
    rw [hb] at h9
    simp only [Option.map_some, Option.some.injEq, Prod.mk.injEq] at h9
    have h1 := hP k b hb
    obtain ⟨ba, be⟩ := b
    obtain ⟨qa, qe⟩ := q
    obtain ⟨e1, e2⟩ := h9
    dsimp only at e1 e2
    subst e1
    cases be with
    | inl x =>
      cases qe with
      | inl x2 =>
        simp only [Sum.inl.injEq] at e2
        show H[ba]? = some (vp_cell x2.1 x2.2)
        rw [← e2]
        exact h1
      | inr y2 => cases e2
    | inr y =>
      cases qe with
      | inl x2 => cases e2
      | inr y2 =>
        simp only [Sum.inr.injEq] at e2
        subst e2
        exact h1
/-- contents that agree where there are places: the same cell -/
theorem k_ofFn {n : Nat} {f g : Nat → Int32} (h : ∀ j, j < n → f j = g j) (c : ClassId) : vp_cell c (n, .inl f) = vp_cell c (n, .inl g) := by
  rw [vp_cell_i, vp_cell_i]
  unfold arrV
  congr 2
  funext j
  show Value.int (f j.val) = Value.int (g j.val)
  rw [h j.val j.isLt]
theorem kP_cell {D : va_G} {cl : List vw_C} {ws : va_W} {H : Heap} (hP : va_P D cl ws H) (k : Nat) {a n : Nat} {c : ClassId} {f g : Nat → Int32} (hk : ws[k]? = some (a, .inl (c, n, .inl f))) (h : ∀ j, j < n → f j = g j) : va_P D cl (ws.set k (a, .inl (c, n, .inl g))) H := by
  intro i q hq
  rw [List.getElem?_set] at hq
  by_cases e : k = i
  · subst e
    rw [if_pos rfl] at hq
    obtain ⟨hl, -⟩ := List.getElem?_eq_some_iff.mp hk
    rw [if_pos hl] at hq
    cases hq
    show H[a]? = some (vp_cell c (n, .inl g))
    rw [← k_ofFn h c]
    exact hP k _ hk
  · rw [if_neg e] at hq
    exact hP i q hq
/-- the words that a few calls and makings need of the tables, carried from the law's start on -/
theorem k_specA {args : Array Value} {first s : State} {o : Option Outcome} {idx : List Nat} {t : FieldType} (h : (Cond.arrayOver (.array t)).holds args first o s idx = true) :
    ∃ comp c k, s.vm.findClass (FieldType.array t).toString = some comp ∧ (s.vm.classes.findIdx? fun x => match x.kind with | .array component _ => component == comp | _ => false) = some c ∧ s.vm.classes[c]? = some k ∧ k.kind = .array comp (.array t) ∧ s.vm.findClass ("[" ++ (FieldType.array t).toString) = some c := by
  simp only [Cond.holds, Cond.value, beq_iff_eq] at h
  cases hc : s.vm.findClass (FieldType.array t).toString with
  | none => simp [hc] at h
  | some comp =>
    simp only [hc, Option.bind_some, Option.bind_eq_some_iff, Option.map_eq_some_iff] at h
    obtain ⟨c, hi, k, hk, hb⟩ := h
    obtain ⟨hlt, hp, -⟩ := Array.findIdx?_eq_some_iff_getElem.mp hi
    have hkk : s.vm.classes[c] = k := (Array.getElem?_eq_some_iff.mp hk).2
    rw [hkk] at hp
    cases hkind : k.kind with
    | array component ty =>
      rw [hkind] at hb hp
      simp at hb hp
      exact ⟨comp, c, k, rfl, hi, hk, by rw [hkind, hp, hb.1], hb.2⟩
    | _ => rw [hkind] at hb; simp at hb
theorem va_AOA.moved {ty : FieldType} {u U : State} (hvm : u.vm.Alike U.vm) (h : va_AOA ty u) : va_AOA ty U := by
  obtain ⟨comp, c, k, h1, h2, h3, h4, h5⟩ := k_specA h
  obtain ⟨k', hk', he⟩ := hvm.2.2 _ _ h3
  have hi : (U.vm.classes.findIdx? fun (x : Class) => match x.kind with | .array component _ => component == comp | _ => false) = some c := by
    have e1 := va_idx_bare U.vm comp
    have e2 := va_idx_bare u.vm comp
    have e3 : U.vm.bare = u.vm.bare := by first | exact hvm.bare_eq | exact hvm.bare_eq.symm
    rw [e3] at e1
    exact (e1.symm.trans e2).trans h2
  have hkind : k'.kind = .array comp (.array ty) := by rw [he]; exact h4
  have f1 : U.vm.findClass (FieldType.array ty).toString = some comp := by rw [hvm.findClass]; exact h1
  have f2 : U.vm.findClass ("[" ++ (FieldType.array ty).toString) = some c := by rw [hvm.findClass]; exact h5
  unfold va_AOA Cond.before Cond.holds
  simp only [Cond.value]
  rw [f1, Option.bind_some]
  refine (congrArg (fun o : Option Nat => (o.bind (fun c => (U.vm.classes[c]?).map fun (k : Class) => match k.kind with | .array _ ty2 => decide (ty2 = FieldType.array ty) && decide (U.vm.findClass ("[" ++ (FieldType.array ty).toString) = some c) | _ => false) == some true)) hi).trans ?_
  simp [hk', hkind, f2]
def kN (U : State) : Prop := va_Nw (.methodLinkNest RX3 11 yX2_init RX4) U ∧ va_Nw (.methodLinkNest RX4 21 yX0_init RX4) U ∧ va_Nw (.methodLinkNest RX4 28 yX1_init RX4) U ∧ va_Nw (.methodLinkNest RX0 35 yX4_oneIf RX4) U ∧ va_Nw (.methodLinkNest RX3 121 yX4_oneIf RX4) U ∧ va_AO RX3 U ∧ va_AOA .int U
theorem kN.warm {s U : State} (hW : s.WarmedH U.vm) (h : kN s) : kN U := ⟨h.1.warmM hW, h.2.1.warmM hW, h.2.2.1.warmM hW, h.2.2.2.1.warmM hW, h.2.2.2.2.1.warmM hW, va_AO.moved hW.alike h.2.2.2.2.2.1, va_AOA.moved hW.alike h.2.2.2.2.2.2⟩
theorem kN.calling {U : State} {g : JFrame} {mk : MethodId} {a : Array Value} (h : kN U) : kN (U.calling g mk a) := kN.warm (s := U) (U := U.calling g mk a) (State.WarmedH.refl U) h
/-- a method's start: its world in blocks -/
def kPre (D : va_G) (tys : List (ClassId × FieldType)) (Bs : List va_W) (sz : Nat) : State → Prop := fun U => U.heap.size = sz ∧ va_P D vwCl (bkF Bs) U.heap ∧ va_K D vwCl tys U ∧ va_D (fun _ => True) (bkF Bs) ∧ kN U
/-- a method's end: its world in blocks -/
def kEnd (D : va_G) (tys : List (ClassId × FieldType)) (A : Nat → Prop) (Bs : List va_W) : State → Prop := fun t => va_P D vwCl (bkF Bs) t.heap ∧ va_K D vwCl tys t ∧ va_D A (bkF Bs)
theorem kPre_blind {av : List Value} {D : va_G} {tys : List (ClassId × FieldType)} {Bs : List va_W} {sz : Nat} : FrameBlind (va_Pc av (kPre D tys Bs sz)) := fun a U g mk q => by
  obtain ⟨q0, q1, qP, qK, qD, qN⟩ := q
  exact ⟨q0, q1, qP, va_K.moved (u := U) (U := U.calling g mk a) (Vm.Alike.refl U.vm) qK, qD, qN.calling⟩
theorem kPre_S {s : State} {H : Heap} {A : Nat → Prop} {D : va_G} {tys : List (ClassId × FieldType)} {Bs Cs : List va_W} {As : List Value} (hK : va_K D vwCl tys s) (hN : kN s) (hP : va_P D vwCl (bkF Bs) H) (hD : va_D A (bkF Bs)) (isC : List Nat) (hn : isC.Nodup) (hC : isC.map (fun i => Bs[i]?) = Cs.map some) : PreS s H (va_Pc As (kPre D tys Cs H.size)) As :=
  ⟨kPre_blind, fun U hU hW => ⟨rfl, by rw [hU], by rw [hU]; exact bk_P isC hC hP, va_K.moved hW.alike hK, (bk_D isC hn hC hD).weaken (fun _ _ _ _ => trivial), hN.warm hW⟩⟩
theorem kPre_V {s : State} {H : Heap} {A : Nat → Prop} {D : va_G} {tys : List (ClassId × FieldType)} {Bs Cs : List va_W} {As : List Value} {b ci : Nat} {q : vw_C} {fs : List Value} (hK : va_K D vwCl tys s) (hN : kN s) (hP : va_P D vwCl (bkF Bs) H) (hD : va_D A (bkF Bs)) (isC : List Nat) (hn : isC.Nodup) (hC : isC.map (fun i => Bs[i]?) = Cs.map some) (q0 : Nat) (hc : vwCl[ci]? = some q) (he : (bkF Cs)[q0]? = some (b, .inr (ci, fs))) : PreV s H q.1 b (va_Pc (.ref b :: As) (kPre D tys Cs H.size)) As :=
  ⟨kPre_blind, va_recv hK (bk_P isC hC hP) hc he, (kPre_S (As := .ref b :: As) hK hN hP hD isC hn hC).2⟩
abbrev kFr (D : va_G) (tys : List (ClassId × FieldType)) {S : Type} (Bs : List va_W) (sz : Nat) (Bs' : S → List va_W) : S → State → Prop := fun u t => kEnd D tys (va_A (bkF Bs) sz) (Bs' u) t
section KC
variable {p : Program} {l : Launch} {e : Env} {R : Room} {s : State} {m : MethodId} {args : Array Value} {below : List Frame} {meth : Method} {c : Code} {H : Heap} {locs : List Loc} {cells slots : Nat} {Q : State → Prop}
variable {cc : ByteArray} {pc : Nat} {ls : Array Slot} {rest st0 : List Value} {D : va_G} {A : Nat → Prop} {tys : List (ClassId × FieldType)} {mc ms : Nat} {a : Array Value}
theorem kc_i {S : Type} {post : Int32 → S → Prop} {Cs Rs Bs : List va_W} {Cs' Fs : S → List va_W}
    (hP : va_P D vwCl (bkF Bs) H) (hD : va_D A (bkF Bs)) (hS : va_S A s.heap H locs) (hA : ∀ q, s.heap.size ≤ q → A q)
    (isC isR pm : List Nat) (hC : isC.map (fun i => Bs[i]?) = Cs.map some) (hR : isR.map (fun i => Bs[i]?) = Rs.map some) (hn : (isC ++ isR).Nodup) (hpn : pm.Nodup) (hp : ∀ u, pm.map (fun i => (Rs ++ Cs' u)[i]?) = (Fs u).map some)
    (hr : va_Run p l e R s m args below meth c H locs cells slots mc ms (F0 m pc ls st0) rest (va_Qi post (kFr D tys Cs H.size Cs') (va_A (bkF Cs) H.size) a) (va_A (bkF Cs) H.size))
    (kk : ∀ (r : Int32) (u : S) (H1 : Heap) (locs1 : List Loc), post r u → va_P D vwCl (bkF (Fs u)) H1 → va_D A (bkF (Fs u)) → va_S A s.heap H1 locs1 → W p l e R s m args below meth c H1 locs1 (cells + mc) (slots + ms) Q (F0 m (pc + 3) ls (.int r :: rest))) : W p l e R s m args below meth c H locs cells slots Q (F0 m pc ls st0) := by
  have hF := bk_free (Cs := Cs) hD hS hA isC hC
  refine va_calli hr hS (fun q _ h => hF q h) hF (fun r u t H1 locs1 ht hvm hw hB hz1 hk1 hS1 => ?_)
  obtain ⟨hP1, -, hD1⟩ := hB
  rw [ht] at hP1
  obtain ⟨hPF, hDF⟩ := bk_join hP hD isC isR hC hR hn hk1 hF hP1 hD1 pm hpn (hp u)
  exact kk r u H1 locs1 hw hPF hDF hS1
theorem kc_l {S : Type} {post : Int64 → S → Prop} {Cs Rs Bs : List va_W} {Cs' Fs : S → List va_W}
    (hP : va_P D vwCl (bkF Bs) H) (hD : va_D A (bkF Bs)) (hS : va_S A s.heap H locs) (hA : ∀ q, s.heap.size ≤ q → A q)
    (isC isR pm : List Nat) (hC : isC.map (fun i => Bs[i]?) = Cs.map some) (hR : isR.map (fun i => Bs[i]?) = Rs.map some) (hn : (isC ++ isR).Nodup) (hpn : pm.Nodup) (hp : ∀ u, pm.map (fun i => (Rs ++ Cs' u)[i]?) = (Fs u).map some)
    (hr : va_Run p l e R s m args below meth c H locs cells slots mc ms (F0 m pc ls st0) rest (va_Ql post (kFr D tys Cs H.size Cs') (va_A (bkF Cs) H.size) a) (va_A (bkF Cs) H.size))
    (kk : ∀ (r : Int64) (u : S) (H1 : Heap) (locs1 : List Loc), post r u → va_P D vwCl (bkF (Fs u)) H1 → va_D A (bkF (Fs u)) → va_S A s.heap H1 locs1 → W p l e R s m args below meth c H1 locs1 (cells + mc) (slots + ms) Q (F0 m (pc + 3) ls (.long r :: rest))) : W p l e R s m args below meth c H locs cells slots Q (F0 m pc ls st0) := by
  have hF := bk_free (Cs := Cs) hD hS hA isC hC
  refine va_calll hr hS (fun q _ h => hF q h) hF (fun r u t H1 locs1 ht hvm hw hB hz1 hk1 hS1 => ?_)
  obtain ⟨hP1, -, hD1⟩ := hB
  rw [ht] at hP1
  obtain ⟨hPF, hDF⟩ := bk_join hP hD isC isR hC hR hn hk1 hF hP1 hD1 pm hpn (hp u)
  exact kk r u H1 locs1 hw hPF hDF hS1
theorem kc_d {S : Type} {post : UInt64 → S → Prop} {Cs Rs Bs : List va_W} {Cs' Fs : S → List va_W}
    (hP : va_P D vwCl (bkF Bs) H) (hD : va_D A (bkF Bs)) (hS : va_S A s.heap H locs) (hA : ∀ q, s.heap.size ≤ q → A q)
    (isC isR pm : List Nat) (hC : isC.map (fun i => Bs[i]?) = Cs.map some) (hR : isR.map (fun i => Bs[i]?) = Rs.map some) (hn : (isC ++ isR).Nodup) (hpn : pm.Nodup) (hp : ∀ u, pm.map (fun i => (Rs ++ Cs' u)[i]?) = (Fs u).map some)
    (hr : va_Run p l e R s m args below meth c H locs cells slots mc ms (F0 m pc ls st0) rest (va_Qd post (kFr D tys Cs H.size Cs') (va_A (bkF Cs) H.size) a) (va_A (bkF Cs) H.size))
    (kk : ∀ (r : UInt64) (u : S) (H1 : Heap) (locs1 : List Loc), post r u → va_P D vwCl (bkF (Fs u)) H1 → va_D A (bkF (Fs u)) → va_S A s.heap H1 locs1 → W p l e R s m args below meth c H1 locs1 (cells + mc) (slots + ms) Q (F0 m (pc + 3) ls (.double r :: rest))) : W p l e R s m args below meth c H locs cells slots Q (F0 m pc ls st0) := by
  have hF := bk_free (Cs := Cs) hD hS hA isC hC
  refine va_calld hr hS (fun q _ h => hF q h) hF (fun r u t H1 locs1 ht hvm hw hB hz1 hk1 hS1 => ?_)
  obtain ⟨hP1, -, hD1⟩ := hB
  rw [ht] at hP1
  obtain ⟨hPF, hDF⟩ := bk_join hP hD isC isR hC hR hn hk1 hF hP1 hD1 pm hpn (hp u)
  exact kk r u H1 locs1 hw hPF hDF hS1
theorem kc_v {S : Type} {post : S → Prop} {Cs Rs Bs : List va_W} {Cs' Fs : S → List va_W}
    (hP : va_P D vwCl (bkF Bs) H) (hD : va_D A (bkF Bs)) (hS : va_S A s.heap H locs) (hA : ∀ q, s.heap.size ≤ q → A q)
    (isC isR pm : List Nat) (hC : isC.map (fun i => Bs[i]?) = Cs.map some) (hR : isR.map (fun i => Bs[i]?) = Rs.map some) (hn : (isC ++ isR).Nodup) (hpn : pm.Nodup) (hp : ∀ u, pm.map (fun i => (Rs ++ Cs' u)[i]?) = (Fs u).map some)
    (hr : va_Run p l e R s m args below meth c H locs cells slots mc ms (F0 m pc ls st0) rest (va_Qv post (kFr D tys Cs H.size Cs') (va_A (bkF Cs) H.size) a) (va_A (bkF Cs) H.size))
    (kk : ∀ (u : S) (H1 : Heap) (locs1 : List Loc), post u → va_P D vwCl (bkF (Fs u)) H1 → va_D A (bkF (Fs u)) → va_S A s.heap H1 locs1 → W p l e R s m args below meth c H1 locs1 (cells + mc) (slots + ms) Q (F0 m (pc + 3) ls rest)) : W p l e R s m args below meth c H locs cells slots Q (F0 m pc ls st0) := by
  have hF := bk_free (Cs := Cs) hD hS hA isC hC
  refine va_callv hr hS (fun q _ h => hF q h) hF (fun u t H1 locs1 ht hvm hw hB hz1 hk1 hS1 => ?_)
  obtain ⟨hP1, -, hD1⟩ := hB
  rw [ht] at hP1
  obtain ⟨hPF, hDF⟩ := bk_join hP hD isC isR hC hR hn hk1 hF hP1 hD1 pm hpn (hp u)
  exact kk u H1 locs1 hw hPF hDF hS1
/-- a reference comes back: its address is a number of the callee's own words -/
theorem kc_r {S : Type} {post : S → Prop} {ad : S → Nat} {Cs Rs Bs : List va_W} {Cs' Fs : S → List va_W}
    (hP : va_P D vwCl (bkF Bs) H) (hD : va_D A (bkF Bs)) (hS : va_S A s.heap H locs) (hA : ∀ q, s.heap.size ≤ q → A q)
    (isC isR pm : List Nat) (hC : isC.map (fun i => Bs[i]?) = Cs.map some) (hR : isR.map (fun i => Bs[i]?) = Rs.map some) (hn : (isC ++ isR).Nodup) (hpn : pm.Nodup) (hp : ∀ u, pm.map (fun i => (Rs ++ Cs' u)[i]?) = (Fs u).map some)
    (hr : va_Run p l e R s m args below meth c H locs cells slots mc ms (F0 m pc ls st0) rest (va_Qr post (fun u b t => b = ad u ∧ kFr D tys Cs H.size Cs' u t) (va_A (bkF Cs) H.size) a) (va_A (bkF Cs) H.size))
    (kk : ∀ (u : S) (H1 : Heap) (locs1 : List Loc), post u → va_P D vwCl (bkF (Fs u)) H1 → va_D A (bkF (Fs u)) → va_S A s.heap H1 locs1 → W p l e R s m args below meth c H1 locs1 (cells + mc) (slots + ms) Q (F0 m (pc + 3) ls (.ref (ad u) :: rest))) : W p l e R s m args below meth c H locs cells slots Q (F0 m pc ls st0) := by
  have hF := bk_free (Cs := Cs) hD hS hA isC hC
  refine va_callr hr hS (fun q _ h => hF q h) hF (fun u b t H1 locs1 ht hvm hw hB hz1 hk1 hS1 => ?_)
  obtain ⟨rfl, hP1, -, hD1⟩ := hB
  rw [ht] at hP1
  obtain ⟨hPF, hDF⟩ := bk_join hP hD isC isR hC hR hn hk1 hF hP1 hD1 pm hpn (hp u)
  exact kk u H1 locs1 hw hPF hDF hS1
theorem kv_i {x y : Int32} (h : x = y) (k : W p l e R s m args below meth c H locs cells slots Q (F0 m pc ls (.int y :: rest))) : W p l e R s m args below meth c H locs cells slots Q (F0 m pc ls (.int x :: rest)) := by rw [h]; exact k
theorem kv_l {x y : Int64} (h : x = y) (k : W p l e R s m args below meth c H locs cells slots Q (F0 m pc ls (.long y :: rest))) : W p l e R s m args below meth c H locs cells slots Q (F0 m pc ls (.long x :: rest)) := by rw [h]; exact k
/-- a row out of an array of int arrays -/
theorem va_aldA {ws : va_W} {a : Nat} (hexec : p.tables.exec = Jvm.exec) (hb : c.code = cc) (hK : va_K D vwCl tys s) (hP : va_P D vwCl ws H) (q0 t0 : Nat) {cA : ClassId} {ty : FieldType} {n : Nat} {f : Nat → Option Nat} (ha : ws[q0]? = some (a, .inl (cA, n, .inr (.inr (.inr (.inr f)))))) (ht : tys[t0]? = some (cA, .array ty)) {i : Int32} (hin : vp_in i n) (hdg : decode cc pc = .ok (.aaload, 1))
    (kk : W p l e R s m args below meth c H locs cells slots Q (F0 m (pc + 1) ls (va_rf (f i.toNatClampNeg) :: rest))) : W p l e R s m args below meth c H locs cells slots Q (F0 m pc ls (.int i :: .ref a :: rest)) := by
  have hlt : i.toNatClampNeg < n := Nat.not_le.mp fun q => hin (Or.inr q)
  exact W.aald (v := va_rf (f i.toNatClampNeg)) (ty := .array ty) hexec hb (hP q0 _ ha) ((hK.2 t0 _ ht).1 n (fun j => va_rf (f j))) rfl (fun q => by cases q) (by show ¬ (i < 0 ∨ (arrV _ _ _).slots.size ≤ _); rw [arrV_size]; exact hin) (by show (arrV _ _ _).slots[_]? = _; rw [arrV_read _ _ hlt]) rfl rfl hdg kk
theorem kr_i {S : Type} {post : Int32 → S → Prop} {Bs : S → List va_W} (hx : p.tables.exec = Jvm.exec) (hb : c.code = cc) {rt : FieldType} (hr : meth.sig.returnType = some rt) (hlocks : meth.locks = false) {v : Int32} (hn : narrow rt (.int v) = .int v) (u : S) (hP : va_P D vwCl (bkF (Bs u)) H) (hK : va_K D vwCl tys s) (hD : va_D A (bkF (Bs u))) (hS : va_S A s.heap H locs) (hp : post v u) (hdg : decode cc pc = .ok (.ireturn, 1)) (hQ : MQ below (va_Qi post (fun u t => kEnd D tys A (Bs u) t) A) args s cells slots A = Q) : W p l e R s m args below meth c H locs cells slots Q (F0 m pc ls [.int v]) :=
  by subst hQ; exact W.zret hx hb hr hn (fun t ht hW => ⟨⟨v, u, rfl, hp, by rw [ht]; exact hP, va_K.moved hW.alike hK, hD⟩, hS.F ht⟩) hS.2.2 hdg hlocks
theorem kr_l {S : Type} {post : Int64 → S → Prop} {Bs : S → List va_W} (hx : p.tables.exec = Jvm.exec) (hb : c.code = cc) (hr : meth.sig.returnType = some .long) (hlocks : meth.locks = false) {v : Int64} (u : S) (hP : va_P D vwCl (bkF (Bs u)) H) (hK : va_K D vwCl tys s) (hD : va_D A (bkF (Bs u))) (hS : va_S A s.heap H locs) (hp : post v u) (hdg : decode cc pc = .ok (.lreturn, 1)) (hQ : MQ below (va_Ql post (fun u t => kEnd D tys A (Bs u) t) A) args s cells slots A = Q) : W p l e R s m args below meth c H locs cells slots Q (F0 m pc ls [.long v]) :=
  by subst hQ; exact W.lret hx hb hr (fun t ht hW => ⟨⟨v, u, rfl, hp, by rw [ht]; exact hP, va_K.moved hW.alike hK, hD⟩, hS.F ht⟩) hS.2.2 hdg hlocks
theorem kr_d {S : Type} {post : UInt64 → S → Prop} {Bs : S → List va_W} (hx : p.tables.exec = Jvm.exec) (hb : c.code = cc) (hr : meth.sig.returnType = some .double) (hlocks : meth.locks = false) {v : UInt64} (u : S) (hP : va_P D vwCl (bkF (Bs u)) H) (hK : va_K D vwCl tys s) (hD : va_D A (bkF (Bs u))) (hS : va_S A s.heap H locs) (hp : post v u) (hdg : decode cc pc = .ok (.dreturn, 1)) (hQ : MQ below (va_Qd post (fun u t => kEnd D tys A (Bs u) t) A) args s cells slots A = Q) : W p l e R s m args below meth c H locs cells slots Q (F0 m pc ls [.double v]) :=
  by subst hQ; exact W.dret hx hb hr (fun t ht hW => ⟨⟨v, u, rfl, hp, by rw [ht]; exact hP, va_K.moved hW.alike hK, hD⟩, hS.F ht⟩) hS.2.2 hdg hlocks
theorem kr_v {S : Type} {post : S → Prop} {Bs : S → List va_W} (hx : p.tables.exec = Jvm.exec) (hb : c.code = cc) (hr : meth.sig.returnType = none) (hlocks : meth.locks = false) (u : S) (hP : va_P D vwCl (bkF (Bs u)) H) (hK : va_K D vwCl tys s) (hD : va_D A (bkF (Bs u))) (hS : va_S A s.heap H locs) (hp : post u) (hdg : decode cc pc = .ok (.return_, 1)) (hQ : MQ below (va_Qv post (fun u t => kEnd D tys A (Bs u) t) A) args s cells slots A = Q) : W p l e R s m args below meth c H locs cells slots Q (F0 m pc ls []) :=
  by subst hQ; exact W.vret hx hb hr (fun t ht hW => ⟨⟨u, rfl, hp, by rw [ht]; exact hP, va_K.moved hW.alike hK, hD⟩, hS.F ht⟩) hS.2.2 hdg hlocks
theorem kr_r {S : Type} {post : S → Prop} {ad : S → Nat} {Bs : S → List va_W} (hx : p.tables.exec = Jvm.exec) (hb : c.code = cc) {rt : FieldType} (hr : meth.sig.returnType = some rt) (hrt : (∃ n, rt = .object n) ∨ ∃ t, rt = .array t) (hlocks : meth.locks = false) (u : S) (hP : va_P D vwCl (bkF (Bs u)) H) (hK : va_K D vwCl tys s) (hD : va_D A (bkF (Bs u))) (hS : va_S A s.heap H locs) (hp : post u) (hdg : decode cc pc = .ok (.areturn, 1)) (hQ : MQ below (va_Qr post (fun u b t => b = ad u ∧ kEnd D tys A (Bs u) t) A) args s cells slots A = Q) : W p l e R s m args below meth c H locs cells slots Q (F0 m pc ls [.ref (ad u)]) :=
  by subst hQ; exact W.aret hx hb hr hrt (Or.inr ⟨_, rfl⟩) (fun t ht hW => ⟨⟨u, ad u, rfl, hp, rfl, by rw [ht]; exact hP, va_K.moved hW.alike hK, hD⟩, hS.F ht⟩) hS.2.2 hdg hlocks
end KC
/-- what every method's body begins with -/
theorem kOpen {l : Launch} {y : MethodName} {ws ws' : List Cond} {rm : Room} {cc : ByteArray} {maxL : Nat} {ret : Option FieldType} {av : List Value} {D : va_G} {tys : List (ClassId × FieldType)} {Bs : List va_W} {sz mc ms : Nat} {Qc : (Nat → Prop) → Array Value → State → Outcome → State → Prop}
    (hy : plainName y.cls = true) (hw : ws = Cond.code y cc maxL ret :: ws') (hlen : (lg_sl av).length ≤ maxL)
    (body : ∀ (p : Program) (e : Env) (s : State) (m : MethodId) (args : Array Value) (below : List Frame) (meth : Method) (c : Code) (A : Nat → Prop) (Q : State → Prop) (ls : Array Slot), MQ below (Qc A) args s mc ms A = Q → p.tables.exec = Jvm.exec → c.code = cc → c.maxLocals = maxL → meth.sig.returnType = ret → meth.locks = false → meth.name = y.name → (∀ w ∈ ws, w.before args s = true) → s.vm.findClass y.cls = some m.cls → kN s → va_K D vwCl tys s → va_P D vwCl (bkF Bs) s.heap → va_D A (bkF Bs) → va_S A s.heap s.heap [] → (∀ q, s.heap.size ≤ q → A q) → s.heap.size = sz → va_A (bkF Bs) sz = A → lv_has ls maxL (lv_args 0 av) →
      W p l e (headSpec ws rm).room s m args below meth c s.heap [] 0 0 Q (F0 m 0 ls [])) :
    Met l y ws rm (va_Pc av (kPre D tys Bs sz)) (Qc (va_A (bkF Bs) sz)) mc ms (va_A (bkF Bs) sz) := by
  refine Met.ofW (cc := cc) (maxL := maxL) (ret := ret) hy hw ?_
  intro p e s m args below meth c s₁ B hml hv
  obtain ⟨rfl, hsz, hP, hK, hD0, hN⟩ := hv
  have hl := lv_entry av (n := maxL) hlen
  rw [lg_entry_eq]
  generalize (lg_sl av ++ List.replicate (maxL - (lg_sl av).length) Slot.unset).toArray = ls at hl ⊢
  subst hsz
  exact body p e s m av.toArray below meth c (va_A (bkF Bs) s.heap.size) _ ls rfl B.exec B.bytes hml B.returns B.notSynchronized (name_of_methodNamed B.named B.method).1 (atoms_spec (ws := ws) B.pre) (findClass_of_methodNamed B.named) hN hK hP hD0.self va_S.rf (fun q h => Or.inr h) rfl rfl hl
abbrev kT (cy : Nat → ClassId) : List (ClassId × FieldType) := [(cy 0, .int), (cy 1, .boolean), (cy 2, .byte), (cy 3, .object RX3), (cy 4, .array .int)]
theorem k8 {i : Nat} (h : i < 8) : i = 0 ∨ i = 1 ∨ i = 2 ∨ i = 3 ∨ i = 4 ∨ i = 5 ∨ i = 6 ∨ i = 7 := by omega
theorem kn_and (a b : Nat) : nI a &&& nI b = nI (a &&& b) := by
  apply Int32.toBitVec_inj.mp
  show BitVec.ofNat 32 a &&& BitVec.ofNat 32 b = BitVec.ofNat 32 (a &&& b)
  exact BitVec.ofNat_and.symm
theorem kz_1 : vp_nar .boolean (nI 1) = nI 1 := by decide
theorem kz_0 : vp_nar .boolean (nI 0) = nI 0 := by decide
theorem kz {x : Int32} (h : x = nI 0 ∨ x = nI 1) : vp_nar .boolean x = x := by rcases h with rfl | rfl <;> decide
/-- rows of a grid: one row replaced -/
def kup (d : Nat → Nat → Int32) (i : Nat) (f : Nat → Int32) : Nat → Nat → Int32 := fun r => if r = i then f else d r
section KW
variable {p : Program} {l : Launch} {e : Env} {R : Room} {s : State} {m : MethodId} {args : Array Value} {below : List Frame} {meth : Method} {c : Code} {H : Heap} {locs : List Loc} {cells slots : Nat} {Q : State → Prop} {pc : Nat} {ls : Array Slot} {rest : List Value}
theorem kv_w {x y : Value} (h : x = y) (k : W p l e R s m args below meth c H locs cells slots Q (F0 m pc ls (y :: rest))) : W p l e R s m args below meth c H locs cells slots Q (F0 m pc ls (x :: rest)) := by rw [h]; exact k
end KW
