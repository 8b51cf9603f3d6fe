/-! what the law's walk has at hand; the classes, the links -/
def lCx (p : Program) (s : State) (m : MethodId) (meth : Method) (c : Code) (D : va_G) (cy : Nat → ClassId) (A : Nat → Prop) (b L : Nat) (xs : Nat → Int32) : Prop :=
  p.tables.exec = Jvm.exec ∧ c.code = cL_law ∧ meth.sig.returnType = some .boolean ∧ c.maxLocals = 7 ∧ s.vm.findClass RL = some m.cls ∧ (∀ w ∈ wsL_law, w.before #[Value.ref b] s = true) ∧ va_X b L xs s s.heap ∧ b < s.heap.size ∧ kN s ∧ va_K D vwCl (kT cy) s ∧ L ≤ 260 ∧ meth.locks = false ∧ ∀ q, A q ↔ s.heap.size ≤ q
theorem vSv_ini : vSv 0 (fun _ => ((3, 60, 0, 2, 0, 0, 0, 0), kG00, kG00, (fun _ => nI 1, fun _ => nI 1, k0), (fun _ _ => (-1 : Int32)))) := ⟨by decide, fun _ _ => ⟨fun _ _ => Or.inl rfl, fun _ _ => Or.inl rfl, fun _ _ => Or.inl rfl, fun _ _ => Or.inl rfl⟩⟩
/-- the classes as the tables have them -/
theorem lw_K0 {s : State} {args : Array Value} (hts : ∀ w ∈ wsL_law, w.before args s = true) (htb : ∀ w ∈ lw_tbl, w.before args s = true) : ∃ (D : va_G) (cy : Nat → ClassId), va_K D vwCl (kT cy) s := by
  obtain ⟨c0, i0, h0⟩ := u_known (C := RX0) (T := TX0) (N := 9) (n := 9) hts (by decide +kernel) (hts (.instantiable RX0 9) (by decide +kernel))
  obtain ⟨c1, i1, h1⟩ := u_known (C := RX1) (T := TX1) (N := 3) (n := 3) hts (by decide +kernel) (hts (.instantiable RX1 3) (by decide +kernel))
  obtain ⟨c2, i2, h2⟩ := u_known (C := RX2) (T := TX2) (N := 6) (n := 6) hts (by decide +kernel) (hts (.instantiable RX2 6) (by decide +kernel))
  obtain ⟨c3, i3, h3⟩ := u_known (C := RX3) (T := TX3) (N := 14) (n := 14) hts (by decide +kernel) (hts (.instantiable RX3 14) (by decide +kernel))
  obtain ⟨c4, i4, h4⟩ := u_known (C := RX4) (T := TX4) (N := 6) (n := 6) hts (by decide +kernel) (hts (.instantiable RX4 6) (by decide +kernel))
  obtain ⟨a0, k0, p0, f0, g0, e0⟩ := Cond.arrayClass_spec (htb (.arrayClass .int) (by decide +kernel))
  obtain ⟨a1, k1, p1, f1, g1, e1⟩ := Cond.arrayClass_spec (htb (.arrayClass .boolean) (by decide +kernel))
  obtain ⟨a2, k2, p2, f2, g2, e2⟩ := Cond.arrayClass_spec (htb (.arrayClass .byte) (by decide +kernel))
  obtain ⟨p3, a3, k3, f3, -, g3, e3, j3⟩ := Cond.arrayOver_spec (htb (.arrayOver (.object RX3)) (by decide +kernel))
  obtain ⟨p4, a4, k4, f4, -, g4, e4, j4⟩ := k_specA (htb (.arrayOver (.array .int)) (by decide +kernel))
  refine ⟨⟨fun k => match k with | 0 => c0 | 1 => c1 | 2 => c2 | 3 => c3 | _ => c4, fun k => match k with | 0 => i0 | 1 => i1 | 2 => i2 | 3 => i3 | _ => i4⟩, fun k => match k with | 0 => a0 | 1 => a1 | 2 => a2 | 3 => a3 | _ => a4, ?_, ?_⟩
  · intro k q hq
    match k, hq with
    | 0, hq => cases hq; exact h0
    | 1, hq => cases hq; exact h1
    | 2, hq => cases hq; exact h2
    | 3, hq => cases hq; exact h3
    | 4, hq => cases hq; exact h4
    | k + 5, hq => simp [vwCl] at hq
  · intro k q hq
    match k, hq with
    | 0, hq => cases hq; exact ⟨fun N z => ⟨(fun _ h => by cases h), k0, g0, p0, e0⟩, f0⟩
    | 1, hq => cases hq; exact ⟨fun N z => ⟨(fun _ h => by cases h), k1, g1, p1, e1⟩, f1⟩
    | 2, hq => cases hq; exact ⟨fun N z => ⟨(fun _ h => by cases h), k2, g2, p2, e2⟩, f2⟩
    | 3, hq => cases hq; exact ⟨fun N z => ⟨(fun _ h => by cases h), k3, g3, p3, e3⟩, k3, p3, g3, e3, f3, j3⟩
    | 4, hq => cases hq; exact ⟨fun N z => ⟨(fun _ h => by cases h), k4, g4, p4, e4⟩, j4⟩
    | k + 5, hq => simp [kT] at hq
/-- the links within the nest, the classes of arrays of references -/
theorem lw_N0 {s : State} {args : Array Value} (htb : ∀ w ∈ lw_tbl, w.before args s = true) : kN s :=
  ⟨va_Nw.of rfl (htb (.methodLinkNest RX3 11 yX2_init RX4) (by decide +kernel)), va_Nw.of rfl (htb (.methodLinkNest RX4 21 yX0_init RX4) (by decide +kernel)), va_Nw.of rfl (htb (.methodLinkNest RX4 28 yX1_init RX4) (by decide +kernel)), va_Nw.of rfl (htb (.methodLinkNest RX0 35 yX4_oneIf RX4) (by decide +kernel)), va_Nw.of rfl (htb (.methodLinkNest RX3 121 yX4_oneIf RX4) (by decide +kernel)), va_AO.of (htb (.arrayOver (.object RX3)) (by decide +kernel)), va_AOA.of (htb (.arrayOver (.array .int)) (by decide +kernel))⟩
