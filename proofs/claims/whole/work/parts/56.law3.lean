/-! the law's own loop: what it reads, what holds at its head -/
/-- what 'c != 0' leaves on the stack -/
def kbz (v : Int32) : Int32 := if v = 0 then nI 0 else nI 1
theorem kbz_or (v : Int32) : kbz v = nI 0 ∨ kbz v = nI 1 := by
  unfold kbz
  by_cases h : v = 0
  · exact Or.inl (if_pos h)
  · exact Or.inr (if_neg h)
theorem lg_self (x : Int64) : lg_cmp x x = 0 := by
  have h : ¬ x > x := fun h => absurd (Int64.lt_iff_toInt_lt.mp h) (Int.lt_irrefl _)
  unfold lg_cmp
  rw [if_neg h, if_pos rfl]
theorem lw_uL {f : Nat → Int64} {x : Int64} : (vp_updL f 0 x) (nI 0).toNatClampNeg = x := by
  show (if (nI 0).toNatClampNeg = 0 then x else f _) = x
  exact if_pos (by decide)
/-- a share is equal to itself -/
theorem kNanc : ∀ c, c < 65 → ∀ n, n < 65 → ¬ n ≤ 0 → Op.cmpValue (FP.dcmp (FP.ddiv (FP.i2d (nI c)) (FP.i2d (nI n))) (FP.ddiv (FP.i2d (nI c)) (FP.i2d (nI n)))) .l = 0 := by
  decide +kernel
theorem kNan0 : Op.cmpValue (FP.dcmp FP.dconst0 FP.dconst0) .l = 0 := by decide +kernel
theorem kns64 (d : Nat → Nat → Int32) : kns (fun l => kcnt (d l) 8) 8 < 65 := by
  have h := kns_le (fun l => kcnt (d l) 8) 8 (fun i => kcnt_le (d i) 8) 8
  omega
theorem kml64 {a b : Nat} (ha : a ≤ 8) (hb : b ≤ 8) : a * b < 65 := by
  have h := Nat.mul_le_mul ha hb
  omega
/-- the low five bits, as a number -/
theorem k31 (v : Int32) : ∃ n, n < 32 ∧ v &&& 31 = nI n := by
  refine ⟨(v &&& 31).toBitVec.toNat, ?_, ?_⟩
  · have h : (v &&& 31).toBitVec = v.toBitVec &&& 31#32 := by first | rfl | (rw [Int32.toBitVec_and]; rfl)
    rw [h, BitVec.toNat_and]
    exact Nat.lt_of_le_of_lt Nat.and_le_right (by decide)
  · apply Int32.toBitVec_inj.mp
    show (v &&& 31).toBitVec = BitVec.ofNat 32 (v &&& 31).toBitVec.toNat
    rw [BitVec.ofNat_toNat, BitVec.setWidth_eq]
theorem k32 {n : Nat} (h : n < 32) : n = 0 ∨ n = 1 ∨ n = 2 ∨ n = 3 ∨ n = 4 ∨ n = 5 ∨ n = 6 ∨ n = 7 ∨ n = 8 ∨ n = 9 ∨ n = 10 ∨ n = 11 ∨ n = 12 ∨ n = 13 ∨ n = 14 ∨ n = 15 ∨ n = 16 ∨ n = 17 ∨ n = 18 ∨ n = 19 ∨ n = 20 ∨ n = 21 ∨ n = 22 ∨ n = 23 ∨ n = 24 ∨ n = 25 ∨ 26 ≤ n := by omega
/-- the head's test: script.length - 5 < i -/
theorem kLt5 {L i : Nat} (hL : L ≤ 2560) (hi : i ≤ 5000) : (Int32.ofNat L - nI 5 < nI i) ↔ L < i + 5 := by
  rcases Nat.lt_or_ge L 5 with h5 | h5
  · have e2 : (nI i).toInt = (i : Int) := nI_toInt (by omega)
    have h : (Int32.ofNat L - nI 5).toInt < 0 := by
      rcases (show L = 0 ∨ L = 1 ∨ L = 2 ∨ L = 3 ∨ L = 4 by omega) with rfl | rfl | rfl | rfl | rfl <;> decide
    refine ⟨fun _ => by omega, fun _ => ?_⟩
    rw [Int32.lt_iff_toInt_lt, e2]
    omega
  · have e1 : Int32.ofNat L - nI 5 = nI (L - 5) := pk_sub (a := L) (b := 5) h5
    rw [e1]
    refine ⟨fun h => ?_, fun h => ?_⟩
    · have h1 := (nI_ltI (a := L - 5) (b := i) (by omega) (by omega)).mp h
      omega
    · exact (nI_ltI (a := L - 5) (b := i) (by omega) (by omega)).mpr (by omega)
section LWR
variable {p : Program} {l : Launch} {e : Env} {R : Room} {s : State} {m : MethodId} {args : Array Value} {below : List Frame} {meth : Method} {c : Code} {H : Heap} {locs : List Loc} {cells slots : Nat} {Q : State → Prop} {cc : ByteArray} {pc : Nat} {ls : Array Slot} {rest : List Value} {A : Nat → Prop}
/-- 'c != 0' -/
theorem lw_bz {v : Int32} (hx : p.tables.exec = Jvm.exec) (hb : c.code = cc) (h0 : decode cc pc = .ok (.ifCond .eq 7, 3)) (h1 : decode cc (pc + 3) = .ok (.iconst 1, 1)) (h2 : decode cc (pc + 3 + 1) = .ok (.goto 4, 3)) (h3 : decode cc (pc + 7) = .ok (.iconst 0, 1))
    (kk : W p l e R s m args below meth c H locs cells slots Q (F0 m (pc + 8) ls (.int (kbz v) :: rest))) : W p l e R s m args below meth c H locs cells slots Q (F0 m pc ls (.int v :: rest)) := by
  refine lv_if_eq (tgt := pc + 7) hx hb h0 (by omega) (fun hv => ?_) (fun hv => ?_)
  · refine lv_iconst (v := nI 0) hx hb h3 (by decide) ?_
    have e9 : kbz v = nI 0 := if_pos hv
    rw [e9] at kk
    exact kk
  · refine lv_iconst (v := nI 1) hx hb h1 (by decide) ?_
    refine lv_goto (tgt := pc + 8) hx hb h2 (by omega) ?_
    have e9 : kbz v = nI 1 := if_neg hv
    rw [e9] at kk
    exact kk
/-- script[i + k] -/
theorem lw_sc {b L i k n9 : Nat} {xs : Nat → Int32} {v : Int32} {lv : List (Nat × Value)} {k4 k0 : Nat} (hx : p.tables.exec = Jvm.exec) (hb : c.code = cc) (hX : va_X b L xs s s.heap) (hbl : b < s.heap.size) (hbA : ¬ A b) (hS : va_S A s.heap H locs) (hl : lv_has ls n9 lv) (e0 : lv[k0]? = some (0, .ref b)) (e4 : lv[k4]? = some (4, .int (nI i))) (hL : L ≤ 2560) (hik : i + k < L) (hv : xs (i + k) = v) {z : Int} (hz : Int32.ofInt z = nI k)
    (h0 : decode cc pc = .ok (.aload_n 0, 1)) (h1 : decode cc (pc + 1) = .ok (.iload 4, 2)) (h2 : decode cc (pc + 3) = .ok (.iconst z, 1)) (h3 : decode cc (pc + 4) = .ok (.iadd, 1)) (h4 : decode cc (pc + 5) = .ok (.iaload, 1))
    (kk : W p l e R s m args below meth c H locs cells slots Q (F0 m (pc + 6) ls (.int v :: rest))) : W p l e R s m args below meth c H locs cells slots Q (F0 m pc ls rest) := by
  refine lv_aload_n hx hb h0 rfl (lv_at hl k0 e0) ?_
  refine lv_iload hx hb h1 (lv_at hl k4 e4) ?_
  refine lv_iconst (v := nI k) hx hb h2 hz ?_
  refine lv_iadd hx hb h3 ?_
  refine kv_i (y := nI (i + k)) (nI_add i k) ?_
  refine va_sld hx hb hX hbl hbA hS (vp_in_nI (n := i + k) (N := L) hik (by omega)) h4 ?_
  refine kv_i (y := v) (by rw [nI_clamp (n := i + k) (by omega)]; exact hv) ?_
  exact kk
end LWR
theorem kv_d {p : Program} {l : Launch} {e : Env} {R : Room} {s : State} {m : MethodId} {args : Array Value} {below : List Frame} {meth : Method} {c : Code} {H : Heap} {locs : List Loc} {cells slots : Nat} {Q : State → Prop} {pc : Nat} {ls : Array Slot} {rest : List Value} {x y : UInt64} (h : x = y) (k : W p l e R s m args below meth c H locs cells slots Q (F0 m pc ls (.double y :: rest))) : W p l e R s m args below meth c H locs cells slots Q (F0 m pc ls (.double x :: rest)) := by rw [h]; exact k
theorem nI_neg1 {n : Nat} (h : n ≤ 30) (e : nI n = (-1 : Int32)) : False := by
  have h1 : (nI n).toInt = (n : Int) := nI_toInt (by omega)
  have h2 : (-1 : Int32).toInt = (-1 : Int) := by decide
  rw [e, h2] at h1
  omega
/-- a number of the script below a count -/
theorem kin_m {v : Int32} {n : Nat} (hn : n < 1000) (h : ¬ v < nI 0 ∧ ¬ nI n ≤ v) : ∃ j, j < n ∧ v = nI j := by
  obtain ⟨j, j1, j2, -⟩ := pk_mu h.1 h.2 (by omega)
  exact ⟨j, j1, j2⟩
theorem kin_d {v : Int32} {n : Nat} (hn : n ≤ 30) (h : ¬ v < nI 0 ∧ ¬ nI n - nI 1 < v) : ∃ j, j < n ∧ v = nI j := by
  rcases Nat.eq_zero_or_pos n with h0 | h0
  · have h1 := h.1
    have h2 := h.2
    rw [h0] at h2
    have e0 : (nI 0).toInt = (0 : Int) := by decide
    have e1 : (nI 0 - nI 1).toInt = (-1 : Int) := by decide
    rw [Int32.lt_iff_toInt_lt, e0] at h1
    rw [Int32.lt_iff_toInt_lt, e1] at h2
    omega
  · have e1 : nI n - nI 1 = nI (n - 1) := pk_sub (a := n) (b := 1) h0
    rw [e1] at h
    obtain ⟨j, -, j2, j3⟩ := kin_n (a := 0) (b := n - 1) (by omega) (by omega) h
    exact ⟨j, by omega, j3⟩
/-- what the law's whole walk has at hand -/
def lCx (p : Program) (l : Launch) (s : State) (m : MethodId) (meth : Method) (c : Code) (D : va_G) (cy : Nat → ClassId) (S : Nat × Nat × Nat) (A : Nat → Prop) (b L : Nat) (xs : Nat → Int32) : Prop :=
  p.tables.exec = Jvm.exec ∧ c.code = cL_law ∧ meth.sig.returnType = some .boolean ∧ c.maxLocals = 9 ∧ s.vm.findClass RL = some m.cls ∧ (∀ w ∈ wsL_law, w.before #[Value.ref b] s = true) ∧ va_X b L xs s s.heap ∧ b < s.heap.size ∧ kN s ∧ kX S A s ∧ kNc s ∧ va_K D vwCl (kT cy) s ∧ L ≤ 2560 ∧ l.stackTraces = false ∧ meth.locks = false ∧ ∀ q, A q ↔ s.heap.size ≤ q
/-- the two agree: their worlds, the script's place -/
def lHd (D : va_G) (cy : Nat → ClassId) (A : Nat → Prop) (s : State) (b : Nat) (o a b2 fa ta ra : Nat → Nat) (sv : Nat → Nat → Nat) (ou sc : Nat) (V : Nat → rS) (C : rC) (L F : rG) (Ar : rA) (d : Nat → Nat → Int32) (C2 : rC) (L2 F2 : rG) (A2 : rA) (d2 : Nat → Nat → Int32) (Fl : rF) (bs : Nat → Int32) (ln pl : Nat) (sa asd : Nat → Int32) (th : Int32) (lf lt ca gr ch : Nat → Int32) (p2 : Nat) (rd : Nat → Int32) (gs rl : Nat) (of : Nat → Int64) (i : Nat) (ls : Array Slot) (H : Heap) (locs : List Loc) : Prop :=
  lGood sc V (C, L, F, Ar, d) (C2, L2, F2, A2, d2) bs ln sa ∧ va_P D vwCl (bkF [jO o (a, b2, fa, ta, sc), jS cy o (fun i => some (sv i 0)), sO a C, gW cy a 1 L, gW cy a 7 F, sA cy a Ar, rW cy a d, sO b2 C2, gW cy b2 1 L2, gW cy b2 7 F2, sA cy b2 A2, rW cy b2 d2, fW cy fa Fl, tW cy ta (bs, ln, pl), svW cy sv V, mW cy ra (kEn (C, L, F, Ar, d), (sa, asd, sc, th, lf, lt, ca, gr, ch, bs, ln, p2, rd, gs, rl)), [(ou, .inl (cy 5, 1, .inr (.inl of)))]]) H ∧ va_D A (bkF [jO o (a, b2, fa, ta, sc), jS cy o (fun i => some (sv i 0)), sO a C, gW cy a 1 L, gW cy a 7 F, sA cy a Ar, rW cy a d, sO b2 C2, gW cy b2 1 L2, gW cy b2 7 F2, sA cy b2 A2, rW cy b2 d2, fW cy fa Fl, tW cy ta (bs, ln, pl), svW cy sv V, mW cy ra (kEn (C, L, F, Ar, d), (sa, asd, sc, th, lf, lt, ca, gr, ch, bs, ln, p2, rd, gs, rl)), [(ou, .inl (cy 5, 1, .inr (.inl of)))]]) ∧ va_S A s.heap H locs ∧ lv_has ls 9 [(0, .ref b), (1, .ref (o 0)), (2, .ref (ra 0)), (3, .ref ou), (4, .int (nI i))]
/-- at pc, at any state of the two that agree, the rest of the walk is done -/
def lGo (p : Program) (l : Launch) (e : Env) (s : State) (m : MethodId) (below : List Frame) (meth : Method) (c : Code) (D : va_G) (cy : Nat → ClassId) (A : Nat → Prop) (b : Nat) (Q : State → Prop) (pc i cells slots : Nat) : Prop :=
  ∀ (o a b2 fa ta ra : Nat → Nat) (sv : Nat → Nat → Nat) (ou sc : Nat) (V : Nat → rS) (C : rC) (L F : rG) (Ar : rA) (d : Nat → Nat → Int32) (C2 : rC) (L2 F2 : rG) (A2 : rA) (d2 : Nat → Nat → Int32) (Fl : rF) (bs : Nat → Int32) (ln pl : Nat) (sa asd : Nat → Int32) (th : Int32) (lf lt ca gr ch : Nat → Int32) (p2 : Nat) (rd : Nat → Int32) (gs rl : Nat) (of : Nat → Int64) (ls : Array Slot) (H : Heap) (locs : List Loc), lHd D cy A s b o a b2 fa ta ra sv ou sc V C L F Ar d C2 L2 F2 A2 d2 Fl bs ln pl sa asd th lf lt ca gr ch p2 rd gs rl of i ls H locs → W p l e room_1 s m #[Value.ref b] below meth c H locs cells slots Q (F0 m pc ls [])
