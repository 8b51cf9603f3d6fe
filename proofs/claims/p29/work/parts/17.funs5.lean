/-! what the hall's answers are, as functions -/
theorem kwin {x lo hi : Nat} (h1 : lo ≤ x) (h2 : x ≤ hi) (h3 : hi < 2 ^ 31) : ¬ nI x < nI lo ∧ ¬ nI hi < nI x := ⟨fun q => absurd ((nI_ltI (a := x) (b := lo) (by omega) (by omega)).mp q) (by omega), fun q => absurd ((nI_ltI (a := hi) (b := x) (by omega) (by omega)).mp q) (by omega)⟩
theorem khas {i n : Nat} (h : i < n) (hn : n < 2 ^ 31) : ¬ nI i < nI 0 ∧ ¬ nI n ≤ nI i := ⟨fun q => absurd ((nI_ltI (a := i) (b := 0) (by omega) (by omega)).mp q) (by omega), fun q => absurd ((nI_leI (a := n) (b := i) (by omega) (by omega)).mp q) (by omega)⟩
/-- a guest's fact -/
def kGf (g : rG) (le : Nat → Int32) (rd da i w : Nat) : Int32 := match w with
  | 0 => g.1 i
  | 1 => g.2.1 i
  | 2 => g.2.2.1 i
  | 3 => g.2.2.2.1 i
  | 4 => if ¬ (rd / 2 ^ i &&& 1 = 0) then nI 1 else nI 0
  | 5 => le i
  | 6 => nI da
  | _ => g.2.2.2.2.1 i
theorem kGf_g {g : rG} {le le' : Nat → Int32} {rd rd' i : Nat} (da w : Nat) (h1 : le i = le' i) (h2 : rd = rd') : kGf g le rd da i w = kGf g le' rd' da i w := by
  unfold kGf
  rw [h1, h2]
def kGL (p : Nat → Int32) (L : rG) (d : Nat → Nat → Int32) (i w : Nat) : Int32 := kGf L (kS1 p L kF0 0).2.1 (kS1 p L kF0 0).2.2 (kcnt (d i) 8) i w
def kGO (p : Nat → Int32) (L F : rG) (d : Nat → Nat → Int32) (i w : Nat) : Int32 := kGf F (kS2 p L F kF0 0).2.1 (kS2 p L F kF0 0).2.2 (kcnt (fun q => d q i) 8) i w
theorem kGL_g (p : Nat → Int32) {L : rG} (hz : kSz L) (f : rF) (d : Nat → Nat → Int32) {i : Nat} (w : Nat) (hi : i < L.2.2.2.2.2) : kGf L (kS1 p L f 0).2.1 (kS1 p L f 0).2.2 (kcnt (d i) 8) i w = kGL p L d i w :=
  kGf_g _ w ((kS1_g p hz f kF0 0).2.2 i hi) (kS1_g p hz f kF0 0).2.1
theorem kGO_g (p : Nat → Int32) {L F : rG} (hz : kSz L) (hf : kSz F) (f : rF) (d : Nat → Nat → Int32) {i : Nat} (w : Nat) (hi : i < F.2.2.2.2.2) : kGf F (kS2 p L F f 0).2.1 (kS2 p L F f 0).2.2 (kcnt (fun q => d q i) 8) i w = kGO p L F d i w :=
  kGf_g _ w ((kS2_g p hz hf f kF0 0).2.2 i hi) (kS2_g p hz hf f kF0 0).2.1
/-- how many could dance, with a pair more of a size -/
def kRc (p : Nat → Int32) (L F : rG) (x : Nat) : Nat := kpop (kS1 p L kF0 x).2.2 + kpop (kS2 p L F kF0 x).2.2
theorem kRc_g (p : Nat → Int32) {L F : rG} (hz : kSz L) (hf : kSz F) (f : rF) (x : Nat) : nI (kpop (kS1 p L f x).2.2 + kpop (kS2 p L F f x).2.2) = nI (kRc p L F x) := by
  unfold kRc
  rw [(kS1_g p hz f kF0 x).2.1, (kS2_g p hz hf f kF0 x).2.1]
theorem kpop_le (n : Nat) (h : n < 256) : kpop n ≤ 8 := by
  have h9 : ∀ n, n < 256 → kpop n ≤ 8 := by decide +kernel
  exact h9 n h
theorem kRc_le (p : Nat → Int32) {L F : rG} (hl : L.2.2.2.2.2 ≤ 8) (hf : F.2.2.2.2.2 ≤ 8) (x : Nat) : kRc p L F x ≤ 16 := by
  have := kpop_le _ (kLn_256 L (kLe p kF0.1 x 10) kF0.2.2.1 hl)
  have := kpop_le _ (kLn_256 F (kS1 p L kF0 x).1 kF0.2.2.2.1 hf)
  show kpop (kLn L _ _ _).2.2 + kpop (kLn F _ _ _).2.2 ≤ 16
  omega
def kBest (p : Nat → Int32) (L F : rG) : Nat → Nat × Int32
  | 0 => (kRc p L F 0, (-1 : Int32))
  | q + 1 => if (kBest p L F q).1 < kRc p L F (q + 1) then (kRc p L F (q + 1), nI (q + 1)) else kBest p L F q
theorem kBest_y {p : Nat → Int32} {L F : rG} {q : Nat} (h : (kBest p L F q).1 < kRc p L F (q + 1)) : kBest p L F (q + 1) = (kRc p L F (q + 1), nI (q + 1)) := if_pos h
theorem kBest_n {p : Nat → Int32} {L F : rG} {q : Nat} (h : kRc p L F (q + 1) ≤ (kBest p L F q).1) : kBest p L F (q + 1) = kBest p L F q := if_neg (Nat.not_lt.mpr h)
theorem kBest_le (p : Nat → Int32) {L F : rG} (hl : L.2.2.2.2.2 ≤ 8) (hf : F.2.2.2.2.2 ≤ 8) : ∀ q, (kBest p L F q).1 ≤ 16
  | 0 => kRc_le p hl hf 0
  | q + 1 => by
    have := kBest_le p hl hf q
    have := kRc_le p hl hf (q + 1)
    by_cases h : (kBest p L F q).1 < kRc p L F (q + 1)
    · rw [kBest_y h]; assumption
    · rw [kBest_n (Nat.not_lt.mp h)]; assumption
/-! the digest's sums -/
def kMix (h : Int64) (v : Int32) : Int64 := 31 * h + v.toInt64
def kMxs (f : Nat → Int32) (h : Int64) : Nat → Int64
  | 0 => h
  | i + 1 => kMix (kMxs f h i) (f i)
def kMg (G : Nat → Nat → Int32) (m : Nat) (h : Int64) : Nat → Int64
  | 0 => h
  | i + 1 => kMxs (G i) (kMg G m h i) m
def kMb (d : Nat → Nat → Int32) (e : Nat → Int32) (m : Nat) (h : Int64) : Nat → Int64
  | 0 => h
  | i + 1 => kMix (kMxs (d i) (kMb d e m h i) m) (e i)
def kD2 (p l : Nat → Int32) (h : Int64) : Nat → Int64
  | 0 => h
  | q + 1 => kMix (kMix (kD2 p l h q) (p (q + 1))) (l (q + 1))
theorem kMxs_ext {f g : Nat → Int32} (h : Int64) : ∀ n, (∀ i, i < n → f i = g i) → kMxs f h n = kMxs g h n
  | 0, _ => rfl
  | n + 1, e => by
    show kMix (kMxs f h n) (f n) = kMix (kMxs g h n) (g n)
    rw [kMxs_ext h n (fun i q => e i (by omega)), e n (by omega)]
theorem kMg_ext {G G' : Nat → Nat → Int32} (m : Nat) (h : Int64) : ∀ n, (∀ i, i < n → ∀ w, G i w = G' i w) → kMg G m h n = kMg G' m h n
  | 0, _ => rfl
  | n + 1, e => by
    show kMxs (G n) (kMg G m h n) m = kMxs (G' n) (kMg G' m h n) m
    rw [kMg_ext m h n (fun i q => e i (by omega)), kMxs_ext _ m (fun i _ => e n (by omega) i)]
theorem kMb_ext {d : Nat → Nat → Int32} {e e' : Nat → Int32} (m : Nat) (h : Int64) : ∀ n, (∀ i, i < n → e i = e' i) → kMb d e m h n = kMb d e' m h n
  | 0, _ => rfl
  | n + 1, q => by
    show kMix (kMxs (d n) (kMb d e m h n) m) (e n) = kMix (kMxs (d n) (kMb d e' m h n) m) (e' n)
    rw [kMb_ext m h n (fun i c => q i (by omega)), q n (by omega)]
def kLf (p : Nat → Int32) (L F : rG) : Nat → Int32 := (kS2 p L F kF0 0).1
def kDgst (ln sc : Nat) (C : rC) (L F : rG) (Ar : rA) (d : Nat → Nat → Int32) : Int64 :=
  kMix (kMg (fun f w => kff C Ar f w) 3 (kMb d (kFx Ar.1 L F d (kro C)) F.2.2.2.2.2 (kMg (kGO Ar.1 L F d) 8 (kMg (kGL Ar.1 L d) 8 (kD2 Ar.1 (kLf Ar.1 L F) (kMxs (fun w => knum C L F Ar d w) (kMix 3527 (nI ln)) 14) 9) L.2.2.2.2.2) F.2.2.2.2.2) L.2.2.2.2.2) C.2.2.2.1) (nI sc)
/-- whom a leader danced with in a dance -/
def kPt (r : Nat → Int32) (k : Nat) : Int32 := kfst r (nI k) 8
