/-! the digest, as the reference makes it -/
def kPx (X : rS) (p : Nat) : Nat → Int32 := if p < 8 then kGL X.2.2.2.1.1 X.2.1 X.2.2.2.2 p else kGO X.2.2.2.1.1 X.2.1 X.2.2.1 X.2.2.2.2 (p - 8)
def kHg (X : rS) (h : Int64) (p : Nat) : Int64 := kMg (kGO X.2.2.2.1.1 X.2.1 X.2.2.1 X.2.2.2.2) 8 (kMg (kGL X.2.2.2.1.1 X.2.1 X.2.2.2.2) 8 h (min p X.2.1.2.2.2.2.2)) (min (p - 8) X.2.2.1.2.2.2.2.2)
theorem kPx_L {X : rS} {p : Nat} (h : p < 8) : kPx X p = kGL X.2.2.2.1.1 X.2.1 X.2.2.2.2 p := if_pos h
theorem kPx_F {X : rS} {q : Nat} : kPx X (8 + q) = kGO X.2.2.2.1.1 X.2.1 X.2.2.1 X.2.2.2.2 q := by
  unfold kPx
  rw [if_neg (by omega), show 8 + q - 8 = q by omega]
theorem kHg_0 (X : rS) (h : Int64) : h = kHg X h 0 := by
  unfold kHg
  rw [Nat.zero_min, show min (0 - 8) X.2.2.1.2.2.2.2.2 = 0 by omega]
  rfl
theorem kHg_L {X : rS} {h : Int64} {p : Nat} (h8 : p < 8) (hp : p < X.2.1.2.2.2.2.2) : kMxs (kPx X p) (kHg X h p) 8 = kHg X h (p + 1) := by
  unfold kHg
  rw [kPx_L h8, show min p X.2.1.2.2.2.2.2 = p by omega, show min (p + 1) X.2.1.2.2.2.2.2 = p + 1 by omega, show min (p - 8) X.2.2.1.2.2.2.2.2 = 0 by omega, show min (p + 1 - 8) X.2.2.1.2.2.2.2.2 = 0 by omega]
  rfl
theorem kHg_Ln {X : rS} {h : Int64} {p : Nat} (h8 : p < 8) (hp : ¬ p < X.2.1.2.2.2.2.2) : kHg X h p = kHg X h (p + 1) := by
  unfold kHg
  rw [show min p X.2.1.2.2.2.2.2 = min (p + 1) X.2.1.2.2.2.2.2 by omega, show min (p - 8) X.2.2.1.2.2.2.2.2 = min (p + 1 - 8) X.2.2.1.2.2.2.2.2 by omega]
theorem kHg_F {X : rS} {h : Int64} {q : Nat} (h8 : X.2.1.2.2.2.2.2 ≤ 8) (hq : q < X.2.2.1.2.2.2.2.2) : kMxs (kPx X (8 + q)) (kHg X h (8 + q)) 8 = kHg X h (8 + q + 1) := by
  unfold kHg
  rw [kPx_F, show min (8 + q) X.2.1.2.2.2.2.2 = min (8 + q + 1) X.2.1.2.2.2.2.2 by omega, show min (8 + q - 8) X.2.2.1.2.2.2.2.2 = q by omega, show min (8 + q + 1 - 8) X.2.2.1.2.2.2.2.2 = q + 1 by omega]
  rfl
theorem kHg_Fn {X : rS} {h : Int64} {q : Nat} (h8 : X.2.1.2.2.2.2.2 ≤ 8) (hq : ¬ q < X.2.2.1.2.2.2.2.2) : kHg X h (8 + q) = kHg X h (8 + q + 1) := by
  unfold kHg
  rw [show min (8 + q) X.2.1.2.2.2.2.2 = min (8 + q + 1) X.2.1.2.2.2.2.2 by omega, show min (8 + q - 8) X.2.2.1.2.2.2.2.2 = min (8 + q + 1 - 8) X.2.2.1.2.2.2.2.2 by omega]
theorem kHg_e {X : rS} {h : Int64} (h1 : X.2.1.2.2.2.2.2 ≤ 8) (h2 : X.2.2.1.2.2.2.2.2 ≤ 8) : kHg X h 16 = kMg (kGO X.2.2.2.1.1 X.2.1 X.2.2.1 X.2.2.2.2) 8 (kMg (kGL X.2.2.2.1.1 X.2.1 X.2.2.2.2) 8 h X.2.1.2.2.2.2.2) X.2.2.1.2.2.2.2.2 := by
  unfold kHg
  rw [show min 16 X.2.1.2.2.2.2.2 = X.2.1.2.2.2.2.2 by omega, show min (16 - 8) X.2.2.1.2.2.2.2.2 = X.2.2.1.2.2.2.2.2 by omega]
/-- the fiddlers' values, one after the other -/
def kFk (G : Nat → Nat → Int32) (h : Int64) (k : Nat) : Int64 := kMxs (G (k / 3)) (kMg G 3 h (k / 3)) (k % 3)
theorem kFk_0 (G : Nat → Nat → Int32) (h : Int64) : h = kFk G h 0 := rfl
theorem kFk_s (G : Nat → Nat → Int32) (h : Int64) (k : Nat) : kMix (kFk G h k) (G (k / 3) (k % 3)) = kFk G h (k + 1) := by
  unfold kFk
  rcases (show k % 3 = 0 ∨ k % 3 = 1 ∨ k % 3 = 2 by omega) with e | e | e
  · rw [e, show (k + 1) / 3 = k / 3 by omega, show (k + 1) % 3 = 1 by omega]; rfl
  · rw [e, show (k + 1) / 3 = k / 3 by omega, show (k + 1) % 3 = 2 by omega]; rfl
  · rw [e, show (k + 1) / 3 = k / 3 + 1 by omega, show (k + 1) % 3 = 0 by omega]; rfl
theorem kFk_e (G : Nat → Nat → Int32) (h : Int64) (n : Nat) : kFk G h (3 * n) = kMg G 3 h n := by
  unfold kFk
  rw [show 3 * n / 3 = n by omega, show 3 * n % 3 = 0 by omega]
  rfl
theorem kmod3 {k : Nat} (h : k < 100) : nI k - nI k / nI 3 * nI 3 = nI (k % 3) := by
  rw [pk_div (by omega) (by decide) (by decide), pk_mul, pk_sub (by omega)]
  exact congrArg nI (by omega)
theorem kMix_0 (v : Int32) : (109337 : Int64) + v.toInt64 = kMix 3527 v := by
  unfold kMix
  rw [show (31 : Int64) * 3527 = 109337 from by decide]
