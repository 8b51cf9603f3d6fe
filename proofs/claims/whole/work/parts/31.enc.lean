/-! the reference's array, told by the class's own state -/
def kEnG (g : rG) (t i w : Nat) : Int32 := if i < g.2.2.2.2.2 then (match w with
  | 0 => g.1 i
  | 1 => g.2.1 i
  | 2 => g.2.2.1 i
  | 3 => g.2.2.2.1 i
  | 4 => nI t
  | _ => g.2.2.2.2.1 i) else 0
def kEn0 (x : rS) (j : Nat) : Int32 := match j with
  | 0 => nI x.2.1.2.2.2.2.2
  | 1 => nI x.2.2.1.2.2.2.2.2
  | 2 => nI x.1.1
  | 3 => nI x.1.2.1
  | 4 => x.1.2.2.2.2.2.1
  | 5 => nI x.1.2.2.2.2.2.2.1
  | 6 => nI (kns (fun l => kcnt (x.2.2.2.2 l) 8) 8)
  | 7 => x.1.2.2.2.2.1
  | 8 => nI x.1.2.2.2.1
  | 9 => x.1.2.2.2.2.2.2.2
  | _ => x.1.2.2.1
def kEn (x : rS) (j : Nat) : Int32 :=
  if j < 11 then kEn0 x j else if j < 20 then x.2.2.2.1.1 (j - 10) else if j < 24 then x.2.2.2.1.2.1 (j - 20) else if j < 28 then x.2.2.2.1.2.2 (j - 24) else
  if j < 92 then x.2.2.2.2 ((j - 28) / 8) ((j - 28) % 8) else
  if (j - 92) / 6 < 8 then kEnG x.2.1 (kcnt (x.2.2.2.2 ((j - 92) / 6)) 8) ((j - 92) / 6) ((j - 92) % 6) else
  kEnG x.2.2.1 (kcnt (fun q => x.2.2.2.2 q ((j - 92) / 6 - 8)) 8) ((j - 92) / 6 - 8) ((j - 92) % 6)
theorem kEn_0 (x : rS) {j : Nat} (h : j < 11) : kEn x j = kEn0 x j := if_pos h
theorem kEn_s (x : rS) {z : Nat} (h1 : 1 ≤ z) (h : z ≤ 9) : kEn x (10 + z) = x.2.2.2.1.1 z := by
  unfold kEn
  rw [if_neg (by omega), if_pos (by omega), show 10 + z - 10 = z by omega]
theorem kEn_p (x : rS) {f : Nat} (h : f < 4) : kEn x (20 + f) = x.2.2.2.1.2.1 f := by
  unfold kEn
  rw [if_neg (by omega), if_neg (by omega), if_pos (by omega), show 20 + f - 20 = f by omega]
theorem kEn_g (x : rS) {f : Nat} (h : f < 4) : kEn x (24 + f) = x.2.2.2.1.2.2 f := by
  unfold kEn
  rw [if_neg (by omega), if_neg (by omega), if_neg (by omega), if_pos (by omega), show 24 + f - 24 = f by omega]
theorem kEn_d (x : rS) {l f : Nat} (hl : l < 8) (hf : f < 8) : kEn x (28 + 8 * l + f) = x.2.2.2.2 l f := by
  unfold kEn
  rw [if_neg (by omega), if_neg (by omega), if_neg (by omega), if_neg (by omega), if_pos (by omega), show (28 + 8 * l + f - 28) / 8 = l by omega, show (28 + 8 * l + f - 28) % 8 = f by omega]
theorem kEn_L (x : rS) {i w : Nat} (hi : i < 8) (hw : w < 6) : kEn x (92 + 6 * i + w) = kEnG x.2.1 (kcnt (x.2.2.2.2 i) 8) i w := by
  unfold kEn
  rw [if_neg (by omega), if_neg (by omega), if_neg (by omega), if_neg (by omega), if_neg (by omega), show (92 + 6 * i + w - 92) / 6 = i by omega, show (92 + 6 * i + w - 92) % 6 = w by omega, if_pos hi]
theorem kEn_F (x : rS) {i w : Nat} (hw : w < 6) : kEn x (92 + 6 * (8 + i) + w) = kEnG x.2.2.1 (kcnt (fun q => x.2.2.2.2 q i) 8) i w := by
  unfold kEn
  rw [if_neg (by omega), if_neg (by omega), if_neg (by omega), if_neg (by omega), if_neg (by omega), show (92 + 6 * (8 + i) + w - 92) / 6 = 8 + i by omega, show (92 + 6 * (8 + i) + w - 92) % 6 = w by omega, if_neg (by omega), show 8 + i - 8 = i by omega]
/-- two tellings that agree field by field agree on the array's places -/
theorem kEn_ext {x : rS} {h : Nat → Int32} (h0 : ∀ j, j < 11 → h j = kEn0 x j) (h1 : ∀ z, 1 ≤ z → z ≤ 9 → h (10 + z) = x.2.2.2.1.1 z) (h2 : ∀ f, f < 4 → h (20 + f) = x.2.2.2.1.2.1 f) (h3 : ∀ f, f < 4 → h (24 + f) = x.2.2.2.1.2.2 f)
    (h4 : ∀ l f, l < 8 → f < 8 → h (28 + 8 * l + f) = x.2.2.2.2 l f) (h5 : ∀ i w, i < 8 → w < 6 → h (92 + 6 * i + w) = kEnG x.2.1 (kcnt (x.2.2.2.2 i) 8) i w) (h6 : ∀ i w, i < 8 → w < 6 → h (92 + 6 * (8 + i) + w) = kEnG x.2.2.1 (kcnt (fun q => x.2.2.2.2 q i) 8) i w) : ∀ j, j < 188 → h j = kEn x j := by
  intro j hj
  by_cases g0 : j < 11
  · rw [h0 j g0, kEn_0 x g0]
  by_cases g1 : j < 20
  · have := h1 (j - 10) (by omega) (by omega)
    have e := kEn_s x (z := j - 10) (by omega) (by omega)
    rw [show 10 + (j - 10) = j by omega] at this e
    rw [this, e]
  by_cases g2 : j < 24
  · have := h2 (j - 20) (by omega)
    have e := kEn_p x (f := j - 20) (by omega)
    rw [show 20 + (j - 20) = j by omega] at this e
    rw [this, e]
  by_cases g3 : j < 28
  · have := h3 (j - 24) (by omega)
    have e := kEn_g x (f := j - 24) (by omega)
    rw [show 24 + (j - 24) = j by omega] at this e
    rw [this, e]
  by_cases g4 : j < 92
  · have := h4 ((j - 28) / 8) ((j - 28) % 8) (by omega) (by omega)
    have e := kEn_d x (l := (j - 28) / 8) (f := (j - 28) % 8) (by omega) (by omega)
    rw [show 28 + 8 * ((j - 28) / 8) + (j - 28) % 8 = j by omega] at this e
    rw [this, e]
  by_cases g5 : (j - 92) / 6 < 8
  · have := h5 ((j - 92) / 6) ((j - 92) % 6) g5 (by omega)
    have e := kEn_L x (i := (j - 92) / 6) (w := (j - 92) % 6) g5 (by omega)
    rw [show 92 + 6 * ((j - 92) / 6) + (j - 92) % 6 = j by omega] at this e
    rw [this, e]
  · have := h6 ((j - 92) / 6 - 8) ((j - 92) % 6) (by omega) (by omega)
    have e := kEn_F x (i := (j - 92) / 6 - 8) (w := (j - 92) % 6) (by omega)
    rw [show 92 + 6 * (8 + ((j - 92) / 6 - 8)) + (j - 92) % 6 = j by omega] at this e
    rw [this, e]
