/-! the table, laid level by level -/
def kVv (M : Nat → Nat) : Nat → Int32 := fun j => nI (kG M (8 - j / 256) (j % 256))
def kVt (b : Nat) (V sa : Nat → Int32) (i : Nat) : Nat → Int32 := fun j => if b ≤ j ∧ j < b + i then V j else sa j
theorem kVt_0 {b : Nat} {V sa : Nat → Int32} (j : Nat) : sa j = kVt b V sa 0 j := by
  unfold kVt
  rw [if_neg (by omega)]
theorem kVt_in {b i j : Nat} {V sa : Nat → Int32} (h1 : b ≤ j) (h2 : j < b + i) : kVt b V sa i j = V j := if_pos ⟨h1, h2⟩
theorem kVt_s {b i : Nat} {V sa : Nat → Int32} {y : Int32} (e : y = V (b + i)) (j : Nat) : upd (kVt b V sa i) (b + i) y j = kVt b V sa (i + 1) j := by
  unfold upd kVt
  by_cases q : j = b + i
  · rw [if_pos q, if_pos (by omega), e, q]
  · rw [if_neg q]
    by_cases q2 : b ≤ j ∧ j < b + i
    · rw [if_pos q2, if_pos (by omega)]
    · rw [if_neg q2, if_neg (by omega)]
theorem kVt_m {b n : Nat} {V gr : Nat → Int32} (j : Nat) : kVt b V (kVt (b + 256) V gr n) 256 j = kVt b V gr (256 + n) j := by
  unfold kVt
  by_cases q : b ≤ j ∧ j < b + 256
  · rw [if_pos q, if_pos (by omega)]
  · rw [if_neg q]
    by_cases q2 : b + 256 ≤ j ∧ j < b + 256 + n
    · rw [if_pos q2, if_pos (by omega)]
    · rw [if_neg q2, if_neg (by omega)]
theorem kVv_at {M : Nat → Nat} {q v : Nat} (hq : q ≤ 8) (hv : v < 256) : kVv M (256 * (8 - q) + v) = nI (kG M q v) := by
  unfold kVv
  rw [show (256 * (8 - q) + v) / 256 = 8 - q by omega, show (256 * (8 - q) + v) % 256 = v by omega, show 8 - (8 - q) = q by omega]
theorem kVv_0 {M : Nat → Nat} {v : Nat} (hv : v < 256) : nI 0 = kVv M (2048 + v) := (kVv_at (M := M) (q := 0) (by decide) hv).symm
theorem kVv_7 {M : Nat → Nat} {q v : Nat} (hq : q < 8) (hv : v < 256) : nI (kGx M (7 - q) v (kG M q) 8) = kVv M (256 * (7 - q) + v) := by
  have h := kVv_at (M := M) (q := q + 1) (v := v) (by omega) hv
  rw [show 8 - (q + 1) = 7 - q by omega] at h
  exact h.symm
theorem kTb_r {M : Nat → Nat} {gr : Nat → Int32} {q v w : Nat} (hq : q < 8) (hw : w < 256) : kVt (256 * (7 - q)) (kVv M) (kVt (256 * (8 - q)) (kVv M) gr (256 * (q + 1))) v (256 * (7 - q + 1) + w) = nI (kG M q w) := by
  rw [show 256 * (7 - q + 1) + w = 256 * (8 - q) + w by omega]
  unfold kVt
  by_cases q1 : 256 * (7 - q) ≤ 256 * (8 - q) + w ∧ 256 * (8 - q) + w < 256 * (7 - q) + v
  · rw [if_pos q1]; exact kVv_at (by omega) hw
  · rw [if_neg q1, if_pos (by omega)]; exact kVv_at (by omega) hw
theorem kVt_e {M : Nat → Nat} {gr : Nat → Int32} {q : Nat} (hq : q < 8) (j : Nat) : kVt (256 * (7 - q)) (kVv M) (kVt (256 * (8 - q)) (kVv M) gr (256 * (q + 1))) 256 j = kVt (256 * (8 - (q + 1))) (kVv M) gr (256 * (q + 1 + 1)) j := by
  have h := kVt_m (b := 256 * (7 - q)) (n := 256 * (q + 1)) (V := kVv M) (gr := gr) j
  rw [show 256 * (7 - q) + 256 = 256 * (8 - q) by omega] at h
  rw [h, show 256 * (8 - (q + 1)) = 256 * (7 - q) by omega, show 256 * (q + 1 + 1) = 256 + 256 * (q + 1) by omega]
/-- counting down from seven to minus one -/
def kdn (q : Nat) : Int32 := if q ≤ 7 then nI (7 - q) else (-1 : Int32)
theorem kdn_y {q : Nat} (h : q < 8) : kdn q = nI (7 - q) := if_pos (by omega)
theorem kdn_8 {q : Nat} (h : q = 8) : kdn q = (-1 : Int32) := if_neg (by omega)
theorem kdn_s {q : Nat} (h : q < 8) : nI (7 - q) + Int32.ofInt (-1) = kdn (q + 1) := by
  have h9 : ∀ q, q < 8 → nI (7 - q) + Int32.ofInt (-1) = kdn (q + 1) := by decide +kernel
  exact h9 q h
theorem kG_le (M : Nat → Nat) : ∀ n v, kG M n v ≤ n
  | 0, _ => Nat.le_refl 0
  | n + 1, v => kGx_le (Nat.le_succ_of_le (kG_le M n v)) 8 (fun f _ _ _ => by have := kG_le M n (kclr v f); omega)
theorem kGx_b (M : Nat → Nat) (l v q n : Nat) : kGx M l v (kG M q) n ≤ q + 1 := kGx_le (Nat.le_succ_of_le (kG_le M q v)) n (fun f _ _ _ => by have := kG_le M q (kclr v f); omega)
theorem kGx_n {M : Nat → Nat} {l v f : Nat} {P : Nat → Nat} (h : ¬ (v.testBit f = true ∧ (M l).testBit f = true)) : kGx M l v P (f + 1) = kGx M l v P f := by
  have e : kGw M l v P f = 0 := if_neg h
  show (if _ then _ else _) = _
  rw [e, if_neg (Nat.not_lt_zero _)]
theorem kGx_y1 {M : Nat → Nat} {l v f : Nat} {P : Nat → Nat} (h : v.testBit f = true ∧ (M l).testBit f = true) (h2 : 1 + P (kclr v f) ≤ kGx M l v P f) : kGx M l v P (f + 1) = kGx M l v P f := by
  have e : kGw M l v P f = 1 + P (kclr v f) := if_pos h
  show (if _ then _ else _) = _
  rw [e, if_neg (by omega)]
theorem kGx_y2 {M : Nat → Nat} {l v f : Nat} {P : Nat → Nat} (h : v.testBit f = true ∧ (M l).testBit f = true) (h2 : ¬ 1 + P (kclr v f) ≤ kGx M l v P f) : kGx M l v P (f + 1) = 1 + P (kclr v f) := by
  have e : kGw M l v P f = 1 + P (kclr v f) := if_pos h
  show (if _ then _ else _) = _
  rw [e, if_pos (by omega)]
theorem kbit2 {x q : Nat} : (x / 2 ^ q &&& 1 = 1) ↔ x.testBit q = true := by
  rw [Nat.testBit_eq_decide_div_mod_eq, decide_eq_true_eq, show x / 2 ^ q &&& 1 = x / 2 ^ q % 2 from Nat.and_one_is_mod _]
theorem kand1 (x : Nat) : x &&& 1 < 2 := by
  rw [Nat.and_one_is_mod]
  omega
theorem kdiv_lt {x q : Nat} (h : x < 256) : x / 2 ^ q < 256 := Nat.lt_of_le_of_lt (Nat.div_le_self _ _) h
/-! who may dance, by the state -/
abbrev kMX (X : rS) : Nat → Nat := kMx X.2.2.2.1.1 X.2.1 X.2.2.1 X.2.2.2.2
abbrev kCX (X : rS) (ro : Nat) : Nat := kCx X.2.2.2.1.1 X.2.1 X.2.2.1 X.2.2.2.2 ro
abbrev kFX (X : rS) (ro : Nat) : Nat → Int32 := kFx X.2.2.2.1.1 X.2.1 X.2.2.1 X.2.2.2.2 ro
theorem kCan_L {X : rS} {i : Nat} (h : i < 8) : ¬ kCan X i = 0 ↔ (kS1 X.2.2.2.1.1 X.2.1 kF0 0).2.2.testBit i = true := by
  unfold kCan
  rw [if_pos h]
  by_cases q : (kS1 X.2.2.2.1.1 X.2.1 kF0 0).2.2.testBit i = true
  · rw [if_pos q]; exact ⟨fun _ => q, fun _ => by decide⟩
  · rw [if_neg q]; exact ⟨fun h => absurd rfl h, fun h => absurd h q⟩
theorem kCan_F {X : rS} {i : Nat} : ¬ kCan X (8 + i) = 0 ↔ (kS2 X.2.2.2.1.1 X.2.1 X.2.2.1 kF0 0).2.2.testBit i = true := by
  unfold kCan
  rw [if_neg (by omega), show 8 + i - 8 = i by omega]
  by_cases q : (kS2 X.2.2.2.1.1 X.2.1 X.2.2.1 kF0 0).2.2.testBit i = true
  · rw [if_pos q]; exact ⟨fun _ => q, fun _ => by decide⟩
  · rw [if_neg q]; exact ⟨fun h => absurd rfl h, fun h => absurd h q⟩
theorem kMX_bit {X : rS} {i f : Nat} (hf : f < 8) : (kMX X i).testBit f = true ↔ (kS1 X.2.2.2.1.1 X.2.1 kF0 0).2.2.testBit i = true ∧ (kS2 X.2.2.2.1.1 X.2.1 X.2.2.1 kF0 0).2.2.testBit f = true ∧ X.2.2.2.2 i f = (-1 : Int32) := kMay_bit hf
theorem kCX_m (X : rS) (ro : Nat) : kCX X ro = min ro (kG (kMX X) 8 255) := kMC_G (kMX X) (fr := 0) (free := 255) ro (by decide) (by decide)
theorem kCX_y {X : rS} {ro : Nat} (h : ro ≤ kG (kMX X) 8 255) : ro = kCX X ro := by rw [kCX_m]; omega
theorem kCX_n {X : rS} {ro : Nat} (h : ¬ ro ≤ kG (kMX X) 8 255) : kG (kMX X) 8 255 = kCX X ro := by rw [kCX_m]; omega
theorem kpop_0 {x : Nat} (h : x < 256) (e : kpop x = 0) : x = 0 := by
  have h9 : ∀ x, x < 256 → kpop x = 0 → x = 0 := by decide +kernel
  exact h9 x h e
theorem kG_0 {M : Nat → Nat} (h : ∀ l f, f < 8 → ¬ (M l).testBit f = true) : ∀ n v, kG M n v = 0
  | 0, _ => rfl
  | n + 1, v => Nat.le_zero.mp (kGx_le (Nat.le_of_eq (kG_0 h n v)) 8 (fun f hf _ q => absurd q (h _ f hf)))
theorem kCX_0 {X : rS} {ro : Nat} (h : kOkR X) (e : kRc X.2.2.2.1.1 X.2.1 X.2.2.1 0 ≤ 0) : 0 = kCX X ro := by
  have h1 : kpop (kS1 X.2.2.2.1.1 X.2.1 kF0 0).2.2 = 0 := by unfold kRc at e; omega
  have h2 : (kS1 X.2.2.2.1.1 X.2.1 kF0 0).2.2 = 0 := kpop_0 (kLn_256 _ _ _ h.1.1) h1
  have h3 : kG (kMX X) 8 255 = 0 := kG_0 (fun l f hf q => by
    have := ((kMX_bit hf).mp q).1
    rw [h2, Nat.zero_testBit] at this
    cases this) 8 255
  rw [kCX_m, h3]
  omega
/-- the lowest that holds, looked for from seven down -/
def kLs9 (P : Nat → Bool) : Nat → Int32
  | 0 => (-1 : Int32)
  | q + 1 => if P (7 - q) = true then nI (7 - q) else kLs9 P q
theorem kLs9_y {P : Nat → Bool} {q : Nat} (h : P (7 - q) = true) : kLs9 P (q + 1) = nI (7 - q) := if_pos h
theorem kLs9_n {P : Nat → Bool} {q : Nat} (h : ¬ P (7 - q) = true) : kLs9 P (q + 1) = kLs9 P q := if_neg h
theorem kff1_p {P : Nat → Bool} {n : Nat} (h : kff1 P (n + 1) = n + 1) : kff1 P n = n ∧ ¬ P n = true := by
  have h9 := kff1_le P n
  unfold kff1 at h
  split at h
  · omega
  · split at h
    · omega
    · rename_i q1 q2; exact ⟨by omega, q2⟩
theorem kLs9_at {P : Nat → Bool} : ∀ n, n ≤ 8 → kff1 P n = n → kLs9 P 8 = kLs9 P (8 - n)
  | 0, _, _ => rfl
  | n + 1, hn, h => by
    obtain ⟨h1, h2⟩ := kff1_p h
    rw [kLs9_at n (by omega) h1, show 8 - n = (7 - n) + 1 by omega, kLs9_n (by rw [show 7 - (7 - n) = n by omega]; exact h2), show 8 - (n + 1) = 7 - n by omega]
theorem kff1_or (P : Nat → Bool) : ∀ n, (∃ i, i < n ∧ kff1 P i = i ∧ P i = true) ∨ kff1 P n = n
  | 0 => Or.inr rfl
  | n + 1 => by
    rcases kff1_or P n with ⟨i, hi, h⟩ | h
    · exact Or.inl ⟨i, by omega, h⟩
    · by_cases q : P n = true
      · exact Or.inl ⟨n, by omega, h, q⟩
      · exact Or.inr (kff1_miss h q)
theorem kLs9_8 (P : Nat → Bool) : kLs9 P 8 = if kff1 P 8 < 8 then nI (kff1 P 8) else (-1 : Int32) := by
  rcases kff1_or P 8 with ⟨i, hi, h, hp⟩ | h
  · rw [kff1_hit hi h hp, if_pos hi, kLs9_at i (by omega) h, show 8 - i = (7 - i) + 1 by omega, kLs9_y (by rw [show 7 - (7 - i) = i by omega]; exact hp), show 7 - (7 - i) = i by omega]
  · rw [h, if_neg (by omega), kLs9_at 8 (by omega) h]
    rfl
theorem kLs9_v {M : Nat → Nat} {l free due q : Nat} (h : q = 8) : kLs9 (kFP M l free due) q = kFFv M l free due := by
  rw [h, kLs9_8]
  rfl
theorem kFP_iff {M : Nat → Nat} {l free due g : Nat} (hl : l < 8) (hf : free < 256) : kFP M l free due g = true ↔ (M l).testBit g = true ∧ free.testBit g = true ∧ due - 1 ≤ kG M (7 - l) (kclr free g) := by
  have e : (¬ (M l &&& free &&& 2 ^ g = 0)) ↔ ((M l).testBit g = true ∧ free.testBit g = true) := by
    rw [kbit, Nat.testBit_and]
    cases (M l).testBit g <;> cases free.testBit g <;> decide
  unfold kFP
  rw [decide_eq_true_eq, e, kMC_G M (due - 1) (by omega) (kclr_lt hf), show 8 - (l + 1) = 7 - l by omega]
  constructor
  · rintro ⟨⟨a, b⟩, h⟩; exact ⟨a, b, by omega⟩
  · rintro ⟨a, b, h⟩; exact ⟨⟨a, b⟩, by omega⟩
theorem kuu {f : Nat → Int32} {i j : Nat} {y z : Int32} : upd (upd f i y) i z j = upd f i z j := by
  unfold upd
  split <;> rfl
theorem kVv_i {M : Nat → Nat} {i v : Nat} (hi : i < 8) (hv : v < 256) : kVv M (256 * (i + 1) + v) = nI (kG M (7 - i) v) := by
  have h := kVv_at (M := M) (q := 7 - i) (v := v) (by omega) hv
  rw [show 8 - (7 - i) = i + 1 by omega] at h
  exact h
theorem kup0 {f : Nat → Int32} {j : Nat} : upd f 0 (f 0 - nI 0) j = f j := by
  unfold upd
  split
  · rename_i h; rw [h]; exact Int32.sub_zero _
  · rfl
theorem kFX_of {X : rS} {ro i j : Nat} {fo : Nat → Int32} (h : i = 8) (hj : j < 8) : (kCh (kMX X) (kCX X ro) fo i).2.2 j = kFX X ro j := by
  rw [h]
  have h9 := (kCh_g (kMX X) (kCX X ro) fo (fun _ => nI 0) 8).2.2 j hj
  rw [h9]
  unfold kFX kFx
  rfl
