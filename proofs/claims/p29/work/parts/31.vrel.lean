/-! p29: the second hall holds each guest of the first at the odd places, a guest without tokens ahead of each -/
def vG (g h : rG) : Prop := g.2.2.2.2.2 ≤ 4 ∧ h.2.2.2.2.2 = 2 * g.2.2.2.2.2 ∧ ∀ k, k < g.2.2.2.2.2 → h.1 (2 * k) = nI 0 ∧ h.1 (2 * k + 1) = g.1 k ∧ h.2.1 (2 * k + 1) = g.2.1 k ∧ h.2.2.1 (2 * k + 1) = g.2.2.1 k ∧ h.2.2.2.1 (2 * k + 1) = g.2.2.2.1 k ∧ h.2.2.2.2.1 (2 * k + 1) = g.2.2.2.2.1 k
def vDD (d e : Nat → Nat → Int32) : Prop := (∀ l f, l < 4 → f < 4 → e (2 * l + 1) (2 * f + 1) = d l f ∧ e (2 * l + 1) (2 * f) = (-1 : Int32)) ∧ ∀ l f, l < 4 → f < 8 → e (2 * l) f = (-1 : Int32)
/-- bits at the odd places -/
def vS (r : Nat) : Nat := 2 * (r % 2) + 8 * (r / 2 % 2) + 32 * (r / 4 % 2) + 128 * (r / 8 % 2)
theorem vS_or {r k : Nat} (hr : r < 16) (hk : k < 4) : vS (r ||| 2 ^ k) = vS r ||| 2 ^ (2 * k + 1) := by
  have h9 : ∀ k, k < 4 → ∀ r, r < 16 → vS (r ||| 2 ^ k) = vS r ||| 2 ^ (2 * k + 1) := by decide +kernel
  exact h9 k hk r hr
theorem vS_bit {r j : Nat} (hr : r < 16) (hj : j < 4) : (vS r).testBit (2 * j + 1) = r.testBit j ∧ (vS r).testBit (2 * j) = false := by
  have h9 : ∀ j, j < 4 → ∀ r, r < 16 → (vS r).testBit (2 * j + 1) = r.testBit j ∧ (vS r).testBit (2 * j) = false := by decide +kernel
  exact h9 j hj r hr
theorem vS_pop {r : Nat} (hr : r < 16) : kpop (vS r) = kpop r := by
  have h9 : ∀ r, r < 16 → kpop (vS r) = kpop r := by decide +kernel
  exact h9 r hr
theorem vS_0 : vS 0 = 0 := by decide
theorem vLn {g h : rG} (hv : vG g h) {l n n' : Nat → Int32} : ∀ k, k ≤ g.2.2.2.2.2 → (kLn h l n' (2 * k)).1 = (kLn g l n k).1 ∧ (kLn h l n' (2 * k)).2.2 = vS (kLn g l n k).2.2 ∧ ∀ j, j < k → (kLn h l n' (2 * k)).2.1 (2 * j + 1) = (kLn g l n k).2.1 j
  | 0, _ => ⟨rfl, vS_0.symm, fun j hj => absurd hj (Nat.not_lt_zero j)⟩
  | k + 1, hk => by
    obtain ⟨i1, i2, i3⟩ := vLn hv (l := l) (n := n) (n' := n') k (by omega)
    obtain ⟨h4, -, hq⟩ := hv
    obtain ⟨e0, e1, e2, e3, e4, e5⟩ := hq k (by omega)
    have hw0 : ¬ kWants h (2 * k) := fun q => q.2 (by rw [e0]; decide)
    have hA : kLn h l n' (2 * k + 1) = ((kLn h l n' (2 * k)).1, upd (kLn h l n' (2 * k)).2.1 (2 * k) (nI 0), (kLn h l n' (2 * k)).2.2) := kLn_n hw0
    have hlt : (kLn g l n k).2.2 < 16 := Nat.lt_of_lt_of_le (kLn_lt g l n k) (kpow_le (n := 4) (by omega))
    have hz : kz9 h (2 * k + 1) = kz9 g k := by unfold kz9; rw [e2]
    show (kLs h (2 * k + 1) (kLn h l n' (2 * k + 1))).1 = (kLs g k (kLn g l n k)).1 ∧ (kLs h (2 * k + 1) (kLn h l n' (2 * k + 1))).2.2 = vS (kLs g k (kLn g l n k)).2.2 ∧ ∀ j, j < k + 1 → (kLs h (2 * k + 1) (kLn h l n' (2 * k + 1))).2.1 (2 * j + 1) = (kLs g k (kLn g l n k)).2.1 j
    rw [hA]
    generalize kLn h l n' (2 * k) = a at i1 i2 i3 ⊢
    generalize kLn g l n k = b at i1 i2 i3 hlt ⊢
    obtain ⟨a1, a2, a3⟩ := a
    obtain ⟨b1, b2, b3⟩ := b
    dsimp only at i1 i2 i3 hlt
    subst i1 i2
    dsimp only
    have hu : ∀ (x : Int32) (j : Nat), j < k + 1 → upd (upd a2 (2 * k) (nI 0)) (2 * k + 1) x (2 * j + 1) = upd b2 k x j := by
      intro x j hj
      by_cases e : j = k
      · rw [e, pk_us, pk_us]
      · rw [pk_un (by omega), pk_un (by omega), pk_un e]
        exact i3 j (by omega)
    have ho := vS_or (r := b3) (k := k) hlt (by omega)
    by_cases w : kWants g k
    · have w' : kWants h (2 * k + 1) := ⟨by rw [e4]; exact w.1, by rw [e1]; exact w.2⟩
      by_cases o : g.2.2.1 k = 0
      · have o' : h.2.2.1 (2 * k + 1) = 0 := by rw [e3]; exact o
        unfold kLs
        rw [if_pos w, if_pos w', if_pos o, if_pos o', hz]
        refine ⟨rfl, ?_, fun j hj => hu _ j hj⟩
        by_cases p : kPairV a1 (kz9 g k) = 0
        · show (if kPairV a1 (kz9 g k) = 0 then _ else _) = vS (if kPairV a1 (kz9 g k) = 0 then _ else _)
          rw [if_pos p, if_pos p]
        · show (if kPairV a1 (kz9 g k) = 0 then _ else _) = vS (if kPairV a1 (kz9 g k) = 0 then _ else _)
          rw [if_neg p, if_neg p]
          exact ho.symm
      · have o' : ¬ h.2.2.1 (2 * k + 1) = 0 := by rw [e3]; exact o
        unfold kLs
        rw [if_pos w, if_pos w', if_neg o, if_neg o']
        exact ⟨rfl, ho.symm, fun j hj => hu _ j hj⟩
    · have w' : ¬ kWants h (2 * k + 1) := fun q => w ⟨by rw [← e4]; exact q.1, by rw [← e1]; exact q.2⟩
      unfold kLs
      rw [if_neg w, if_neg w']
      exact ⟨rfl, rfl, fun j hj => hu _ j hj⟩
section VL
variable {L F L' F' : rG} (p : Nat → Int32)
theorem vS1 (hL : vG L L') (x : Nat) : (kS1 p L' kF0 x).1 = (kS1 p L kF0 x).1 ∧ (kS1 p L' kF0 x).2.2 = vS (kS1 p L kF0 x).2.2 ∧ ∀ j, j < L.2.2.2.2.2 → (kS1 p L' kF0 x).2.1 (2 * j + 1) = (kS1 p L kF0 x).2.1 j := by
  have h := vLn hL (l := kLe p kF0.1 x 10) (n := kF0.2.2.1) (n' := kF0.2.2.1) _ (Nat.le_refl _)
  rw [← hL.2.1] at h
  exact h
theorem vS2 (hL : vG L L') (hF : vG F F') (x : Nat) : (kS2 p L' F' kF0 x).1 = (kS2 p L F kF0 x).1 ∧ (kS2 p L' F' kF0 x).2.2 = vS (kS2 p L F kF0 x).2.2 ∧ ∀ j, j < F.2.2.2.2.2 → (kS2 p L' F' kF0 x).2.1 (2 * j + 1) = (kS2 p L F kF0 x).2.1 j := by
  have h := vLn hF (l := (kS1 p L kF0 x).1) (n := kF0.2.2.2.1) (n' := kF0.2.2.2.1) _ (Nat.le_refl _)
  rw [← hF.2.1] at h
  unfold kS2
  rw [(vS1 p hL x).1]
  exact h
theorem vS1_lt (hL : L.2.2.2.2.2 ≤ 4) (x : Nat) : (kS1 p L kF0 x).2.2 < 16 := Nat.lt_of_lt_of_le (kLn_lt L _ _ _) (kpow_le (n := 4) hL)
theorem vS2_lt (hF : F.2.2.2.2.2 ≤ 4) (x : Nat) : (kS2 p L F kF0 x).2.2 < 16 := Nat.lt_of_lt_of_le (kLn_lt F _ _ _) (kpow_le (n := 4) hF)
theorem vRc (hL : vG L L') (hF : vG F F') (x : Nat) : kRc p L' F' x = kRc p L F x := by
  unfold kRc
  rw [(vS1 p hL x).2.1, (vS2 p hL hF x).2.1, vS_pop (vS1_lt p hL.1 x), vS_pop (vS2_lt p hF.1 x)]
theorem vBest (hL : vG L L') (hF : vG F F') : ∀ q, kBest p L' F' q = kBest p L F q
  | 0 => by
    show (kRc p L' F' 0, (-1 : Int32)) = (kRc p L F 0, (-1 : Int32))
    rw [vRc p hL hF]
  | q + 1 => by
    have ih := vBest hL hF q
    unfold kBest
    rw [ih, vRc p hL hF]
theorem vLf (hL : vG L L') (hF : vG F F') : kLf p L' F' = kLf p L F := (vS2 p hL hF 0).1
/-- a leader's facts -/
theorem vGL {d d' : Nat → Nat → Int32} (hL : vG L L') {i : Nat} (hi : i < L.2.2.2.2.2) (hk : kcnt (d' (2 * i + 1)) 8 = kcnt (d i) 8) : ∀ w, w ≤ 7 → kGL p L' d' (2 * i + 1) w = kGL p L d i w := by
  obtain ⟨s1, s2, s3⟩ := vS1 p hL 0
  obtain ⟨-, e1, e2, e3, e4, e5⟩ := hL.2.2 i hi
  have hb := vS_bit (vS1_lt p hL.1 0) (show i < 4 by have := hL.1; omega)
  intro w hw
  unfold kGL
  rcases (show w = 0 ∨ w = 1 ∨ w = 2 ∨ w = 3 ∨ w = 4 ∨ w = 5 ∨ w = 6 ∨ w = 7 by omega) with rfl | rfl | rfl | rfl | rfl | rfl | rfl | rfl
  · exact e1
  · exact e2
  · exact e3
  · exact e4
  · show (if ¬ ((kS1 p L' kF0 0).2.2 / 2 ^ (2 * i + 1) &&& 1 = 0) then nI 1 else nI 0) = (if ¬ ((kS1 p L kF0 0).2.2 / 2 ^ i &&& 1 = 0) then nI 1 else nI 0)
    rw [s2]
    by_cases q : (kS1 p L kF0 0).2.2.testBit i = true
    · rw [if_pos (kbit1.mpr q), if_pos (kbit1.mpr (by rw [hb.1]; exact q))]
    · rw [if_neg (fun h => q (kbit1.mp h)), if_neg (fun h => q (by rw [← hb.1]; exact kbit1.mp h))]
  · exact s3 i hi
  · show nI (kcnt (d' (2 * i + 1)) 8) = nI (kcnt (d i) 8)
    rw [hk]
  · exact e5
theorem vGO {d d' : Nat → Nat → Int32} (hL : vG L L') (hF : vG F F') {i : Nat} (hi : i < F.2.2.2.2.2) (hk : kcnt (fun q => d' q (2 * i + 1)) 8 = kcnt (fun q => d q i) 8) : ∀ w, w ≤ 7 → kGO p L' F' d' (2 * i + 1) w = kGO p L F d i w := by
  obtain ⟨s1, s2, s3⟩ := vS2 p hL hF 0
  obtain ⟨-, e1, e2, e3, e4, e5⟩ := hF.2.2 i hi
  have hb := vS_bit (vS2_lt (L := L) p hF.1 0) (show i < 4 by have := hF.1; omega)
  intro w hw
  unfold kGO
  rcases (show w = 0 ∨ w = 1 ∨ w = 2 ∨ w = 3 ∨ w = 4 ∨ w = 5 ∨ w = 6 ∨ w = 7 by omega) with rfl | rfl | rfl | rfl | rfl | rfl | rfl | rfl
  · exact e1
  · exact e2
  · exact e3
  · exact e4
  · show (if ¬ ((kS2 p L' F' kF0 0).2.2 / 2 ^ (2 * i + 1) &&& 1 = 0) then nI 1 else nI 0) = (if ¬ ((kS2 p L F kF0 0).2.2 / 2 ^ i &&& 1 = 0) then nI 1 else nI 0)
    rw [s2]
    by_cases q : (kS2 p L F kF0 0).2.2.testBit i = true
    · rw [if_pos (kbit1.mpr q), if_pos (kbit1.mpr (by rw [hb.1]; exact q))]
    · rw [if_neg (fun h => q (kbit1.mp h)), if_neg (fun h => q (by rw [← hb.1]; exact kbit1.mp h))]
  · exact s3 i hi
  · show nI (kcnt (fun q => d' q (2 * i + 1)) 8) = nI (kcnt (fun q => d q i) 8)
    rw [hk]
  · exact e5
/-- the others can't dance -/
theorem vGL0 {d d' : Nat → Nat → Int32} (hL : vG L L') {i : Nat} (hi : i < 4) : kGL p L' d' (2 * i) 4 = nI 0 := by
  obtain ⟨s1, s2, s3⟩ := vS1 p hL 0
  have hb := vS_bit (vS1_lt p hL.1 0) hi
  show (if ¬ ((kS1 p L' kF0 0).2.2 / 2 ^ (2 * i) &&& 1 = 0) then nI 1 else nI 0) = nI 0
  rw [s2, if_neg (fun h => by have := kbit1.mp h; rw [hb.2] at this; cases this)]
theorem vGO0 {d d' : Nat → Nat → Int32} (hL : vG L L') (hF : vG F F') {i : Nat} (hi : i < 4) : kGO p L' F' d' (2 * i) 4 = nI 0 := by
  obtain ⟨s1, s2, s3⟩ := vS2 p hL hF 0
  have hb := vS_bit (vS2_lt (L := L) p hF.1 0) hi
  show (if ¬ ((kS2 p L' F' kF0 0).2.2 / 2 ^ (2 * i) &&& 1 = 0) then nI 1 else nI 0) = nI 0
  rw [s2, if_neg (fun h => by have := kbit1.mp h; rw [hb.2] at this; cases this)]
end VL
/-! who may dance with whom -/
def vM (M M' : Nat → Nat) : Prop := (∀ l f, l < 4 → f < 4 → (M' (2 * l + 1)).testBit (2 * f + 1) = (M l).testBit f) ∧ (∀ l f, l < 4 → f < 4 → (M' (2 * l + 1)).testBit (2 * f) = false) ∧ (∀ l f, l < 4 → f < 8 → (M' (2 * l)).testBit f = false) ∧ (∀ l f, l < 8 → f < 8 → 4 ≤ l ∨ 4 ≤ f → (M l).testBit f = false)
theorem vlt_bit {r j : Nat} (hr : r < 16) (hj : 4 ≤ j) : r.testBit j = false := Nat.testBit_lt_two_pow (Nat.lt_of_lt_of_le hr (kpow_le (i := 4) hj))
theorem vMx {L F L' F' : rG} (p : Nat → Int32) {d d' : Nat → Nat → Int32} (hL : vG L L') (hF : vG F F') (hd : vDD d d') : vM (kMx p L F d) (kMx p L' F' d') := by
  have h1 := vS1_lt p hL.1 0
  have h2 := vS2_lt (L := L) p hF.1 0
  have e1 := (vS1 p hL 0).2.1
  have e2 := (vS2 p hL hF 0).2.1
  unfold kMx kM
  rw [e1, e2]
  generalize (kS1 p L kF0 0).2.2 = r1 at h1
  generalize (kS2 p L F kF0 0).2.2 = r2 at h2
  refine ⟨fun l f hl hf => ?_, fun l f hl hf => ?_, fun l f hl hf => ?_, fun l f hl hf h => ?_⟩
  · apply Bool.eq_iff_iff.mpr
    rw [kMay_bit (by omega), kMay_bit (by omega), (vS_bit h1 hl).1, (vS_bit h2 hf).1, (hd.1 l f hl hf).1]
  · apply Bool.eq_false_iff.mpr
    intro q
    have := (kMay_bit (by omega)).mp q
    rw [(vS_bit h2 hf).2] at this
    exact Bool.false_ne_true this.2.1
  · apply Bool.eq_false_iff.mpr
    intro q
    have := (kMay_bit hf).mp q
    rw [(vS_bit h1 hl).2] at this
    exact Bool.false_ne_true this.1
  · apply Bool.eq_false_iff.mpr
    intro q
    have := (kMay_bit hf).mp q
    rcases h with h | h
    · rw [vlt_bit h1 h] at this
      exact Bool.false_ne_true this.1
    · rw [vlt_bit h2 h] at this
      exact Bool.false_ne_true this.2.1
/-! the search of the most couples, at the odd places -/
def vU (u u' : Nat) : Prop := ∀ g, g < 4 → u'.testBit (2 * g + 1) = u.testBit g
def vLo (lo lo' : Nat → Int32) : Prop := ∀ g, g < 4 → (lo g = (-1 : Int32) ∧ lo' (2 * g + 1) = (-1 : Int32)) ∨ ∃ l, l < 4 ∧ lo g = nI l ∧ lo' (2 * g + 1) = nI (2 * l + 1)
def vPS (s s' : kPS) : Prop := s'.1 = s.1 ∧ vU s.2.1 s'.2.1 ∧ vLo s.2.2 s'.2.2
theorem vU_clr {u u' g : Nat} (h : vU u u') (hg : g < 4) : vU (kclr u g) (kclr u' (2 * g + 1)) := fun j hj => Bool.eq_iff_iff.mpr (by
  rw [kbclr (by omega) (by omega), kbclr (by omega) (by omega), h j hj]
  constructor
  · intro ⟨a, b⟩; exact ⟨a, by omega⟩
  · intro ⟨a, b⟩; exact ⟨a, by omega⟩)
theorem vLo_upd {lo lo' : Nat → Int32} (h : vLo lo lo') {l n : Nat} (hl : l < 4) : vLo (upd lo n (nI l)) (upd lo' (2 * n + 1) (nI (2 * l + 1))) := by
  intro g hg
  by_cases e : g = n
  · exact Or.inr ⟨l, hl, by rw [e, pk_us], by rw [e, pk_us]⟩
  · rw [pk_un e, pk_un (by omega)]
    exact h g hg
theorem vbit (m u g : Nat) : (m &&& u &&& 2 ^ g = 0) ↔ ¬ (m.testBit g = true ∧ u.testBit g = true) := by
  rw [kbit, Nat.testBit_and]
  cases m.testBit g <;> cases u.testBit g <;> simp
theorem vbit0 {m u g : Nat} (h : m.testBit g = false) : m &&& u &&& 2 ^ g = 0 := (vbit m u g).mpr (fun q => by rw [h] at q; exact Bool.false_ne_true q.1)
theorem vStep0 {M : Nat → Nat} {l g : Nat} {rec : Nat → Nat × (Nat → Int32) → kPS} {s : kPS} (hM : (M l).testBit g = false) : kStep M l rec g s = s := by
  unfold kStep
  by_cases q : s.1 = true
  · rw [if_pos q]
  · rw [if_neg q, if_pos (vbit0 hM)]
section VK
variable {M M' : Nat → Nat}
theorem vStep1 (hM : vM M M') {l n : Nat} (hl : l < 4) (hn : n < 4) {rec rec' : Nat → Nat × (Nat → Int32) → kPS} (hrec : ∀ l u u' lo lo', l < 4 → vU u u' → vLo lo lo' → vPS (rec l (u, lo)) (rec' (2 * l + 1) (u', lo'))) {s s' : kPS} (h : vPS s s') : vPS (kStep M l rec n s) (kStep M' (2 * l + 1) rec' (2 * n + 1) s') := by
  obtain ⟨c, u, lo⟩ := s
  obtain ⟨c', u', lo'⟩ := s'
  obtain ⟨h1, h2, h3⟩ := h
  dsimp only at h1 h2 h3
  subst h1
  have hb : (M' (2 * l + 1) &&& u' &&& 2 ^ (2 * n + 1) = 0) ↔ (M l &&& u &&& 2 ^ n = 0) := by rw [vbit, vbit, hM.1 l n hl hn, h2 n hn]
  unfold kStep
  dsimp only
  by_cases q1 : c' = true
  · rw [if_pos q1, if_pos q1]
    exact ⟨rfl, h2, h3⟩
  · rw [if_neg q1, if_neg q1]
    by_cases q2 : M l &&& u &&& 2 ^ n = 0
    · rw [if_pos q2, if_pos (hb.mpr q2)]
      exact ⟨rfl, h2, h3⟩
    · rw [if_neg q2, if_neg (fun h => q2 (hb.mp h))]
      rcases h3 n hn with ⟨a, b⟩ | ⟨m, hm, a, b⟩
      · rw [if_pos a, if_pos b]
        exact ⟨rfl, vU_clr h2 hn, vLo_upd h3 hl⟩
      · have na : ¬ lo n = (-1 : Int32) := by rw [a]; exact nI_ne1 (by omega)
        have nb : ¬ lo' (2 * n + 1) = (-1 : Int32) := by rw [b]; exact nI_ne1 (by omega)
        have ca : (lo n).toNatClampNeg = m := by rw [a, nI_clamp (by omega)]
        have cb : (lo' (2 * n + 1)).toNatClampNeg = 2 * m + 1 := by rw [b, nI_clamp (by omega)]
        rw [if_neg na, if_neg nb, ca, cb]
        have r := hrec m _ _ _ _ hm (vU_clr h2 hn) h3
        generalize rec m (kclr u n, lo) = t at r ⊢
        generalize rec' (2 * m + 1) (kclr u' (2 * n + 1), lo') = t' at r ⊢
        obtain ⟨r1, r2, r3⟩ := r
        by_cases q3 : t.1 = true
        · rw [if_pos q3, if_pos (r1.trans q3)]
          exact ⟨rfl, r2, vLo_upd r3 hl⟩
        · rw [if_neg q3, if_neg (fun h => q3 (r1.symm.trans h))]
          exact ⟨rfl, r2, r3⟩
theorem vPl (hM : vM M M') : ∀ (d l u u' : Nat) (lo lo' : Nat → Int32), l < 4 → vU u u' → vLo lo lo' → vPS (kPl M d l (u, lo)) (kPl M' d (2 * l + 1) (u', lo'))
  | 0, _, _, _, _, _, _, hu, hlo => ⟨rfl, hu, hlo⟩
  | d + 1, l, u, u', lo, lo', hl, hu, hlo => by
    have K : ∀ n, n ≤ 4 → vPS (kFold (kStep M l (kPl M d)) n (false, u, lo)) (kFold (kStep M' (2 * l + 1) (kPl M' d)) (2 * n) (false, u', lo')) := by
      intro n
      induction n with
      | zero => intro _; exact ⟨rfl, hu, hlo⟩
      | succ n ih =>
        intro hn
        have ih := ih (by omega)
        show vPS (kStep M l (kPl M d) n (kFold (kStep M l (kPl M d)) n (false, u, lo))) (kStep M' (2 * l + 1) (kPl M' d) (2 * n + 1) (kStep M' (2 * l + 1) (kPl M' d) (2 * n) (kFold (kStep M' (2 * l + 1) (kPl M' d)) (2 * n) (false, u', lo'))))
        rw [vStep0 (hM.2.1 l n hl (by omega))]
        exact vStep1 hM hl (by omega) (fun l u u' lo lo' a b c => vPl hM d l u u' lo lo' a b c) ih
    have Z : ∀ k, k ≤ 4 → kFold (kStep M l (kPl M d)) (4 + k) (false, u, lo) = kFold (kStep M l (kPl M d)) 4 (false, u, lo) := by
      intro k
      induction k with
      | zero => intro _; rfl
      | succ k ih =>
        intro hk
        show kStep M l (kPl M d) (4 + k) (kFold (kStep M l (kPl M d)) (4 + k) (false, u, lo)) = _
        rw [ih (by omega)]
        exact vStep0 (hM.2.2.2 l (4 + k) (by omega) (by omega) (Or.inr (by omega)))
    have e : kPl M (d + 1) l (u, lo) = kFold (kStep M l (kPl M d)) 4 (false, u, lo) := Z 4 (Nat.le_refl 4)
    rw [e]
    exact K 4 (Nat.le_refl 4)
theorem kPl_0 {l : Nat} (h : ∀ f, f < 8 → (M l).testBit f = false) : ∀ (d : Nat) (s : Nat × (Nat → Int32)), kPl M d l s = (false, s)
  | 0, _ => rfl
  | d + 1, s => by
    have K : ∀ n, n ≤ 8 → kFold (kStep M l (kPl M d)) n (false, s) = (false, s) := by
      intro n
      induction n with
      | zero => intro _; rfl
      | succ n ih =>
        intro hn
        show kStep M l (kPl M d) n (kFold (kStep M l (kPl M d)) n (false, s)) = _
        rw [ih (by omega)]
        exact vStep0 (h n (by omega))
    exact K 8 (Nat.le_refl 8)
def vMs (M : Nat → Nat) (l free en : Nat) (x : Nat × (Nat → Int32)) : Nat × (Nat → Int32) := if x.1 < en then (x.1 + (if (kPl M 8 l (free, x.2)).1 = true then 1 else 0), (kPl M 8 l (free, x.2)).2.2) else x
theorem kMCs_s (M : Nat → Nat) (fr free en k : Nat) : kMCs M fr free en (k + 1) = vMs M (fr + k) free en (kMCs M fr free en k) := rfl
theorem kMCs_z {fr free en k : Nat} (h : ∀ f, f < 8 → (M (fr + k)).testBit f = false) : kMCs M fr free en (k + 1) = kMCs M fr free en k := by
  rw [kMCs_s]
  unfold vMs
  rw [kPl_0 h]
  split
  · rfl
  · rfl
theorem vMs_ok (hM : vM M M') {l free free' en : Nat} (hl : l < 4) (hu : vU free free') {x x' : Nat × (Nat → Int32)} (h1 : x'.1 = x.1) (h2 : vLo x.2 x'.2) : (vMs M' (2 * l + 1) free' en x').1 = (vMs M l free en x).1 ∧ vLo (vMs M l free en x).2 (vMs M' (2 * l + 1) free' en x').2 := by
  have p := vPl hM 8 l free free' x.2 x'.2 hl hu h2
  unfold vMs
  generalize kPl M 8 l (free, x.2) = t at p ⊢
  generalize kPl M' 8 (2 * l + 1) (free', x'.2) = t' at p ⊢
  obtain ⟨p1, p2, p3⟩ := p
  rw [h1, p1]
  by_cases q : x.1 < en
  · rw [if_pos q, if_pos q]
    exact ⟨rfl, p3⟩
  · rw [if_neg q, if_neg q]
    exact ⟨h1, h2⟩
theorem vMCs (hM : vM M M') {fr free free' en : Nat} (hu : vU free free') : ∀ k, fr + k ≤ 4 → (kMCs M' (2 * fr) free' en (2 * k)).1 = (kMCs M fr free en k).1 ∧ vLo (kMCs M fr free en k).2 (kMCs M' (2 * fr) free' en (2 * k)).2
  | 0, _ => ⟨rfl, fun _ _ => Or.inl ⟨rfl, rfl⟩⟩
  | k + 1, hk => by
    obtain ⟨i1, i2⟩ := vMCs hM (fr := fr) (en := en) hu k (by omega)
    have e1 : kMCs M' (2 * fr) free' en (2 * k + 1) = kMCs M' (2 * fr) free' en (2 * k) := kMCs_z (by
      rw [show 2 * fr + 2 * k = 2 * (fr + k) by omega]
      exact fun f hf => hM.2.2.1 (fr + k) f (by omega) hf)
    have e2 : kMCs M' (2 * fr) free' en (2 * (k + 1)) = vMs M' (2 * fr + (2 * k + 1)) free' en (kMCs M' (2 * fr) free' en (2 * k + 1)) := kMCs_s M' (2 * fr) free' en (2 * k + 1)
    rw [e2, e1, kMCs_s, show 2 * fr + (2 * k + 1) = 2 * (fr + k) + 1 by omega]
    exact vMs_ok hM (by omega) hu i1 i2
theorem vMC (hM : vM M M') {fr free free' en : Nat} (hu : vU free free') (hfr : fr ≤ 4) : kMC M' (2 * fr) free' en = kMC M fr free en := by
  have Z : ∀ j, j ≤ 4 → kMCs M fr free en (4 - fr + j) = kMCs M fr free en (4 - fr) := by
    intro j
    induction j with
    | zero => intro _; rfl
    | succ j ih =>
      intro hj
      have e : kMCs M fr free en (4 - fr + j + 1) = kMCs M fr free en (4 - fr + j) := kMCs_z (fun f hf => hM.2.2.2 (fr + (4 - fr + j)) f (by omega) hf (Or.inl (by omega)))
      exact e.trans (ih (by omega))
  have h := (vMCs hM (en := en) (fr := fr) hu (4 - fr) (by omega)).1
  have z := Z 4 (Nat.le_refl 4)
  unfold kMC
  rw [show 8 - fr = 4 - fr + 4 by omega, z, show 8 - 2 * fr = 2 * (4 - fr) by omega]
  exact h
theorem vFP0 {l free due g : Nat} (h : (M l).testBit g = false) : kFP M l free due g = false := decide_eq_false (fun q => q.1 (vbit0 h))
theorem vFP1 (hM : vM M M') {l free free' due g : Nat} (hl : l < 4) (hg : g < 4) (hu : vU free free') : kFP M' (2 * l + 1) free' due (2 * g + 1) = kFP M l free due g := by
  have e := vMC hM (fr := l + 1) (en := due - 1) (vU_clr hu hg) (by omega)
  have hb : (M' (2 * l + 1) &&& free' &&& 2 ^ (2 * g + 1) = 0) ↔ (M l &&& free &&& 2 ^ g = 0) := by rw [vbit, vbit, hM.1 l g hl hg, hu g hg]
  unfold kFP
  rw [show 2 * l + 1 + 1 = 2 * (l + 1) by omega, e]
  exact decide_eq_decide.mpr (by rw [hb])
end VK
theorem vff {P P' : Nat → Bool} (h0 : ∀ n, n < 4 → P' (2 * n) = false) (h1 : ∀ n, n < 4 → P' (2 * n + 1) = P n) : ∀ n, n ≤ 4 → (kff1 P n < n ∧ kff1 P' (2 * n) = 2 * kff1 P n + 1) ∨ (kff1 P n = n ∧ kff1 P' (2 * n) = 2 * n)
  | 0, _ => Or.inr ⟨rfl, rfl⟩
  | n + 1, hn => by
    have a1 : kff1 P' (2 * n + 1) = if kff1 P' (2 * n) < 2 * n then kff1 P' (2 * n) else if P' (2 * n) = true then 2 * n else 2 * n + 1 := rfl
    have a2 : kff1 P' (2 * (n + 1)) = if kff1 P' (2 * n + 1) < 2 * n + 1 then kff1 P' (2 * n + 1) else if P' (2 * n + 1) = true then 2 * n + 1 else 2 * n + 1 + 1 := rfl
    have a3 : kff1 P (n + 1) = if kff1 P n < n then kff1 P n else if P n = true then n else n + 1 := rfl
    rcases vff h0 h1 n (by omega) with ⟨q1, q2⟩ | ⟨q1, q2⟩
    · rw [q2, if_pos (by omega)] at a1
      rw [a1, if_pos (by omega)] at a2
      rw [if_pos q1] at a3
      exact Or.inl ⟨by omega, by rw [a2, a3]⟩
    · rw [q2, if_neg (by omega), h0 n (by omega), if_neg Bool.false_ne_true] at a1
      rw [a1, if_neg (by omega), h1 n (by omega)] at a2
      rw [if_neg (by omega)] at a3
      by_cases p : P n = true
      · rw [if_pos p] at a2 a3
        exact Or.inl ⟨by omega, by omega⟩
      · rw [if_neg p] at a2 a3
        exact Or.inr ⟨by omega, by omega⟩
theorem vff8 {P : Nat → Bool} (hz : ∀ n, 4 ≤ n → n < 8 → P n = false) : (kff1 P 4 < 4 ∧ kff1 P 8 = kff1 P 4) ∨ (kff1 P 4 = 4 ∧ kff1 P 8 = 8) := by
  have K : ∀ j, j ≤ 4 → (kff1 P 4 < 4 ∧ kff1 P (4 + j) = kff1 P 4) ∨ (kff1 P 4 = 4 ∧ kff1 P (4 + j) = 4 + j) := by
    intro j
    induction j with
    | zero =>
      intro _
      have := kff1_le P 4
      rcases Nat.lt_or_ge (kff1 P 4) 4 with h | h
      · exact Or.inl ⟨h, rfl⟩
      · exact Or.inr ⟨by omega, by show kff1 P 4 = 4; omega⟩
    | succ j ih =>
      intro hj
      have a3 : kff1 P (4 + (j + 1)) = if kff1 P (4 + j) < 4 + j then kff1 P (4 + j) else if P (4 + j) = true then 4 + j else 4 + j + 1 := rfl
      rcases ih (by omega) with ⟨q1, q2⟩ | ⟨q1, q2⟩
      · rw [q2, if_pos (by omega)] at a3
        exact Or.inl ⟨q1, a3⟩
      · rw [q2, if_neg (by omega), hz (4 + j) (by omega) (by omega), if_neg Bool.false_ne_true] at a3
        exact Or.inr ⟨q1, a3⟩
  exact K 4 (Nat.le_refl 4)
theorem vff0 {P : Nat → Bool} : ∀ {n : Nat}, (∀ i, i < n → P i = false) → kff1 P n = n
  | 0, _ => rfl
  | n + 1, h => by
    have ih := vff0 (P := P) (n := n) (fun i hi => h i (by omega))
    have a3 : kff1 P (n + 1) = if kff1 P n < n then kff1 P n else if P n = true then n else n + 1 := rfl
    rw [ih, if_neg (by omega), h n (by omega), if_neg Bool.false_ne_true] at a3
    exact a3
section VC
variable {M M' : Nat → Nat}
theorem vFF (hM : vM M M') {l free free' due : Nat} (hl : l < 4) (hu : vU free free') : (kFF M l free due < 4 ∧ kFF M' (2 * l + 1) free' due = 2 * kFF M l free due + 1) ∨ (kFF M l free due = 8 ∧ kFF M' (2 * l + 1) free' due = 8) := by
  have a := vff (P := kFP M l free due) (P' := kFP M' (2 * l + 1) free' due) (fun n hn => vFP0 (hM.2.1 l n hl hn)) (fun n hn => vFP1 hM hl hn hu) 4 (Nat.le_refl 4)
  have b := vff8 (P := kFP M l free due) (fun n h4 h8 => vFP0 (hM.2.2.2 l n (by omega) h8 (Or.inr h4)))
  unfold kFF
  generalize kFP M l free due = P at a b ⊢
  generalize kFP M' (2 * l + 1) free' due = P' at a ⊢
  have a' : (kff1 P 4 < 4 ∧ kff1 P' 8 = 2 * kff1 P 4 + 1) ∨ (kff1 P 4 = 4 ∧ kff1 P' 8 = 8) := a
  omega
theorem vFFz {l free due : Nat} (h : ∀ f, f < 8 → (M l).testBit f = false) : kFF M l free due = 8 := vff0 (fun i hi => vFP0 (h i hi))
def vCs (M : Nat → Nat) (i : Nat) (x : Nat × Nat × (Nat → Int32)) : Nat × Nat × (Nat → Int32) := if 0 < x.1 ∧ kFF M i x.2.1 x.1 < 8 then (x.1 - 1, kclr x.2.1 (kFF M i x.2.1 x.1), upd x.2.2 i (nI (kFF M i x.2.1 x.1))) else (x.1, x.2.1, upd x.2.2 i (-1 : Int32))
theorem kCh_s (M : Nat → Nat) (c : Nat) (fo : Nat → Int32) (i : Nat) : kCh M c fo (i + 1) = vCs M i (kCh M c fo i) := rfl
theorem vCs_z {i : Nat} (h : ∀ f, f < 8 → (M i).testBit f = false) (x : Nat × Nat × (Nat → Int32)) : vCs M i x = (x.1, x.2.1, upd x.2.2 i (-1 : Int32)) := by
  unfold vCs
  rw [vFFz h, if_neg (fun q => absurd q.2 (by decide))]
/-- whom each leader dances with -/
def vFo (n : Nat) (fo fo' : Nat → Int32) : Prop := ∀ j, j < n → ((fo j = (-1 : Int32) ∧ fo' (2 * j + 1) = (-1 : Int32)) ∨ ∃ g, g < 4 ∧ fo j = nI g ∧ fo' (2 * j + 1) = nI (2 * g + 1)) ∧ fo' (2 * j) = (-1 : Int32)
theorem vCh (hM : vM M M') (c : Nat) (fo fo' : Nat → Int32) : ∀ i, i ≤ 4 → (kCh M' c fo' (2 * i)).1 = (kCh M c fo i).1 ∧ vU (kCh M c fo i).2.1 (kCh M' c fo' (2 * i)).2.1 ∧ vFo i (kCh M c fo i).2.2 (kCh M' c fo' (2 * i)).2.2
  | 0, _ => ⟨rfl, fun g hg => by
      have h9 : ∀ g, g < 4 → (255 : Nat).testBit (2 * g + 1) = (255 : Nat).testBit g := by decide
      exact h9 g hg, fun j hj => absurd hj (Nat.not_lt_zero j)⟩
  | i + 1, hi => by
    obtain ⟨i1, i2, i3⟩ := vCh hM c fo fo' i (by omega)
    have e1 : kCh M' c fo' (2 * i + 1) = vCs M' (2 * i) (kCh M' c fo' (2 * i)) := kCh_s M' c fo' (2 * i)
    have e2 : kCh M' c fo' (2 * (i + 1)) = vCs M' (2 * i + 1) (kCh M' c fo' (2 * i + 1)) := kCh_s M' c fo' (2 * i + 1)
    rw [e2, e1, kCh_s, vCs_z (fun f hf => hM.2.2.1 i f (by omega) hf)]
    generalize kCh M' c fo' (2 * i) = x' at i1 i2 i3 ⊢
    generalize kCh M c fo i = x at i1 i2 i3 ⊢
    have hu : ∀ (a b : Int32), ((a = (-1 : Int32) ∧ b = (-1 : Int32)) ∨ ∃ g, g < 4 ∧ a = nI g ∧ b = nI (2 * g + 1)) → vFo (i + 1) (upd x.2.2 i a) (upd (upd x'.2.2 (2 * i) (-1 : Int32)) (2 * i + 1) b) := by
      intro a b hab j hj
      by_cases e : j = i
      · rw [e, pk_us, pk_us, pk_un (by omega), pk_us]
        exact ⟨hab, rfl⟩
      · rw [pk_un e, pk_un (by omega), pk_un (by omega), pk_un (by omega), pk_un (by omega)]
        exact i3 j (by omega)
    have hf := vFF hM (l := i) (due := x.1) (by omega) i2
    unfold vCs
    dsimp only
    rw [i1]
    rcases hf with ⟨f1, f2⟩ | ⟨f1, f2⟩
    · rw [f2]
      by_cases q : 0 < x.1
      · rw [if_pos ⟨q, by omega⟩, if_pos ⟨q, by omega⟩]
        exact ⟨rfl, vU_clr i2 f1, hu _ _ (Or.inr ⟨_, f1, rfl, rfl⟩)⟩
      · rw [if_neg (fun h => q h.1), if_neg (fun h => q h.1)]
        exact ⟨rfl, i2, hu _ _ (Or.inl ⟨rfl, rfl⟩)⟩
    · rw [f1, f2, if_neg (fun h => absurd h.2 (by decide)), if_neg (fun h => absurd h.2 (by decide))]
      exact ⟨rfl, i2, hu _ _ (Or.inl ⟨rfl, rfl⟩)⟩
theorem vCh8 (hM : vM M M') (c : Nat) (fo fo' : Nat → Int32) : vFo 4 (kCh M c fo 8).2.2 (kCh M' c fo' 8).2.2 ∧ ∀ j, 4 ≤ j → j < 8 → (kCh M c fo 8).2.2 j = (-1 : Int32) := by
  have K : ∀ k, k ≤ 4 → (∀ j, j < 4 → (kCh M c fo (4 + k)).2.2 j = (kCh M c fo 4).2.2 j) ∧ ∀ j, 4 ≤ j → j < 4 + k → (kCh M c fo (4 + k)).2.2 j = (-1 : Int32) := by
    intro k
    induction k with
    | zero => intro _; exact ⟨fun _ _ => rfl, fun j h1 h2 => absurd h1 (by omega)⟩
    | succ k ih =>
      intro hk
      obtain ⟨a, b⟩ := ih (by omega)
      have e2 : kCh M c fo (4 + (k + 1)) = vCs M (4 + k) (kCh M c fo (4 + k)) := kCh_s M c fo (4 + k)
      rw [e2, vCs_z (fun f hf => hM.2.2.2 (4 + k) f (by omega) hf (Or.inl (by omega)))]
      refine ⟨fun j hj => ?_, fun j h4 hj => ?_⟩
      · show upd _ (4 + k) _ j = _
        rw [pk_un (by omega)]
        exact a j hj
      · show upd _ (4 + k) _ j = _
        by_cases e : j = 4 + k
        · rw [e, pk_us]
        · rw [pk_un e]
          exact b j h4 (by omega)
  have h := (vCh hM c fo fo' 4 (Nat.le_refl 4)).2.2
  obtain ⟨a, b⟩ := K 4 (Nat.le_refl 4)
  rw [show 4 + 4 = 8 from rfl] at a b
  rw [show 2 * 4 = 8 from rfl] at h
  generalize (kCh M c fo 8).2.2 = v8 at a b ⊢
  generalize (kCh M c fo 4).2.2 = v4 at a h
  generalize (kCh M' c fo' 8).2.2 = w8 at h ⊢
  refine ⟨fun j hj => ?_, b⟩
  have h9 := h j hj
  rw [← a j hj] at h9
  exact h9
/-- who is chosen may be -/
theorem kCh_bit (M : Nat → Nat) (c : Nat) (fo : Nat → Int32) : ∀ i, i ≤ 8 → ∀ j, j < i → (kCh M c fo i).2.2 j = (-1 : Int32) ∨ ∃ g, g < 8 ∧ (kCh M c fo i).2.2 j = nI g ∧ (M j).testBit g = true
  | 0, _, j, hj => absurd hj (Nat.not_lt_zero j)
  | i + 1, hi, j, hj => by
    have ih := kCh_bit M c fo i (by omega) j
    rw [kCh_s]
    generalize kCh M c fo i = x at ih ⊢
    unfold vCs
    by_cases q : 0 < x.1 ∧ kFF M i x.2.1 x.1 < 8
    · rw [if_pos q]
      show upd _ i (nI _) j = _ ∨ ∃ g, g < 8 ∧ upd _ i (nI _) j = nI g ∧ _
      by_cases e : j = i
      · right
        refine ⟨_, q.2, by rw [e, pk_us], ?_⟩
        rw [e]
        have hp : kFP M i x.2.1 x.1 (kFF M i x.2.1 x.1) = true := kff1_t q.2
        have hp2 := (of_decide_eq_true hp).1
        generalize kFF M i x.2.1 x.1 = g9 at hp2 ⊢
        rw [vbit, Classical.not_not] at hp2
        exact hp2.1
      · rw [pk_un e]
        exact ih (by omega)
    · rw [if_neg q]
      show upd _ i (-1 : Int32) j = _ ∨ ∃ g, g < 8 ∧ upd _ i (-1 : Int32) j = nI g ∧ _
      by_cases e : j = i
      · left; rw [e, pk_us]
      · rw [pk_un e]
        exact ih (by omega)
end VC
theorem kMC_en (M : Nat → Nat) (fr free en : Nat) : kMC M fr free en ≤ en := by
  have K : ∀ k, (kMCs M fr free en k).1 ≤ en := by
    intro k
    induction k with
    | zero => exact Nat.zero_le _
    | succ k ih =>
      rw [kMCs_s]
      generalize kMCs M fr free en k = x at ih ⊢
      unfold vMs
      by_cases q : x.1 < en
      · rw [if_pos q]
        show x.1 + (if _ then _ else _) ≤ en
        split <;> omega
      · rw [if_neg q]
        exact ih
  exact K _
section VX
variable {L F L' F' : rG} (p : Nat → Int32) {d d' : Nat → Nat → Int32}
theorem vCx (hL : vG L L') (hF : vG F F') (hd : vDD d d') (ro : Nat) : kCx p L' F' d' ro = kCx p L F d ro := by
  have hM := vMx p hL hF hd
  unfold kCx
  generalize kMx p L F d = M at hM ⊢
  generalize kMx p L' F' d' = M' at hM ⊢
  exact vMC hM (fr := 0) (free := 255) (free' := 255) (fun g hg => by
    have h9 : ∀ g, g < 4 → (255 : Nat).testBit (2 * g + 1) = (255 : Nat).testBit g := by decide
    exact h9 g hg) (by decide)
theorem vFx (hL : vG L L') (hF : vG F F') (hd : vDD d d') (ro : Nat) : vFo 4 (kFx p L F d ro) (kFx p L' F' d' ro) ∧ ∀ j, 4 ≤ j → j < 8 → kFx p L F d ro j = (-1 : Int32) := by
  have hM := vMx p hL hF hd
  have hc := vCx p hL hF hd ro
  unfold kFx
  rw [hc]
  generalize kMx p L F d = M at hM ⊢
  generalize kMx p L' F' d' = M' at hM ⊢
  exact vCh8 hM _ _ _
/-- who is chosen is there, and has not danced with the leader -/
theorem vFx_ok (hl : L.2.2.2.2.2 ≤ 8) (hf : F.2.2.2.2.2 ≤ 8) (ro : Nat) {i : Nat} (hi : i < 8) : kFx p L F d ro i = (-1 : Int32) ∨ ∃ g, kFx p L F d ro i = nI g ∧ i < L.2.2.2.2.2 ∧ g < F.2.2.2.2.2 ∧ d i g = (-1 : Int32) := by
  have hb := kCh_bit (kMx p L F d) (kCx p L F d ro) (fun _ => nI 0) 8 (Nat.le_refl 8) i hi
  unfold kFx
  generalize (kCh (kMx p L F d) (kCx p L F d ro) (fun _ => nI 0) 8).2.2 i = v at hb ⊢
  rcases hb with h | ⟨g, hg, e2, hb⟩
  · exact Or.inl h
  · obtain ⟨b1, b2, b3⟩ := (kMay_bit hg).mp hb
    refine Or.inr ⟨g, e2, ?_, ?_, b3⟩
    · rcases Nat.lt_or_ge i L.2.2.2.2.2 with q | q
      · exact q
      · exfalso
        have hlt : (kS1 p L kF0 0).2.2 < 2 ^ L.2.2.2.2.2 := kLn_lt _ _ _ _
        rw [Nat.testBit_lt_two_pow (Nat.lt_of_lt_of_le hlt (kpow_le q))] at b1
        cases b1
    · rcases Nat.lt_or_ge g F.2.2.2.2.2 with q | q
      · exact q
      · exfalso
        have hlt : (kS2 p L F kF0 0).2.2 < 2 ^ F.2.2.2.2.2 := kLn_lt _ _ _ _
        rw [Nat.testBit_lt_two_pow (Nat.lt_of_lt_of_le hlt (kpow_le q))] at b2
        cases b2
end VX
