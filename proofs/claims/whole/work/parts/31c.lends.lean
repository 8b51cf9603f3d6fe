/-! shoes, as the reference lends them -/
abbrev kRt : Type := (Nat → Int32) × (Nat → Int32) × (Nat → Int32) × Nat
abbrev kMy (g : rG) (i : Nat) : Prop := i < g.2.2.2.2.2 ∧ g.2.2.2.1 i = nI 1 ∧ nI 0 < g.1 i
def kR1 (g : rG) (i p : Nat) (s : kRt) : kRt :=
  if kMy g i then
    (if g.2.2.1 i = nI 0 then
      (if nI 0 < s.1 (kz9 g i) then (upd s.1 (kz9 g i) (s.1 (kz9 g i) - nI 1), upd s.2.1 p (nI (kz9 g i)), upd s.2.2.1 p (nI 1), s.2.2.2 + 1)
       else if nI 0 < s.1 (kz9 g i + 1) then (upd s.1 (kz9 g i + 1) (s.1 (kz9 g i + 1) - nI 1), upd s.2.1 p (nI (kz9 g i + 1)), upd s.2.2.1 p (nI 1), s.2.2.2 + 1)
       else (s.1, upd s.2.1 p (nI 0), upd s.2.2.1 p (nI 0), s.2.2.2 + 0))
    else (s.1, upd s.2.1 p (nI 0), upd s.2.2.1 p (nI 1), s.2.2.2 + 1))
  else (s.1, upd s.2.1 p (nI 0), upd s.2.2.1 p (nI 0), s.2.2.2 + 0)
theorem kR1_n {g : rG} {i p : Nat} {s : kRt} (h : ¬ kMy g i) : kR1 g i p s = (s.1, upd s.2.1 p (nI 0), upd s.2.2.1 p (nI 0), s.2.2.2 + 0) := if_neg h
theorem kR1_o {g : rG} {i p : Nat} {s : kRt} (h : kMy g i) (h2 : ¬ g.2.2.1 i = nI 0) : kR1 g i p s = (s.1, upd s.2.1 p (nI 0), upd s.2.2.1 p (nI 1), s.2.2.2 + 1) := by
  unfold kR1
  rw [if_pos h, if_neg h2]
theorem kR1_a {g : rG} {i p : Nat} {s : kRt} (h : kMy g i) (h2 : g.2.2.1 i = nI 0) (h3 : nI 0 < s.1 (kz9 g i)) : kR1 g i p s = (upd s.1 (kz9 g i) (s.1 (kz9 g i) - nI 1), upd s.2.1 p (nI (kz9 g i)), upd s.2.2.1 p (nI 1), s.2.2.2 + 1) := by
  unfold kR1
  rw [if_pos h, if_pos h2, if_pos h3]
theorem kR1_b {g : rG} {i p : Nat} {s : kRt} (h : kMy g i) (h2 : g.2.2.1 i = nI 0) (h3 : ¬ nI 0 < s.1 (kz9 g i)) (h4 : nI 0 < s.1 (kz9 g i + 1)) : kR1 g i p s = (upd s.1 (kz9 g i + 1) (s.1 (kz9 g i + 1) - nI 1), upd s.2.1 p (nI (kz9 g i + 1)), upd s.2.2.1 p (nI 1), s.2.2.2 + 1) := by
  unfold kR1
  rw [if_pos h, if_pos h2, if_neg h3, if_pos h4]
theorem kR1_z {g : rG} {i p : Nat} {s : kRt} (h : kMy g i) (h2 : g.2.2.1 i = nI 0) (h3 : ¬ nI 0 < s.1 (kz9 g i)) (h4 : ¬ nI 0 < s.1 (kz9 g i + 1)) : kR1 g i p s = (s.1, upd s.2.1 p (nI 0), upd s.2.2.1 p (nI 0), s.2.2.2 + 0) := by
  unfold kR1
  rw [if_pos h, if_pos h2, if_neg h3, if_neg h4]
def kRl (X : rS) (s : kRt) : Nat → kRt
  | 0 => s
  | p + 1 => if p < 8 then kR1 X.2.1 p p (kRl X s p) else kR1 X.2.2.1 (p - 8) p (kRl X s p)
theorem kRl_L {X : rS} {s : kRt} {p : Nat} (h : p < 8) : kRl X s (p + 1) = kR1 X.2.1 p p (kRl X s p) := if_pos h
theorem kRl_F {X : rS} {s : kRt} {q : Nat} : kRl X s (8 + q + 1) = kR1 X.2.2.1 q (8 + q) (kRl X s (8 + q)) := by
  have e : kRl X s (8 + q + 1) = kR1 X.2.2.1 (8 + q - 8) (8 + q) (kRl X s (8 + q)) := if_neg (by omega)
  rw [e, show 8 + q - 8 = q by omega]
theorem kLe_0s (p l : Nat → Int32) (k j : Nat) : upd (kLe p l 0 (k + 1)) (k + 1) (p (k + 1)) j = kLe p l 0 (k + 1 + 1) j := by
  have h := kLe_s p l 0 (k + 1) j (by omega)
  rw [if_neg (by omega), show nI 0 = (0 : Int32) from rfl, Int32.add_zero] at h
  exact h
/-- the two sides' stocks agree -/
def kRr (l l' : Nat → Int32) : Prop := (∀ j, 1 ≤ j → j < 10 → l j = l' j) ∧ l 10 = nI 0 ∧ ∀ j, 1 ≤ j → j < 10 → ∃ n, n ≤ 10 ∧ l' j = nI n
theorem kpos {n : Nat} (h : n ≤ 10) : (nI 0 < nI n ↔ 1 ≤ n) ∧ (nI n ≤ 0 ↔ n = 0) ∧ (nI n = 0 ↔ n = 0) := by
  have h9 : ∀ n, n < 11 → (nI 0 < nI n ↔ 1 ≤ n) ∧ (nI n ≤ 0 ↔ n = 0) ∧ (nI n = 0 ↔ n = 0) := by decide +kernel
  exact h9 n (by omega)
theorem kRr_u {l l' : Nat → Int32} {z n : Nat} (h : kRr l l') (h1 : 1 ≤ z) (h9 : z < 10) (hn : n + 1 ≤ 10) (e : l' z = nI (n + 1)) : kRr (upd l z (l z - nI 1)) (upd l' z (l' z - nI 1)) := by
  obtain ⟨a, b, c⟩ := h
  refine ⟨fun j hj hj9 => ?_, ?_, fun j hj hj9 => ?_⟩
  · by_cases q : j = z
    · rw [q, pk_us, pk_us, a z h1 h9]
    · rw [pk_un q, pk_un q]; exact a j hj hj9
  · rw [pk_un (by omega)]; exact b
  · by_cases q : j = z
    · exact ⟨n, by omega, by rw [q, pk_us, e, pk_sub (by omega)]; rfl⟩
    · rw [pk_un q]; exact c j hj hj9
theorem kR1_ok {g : rG} (hz : kSz g) (hb1 : kBo g.2.2.1) (hb2 : kBo g.2.2.2.1) (h8 : g.2.2.2.2.2 ≤ 8) {i p : Nat} (hi : i < g.2.2.2.2.2) {s : kRt} {c : (Nat → Int32) × (Nat → Int32) × Nat} (hR : kRr s.1 c.1) :
    kRr (kR1 g i p s).1 (kLs g i c).1 ∧ (kR1 g i p s).1 0 = s.1 0 ∧ (kR1 g i p s).2.1 = upd s.2.1 p ((kLs g i c).2.1 i) ∧
    ∃ b : Bool, (kR1 g i p s).2.2.1 = upd s.2.2.1 p (if b = true then nI 1 else nI 0) ∧ (kR1 g i p s).2.2.2 = s.2.2.2 + (if b = true then 1 else 0) ∧ (kLs g i c).2.2 = (if b = true then c.2.2 ||| 2 ^ i else c.2.2) := by
  have hz1 := (hz i hi).2
  by_cases w : kMy g i
  · have w2 : kWants g i := ⟨by rw [w.2.1]; decide, fun q => absurd w.2.2 (by rw [Int32.not_lt]; exact q)⟩
    by_cases o : g.2.2.1 i = nI 0
    · obtain ⟨n, hn, en⟩ := hR.2.2 (kz9 g i) hz1.1 (by omega)
      have es := hR.1 (kz9 g i) hz1.1 (by omega)
      by_cases q : nI 0 < s.1 (kz9 g i)
      · have hn1 : 1 ≤ n := (kpos hn).1.mp (by rw [← en, ← es]; exact q)
        obtain ⟨k, rfl⟩ : ∃ k, n = k + 1 := ⟨n - 1, by omega⟩
        obtain ⟨p1, p2⟩ := kPair_a (l := c.1) (z := kz9 g i) (by rw [en]; exact fun q9 => absurd ((kpos hn).2.1.mp q9) (by omega)) (by omega) (by rw [en]; exact fun q9 => absurd ((kpos hn).2.2.mp q9) (by omega))
        have hv : ¬ nI (kz9 g i) = 0 := fun q9 => absurd ((kpos (by omega)).2.2.mp q9) (by omega)
        have e : kLs g i c = (upd c.1 (kz9 g i) (c.1 (kz9 g i) - nI 1), upd c.2.1 i (nI (kz9 g i)), c.2.2 ||| 2 ^ i) := by
          unfold kLs
          rw [if_pos w2, if_pos (show g.2.2.1 i = 0 from o), p1, p2, if_neg hv]
        rw [kR1_a w o q, e]
        exact ⟨kRr_u hR hz1.1 (by omega) hn en, (by show upd s.1 _ _ 0 = s.1 0; exact pk_un (by omega)), by show upd s.2.1 p _ = upd s.2.1 p (upd c.2.1 i _ i); rw [pk_us], true, rfl, rfl, rfl⟩
      · have hn0 : n = 0 := by
          rcases Nat.eq_zero_or_pos n with h | h
          · exact h
          · exact absurd (by rw [es, en]; exact (kpos hn).1.mpr h) q
        subst hn0
        have hle : c.1 (kz9 g i) ≤ 0 := by rw [en]; decide
        by_cases q9 : kz9 g i = 9
        · have q2 : ¬ nI 0 < s.1 (kz9 g i + 1) := by rw [q9, hR.2.1]; decide
          obtain ⟨p1, p2⟩ := kPair_b (l := c.1) (z := kz9 g i) hle (by omega)
          have e : kLs g i c = (c.1, upd c.2.1 i (nI 0), c.2.2) := by
            unfold kLs
            rw [if_pos w2, if_pos (show g.2.2.1 i = 0 from o), p1, p2, if_pos (show nI 0 = (0 : Int32) from rfl)]
          rw [kR1_z w o q q2, e]
          exact ⟨hR, rfl, by show upd s.2.1 p _ = upd s.2.1 p (upd c.2.1 i _ i); rw [pk_us], false, rfl, rfl, rfl⟩
        · obtain ⟨m, hm, em⟩ := hR.2.2 (kz9 g i + 1) (by omega) (by omega)
          have es2 := hR.1 (kz9 g i + 1) (by omega) (by omega)
          by_cases q2 : nI 0 < s.1 (kz9 g i + 1)
          · have hm1 : 1 ≤ m := (kpos hm).1.mp (by rw [← em, ← es2]; exact q2)
            obtain ⟨k, rfl⟩ : ∃ k, m = k + 1 := ⟨m - 1, by omega⟩
            obtain ⟨p1, p2⟩ := kPair_d (l := c.1) (z := kz9 g i) hle (by omega) (by rw [em]; exact fun q9 => absurd ((kpos hm).2.2.mp q9) (by omega))
            have hv : ¬ nI (kz9 g i + 1) = 0 := fun q9 => absurd ((kpos (by omega)).2.2.mp q9) (by omega)
            have e : kLs g i c = (upd c.1 (kz9 g i + 1) (c.1 (kz9 g i + 1) - nI 1), upd c.2.1 i (nI (kz9 g i + 1)), c.2.2 ||| 2 ^ i) := by
              unfold kLs
              rw [if_pos w2, if_pos (show g.2.2.1 i = 0 from o), p1, p2, if_neg hv]
            rw [kR1_b w o q q2, e]
            exact ⟨kRr_u hR (by omega) (by omega) hm em, (pk_un (f := s.1) (k := kz9 g i + 1) (j := 0) (x := s.1 (kz9 g i + 1) - nI 1) (Nat.succ_ne_zero _).symm), by show upd s.2.1 p _ = upd s.2.1 p (upd c.2.1 i _ i); rw [pk_us], true, rfl, rfl, rfl⟩
          · have hm0 : m = 0 := by
              rcases Nat.eq_zero_or_pos m with h | h
              · exact h
              · exact absurd (by rw [es2, em]; exact (kpos hm).1.mpr h) q2
            subst hm0
            obtain ⟨p1, p2⟩ := kPair_c (l := c.1) (z := kz9 g i) hle (by rw [em]; decide)
            have e : kLs g i c = (c.1, upd c.2.1 i (nI 0), c.2.2) := by
              unfold kLs
              rw [if_pos w2, if_pos (show g.2.2.1 i = 0 from o), p1, p2, if_pos (show nI 0 = (0 : Int32) from rfl)]
            rw [kR1_z w o q q2, e]
            exact ⟨hR, rfl, by show upd s.2.1 p _ = upd s.2.1 p (upd c.2.1 i _ i); rw [pk_us], false, rfl, rfl, rfl⟩
    · have e : kLs g i c = (c.1, upd c.2.1 i (nI 0), c.2.2 ||| 2 ^ i) := by
        unfold kLs
        rw [if_pos w2, if_neg (show ¬ g.2.2.1 i = 0 from o)]
      rw [kR1_o w o, e]
      exact ⟨hR, rfl, by show upd s.2.1 p _ = upd s.2.1 p (upd c.2.1 i _ i); rw [pk_us], true, rfl, rfl, rfl⟩
  · have w2 : ¬ kWants g i := fun q => w ⟨hi, (hb2 i (by omega)).resolve_left q.1, by rw [← Int32.not_le]; exact q.2⟩
    have e : kLs g i c = (c.1, upd c.2.1 i (nI 0), c.2.2) := by
      unfold kLs
      rw [if_neg w2]
    rw [kR1_n w, e]
    exact ⟨hR, rfl, by show upd s.2.1 p _ = upd s.2.1 p (upd c.2.1 i _ i); rw [pk_us], false, rfl, rfl, rfl⟩
theorem kLs_un (g : rG) (i : Nat) (c : (Nat → Int32) × (Nat → Int32) × Nat) {q : Nat} (h : q ≠ i) : (kLs g i c).2.1 q = c.2.1 q := by
  unfold kLs
  split
  · split
    · exact pk_un h
    · exact pk_un h
  · exact pk_un h
theorem kpop_or {x i : Nat} (hi : i < 8) (h : x < 2 ^ i) : kpop (x ||| 2 ^ i) = kpop x + 1 := by
  have h9 : ∀ i, i < 8 → ∀ x, x < 128 → x < 2 ^ i → kpop (x ||| 2 ^ i) = kpop x + 1 := by decide +kernel
  exact h9 i hi x (Nat.lt_of_lt_of_le h (Nat.pow_le_pow_right (by decide) (show i ≤ 7 by omega))) h
theorem kSide {g : rG} (hz : kSz g) (hb1 : kBo g.2.2.1) (hb2 : kBo g.2.2.2.1) (h8 : g.2.2.2.2.2 ≤ 8) {f : Nat → kRt} {p0 : Nat} (hf : ∀ i, i < 8 → f (i + 1) = kR1 g i (p0 + i) (f i)) {l n0 : Nat → Int32} (h0 : kRr (f 0).1 l) : ∀ i, i ≤ 8 →
    kRr (f i).1 (kLn g l n0 (min i g.2.2.2.2.2)).1 ∧ (f i).1 0 = (f 0).1 0 ∧
    (∀ q, q < i → (f i).2.1 (p0 + q) = if q < g.2.2.2.2.2 then (kLn g l n0 (min i g.2.2.2.2.2)).2.1 q else nI 0) ∧ (∀ q, q < p0 → (f i).2.1 q = (f 0).2.1 q) ∧
    (∀ q, q < i → (f i).2.2.1 (p0 + q) = if (kLn g l n0 (min i g.2.2.2.2.2)).2.2.testBit q = true then nI 1 else nI 0) ∧ (∀ q, q < p0 → (f i).2.2.1 q = (f 0).2.2.1 q) ∧
    (f i).2.2.2 = (f 0).2.2.2 + kpop (kLn g l n0 (min i g.2.2.2.2.2)).2.2
  | 0, _ => by
    rw [Nat.zero_min]
    exact ⟨h0, rfl, fun q h => absurd h (Nat.not_lt_zero q), fun _ _ => rfl, fun q h => absurd h (Nat.not_lt_zero q), fun _ _ => rfl, (by show _ = _ + kpop 0; exact (Nat.add_zero _).symm)⟩
  | i + 1, hi => by
    obtain ⟨a1, a2, a3, a4, a5, a6, a7⟩ := kSide hz hb1 hb2 h8 hf (n0 := n0) h0 i (by omega)
    rw [hf i (by omega)]
    by_cases q : i < g.2.2.2.2.2
    · rw [show min i g.2.2.2.2.2 = i by omega] at a1 a3 a5 a7
      rw [show min (i + 1) g.2.2.2.2.2 = i + 1 by omega]
      have hlt := kLn_lt g l n0 i
      obtain ⟨r1, r2, r3, b, r4, r5, r6⟩ := kR1_ok hz hb1 hb2 h8 (i := i) (p := p0 + i) q (s := f i) (c := kLn g l n0 i) a1
      show kRr _ (kLs g i (kLn g l n0 i)).1 ∧ _ ∧ (∀ q, q < i + 1 → _ = if q < _ then (kLs g i (kLn g l n0 i)).2.1 q else nI 0) ∧ _ ∧ (∀ q, q < i + 1 → _ = if (kLs g i (kLn g l n0 i)).2.2.testBit q = true then nI 1 else nI 0) ∧ _ ∧ _ = _ + kpop (kLs g i (kLn g l n0 i)).2.2
      refine ⟨r1, r2.trans a2, fun q9 h9 => ?_, fun q9 h9 => ?_, fun q9 h9 => ?_, fun q9 h9 => ?_, ?_⟩
      · rw [r3]
        by_cases e : q9 = i
        · rw [e, pk_us, if_pos q]
        · rw [pk_un (by omega), a3 q9 (by omega), kLs_un _ _ _ e]
      · rw [r3, pk_un (by omega)]; exact a4 q9 h9
      · rw [r4, r6]
        by_cases e : q9 = i
        · rw [e, pk_us]
          cases b with
          | true => rw [if_pos rfl, if_pos rfl, if_pos (by rw [Nat.testBit_or, Nat.testBit_two_pow_self, Bool.or_true])]
          | false => rw [if_neg Bool.false_ne_true, if_neg Bool.false_ne_true, if_neg (by rw [Nat.testBit_lt_two_pow hlt]; exact Bool.false_ne_true)]
        · rw [pk_un (by omega), a5 q9 (by omega)]
          cases b with
          | true => rw [if_pos (show true = true from rfl), Nat.testBit_or, Nat.testBit_two_pow_of_ne (fun h => e h.symm), Bool.or_false]
          | false => rw [if_neg Bool.false_ne_true]
      · rw [r4, pk_un (by omega)]; exact a6 q9 h9
      · rw [r5, r6, a7]
        cases b with
        | true => rw [if_pos rfl, if_pos rfl, kpop_or (by omega) hlt]; omega
        | false => rw [if_neg Bool.false_ne_true, if_neg Bool.false_ne_true]; omega
    · rw [show min i g.2.2.2.2.2 = min (i + 1) g.2.2.2.2.2 by omega] at a1 a3 a5 a7
      rw [kR1_n (fun w => q w.1)]
      have hlt := kLn_lt g l n0 (min (i + 1) g.2.2.2.2.2)
      refine ⟨a1, a2, fun q9 h9 => ?_, fun q9 h9 => ?_, fun q9 h9 => ?_, fun q9 h9 => ?_, a7⟩
      · show upd (f i).2.1 (p0 + i) (nI 0) (p0 + q9) = _
        by_cases e : q9 = i
        · rw [e, pk_us, if_neg q]
        · rw [pk_un (by omega)]; exact a3 q9 (by omega)
      · show upd (f i).2.1 (p0 + i) (nI 0) q9 = _
        rw [pk_un (by omega)]; exact a4 q9 h9
      · show upd (f i).2.2.1 (p0 + i) (nI 0) (p0 + q9) = _
        by_cases e : q9 = i
        · rw [e, pk_us, if_neg (by rw [Nat.testBit_lt_two_pow (Nat.lt_of_lt_of_le hlt (kpow_le (by omega)))]; decide)]
        · rw [pk_un (by omega)]; exact a5 q9 (by omega)
      · show upd (f i).2.2.1 (p0 + i) (nI 0) q9 = _
        rw [pk_un (by omega)]; exact a6 q9 h9
/-- pairs of shoes in their bounds -/
def kPn (p : Nat → Int32) : Prop := ∀ z, 1 ≤ z → z ≤ 9 → ∃ n, n ≤ 10 ∧ p z = nI n
/-- what the reference's rows hold behind a lending -/
def kLft (lf : Nat → Int32) (X : rS) : Nat → Int32 := fun j => if j = 0 then lf 0 else if j < 10 then kLf X.2.2.2.1.1 X.2.1 X.2.2.1 j else nI 0
def kLnt (X : rS) : Nat → Int32 := fun q => if q < 8 then (if q < X.2.1.2.2.2.2.2 then (kS1 X.2.2.2.1.1 X.2.1 kF0 0).2.1 q else nI 0) else (if q - 8 < X.2.2.1.2.2.2.2.2 then (kS2 X.2.2.2.1.1 X.2.1 X.2.2.1 kF0 0).2.1 (q - 8) else nI 0)
def kCan (X : rS) : Nat → Int32 := fun q => if q < 8 then (if (kS1 X.2.2.2.1.1 X.2.1 kF0 0).2.2.testBit q = true then nI 1 else nI 0) else (if (kS2 X.2.2.2.1.1 X.2.1 X.2.2.1 kF0 0).2.2.testBit (q - 8) = true then nI 1 else nI 0)
/-- what the guests' rows must be for the reference's roads -/
def kOkR (X : rS) : Prop := kOkG X.2.1 ∧ kOkG X.2.2.1 ∧ (kBo X.2.1.2.2.1 ∧ kBo X.2.1.2.2.2.1) ∧ (kBo X.2.2.1.2.2.1 ∧ kBo X.2.2.1.2.2.2.1) ∧ kPn X.2.2.2.1.1
theorem kRl_ok {X : rS} (h : kOkR X) (lf lt ca : Nat → Int32) :
    (∀ j, j < 11 → (kRl X (upd (kLe X.2.2.2.1.1 lf 0 10) 10 (nI 0), lt, ca, 0) 16).1 j = kLft lf X j) ∧ (∀ q, q < 16 → (kRl X (upd (kLe X.2.2.2.1.1 lf 0 10) 10 (nI 0), lt, ca, 0) 16).2.1 q = kLnt X q) ∧
    (∀ q, q < 16 → (kRl X (upd (kLe X.2.2.2.1.1 lf 0 10) 10 (nI 0), lt, ca, 0) 16).2.2.1 q = kCan X q) ∧ (kRl X (upd (kLe X.2.2.2.1.1 lf 0 10) 10 (nI 0), lt, ca, 0) 16).2.2.2 = kRc X.2.2.2.1.1 X.2.1 X.2.2.1 0 := by
  obtain ⟨⟨l8, lz⟩, ⟨f8, fz⟩, ⟨lb1, lb2⟩, ⟨fb1, fb2⟩, hp⟩ := h
  have e0 : kRr (upd (kLe X.2.2.2.1.1 lf 0 10) 10 (nI 0)) (kLe X.2.2.2.1.1 kF0.1 0 10) := by
    refine ⟨fun j h1 h2 => ?_, pk_us, fun j h1 h2 => ?_⟩
    · rw [pk_un (by omega)]; exact kLe_g _ _ _ 0 10 rfl j h1 h2
    · rw [kLe_in _ _ _ _ _ (by omega), if_neg (by omega), show nI 0 = (0 : Int32) from rfl, Int32.add_zero]
      exact hp j h1 (by omega)
  have A := kSide lz lb1 lb2 l8 (f := kRl X (upd (kLe X.2.2.2.1.1 lf 0 10) 10 (nI 0), lt, ca, 0)) (p0 := 0) (fun i hi => by rw [Nat.zero_add]; exact kRl_L hi) (n0 := kF0.2.2.1) e0 8 (Nat.le_refl 8)
  rw [show min 8 X.2.1.2.2.2.2.2 = X.2.1.2.2.2.2.2 by omega] at A
  obtain ⟨a1, a2, a3, -, a5, -, a7⟩ := A
  have B := kSide fz fb1 fb2 f8 (f := fun i => kRl X (upd (kLe X.2.2.2.1.1 lf 0 10) 10 (nI 0), lt, ca, 0) (8 + i)) (p0 := 8) (fun i hi => kRl_F) (n0 := kF0.2.2.2.1) (l := (kS1 X.2.2.2.1.1 X.2.1 kF0 0).1) a1 8 (Nat.le_refl 8)
  rw [show min 8 X.2.2.1.2.2.2.2.2 = X.2.2.1.2.2.2.2.2 by omega] at B
  obtain ⟨b1, b2, b3, b4, b5, b6, b7⟩ := B
  (try dsimp only at b1 b2 b3 b4 b5 b6 b7)
  rw [show (8 : Nat) + 8 = 16 from rfl] at b1 b2 b3 b4 b5 b6 b7
  rw [show (8 : Nat) + 0 = 8 from rfl] at b2 b4 b6 b7
  refine ⟨fun j hj => ?_, fun q hq => ?_, fun q hq => ?_, ?_⟩
  · unfold kLft
    by_cases q0 : j = 0
    · rw [if_pos q0, q0, b2, a2]
      show upd (kLe X.2.2.2.1.1 lf 0 10) 10 (nI 0) 0 = lf 0
      rw [pk_un (by decide), kLe_out _ _ _ _ _ (by omega)]
    · rw [if_neg q0]
      by_cases q1 : j < 10
      · rw [if_pos q1]; exact b1.1 j (by omega) q1
      · rw [if_neg q1, show j = 10 by omega]; exact b1.2.1
  · unfold kLnt
    by_cases q0 : q < 8
    · rw [if_pos q0, b4 q q0]
      have := a3 q q0
      rw [Nat.zero_add] at this
      exact this
    · rw [if_neg q0]
      have := b3 (q - 8) (by omega)
      rw [show 8 + (q - 8) = q by omega] at this
      exact this
  · unfold kCan
    by_cases q0 : q < 8
    · rw [if_pos q0, b6 q q0]
      have := a5 q q0
      rw [Nat.zero_add] at this
      exact this
    · rw [if_neg q0]
      have := b5 (q - 8) (by omega)
      rw [show 8 + (q - 8) = q by omega] at this
      exact this
  · rw [b7, a7]
    show 0 + _ + _ = _
    rw [Nat.zero_add]
    rfl
theorem kRc_r {X : rS} (h : kOkR X) : kRc X.2.2.2.1.1 X.2.1 X.2.2.1 0 ≤ 16 := kRc_le _ h.1.1 h.2.1.1 0
/-! bits of who may dance -/
theorem kbit1 {x q : Nat} : ¬ (x / 2 ^ q &&& 1 = 0) ↔ x.testBit q = true := by
  rw [Nat.testBit_eq_decide_div_mod_eq, decide_eq_true_eq, show x / 2 ^ q &&& 1 = x / 2 ^ q % 2 from Nat.and_one_is_mod _]
  omega
theorem knf_bit {rd : Nat} {row : Nat → Int32} : ∀ {n f : Nat}, f < n → ((knf rd row n).testBit f = true ↔ rd.testBit f = true ∧ row f = (-1 : Int32))
  | 0, f, h => absurd h (Nat.not_lt_zero f)
  | n + 1, f, h => by
    have hlt := knf_lt rd row n
    by_cases e : f = n
    · subst e
      by_cases q : ¬ (rd / 2 ^ f &&& 1 = 0) ∧ row f = (-1 : Int32)
      · rw [knf_y q.1 q.2, Nat.testBit_or, Nat.testBit_two_pow_self, Bool.or_true]
        exact ⟨fun _ => ⟨kbit1.mp q.1, q.2⟩, fun _ => rfl⟩
      · rw [knf_n q, Nat.testBit_lt_two_pow hlt]
        exact ⟨fun h9 => absurd h9 (by decide), fun h9 => absurd ⟨kbit1.mpr h9.1, h9.2⟩ q⟩
    · have ih := knf_bit (rd := rd) (row := row) (n := n) (f := f) (by omega)
      by_cases q : ¬ (rd / 2 ^ n &&& 1 = 0) ∧ row n = (-1 : Int32)
      · rw [knf_y q.1 q.2, Nat.testBit_or, Nat.testBit_two_pow_of_ne (fun h => e h.symm), Bool.or_false]; exact ih
      · rw [knf_n q]; exact ih
theorem kMay_bit {rl rf : Nat} {d : Nat → Nat → Int32} {l f : Nat} (hf : f < 8) : (kMay rl rf d l).testBit f = true ↔ rl.testBit l = true ∧ rf.testBit f = true ∧ d l f = (-1 : Int32) := by
  unfold kMay
  by_cases q : ¬ (rl / 2 ^ l &&& 1 = 0)
  · rw [if_pos q, knf_bit hf]
    exact ⟨fun h => ⟨kbit1.mp q, h⟩, fun h => h.2⟩
  · rw [if_neg q, Nat.zero_testBit]
    exact ⟨fun h => absurd h (by decide), fun h => absurd (kbit1.mpr h.1) q⟩
