/-! the text's numbers -/
def kBy (bs : Nat → Int32) : Prop := ∀ j, j < 100 → bs j = nI (bs j).toNatClampNeg ∧ (bs j).toNatClampNeg < 128
abbrev kIs (bs : Nat → Int32) (ln pl c : Nat) : Prop := ¬ ln ≤ pl ∧ bs pl = nI c
def kb9 (bs : Nat → Int32) (pl : Nat) : Nat := (bs pl).toNatClampNeg
/-- a digit of at least so much stands there -/
abbrev kDig (bs : Nat → Int32) (ln pl le : Nat) : Prop := ¬ ln ≤ pl ∧ 48 + le ≤ kb9 bs pl ∧ kb9 bs pl ≤ 57
theorem kdig {b l : Nat} (hb : b < 128) (hl : l < 2) : (nI b - nI 48 < nI l ↔ b < 48 + l) ∧ (nI b - nI 48 ≤ nI 9 ↔ b ≤ 57) := by
  have h9 : ∀ b, b < 128 → ∀ l, l < 2 → (nI b - nI 48 < nI l ↔ b < 48 + l) ∧ (nI b - nI 48 ≤ nI 9 ↔ b ≤ 57) := by decide +kernel
  exact h9 b hb l hl
theorem kdm1 {l : Nat} (hl : l < 2) : (-1 : Int32) < nI l := by
  have h9 : ∀ l, l < 2 → (-1 : Int32) < nI l := by decide +kernel
  exact h9 l hl
/-- a guest behind its letter: whether it can stand, the place then, tokens, size, own shoes -/
def kRT2 (bs : Nat → Int32) (ln q t : Nat) : Bool × Nat × Nat × Nat × Nat :=
  if kIs bs ln q 44 then
    (if kDig bs ln (q + 1) 1 then
      (if kIs bs ln (q + 2) 45 then
        (if kIs bs ln (q + 3) 59 then (true, q + 4, t, kb9 bs (q + 1) - 48, 0) else (false, q + 3, t, kb9 bs (q + 1) - 48, 0))
      else (if kIs bs ln (q + 2) 59 then (true, q + 3, t, kb9 bs (q + 1) - 48, 1) else (false, q + 2, t, kb9 bs (q + 1) - 48, 1)))
    else (false, q + 1, t, 0, 0))
  else (false, q, t, 0, 0)
def kRT (bs : Nat → Int32) (ln q : Nat) : Bool × Nat × Nat × Nat × Nat :=
  if kDig bs ln q 0 then
    (if kDig bs ln (q + 1) 0 then kRT2 bs ln (q + 2) (10 * (kb9 bs q - 48) + (kb9 bs (q + 1) - 48)) else kRT2 bs ln (q + 1) (kb9 bs q - 48))
  else (false, q, 0, 0, 0)
/-- a guest is added -/
def kAdd (g : rG) (t z o : Nat) : rG := (upd g.1 g.2.2.2.2.2 (nI t), upd g.2.1 g.2.2.2.2.2 (nI z), upd g.2.2.1 g.2.2.2.2.2 (nI o), upd g.2.2.2.1 g.2.2.2.2.2 (nI 1), upd g.2.2.2.2.1 g.2.2.2.2.2 (nI 0), g.2.2.2.2.2 + 1)
abbrev kRS : Type := Bool × Nat × rG × rG
def kRG (bs : Nat → Int32) (ln pl : Nat) (L F : rG) : kRS :=
  if kIs bs ln pl 108 then
    (if 8 ≤ L.2.2.2.2.2 then (false, pl, L, F) else
      (if (kRT bs ln (pl + 1)).1 = true then (true, (kRT bs ln (pl + 1)).2.1, kAdd L (kRT bs ln (pl + 1)).2.2.1 (kRT bs ln (pl + 1)).2.2.2.1 (kRT bs ln (pl + 1)).2.2.2.2, F) else (false, (kRT bs ln (pl + 1)).2.1, L, F)))
  else
    (if 8 ≤ F.2.2.2.2.2 then (false, pl, L, F) else
      (if kIs bs ln pl 102 then
        (if (kRT bs ln (pl + 1)).1 = true then (true, (kRT bs ln (pl + 1)).2.1, L, kAdd F (kRT bs ln (pl + 1)).2.2.1 (kRT bs ln (pl + 1)).2.2.2.1 (kRT bs ln (pl + 1)).2.2.2.2) else (false, (kRT bs ln (pl + 1)).2.1, L, F))
      else (false, pl, L, F)))
theorem kRG_l {bs : Nat → Int32} {ln pl : Nat} {L F : rG} (h1 : kIs bs ln pl 108) (h2 : ¬ 8 ≤ L.2.2.2.2.2) {ok : Bool} {q t z o : Nat} (h : kRT bs ln (pl + 1) = (ok, q, t, z, o)) : kRG bs ln pl L F = if ok = true then (true, q, kAdd L t z o, F) else (false, q, L, F) := by
  unfold kRG
  rw [if_pos h1, if_neg h2, h]
theorem kRG_f {bs : Nat → Int32} {ln pl : Nat} {L F : rG} (h1 : ¬ kIs bs ln pl 108) (h2 : ¬ 8 ≤ F.2.2.2.2.2) (h3 : kIs bs ln pl 102) {ok : Bool} {q t z o : Nat} (h : kRT bs ln (pl + 1) = (ok, q, t, z, o)) : kRG bs ln pl L F = if ok = true then (true, q, L, kAdd F t z o) else (false, q, L, F) := by
  unfold kRG
  rw [if_neg h1, if_neg h2, if_pos h3, h]
theorem kRG_x1 {bs : Nat → Int32} {ln pl : Nat} {L F : rG} (h1 : kIs bs ln pl 108) (h2 : 8 ≤ L.2.2.2.2.2) : kRG bs ln pl L F = (false, pl, L, F) := by
  unfold kRG
  rw [if_pos h1, if_pos h2]
theorem kRG_x2 {bs : Nat → Int32} {ln pl : Nat} {L F : rG} (h1 : ¬ kIs bs ln pl 108) (h2 : 8 ≤ F.2.2.2.2.2) : kRG bs ln pl L F = (false, pl, L, F) := by
  unfold kRG
  rw [if_neg h1, if_pos h2]
theorem kRG_x3 {bs : Nat → Int32} {ln pl : Nat} {L F : rG} (h1 : ¬ kIs bs ln pl 108) (h2 : ¬ 8 ≤ F.2.2.2.2.2) (h3 : ¬ kIs bs ln pl 102) : kRG bs ln pl L F = (false, pl, L, F) := by
  unfold kRG
  rw [if_neg h1, if_neg h2, if_neg h3]
def kG0 (g : rG) : rG := (g.1, g.2.1, g.2.2.1, g.2.2.2.1, g.2.2.2.2.1, 0)
/-- guests read, one after the other -/
def kRs (bs : Nat → Int32) (ln : Nat) (L F : rG) : Nat → kRS
  | 0 => (true, 0, kG0 L, kG0 F)
  | k + 1 => if (kRs bs ln L F k).1 = true ∧ (kRs bs ln L F k).2.1 < ln then kRG bs ln (kRs bs ln L F k).2.1 (kRs bs ln L F k).2.2.1 (kRs bs ln L F k).2.2.2 else kRs bs ln L F k
theorem kRs_stay {bs : Nat → Int32} {ln : Nat} {L F : rG} {k : Nat} (h : ¬ ((kRs bs ln L F k).1 = true ∧ (kRs bs ln L F k).2.1 < ln)) : ∀ j, kRs bs ln L F (k + j) = kRs bs ln L F k
  | 0 => rfl
  | j + 1 => by
    have ih := kRs_stay h j
    have e : kRs bs ln L F (k + j + 1) = kRs bs ln L F (k + j) := if_neg (by rw [ih]; exact h)
    exact e.trans ih
theorem kRs_y {bs : Nat → Int32} {ln : Nat} {L F : rG} {k : Nat} (h1 : (kRs bs ln L F k).1 = true) (h2 : (kRs bs ln L F k).2.1 < ln) : kRs bs ln L F (k + 1) = kRG bs ln (kRs bs ln L F k).2.1 (kRs bs ln L F k).2.2.1 (kRs bs ln L F k).2.2.2 := if_pos ⟨h1, h2⟩
def kRsE (bs : Nat → Int32) (ln : Nat) (L F : rG) : kRS := kRs bs ln L F 100
theorem kRsE_of {bs : Nat → Int32} {ln : Nat} {L F : rG} {k : Nat} (hk : k ≤ 100) (h : ¬ ((kRs bs ln L F k).1 = true ∧ (kRs bs ln L F k).2.1 < ln)) : kRsE bs ln L F = kRs bs ln L F k := by
  have := kRs_stay h (100 - k)
  rw [show k + (100 - k) = 100 by omega] at this
  exact this
theorem kRT2_pos (bs : Nat → Int32) (ln q t : Nat) : q ≤ (kRT2 bs ln q t).2.1 ∧ ((kRT2 bs ln q t).2.1 ≤ ln ∨ (kRT2 bs ln q t).2.1 = q) := by
  unfold kRT2
  split
  · rename_i h1
    split
    · rename_i h2
      split
      · rename_i h3
        split
        · rename_i h4; exact ⟨by show q ≤ q + 4; omega, Or.inl (by show q + 4 ≤ ln; have := h4.1; omega)⟩
        · exact ⟨by show q ≤ q + 3; omega, Or.inl (by show q + 3 ≤ ln; have := h3.1; omega)⟩
      · split
        · rename_i h4; exact ⟨by show q ≤ q + 3; omega, Or.inl (by show q + 3 ≤ ln; have := h4.1; omega)⟩
        · exact ⟨by show q ≤ q + 2; omega, Or.inl (by show q + 2 ≤ ln; have := h2.1; omega)⟩
    · exact ⟨by show q ≤ q + 1; omega, Or.inl (by show q + 1 ≤ ln; have := h1.1; omega)⟩
  · exact ⟨Nat.le_refl q, Or.inr rfl⟩
theorem kRT_pos (bs : Nat → Int32) (ln q : Nat) : q ≤ (kRT bs ln q).2.1 ∧ ((kRT bs ln q).2.1 ≤ ln ∨ (kRT bs ln q).2.1 = q) := by
  unfold kRT
  split
  · rename_i h1
    split
    · rename_i h2
      have h := kRT2_pos bs ln (q + 2) (10 * (kb9 bs q - 48) + (kb9 bs (q + 1) - 48))
      have := h2.1
      omega
    · have h := kRT2_pos bs ln (q + 1) (kb9 bs q - 48)
      have := h1.1
      omega
  · exact ⟨Nat.le_refl q, Or.inr rfl⟩
theorem kRG_pos (bs : Nat → Int32) {ln pl : Nat} (L F : rG) (h : pl ≤ ln) : (kRG bs ln pl L F).2.1 ≤ ln := by
  have hp := kRT_pos bs ln (pl + 1)
  unfold kRG
  split
  · rename_i h1
    have := h1.1
    split
    · exact h
    · split
      · show (kRT bs ln (pl + 1)).2.1 ≤ ln; omega
      · show (kRT bs ln (pl + 1)).2.1 ≤ ln; omega
  · split
    · exact h
    · split
      · rename_i h3
        have := h3.1
        split
        · show (kRT bs ln (pl + 1)).2.1 ≤ ln; omega
        · show (kRT bs ln (pl + 1)).2.1 ≤ ln; omega
      · exact h
theorem kRG_n (bs : Nat → Int32) {ln pl : Nat} {L F : rG} (hl : L.2.2.2.2.2 ≤ 8) (hf : F.2.2.2.2.2 ≤ 8) : (kRG bs ln pl L F).2.2.1.2.2.2.2.2 ≤ 8 ∧ (kRG bs ln pl L F).2.2.2.2.2.2.2.2 ≤ 8 := by
  unfold kRG
  split
  · split
    · exact ⟨hl, hf⟩
    · split
      · exact ⟨by show L.2.2.2.2.2 + 1 ≤ 8; omega, hf⟩
      · exact ⟨hl, hf⟩
  · split
    · exact ⟨hl, hf⟩
    · split
      · split
        · exact ⟨hl, by show F.2.2.2.2.2 + 1 ≤ 8; omega⟩
        · exact ⟨hl, hf⟩
      · exact ⟨hl, hf⟩
theorem kRs_ok (bs : Nat → Int32) (ln : Nat) (L F : rG) : ∀ k, (kRs bs ln L F k).2.1 ≤ ln ∧ (kRs bs ln L F k).2.2.1.2.2.2.2.2 ≤ 8 ∧ (kRs bs ln L F k).2.2.2.2.2.2.2.2 ≤ 8
  | 0 => ⟨Nat.zero_le _, Nat.zero_le _, Nat.zero_le _⟩
  | k + 1 => by
    have ih := kRs_ok bs ln L F k
    unfold kRs
    split
    · exact ⟨kRG_pos bs _ _ ih.1, kRG_n bs ih.2.1 ih.2.2⟩
    · exact ih
theorem kby_small {n : Nat} (h : n < 128) : (nI n).toInt8.toInt32 = nI n := by
  have h9 : ∀ n, n < 128 → (nI n).toInt8.toInt32 = nI n := by decide +kernel
  exact h9 n h
theorem kby_nar {n : Nat} (h : n < 128) : vp_nar .byte (nI n) = nI n := by
  have h9 : ∀ n, n < 128 → vp_nar .byte (nI n) = nI n := by decide +kernel
  exact h9 n h
