/-! what the cells of the system are: addresses by a function, contents by a value -/
abbrev rG : Type := (Nat → Int32) × (Nat → Int32) × (Nat → Int32) × (Nat → Int32) × (Nat → Int32) × Nat
abbrev rC : Type := Nat × Nat × Int32 × Nat × Int32 × Int32 × Nat × Int32
abbrev rA : Type := (Nat → Int32) × (Nat → Int32) × (Nat → Int32)
abbrev rF : Type := (Nat → Int32) × (Nat → Int32) × (Nat → Int32) × (Nat → Int32) × Nat × Nat × (Nat → Int32) × (Nat → Int32) × Nat
abbrev rT : Type := (Nat → Int32) × Nat × Nat
/-- guests: tokens, sizes, own shoes, here, all dances; how many -/
abbrev gW (cy : Nat → ClassId) (a : Nat → Nat) (k : Nat) (g : rG) : va_W := [(a k, .inr (2, [.ref (a (k + 1)), .ref (a (k + 2)), .ref (a (k + 3)), .ref (a (k + 4)), .ref (a (k + 5)), .int (nI g.2.2.2.2.2)])), (a (k + 1), .inl (cy 0, 8, .inl g.1)), (a (k + 2), .inl (cy 0, 8, .inl g.2.1)), (a (k + 3), .inl (cy 1, 8, .inl g.2.2.1)), (a (k + 4), .inl (cy 1, 8, .inl g.2.2.2.1)), (a (k + 5), .inl (cy 0, 8, .inl g.2.2.2.2.1))]
/-- a state's own cell: lamps, oil, burned, fiddlers, bag, night, dances, all couples -/
abbrev sO (a : Nat → Nat) (c : rC) : va_W := [(a 0, .inr (3, [.ref (a 1), .ref (a 7), .ref (a 13), .int (nI c.1), .int (nI c.2.1), .int c.2.2.1, .int (nI c.2.2.2.1), .ref (a 14), .ref (a 15), .int c.2.2.2.2.1, .int c.2.2.2.2.2.1, .int (nI c.2.2.2.2.2.2.1), .int c.2.2.2.2.2.2.2, .ref (a 16)]))]
/-- a state's arrays: pairs, parts, got; the outer array of the book -/
abbrev sA (cy : Nat → ClassId) (a : Nat → Nat) (r : rA) : va_W := [(a 13, .inl (cy 0, 10, .inl r.1)), (a 14, .inl (cy 0, 4, .inl r.2.1)), (a 15, .inl (cy 0, 4, .inl r.2.2)), (a 16, .inl (cy 4, 8, .inr (.inr (.inr (.inr (fun i => some (a (17 + i))))))))]
/-- the book's rows -/
abbrev rW (cy : Nat → ClassId) (a : Nat → Nat) (d : Nat → Nat → Int32) : va_W := [(a 17, .inl (cy 0, 8, .inl (d 0))), (a 18, .inl (cy 0, 8, .inl (d 1))), (a 19, .inl (cy 0, 8, .inl (d 2))), (a 20, .inl (cy 0, 8, .inl (d 3))), (a 21, .inl (cy 0, 8, .inl (d 4))), (a 22, .inl (cy 0, 8, .inl (d 5))), (a 23, .inl (cy 0, 8, .inl (d 6))), (a 24, .inl (cy 0, 8, .inl (d 7)))]
/-- the floor: left, follower, lent to leaders, lent to followers, ready leaders, ready followers, may, leader of, untried -/
abbrev fW (cy : Nat → ClassId) (a : Nat → Nat) (f : rF) : va_W := [(a 0, .inr (0, [.ref (a 1), .ref (a 2), .ref (a 3), .ref (a 4), .int (nI f.2.2.2.2.1), .int (nI f.2.2.2.2.2.1), .ref (a 5), .ref (a 6), .int (nI f.2.2.2.2.2.2.2.2)])), (a 1, .inl (cy 0, 10, .inl f.1)), (a 2, .inl (cy 0, 8, .inl f.2.1)), (a 3, .inl (cy 0, 8, .inl f.2.2.1)), (a 4, .inl (cy 0, 8, .inl f.2.2.2.1)), (a 5, .inl (cy 0, 8, .inl f.2.2.2.2.2.2.1)), (a 6, .inl (cy 0, 8, .inl f.2.2.2.2.2.2.2.1))]
/-- the text: bytes, length, place -/
abbrev tW (cy : Nat → ClassId) (a : Nat → Nat) (t : rT) : va_W := [(a 0, .inr (1, [.ref (a 1), .int (nI t.2.1), .int (nI t.2.2)])), (a 1, .inl (cy 2, 100, .inl t.1))]
/-- h up to i, then g -/
def kcp (h g : Nat → Int32) (i : Nat) : Nat → Int32 := fun j => if j < i then h j else g j
theorem kcp_0 (h g : Nat → Int32) (j : Nat) : kcp h g 0 j = g j := by simp [kcp]
theorem kcp_in (h g : Nat → Int32) {i j : Nat} (q : j < i) : kcp h g i j = h j := if_pos q
theorem kcp_out (h g : Nat → Int32) {i j : Nat} (q : i ≤ j) : kcp h g i j = g j := if_neg (by omega)
theorem kcp_s (h g : Nat → Int32) (i j : Nat) : upd (kcp h g i) i (h i) j = kcp h g (i + 1) j := by
  unfold upd
  by_cases e : j = i
  · subst e
    rw [if_pos rfl, kcp_in _ _ (Nat.lt_succ_self j)]
  · rw [if_neg e]
    unfold kcp
    by_cases q : j < i
    · rw [if_pos q, if_pos (by omega)]
    · rw [if_neg q, if_neg (by omega)]
/-- a row of booleans -/
def kBo (f : Nat → Int32) : Prop := ∀ j, j < 8 → f j = nI 0 ∨ f j = nI 1
