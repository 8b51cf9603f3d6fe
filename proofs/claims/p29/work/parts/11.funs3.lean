/-! what the floor held before doesn't matter -/
def kF0 : rF := (fun _ => nI 0, fun _ => nI 0, fun _ => nI 0, fun _ => nI 0, 0, 0, fun _ => nI 0, fun _ => nI 0, 0)
theorem kPair_g {l l' : Nat → Int32} (h : ∀ j, 1 ≤ j → l j = l' j) {z : Nat} (hz : 1 ≤ z) : kPairV l z = kPairV l' z ∧ ∀ j, 1 ≤ j → kPairL l z j = kPairL l' z j := by
  have e1 : kFit l z = kFit l' z := by unfold kFit; rw [h z hz]
  have hf : 1 ≤ kFit l' z := by unfold kFit; split <;> omega
  unfold kPairV kPairL
  rw [e1, h _ hf]
  refine ⟨rfl, fun j hj => ?_⟩
  split
  · exact h j hj
  · unfold upd
    split
    · rfl
    · exact h j hj
theorem kLn_g {g : rG} (hz : kSz g) {l l' n n' : Nat → Int32} (h : ∀ j, 1 ≤ j → l j = l' j) : ∀ i, i ≤ g.2.2.2.2.2 → (∀ j, 1 ≤ j → (kLn g l n i).1 j = (kLn g l' n' i).1 j) ∧ (kLn g l n i).2.2 = (kLn g l' n' i).2.2 ∧ ∀ j, j < i → (kLn g l n i).2.1 j = (kLn g l' n' i).2.1 j
  | 0, _ => ⟨h, rfl, fun j hj => absurd hj (Nat.not_lt_zero j)⟩
  | i + 1, hi => by
    obtain ⟨a, b, c⟩ := kLn_g hz (n := n) (n' := n') h i (by omega)
    have hs := (hz i (by omega)).2.1
    obtain ⟨p1, p2⟩ := kPair_g a hs
    have hu : ∀ (f f' : Nat → Int32) (x : Int32), (∀ j, j < i → f j = f' j) → ∀ j, j < i + 1 → upd f i x j = upd f' i x j := by
      intro f f' x hf j hj
      unfold upd
      by_cases e : j = i
      · rw [if_pos e, if_pos e]
      · rw [if_neg e, if_neg e]; exact hf j (by omega)
    show (∀ j, 1 ≤ j → (kLs g i (kLn g l n i)).1 j = (kLs g i (kLn g l' n' i)).1 j) ∧ (kLs g i (kLn g l n i)).2.2 = (kLs g i (kLn g l' n' i)).2.2 ∧ ∀ j, j < i + 1 → (kLs g i (kLn g l n i)).2.1 j = (kLs g i (kLn g l' n' i)).2.1 j
    unfold kLs
    by_cases w : kWants g i
    · rw [if_pos w, if_pos w]
      by_cases o : g.2.2.1 i = 0
      · rw [if_pos o, if_pos o]
        refine ⟨p2, ?_, ?_⟩
        · show (if _ then _ else _) = (if _ then _ else _)
          rw [p1, b]
        · show ∀ j, j < i + 1 → upd _ i (kPairV (kLn g l n i).1 _) j = upd _ i (kPairV (kLn g l' n' i).1 _) j
          rw [p1]
          exact hu _ _ _ c
      · rw [if_neg o, if_neg o]
        exact ⟨a, by show _ ||| _ = _ ||| _; rw [b], hu _ _ _ c⟩
    · rw [if_neg w, if_neg w]
      exact ⟨a, b, hu _ _ _ c⟩
theorem kLe_g (p l l' : Nat → Int32) (x i : Nat) (hi : i = 10) : ∀ j, 1 ≤ j → j < 10 → kLe p l x i j = kLe p l' x i j := by
  intro j h1 h2
  rw [kLe_in _ _ _ _ _ (by omega), kLe_in _ _ _ _ _ (by omega)]
/-- only the sizes 1 to 10 of what is left count: beyond, nothing is looked at -/
def kCut (l : Nat → Int32) : Nat → Int32 := fun j => if j < 10 then l j else nI 0
theorem kPair_c10 {l l' : Nat → Int32} (h : ∀ j, 1 ≤ j → j < 10 → l j = l' j) {z : Nat} (hz : 1 ≤ z) (hz9 : z ≤ 9) : kPairV l z = kPairV l' z ∧ ∀ j, 1 ≤ j → j < 10 → kPairL l z j = kPairL l' z j := by
  have e1 : kFit l z = kFit l' z := by unfold kFit; rw [h z hz (by omega)]
  have hf : 1 ≤ kFit l' z := by unfold kFit; split <;> omega
  unfold kPairV kPairL
  rw [e1]
  by_cases h9 : 9 < kFit l' z
  · rw [if_pos (Or.inl h9), if_pos (Or.inl h9), if_pos (Or.inl h9), if_pos (Or.inl h9)]
    exact ⟨rfl, h⟩
  · rw [h _ hf (by omega)]
    refine ⟨rfl, fun j hj h10 => ?_⟩
    split
    · exact h j hj h10
    · unfold upd
      split
      · rfl
      · exact h j hj h10
theorem kLn_g10 {g : rG} (hz : kSz g) {l l' n n' : Nat → Int32} (h : ∀ j, 1 ≤ j → j < 10 → l j = l' j) : ∀ i, i ≤ g.2.2.2.2.2 → (∀ j, 1 ≤ j → j < 10 → (kLn g l n i).1 j = (kLn g l' n' i).1 j) ∧ (kLn g l n i).2.2 = (kLn g l' n' i).2.2 ∧ ∀ j, j < i → (kLn g l n i).2.1 j = (kLn g l' n' i).2.1 j
  | 0, _ => ⟨h, rfl, fun j hj => absurd hj (Nat.not_lt_zero j)⟩
  | i + 1, hi => by
    obtain ⟨a, b, c⟩ := kLn_g10 hz (n := n) (n' := n') h i (by omega)
    have hs := (hz i (by omega)).2
    obtain ⟨p1, p2⟩ := kPair_c10 a hs.1 hs.2
    have hu : ∀ (f f' : Nat → Int32) (x : Int32), (∀ j, j < i → f j = f' j) → ∀ j, j < i + 1 → upd f i x j = upd f' i x j := by
      intro f f' x hf j hj
      unfold upd
      by_cases e : j = i
      · rw [if_pos e, if_pos e]
      · rw [if_neg e, if_neg e]; exact hf j (by omega)
    show (∀ j, 1 ≤ j → j < 10 → (kLs g i (kLn g l n i)).1 j = (kLs g i (kLn g l' n' i)).1 j) ∧ (kLs g i (kLn g l n i)).2.2 = (kLs g i (kLn g l' n' i)).2.2 ∧ ∀ j, j < i + 1 → (kLs g i (kLn g l n i)).2.1 j = (kLs g i (kLn g l' n' i)).2.1 j
    unfold kLs
    by_cases w : kWants g i
    · rw [if_pos w, if_pos w]
      by_cases o : g.2.2.1 i = 0
      · rw [if_pos o, if_pos o]
        refine ⟨p2, ?_, ?_⟩
        · show (if _ then _ else _) = (if _ then _ else _)
          rw [p1, b]
        · show ∀ j, j < i + 1 → upd _ i (kPairV (kLn g l n i).1 _) j = upd _ i (kPairV (kLn g l' n' i).1 _) j
          rw [p1]
          exact hu _ _ _ c
      · rw [if_neg o, if_neg o]
        exact ⟨a, by show _ ||| _ = _ ||| _; rw [b], hu _ _ _ c⟩
    · rw [if_neg w, if_neg w]
      exact ⟨a, b, hu _ _ _ c⟩
theorem kS1_g (p : Nat → Int32) {L : rG} (hz : kSz L) (f f' : rF) (x : Nat) : (∀ j, 1 ≤ j → j < 10 → (kS1 p L f x).1 j = (kS1 p L f' x).1 j) ∧ (kS1 p L f x).2.2 = (kS1 p L f' x).2.2 ∧ ∀ j, j < L.2.2.2.2.2 → (kS1 p L f x).2.1 j = (kS1 p L f' x).2.1 j :=
  kLn_g10 hz (kLe_g p _ _ x 10 rfl) _ (Nat.le_refl _)
theorem kS2_g (p : Nat → Int32) {L F : rG} (hz : kSz L) (hf : kSz F) (f f' : rF) (x : Nat) : (∀ j, 1 ≤ j → j < 10 → (kS2 p L F f x).1 j = (kS2 p L F f' x).1 j) ∧ (kS2 p L F f x).2.2 = (kS2 p L F f' x).2.2 ∧ ∀ j, j < F.2.2.2.2.2 → (kS2 p L F f x).2.1 j = (kS2 p L F f' x).2.1 j :=
  kLn_g10 hf (kS1_g p hz f f' x).1 _ (Nat.le_refl _)
theorem kM_g (p : Nat → Int32) {L F : rG} (hz : kSz L) (hf : kSz F) (f : rF) (d : Nat → Nat → Int32) : kM p L F f d = kM p L F kF0 d := by
  unfold kM
  rw [(kS1_g p hz f kF0 0).2.1, (kS2_g p hz hf f kF0 0).2.1]
theorem kCh_g (M : Nat → Nat) (c : Nat) (fo fo' : Nat → Int32) : ∀ i, (kCh M c fo i).1 = (kCh M c fo' i).1 ∧ (kCh M c fo i).2.1 = (kCh M c fo' i).2.1 ∧ ∀ j, j < i → (kCh M c fo i).2.2 j = (kCh M c fo' i).2.2 j
  | 0 => ⟨rfl, rfl, fun j hj => absurd hj (Nat.not_lt_zero j)⟩
  | i + 1 => by
    obtain ⟨a, b, c9⟩ := kCh_g M c fo fo' i
    have hu : ∀ (f f' : Nat → Int32) (x : Int32), (∀ j, j < i → f j = f' j) → ∀ j, j < i + 1 → upd f i x j = upd f' i x j := by
      intro f f' x hf j hj
      unfold upd
      by_cases e : j = i
      · rw [if_pos e, if_pos e]
      · rw [if_neg e, if_neg e]; exact hf j (by omega)
    unfold kCh
    rw [a, b]
    by_cases q : 0 < (kCh M c fo' i).1 ∧ kFF M i (kCh M c fo' i).2.1 (kCh M c fo' i).1 < 8
    · rw [if_pos q, if_pos q]
      exact ⟨rfl, rfl, hu _ _ _ c9⟩
    · rw [if_neg q, if_neg q]
      exact ⟨rfl, rfl, hu _ _ _ c9⟩
theorem kCh_lo (M : Nat → Nat) (c : Nat) (fo : Nat → Int32) : ∀ i, ∀ j, j < i → (kCh M c fo i).2.2 j = (-1 : Int32) ∨ ∃ g, g < 8 ∧ (kCh M c fo i).2.2 j = nI g
  | 0 => fun j hj => absurd hj (Nat.not_lt_zero j)
  | i + 1 => by
    intro j hj
    have ih := kCh_lo M c fo i j
    unfold kCh
    split
    · rename_i q
      show upd _ i (nI _) j = _ ∨ _
      by_cases e : j = i
      · right
        exact ⟨_, q.2, by show upd _ i _ j = _; rw [e, pk_us]⟩
      · have h9 := ih (by omega)
        show upd _ i (nI _) j = _ ∨ ∃ g, g < 8 ∧ upd _ i (nI _) j = nI g
        rw [pk_un e]
        exact h9
    · show upd _ i (-1 : Int32) j = _ ∨ _
      by_cases e : j = i
      · left
        rw [e, pk_us]
      · have h9 := ih (by omega)
        show upd _ i (-1 : Int32) j = _ ∨ ∃ g, g < 8 ∧ upd _ i (-1 : Int32) j = nI g
        rw [pk_un e]
        exact h9
/-- the couples of a dance, and whom each leader dances with, by the state alone -/
def kMx (p : Nat → Int32) (L F : rG) (d : Nat → Nat → Int32) : Nat → Nat := kM p L F kF0 d
def kCx (p : Nat → Int32) (L F : rG) (d : Nat → Nat → Int32) (ro : Nat) : Nat := kMC (kMx p L F d) 0 255 ro
def kFx (p : Nat → Int32) (L F : rG) (d : Nat → Nat → Int32) (ro : Nat) : Nat → Int32 := (kCh (kMx p L F d) (kCx p L F d ro) (fun _ => nI 0) 8).2.2
theorem kCx_g (p : Nat → Int32) {L F : rG} (hz : kSz L) (hf : kSz F) (f : rF) (d : Nat → Nat → Int32) (ro : Nat) : kMC (kM p L F f d) 0 255 ro = kCx p L F d ro := by
  unfold kCx kMx
  rw [kM_g p hz hf f d]
theorem kFx_g (p : Nat → Int32) {L F : rG} (hz : kSz L) (hf : kSz F) (f : rF) (d : Nat → Nat → Int32) (ro : Nat) {i : Nat} (hi : i < 8) : (kCh (kM p L F f d) (kMC (kM p L F f d) 0 255 ro) f.2.1 8).2.2 i = kFx p L F d ro i := by
  unfold kFx
  rw [kCx_g p hz hf, kM_g p hz hf]
  exact (kCh_g _ _ _ _ 8).2.2 i hi
theorem kFx_lo (p : Nat → Int32) (L F : rG) (d : Nat → Nat → Int32) (ro : Nat) : kLo (kFx p L F d ro) := fun g hg => kCh_lo _ _ _ 8 g hg
theorem kCx_le (p : Nat → Int32) (L F : rG) (d : Nat → Nat → Int32) (ro : Nat) : kCx p L F d ro ≤ 8 := kMC_le _ _ _ _
/-- the room for couples -/
def kro (c : rC) : Nat := 2 * (min c.1 (c.2.1 / 2))
abbrev kSt : Type := rC × rG × rG × (Nat → Nat → Int32)
/-- a couple is booked -/
def kBk (l f : Nat) (s : kSt) : kSt :=
  ((s.1.1, s.1.2.1, s.1.2.2.1, s.1.2.2.2.1, s.1.2.2.2.2.1 + nI 2, s.1.2.2.2.2.2.1, s.1.2.2.2.2.2.2.1, s.1.2.2.2.2.2.2.2 + nI 1),
   (upd s.2.1.1 l (s.2.1.1 l - nI 1), s.2.1.2.1, s.2.1.2.2.1, s.2.1.2.2.2.1, upd s.2.1.2.2.2.2.1 l (s.2.1.2.2.2.2.1 l + nI 1), s.2.1.2.2.2.2.2),
   (upd s.2.2.1.1 f (s.2.2.1.1 f - nI 1), s.2.2.1.2.1, s.2.2.1.2.2.1, s.2.2.1.2.2.2.1, upd s.2.2.1.2.2.2.2.1 f (s.2.2.1.2.2.2.2.1 f + nI 1), s.2.2.1.2.2.2.2.2),
   kup s.2.2.2 l (upd (s.2.2.2 l) f (nI s.1.2.2.2.2.2.2.1)))
def kBook (fo : Nat → Int32) (s : kSt) : Nat → kSt
  | 0 => s
  | i + 1 => if fo i = (-1 : Int32) then kBook fo s i else kBk i (fo i).toNatClampNeg (kBook fo s i)
theorem kBook_n {fo : Nat → Int32} {s : kSt} {i : Nat} (h : fo i = (-1 : Int32)) : kBook fo s (i + 1) = kBook fo s i := if_pos h
theorem kBook_y {fo : Nat → Int32} {s : kSt} {i : Nat} (h : ¬ fo i = (-1 : Int32)) : kBook fo s (i + 1) = kBk i (fo i).toNatClampNeg (kBook fo s i) := if_neg h
/-- what a couple leaves as it was -/
def kSame (s t : kSt) : Prop := t.1.1 = s.1.1 ∧ t.1.2.1 = s.1.2.1 ∧ t.1.2.2.1 = s.1.2.2.1 ∧ t.1.2.2.2.1 = s.1.2.2.2.1 ∧ t.1.2.2.2.2.2.1 = s.1.2.2.2.2.2.1 ∧ t.1.2.2.2.2.2.2.1 = s.1.2.2.2.2.2.2.1 ∧
  t.2.1.2.1 = s.2.1.2.1 ∧ t.2.1.2.2.1 = s.2.1.2.2.1 ∧ t.2.1.2.2.2.1 = s.2.1.2.2.2.1 ∧ t.2.1.2.2.2.2.2 = s.2.1.2.2.2.2.2 ∧ t.2.2.1.2.1 = s.2.2.1.2.1 ∧ t.2.2.1.2.2.1 = s.2.2.1.2.2.1 ∧ t.2.2.1.2.2.2.1 = s.2.2.1.2.2.2.1 ∧ t.2.2.1.2.2.2.2.2 = s.2.2.1.2.2.2.2.2
theorem kBook_same (fo : Nat → Int32) (s : kSt) : ∀ i, kSame s (kBook fo s i)
  | 0 => ⟨rfl, rfl, rfl, rfl, rfl, rfl, rfl, rfl, rfl, rfl, rfl, rfl, rfl, rfl⟩
  | i + 1 => by
    have ih := kBook_same fo s i
    unfold kBook
    split
    · exact ih
    · exact ih
/-- the end of a dance: the oil is burned -/
def kBurn (c : rC) : rC := (c.1, c.2.1 - kro c, c.2.2.1 + nI (kro c), c.2.2.2.1, c.2.2.2.2.1, c.2.2.2.2.2.1, c.2.2.2.2.2.2.1 + 1, c.2.2.2.2.2.2.2)
def kDn (p : Nat → Int32) (s : kSt) : kSt := (kBurn (kBook (kFx p s.2.1 s.2.2.1 s.2.2.2 (kro s.1)) s 8).1, (kBook (kFx p s.2.1 s.2.2.1 s.2.2.2 (kro s.1)) s 8).2)
def kCd (p : Nat → Int32) (s : kSt) : Nat := kCx p s.2.1 s.2.2.1 s.2.2.2 (kro s.1)
abbrev kPoss (c : rC) : Prop := ¬ min c.1 (c.2.1 / 2) ≤ 0 ∧ ¬ 30 ≤ c.2.2.2.2.2.2.1
/-- dances on: the state, the last dance's couples, how many dances -/
def kOn (p : Nat → Int32) (s : kSt) : Nat → kSt × Nat × Nat
  | 0 => (s, 1, 0)
  | k + 1 => if 0 < (kOn p s k).2.1 ∧ kPoss (kOn p s k).1.1 then (kDn p (kOn p s k).1, kCd p (kOn p s k).1, (kOn p s k).2.2 + 1) else kOn p s k
theorem kOn_stay {p : Nat → Int32} {s : kSt} {k : Nat} (h : ¬ (0 < (kOn p s k).2.1 ∧ kPoss (kOn p s k).1.1)) : ∀ j, kOn p s (k + j) = kOn p s k
  | 0 => rfl
  | j + 1 => by
    have ih := kOn_stay h j
    have e : kOn p s (k + j + 1) = kOn p s (k + j) := if_neg (by rw [ih]; exact h)
    exact e.trans ih
theorem kOn_30 {p : Nat → Int32} {s : kSt} {k : Nat} (hk : k ≤ 30) (h : ¬ (0 < (kOn p s k).2.1 ∧ kPoss (kOn p s k).1.1)) : kOn p s 30 = kOn p s k := by
  have := kOn_stay h (30 - k)
  rw [show k + (30 - k) = 30 by omega] at this
  exact this
theorem kOn_y {p : Nat → Int32} {s : kSt} {k : Nat} (h : 0 < (kOn p s k).2.1 ∧ kPoss (kOn p s k).1.1) : kOn p s (k + 1) = (kDn p (kOn p s k).1, kCd p (kOn p s k).1, (kOn p s k).2.2 + 1) := if_pos h
/-- numbers of a state in their bounds -/
def kOkC (c : rC) : Prop := c.1 ≤ 6 ∧ c.2.1 ≤ 999 ∧ c.2.2.2.2.2.2.1 ≤ 30
def kOkG (g : rG) : Prop := g.2.2.2.2.2 ≤ 8 ∧ kSz g
def kOkS (s : kSt) : Prop := kOkC s.1 ∧ kOkG s.2.1 ∧ kOkG s.2.2.1
theorem kSz_same {g g' : rG} (h1 : g'.2.1 = g.2.1) (h2 : g'.2.2.2.2.2 = g.2.2.2.2.2) (h : kSz g) : kSz g' := by
  intro i hi
  unfold kz9
  rw [h1]
  exact h i (by rw [← h2]; exact hi)
theorem kDn_ok {p : Nat → Int32} {s : kSt} (h : kOkS s) (hp : kPoss s.1) : kOkS (kDn p s) := by
  have hs := kBook_same (kFx p s.2.1 s.2.2.1 s.2.2.2 (kro s.1)) s 8
  unfold kDn
  generalize kBook (kFx p s.2.1 s.2.2.1 s.2.2.2 (kro s.1)) s 8 = t at hs ⊢
  obtain ⟨e1, e2, -, -, -, e6, e7, -, -, e10, e11, -, -, e14⟩ := hs
  obtain ⟨⟨a1, a2, a3⟩, ⟨b1, b2⟩, ⟨c1, c2⟩⟩ := h
  have hp2 := hp.2
  refine ⟨⟨?_, ?_, ?_⟩, ⟨?_, kSz_same e7 e10 b2⟩, ?_, kSz_same e11 e14 c2⟩
  · show t.1.1 ≤ 6
    rw [e1]; exact a1
  · show t.1.2.1 - kro t.1 ≤ 999
    rw [e2]; exact Nat.le_trans (Nat.sub_le _ _) a2
  · show t.1.2.2.2.2.2.2.1 + 1 ≤ 30
    rw [e6]
    omega
  · show t.2.1.2.2.2.2.2 ≤ 8
    rw [e10]; exact b1
  · show t.2.2.1.2.2.2.2.2 ≤ 8
    rw [e14]; exact c1
theorem kOn_ok {p : Nat → Int32} {s : kSt} (h : kOkS s) : ∀ k, kOkS (kOn p s k).1
  | 0 => h
  | k + 1 => by
    have ih := kOn_ok (p := p) h k
    unfold kOn
    split
    · rename_i q
      exact kDn_ok ih q.2
    · exact ih
theorem kOn_c {p : Nat → Int32} {s : kSt} : ∀ k, (kOn p s k).2.1 ≤ 8
  | 0 => by show 1 ≤ 8; decide
  | k + 1 => by
    have ih := kOn_c (p := p) (s := s) k
    unfold kOn
    split
    · exact kCx_le _ _ _ _ _
    · exact ih
/-- dancing on to its end: the state, how many dances -/
def kOnE (p : Nat → Int32) (s : kSt) : kSt × Nat := ((kOn p s 30).1, (kOn p s 30).2.2)
