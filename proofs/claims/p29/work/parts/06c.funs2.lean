/-! the floor's numbers -/
def kFit (l : Nat → Int32) (z : Nat) : Nat := if l z ≤ 0 then z + 1 else z
def kPairV (l : Nat → Int32) (z : Nat) : Int32 := if 9 < kFit l z ∨ l (kFit l z) = 0 then nI 0 else nI (kFit l z)
def kPairL (l : Nat → Int32) (z : Nat) : Nat → Int32 := if 9 < kFit l z ∨ l (kFit l z) = 0 then l else upd l (kFit l z) (l (kFit l z) - nI 1)
theorem kPair_a {l : Nat → Int32} {z : Nat} (h1 : ¬ l z ≤ 0) (h2 : ¬ 9 < z) (h3 : ¬ l z = 0) : kPairV l z = nI z ∧ kPairL l z = upd l z (l z - nI 1) := by
  unfold kPairV kPairL
  have e : kFit l z = z := if_neg h1
  rw [e, if_neg (by rintro (h | h); exact h2 h; exact h3 h), if_neg (by rintro (h | h); exact h2 h; exact h3 h)]
  exact ⟨rfl, rfl⟩
theorem kPair_b {l : Nat → Int32} {z : Nat} (h1 : l z ≤ 0) (h2 : 9 < z + 1) : kPairV l z = nI 0 ∧ kPairL l z = l := by
  unfold kPairV kPairL
  have e : kFit l z = z + 1 := if_pos h1
  rw [e, if_pos (Or.inl h2), if_pos (Or.inl h2)]
  exact ⟨rfl, rfl⟩
theorem kPair_c {l : Nat → Int32} {z : Nat} (h1 : l z ≤ 0) (h2 : l (z + 1) = 0) : kPairV l z = nI 0 ∧ kPairL l z = l := by
  unfold kPairV kPairL
  have e : kFit l z = z + 1 := if_pos h1
  rw [e, if_pos (Or.inr h2), if_pos (Or.inr h2)]
  exact ⟨rfl, rfl⟩
theorem kPair_d {l : Nat → Int32} {z : Nat} (h1 : l z ≤ 0) (h2 : ¬ 9 < z + 1) (h3 : ¬ l (z + 1) = 0) : kPairV l z = nI (z + 1) ∧ kPairL l z = upd l (z + 1) (l (z + 1) - nI 1) := by
  unfold kPairV kPairL
  have e : kFit l z = z + 1 := if_pos h1
  rw [e, if_neg (by rintro (h | h); exact h2 h; exact h3 h), if_neg (by rintro (h | h); exact h2 h; exact h3 h)]
  exact ⟨rfl, rfl⟩
abbrev kWants (g : rG) (i : Nat) : Prop := ¬ g.2.2.2.1 i = 0 ∧ ¬ g.1 i ≤ 0
def kz9 (g : rG) (i : Nat) : Nat := (g.2.1 i).toNatClampNeg
/-- shoe sizes are 1 to 9 -/
def kSz (g : rG) : Prop := ∀ i, i < g.2.2.2.2.2 → g.2.1 i = nI (kz9 g i) ∧ 1 ≤ kz9 g i ∧ kz9 g i ≤ 9
def kLs (g : rG) (i : Nat) (s : (Nat → Int32) × (Nat → Int32) × Nat) : (Nat → Int32) × (Nat → Int32) × Nat :=
  if kWants g i then (if g.2.2.1 i = 0 then (kPairL s.1 (kz9 g i), upd s.2.1 i (kPairV s.1 (kz9 g i)), if kPairV s.1 (kz9 g i) = 0 then s.2.2 else s.2.2 ||| 2 ^ i) else (s.1, upd s.2.1 i (nI 0), s.2.2 ||| 2 ^ i)) else (s.1, upd s.2.1 i (nI 0), s.2.2)
/-- shoes lent to the first guests: what is left, what is lent, who is ready -/
def kLn (g : rG) (l n : Nat → Int32) : Nat → (Nat → Int32) × (Nat → Int32) × Nat
  | 0 => (l, n, 0)
  | i + 1 => kLs g i (kLn g l n i)
theorem kLn_n {g : rG} {l n : Nat → Int32} {i : Nat} (h : ¬ kWants g i) : kLn g l n (i + 1) = ((kLn g l n i).1, upd (kLn g l n i).2.1 i (nI 0), (kLn g l n i).2.2) := by
  show kLs g i _ = _
  unfold kLs
  rw [if_neg h]
theorem kLn_o {g : rG} {l n : Nat → Int32} {i : Nat} (h : kWants g i) (h2 : ¬ g.2.2.1 i = 0) : kLn g l n (i + 1) = ((kLn g l n i).1, upd (kLn g l n i).2.1 i (nI 0), (kLn g l n i).2.2 ||| 2 ^ i) := by
  show kLs g i _ = _
  unfold kLs
  rw [if_pos h, if_neg h2]
theorem kLn_z {g : rG} {l n : Nat → Int32} {i : Nat} (h : kWants g i) (h2 : g.2.2.1 i = 0) (h3 : kPairV (kLn g l n i).1 (kz9 g i) = 0) : kLn g l n (i + 1) = (kPairL (kLn g l n i).1 (kz9 g i), upd (kLn g l n i).2.1 i (kPairV (kLn g l n i).1 (kz9 g i)), (kLn g l n i).2.2) := by
  show kLs g i _ = _
  unfold kLs
  rw [if_pos h, if_pos h2, if_pos h3]
theorem kLn_p {g : rG} {l n : Nat → Int32} {i : Nat} (h : kWants g i) (h2 : g.2.2.1 i = 0) (h3 : ¬ kPairV (kLn g l n i).1 (kz9 g i) = 0) : kLn g l n (i + 1) = (kPairL (kLn g l n i).1 (kz9 g i), upd (kLn g l n i).2.1 i (kPairV (kLn g l n i).1 (kz9 g i)), (kLn g l n i).2.2 ||| 2 ^ i) := by
  show kLs g i _ = _
  unfold kLs
  rw [if_pos h, if_pos h2, if_neg h3]
theorem kor_lt {a i : Nat} (h : a < 2 ^ i) : a ||| 2 ^ i < 2 ^ (i + 1) := Nat.or_lt_two_pow (Nat.lt_of_lt_of_le h (Nat.pow_le_pow_right (by decide) (Nat.le_succ i))) (Nat.pow_lt_pow_right (by decide) (Nat.lt_succ_self i))
theorem kLn_lt (g : rG) (l n : Nat → Int32) : ∀ i, (kLn g l n i).2.2 < 2 ^ i
  | 0 => by show (0 : Nat) < 2 ^ 0; decide
  | i + 1 => by
    have ih := kLn_lt g l n i
    have h1 : (kLn g l n i).2.2 < 2 ^ (i + 1) := Nat.lt_of_lt_of_le ih (Nat.pow_le_pow_right (by decide) (Nat.le_succ i))
    have h2 := kor_lt ih
    show (kLs g i _).2.2 < _
    unfold kLs
    split
    · split
      · show (if _ then _ else _) < _
        split
        · exact h1
        · exact h2
      · exact h2
    · exact h1
theorem kpow_le {i n : Nat} (h : i ≤ n) : 2 ^ i ≤ 2 ^ n := Nat.pow_le_pow_right (by decide) h
theorem kLn_256 (g : rG) (l n : Nat → Int32) {i : Nat} (h : i ≤ 8) : (kLn g l n i).2.2 < 256 := Nat.lt_of_lt_of_le (kLn_lt g l n i) (kpow_le h)
/-- the pairs laid out, one more of a size -/
def kLe (p l : Nat → Int32) (x i : Nat) : Nat → Int32 := fun j => if 1 ≤ j ∧ j < i then p j + nI (if j = x then 1 else 0) else l j
theorem kLe_0 (p l : Nat → Int32) (x j : Nat) : l j = kLe p l x 1 j := by
  unfold kLe
  rw [if_neg (by omega)]
theorem kLe_in (p l : Nat → Int32) (x i j : Nat) (h : 1 ≤ j ∧ j < i) : kLe p l x i j = p j + nI (if j = x then 1 else 0) := if_pos h
theorem kLe_out (p l : Nat → Int32) (x i j : Nat) (h : ¬ (1 ≤ j ∧ j < i)) : kLe p l x i j = l j := if_neg h
theorem kLe_s (p l : Nat → Int32) (x i j : Nat) (h : 1 ≤ i) : upd (kLe p l x i) i (p i + nI (if i = x then 1 else 0)) j = kLe p l x (i + 1) j := by
  by_cases e : j = i
  · subst e
    rw [pk_us, kLe_in _ _ _ _ _ ⟨h, by omega⟩]
  · rw [pk_un e]
    by_cases q : 1 ≤ j ∧ j < i
    · rw [kLe_in _ _ _ _ _ q, kLe_in _ _ _ _ _ ⟨q.1, by omega⟩]
    · rw [kLe_out _ _ _ _ _ q, kLe_out _ _ _ _ _ (by omega)]
def kS1 (p : Nat → Int32) (L : rG) (f : rF) (x : Nat) : (Nat → Int32) × (Nat → Int32) × Nat := kLn L (kLe p f.1 x 10) f.2.2.1 L.2.2.2.2.2
def kS2 (p : Nat → Int32) (L F : rG) (f : rF) (x : Nat) : (Nat → Int32) × (Nat → Int32) × Nat := kLn F (kS1 p L f x).1 f.2.2.2.1 F.2.2.2.2.2
theorem kn_or (a b : Nat) : nI a ||| nI b = nI (a ||| b) := by
  apply Int32.toBitVec_inj.mp
  show BitVec.ofNat 32 a ||| BitVec.ofNat 32 b = BitVec.ofNat 32 (a ||| b)
  exact BitVec.ofNat_or.symm
theorem kshr {n i : Nat} (hn : n < 2 ^ 31) (hi : i < 31) : nI n >>> (nI i &&& 31) = nI (n / 2 ^ i) := by
  have h9 : ∀ i, i < 31 → ((nI i &&& 31).toBitVec.smod 32).toNat = i := by decide +kernel
  exact pk_shrN hn _ i (h9 i hi)
/-- a bit taken out of eight -/
def kclr (u i : Nat) : Nat := u &&& (255 - 2 ^ i)
theorem kclr_ok {u i : Nat} (hu : u < 256) (hi : i < 8) : nI u &&& (nI (2 ^ i) ^^^ (-1)) = nI (kclr u i) := by
  have h9 : ∀ i, i < 8 → (nI (2 ^ i) ^^^ (-1) : Int32) &&& nI 255 = nI (255 - 2 ^ i) := by decide +kernel
  have h8 : nI u = nI u &&& nI 255 := by
    rw [kn_and, show u &&& 255 = u % 2 ^ 8 from Nat.and_two_pow_sub_one_eq_mod u 8, Nat.mod_eq_of_lt hu]
  have e : nI u &&& (nI (2 ^ i) ^^^ (-1)) = nI u &&& ((nI (2 ^ i) ^^^ (-1)) &&& nI 255) := by
    rw [Int32.and_comm (nI (2 ^ i) ^^^ (-1)) (nI 255), ← Int32.and_assoc, ← h8]
  rw [e, h9 i hi, kn_and]
  rfl
theorem kclr_lt {u i : Nat} (hu : u < 256) : kclr u i < 256 := Nat.lt_of_le_of_lt Nat.and_le_left hu
/-- whom a leader may dance with -/
def knf (rd : Nat) (row : Nat → Int32) : Nat → Nat
  | 0 => 0
  | i + 1 => if ¬ (rd / 2 ^ i &&& 1 = 0) ∧ row i = (-1 : Int32) then knf rd row i ||| 2 ^ i else knf rd row i
theorem knf_lt (rd : Nat) (row : Nat → Int32) : ∀ i, knf rd row i < 2 ^ i
  | 0 => by show (0 : Nat) < 2 ^ 0; decide
  | i + 1 => by
    have ih := knf_lt rd row i
    show (if _ then _ else _) < _
    split
    · exact kor_lt ih
    · exact Nat.lt_of_lt_of_le ih (kpow_le (Nat.le_succ i))
theorem knf_y {rd : Nat} {row : Nat → Int32} {i : Nat} (h1 : ¬ (rd / 2 ^ i &&& 1 = 0)) (h2 : row i = (-1 : Int32)) : knf rd row (i + 1) = knf rd row i ||| 2 ^ i := if_pos ⟨h1, h2⟩
theorem knf_n {rd : Nat} {row : Nat → Int32} {i : Nat} (h : ¬ (¬ (rd / 2 ^ i &&& 1 = 0) ∧ row i = (-1 : Int32))) : knf rd row (i + 1) = knf rd row i := if_neg h
/-- the search of a place: done, the untried, who holds whom -/
abbrev kPS : Type := Bool × Nat × (Nat → Int32)
def kStep (M : Nat → Nat) (l : Nat) (rec : Nat → Nat × (Nat → Int32) → kPS) (g : Nat) (s : kPS) : kPS :=
  if s.1 = true then s else if M l &&& s.2.1 &&& 2 ^ g = 0 then s else
    if s.2.2 g = (-1 : Int32) then (true, kclr s.2.1 g, upd s.2.2 g (nI l)) else
      if (rec (s.2.2 g).toNatClampNeg (kclr s.2.1 g, s.2.2)).1 = true then (true, (rec (s.2.2 g).toNatClampNeg (kclr s.2.1 g, s.2.2)).2.1, upd (rec (s.2.2 g).toNatClampNeg (kclr s.2.1 g, s.2.2)).2.2 g (nI l))
      else (false, (rec (s.2.2 g).toNatClampNeg (kclr s.2.1 g, s.2.2)).2)
def kFold (f : Nat → kPS → kPS) : Nat → kPS → kPS
  | 0, s => s
  | n + 1, s => f n (kFold f n s)
def kPl (M : Nat → Nat) : Nat → Nat → Nat × (Nat → Int32) → kPS
  | 0, _, s => (false, s)
  | d + 1, l, s => kFold (kStep M l (kPl M d)) 8 (false, s)
theorem kStep_done {M : Nat → Nat} {l : Nat} {rec : Nat → Nat × (Nat → Int32) → kPS} {g : Nat} {s : kPS} (h : s.1 = true) : kStep M l rec g s = s := if_pos h
theorem kFold_done {M : Nat → Nat} {l : Nat} {rec : Nat → Nat × (Nat → Int32) → kPS} {s0 : kPS} {i : Nat} (h : (kFold (kStep M l rec) i s0).1 = true) : ∀ k, kFold (kStep M l rec) (i + k) s0 = kFold (kStep M l rec) i s0
  | 0 => rfl
  | k + 1 => by
    have ih := kFold_done h k
    show kStep M l rec (i + k) (kFold (kStep M l rec) (i + k) s0) = _
    rw [ih]
    exact kStep_done h
theorem kFold_hit {M : Nat → Nat} {l : Nat} {rec : Nat → Nat × (Nat → Int32) → kPS} {s0 s : kPS} {i n : Nat} (hi : i < n) (h : kFold (kStep M l rec) (i + 1) s0 = s) (hs : s.1 = true) : kFold (kStep M l rec) n s0 = s := by
  have h2 := kFold_done (M := M) (l := l) (rec := rec) (s0 := s0) (i := i + 1) (by rw [h]; exact hs) (n - (i + 1))
  rw [show i + 1 + (n - (i + 1)) = n by omega] at h2
  rw [h2, h]
/-- who holds whom: nobody, or one of the eight -/
def kLo (lo : Nat → Int32) : Prop := ∀ g, g < 8 → lo g = (-1 : Int32) ∨ ∃ l, l < 8 ∧ lo g = nI l
theorem kLo_upd {lo : Nat → Int32} (h : kLo lo) {g l : Nat} (hl : l < 8) : kLo (upd lo g (nI l)) := by
  intro q hq
  unfold upd
  split
  · exact Or.inr ⟨l, hl, rfl⟩
  · exact h q hq
theorem kLo_cl {lo : Nat → Int32} (h : kLo lo) {g : Nat} (hg : g < 8) (hn : ¬ lo g = (-1 : Int32)) : lo g = nI (lo g).toNatClampNeg ∧ (lo g).toNatClampNeg < 8 := by
  rcases h g hg with e | ⟨l, hl, e⟩
  · exact absurd e hn
  · rw [e, nI_clamp (by omega)]
    exact ⟨rfl, hl⟩
theorem kPl_inv (M : Nat → Nat) : ∀ (d l : Nat) (s : Nat × (Nat → Int32)), l < 8 → s.1 < 256 → kLo s.2 → (kPl M d l s).2.1 < 256 ∧ kLo (kPl M d l s).2.2
  | 0, _, s, _, h1, h2 => ⟨h1, h2⟩
  | d + 1, l, s, hl, h1, h2 => by
    have K : ∀ n, n ≤ 8 → (kFold (kStep M l (kPl M d)) n (false, s)).2.1 < 256 ∧ kLo (kFold (kStep M l (kPl M d)) n (false, s)).2.2 := by
      intro n
      induction n with
      | zero => intro _; exact ⟨h1, h2⟩
      | succ n ih =>
        intro hn
        obtain ⟨a, b⟩ := ih (by omega)
        show (kStep M l (kPl M d) n (kFold (kStep M l (kPl M d)) n (false, s))).2.1 < 256 ∧ kLo (kStep M l (kPl M d) n (kFold (kStep M l (kPl M d)) n (false, s))).2.2
        generalize kFold (kStep M l (kPl M d)) n (false, s) = t at a b
        unfold kStep
        split
        · exact ⟨a, b⟩
        · split
          · exact ⟨a, b⟩
          · split
            · exact ⟨kclr_lt a, kLo_upd b hl⟩
            · rename_i hne
              have hc := kLo_cl b (by omega) hne
              have r := kPl_inv M d (t.2.2 n).toNatClampNeg (kclr t.2.1 n, t.2.2) hc.2 (kclr_lt a) b
              split
              · exact ⟨r.1, kLo_upd r.2 hl⟩
              · exact r
    exact K 8 (Nat.le_refl 8)
/-- the most couples, counted up to what is enough -/
def kMCs (M : Nat → Nat) (fr free enough : Nat) : Nat → Nat × (Nat → Int32)
  | 0 => (0, fun _ => (-1 : Int32))
  | k + 1 => if (kMCs M fr free enough k).1 < enough then
      ((kMCs M fr free enough k).1 + (if (kPl M 8 (fr + k) (free, (kMCs M fr free enough k).2)).1 = true then 1 else 0), (kPl M 8 (fr + k) (free, (kMCs M fr free enough k).2)).2.2)
      else kMCs M fr free enough k
def kMC (M : Nat → Nat) (fr free enough : Nat) : Nat := (kMCs M fr free enough (8 - fr)).1
theorem kMCs_le (M : Nat → Nat) (fr free enough : Nat) : ∀ k, (kMCs M fr free enough k).1 ≤ k
  | 0 => Nat.le_refl 0
  | k + 1 => by
    have ih := kMCs_le M fr free enough k
    show (if _ then _ else _ : Nat × (Nat → Int32)).1 ≤ _
    split
    · show _ + (if _ then _ else _) ≤ _
      split <;> omega
    · omega
theorem kMC_le (M : Nat → Nat) (fr free enough : Nat) : kMC M fr free enough ≤ 8 := Nat.le_trans (kMCs_le M fr free enough (8 - fr)) (by omega)
theorem kMCs_stay {M : Nat → Nat} {fr free enough k : Nat} (h : enough ≤ (kMCs M fr free enough k).1) : ∀ j, kMCs M fr free enough (k + j) = kMCs M fr free enough k
  | 0 => rfl
  | j + 1 => by
    have ih := kMCs_stay h j
    show (if (kMCs M fr free enough (k + j)).1 < enough then _ else kMCs M fr free enough (k + j)) = _
    rw [ih, if_neg (by omega)]
theorem kLo_m : kLo (fun _ => (-1 : Int32)) := fun _ _ => Or.inl rfl
theorem kMCs_lo (M : Nat → Nat) {fr free enough : Nat} (hf : free < 256) : ∀ k, fr + k ≤ 8 → kLo (kMCs M fr free enough k).2
  | 0, _ => kLo_m
  | k + 1, h => by
    have ih := kMCs_lo M (fr := fr) (enough := enough) hf k (by omega)
    show kLo (if _ then _ else _ : Nat × (Nat → Int32)).2
    split
    · exact (kPl_inv M 8 (fr + k) (free, _) (by omega) hf ih).2
    · exact ih
/-- the first place that holds, else n -/
def kff1 (p : Nat → Bool) : Nat → Nat
  | 0 => 0
  | n + 1 => if kff1 p n < n then kff1 p n else if p n = true then n else n + 1
theorem kff1_le (p : Nat → Bool) : ∀ n, kff1 p n ≤ n
  | 0 => Nat.le_refl 0
  | n + 1 => by
    have := kff1_le p n
    unfold kff1
    split
    · omega
    · split <;> omega
theorem kff1_stay {p : Nat → Bool} {i : Nat} (h : kff1 p (i + 1) = i) : ∀ k, kff1 p (i + 1 + k) = i
  | 0 => h
  | k + 1 => by
    have ih := kff1_stay h k
    show (if kff1 p (i + 1 + k) < i + 1 + k then kff1 p (i + 1 + k) else _) = _
    rw [ih, if_pos (by omega)]
theorem kff1_hit {p : Nat → Bool} {i n : Nat} (hi : i < n) (h : kff1 p i = i) (hp : p i = true) : kff1 p n = i := by
  have h1 : kff1 p (i + 1) = i := by
    show (if kff1 p i < i then _ else _) = _
    rw [if_neg (by omega), if_pos hp]
  have h2 := kff1_stay h1 (n - (i + 1))
  rw [show i + 1 + (n - (i + 1)) = n by omega] at h2
  exact h2
theorem kff1_miss {p : Nat → Bool} {i : Nat} (h : kff1 p i = i) (hp : ¬ p i = true) : kff1 p (i + 1) = i + 1 := by
  show (if kff1 p i < i then _ else _) = _
  rw [if_neg (by omega), if_neg hp]
/-- is a follower the one to choose? -/
def kFP (M : Nat → Nat) (l free due g : Nat) : Bool := decide (¬ (M l &&& free &&& 2 ^ g = 0) ∧ kMC M (l + 1) (kclr free g) (due - 1) = due - 1)
def kFF (M : Nat → Nat) (l free due : Nat) : Nat := kff1 (kFP M l free due) 8
def kFFv (M : Nat → Nat) (l free due : Nat) : Int32 := if kFF M l free due < 8 then nI (kFF M l free due) else (-1 : Int32)
/-- the couples chosen: due, free, followers -/
def kCh (M : Nat → Nat) (c : Nat) (fo : Nat → Int32) : Nat → Nat × Nat × (Nat → Int32)
  | 0 => (c, 255, fo)
  | i + 1 => if 0 < (kCh M c fo i).1 ∧ kFF M i (kCh M c fo i).2.1 (kCh M c fo i).1 < 8 then
      ((kCh M c fo i).1 - 1, kclr (kCh M c fo i).2.1 (kFF M i (kCh M c fo i).2.1 (kCh M c fo i).1), upd (kCh M c fo i).2.2 i (nI (kFF M i (kCh M c fo i).2.1 (kCh M c fo i).1)))
      else ((kCh M c fo i).1, (kCh M c fo i).2.1, upd (kCh M c fo i).2.2 i (-1 : Int32))
theorem kCh_lt (M : Nat → Nat) (c : Nat) (fo : Nat → Int32) : ∀ i, (kCh M c fo i).2.1 < 256
  | 0 => by show 255 < 256; decide
  | i + 1 => by
    have ih := kCh_lt M c fo i
    show (if _ then _ else _ : Nat × Nat × (Nat → Int32)).2.1 < _
    split
    · exact kclr_lt ih
    · exact ih
theorem kCh_le (M : Nat → Nat) (c : Nat) (fo : Nat → Int32) : ∀ i, (kCh M c fo i).1 ≤ c
  | 0 => Nat.le_refl c
  | i + 1 => by
    have ih := kCh_le M c fo i
    show (if _ then _ else _ : Nat × Nat × (Nat → Int32)).1 ≤ _
    split
    · show _ - 1 ≤ _; omega
    · exact ih
/-- who may dance with whom, as bits -/
def kMay (rl rf : Nat) (d : Nat → Nat → Int32) (l : Nat) : Nat := if ¬ (rl / 2 ^ l &&& 1 = 0) then knf rf (d l) 8 else 0
theorem kMay_lt (rl rf : Nat) (d : Nat → Nat → Int32) (l : Nat) : kMay rl rf d l < 256 := by
  unfold kMay
  split
  · exact knf_lt rf (d l) 8
  · decide
/-- bits set among eight -/
def kpop (n : Nat) : Nat := n % 2 + n / 2 % 2 + n / 4 % 2 + n / 8 % 2 + n / 16 % 2 + n / 32 % 2 + n / 64 % 2 + n / 128 % 2
def kb1 (x : Int32) : Int32 := x - ((x.toUInt32 >>> ((nI 1).toUInt32 &&& Int32.toUInt32 31)).toInt32 &&& 1431655765)
def kb2 (x : Int32) : Int32 := (x &&& 858993459) + ((x.toUInt32 >>> ((nI 2).toUInt32 &&& Int32.toUInt32 31)).toInt32 &&& 858993459)
def kb3 (x : Int32) : Int32 := (x + (x.toUInt32 >>> ((nI 4).toUInt32 &&& Int32.toUInt32 31)).toInt32) &&& 252645135
def kb4 (x : Int32) : Int32 := x + (x.toUInt32 >>> ((nI 8).toUInt32 &&& Int32.toUInt32 31)).toInt32
def kb5 (x : Int32) : Int32 := x + (x.toUInt32 >>> ((nI 16).toUInt32 &&& Int32.toUInt32 31)).toInt32
theorem kbc_ok (n : Nat) (h : n < 256) : kb5 (kb4 (kb3 (kb2 (kb1 (nI n))))) &&& nI 63 = nI (kpop n) := by
  have h9 : ∀ n, n < 256 → kb5 (kb4 (kb3 (kb2 (kb1 (nI n))))) &&& nI 63 = nI (kpop n) := by decide +kernel
  exact h9 n h
abbrev rmPl (d : Nat) : Room := { frames := d, cells := 0, slots := 0, locals := 25 * d }
theorem kStep_skip {M : Nat → Nat} {l g u : Nat} {rec : Nat → Nat × (Nat → Int32) → kPS} {lo : Nat → Int32} (h : M l &&& u &&& 2 ^ g = 0) : kStep M l rec g (false, u, lo) = (false, u, lo) := by
  unfold kStep
  rw [if_neg (show ¬ false = true from Bool.false_ne_true), if_pos h]
theorem kStep_free {M : Nat → Nat} {l g u : Nat} {rec : Nat → Nat × (Nat → Int32) → kPS} {lo : Nat → Int32} (h : ¬ M l &&& u &&& 2 ^ g = 0) (h2 : lo g = (-1 : Int32)) : kStep M l rec g (false, u, lo) = (true, kclr u g, upd lo g (nI l)) := by
  unfold kStep
  rw [if_neg (show ¬ false = true from Bool.false_ne_true), if_neg h, if_pos h2]
theorem kStep_rt {M : Nat → Nat} {l g u : Nat} {rec : Nat → Nat × (Nat → Int32) → kPS} {lo : Nat → Int32} (h : ¬ M l &&& u &&& 2 ^ g = 0) (h2 : ¬ lo g = (-1 : Int32)) (h3 : (rec (lo g).toNatClampNeg (kclr u g, lo)).1 = true) : kStep M l rec g (false, u, lo) = (true, (rec (lo g).toNatClampNeg (kclr u g, lo)).2.1, upd (rec (lo g).toNatClampNeg (kclr u g, lo)).2.2 g (nI l)) := by
  unfold kStep
  rw [if_neg (show ¬ false = true from Bool.false_ne_true), if_neg h, if_neg h2, if_pos h3]
theorem kStep_rf {M : Nat → Nat} {l g u : Nat} {rec : Nat → Nat × (Nat → Int32) → kPS} {lo : Nat → Int32} (h : ¬ M l &&& u &&& 2 ^ g = 0) (h2 : ¬ lo g = (-1 : Int32)) (h3 : ¬ (rec (lo g).toNatClampNeg (kclr u g, lo)).1 = true) : kStep M l rec g (false, u, lo) = (false, (rec (lo g).toNatClampNeg (kclr u g, lo)).2.1, (rec (lo g).toNatClampNeg (kclr u g, lo)).2.2) := by
  unfold kStep
  rw [if_neg (show ¬ false = true from Bool.false_ne_true), if_neg h, if_neg h2, if_neg h3]
theorem kMCs_y {M : Nat → Nat} {fr free en q : Nat} (h : (kMCs M fr free en q).1 < en) (hp : (kPl M 8 (fr + q) (free, (kMCs M fr free en q).2)).1 = true) : kMCs M fr free en (q + 1) = ((kMCs M fr free en q).1 + 1, (kPl M 8 (fr + q) (free, (kMCs M fr free en q).2)).2.2) := by
  show (if _ then _ else _) = _
  rw [if_pos h, if_pos hp]
theorem kMCs_n {M : Nat → Nat} {fr free en q : Nat} (h : (kMCs M fr free en q).1 < en) (hp : ¬ (kPl M 8 (fr + q) (free, (kMCs M fr free en q).2)).1 = true) : kMCs M fr free en (q + 1) = ((kMCs M fr free en q).1 + 0, (kPl M 8 (fr + q) (free, (kMCs M fr free en q).2)).2.2) := by
  show (if _ then _ else _) = _
  rw [if_pos h, if_neg hp]
theorem kMC_x1 {M : Nat → Nat} {fr free en q : Nat} (h1 : q ≤ 8 - fr) (h : 8 ≤ fr + q) : nI (kMCs M fr free en q).1 = nI (kMC M fr free en) := by
  unfold kMC
  rw [show 8 - fr = q by omega]
theorem kMC_x2 {M : Nat → Nat} {fr free en q : Nat} (h1 : q ≤ 8 - fr) (h : en ≤ (kMCs M fr free en q).1) : nI (kMCs M fr free en q).1 = nI (kMC M fr free en) := by
  unfold kMC
  rw [show 8 - fr = q + (8 - fr - q) by omega, kMCs_stay h]
theorem kcp_x {h g : Nat → Int32} {i : Nat} {x : Int32} (e : x = h i) (j : Nat) : upd (kcp h g i) i x j = kcp h g (i + 1) j := by rw [e]; exact kcp_s h g i j
theorem kdec {a : Nat} (h : 1 ≤ a) : nI a + Int32.ofInt (-1) = nI (a - 1) := by
  obtain ⟨b, rfl⟩ : ∃ b, a = b + 1 := ⟨a - 1, by omega⟩
  exact pk_m1 b
theorem kFFv_n {M : Nat → Nat} {l free due : Nat} (h : ¬ kFFv M l free due = (-1 : Int32)) : kFFv M l free due = nI (kFF M l free due) ∧ kFF M l free due < 8 := by
  unfold kFFv at h ⊢
  by_cases q : kFF M l free due < 8
  · rw [if_pos q]; exact ⟨rfl, q⟩
  · rw [if_neg q] at h; exact absurd rfl h
theorem kFFv_m {M : Nat → Nat} {l free due : Nat} (h : kFFv M l free due = (-1 : Int32)) : ¬ kFF M l free due < 8 := by
  intro q
  unfold kFFv at h
  rw [if_pos q] at h
  exact nI_ne1 (by omega) h
theorem kFF_hit {M : Nat → Nat} {l free due i : Nat} (hi : i < 8) (h : kff1 (kFP M l free due) i = i) (h1 : ¬ (M l &&& free &&& 2 ^ i = 0)) (h2 : kMC M (l + 1) (kclr free i) (due - 1) = due - 1) : nI i = kFFv M l free due := by
  have e : kFF M l free due = i := kff1_hit hi h (by unfold kFP; exact decide_eq_true ⟨h1, h2⟩)
  unfold kFFv
  rw [e, if_pos hi]
theorem kFP_miss {M : Nat → Nat} {l free due i : Nat} (h : kff1 (kFP M l free due) i = i) (h2 : ¬ (¬ (M l &&& free &&& 2 ^ i = 0) ∧ kMC M (l + 1) (kclr free i) (due - 1) = due - 1)) : kff1 (kFP M l free due) (i + 1) = i + 1 := kff1_miss h (by unfold kFP; rw [decide_eq_true_eq]; exact h2)
theorem kFF_none {M : Nat → Nat} {l free due i : Nat} (hi : i = 8) (h : kff1 (kFP M l free due) i = i) : (-1 : Int32) = kFFv M l free due := by
  subst hi
  unfold kFFv kFF
  rw [h]
  rfl
theorem kCh_n1 {M : Nat → Nat} {c : Nat} {fo : Nat → Int32} {i : Nat} (h : ¬ 0 < (kCh M c fo i).1) : kCh M c fo (i + 1) = ((kCh M c fo i).1, (kCh M c fo i).2.1, upd (kCh M c fo i).2.2 i (-1 : Int32)) := by
  show (if _ then _ else _) = _
  rw [if_neg (fun q => h q.1)]
theorem kCh_n2 {M : Nat → Nat} {c : Nat} {fo : Nat → Int32} {i : Nat} (h : kFFv M i (kCh M c fo i).2.1 (kCh M c fo i).1 = (-1 : Int32)) : kCh M c fo (i + 1) = ((kCh M c fo i).1, (kCh M c fo i).2.1, upd (kCh M c fo i).2.2 i (kFFv M i (kCh M c fo i).2.1 (kCh M c fo i).1)) := by
  rw [h]
  show (if _ then _ else _) = _
  rw [if_neg (fun q => kFFv_m h q.2)]
theorem kCh_y {M : Nat → Nat} {c : Nat} {fo : Nat → Int32} {i : Nat} (h0 : 0 < (kCh M c fo i).1) (h : ¬ kFFv M i (kCh M c fo i).2.1 (kCh M c fo i).1 = (-1 : Int32)) : kCh M c fo (i + 1) = ((kCh M c fo i).1 - 1, kclr (kCh M c fo i).2.1 (kFF M i (kCh M c fo i).2.1 (kCh M c fo i).1), upd (kCh M c fo i).2.2 i (kFFv M i (kCh M c fo i).2.1 (kCh M c fo i).1)) := by
  rw [(kFFv_n h).1]
  show (if _ then _ else _) = _
  rw [if_pos ⟨h0, (kFFv_n h).2⟩]
/-- who may dance with whom now -/
def kM (p : Nat → Int32) (L F : rG) (f : rF) (d : Nat → Nat → Int32) : Nat → Nat := kMay (kS1 p L f 0).2.2 (kS2 p L F f 0).2.2 d
