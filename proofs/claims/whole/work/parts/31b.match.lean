/-! couples: the search of the class against the table of the reference -/
theorem kns_le2 {f g : Nat → Nat} : ∀ {n : Nat}, (∀ i, i < n → f i ≤ g i) → kns f n ≤ kns g n
  | 0, _ => Nat.le_refl 0
  | n + 1, h => by
    have h1 := kns_le2 (f := f) (g := g) (n := n) (fun i hi => h i (by omega))
    have h2 := h n (by omega)
    show kns f n + f n ≤ kns g n + g n
    omega
theorem kns_eq2 {f g : Nat → Nat} {n : Nat} (h : ∀ i, i < n → f i = g i) : kns f n = kns g n :=
  Nat.le_antisymm (kns_le2 fun i hi => by rw [h i hi]; exact Nat.le_refl _) (kns_le2 fun i hi => by rw [h i hi]; exact Nat.le_refl _)
theorem kns_add (f g : Nat → Nat) : ∀ n, kns (fun i => f i + g i) n = kns f n + kns g n
  | 0 => rfl
  | n + 1 => by
    have ih := kns_add f g n
    show kns (fun i => f i + g i) n + (f n + g n) = kns f n + f n + (kns g n + g n)
    omega
theorem kns_0 {f : Nat → Nat} : ∀ n, (∀ i, i < n → f i = 0) → kns f n = 0
  | 0, _ => rfl
  | n + 1, h => by
    have ih := kns_0 (f := f) n (fun i hi => h i (by omega))
    have h2 := h n (by omega)
    show kns f n + f n = 0
    omega
theorem kns_one {k : Nat} : ∀ {n : Nat}, k < n → kns (fun i => if i = k then 1 else 0) n = 1
  | 0, h => absurd h (Nat.not_lt_zero k)
  | n + 1, h => by
    show kns (fun i => if i = k then 1 else 0) n + (if n = k then 1 else 0) = 1
    by_cases e : n = k
    · rw [if_pos e, kns_0 n (fun i hi => if_neg (by omega))]
    · rw [if_neg e, kns_one (k := k) (n := n) (by omega)]
theorem kns_pt {f g : Nat → Nat} {k n : Nat} (hk : k < n) (h : ∀ i, i < n → f i + (if i = k then 1 else 0) ≤ g i) : kns f n + 1 ≤ kns g n := by
  have e3 : kns (fun i => f i + (fun i => if i = k then 1 else 0) i) n ≤ kns g n := kns_le2 h
  rw [kns_add, kns_one hk] at e3
  exact e3
theorem kns_ptr {f g : Nat → Nat} {k n : Nat} (hk : k < n) (h : ∀ i, i < n → g i ≤ f i + (if i = k then 1 else 0)) : kns g n ≤ kns f n + 1 := by
  have e3 : kns g n ≤ kns (fun i => f i + (fun i => if i = k then 1 else 0) i) n := kns_le2 h
  rw [kns_add, kns_one hk] at e3
  exact e3
theorem kns_pos {f : Nat → Nat} : ∀ {n : Nat}, 1 ≤ kns f n → ∃ i, i < n ∧ f i ≠ 0
  | 0, h => absurd h (by show ¬ 1 ≤ 0; decide)
  | n + 1, h => by
    by_cases e : f n = 0
    · have h1 : 1 ≤ kns f n + f n := h
      obtain ⟨i, hi, hf⟩ := kns_pos (f := f) (n := n) (by omega)
      exact ⟨i, by omega, hf⟩
    · exact ⟨n, by omega, e⟩
/-- one place changed -/
theorem kns_ch {f g : Nat → Nat} {k : Nat} : ∀ {n : Nat}, k < n → (∀ i, i < n → i ≠ k → f i = g i) → kns f n + g k = kns g n + f k
  | 0, h, _ => absurd h (Nat.not_lt_zero k)
  | n + 1, h, e => by
    show kns f n + f n + g k = kns g n + g n + f k
    by_cases q : n = k
    · subst q
      have := kns_eq2 (f := f) (g := g) (n := n) (fun i hi => e i (by omega) (by omega))
      omega
    · have ih := kns_ch (f := f) (g := g) (k := k) (n := n) (by omega) (fun i hi hk => e i (by omega) hk)
      have := e n (by omega) q
      omega
theorem kbit {a i : Nat} : a &&& 2 ^ i = 0 ↔ a.testBit i = false := by
  constructor
  · intro h
    have h1 : (a &&& 2 ^ i).testBit i = false := by rw [h]; exact Nat.zero_testBit i
    rw [Nat.testBit_and, Nat.testBit_two_pow_self, Bool.and_true] at h1
    exact h1
  · intro h
    apply Nat.eq_of_testBit_eq
    intro j
    rw [Nat.testBit_and, Nat.zero_testBit]
    by_cases e : i = j
    · subst e; rw [h]; rfl
    · rw [Nat.testBit_two_pow_of_ne e, Bool.and_false]
theorem kbclr {u i j : Nat} (hi : i < 8) (hj : j < 8) : (kclr u i).testBit j = true ↔ u.testBit j = true ∧ j ≠ i := by
  have h9 : ∀ i, i < 8 → ∀ j, j < 8 → ((255 - 2 ^ i).testBit j = true ↔ j ≠ i) := by decide +kernel
  unfold kclr
  rw [Nat.testBit_and, Bool.and_eq_true, h9 i hi j hj]
/-! the table -/
def kGw (M : Nat → Nat) (l set : Nat) (P : Nat → Nat) (f : Nat) : Nat := if set.testBit f = true ∧ (M l).testBit f = true then 1 + P (kclr set f) else 0
def kGx (M : Nat → Nat) (l set : Nat) (P : Nat → Nat) : Nat → Nat
  | 0 => P set
  | f + 1 => if kGx M l set P f < kGw M l set P f then kGw M l set P f else kGx M l set P f
/-- the greatest number of couples for the last n leaders and a set of followers -/
def kG (M : Nat → Nat) : Nat → Nat → Nat
  | 0, _ => 0
  | n + 1, set => kGx M (7 - n) set (kG M n) 8
theorem kGx_ge0 (M : Nat → Nat) (l set : Nat) (P : Nat → Nat) : ∀ n, P set ≤ kGx M l set P n
  | 0 => Nat.le_refl _
  | n + 1 => by
    have ih := kGx_ge0 M l set P n
    show _ ≤ (if _ then _ else _)
    split <;> omega
theorem kGx_ge {M : Nat → Nat} {l set : Nat} {P : Nat → Nat} {f : Nat} (h1 : set.testBit f = true) (h2 : (M l).testBit f = true) : ∀ n, f < n → 1 + P (kclr set f) ≤ kGx M l set P n
  | 0, h => absurd h (Nat.not_lt_zero f)
  | n + 1, h => by
    show _ ≤ (if _ then _ else _)
    by_cases e : f = n
    · subst e
      have e9 : kGw M l set P f = 1 + P (kclr set f) := if_pos ⟨h1, h2⟩
      split <;> omega
    · have ih := kGx_ge (M := M) (l := l) (P := P) h1 h2 n (by omega)
      split <;> omega
theorem kGx_le {M : Nat → Nat} {l set : Nat} {P : Nat → Nat} {c : Nat} (h0 : P set ≤ c) : ∀ n, (∀ f, f < n → set.testBit f = true → (M l).testBit f = true → 1 + P (kclr set f) ≤ c) → kGx M l set P n ≤ c
  | 0, _ => h0
  | n + 1, h => by
    have ih := kGx_le (M := M) (l := l) h0 n (fun f hf => h f (by omega))
    have h9 : kGw M l set P n ≤ c := by
      unfold kGw
      split
      · rename_i q; exact h n (by omega) q.1 q.2
      · exact Nat.zero_le c
    show (if _ then _ else _) ≤ c
    split <;> assumption
/-- no more couples than a cover has -/
theorem kG_up {M w : Nat → Nat} {Z : Nat → Bool} : ∀ n, n ≤ 8 → ∀ set : Nat, (∀ l, 8 - n ≤ l → l < 8 → (∀ f, f < 8 → (M l).testBit f = true → set.testBit f = true → Z f = true) ∨ (∃ f, f < 8 ∧ Z f = false ∧ w f = l + 1)) →
    kG M n set ≤ kns (fun f => if set.testBit f = true ∧ Z f = true then 1 else 0) 8 + kns (fun f => if Z f = false ∧ 9 - n ≤ w f then 1 else 0) 8
  | 0, _, _, _ => Nat.zero_le _
  | n + 1, hn, set, hc => by
    have hB : kns (fun f => if Z f = false ∧ 9 - n ≤ w f then 1 else 0) 8 ≤ kns (fun f => if Z f = false ∧ 9 - (n + 1) ≤ w f then 1 else 0) 8 := kns_le2 fun i _ => by
      (try dsimp only)
      by_cases q : Z i = false ∧ 9 - n ≤ w i
      · rw [if_pos q, if_pos ⟨q.1, by have := q.2; omega⟩]; exact Nat.le_refl 1
      · rw [if_neg q]; exact Nat.zero_le _
    show kGx M (7 - n) set (kG M n) 8 ≤ _
    refine kGx_le ?_ 8 ?_
    · have ih := kG_up (M := M) (w := w) (Z := Z) n (by omega) set (fun l h1 h2 => hc l (by omega) h2)
      omega
    · intro f hf b1 b2
      have ih := kG_up (M := M) (w := w) (Z := Z) n (by omega) (kclr set f) (fun l h1 h2 => by
        rcases hc l (by omega) h2 with q | q
        · exact Or.inl fun g hg c1 c2 => q g hg c1 ((kbclr hf hg).mp c2).1
        · exact Or.inr q)
      rcases hc (7 - n) (by omega) (by omega) with q | ⟨f0, h0, hz, hw⟩
      · have hzf := q f hf b2 b1
        have hA : kns (fun f9 => if (kclr set f).testBit f9 = true ∧ Z f9 = true then 1 else 0) 8 + 1 ≤ kns (fun f => if set.testBit f = true ∧ Z f = true then 1 else 0) 8 := kns_pt hf fun i hi => by
          (try dsimp only)
          by_cases e : i = f
          · subst e
            rw [if_neg (fun q => ((kbclr hf hf).mp q.1).2 rfl), if_pos rfl, if_pos ⟨b1, hzf⟩]; exact Nat.le_refl 1
          · rw [if_neg e]
            by_cases q9 : (kclr set f).testBit i = true ∧ Z i = true
            · rw [if_pos q9, if_pos ⟨((kbclr hf hi).mp q9.1).1, q9.2⟩]; exact Nat.le_refl 1
            · rw [if_neg q9]; exact Nat.zero_le _
        omega
      · have hA : kns (fun f9 => if (kclr set f).testBit f9 = true ∧ Z f9 = true then 1 else 0) 8 ≤ kns (fun f => if set.testBit f = true ∧ Z f = true then 1 else 0) 8 := kns_le2 fun i hi => by
          (try dsimp only)
          by_cases q9 : (kclr set f).testBit i = true ∧ Z i = true
          · rw [if_pos q9, if_pos ⟨((kbclr hf hi).mp q9.1).1, q9.2⟩]; exact Nat.le_refl 1
          · rw [if_neg q9]; exact Nat.zero_le _
        have hB2 : kns (fun f => if Z f = false ∧ 9 - n ≤ w f then 1 else 0) 8 + 1 ≤ kns (fun f => if Z f = false ∧ 9 - (n + 1) ≤ w f then 1 else 0) 8 := kns_pt h0 fun i _ => by
          (try dsimp only)
          by_cases e : i = f0
          · subst e
            rw [if_neg (fun q => by have := q.2; omega), if_pos rfl, if_pos ⟨hz, by omega⟩]; exact Nat.le_refl 1
          · rw [if_neg e]
            by_cases q : Z i = false ∧ 9 - n ≤ w i
            · rw [if_pos q, if_pos ⟨q.1, by have := q.2; omega⟩]; exact Nat.le_refl 1
            · rw [if_neg q]; exact Nat.zero_le _
        omega
/-- as many couples as a way to pair has -/
theorem kG_lo {M w : Nat → Nat} (h8 : ∀ f, f < 8 → w f ≤ 8) (hed : ∀ f, f < 8 → w f ≠ 0 → (M (w f - 1)).testBit f = true) (hinj : ∀ f g, f < 8 → g < 8 → w f = w g → w f ≠ 0 → f = g) : ∀ n, n ≤ 8 → ∀ set : Nat,
    kns (fun f => if set.testBit f = true ∧ 9 - n ≤ w f then 1 else 0) 8 ≤ kG M n set
  | 0, _, set => by
    rw [kns_0 8 fun i hi => if_neg (fun q => by have := q.2; have := h8 i hi; omega)]
    exact Nat.zero_le _
  | n + 1, hn, set => by
    show _ ≤ kGx M (7 - n) set (kG M n) 8
    by_cases hx : ∃ f0, f0 < 8 ∧ set.testBit f0 = true ∧ w f0 = 8 - n
    · obtain ⟨f0, hf0, b0, hw0⟩ := hx
      have ih := kG_lo h8 hed hinj n (by omega) (kclr set f0)
      have he := hed f0 hf0 (by omega)
      rw [hw0, show 8 - n - 1 = 7 - n by omega] at he
      have hg := kGx_ge (M := M) (l := 7 - n) (P := kG M n) b0 he 8 hf0
      have hA : kns (fun f => if set.testBit f = true ∧ 9 - (n + 1) ≤ w f then 1 else 0) 8 ≤ kns (fun f => if (kclr set f0).testBit f = true ∧ 9 - n ≤ w f then 1 else 0) 8 + 1 := kns_ptr hf0 fun i hi => by
        (try dsimp only)
        by_cases e : i = f0
        · rw [if_pos e]; split <;> omega
        · rw [if_neg e]
          by_cases q : set.testBit i = true ∧ 9 - (n + 1) ≤ w i
          · have : w i ≠ 8 - n := fun q9 => e (hinj i f0 hi hf0 (by omega) (by omega))
            rw [if_pos q, if_pos ⟨(kbclr hf0 hi).mpr ⟨q.1, e⟩, by have := q.2; omega⟩]; exact Nat.le_refl 1
          · rw [if_neg q]; exact Nat.zero_le _
      omega
    · have ih := kG_lo h8 hed hinj n (by omega) set
      have hg := kGx_ge0 M (7 - n) set (kG M n) 8
      have hA : kns (fun f => if set.testBit f = true ∧ 9 - (n + 1) ≤ w f then 1 else 0) 8 ≤ kns (fun f => if set.testBit f = true ∧ 9 - n ≤ w f then 1 else 0) 8 := kns_le2 fun i hi => by
        (try dsimp only)
        by_cases q : set.testBit i = true ∧ 9 - (n + 1) ≤ w i
        · have : w i ≠ 8 - n := fun q9 => hx ⟨i, hi, q.1, q9⟩
          rw [if_pos q, if_pos ⟨q.1, by have := q.2; omega⟩]; exact Nat.le_refl 1
        · rw [if_neg q]; exact Nat.zero_le _
      omega
/-! who holds whom, as numbers: 0 for nobody -/
def kw (lo : Nat → Int32) (f : Nat) : Nat := if lo f = (-1 : Int32) then 0 else (lo f).toNatClampNeg + 1
theorem kw_upd (lo : Nat → Int32) {g l : Nat} (hl : l < 8) (f : Nat) : kw (upd lo g (nI l)) f = if f = g then l + 1 else kw lo f := by
  unfold kw
  by_cases e : f = g
  · rw [show upd lo g (nI l) f = nI l from by rw [e]; exact pk_us, if_neg (nI_ne1 (by omega)), nI_clamp (by omega), if_pos e]
  · rw [pk_un e, if_neg e]
theorem kw_0 {lo : Nat → Int32} {f : Nat} : kw lo f = 0 ↔ lo f = (-1 : Int32) := by
  unfold kw
  by_cases e : lo f = (-1 : Int32)
  · rw [if_pos e]; exact ⟨fun _ => e, fun _ => rfl⟩
  · rw [if_neg e]; exact ⟨fun q => absurd q (by omega), fun q => absurd q e⟩
theorem kw_y {lo : Nat → Int32} {f : Nat} (h : lo f ≠ (-1 : Int32)) : kw lo f = (lo f).toNatClampNeg + 1 := if_neg h
theorem kw_8 {lo : Nat → Int32} (h : kLo lo) {f : Nat} (hf : f < 8) : kw lo f ≤ 8 := by
  unfold kw
  split
  · exact Nat.zero_le _
  · rename_i q
    have := (kLo_cl h hf q).2
    omega
abbrev kcb (u : Nat) : Nat := kns (fun f => if u.testBit f = true then 1 else 0) 8
abbrev kcw (lo : Nat → Int32) (m : Nat) : Nat := kns (fun f => if kw lo f = m then 1 else 0) 8
abbrev kcm (lo : Nat → Int32) : Nat := kns (fun f => if kw lo f = 0 then 0 else 1) 8
def kSb (u' u : Nat) : Prop := ∀ f, f < 8 → u'.testBit f = true → u.testBit f = true
def kCl (M : Nat → Nat) (u : Nat) (lo : Nat → Int32) (Z : Nat → Bool) : Prop := ∀ f, f < 8 → Z f = true → kw lo f ≠ 0 ∧ ∀ g, g < 8 → (M (kw lo f - 1)).testBit g = true → u.testBit g = true → Z g = true
theorem kSb_r (u : Nat) : kSb u u := fun _ _ h => h
theorem kSb_t {a b c : Nat} (h1 : kSb a b) (h2 : kSb b c) : kSb a c := fun f hf q => h2 f hf (h1 f hf q)
theorem kSb_c {u i : Nat} (hi : i < 8) : kSb (kclr u i) u := fun f hf q => ((kbclr hi hf).mp q).1
theorem kCl_s {M : Nat → Nat} {u u' : Nat} {lo : Nat → Int32} {Z : Nat → Bool} (h : kSb u' u) (hc : kCl M u lo Z) : kCl M u' lo Z := fun f hf hz => ⟨(hc f hf hz).1, fun g hg a b => (hc f hf hz).2 g hg a (h g hg b)⟩
theorem kStep_cs (M : Nat → Nat) (l : Nat) (rec : Nat → Nat × (Nat → Int32) → kPS) (g u : Nat) (lo : Nat → Int32) :
    (¬ ((M l).testBit g = true ∧ u.testBit g = true) ∧ kStep M l rec g (false, u, lo) = (false, u, lo)) ∨ ((M l).testBit g = true ∧ u.testBit g = true ∧ lo g = (-1 : Int32) ∧ kStep M l rec g (false, u, lo) = (true, kclr u g, upd lo g (nI l))) ∨
    ((M l).testBit g = true ∧ u.testBit g = true ∧ lo g ≠ (-1 : Int32) ∧ (rec (lo g).toNatClampNeg (kclr u g, lo)).1 = true ∧ kStep M l rec g (false, u, lo) = (true, (rec (lo g).toNatClampNeg (kclr u g, lo)).2.1, upd (rec (lo g).toNatClampNeg (kclr u g, lo)).2.2 g (nI l))) ∨
    ((M l).testBit g = true ∧ u.testBit g = true ∧ lo g ≠ (-1 : Int32) ∧ (rec (lo g).toNatClampNeg (kclr u g, lo)).1 = false ∧ kStep M l rec g (false, u, lo) = (false, (rec (lo g).toNatClampNeg (kclr u g, lo)).2.1, (rec (lo g).toNatClampNeg (kclr u g, lo)).2.2)) := by
  by_cases h : M l &&& u &&& 2 ^ g = 0
  · left
    refine ⟨fun q => ?_, kStep_skip h⟩
    have := kbit.mp h
    rw [Nat.testBit_and, q.1, q.2] at this
    cases this
  · right
    have hb : (M l &&& u).testBit g = true := by
      cases e : (M l &&& u).testBit g with
      | true => rfl
      | false => exact absurd (kbit.mpr e) h
    rw [Nat.testBit_and, Bool.and_eq_true] at hb
    by_cases h2 : lo g = (-1 : Int32)
    · exact Or.inl ⟨hb.1, hb.2, h2, kStep_free h h2⟩
    · right
      by_cases h3 : (rec (lo g).toNatClampNeg (kclr u g, lo)).1 = true
      · exact Or.inl ⟨hb.1, hb.2, h2, h3, kStep_rt h h2 h3⟩
      · exact Or.inr ⟨hb.1, hb.2, h2, by simpa using h3, kStep_rf h h2 h3⟩
theorem kFold_ind {M : Nat → Nat} {l : Nat} {rec : Nat → Nat × (Nat → Int32) → kPS} {u0 : Nat} {lo0 : Nat → Int32} {I : Nat → Nat → Prop} {T : kPS → Prop} (h0 : I 0 u0)
    (hs : ∀ n un, n < 8 → I n un → (kStep M l rec n (false, un, lo0)).1 = false ∧ (kStep M l rec n (false, un, lo0)).2.2 = lo0 ∧ I (n + 1) (kStep M l rec n (false, un, lo0)).2.1 ∨ (kStep M l rec n (false, un, lo0)).1 = true ∧ T (kStep M l rec n (false, un, lo0))) :
    ∀ n, n ≤ 8 → (kFold (kStep M l rec) n (false, u0, lo0)).1 = false ∧ (kFold (kStep M l rec) n (false, u0, lo0)).2.2 = lo0 ∧ I n (kFold (kStep M l rec) n (false, u0, lo0)).2.1 ∨ (kFold (kStep M l rec) n (false, u0, lo0)).1 = true ∧ T (kFold (kStep M l rec) n (false, u0, lo0))
  | 0, _ => Or.inl ⟨rfl, rfl, h0⟩
  | n + 1, h => by
    have ih := kFold_ind (M := M) (l := l) (rec := rec) (I := I) (T := T) h0 hs n (by omega)
    show (kStep M l rec n (kFold (kStep M l rec) n (false, u0, lo0))).1 = false ∧ (kStep M l rec n (kFold (kStep M l rec) n (false, u0, lo0))).2.2 = lo0 ∧ I (n + 1) (kStep M l rec n (kFold (kStep M l rec) n (false, u0, lo0))).2.1 ∨ (kStep M l rec n (kFold (kStep M l rec) n (false, u0, lo0))).1 = true ∧ T (kStep M l rec n (kFold (kStep M l rec) n (false, u0, lo0)))
    generalize kFold (kStep M l rec) n (false, u0, lo0) = t at ih ⊢
    obtain ⟨b, un, lo⟩ := t
    rcases ih with ⟨e1, e2, e3⟩ | ⟨e1, e2⟩
    · dsimp only at e1 e2 e3
      subst e1
      subst e2
      exact hs n un (by omega) e3
    · right
      rw [kStep_done e1]
      exact ⟨e1, e2⟩
/-- a search that fails: nobody moved -/
theorem kPl_fb (M : Nat → Nat) : ∀ (d l u : Nat) (lo : Nat → Int32), (kPl M d l (u, lo)).1 = false → (kPl M d l (u, lo)).2.2 = lo ∧ kSb (kPl M d l (u, lo)).2.1 u
  | 0, _, u, _, _ => ⟨rfl, kSb_r u⟩
  | d + 1, l, u, lo, h => by
    have K := kFold_ind (M := M) (l := l) (rec := kPl M d) (u0 := u) (lo0 := lo) (I := fun _ un => kSb un u) (T := fun _ => True) (kSb_r u) (fun n un hn hI => by
      rcases kStep_cs M l (kPl M d) n un lo with ⟨-, e⟩ | ⟨-, -, -, e⟩ | ⟨-, -, -, -, e⟩ | ⟨-, -, -, e4, e⟩
      · left; rw [e]; exact ⟨rfl, rfl, hI⟩
      · right; rw [e]; exact ⟨rfl, trivial⟩
      · right; rw [e]; exact ⟨rfl, trivial⟩
      · left
        have r := kPl_fb M d _ _ _ e4
        rw [e]
        exact ⟨rfl, r.1, kSb_t r.2 (kSb_t (kSb_c hn) hI)⟩) 8 (Nat.le_refl 8)
    rcases K with ⟨-, k2, k3⟩ | ⟨k1, -⟩
    · exact ⟨k2, k3⟩
    · exact absurd (h.symm.trans k1) (by decide)
/-- a search that can't leave a full set fails -/
theorem kPl_Zf (M : Nat → Nat) (Z : Nat → Bool) : ∀ (d l u : Nat) (lo : Nat → Int32), kCl M u lo Z → (∀ g, g < 8 → (M l).testBit g = true → u.testBit g = true → Z g = true) → (kPl M d l (u, lo)).1 = false
  | 0, _, _, _, _, _ => rfl
  | d + 1, l, u, lo, hc, hl => by
    have K := kFold_ind (M := M) (l := l) (rec := kPl M d) (u0 := u) (lo0 := lo) (I := fun _ un => kSb un u) (T := fun _ => False) (kSb_r u) (fun n un hn hI => by
      have hno : (M l).testBit n = true → un.testBit n = true → lo n ≠ (-1 : Int32) := fun a b q => (hc n hn (hl n hn a (hI n hn b))).1 (kw_0.mpr q)
      rcases kStep_cs M l (kPl M d) n un lo with ⟨-, e⟩ | ⟨a, b, q, -⟩ | ⟨a, b, q, e4, -⟩ | ⟨-, -, -, e4, e⟩
      · left; rw [e]; exact ⟨rfl, rfl, hI⟩
      · exact absurd q (hno a b)
      · exfalso
        have hz := hc n hn (hl n hn a (hI n hn b))
        have e5 := kw_y q
        have r := kPl_Zf M Z d (lo n).toNatClampNeg (kclr un n) lo (kCl_s (kSb_t (kSb_c hn) hI) hc) (fun g hg c1 c2 => hz.2 g hg (by rw [e5, Nat.add_sub_cancel]; exact c1) (hI g hg (kSb_c hn g hg c2)))
        exact absurd (r.symm.trans e4) (by decide)
      · left
        have r := kPl_fb M d _ _ _ e4
        rw [e]
        exact ⟨rfl, r.1, kSb_t r.2 (kSb_t (kSb_c hn) hI)⟩) 8 (Nat.le_refl 8)
    rcases K with ⟨k1, -, -⟩ | ⟨-, k2⟩
    · exact k1
    · exact k2.elim
theorem kcb_c {u i : Nat} (hi : i < 8) (h : u.testBit i = true) : kcb (kclr u i) + 1 ≤ kcb u := kns_pt hi fun j hj => by
  (try dsimp only)
  by_cases e : j = i
  · subst e
    rw [if_neg (fun q => ((kbclr hi hi).mp q).2 rfl), if_pos rfl, if_pos h]; exact Nat.le_refl 1
  · rw [if_neg e]
    by_cases q : (kclr u i).testBit j = true
    · rw [if_pos q, if_pos ((kbclr hi hj).mp q).1]; exact Nat.le_refl 1
    · rw [if_neg q]; exact Nat.zero_le _
theorem kcb_s {u u' : Nat} (h : kSb u' u) : kcb u' ≤ kcb u := kns_le2 fun j hj => by
  (try dsimp only)
  by_cases q : u'.testBit j = true
  · rw [if_pos q, if_pos (h j hj q)]; exact Nat.le_refl 1
  · rw [if_neg q]; exact Nat.zero_le _
/-- what a search that fails has seen: nobody is free there -/
theorem kPl_fl (M : Nat → Nat) : ∀ (d l u : Nat) (lo : Nat → Int32), kcb u ≤ d → (kPl M d l (u, lo)).1 = false →
    (∀ f, f < 8 → (M l).testBit f = true → (kPl M d l (u, lo)).2.1.testBit f = true → False) ∧
    (∀ f, f < 8 → u.testBit f = true → (kPl M d l (u, lo)).2.1.testBit f = false → kw lo f ≠ 0 ∧ ∀ g, g < 8 → (M (kw lo f - 1)).testBit g = true → (kPl M d l (u, lo)).2.1.testBit g = true → False)
  | 0, l, u, lo, hd, _ => by
    have hu : ∀ f, f < 8 → u.testBit f = true → False := fun f hf q => by
      have h1 := kcb_c hf q
      omega
    exact ⟨fun f hf _ q => hu f hf q, fun f hf q _ => (hu f hf q).elim⟩
  | d + 1, l, u, lo, hd, h => by
    have K := kFold_ind (M := M) (l := l) (rec := kPl M d) (u0 := u) (lo0 := lo) (I := fun n un => kSb un u ∧ (∀ f, f < n → (M l).testBit f = true → un.testBit f = true → False) ∧ (∀ f, f < 8 → u.testBit f = true → un.testBit f = false → kw lo f ≠ 0 ∧ ∀ g, g < 8 → (M (kw lo f - 1)).testBit g = true → un.testBit g = true → False)) (T := fun _ => True)
      ⟨kSb_r u, fun f hf => absurd hf (Nat.not_lt_zero f), fun f _ a b => absurd (a.symm.trans b) (by decide)⟩ (fun n un hn hI => by
      obtain ⟨i1, i2, i3⟩ := hI
      rcases kStep_cs M l (kPl M d) n un lo with ⟨q, e⟩ | ⟨-, -, -, e⟩ | ⟨-, -, -, -, e⟩ | ⟨a, b, q, e4, e⟩
      · left; rw [e]
        refine ⟨rfl, rfl, i1, fun f hf c1 c2 => ?_, i3⟩
        by_cases e9 : f = n
        · subst e9; exact q ⟨c1, c2⟩
        · exact i2 f (by omega) c1 c2
      · right; rw [e]; exact ⟨rfl, trivial⟩
      · right; rw [e]; exact ⟨rfl, trivial⟩
      · left
        have r := kPl_fb M d _ _ _ e4
        have hk : kcb (kclr un n) ≤ d := by
          have h1 := kcb_c hn b
          have h2 := kcb_s i1
          omega
        have r2 := kPl_fl M d _ _ _ hk e4
        have e5 := kw_y q
        rw [e]
        (try dsimp only)
        generalize (kPl M d (lo n).toNatClampNeg (kclr un n, lo)).2.1 = u2 at r r2 ⊢
        have s1 : kSb u2 un := kSb_t r.2 (kSb_c hn)
        refine ⟨rfl, r.1, kSb_t s1 i1, fun f hf c1 c2 => ?_, fun f hf c1 c2 => ?_⟩
        · by_cases e9 : f = n
          · subst e9
            exact ((kbclr hn hn).mp (r.2 f hn c2)).2 rfl
          · exact i2 f (by omega) c1 (s1 f (by omega) c2)
        · by_cases e9 : f = n
          · subst e9
            refine ⟨by omega, fun g hg c3 c4 => r2.1 g hg ?_ c4⟩
            rw [e5, Nat.add_sub_cancel] at c3
            exact c3
          · cases c5 : un.testBit f with
            | false => exact ⟨(i3 f hf c1 c5).1, fun g hg c3 c4 => (i3 f hf c1 c5).2 g hg c3 (s1 g hg c4)⟩
            | true => exact r2.2 f hf ((kbclr hn hf).mpr ⟨c5, e9⟩) c2) 8 (Nat.le_refl 8)
    rcases K with ⟨-, -, -, k3, k4⟩ | ⟨k1, -⟩
    · exact ⟨k3, k4⟩
    · exact absurd (h.symm.trans k1) (by decide)
/-- a search that finds: one more is placed -/
def kOk (M : Nat → Nat) (l u : Nat) (lo lo' : Nat → Int32) : Prop :=
  (∀ f, f < 8 → u.testBit f = false → kw lo' f = kw lo f) ∧ (∀ f, f < 8 → kw lo' f = kw lo f ∨ ((M (kw lo' f - 1)).testBit f = true ∧ u.testBit f = true ∧ kw lo' f ≠ 0)) ∧
  (∀ m, 1 ≤ m → kcw lo' m = kcw lo m + (if m = l + 1 then 1 else 0)) ∧ kcm lo' = kcm lo + 1 ∧ (∀ Z, kCl M u lo Z → ∀ f, f < 8 → Z f = true → kw lo' f = kw lo f)
theorem kcw_u {lo : Nat → Int32} {g l m : Nat} (hg : g < 8) (hl : l < 8) : kcw (upd lo g (nI l)) m + (if kw lo g = m then 1 else 0) = kcw lo m + (if l + 1 = m then 1 else 0) := by
  have h := kns_ch (f := fun f => if kw (upd lo g (nI l)) f = m then 1 else 0) (g := fun f => if kw lo f = m then 1 else 0) hg (fun i _ hi => by (try dsimp only); rw [kw_upd lo hl, if_neg hi])
  (try dsimp only at h)
  rw [h, kw_upd lo hl g, if_pos rfl]
theorem kcm_u {lo : Nat → Int32} {g l : Nat} (hg : g < 8) (hl : l < 8) : kcm (upd lo g (nI l)) + (if kw lo g = 0 then 0 else 1) = kcm lo + 1 := by
  have h := kns_ch (f := fun f => if kw (upd lo g (nI l)) f = 0 then 0 else 1) (g := fun f => if kw lo f = 0 then 0 else 1) hg (fun i _ hi => by (try dsimp only); rw [kw_upd lo hl, if_neg hi])
  (try dsimp only at h)
  rw [h, kw_upd lo hl g, if_pos rfl, if_neg (by omega)]
theorem kPl_ok (M : Nat → Nat) : ∀ (d l u : Nat) (lo : Nat → Int32), l < 8 → kLo lo → (kPl M d l (u, lo)).1 = true → kOk M l u lo (kPl M d l (u, lo)).2.2
  | 0, _, _, _, _, _, h => absurd h (by show ¬ false = true; decide)
  | d + 1, l, u, lo, hl, hlo, h => by
    have K := kFold_ind (M := M) (l := l) (rec := kPl M d) (u0 := u) (lo0 := lo) (I := fun _ un => kSb un u) (T := fun t => kOk M l u lo t.2.2) (kSb_r u) (fun n un hn hI => by
      rcases kStep_cs M l (kPl M d) n un lo with ⟨-, e⟩ | ⟨a, b, q, e⟩ | ⟨a, b, q, e4, e⟩ | ⟨-, -, -, e4, e⟩
      · left; rw [e]; exact ⟨rfl, rfl, hI⟩
      · right; rw [e]
        have hk0 := kw_0.mpr q
        have hu := hI n hn b
        refine ⟨rfl, fun f hf c => ?_, fun f hf => ?_, fun m hm => ?_, ?_, fun Z hZ f hf hz => ?_⟩
        · show kw (upd lo n (nI l)) f = _
          rw [kw_upd lo hl, if_neg (fun e9 => by subst e9; exact absurd (hu.symm.trans c) (by decide))]
        · show kw (upd lo n (nI l)) f = _ ∨ ((M (kw (upd lo n (nI l)) f - 1)).testBit f = true ∧ _ ∧ kw (upd lo n (nI l)) f ≠ 0)
          rw [kw_upd lo hl]
          by_cases e9 : f = n
          · rw [if_pos e9]; right; subst e9
            exact ⟨by rw [Nat.add_sub_cancel]; exact a, hu, by omega⟩
          · rw [if_neg e9]; exact Or.inl rfl
        · have h9 := kcw_u (lo := lo) (g := n) (l := l) (m := m) hn hl
          show kcw (upd lo n (nI l)) m = _
          rw [hk0, if_neg (by omega)] at h9
          rw [Nat.add_zero] at h9
          rw [h9]
          by_cases e9 : l + 1 = m
          · rw [if_pos e9, if_pos e9.symm]
          · rw [if_neg e9, if_neg (fun q => e9 q.symm)]
        · have h9 := kcm_u (lo := lo) (g := n) (l := l) hn hl
          rw [hk0, if_pos rfl] at h9
          exact h9
        · show kw (upd lo n (nI l)) f = _
          rw [kw_upd lo hl, if_neg (fun e9 => by subst e9; exact (hZ f hf hz).1 hk0)]
      · right; rw [e]
        have hu := hI n hn b
        have e5 := kw_y q
        have hl2 := (kLo_cl hlo hn q).2
        obtain ⟨r1, r2, r3, r4, r5⟩ := kPl_ok M d (lo n).toNatClampNeg (kclr un n) lo hl2 hlo e4
        have hZf := fun Z => kPl_Zf M Z d (lo n).toNatClampNeg (kclr un n) lo
        generalize kPl M d (lo n).toNatClampNeg (kclr un n, lo) = t at r1 r2 r3 r4 r5 e4 hZf ⊢
        have hn0 : (kclr un n).testBit n = false := by
          cases e9 : (kclr un n).testBit n with
          | false => rfl
          | true => exact absurd rfl ((kbclr hn hn).mp e9).2
        have hkn := r1 n hn hn0
        refine ⟨rfl, fun f hf c => ?_, fun f hf => ?_, fun m hm => ?_, ?_, fun Z hZ f hf hz => ?_⟩
        · show kw (upd t.2.2 n (nI l)) f = _
          have hne : f ≠ n := fun e9 => by subst e9; exact absurd (hu.symm.trans c) (by decide)
          rw [kw_upd t.2.2 hl, if_neg hne]
          refine r1 f hf ?_
          cases e9 : (kclr un n).testBit f with
          | false => rfl
          | true => exact absurd ((hI f hf (kSb_c hn f hf e9)).symm.trans c) (by decide)
        · show kw (upd t.2.2 n (nI l)) f = _ ∨ ((M (kw (upd t.2.2 n (nI l)) f - 1)).testBit f = true ∧ _ ∧ kw (upd t.2.2 n (nI l)) f ≠ 0)
          rw [kw_upd t.2.2 hl]
          by_cases e9 : f = n
          · rw [if_pos e9]; right; subst e9
            exact ⟨by rw [Nat.add_sub_cancel]; exact a, hu, by omega⟩
          · rw [if_neg e9]
            rcases r2 f hf with r | r
            · exact Or.inl r
            · exact Or.inr ⟨r.1, hI f hf (kSb_c hn f hf r.2.1), r.2.2⟩
        · have h9 := kcw_u (lo := t.2.2) (g := n) (l := l) (m := m) hn hl
          show kcw (upd t.2.2 n (nI l)) m = _
          rw [hkn, e5, r3 m hm] at h9
          by_cases e8 : (lo n).toNatClampNeg + 1 = m
          · rw [if_pos e8, if_pos e8.symm] at h9
            by_cases e9 : l + 1 = m
            · rw [if_pos e9] at h9; rw [if_pos e9.symm]; omega
            · rw [if_neg e9] at h9; rw [if_neg (fun q => e9 q.symm)]; omega
          · rw [if_neg e8, if_neg (fun q => e8 q.symm)] at h9
            by_cases e9 : l + 1 = m
            · rw [if_pos e9] at h9; rw [if_pos e9.symm]; omega
            · rw [if_neg e9] at h9; rw [if_neg (fun q => e9 q.symm)]; omega
        · have h9 := kcm_u (lo := t.2.2) (g := n) (l := l) hn hl
          rw [hkn, e5, if_neg (by omega)] at h9
          show kcm (upd t.2.2 n (nI l)) = _
          omega
        · show kw (upd t.2.2 n (nI l)) f = _
          have hZ2 : kCl M (kclr un n) lo Z := kCl_s (kSb_t (kSb_c hn) hI) hZ
          have hne : f ≠ n := fun e9 => by
            subst e9
            have hz9 := hZ f hf hz
            have r := hZf Z hZ2 (fun g hg c1 c2 => hz9.2 g hg (by rw [e5, Nat.add_sub_cancel]; exact c1) (hI g hg (kSb_c hn g hg c2)))
            exact absurd (r.symm.trans e4) (by decide)
          rw [kw_upd t.2.2 hl, if_neg hne]
          exact r5 Z hZ2 f hf hz
      · left
        have r := kPl_fb M d _ _ _ e4
        rw [e]
        exact ⟨rfl, r.1, kSb_t r.2 (kSb_t (kSb_c hn) hI)⟩) 8 (Nat.le_refl 8)
    rcases K with ⟨k1, -, -⟩ | ⟨-, k2⟩
    · exact absurd (k1.symm.trans h) (by decide)
    · exact k2
/-- the search, leader by leader -/
def kMI (M : Nat → Nat) (fr free en k : Nat) (c : Nat) (lo : Nat → Int32) : Prop :=
  kLo lo ∧ (∀ f, f < 8 → kw lo f ≠ 0 → fr + 1 ≤ kw lo f ∧ kw lo f ≤ fr + k ∧ (M (kw lo f - 1)).testBit f = true ∧ free.testBit f = true) ∧ (∀ m, 1 ≤ m → kcw lo m ≤ 1) ∧ kcm lo = c ∧ c ≤ en ∧
  (c < en → ∃ Z, kCl M free lo Z ∧ ∀ l, fr ≤ l → l < fr + k → (∀ g, g < 8 → (M l).testBit g = true → free.testBit g = true → Z g = true) ∨ 1 ≤ kcw lo (l + 1))
theorem kMI_ok (M : Nat → Nat) {fr free : Nat} (en : Nat) (hf : free < 256) : ∀ k, fr + k ≤ 8 → kMI M fr free en k (kMCs M fr free en k).1 (kMCs M fr free en k).2
  | 0, _ => by
    have h0 : ∀ f, kw (fun _ => (-1 : Int32)) f = 0 := fun f => kw_0.mpr rfl
    refine ⟨kLo_m, fun f _ q => absurd (h0 f) q, fun m hm => ?_, ?_, Nat.zero_le _, fun _ => ⟨fun _ => false, fun f _ q => absurd q Bool.false_ne_true, fun l h1 h2 => by omega⟩⟩
    · show kns (fun f => if kw (fun _ => (-1 : Int32)) f = m then 1 else 0) 8 ≤ 1
      rw [kns_0 8 fun i _ => by (try dsimp only); rw [h0, if_neg (by omega)]]
      exact Nat.zero_le 1
    · show kns (fun f => if kw (fun _ => (-1 : Int32)) f = 0 then 0 else 1) 8 = 0
      exact kns_0 8 fun i _ => by (try dsimp only); rw [h0, if_pos rfl]
  | k + 1, hk => by
    have ih := kMI_ok M (fr := fr) (free := free) en hf k (by omega)
    by_cases hc : (kMCs M fr free en k).1 < en
    · by_cases hp : (kPl M 8 (fr + k) (free, (kMCs M fr free en k).2)).1 = true
      · rw [kMCs_y hc hp]
        obtain ⟨a1, a2, a3, a4, a5, a6⟩ := ih
        obtain ⟨Z, z1, z2⟩ := a6 hc
        have hl8 : fr + k < 8 := by omega
        have hlo2 := (kPl_inv M 8 (fr + k) (free, (kMCs M fr free en k).2) hl8 hf a1).2
        obtain ⟨r1, r2, r3, r4, r5⟩ := kPl_ok M 8 (fr + k) free (kMCs M fr free en k).2 hl8 a1 hp
        generalize kPl M 8 (fr + k) (free, (kMCs M fr free en k).2) = t at hlo2 r1 r2 r3 r4 r5 ⊢
        generalize kMCs M fr free en k = w at a1 a2 a3 a4 a5 hc z1 z2 r1 r2 r3 r4 r5 ⊢
        have hz0 : kcw w.2 (fr + k + 1) = 0 := kns_0 8 fun i hi => by
          (try dsimp only)
          by_cases q : kw w.2 i = 0
          · rw [q, if_neg (by omega)]
          · have := (a2 i hi q).2.1
            rw [if_neg (by omega)]
        refine ⟨hlo2, fun f hf8 q => ?_, fun m hm => ?_, ?_, ?_, fun _ => ⟨Z, fun f hf8 hz => ?_, fun l h1 h2 => ?_⟩⟩
        · by_cases e : kw t.2.2 f = kw w.2 f
          · show fr + 1 ≤ kw t.2.2 f ∧ kw t.2.2 f ≤ _ ∧ (M (kw t.2.2 f - 1)).testBit f = true ∧ _
            have q' : kw w.2 f ≠ 0 := by rw [← e]; exact q
            have := a2 f hf8 q'
            rw [e]
            exact ⟨this.1, by omega, this.2.2⟩
          · have hr := r2 f hf8
            have hr2 := hr.resolve_left e
            have hcw : kcw t.2.2 (kw t.2.2 f) = kcw w.2 (kw t.2.2 f) + (if kw t.2.2 f = fr + k + 1 then 1 else 0) := r3 _ (by have := hr2.2.2; omega)
            have h1 : 1 ≤ kcw t.2.2 (kw t.2.2 f) := by
              have := kns_pt (f := fun _ => 0) (g := fun f9 => if kw t.2.2 f9 = kw t.2.2 f then 1 else 0) hf8 (fun i _ => by
                (try dsimp only)
                by_cases e9 : i = f
                · rw [if_pos e9, e9, if_pos rfl]; exact Nat.le_refl _
                · rw [if_neg e9]; exact Nat.zero_le _)
              exact Nat.le_trans (Nat.le_add_left 1 _) this
            have h2 : fr + 1 ≤ kw t.2.2 f ∧ kw t.2.2 f ≤ fr + (k + 1) := by
              by_cases e9 : kw t.2.2 f = fr + k + 1
              · omega
              · rw [if_neg e9] at hcw
                obtain ⟨i, hi, hv⟩ := kns_pos (f := fun f9 => if kw w.2 f9 = kw t.2.2 f then 1 else 0) (n := 8) (by have : kcw w.2 (kw t.2.2 f) = kns (fun f9 => if kw w.2 f9 = kw t.2.2 f then 1 else 0) 8 := rfl; omega)
                have e8 : kw w.2 i = kw t.2.2 f := by
                  by_cases e7 : kw w.2 i = kw t.2.2 f
                  · exact e7
                  · exact absurd (if_neg e7) hv
                have := a2 i hi (by rw [e8]; exact q)
                omega
            exact ⟨h2.1, h2.2, hr2.1, hr2.2.1⟩
        · show kcw t.2.2 m ≤ 1
          rw [r3 m hm]
          by_cases e9 : m = fr + k + 1
          · rw [if_pos e9, e9, hz0]; exact Nat.le_refl _
          · rw [if_neg e9]; exact a3 m hm
        · show kcm t.2.2 = w.1 + 1
          rw [r4, a4]
        · show w.1 + 1 ≤ en
          omega
        · show kw t.2.2 f ≠ 0 ∧ ∀ g, g < 8 → (M (kw t.2.2 f - 1)).testBit g = true → _
          rw [r5 Z z1 f hf8 hz]
          exact z1 f hf8 hz
        · show _ ∨ 1 ≤ kcw t.2.2 (l + 1)
          rw [r3 (l + 1) (by omega)]
          by_cases e9 : l = fr + k
          · right; rw [if_pos (by omega)]; omega
          · rcases z2 l h1 (by omega) with q | q
            · exact Or.inl q
            · right; omega
      · have hp0 : (kPl M 8 (fr + k) (free, (kMCs M fr free en k).2)).1 = false := by simpa using hp
        have fb := kPl_fb M 8 (fr + k) free _ hp0
        have fl := kPl_fl M 8 (fr + k) free _ (by have := kns_le (fun f => if free.testBit f = true then 1 else 0) 1 (fun i => by (try dsimp only); split <;> omega) 8; exact this) hp0
        rw [kMCs_n hc hp]
        show kMI M fr free en (k + 1) ((kMCs M fr free en k).1 + 0) (kPl M 8 (fr + k) (free, (kMCs M fr free en k).2)).2.2
        rw [fb.1, Nat.add_zero]
        obtain ⟨a1, a2, a3, a4, a5, a6⟩ := ih
        obtain ⟨Z, z1, z2⟩ := a6 hc
        generalize (kPl M 8 (fr + k) (free, (kMCs M fr free en k).2)).2.1 = u2 at fl
        generalize kMCs M fr free en k = w at a1 a2 a3 a4 a5 hc z1 z2 fl ⊢
        have hin : ∀ g, free.testBit g = true → u2.testBit g = false → (Z g || (free.testBit g && !u2.testBit g)) = true := fun g c1 c2 => by rw [c1, c2]; simp
        have hor : ∀ g, Z g = true → (Z g || (free.testBit g && !u2.testBit g)) = true := fun g c => by rw [c]; rfl
        have hbf : ∀ g, (u2.testBit g = true → False) → u2.testBit g = false := fun g c => by
          cases e : u2.testBit g with
          | false => rfl
          | true => exact (c e).elim
        refine ⟨a1, fun f hf8 q => ?_, a3, a4, a5, fun _ => ⟨fun g => Z g || (free.testBit g && !u2.testBit g), fun f hf8 hz => ?_, fun l h1 h2 => ?_⟩⟩
        · have := a2 f hf8 q
          exact ⟨this.1, by omega, this.2.2⟩
        · cases e : Z f with
          | true =>
            have := z1 f hf8 e
            exact ⟨this.1, fun g hg c1 c2 => hor g (this.2 g hg c1 c2)⟩
          | false =>
            dsimp only at hz
            rw [e, Bool.false_or, Bool.and_eq_true, Bool.not_eq_true'] at hz
            have := fl.2 f hf8 hz.1 hz.2
            exact ⟨this.1, fun g hg c1 c2 => hin g c2 (hbf g (fun q => this.2 g hg c1 q))⟩
        · by_cases e9 : l = fr + k
          · left
            intro g hg c1 c2
            subst e9
            exact hin g c2 (hbf g (fun q => fl.1 g hg c1 q))
          · rcases z2 l h1 (by omega) with q | q
            · exact Or.inl fun g hg c1 c2 => hor g (q g hg c1 c2)
            · exact Or.inr q
    · have e : kMCs M fr free en (k + 1) = kMCs M fr free en k := if_neg hc
      rw [e]
      obtain ⟨a1, a2, a3, a4, a5, -⟩ := ih
      exact ⟨a1, fun f hf8 q => ⟨(a2 f hf8 q).1, by have := (a2 f hf8 q).2.1; omega, (a2 f hf8 q).2.2⟩, a3, a4, a5, fun q => absurd q hc⟩
/-- the class's count is the table's, up to what is enough -/
theorem kMC_G (M : Nat → Nat) {fr free : Nat} (en : Nat) (hfr : fr ≤ 8) (hf : free < 256) : kMC M fr free en = min en (kG M (8 - fr) free) := by
  have h := kMI_ok M (fr := fr) en hf (8 - fr) (by omega)
  unfold kMC
  generalize kMCs M fr free en (8 - fr) = w at h ⊢
  obtain ⟨a1, a2, a3, a4, a5, a6⟩ := h
  have hlow : w.1 ≤ kG M (8 - fr) free := by
    have hl := kG_lo (M := M) (w := kw w.2) (fun f hf8 => kw_8 a1 hf8) (fun f hf8 q => (a2 f hf8 q).2.2.1) (fun f g hf8 hg8 e q => by
      by_cases e9 : f = g
      · exact e9
      · exfalso
        have h3 := a3 (kw w.2 f) (by omega)
        have h4 := kns_pt (f := fun i => if i = g then 1 else 0) (g := fun f9 => if kw w.2 f9 = kw w.2 f then 1 else 0) hf8 (fun i _ => by
          (try dsimp only)
          by_cases e8 : i = f
          · rw [if_neg (show ¬ i = g from fun q9 => e9 (e8.symm.trans q9)), if_pos e8, e8, if_pos rfl]; exact Nat.le_refl _
          · rw [if_neg e8]
            by_cases e7 : i = g
            · rw [if_pos e7, e7, if_pos e.symm]; exact Nat.le_refl _
            · rw [if_neg e7]; exact Nat.zero_le _)
        rw [kns_one hg8] at h4
        have h5 : kcw w.2 (kw w.2 f) = kns (fun f9 => if kw w.2 f9 = kw w.2 f then 1 else 0) 8 := rfl
        omega) (8 - fr) (by omega) free
    rw [← a4]
    refine Nat.le_trans (kns_le2 fun f hf8 => ?_) hl
    (try dsimp only)
    by_cases q : kw w.2 f = 0
    · rw [if_pos q]; exact Nat.zero_le _
    · have := a2 f hf8 q
      rw [if_neg q, if_pos ⟨this.2.2.2, by omega⟩]; exact Nat.le_refl 1
  by_cases hc : w.1 < en
  · obtain ⟨Z, z1, z2⟩ := a6 hc
    have hu := kG_up (M := M) (w := kw w.2) (Z := Z) (8 - fr) (by omega) free (fun l h1 h2 => by
      rcases z2 l (by omega) (by omega) with q | q
      · exact Or.inl fun f hf8 c1 c2 => q f hf8 c1 c2
      · obtain ⟨f, hf8, hv⟩ := kns_pos q
        have e8 : kw w.2 f = l + 1 := by
          by_cases e7 : kw w.2 f = l + 1
          · exact e7
          · exact absurd (if_neg e7) hv
        cases e : Z f with
        | false => exact Or.inr ⟨f, hf8, e, e8⟩
        | true =>
          left
          intro g hg c1 c2
          exact (z1 f hf8 e).2 g hg (by rw [e8, Nat.add_sub_cancel]; exact c1) c2)
    have hs : kns (fun f => if free.testBit f = true ∧ Z f = true then 1 else 0) 8 + kns (fun f => if Z f = false ∧ 9 - (8 - fr) ≤ kw w.2 f then 1 else 0) 8 ≤ kcm w.2 := by
      rw [← kns_add]
      refine kns_le2 fun f hf8 => ?_
      (try dsimp only)
      cases e : Z f with
      | true =>
        rw [if_neg (show ¬ (true = false ∧ _) from fun q => absurd q.1 (by decide)), if_neg (z1 f hf8 e).1]
        split <;> omega
      | false =>
        rw [if_neg (show ¬ (_ ∧ false = true) from fun q => absurd q.2 (by decide))]
        by_cases q : false = false ∧ 9 - (8 - fr) ≤ kw w.2 f
        · rw [if_pos q, if_neg (by have := q.2; omega)]; exact Nat.le_refl _
        · rw [if_neg q]; exact Nat.zero_le _
    omega
  · omega
