/-! sums, bits, counts, the first that holds (rows of whole's) -/
theorem kns_le2 {f g : Nat → Nat} : ∀ {n : Nat}, (∀ i, i < n → f i ≤ g i) → kns f n ≤ kns g n
  | 0, _ => Nat.le_refl 0
  | n + 1, h => by
    have h1 := kns_le2 (f := f) (g := g) (n := n) (fun i hi => h i (by omega))
    have h2 := h n (by omega)
    show kns f n + f n ≤ kns g n + g n
    omega
theorem kns_eq2 {f g : Nat → Nat} {n : Nat} (h : ∀ i, i < n → f i = g i) : kns f n = kns g n :=
  Nat.le_antisymm (kns_le2 fun i hi => by rw [h i hi]; exact Nat.le_refl _) (kns_le2 fun i hi => by rw [h i hi]; exact Nat.le_refl _)
theorem kns_add (f g : Nat → Nat) : ∀ n, kns (fun i => f i + g i) n = kns f n + kns g n
  | 0 => rfl
  | n + 1 => by
    have ih := kns_add f g n
    show kns (fun i => f i + g i) n + (f n + g n) = kns f n + f n + (kns g n + g n)
    omega
theorem kns_0 {f : Nat → Nat} : ∀ n, (∀ i, i < n → f i = 0) → kns f n = 0
  | 0, _ => rfl
  | n + 1, h => by
    have ih := kns_0 (f := f) n (fun i hi => h i (by omega))
    have h2 := h n (by omega)
    show kns f n + f n = 0
    omega
theorem kns_one {k : Nat} : ∀ {n : Nat}, k < n → kns (fun i => if i = k then 1 else 0) n = 1
  | 0, h => absurd h (Nat.not_lt_zero k)
  | n + 1, h => by
    show kns (fun i => if i = k then 1 else 0) n + (if n = k then 1 else 0) = 1
    by_cases e : n = k
    · rw [if_pos e, kns_0 n (fun i hi => if_neg (by omega))]
    · rw [if_neg e, kns_one (k := k) (n := n) (by omega)]
theorem kns_ch {f g : Nat → Nat} {k : Nat} : ∀ {n : Nat}, k < n → (∀ i, i < n → i ≠ k → f i = g i) → kns f n + g k = kns g n + f k
  | 0, h, _ => absurd h (Nat.not_lt_zero k)
  | n + 1, h, e => by
    show kns f n + f n + g k = kns g n + g n + f k
    by_cases q : n = k
    · subst q
      have := kns_eq2 (f := f) (g := g) (n := n) (fun i hi => e i (by omega) (by omega))
      omega
    · have ih := kns_ch (f := f) (g := g) (k := k) (n := n) (by omega) (fun i hi hk => e i (by omega) hk)
      have := e n (by omega) q
      omega
theorem kbit {a i : Nat} : a &&& 2 ^ i = 0 ↔ a.testBit i = false := by
  constructor
  · intro h
    have h1 : (a &&& 2 ^ i).testBit i = false := by rw [h]; exact Nat.zero_testBit i
    rw [Nat.testBit_and, Nat.testBit_two_pow_self, Bool.and_true] at h1
    exact h1
  · intro h
    apply Nat.eq_of_testBit_eq
    intro j
    rw [Nat.testBit_and, Nat.zero_testBit]
    by_cases e : i = j
    · subst e; rw [h]; rfl
    · rw [Nat.testBit_two_pow_of_ne e, Bool.and_false]
theorem kbclr {u i j : Nat} (hi : i < 8) (hj : j < 8) : (kclr u i).testBit j = true ↔ u.testBit j = true ∧ j ≠ i := by
  have h9 : ∀ i, i < 8 → ∀ j, j < 8 → ((255 - 2 ^ i).testBit j = true ↔ j ≠ i) := by decide +kernel
  unfold kclr
  rw [Nat.testBit_and, Bool.and_eq_true, h9 i hi j hj]
theorem kbit1 {x q : Nat} : ¬ (x / 2 ^ q &&& 1 = 0) ↔ x.testBit q = true := by
  rw [Nat.testBit_eq_decide_div_mod_eq, decide_eq_true_eq, show x / 2 ^ q &&& 1 = x / 2 ^ q % 2 from Nat.and_one_is_mod _]
  omega
theorem knf_bit {rd : Nat} {row : Nat → Int32} : ∀ {n f : Nat}, f < n → ((knf rd row n).testBit f = true ↔ rd.testBit f = true ∧ row f = (-1 : Int32))
  | 0, f, h => absurd h (Nat.not_lt_zero f)
  | n + 1, f, h => by
    have hlt := knf_lt rd row n
    by_cases e : f = n
    · subst e
      by_cases q : ¬ (rd / 2 ^ f &&& 1 = 0) ∧ row f = (-1 : Int32)
      · rw [knf_y q.1 q.2, Nat.testBit_or, Nat.testBit_two_pow_self, Bool.or_true]
        exact ⟨fun _ => ⟨kbit1.mp q.1, q.2⟩, fun _ => rfl⟩
      · rw [knf_n q, Nat.testBit_lt_two_pow hlt]
        exact ⟨fun h9 => absurd h9 (by decide), fun h9 => absurd ⟨kbit1.mpr h9.1, h9.2⟩ q⟩
    · have ih := knf_bit (rd := rd) (row := row) (n := n) (f := f) (by omega)
      by_cases q : ¬ (rd / 2 ^ n &&& 1 = 0) ∧ row n = (-1 : Int32)
      · rw [knf_y q.1 q.2, Nat.testBit_or, Nat.testBit_two_pow_of_ne (fun h => e h.symm), Bool.or_false]; exact ih
      · rw [knf_n q]; exact ih
theorem kMay_bit {rl rf : Nat} {d : Nat → Nat → Int32} {l f : Nat} (hf : f < 8) : (kMay rl rf d l).testBit f = true ↔ rl.testBit l = true ∧ rf.testBit f = true ∧ d l f = (-1 : Int32) := by
  unfold kMay
  by_cases q : ¬ (rl / 2 ^ l &&& 1 = 0)
  · rw [if_pos q, knf_bit hf]
    exact ⟨fun h => ⟨kbit1.mp q, h⟩, fun h => h.2⟩
  · rw [if_neg q, Nat.zero_testBit]
    exact ⟨fun h => absurd h (by decide), fun h => absurd (kbit1.mpr h.1) q⟩
theorem kff1_p {P : Nat → Bool} {n : Nat} (h : kff1 P (n + 1) = n + 1) : kff1 P n = n ∧ ¬ P n = true := by
  have h9 := kff1_le P n
  unfold kff1 at h
  split at h
  · omega
  · split at h
    · omega
    · rename_i q1 q2; exact ⟨by omega, q2⟩
theorem kcnt_ns (p : Nat → Int32) : ∀ n, kcnt p n = kns (fun j => if p j = (-1 : Int32) then 0 else 1) n
  | 0 => rfl
  | n + 1 => by
    show kcnt p n + _ = kns _ n + _
    rw [kcnt_ns p n]
theorem kcnt_up {p p' : Nat → Int32} {k n : Nat} (hk : k < n) (h : p k = (-1 : Int32)) (h' : p' k ≠ (-1 : Int32)) (e : ∀ i, i < n → i ≠ k → p' i = p i) : kcnt p' n = kcnt p n + 1 := by
  have h9 := kns_ch (f := fun j => if p' j = (-1 : Int32) then 0 else 1) (g := fun j => if p j = (-1 : Int32) then 0 else 1) hk (fun i hi q => by (try dsimp only); rw [e i hi q])
  (try dsimp only at h9)
  rw [if_pos h, if_neg h'] at h9
  rw [kcnt_ns, kcnt_ns]
  exact h9
theorem kcnt_eq {p p' : Nat → Int32} {n : Nat} (e : ∀ i, i < n → p' i = p i) : kcnt p' n = kcnt p n := by
  rw [kcnt_ns, kcnt_ns]
  exact kns_eq2 fun i hi => by (try dsimp only); rw [e i hi]
theorem kff1_t {P : Nat → Bool} : ∀ {n : Nat}, kff1 P n < n → P (kff1 P n) = true
  | 0, h => absurd h (Nat.not_lt_zero _)
  | n + 1, h => by
    unfold kff1 at h ⊢
    split
    · rename_i q; exact kff1_t q
    · rename_i q
      rw [if_neg q] at h
      split
      · assumption
      · rename_i q2; rw [if_neg q2] at h; omega
theorem kff1_all {P : Nat → Bool} : ∀ {n : Nat}, kff1 P n = n → ∀ i, i < n → ¬ P i = true
  | 0, _, i, hi => absurd hi (Nat.not_lt_zero i)
  | n + 1, h, i, hi => by
    obtain ⟨h1, h2⟩ := kff1_p h
    by_cases e : i = n
    · rw [e]; exact h2
    · exact kff1_all h1 i (by omega)
def kAd (g : rG) (a b c : Int32) : rG := (upd g.1 g.2.2.2.2.2 a, upd g.2.1 g.2.2.2.2.2 b, upd g.2.2.1 g.2.2.2.2.2 c, upd g.2.2.2.1 g.2.2.2.2.2 (nI 1), upd g.2.2.2.2.1 g.2.2.2.2.2 (nI 0), g.2.2.2.2.2 + 1)
def kGdG (g : rG) : Prop := kOkG g ∧ kBo g.2.2.1 ∧ kBo g.2.2.2.1
theorem kBo_u {f : Nat → Int32} {i : Nat} {v : Int32} (h : kBo f) (hv : v = nI 0 ∨ v = nI 1) : kBo (upd f i v) := fun j hj => by
  by_cases e : j = i
  · rw [e, pk_us]; exact hv
  · rw [pk_un e]; exact h j hj
theorem kGdG_ad {g : rG} {tk sh : Int32} {z : Nat} (h : kGdG g) (hn : g.2.2.2.2.2 < 8) (h1 : 1 ≤ z) (h9 : z ≤ 9) (hs : sh = nI 0 ∨ sh = nI 1) : kGdG (kAd g tk (nI z) sh) := by
  obtain ⟨⟨-, hz⟩, hb1, hb2⟩ := h
  refine ⟨⟨by show g.2.2.2.2.2 + 1 ≤ 8; omega, fun i hi => ?_⟩, kBo_u hb1 hs, kBo_u hb2 (Or.inr rfl)⟩
  show upd g.2.1 g.2.2.2.2.2 (nI z) i = nI (upd g.2.1 g.2.2.2.2.2 (nI z) i).toNatClampNeg ∧ 1 ≤ (upd g.2.1 g.2.2.2.2.2 (nI z) i).toNatClampNeg ∧ (upd g.2.1 g.2.2.2.2.2 (nI z) i).toNatClampNeg ≤ 9
  by_cases e : i = g.2.2.2.2.2
  · rw [e, pk_us, nI_clamp (by omega)]
    exact ⟨rfl, h1, h9⟩
  · rw [pk_un e]
    have hi2 : i < g.2.2.2.2.2 + 1 := hi
    exact hz i (by omega)
def kGdP (X : rS) : Prop := (1 ≤ X.1.2.2.2.1 ∧ X.1.2.2.2.1 ≤ 4) ∧ ∀ f, f < 4 → ∃ n, 1 ≤ n ∧ n ≤ 9 ∧ X.2.2.2.1.2.1 f = nI n
theorem kBo_cp {f : Nat → Int32} {n : Nat} (h : kBo f) : kBo (kcp (fun _ => nI 1) f n) := fun j hj => by
  by_cases q : j < n
  · rw [kcp_in _ _ q]; exact Or.inr rfl
  · rw [kcp_out _ _ (by omega)]; exact h j hj
section KBK
variable {d : Nat → Nat → Int32} {i f : Nat} {v : Int32}
theorem kup_y : kup d i (upd (d i) f v) i = upd (d i) f v := if_pos rfl
theorem kup_n {l : Nat} (h : l ≠ i) : kup d i (upd (d i) f v) l = d l := if_neg h
end KBK
theorem kBook_row (fo : Nat → Int32) (s : kSt) : ∀ i l, i ≤ l → (kBook fo s i).2.2.2 l = s.2.2.2 l
  | 0, _, _ => rfl
  | i + 1, l, h => by
    have ih := kBook_row fo s i l (by omega)
    unfold kBook
    split
    · exact ih
    · show kup (kBook fo s i).2.2.2 i _ l = _
      rw [kup_n (by omega)]
      exact ih
abbrev kCp (d : Nat → Nat → Int32) : Nat := kns (fun l => kcnt (d l) 8) 8
abbrev kNtG (g : rG) (m : Nat) : rG := (g.1, g.2.1, g.2.2.1, kcp (fun _ => nI 1) g.2.2.2.1 m, g.2.2.2.2)
