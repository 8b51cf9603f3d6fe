/-! the numbers that the methods make, as functions -/
def ksum (f : Nat → Int32) : Nat → Int32
  | 0 => nI 0
  | i + 1 => ksum f i + f i
/-- a fiddler's plain cut of the bag -/
def kcut (bag : Int32) (p : Nat → Int32) (n f : Nat) : Int32 := bag * p f / ksum p n
def krest (c : Nat → Int32) (b : Int32) : Nat → Int32
  | 0 => b
  | i + 1 => krest c b i - c (i + 1)
def kcutA (bag : Int32) (p : Nat → Int32) (n f : Nat) : Int32 := if f = 0 then krest (kcut bag p n) bag (n - 1) else kcut bag p n f
/-- how many of the first places don't hold -1 -/
def kcnt (p : Nat → Int32) : Nat → Nat
  | 0 => 0
  | i + 1 => kcnt p i + (if p i = (-1 : Int32) then 0 else 1)
theorem kcnt_le (p : Nat → Int32) : ∀ n, kcnt p n ≤ n
  | 0 => Nat.le_refl _
  | n + 1 => by
    have := kcnt_le p n
    unfold kcnt
    split <;> omega
theorem kcnt_e {p : Nat → Int32} {i : Nat} (h : p i = (-1 : Int32)) : kcnt p (i + 1) = kcnt p i + 0 := by
  show kcnt p i + (if p i = (-1 : Int32) then 0 else 1) = _
  rw [if_pos h]
theorem kcnt_n {p : Nat → Int32} {i : Nat} (h : ¬ p i = (-1 : Int32)) : kcnt p (i + 1) = kcnt p i + 1 := by
  show kcnt p i + (if p i = (-1 : Int32) then 0 else 1) = _
  rw [if_neg h]
def kns (f : Nat → Nat) : Nat → Nat
  | 0 => 0
  | i + 1 => kns f i + f i
theorem kns_le (f : Nat → Nat) (c : Nat) (h : ∀ i, f i ≤ c) : ∀ n, kns f n ≤ n * c
  | 0 => Nat.zero_le _
  | n + 1 => by
    have := kns_le f c h n
    have := h n
    unfold kns
    rw [Nat.succ_mul]
    omega
/-- the first of the first places that holds x, else -1 -/
def kfst (p : Nat → Int32) (x : Int32) : Nat → Int32
  | 0 => (-1 : Int32)
  | i + 1 => if kfst p x i = (-1 : Int32) then (if p i = x then nI i else (-1 : Int32)) else kfst p x i
theorem nI_ne1 {i : Nat} (h : i < 2 ^ 31) : nI i ≠ (-1 : Int32) := fun e => by
  have h1 := nI_toInt h
  rw [e] at h1
  have : ((-1 : Int32)).toInt = -1 := by decide
  omega
theorem kfst_stay {p : Nat → Int32} {x : Int32} {i : Nat} (h : kfst p x i ≠ (-1 : Int32)) : ∀ k, kfst p x (i + k) = kfst p x i
  | 0 => rfl
  | k + 1 => by
    have ih := kfst_stay h k
    show (if kfst p x (i + k) = (-1 : Int32) then (if p (i + k) = x then nI (i + k) else (-1 : Int32)) else kfst p x (i + k)) = _
    rw [ih, if_neg h]
theorem kfst_hit {p : Nat → Int32} {x : Int32} {i n : Nat} (hi : i < n) (hb : n < 2 ^ 31) (h : kfst p x i = (-1 : Int32)) (hp : p i = x) : kfst p x n = nI i := by
  have h1 : kfst p x (i + 1) = nI i := by
    show (if kfst p x i = (-1 : Int32) then (if p i = x then nI i else (-1 : Int32)) else kfst p x i) = _
    rw [if_pos h, if_pos hp]
  have h2 := kfst_stay (p := p) (x := x) (i := i + 1) (by rw [h1]; exact nI_ne1 (by omega)) (n - (i + 1))
  rw [show i + 1 + (n - (i + 1)) = n by omega] at h2
  rw [h2, h1]
theorem kfst_miss {p : Nat → Int32} {x : Int32} {i : Nat} (h : kfst p x i = (-1 : Int32)) (hp : ¬ p i = x) : kfst p x (i + 1) = (-1 : Int32) := by
  show (if kfst p x i = (-1 : Int32) then (if p i = x then nI i else (-1 : Int32)) else kfst p x i) = _
  rw [if_pos h, if_neg hp]
theorem kmin {a b : Nat} (ha : a < 2 ^ 31) (hb : b < 2 ^ 31) : (if nI b < nI a then nI b else nI a) = nI (min a b) := by
  by_cases h : b < a
  · rw [if_pos ((nI_ltI hb ha).mpr h), show min a b = b by omega]
  · rw [if_neg (fun q => h ((nI_ltI hb ha).mp q)), show min a b = a by omega]
theorem k_cpy {n : Nat} (hn : n < 2 ^ 31) (f g : Nat → Int32) {j : Nat} (hj : j < n) : va_cpy f g (nI 0).toNatClampNeg (nI 0).toNatClampNeg (nI n).toNatClampNeg j = f j := by
  rw [nI_clamp hn, show (nI 0).toNatClampNeg = 0 from rfl, pk_cpy_in (Nat.zero_le j) (by omega)]
  congr 1
  omega
theorem kshl {i : Nat} (h : i < 31) : nI 1 <<< (nI i &&& 31) = nI (2 ^ i) := by
  have h9 : ∀ i, i < 31 → nI 1 <<< (nI i &&& 31) = nI (2 ^ i) := by decide +kernel
  exact h9 i h
/-- a number a state tells -/
def knum (c : rC) (l f : rG) (r : rA) (d : Nat → Nat → Int32) (w : Nat) : Int32 := match w with
  | 0 => nI l.2.2.2.2.2
  | 1 => nI f.2.2.2.2.2
  | 2 => nI c.1
  | 3 => nI c.2.1
  | 4 => nI (min c.1 (c.2.1 / 2))
  | 5 => nI (2 * min c.1 (c.2.1 / 2))
  | 6 => c.2.2.2.2.2.1
  | 7 => nI c.2.2.2.2.2.2.1
  | 8 => nI (kns (fun l => kcnt (d l) 8) 8)
  | 9 => c.2.2.2.2.1
  | 10 => nI c.2.2.2.1
  | 11 => ksum r.2.1 c.2.2.2.1
  | 12 => c.2.2.2.2.2.2.2
  | _ => c.2.2.1
def kff (c : rC) (r : rA) (f w : Nat) : Int32 := match w with
  | 0 => r.2.1 f
  | 1 => r.2.2 f
  | _ => kcutA c.2.2.2.2.1 r.2.1 c.2.2.2.1 f
/-- what the fiddlers have got behind the night's end -/
def kgot (c : rC) (r : rA) : Nat → Nat → Int32
  | 0 => r.2.2
  | i + 1 => upd (kgot c r i) i (kgot c r i i + kcutA c.2.2.2.2.1 r.2.1 c.2.2.2.1 i)
theorem kgot_out (c : rC) (r : rA) : ∀ (n : Nat) {j : Nat}, n ≤ j → kgot c r n j = r.2.2 j
  | 0, _, _ => rfl
  | n + 1, j, h => by
    show upd (kgot c r n) n _ j = _
    unfold upd
    rw [if_neg (by omega)]
    exact kgot_out c r n (by omega)
