/-! the reference's array, told by the class's own state -/
abbrev rV : Type := (Nat → Int32) × (Nat → Int32) × Nat × Int32 × (Nat → Int32) × (Nat → Int32) × (Nat → Int32) × (Nat → Int32) × (Nat → Int32) × (Nat → Int32) × Nat × Nat × (Nat → Int32) × Nat × Nat
def kEnG (g : rG) (t i w : Nat) : Int32 := if i < g.2.2.2.2.2 then (match w with
  | 0 => g.1 i
  | 1 => g.2.1 i
  | 2 => g.2.2.1 i
  | 3 => g.2.2.2.1 i
  | 4 => nI t
  | _ => g.2.2.2.2.1 i) else 0
def kEq0 (x : rS) (cp j : Nat) : Int32 := match j with
  | 0 => nI x.2.1.2.2.2.2.2
  | 1 => nI x.2.2.1.2.2.2.2.2
  | 2 => nI x.1.1
  | 3 => nI x.1.2.1
  | 4 => x.1.2.2.2.2.2.1
  | 5 => nI x.1.2.2.2.2.2.2.1
  | 6 => nI cp
  | 7 => x.1.2.2.2.2.1
  | 8 => nI x.1.2.2.2.1
  | 9 => x.1.2.2.2.2.2.2.2
  | _ => x.1.2.2.1
/-- tonight's dances of each, and tonight's couples, told apart from the book -/
def kEq (x : rS) (tL tF : Nat → Nat) (cp j : Nat) : Int32 :=
  if j < 11 then kEq0 x cp j else if j < 20 then x.2.2.2.1.1 (j - 10) else if j < 24 then x.2.2.2.1.2.1 (j - 20) else if j < 28 then x.2.2.2.1.2.2 (j - 24) else
  if j < 92 then x.2.2.2.2 ((j - 28) / 8) ((j - 28) % 8) else
  if (j - 92) / 6 < 8 then kEnG x.2.1 (tL ((j - 92) / 6)) ((j - 92) / 6) ((j - 92) % 6) else
  kEnG x.2.2.1 (tF ((j - 92) / 6 - 8)) ((j - 92) / 6 - 8) ((j - 92) % 6)
abbrev kTL (d : Nat → Nat → Int32) : Nat → Nat := fun l => kcnt (d l) 8
abbrev kTF (d : Nat → Nat → Int32) : Nat → Nat := fun f => kcnt (fun q => d q f) 8
abbrev kCp (d : Nat → Nat → Int32) : Nat := kns (fun l => kcnt (d l) 8) 8
def kEn (x : rS) : Nat → Int32 := kEq x (kTL x.2.2.2.2) (kTF x.2.2.2.2) (kCp x.2.2.2.2)
theorem kite {c : Prop} [Decidable c] {α : Type} {a a' b b' : α} (h1 : c → a = a') (h2 : ¬ c → b = b') : (if c then a else b) = (if c then a' else b') := by
  by_cases q : c
  · rw [if_pos q, if_pos q]; exact h1 q
  · rw [if_neg q, if_neg q]; exact h2 q
theorem k6 {w : Nat} (h : w < 6) : w = 0 ∨ w = 1 ∨ w = 2 ∨ w = 3 ∨ w = 4 ∨ w = 5 := by omega
theorem k11 {w : Nat} (h : w < 11) : w = 0 ∨ w = 1 ∨ w = 2 ∨ w = 3 ∨ w = 4 ∨ w = 5 ∨ w = 6 ∨ w = 7 ∨ w = 8 ∨ w = 9 ∨ w = 10 := by omega
section KQ
variable {x : rS} {tL tF : Nat → Nat} {cp : Nat}
theorem kq_0 {j : Nat} (h : j < 11) : kEq x tL tF cp j = kEq0 x cp j := if_pos h
theorem kq_s {z : Nat} (h1 : 1 ≤ z) (h : z ≤ 9) : kEq x tL tF cp (10 + z) = x.2.2.2.1.1 z := by
  unfold kEq
  rw [if_neg (by omega), if_pos (by omega), show 10 + z - 10 = z by omega]
theorem kq_p {f : Nat} (h : f < 4) : kEq x tL tF cp (20 + f) = x.2.2.2.1.2.1 f := by
  unfold kEq
  rw [if_neg (by omega), if_neg (by omega), if_pos (by omega), show 20 + f - 20 = f by omega]
theorem kq_g {f : Nat} (h : f < 4) : kEq x tL tF cp (24 + f) = x.2.2.2.1.2.2 f := by
  unfold kEq
  rw [if_neg (by omega), if_neg (by omega), if_neg (by omega), if_pos (by omega), show 24 + f - 24 = f by omega]
theorem kq_d {l f : Nat} (hl : l < 8) (hf : f < 8) : kEq x tL tF cp (28 + 8 * l + f) = x.2.2.2.2 l f := by
  unfold kEq
  rw [if_neg (by omega), if_neg (by omega), if_neg (by omega), if_neg (by omega), if_pos (by omega), show (28 + 8 * l + f - 28) / 8 = l by omega, show (28 + 8 * l + f - 28) % 8 = f by omega]
theorem kq_L {i w : Nat} (hi : i < 8) (hw : w < 6) : kEq x tL tF cp (92 + 6 * i + w) = kEnG x.2.1 (tL i) i w := by
  unfold kEq
  rw [if_neg (by omega), if_neg (by omega), if_neg (by omega), if_neg (by omega), if_neg (by omega), show (92 + 6 * i + w - 92) / 6 = i by omega, show (92 + 6 * i + w - 92) % 6 = w by omega, if_pos hi]
theorem kq_F {i w : Nat} (hw : w < 6) : kEq x tL tF cp (92 + 6 * (8 + i) + w) = kEnG x.2.2.1 (tF i) i w := by
  unfold kEq
  rw [if_neg (by omega), if_neg (by omega), if_neg (by omega), if_neg (by omega), if_neg (by omega), show (92 + 6 * (8 + i) + w - 92) / 6 = 8 + i by omega, show (92 + 6 * (8 + i) + w - 92) % 6 = w by omega, if_neg (by omega), show 8 + i - 8 = i by omega]
/-- two tellings that agree field by field -/
theorem kq_c {x' : rS} {tL' tF' : Nat → Nat} {cp' j : Nat} (h0 : j < 11 → kEq0 x cp j = kEq0 x' cp' j) (h1 : ¬ j < 11 → j < 20 → x.2.2.2.1.1 (j - 10) = x'.2.2.2.1.1 (j - 10)) (h2 : ¬ j < 20 → j < 24 → x.2.2.2.1.2.1 (j - 20) = x'.2.2.2.1.2.1 (j - 20))
    (h3 : ¬ j < 24 → j < 28 → x.2.2.2.1.2.2 (j - 24) = x'.2.2.2.1.2.2 (j - 24)) (h4 : ¬ j < 28 → j < 92 → x.2.2.2.2 ((j - 28) / 8) ((j - 28) % 8) = x'.2.2.2.2 ((j - 28) / 8) ((j - 28) % 8))
    (h5 : ¬ j < 92 → (j - 92) / 6 < 8 → kEnG x.2.1 (tL ((j - 92) / 6)) ((j - 92) / 6) ((j - 92) % 6) = kEnG x'.2.1 (tL' ((j - 92) / 6)) ((j - 92) / 6) ((j - 92) % 6))
    (h6 : ¬ j < 92 → ¬ (j - 92) / 6 < 8 → kEnG x.2.2.1 (tF ((j - 92) / 6 - 8)) ((j - 92) / 6 - 8) ((j - 92) % 6) = kEnG x'.2.2.1 (tF' ((j - 92) / 6 - 8)) ((j - 92) / 6 - 8) ((j - 92) % 6)) : kEq x tL tF cp j = kEq x' tL' tF' cp' j := by
  unfold kEq
  exact kite h0 fun q0 => kite (h1 q0) fun q1 => kite (h2 q1) fun q2 => kite (h3 q2) fun q3 => kite (h4 q3) fun q4 => kite (h5 q4) (h6 q4)
theorem kqu_C {C' : rC} {i : Nat} {v : Int32} (hi : i < 11) (h0 : kEq0 (C', x.2) cp i = v) (h : ∀ j, j < 11 → j ≠ i → kEq0 x cp j = kEq0 (C', x.2) cp j) (j : Nat) (hj : j < 188) : upd (kEq x tL tF cp) i v j = kEq (C', x.2) tL tF cp j := by
  by_cases e : j = i
  · rw [e, pk_us, kq_0 hi, h0]
  · rw [pk_un e]
    exact kq_c (fun q => h j q e) (fun _ _ => rfl) (fun _ _ => rfl) (fun _ _ => rfl) (fun _ _ => rfl) (fun _ _ => rfl) (fun _ _ => rfl)
theorem kqu_cp {n : Nat} (j : Nat) (hj : j < 188) : upd (kEq x tL tF cp) 6 (nI n) j = kEq x tL tF n j := by
  by_cases e : j = 6
  · rw [e, pk_us, kq_0 (by decide)]; rfl
  · rw [pk_un e]
    refine kq_c (fun q => ?_) (fun _ _ => rfl) (fun _ _ => rfl) (fun _ _ => rfl) (fun _ _ => rfl) (fun _ _ => rfl) (fun _ _ => rfl)
    rcases k11 q with rfl | rfl | rfl | rfl | rfl | rfl | rfl | rfl | rfl | rfl | rfl <;> first | rfl | exact absurd rfl e
theorem kqu_s {z : Nat} {v : Int32} (h1 : 1 ≤ z) (h9 : z ≤ 9) (j : Nat) (hj : j < 188) : upd (kEq x tL tF cp) (10 + z) v j = kEq (x.1, x.2.1, x.2.2.1, (upd x.2.2.2.1.1 z v, x.2.2.2.1.2), x.2.2.2.2) tL tF cp j := by
  by_cases e : j = 10 + z
  · rw [e, pk_us, kq_s h1 h9]; exact pk_us.symm
  · rw [pk_un e]
    exact kq_c (fun _ => rfl) (fun _ _ => (pk_un (by omega)).symm) (fun _ _ => rfl) (fun _ _ => rfl) (fun _ _ => rfl) (fun _ _ => rfl) (fun _ _ => rfl)
theorem kqu_p {f : Nat} {v : Int32} (hf : f < 4) (j : Nat) (hj : j < 188) : upd (kEq x tL tF cp) (20 + f) v j = kEq (x.1, x.2.1, x.2.2.1, (x.2.2.2.1.1, upd x.2.2.2.1.2.1 f v, x.2.2.2.1.2.2), x.2.2.2.2) tL tF cp j := by
  by_cases e : j = 20 + f
  · rw [e, pk_us, kq_p hf]; exact pk_us.symm
  · rw [pk_un e]
    exact kq_c (fun _ => rfl) (fun _ _ => rfl) (fun _ _ => (pk_un (by omega)).symm) (fun _ _ => rfl) (fun _ _ => rfl) (fun _ _ => rfl) (fun _ _ => rfl)
theorem kqu_g {f : Nat} {v : Int32} (hf : f < 4) (j : Nat) (hj : j < 188) : upd (kEq x tL tF cp) (24 + f) v j = kEq (x.1, x.2.1, x.2.2.1, (x.2.2.2.1.1, x.2.2.2.1.2.1, upd x.2.2.2.1.2.2 f v), x.2.2.2.2) tL tF cp j := by
  by_cases e : j = 24 + f
  · rw [e, pk_us, kq_g hf]; exact pk_us.symm
  · rw [pk_un e]
    exact kq_c (fun _ => rfl) (fun _ _ => rfl) (fun _ _ => rfl) (fun _ _ => (pk_un (by omega)).symm) (fun _ _ => rfl) (fun _ _ => rfl) (fun _ _ => rfl)
theorem kqu_d {l f : Nat} {v : Int32} (hl : l < 8) (hf : f < 8) (j : Nat) (hj : j < 188) : upd (kEq x tL tF cp) (28 + 8 * l + f) v j = kEq (x.1, x.2.1, x.2.2.1, x.2.2.2.1, kup x.2.2.2.2 l (upd (x.2.2.2.2 l) f v)) tL tF cp j := by
  by_cases e : j = 28 + 8 * l + f
  · rw [e, pk_us, kq_d hl hf]
    show v = kup x.2.2.2.2 l (upd (x.2.2.2.2 l) f v) l f
    unfold kup
    rw [if_pos rfl]
    exact pk_us.symm
  · rw [pk_un e]
    refine kq_c (fun _ => rfl) (fun _ _ => rfl) (fun _ _ => rfl) (fun _ _ => rfl) (fun q1 q2 => ?_) (fun _ _ => rfl) (fun _ _ => rfl)
    show _ = kup x.2.2.2.2 l (upd (x.2.2.2.2 l) f v) ((j - 28) / 8) ((j - 28) % 8)
    unfold kup
    by_cases e1 : (j - 28) / 8 = l
    · rw [if_pos e1, pk_un (by omega), e1]
    · rw [if_neg e1]
theorem kEnG_c {g g' : rG} {t t' i w : Nat} (hn : g'.2.2.2.2.2 = g.2.2.2.2.2) (hw : w < 6) (h0 : w = 0 → g.1 i = g'.1 i) (h1 : w = 1 → g.2.1 i = g'.2.1 i) (h2 : w = 2 → g.2.2.1 i = g'.2.2.1 i) (h3 : w = 3 → g.2.2.2.1 i = g'.2.2.2.1 i) (h4 : w = 4 → t = t') (h5 : w = 5 → g.2.2.2.2.1 i = g'.2.2.2.2.1 i) : kEnG g t i w = kEnG g' t' i w := by
  unfold kEnG
  rw [hn]
  refine kite (fun _ => ?_) (fun _ => rfl)
  rcases k6 hw with rfl | rfl | rfl | rfl | rfl | rfl
  · exact h0 rfl
  · exact h1 rfl
  · exact h2 rfl
  · exact h3 rfl
  · exact congrArg nI (h4 rfl)
  · exact h5 rfl
theorem kqu_L {L' : rG} {tL' : Nat → Nat} {i w : Nat} {v : Int32} (hi : i < 8) (hw : w < 6) (hn : L'.2.2.2.2.2 = x.2.1.2.2.2.2.2) (hv : kEnG L' (tL' i) i w = v) (ho : ∀ i9 w9, i9 < 8 → w9 < 6 → (i9 ≠ i ∨ w9 ≠ w) → kEnG x.2.1 (tL i9) i9 w9 = kEnG L' (tL' i9) i9 w9) (j : Nat) (hj : j < 188) :
    upd (kEq x tL tF cp) (92 + 6 * i + w) v j = kEq (x.1, L', x.2.2) tL' tF cp j := by
  by_cases e : j = 92 + 6 * i + w
  · rw [e, pk_us, kq_L hi hw]; exact hv.symm
  · rw [pk_un e]
    refine kq_c (fun q => ?_) (fun _ _ => rfl) (fun _ _ => rfl) (fun _ _ => rfl) (fun _ _ => rfl) (fun q1 q2 => ho _ _ q2 (by omega) (by omega)) (fun _ _ => rfl)
    rcases k11 q with rfl | rfl | rfl | rfl | rfl | rfl | rfl | rfl | rfl | rfl | rfl <;> first | rfl | exact congrArg nI hn.symm
theorem kqu_F {L' : rG} {tF' : Nat → Nat} {i w : Nat} {v : Int32} (hi : i < 8) (hw : w < 6) (hn : L'.2.2.2.2.2 = x.2.2.1.2.2.2.2.2) (hv : kEnG L' (tF' i) i w = v) (ho : ∀ i9 w9, i9 < 8 → w9 < 6 → (i9 ≠ i ∨ w9 ≠ w) → kEnG x.2.2.1 (tF i9) i9 w9 = kEnG L' (tF' i9) i9 w9) (j : Nat) (hj : j < 188) :
    upd (kEq x tL tF cp) (92 + 6 * (8 + i) + w) v j = kEq (x.1, x.2.1, L', x.2.2.2) tL tF' cp j := by
  by_cases e : j = 92 + 6 * (8 + i) + w
  · rw [e, pk_us, kq_F hw]; exact hv.symm
  · rw [pk_un e]
    refine kq_c (fun q => ?_) (fun _ _ => rfl) (fun _ _ => rfl) (fun _ _ => rfl) (fun _ _ => rfl) (fun _ _ => rfl) (fun q1 q2 => ho _ _ (by omega) (by omega) (by omega))
    rcases k11 q with rfl | rfl | rfl | rfl | rfl | rfl | rfl | rfl | rfl | rfl | rfl <;> first | rfl | exact congrArg nI hn.symm
def kuN (f : Nat → Nat) (i v : Nat) : Nat → Nat := fun j => if j = i then v else f j
theorem kuN_y {f : Nat → Nat} {i v j : Nat} (h : j = i) : kuN f i v j = v := if_pos h
theorem kuN_n {f : Nat → Nat} {i v j : Nat} (h : j ≠ i) : kuN f i v j = f j := if_neg h
/-- fields of a guest, written -/
theorem kqu_L0 {i : Nat} {v : Int32} (hi : i < x.2.1.2.2.2.2.2) (h8 : x.2.1.2.2.2.2.2 ≤ 8) (j : Nat) (hj : j < 188) : upd (kEq x tL tF cp) (92 + 6 * i + 0) v j = kEq (x.1, (upd x.2.1.1 i v, x.2.1.2), x.2.2) tL tF cp j :=
  kqu_L (L' := (upd x.2.1.1 i v, x.2.1.2)) (tL' := tL) (i := i) (w := 0) (by omega) (by decide) rfl ((if_pos hi).trans pk_us) (fun i9 w9 _ q9 q => kEnG_c rfl q9 (fun e => (pk_un (by omega)).symm) (fun _ => rfl) (fun _ => rfl) (fun _ => rfl) (fun _ => rfl) (fun _ => rfl)) j hj
theorem kqu_L3 {i : Nat} {v : Int32} (hi : i < x.2.1.2.2.2.2.2) (h8 : x.2.1.2.2.2.2.2 ≤ 8) (j : Nat) (hj : j < 188) : upd (kEq x tL tF cp) (92 + 6 * i + 3) v j = kEq (x.1, (x.2.1.1, x.2.1.2.1, x.2.1.2.2.1, upd x.2.1.2.2.2.1 i v, x.2.1.2.2.2.2), x.2.2) tL tF cp j :=
  kqu_L (L' := (x.2.1.1, x.2.1.2.1, x.2.1.2.2.1, upd x.2.1.2.2.2.1 i v, x.2.1.2.2.2.2)) (tL' := tL) (i := i) (w := 3) (by omega) (by decide) rfl ((if_pos hi).trans pk_us) (fun i9 w9 _ q9 q => kEnG_c rfl q9 (fun _ => rfl) (fun _ => rfl) (fun _ => rfl) (fun e => (pk_un (by omega)).symm) (fun _ => rfl) (fun _ => rfl)) j hj
theorem kqu_L4 {i t : Nat} (hi : i < x.2.1.2.2.2.2.2) (h8 : x.2.1.2.2.2.2.2 ≤ 8) (j : Nat) (hj : j < 188) : upd (kEq x tL tF cp) (92 + 6 * i + 4) (nI t) j = kEq x (kuN tL i t) tF cp j :=
  kqu_L (L' := x.2.1) (tL' := (kuN tL i t)) (i := i) (w := 4) (by omega) (by decide) rfl ((if_pos hi).trans (congrArg nI (kuN_y rfl))) (fun i9 w9 _ q9 q => kEnG_c rfl q9 (fun _ => rfl) (fun _ => rfl) (fun _ => rfl) (fun _ => rfl) (fun e => (kuN_n (by omega)).symm) (fun _ => rfl)) j hj
theorem kqu_L5 {i : Nat} {v : Int32} (hi : i < x.2.1.2.2.2.2.2) (h8 : x.2.1.2.2.2.2.2 ≤ 8) (j : Nat) (hj : j < 188) : upd (kEq x tL tF cp) (92 + 6 * i + 5) v j = kEq (x.1, (x.2.1.1, x.2.1.2.1, x.2.1.2.2.1, x.2.1.2.2.2.1, upd x.2.1.2.2.2.2.1 i v, x.2.1.2.2.2.2.2), x.2.2) tL tF cp j :=
  kqu_L (L' := (x.2.1.1, x.2.1.2.1, x.2.1.2.2.1, x.2.1.2.2.2.1, upd x.2.1.2.2.2.2.1 i v, x.2.1.2.2.2.2.2)) (tL' := tL) (i := i) (w := 5) (by omega) (by decide) rfl ((if_pos hi).trans pk_us) (fun i9 w9 _ q9 q => kEnG_c rfl q9 (fun _ => rfl) (fun _ => rfl) (fun _ => rfl) (fun _ => rfl) (fun _ => rfl) (fun e => (pk_un (by omega)).symm)) j hj
theorem kqu_F0 {i : Nat} {v : Int32} (hi : i < x.2.2.1.2.2.2.2.2) (h8 : x.2.2.1.2.2.2.2.2 ≤ 8) (j : Nat) (hj : j < 188) : upd (kEq x tL tF cp) (92 + 6 * (8 + i) + 0) v j = kEq (x.1, x.2.1, (upd x.2.2.1.1 i v, x.2.2.1.2), x.2.2.2) tL tF cp j :=
  kqu_F (L' := (upd x.2.2.1.1 i v, x.2.2.1.2)) (tF' := tF) (i := i) (w := 0) (by omega) (by decide) rfl ((if_pos hi).trans pk_us) (fun i9 w9 _ q9 q => kEnG_c rfl q9 (fun e => (pk_un (by omega)).symm) (fun _ => rfl) (fun _ => rfl) (fun _ => rfl) (fun _ => rfl) (fun _ => rfl)) j hj
theorem kqu_F3 {i : Nat} {v : Int32} (hi : i < x.2.2.1.2.2.2.2.2) (h8 : x.2.2.1.2.2.2.2.2 ≤ 8) (j : Nat) (hj : j < 188) : upd (kEq x tL tF cp) (92 + 6 * (8 + i) + 3) v j = kEq (x.1, x.2.1, (x.2.2.1.1, x.2.2.1.2.1, x.2.2.1.2.2.1, upd x.2.2.1.2.2.2.1 i v, x.2.2.1.2.2.2.2), x.2.2.2) tL tF cp j :=
  kqu_F (L' := (x.2.2.1.1, x.2.2.1.2.1, x.2.2.1.2.2.1, upd x.2.2.1.2.2.2.1 i v, x.2.2.1.2.2.2.2)) (tF' := tF) (i := i) (w := 3) (by omega) (by decide) rfl ((if_pos hi).trans pk_us) (fun i9 w9 _ q9 q => kEnG_c rfl q9 (fun _ => rfl) (fun _ => rfl) (fun _ => rfl) (fun e => (pk_un (by omega)).symm) (fun _ => rfl) (fun _ => rfl)) j hj
theorem kqu_F4 {i t : Nat} (hi : i < x.2.2.1.2.2.2.2.2) (h8 : x.2.2.1.2.2.2.2.2 ≤ 8) (j : Nat) (hj : j < 188) : upd (kEq x tL tF cp) (92 + 6 * (8 + i) + 4) (nI t) j = kEq x tL (kuN tF i t) cp j :=
  kqu_F (L' := x.2.2.1) (tF' := (kuN tF i t)) (i := i) (w := 4) (by omega) (by decide) rfl ((if_pos hi).trans (congrArg nI (kuN_y rfl))) (fun i9 w9 _ q9 q => kEnG_c rfl q9 (fun _ => rfl) (fun _ => rfl) (fun _ => rfl) (fun _ => rfl) (fun e => (kuN_n (by omega)).symm) (fun _ => rfl)) j hj
theorem kqu_F5 {i : Nat} {v : Int32} (hi : i < x.2.2.1.2.2.2.2.2) (h8 : x.2.2.1.2.2.2.2.2 ≤ 8) (j : Nat) (hj : j < 188) : upd (kEq x tL tF cp) (92 + 6 * (8 + i) + 5) v j = kEq (x.1, x.2.1, (x.2.2.1.1, x.2.2.1.2.1, x.2.2.1.2.2.1, x.2.2.1.2.2.2.1, upd x.2.2.1.2.2.2.2.1 i v, x.2.2.1.2.2.2.2.2), x.2.2.2) tL tF cp j :=
  kqu_F (L' := (x.2.2.1.1, x.2.2.1.2.1, x.2.2.1.2.2.1, x.2.2.1.2.2.2.1, upd x.2.2.1.2.2.2.2.1 i v, x.2.2.1.2.2.2.2.2)) (tF' := tF) (i := i) (w := 5) (by omega) (by decide) rfl ((if_pos hi).trans pk_us) (fun i9 w9 _ q9 q => kEnG_c rfl q9 (fun _ => rfl) (fun _ => rfl) (fun _ => rfl) (fun _ => rfl) (fun _ => rfl) (fun e => (pk_un (by omega)).symm)) j hj
/-- a guest added, as the reference adds it -/
def kAd (g : rG) (a b c : Int32) : rG := (upd g.1 g.2.2.2.2.2 a, upd g.2.1 g.2.2.2.2.2 b, upd g.2.2.1 g.2.2.2.2.2 c, upd g.2.2.2.1 g.2.2.2.2.2 (nI 1), upd g.2.2.2.2.1 g.2.2.2.2.2 (nI 0), g.2.2.2.2.2 + 1)
theorem kEnG_ad {g : rG} {a b c : Int32} {t i w : Nat} (hi : i ≠ g.2.2.2.2.2) (hw : w < 6) : kEnG g t i w = kEnG (kAd g a b c) t i w := by
  unfold kEnG
  by_cases q : i < g.2.2.2.2.2
  · rw [if_pos q, if_pos (show i < (kAd g a b c).2.2.2.2.2 from (by show i < g.2.2.2.2.2 + 1; omega))]
    rcases k6 hw with rfl | rfl | rfl | rfl | rfl | rfl
    · exact (pk_un hi).symm
    · exact (pk_un hi).symm
    · exact (pk_un hi).symm
    · exact (pk_un hi).symm
    · rfl
    · exact (pk_un hi).symm
  · rw [if_neg q, if_neg (show ¬ i < (kAd g a b c).2.2.2.2.2 from (by show ¬ i < g.2.2.2.2.2 + 1; omega))]
def kAdv (a b c : Int32) (t w : Nat) : Int32 := match w with
  | 0 => a
  | 1 => b
  | 2 => c
  | 3 => nI 1
  | 4 => nI t
  | _ => nI 0
theorem kEnG_an {g : rG} {a b c : Int32} {t w : Nat} (hw : w < 6) : kEnG (kAd g a b c) t g.2.2.2.2.2 w = kAdv a b c t w := by
  unfold kEnG
  rw [if_pos (show g.2.2.2.2.2 < (kAd g a b c).2.2.2.2.2 from Nat.lt_succ_self _)]
  rcases k6 hw with rfl | rfl | rfl | rfl | rfl | rfl
  · exact pk_us
  · exact pk_us
  · exact pk_us
  · exact pk_us
  · rfl
  · exact pk_us
theorem kqu_adL {a b c : Int32} {n : Nat} (hn : x.2.1.2.2.2.2.2 = n) (h8 : n < 8) (ht : tL n = 0) (j : Nat) (hj : j < 188) :
    upd (upd (upd (upd (upd (upd (upd (kEq x tL tF cp) (92 + 6 * n + 0) a) (92 + 6 * n + 1) b) (92 + 6 * n + 2) c) (92 + 6 * n + 3) (nI 1)) (92 + 6 * n + 4) (nI 0)) (92 + 6 * n + 5) (nI 0)) 0 (nI (n + 1)) j = kEq (x.1, kAd x.2.1 a b c, x.2.2) tL tF cp j := by
  subst hn
  by_cases e : j = 0
  · rw [e, pk_us]; rfl
  rw [pk_un e]
  by_cases q : ∃ w, w < 6 ∧ j = 92 + 6 * x.2.1.2.2.2.2.2 + w
  · obtain ⟨w, hw, rfl⟩ := q
    rw [kq_L h8 hw, kEnG_an hw]
    rcases k6 hw with rfl | rfl | rfl | rfl | rfl | rfl
    · rw [pk_un (by omega), pk_un (by omega), pk_un (by omega), pk_un (by omega), pk_un (by omega), pk_us]; rfl
    · rw [pk_un (by omega), pk_un (by omega), pk_un (by omega), pk_un (by omega), pk_us]; rfl
    · rw [pk_un (by omega), pk_un (by omega), pk_un (by omega), pk_us]; rfl
    · rw [pk_un (by omega), pk_un (by omega), pk_us]; rfl
    · rw [pk_un (by omega), pk_us, ht]; rfl
    · rw [pk_us]; rfl
  · have hx : ∀ w, w < 6 → j ≠ 92 + 6 * x.2.1.2.2.2.2.2 + w := fun w hw h => q ⟨w, hw, h⟩
    rw [pk_un (hx 5 (by decide)), pk_un (hx 4 (by decide)), pk_un (hx 3 (by decide)), pk_un (hx 2 (by decide)), pk_un (hx 1 (by decide)), pk_un (hx 0 (by decide))]
    refine kq_c (fun q => ?_) (fun _ _ => rfl) (fun _ _ => rfl) (fun _ _ => rfl) (fun _ _ => rfl) (fun q1 q2 => kEnG_ad (fun h => hx ((j - 92) % 6) (by omega) (by omega)) (by omega)) (fun _ _ => rfl)
    rcases k11 q with rfl | rfl | rfl | rfl | rfl | rfl | rfl | rfl | rfl | rfl | rfl <;> first | rfl | exact absurd rfl e
theorem kqu_adF {a b c : Int32} {n : Nat} (hn : x.2.2.1.2.2.2.2.2 = n) (h8 : n < 8) (ht : tF n = 0) (j : Nat) (hj : j < 188) :
    upd (upd (upd (upd (upd (upd (upd (kEq x tL tF cp) (92 + 6 * (8 + n) + 0) a) (92 + 6 * (8 + n) + 1) b) (92 + 6 * (8 + n) + 2) c) (92 + 6 * (8 + n) + 3) (nI 1)) (92 + 6 * (8 + n) + 4) (nI 0)) (92 + 6 * (8 + n) + 5) (nI 0)) 1 (nI (n + 1)) j = kEq (x.1, x.2.1, kAd x.2.2.1 a b c, x.2.2.2) tL tF cp j := by
  subst hn
  by_cases e : j = 1
  · rw [e, pk_us]; rfl
  rw [pk_un e]
  by_cases q : ∃ w, w < 6 ∧ j = 92 + 6 * (8 + x.2.2.1.2.2.2.2.2) + w
  · obtain ⟨w, hw, rfl⟩ := q
    rw [kq_F hw]
    refine Eq.trans ?_ (kEnG_an hw).symm
    rcases k6 hw with rfl | rfl | rfl | rfl | rfl | rfl
    · rw [pk_un (by omega), pk_un (by omega), pk_un (by omega), pk_un (by omega), pk_un (by omega), pk_us]; rfl
    · rw [pk_un (by omega), pk_un (by omega), pk_un (by omega), pk_un (by omega), pk_us]; rfl
    · rw [pk_un (by omega), pk_un (by omega), pk_un (by omega), pk_us]; rfl
    · rw [pk_un (by omega), pk_un (by omega), pk_us]; rfl
    · rw [pk_un (by omega), pk_us, ht]; rfl
    · rw [pk_us]; rfl
  · have hx : ∀ w, w < 6 → j ≠ 92 + 6 * (8 + x.2.2.1.2.2.2.2.2) + w := fun w hw h => q ⟨w, hw, h⟩
    rw [pk_un (hx 5 (by decide)), pk_un (hx 4 (by decide)), pk_un (hx 3 (by decide)), pk_un (hx 2 (by decide)), pk_un (hx 1 (by decide)), pk_un (hx 0 (by decide))]
    refine kq_c (fun q => ?_) (fun _ _ => rfl) (fun _ _ => rfl) (fun _ _ => rfl) (fun _ _ => rfl) (fun _ _ => rfl) (fun q1 q2 => kEnG_ad (fun h => hx ((j - 92) % 6) (by omega) (by omega)) (by omega))
    rcases k11 q with rfl | rfl | rfl | rfl | rfl | rfl | rfl | rfl | rfl | rfl | rfl <;> first | rfl | exact absurd rfl e
end KQ
/-! ranges of longs -/
abbrev kIn (v lo hi : Int64) : Prop := ¬ lg_cmp v lo < 0 ∧ ¬ 0 < lg_cmp v hi
theorem kl64 (x y : Int32) : x.toInt64 < y.toInt64 ↔ x < y := by
  rw [Int64.lt_iff_toInt_lt, Int32.lt_iff_toInt_lt, Int32.toInt_toInt64, Int32.toInt_toInt64]
theorem kIn32 {x y z : Int32} {a b : Int64} (ha : a = y.toInt64) (hb : b = z.toInt64) : kIn x.toInt64 a b ↔ (¬ x < y ∧ ¬ z < x) := by
  unfold kIn
  rw [lg_cmp_lt, lg_cmp_gt, ha, hb, kl64, kl64]
theorem kInH {x : Int32} {n : Nat} (hn : n ≤ 30) : kIn x.toInt64 0 ((nI n).toInt64 - 1) ↔ (¬ x < nI 0 ∧ ¬ nI n ≤ x) := by
  have h9 : ∀ n, n < 31 → ((nI n).toInt64 - 1).toInt = (n : Int) - 1 := by decide +kernel
  unfold kIn
  rw [lg_cmp_lt, lg_cmp_gt, show (0 : Int64) = (nI 0).toInt64 from by decide, kl64, Int64.lt_iff_toInt_lt, h9 n (by omega), Int32.le_iff_toInt_le, Int32.toInt_toInt64, nI_toInt (show n < 2 ^ 31 by omega)]
  constructor
  · rintro ⟨h1, h2⟩; exact ⟨h1, by omega⟩
  · rintro ⟨h1, h2⟩; exact ⟨h1, by omega⟩
theorem kInP {x : Int32} {n : Nat} (hn : n ≤ 30) : kIn x.toInt64 0 ((nI n).toInt64 - 1) ↔ (¬ x < nI 0 ∧ ¬ (nI n - nI 1) < x) := by
  have h9 : ∀ n, n < 31 → ((nI n).toInt64 - 1) = (nI n - nI 1).toInt64 := by decide +kernel
  rw [h9 n (by omega)]
  exact kIn32 (by decide) rfl
/-! the saved states as the reference holds them -/
def kSa (sa : Nat → Int32) (sc : Nat) (V : Nat → rS) : Prop := ∀ i, i < sc → ∀ j, j < 188 → sa (188 * i + j) = kEn (V i) j
def kSh (sa : Nat → Int32) (i : Nat) : Nat → Int32 := fun j => if j < i then sa (j + 188) else sa j
theorem kSh_s {sa : Nat → Int32} {i : Nat} (j : Nat) : upd (kSh sa i) i (kSh sa i (i + 188)) j = kSh sa (i + 1) j := by
  unfold upd kSh
  by_cases e : j = i
  · rw [if_pos e, if_neg (by omega), if_pos (by omega), e]
  · rw [if_neg e]
    by_cases q : j < i
    · rw [if_pos q, if_pos (by omega)]
    · rw [if_neg q, if_neg (by omega)]
def kPt9 (b : Nat) (al sa : Nat → Int32) (i : Nat) : Nat → Int32 := fun j => if b ≤ j ∧ j < b + i then al (j - b) else sa j
theorem kPt9_0 {b : Nat} {al sa : Nat → Int32} (j : Nat) : sa j = kPt9 b al sa 0 j := by
  unfold kPt9
  rw [if_neg (by omega)]
theorem kPt9_s {b i : Nat} {al sa : Nat → Int32} (j : Nat) : upd (kPt9 b al sa i) (b + i) (al i) j = kPt9 b al sa (i + 1) j := by
  unfold upd kPt9
  by_cases e : j = b + i
  · rw [if_pos e, if_pos (by omega), e, Nat.add_sub_cancel_left]
  · rw [if_neg e]
    by_cases q : b ≤ j ∧ j < b + i
    · rw [if_pos q, if_pos (by omega)]
    · rw [if_neg q, if_neg (by omega)]
/-- what the reference's store holds behind one more saved state -/
def kRsv (al sa : Nat → Int32) (sc : Nat) : Nat → Int32 := if sc = 4 then kPt9 564 al (kSh sa 564) 188 else kPt9 (188 * sc) al sa 188
theorem kSa_sv {sa : Nat → Int32} {sc : Nat} {V : Nat → rS} {X : rS} (hs : sc ≤ 4) (h : kSa sa sc V) : kSa (kRsv (kEn X) sa sc) (kSc sc) (kSav sc V X) := by
  intro i hi j hj
  unfold kSc at hi
  by_cases e : sc = 4
  · subst e
    unfold kRsv
    rw [if_pos rfl]
    unfold kPt9
    rcases k4 (show i < 4 by omega) with rfl | rfl | rfl | rfl
    · rw [if_neg (by omega)]; unfold kSh; rw [if_pos (by omega), show 188 * 0 + j + 188 = 188 * 1 + j by omega]; exact h 1 (by decide) j hj
    · rw [if_neg (by omega)]; unfold kSh; rw [if_pos (by omega), show 188 * 1 + j + 188 = 188 * 2 + j by omega]; exact h 2 (by decide) j hj
    · rw [if_neg (by omega)]; unfold kSh; rw [if_pos (by omega), show 188 * 2 + j + 188 = 188 * 3 + j by omega]; exact h 3 (by decide) j hj
    · rw [if_pos (by omega), show 188 * 3 + j - 564 = j by omega]; rfl
  · unfold kRsv
    rw [if_neg e]
    unfold kPt9
    by_cases q : i = sc
    · rw [if_pos (by omega), show 188 * i + j - 188 * sc = j by rw [q]; omega]
      rcases k4 (show sc < 4 by omega) with rfl | rfl | rfl | rfl <;> subst q <;> rfl
    · rw [if_neg (by omega), h i (by omega) j hj]
      rcases k4 (show sc < 4 by omega) with rfl | rfl | rfl | rfl
      · omega
      · rcases (show i = 0 by omega) with rfl; rfl
      · rcases (show i = 0 ∨ i = 1 by omega) with rfl | rfl <;> rfl
      · rcases (show i = 0 ∨ i = 1 ∨ i = 2 by omega) with rfl | rfl | rfl <;> rfl
theorem kRsv_y {al sa : Nat → Int32} {sc : Nat} (h : sc = 4) : kRsv al sa sc = kPt9 564 al (kSh sa 564) 188 := if_pos h
theorem kRsv_n {al sa : Nat → Int32} {sc : Nat} (h : ¬ sc = 4) : kRsv al sa sc = kPt9 (188 * sc) al sa 188 := if_neg h
theorem kSc_y {sc : Nat} (h : sc = 4) : kSc sc = 4 := by rw [h]; rfl
theorem kSc_n {sc : Nat} (h : sc < 4) : kSc sc = sc + 1 := by unfold kSc; omega
