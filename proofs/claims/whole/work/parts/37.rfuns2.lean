/-! the night's end, answers, and the rest of the reference, as functions -/
theorem kqu_fg {X : rS} {tL tF : Nat → Nat} {cp : Nat} (j : Nat) (hj : j < 188) : kVt 28 (fun _ => (-1 : Int32)) (kEq X tL tF cp) 64 j = kEq (X.1, X.2.1, X.2.2.1, X.2.2.2.1, fun _ _ => (-1 : Int32)) tL tF cp j := by
  unfold kVt
  by_cases q : 28 ≤ j ∧ j < 28 + 64
  · rw [if_pos q]
    unfold kEq
    rw [if_neg (by omega), if_neg (by omega), if_neg (by omega), if_neg (by omega), if_pos (by omega)]
  · rw [if_neg q]
    exact kq_c (fun _ => rfl) (fun _ _ => rfl) (fun _ _ => rfl) (fun _ _ => rfl) (fun q1 q2 => absurd ⟨by omega, by omega⟩ q) (fun _ _ => rfl) (fun _ _ => rfl)
theorem kEnG_out {g g' : rG} {t t' i w : Nat} (hn : g'.2.2.2.2.2 = g.2.2.2.2.2) (h : ¬ i < g.2.2.2.2.2) : kEnG g t i w = kEnG g' t' i w := by
  unfold kEnG
  rw [hn, if_neg h, if_neg h]
/-- amid the night's end: the first mL leaders and mF followers are called back -/
abbrev kNtG (g : rG) (m : Nat) : rG := (g.1, g.2.1, g.2.2.1, kcp (fun _ => nI 1) g.2.2.2.1 m, g.2.2.2.2)
def kNtT (t : Nat → Nat) (m : Nat) : Nat → Nat := fun l => if l < m then 0 else t l
abbrev kNt (X : rS) (mL mF : Nat) : rS := (X.1, kNtG X.2.1 mL, kNtG X.2.2.1 mF, X.2.2.2)
theorem kNtT_0 (t : Nat → Nat) (l : Nat) : kNtT t 0 l = t l := if_neg (Nat.not_lt_zero l)
theorem kNtT_s {t : Nat → Nat} {m l : Nat} : kuN (kNtT t m) m 0 l = kNtT t (m + 1) l := by
  unfold kuN kNtT
  by_cases e : l = m
  · rw [if_pos e, if_pos (by omega)]
  · rw [if_neg e]
    by_cases q : l < m
    · rw [if_pos q, if_pos (by omega)]
    · rw [if_neg q, if_neg (by omega)]
section KNT
variable {X : rS} {tL tF : Nat → Nat} {cp mL mF : Nat}
theorem kNt_L (hm : mL < X.2.1.2.2.2.2.2) (h8 : X.2.1.2.2.2.2.2 ≤ 8) (j : Nat) (hj : j < 188) : upd (upd (kEq (kNt X mL mF) (kNtT tL mL) tF cp) (92 + 6 * mL + 3) (nI 1)) (92 + 6 * mL + 4) (nI 0) j = kEq (kNt X (mL + 1) mF) (kNtT tL (mL + 1)) tF cp j := by
  have h1 := fun j hj => kqu_L3 (x := kNt X mL mF) (tL := kNtT tL mL) (tF := tF) (cp := cp) (i := mL) (v := nI 1) hm h8 j hj
  have h2 := fun j hj => kqu_L4 (x := (X.1, (X.2.1.1, X.2.1.2.1, X.2.1.2.2.1, upd (kcp (fun _ => nI 1) X.2.1.2.2.2.1 mL) mL (nI 1), X.2.1.2.2.2.2), kNtG X.2.2.1 mF, X.2.2.2)) (tL := kNtT tL mL) (tF := tF) (cp := cp) (i := mL) (t := 0) hm h8 j hj
  have e : upd (upd (kEq (kNt X mL mF) (kNtT tL mL) tF cp) (92 + 6 * mL + 3) (nI 1)) (92 + 6 * mL + 4) (nI 0) j = upd (kEq (X.1, (X.2.1.1, X.2.1.2.1, X.2.1.2.2.1, upd (kcp (fun _ => nI 1) X.2.1.2.2.2.1 mL) mL (nI 1), X.2.1.2.2.2.2), kNtG X.2.2.1 mF, X.2.2.2) (kNtT tL mL) tF cp) (92 + 6 * mL + 4) (nI 0) j := by
    by_cases q : j = 92 + 6 * mL + 4
    · rw [q, pk_us, pk_us]
    · rw [pk_un q, pk_un q]; exact h1 j hj
  rw [e, h2 j hj]
  refine kq_c (fun q => ?_) (fun _ _ => rfl) (fun _ _ => rfl) (fun _ _ => rfl) (fun _ _ => rfl) (fun _ _ => ?_) (fun _ _ => rfl)
  · rcases k11 q with rfl | rfl | rfl | rfl | rfl | rfl | rfl | rfl | rfl | rfl | rfl <;> rfl
  · rw [kNtT_s]
    exact kEnG_c rfl (by omega) (fun _ => rfl) (fun _ => rfl) (fun _ => rfl) (fun _ => kcp_s (fun _ => nI 1) _ mL _) (fun _ => rfl) (fun _ => rfl)
theorem kNt_F (hm : mF < X.2.2.1.2.2.2.2.2) (h8 : X.2.2.1.2.2.2.2.2 ≤ 8) (j : Nat) (hj : j < 188) : upd (upd (kEq (kNt X mL mF) tL (kNtT tF mF) cp) (92 + 6 * (8 + mF) + 3) (nI 1)) (92 + 6 * (8 + mF) + 4) (nI 0) j = kEq (kNt X mL (mF + 1)) tL (kNtT tF (mF + 1)) cp j := by
  have h1 := fun j hj => kqu_F3 (x := kNt X mL mF) (tL := tL) (tF := kNtT tF mF) (cp := cp) (i := mF) (v := nI 1) hm h8 j hj
  have h2 := fun j hj => kqu_F4 (x := (X.1, kNtG X.2.1 mL, (X.2.2.1.1, X.2.2.1.2.1, X.2.2.1.2.2.1, upd (kcp (fun _ => nI 1) X.2.2.1.2.2.2.1 mF) mF (nI 1), X.2.2.1.2.2.2.2), X.2.2.2)) (tL := tL) (tF := kNtT tF mF) (cp := cp) (i := mF) (t := 0) hm h8 j hj
  have e : upd (upd (kEq (kNt X mL mF) tL (kNtT tF mF) cp) (92 + 6 * (8 + mF) + 3) (nI 1)) (92 + 6 * (8 + mF) + 4) (nI 0) j = upd (kEq (X.1, kNtG X.2.1 mL, (X.2.2.1.1, X.2.2.1.2.1, X.2.2.1.2.2.1, upd (kcp (fun _ => nI 1) X.2.2.1.2.2.2.1 mF) mF (nI 1), X.2.2.1.2.2.2.2), X.2.2.2) tL (kNtT tF mF) cp) (92 + 6 * (8 + mF) + 4) (nI 0) j := by
    by_cases q : j = 92 + 6 * (8 + mF) + 4
    · rw [q, pk_us, pk_us]
    · rw [pk_un q, pk_un q]; exact h1 j hj
  rw [e, h2 j hj]
  refine kq_c (fun q => ?_) (fun _ _ => rfl) (fun _ _ => rfl) (fun _ _ => rfl) (fun _ _ => rfl) (fun _ _ => rfl) (fun _ _ => ?_)
  · rcases k11 q with rfl | rfl | rfl | rfl | rfl | rfl | rfl | rfl | rfl | rfl | rfl <;> rfl
  · rw [kNtT_s]
    exact kEnG_c rfl (by omega) (fun _ => rfl) (fun _ => rfl) (fun _ => rfl) (fun _ => kcp_s (fun _ => nI 1) _ mF _) (fun _ => rfl) (fun _ => rfl)
/-- behind the night's end: the dances are forgotten -/
theorem kNt_end (hL : mL = X.2.1.2.2.2.2.2) (hF : mF = X.2.2.1.2.2.2.2.2) {C : rC} (j : Nat) : kEq (C, (kNt X mL mF).2.1, (kNt X mL mF).2.2.1, X.2.2.2.1, fun _ _ => (-1 : Int32)) (kNtT tL mL) (kNtT tF mF) 0 j = kEn (C, kNtG X.2.1 X.2.1.2.2.2.2.2, kNtG X.2.2.1 X.2.2.1.2.2.2.2.2, X.2.2.2.1, fun _ _ => (-1 : Int32)) j := by
  subst hL
  subst hF
  refine kq_c (fun _ => rfl) (fun _ _ => rfl) (fun _ _ => rfl) (fun _ _ => rfl) (fun _ _ => rfl) (fun _ _ => ?_) (fun _ _ => ?_)
  · by_cases q : (j - 92) / 6 < X.2.1.2.2.2.2.2
    · rw [show kNtT tL X.2.1.2.2.2.2.2 ((j - 92) / 6) = 0 from if_pos q]; rfl
    · exact kEnG_out rfl q
  · by_cases q : (j - 92) / 6 - 8 < X.2.2.1.2.2.2.2.2
    · rw [show kNtT tF X.2.2.1.2.2.2.2.2 ((j - 92) / 6 - 8) = 0 from if_pos q]; rfl
    · exact kEnG_out rfl q
end KNT
/-- what is left of the bag, as the reference takes it away -/
def krs (b : Int32) (c : Nat → Int32) : Nat → Int32
  | 0 => b
  | i + 1 => krs b c i - c i
theorem ksub_c (a b c : Int32) : a - b - c = a - c - b := by rw [Int32.sub_sub, Int32.sub_sub, Int32.add_comm b c]
theorem krs_r (b : Int32) (c : Nat → Int32) : ∀ n, krs b c (n + 1) = krest c b n - c 0
  | 0 => rfl
  | n + 1 => by
    show krs b c (n + 1) - c (n + 1) = krest c b n - c (n + 1) - c 0
    rw [krs_r b c n, ksub_c]
theorem kshr0 {b : Int32} {p : Nat → Int32} {n : Nat} (hn : 1 ≤ n) : kcut b p n 0 + krs b (kcut b p n) n = kcutA b p n 0 := by
  obtain ⟨m, rfl⟩ : ∃ m, n = m + 1 := ⟨n - 1, by omega⟩
  rw [krs_r, Int32.add_comm, Int32.sub_add_cancel]
  unfold kcutA
  rw [if_pos rfl, show m + 1 - 1 = m by omega]
theorem kshrn {b : Int32} {p : Nat → Int32} {n f : Nat} (hf : ¬ f = 0) : kcut b p n f + nI 0 = kcutA b p n f := by
  unfold kcutA
  rw [if_neg hf]
  exact Int32.add_zero _
/-- the last place that holds x -/
def klst (r : Nat → Int32) (y : Int32) : Nat → Int32
  | 0 => (-1 : Int32)
  | i + 1 => if r i = y then nI i else klst r y i
theorem klst_y {r : Nat → Int32} {y : Int32} {i : Nat} (h : r i = y) : klst r y (i + 1) = nI i := if_pos h
theorem klst_n {r : Nat → Int32} {y : Int32} {i : Nat} (h : ¬ r i = y) : klst r y (i + 1) = klst r y i := if_neg h
theorem kfst_ex {r : Nat → Int32} {y : Int32} : ∀ {n : Nat}, kfst r y n ≠ (-1 : Int32) → ∃ i, i < n ∧ r i = y
  | 0, h => absurd rfl h
  | n + 1, h => by
    by_cases q : kfst r y n = (-1 : Int32)
    · by_cases e : r n = y
      · exact ⟨n, by omega, e⟩
      · exact absurd (kfst_miss q e) h
    · obtain ⟨i, hi, e⟩ := kfst_ex q
      exact ⟨i, by omega, e⟩
theorem klst_f {r : Nat → Int32} {y : Int32} : ∀ n, n ≤ 8 → (∀ f g, f < 8 → g < 8 → r f = y → r g = y → f = g) → klst r y n = kfst r y n
  | 0, _, _ => rfl
  | n + 1, hn, h => by
    have ih := klst_f (r := r) (y := y) n (by omega) h
    by_cases e : r n = y
    · rw [klst_y e]
      by_cases q : kfst r y n = (-1 : Int32)
      · exact (kfst_hit (by omega) (by omega) q e).symm
      · obtain ⟨i, hi, e2⟩ := kfst_ex q
        have := h i n (by omega) (by omega) e2 e
        omega
    · rw [klst_n e, ih]
      by_cases q : kfst r y n = (-1 : Int32)
      · rw [kfst_miss q e, q]
      · exact (kfst_stay q 1).symm
/-- one more pair of a size -/
theorem kLe_z {p l : Nat → Int32} {z : Nat} (hz : 1 ≤ z) : kLe (upd p z (p z + nI 1)) l 0 10 = kLe p l z 10 := by
  funext j
  unfold kLe
  by_cases q : 1 ≤ j ∧ j < 10
  · rw [if_pos q, if_pos q, if_neg (show ¬ j = 0 by omega)]
    by_cases e : j = z
    · rw [e, pk_us, if_pos rfl]; exact Int32.add_zero _
    · rw [pk_un e, if_neg e]
  · rw [if_neg q, if_neg q]
theorem kRc_z {p : Nat → Int32} {L F : rG} {z : Nat} (hz : 1 ≤ z) : kRc (upd p z (p z + nI 1)) L F 0 = kRc p L F z := by
  unfold kRc kS2 kS1
  rw [kLe_z hz]
/-- pairs of shoes as the hall has them: at most nine -/
def kPn9 (p : Nat → Int32) : Prop := ∀ z, 1 ≤ z → z ≤ 9 → ∃ n, n ≤ 9 ∧ p z = nI n
theorem kPn_9 {p : Nat → Int32} (h : kPn9 p) : kPn p := fun z h1 h2 => by
  obtain ⟨n, hn, e⟩ := h z h1 h2
  exact ⟨n, by omega, e⟩
theorem kPn_u {p : Nat → Int32} {z : Nat} (h : kPn9 p) (h1 : 1 ≤ z) (h9 : z ≤ 9) : kPn (upd p z (p z + nI 1)) := fun y y1 y9 => by
  by_cases e : y = z
  · obtain ⟨n, hn, e2⟩ := h z h1 h9
    exact ⟨n + 1, by omega, by rw [e, pk_us, e2, nI_add]⟩
  · obtain ⟨n, hn, e2⟩ := h y y1 y9
    exact ⟨n, by omega, by rw [pk_un e]; exact e2⟩
/-- the book's cells, one after the other -/
theorem kns_app (f : Nat → Nat) (a : Nat) : ∀ b, kns f (a + b) = kns f a + kns (fun i => f (a + i)) b
  | 0 => rfl
  | b + 1 => by
    have ih := kns_app f a b
    show kns f (a + b) + f (a + b) = kns f a + (kns (fun i => f (a + i)) b + f (a + b))
    omega
theorem kns_blk (f : Nat → Nat) : ∀ m, kns f (8 * m) = kns (fun l => kns (fun i => f (8 * l + i)) 8) m
  | 0 => rfl
  | m + 1 => by
    rw [show 8 * (m + 1) = 8 * m + 8 by omega, kns_app, kns_blk f m]
    rfl
def kfl (d : Nat → Nat → Int32) (n : Nat) : Nat := kns (fun k => if d (k / 8) (k % 8) = (-1 : Int32) then 0 else 1) n
theorem kfl_e {d : Nat → Nat → Int32} {n : Nat} (h : d (n / 8) (n % 8) = (-1 : Int32)) : kfl d (n + 1) = kfl d n + 0 := by
  show kns _ n + (if _ then 0 else 1) = _
  rw [if_pos h]
  rfl
theorem kfl_n {d : Nat → Nat → Int32} {n : Nat} (h : ¬ d (n / 8) (n % 8) = (-1 : Int32)) : kfl d (n + 1) = kfl d n + 1 := by
  show kns _ n + (if _ then 0 else 1) = _
  rw [if_neg h]
  rfl
theorem kfl_64 (d : Nat → Nat → Int32) : kfl d 64 = kCp d := by
  unfold kfl
  rw [show (64 : Nat) = 8 * 8 from rfl, kns_blk]
  refine kns_eq2 fun l hl => ?_
  (try dsimp only)
  rw [kcnt_ns]
  refine kns_eq2 fun i hi => ?_
  (try dsimp only)
  rw [show (8 * l + i) / 8 = l by omega, show (8 * l + i) % 8 = i by omega]
theorem kfl_le (d : Nat → Nat → Int32) (n : Nat) : kfl d n ≤ n := by
  have := kns_le (fun k => if d (k / 8) (k % 8) = (-1 : Int32) then 0 else 1) 1 (fun i => by (try dsimp only); split <;> omega) n
  unfold kfl
  omega
theorem kLnt_L {X : rS} {i : Nat} (h8 : i < 8) (h : i < X.2.1.2.2.2.2.2) : kLnt X i = (kS1 X.2.2.2.1.1 X.2.1 kF0 0).2.1 i := by
  unfold kLnt
  rw [if_pos h8, if_pos h]
theorem kLnt_F {X : rS} {i : Nat} (h : i < X.2.2.1.2.2.2.2.2) : kLnt X (8 + i) = (kS2 X.2.2.2.1.1 X.2.1 X.2.2.1 kF0 0).2.1 i := by
  unfold kLnt
  rw [if_neg (by omega), show 8 + i - 8 = i by omega, if_pos h]
theorem kLft_z {lf : Nat → Int32} {X : rS} {z : Nat} (h1 : 1 ≤ z) (h9 : z ≤ 9) : kLft lf X z = kLf X.2.2.2.1.1 X.2.1 X.2.2.1 z := by
  unfold kLft
  rw [if_neg (by omega), if_pos (by omega)]
theorem kup1 {p : Nat → Int32} {z j : Nat} : upd (upd p z (p z + nI 1)) z (p z + nI 1 - nI 1) j = p j := by
  rw [kuu]
  by_cases e : j = z
  · rw [e, pk_us, Int32.add_sub_cancel]
  · rw [pk_un e]
theorem kq_dk {x : rS} {tL tF : Nat → Nat} {cp k : Nat} (h : k < 64) : kEq x tL tF cp (28 + k) = x.2.2.2.2 (k / 8) (k % 8) := by
  have h9 := kq_d (x := x) (tL := tL) (tF := tF) (cp := cp) (l := k / 8) (f := k % 8) (by omega) (by omega)
  rw [show 28 + 8 * (k / 8) + k % 8 = 28 + k by omega] at h9
  exact h9
