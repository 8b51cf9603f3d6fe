/-! the text, as the reference reads it -/
def kHr (bs : Nat → Int32) (ln pl : Nat) : Int32 := if ln ≤ pl then (-1 : Int32) else bs pl
theorem kHr_y {bs : Nat → Int32} {ln pl : Nat} (h : ¬ ln ≤ pl) : bs pl = kHr bs ln pl := (if_neg h).symm
theorem kHr_n {bs : Nat → Int32} {ln pl : Nat} (h : ln ≤ pl) : (-1 : Int32) = kHr bs ln pl := (if_pos h).symm
theorem kHr_is {bs : Nat → Int32} {ln pl c9 : Nat} (hc : c9 < 2 ^ 31) : kHr bs ln pl = nI c9 ↔ kIs bs ln pl c9 := by
  unfold kHr
  by_cases q : ln ≤ pl
  · rw [if_pos q]; exact ⟨fun h => absurd h.symm (nI_ne1 hc), fun h => absurd q h.1⟩
  · rw [if_neg q]; exact ⟨fun h => ⟨q, h⟩, fun h => h.2⟩
theorem kHr_b {bs : Nat → Int32} {ln pl : Nat} (hb : kBy bs) (hln : ln ≤ 100) (h : ¬ ln ≤ pl) : kHr bs ln pl = nI (kb9 bs pl) := (if_neg h).trans (hb pl (by omega)).1
theorem kHr_dig {bs : Nat → Int32} {ln pl l9 : Nat} (hl : l9 < 2) (hb : kBy bs) (hln : ln ≤ 100) : (¬ kHr bs ln pl < nI (48 + l9) ∧ ¬ nI 57 < kHr bs ln pl) ↔ kDig bs ln pl l9 := by
  by_cases q : ln ≤ pl
  · have e : kHr bs ln pl = (-1 : Int32) := if_pos q
    rw [e]
    have h9 : ∀ l9, l9 < 2 → (-1 : Int32) < nI (48 + l9) := by decide +kernel
    exact ⟨fun h => absurd (h9 l9 hl) h.1, fun h => absurd q h.1⟩
  · rw [kHr_b hb hln q]
    have h8 := (hb pl (by omega)).2
    have h7 : kb9 bs pl < 128 := h8
    rw [nI_ltI (by omega) (by omega), nI_ltI (by omega) (by omega)]
    constructor
    · rintro ⟨h1, h2⟩; exact ⟨q, by omega, by omega⟩
    · rintro ⟨_, h1, h2⟩; exact ⟨by omega, by omega⟩
/-- what the reference keeps of a guest that it has read -/
def kRd (rd : Nat → Int32) (k : Nat) (isL : Bool) (t z o : Nat) : Prop := rd (4 * k) = (if isL = true then nI 1 else nI 0) ∧ rd (4 * k + 1) = nI t ∧ rd (4 * k + 2) = nI z ∧ rd (4 * k + 3) = nI o
/-- one step of the class's reading is the guest kept -/
def kSt1 (rd : Nat → Int32) (k : Nat) (L F L' F' : rG) : Prop := ∃ (isL : Bool) (t z o : Nat), o ≤ 1 ∧ kRd rd k isL t z o ∧ (L', F') = (if isL = true then (kAdd L t z o, F) else (L, kAdd F t z o))
/-- behind the reading of a guest -/
def kRgP (bs : Nat → Int32) (ln pl : Nat) (L F : rG) (rd : Nat → Int32) (gs rl : Nat) (rd' : Nat → Int32) (gs' rl' : Nat) : Prop :=
  (kRG bs ln pl L F).1 = true → gs' = gs + 1 ∧ rl' = (kRG bs ln pl L F).2.2.1.2.2.2.2.2 ∧ (∀ j, j < 4 * gs → rd' j = rd j) ∧ kSt1 rd' gs L F (kRG bs ln pl L F).2.2.1 (kRG bs ln pl L F).2.2.2
theorem kRG_n1 {bs : Nat → Int32} {ln pl : Nat} {L F : rG} (h : ¬ (kRG bs ln pl L F).1 = true) {rd rd' : Nat → Int32} {gs rl gs' rl' : Nat} : kRgP bs ln pl L F rd gs rl rd' gs' rl' := fun q => absurd q h
theorem kRdA {rd : Nat → Int32} {g : Nat} {a b c d e : Int32} : upd (upd (upd (upd rd (4 * g + 1) b) (4 * g) a) (4 * g + 2) c) (4 * g + 3) d (4 * g) = a ∧ upd (upd (upd (upd rd (4 * g + 1) b) (4 * g) a) (4 * g + 2) c) (4 * g + 3) d (4 * g + 1) = b ∧ upd (upd (upd (upd rd (4 * g + 1) b) (4 * g) a) (4 * g + 2) c) (4 * g + 3) d (4 * g + 2) = c ∧ upd (upd (upd (upd rd (4 * g + 1) b) (4 * g) a) (4 * g + 2) c) (4 * g + 3) d (4 * g + 3) = d ∧ ∀ j, j < 4 * g → upd (upd (upd (upd rd (4 * g + 1) b) (4 * g) a) (4 * g + 2) c) (4 * g + 3) d j = rd j := by
  refine ⟨?_, ?_, ?_, pk_us, fun j hj => ?_⟩
  · rw [pk_un (by omega), pk_un (by omega), pk_us]
  · rw [pk_un (by omega), pk_un (by omega), pk_un (by omega), pk_us]
  · rw [pk_un (by omega), pk_us]
  · rw [pk_un (by omega), pk_un (by omega), pk_un (by omega), pk_un (by omega)]
theorem kRgP_l {bs : Nat → Int32} {ln pl q : Nat} {L F : rG} {rd : Nat → Int32} {gs rl t z o : Nat} (ho : o ≤ 1) (E : kRG bs ln pl L F = (true, q, kAdd L t z o, F)) (hr : rl = L.2.2.2.2.2) :
    kRgP bs ln pl L F rd gs rl (upd (upd (upd (upd rd (4 * gs + 1) (nI t)) (4 * gs) (nI 1)) (4 * gs + 2) (nI z)) (4 * gs + 3) (nI o)) (gs + 1) (rl + 1) := by
  intro _
  rw [E]
  obtain ⟨a1, a2, a3, a4, a5⟩ := kRdA (rd := rd) (g := gs) (a := nI 1) (b := nI t) (c := nI z) (d := nI o) (e := 0)
  exact ⟨rfl, by rw [hr]; rfl, a5, true, t, z, o, ho, ⟨a1, a2, a3, a4⟩, rfl⟩
theorem kRgP_f {bs : Nat → Int32} {ln pl q : Nat} {L F : rG} {rd : Nat → Int32} {gs rl t z o : Nat} (ho : o ≤ 1) (E : kRG bs ln pl L F = (true, q, L, kAdd F t z o)) (hr : rl = L.2.2.2.2.2) :
    kRgP bs ln pl L F rd gs rl (upd (upd (upd (upd rd (4 * gs + 1) (nI t)) (4 * gs) (nI 0)) (4 * gs + 2) (nI z)) (4 * gs + 3) (nI o)) (gs + 1) (rl + 0) := by
  intro _
  rw [E]
  obtain ⟨a1, a2, a3, a4, a5⟩ := kRdA (rd := rd) (g := gs) (a := nI 0) (b := nI t) (c := nI z) (d := nI o) (e := 0)
  exact ⟨rfl, hr, a5, false, t, z, o, ho, ⟨a1, a2, a3, a4⟩, rfl⟩
/-- all that has been read so far -/
def kRdAll (bs : Nat → Int32) (ln : Nat) (L F : rG) (rd : Nat → Int32) (q : Nat) : Prop := ∀ k, k < q → kSt1 rd k (kRs bs ln L F k).2.2.1 (kRs bs ln L F k).2.2.2 (kRs bs ln L F (k + 1)).2.2.1 (kRs bs ln L F (k + 1)).2.2.2
theorem kRd_m {rd rd' : Nat → Int32} {k n : Nat} {isL : Bool} {t z o : Nat} (h : k < n) (e : ∀ j, j < 4 * n → rd' j = rd j) (hr : kRd rd k isL t z o) : kRd rd' k isL t z o := by
  obtain ⟨a, b, c, d⟩ := hr
  exact ⟨by rw [e _ (by omega)]; exact a, by rw [e _ (by omega)]; exact b, by rw [e _ (by omega)]; exact c, by rw [e _ (by omega)]; exact d⟩
theorem kRdAll_s {bs : Nat → Int32} {ln : Nat} {L F : rG} {rd rd' : Nat → Int32} {q : Nat} (h : kRdAll bs ln L F rd q) (e : ∀ j, j < 4 * q → rd' j = rd j) (hs : kSt1 rd' q (kRs bs ln L F q).2.2.1 (kRs bs ln L F q).2.2.2 (kRs bs ln L F (q + 1)).2.2.1 (kRs bs ln L F (q + 1)).2.2.2) : kRdAll bs ln L F rd' (q + 1) := by
  intro k hk
  by_cases e9 : k = q
  · subst e9; exact hs
  · obtain ⟨isL, t, z, o, ho, hr, hh⟩ := h k (by omega)
    exact ⟨isL, t, z, o, ho, kRd_m (show k < q by omega) e hr, hh⟩
theorem kRG_pl {bs : Nat → Int32} {ln pl : Nat} {L F : rG} (h : (kRG bs ln pl L F).1 = true) : pl + 1 ≤ (kRG bs ln pl L F).2.1 := by
  have hp := (kRT_pos bs ln (pl + 1)).1
  unfold kRG at h ⊢
  split
  · rename_i q1
    rw [if_pos q1] at h
    split
    · rename_i q2; rw [if_pos q2] at h; cases h
    · split
      · exact hp
      · exact hp
  · rename_i q1
    rw [if_neg q1] at h
    split
    · rename_i q2; rw [if_pos q2] at h; cases h
    · rename_i q2
      rw [if_neg q2] at h
      split
      · split
        · exact hp
        · exact hp
      · rename_i q3; rw [if_neg q3] at h; cases h
/-- as many guests as places at most, and as many as are counted -/
theorem kRs_q {bs : Nat → Int32} {ln : Nat} {L F : rG} : ∀ q, (kRs bs ln L F q).1 = true → (∀ k, k < q → (kRs bs ln L F k).2.1 < ln) → q ≤ (kRs bs ln L F q).2.1
  | 0, _, _ => Nat.zero_le _
  | q + 1, h, hk => by
    have hlt := hk q (by omega)
    by_cases e : (kRs bs ln L F q).1 = true
    · have ih := kRs_q q e (fun k h => hk k (by omega))
      have e2 := kRs_y e hlt
      rw [e2] at h ⊢
      have := kRG_pl h
      omega
    · have e2 : kRs bs ln L F (q + 1) = kRs bs ln L F q := if_neg (fun h9 => e h9.1)
      rw [e2] at h
      exact absurd h e
theorem kRG_cnt {bs : Nat → Int32} {ln pl : Nat} {L F : rG} (h : (kRG bs ln pl L F).1 = true) : (kRG bs ln pl L F).2.2.1.2.2.2.2.2 + (kRG bs ln pl L F).2.2.2.2.2.2.2.2 = L.2.2.2.2.2 + F.2.2.2.2.2 + 1 := by
  unfold kRG at h ⊢
  split
  · rename_i q1
    rw [if_pos q1] at h
    split
    · rename_i q2; rw [if_pos q2] at h; cases h
    · rename_i q2
      rw [if_neg q2] at h
      split
      · show L.2.2.2.2.2 + 1 + F.2.2.2.2.2 = _; omega
      · rename_i q3; rw [if_neg q3] at h; cases h
  · rename_i q1
    rw [if_neg q1] at h
    split
    · rename_i q2; rw [if_pos q2] at h; cases h
    · rename_i q2
      rw [if_neg q2] at h
      split
      · rename_i q4
        rw [if_pos q4] at h
        split
        · show L.2.2.2.2.2 + (F.2.2.2.2.2 + 1) = _; omega
        · rename_i q3; rw [if_neg q3] at h; cases h
      · rename_i q3; rw [if_neg q3] at h; cases h
theorem kRG_sz {bs : Nat → Int32} {ln pl : Nat} {L F : rG} (h : (kRG bs ln pl L F).1 = true) : (kRG bs ln pl L F).2.2 = (kRG bs ln pl L F).2.2 := rfl
def kbn (b : Bool) : Nat := if b = true then 1 else 0
theorem kbn_y {b : Bool} (h : b = true) : kbn b = 1 := if_pos h
theorem kbn_n {b : Bool} (h : ¬ b = true) : kbn b = 0 := if_neg h
theorem kbn_t {b : Bool} (h : ¬ kbn b = 0) : b = true := by
  cases b with
  | true => rfl
  | false => exact absurd rfl h
theorem kbn_f {b : Bool} (h : kbn b = 0) : ¬ b = true := by
  cases b with
  | true => exact absurd h (by decide)
  | false => decide
theorem kbn_1 (b : Bool) : kbn b ≤ 1 := by cases b <;> decide
theorem kbn_i (b : Bool) : nI (kbn b) = if b = true then nI 1 else nI 0 := by cases b <;> rfl
/-- all guests cleared -/
theorem kqu_cl {X : rS} {L2 F2 : rG} (j : Nat) (hj : j < 188) : upd (upd (kVt 92 (fun _ => nI 0) (kEn X) 96) 0 (nI 0)) 1 (nI 0) j = kEq (X.1, kG0 L2, kG0 F2, X.2.2.2) (fun _ => 0) (fun _ => 0) (kCp X.2.2.2.2) j := by
  by_cases e1 : j = 1
  · rw [e1, pk_us]; rfl
  rw [pk_un e1]
  by_cases e0 : j = 0
  · rw [e0, pk_us]; rfl
  rw [pk_un e0]
  by_cases q : 92 ≤ j
  · rw [kVt_in q (by omega)]
    unfold kEq
    rw [if_neg (by omega), if_neg (by omega), if_neg (by omega), if_neg (by omega), if_neg (by omega)]
    by_cases q2 : (j - 92) / 6 < 8
    · rw [if_pos q2]; rfl
    · rw [if_neg q2]; rfl
  · unfold kVt
    rw [if_neg (by omega)]
    refine kq_c (fun q2 => ?_) (fun _ _ => rfl) (fun _ _ => rfl) (fun _ _ => rfl) (fun _ _ => rfl) (fun q3 _ => absurd (show j < 92 by omega) q3) (fun q3 _ => absurd (show j < 92 by omega) q3)
    rcases k11 q2 with rfl | rfl | rfl | rfl | rfl | rfl | rfl | rfl | rfl | rfl | rfl <;> first | rfl | exact absurd rfl e0 | exact absurd rfl e1
theorem kEq_pe {C : rC} {L F : rG} {Ar : rA} (j : Nat) : kEq (C, L, F, Ar, fun _ _ => (-1 : Int32)) (fun _ => 0) (fun _ => 0) 0 j = kEn (C, L, F, Ar, fun _ _ => (-1 : Int32)) j := rfl
