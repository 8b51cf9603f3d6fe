/-! what holds at the head of the law's loop -/
def lGood (sc : Nat) (V : Nat → rS) (X Y : rS) (bs : Nat → Int32) (ln : Nat) (sa : Nat → Int32) : Prop :=
  kGd X ∧ (∀ i, i < 4 → kGd (V i)) ∧ sc ≤ 4 ∧ kSa sa sc V ∧ kBy bs ∧ ln ≤ 100 ∧ kBoG Y.2.1 ∧ kBoG Y.2.2.1
section LGOOD
variable {sc : Nat} {V : Nat → rS} {X Y : rS} {bs : Nat → Int32} {ln : Nat} {sa : Nat → Int32}
theorem lGood_sv {X2 : rS} (h : lGood sc V X Y bs ln sa) (hX : kGd X2) : lGood (kSc sc) (kSav sc V X) X2 Y bs ln (kRsv (kEn X) sa sc) :=
  ⟨hX, kGd_sv h.2.1 h.1 h.2.2.1, by unfold kSc; omega, kSa_sv h.2.2.1 h.2.2.2.1, h.2.2.2.2⟩
theorem lGood_un (h : lGood sc V X Y bs ln sa) (h1 : 1 ≤ sc) : lGood (sc - 1) V (V (sc - 1)) Y bs ln sa := by
  have h4 := h.2.2.1
  exact ⟨h.2.1 _ (by omega), h.2.1, by omega, fun i hi => h.2.2.2.1 i (by omega), h.2.2.2.2⟩
theorem kBy_up {n v : Nat} (h : kBy bs) (hv : v < 128) : kBy (upd bs n (nI v)) := fun j hj => by
  by_cases e : j = n
  · rw [e, pk_us, nI_clamp (by omega)]; exact ⟨rfl, hv⟩
  · rw [pk_un e]; exact h j hj
theorem lGood_ap {v : Nat} (h : lGood sc V X Y bs ln sa) (hl : ln < 100) (hv : v < 128) : lGood sc V X Y (upd bs ln (nI v)) (ln + 1) sa := ⟨h.1, h.2.1, h.2.2.1, h.2.2.2.1, kBy_up h.2.2.2.2.1 hv, hl, h.2.2.2.2.2.2⟩
theorem lGood_cl (h : lGood sc V X Y bs ln sa) : lGood sc V X Y bs 0 sa := ⟨h.1, h.2.1, h.2.2.1, h.2.2.2.1, h.2.2.2.2.1, Nat.zero_le _, h.2.2.2.2.2.2⟩
theorem lGood_tr {Y2 : rS} (h : lGood sc V X Y bs ln sa) (hL : kBoG Y2.2.1) (hF : kBoG Y2.2.2.1) : lGood sc V X Y2 bs ln sa := ⟨h.1, h.2.1, h.2.2.1, h.2.2.2.1, h.2.2.2.2.1, h.2.2.2.2.2.1, hL, hF⟩
end LGOOD
/-- a number of the script within bounds -/
theorem kin_n {v : Int32} {a b : Nat} (ha : a < 1000) (hb : b < 1000) (h : ¬ v < nI a ∧ ¬ nI b < v) : ∃ n, a ≤ n ∧ n ≤ b ∧ v = nI n := by
  have e1 : (nI a).toInt = (a : Int) := nI_toInt (by omega)
  have e2 : (nI (b + 1)).toInt = ((b + 1 : Nat) : Int) := nI_toInt (by omega)
  have e3 : (nI b).toInt = (b : Int) := nI_toInt (by omega)
  have h1 := h.1
  have h2 := h.2
  rw [Int32.lt_iff_toInt_lt, e1] at h1
  rw [Int32.lt_iff_toInt_lt, e3] at h2
  have h3 : ¬ v < 0 := by
    rw [Int32.lt_iff_toInt_lt]
    show ¬ v.toInt < (nI 0).toInt
    rw [nI_toInt (by decide)]
    omega
  have h4 : ¬ nI (b + 1) ≤ v := by
    rw [Int32.le_iff_toInt_le, e2]
    omega
  obtain ⟨j, j1, j2, -⟩ := pk_mu h3 h4 (by omega)
  refine ⟨j, ?_, by omega, j2⟩
  rw [j2, nI_toInt (by omega)] at h1
  omega
