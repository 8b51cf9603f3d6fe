/-! booking couples, as the reference does it -/
abbrev kS4 (X : rS) : kSt := (X.1, X.2.1, X.2.2.1, X.2.2.2.2)
abbrev kX4 (X : rS) (s : kSt) : rS := (s.1, s.2.1, s.2.2.1, X.2.2.2.1, s.2.2.2)
/-- amid a dance: all couples are counted behind it -/
abbrev kXB (X : rS) (B : kSt) : rS := ((B.1.1, B.1.2.1, B.1.2.2.1, B.1.2.2.2.1, B.1.2.2.2.2.1, B.1.2.2.2.2.2.1, B.1.2.2.2.2.2.2.1, X.1.2.2.2.2.2.2.2), B.2.1, B.2.2.1, X.2.2.2.1, B.2.2.2)
abbrev kPyL (i : Nat) (X : rS) : rS := ((X.1.1, X.1.2.1, X.1.2.2.1, X.1.2.2.2.1, X.1.2.2.2.2.1 + nI 1, X.1.2.2.2.2.2), (upd X.2.1.1 i (X.2.1.1 i - nI 1), X.2.1.2.1, X.2.1.2.2.1, X.2.1.2.2.2.1, upd X.2.1.2.2.2.2.1 i (X.2.1.2.2.2.2.1 i + nI 1), X.2.1.2.2.2.2.2), X.2.2)
abbrev kPyF (i : Nat) (X : rS) : rS := ((X.1.1, X.1.2.1, X.1.2.2.1, X.1.2.2.2.1, X.1.2.2.2.2.1 + nI 1, X.1.2.2.2.2.2), X.2.1, (upd X.2.2.1.1 i (X.2.2.1.1 i - nI 1), X.2.2.1.2.1, X.2.2.1.2.2.1, X.2.2.1.2.2.2.1, upd X.2.2.1.2.2.2.2.1 i (X.2.2.1.2.2.2.2.1 i + nI 1), X.2.2.1.2.2.2.2.2), X.2.2.2)
theorem kcnt_ns (p : Nat → Int32) : ∀ n, kcnt p n = kns (fun j => if p j = (-1 : Int32) then 0 else 1) n
  | 0 => rfl
  | n + 1 => by
    show kcnt p n + _ = kns _ n + _
    rw [kcnt_ns p n]
theorem kcnt_up {p p' : Nat → Int32} {k n : Nat} (hk : k < n) (h : p k = (-1 : Int32)) (h' : p' k ≠ (-1 : Int32)) (e : ∀ i, i < n → i ≠ k → p' i = p i) : kcnt p' n = kcnt p n + 1 := by
  have h9 := kns_ch (f := fun j => if p' j = (-1 : Int32) then 0 else 1) (g := fun j => if p j = (-1 : Int32) then 0 else 1) hk (fun i hi q => by (try dsimp only); rw [e i hi q])
  (try dsimp only at h9)
  rw [if_pos h, if_neg h'] at h9
  rw [kcnt_ns, kcnt_ns]
  exact h9
theorem kcnt_eq {p p' : Nat → Int32} {n : Nat} (e : ∀ i, i < n → p' i = p i) : kcnt p' n = kcnt p n := by
  rw [kcnt_ns, kcnt_ns]
  exact kns_eq2 fun i hi => by (try dsimp only); rw [e i hi]
section KBK
variable {d : Nat → Nat → Int32} {i f : Nat} {v : Int32}
theorem kup_y : kup d i (upd (d i) f v) i = upd (d i) f v := if_pos rfl
theorem kup_n {l : Nat} (h : l ≠ i) : kup d i (upd (d i) f v) l = d l := if_neg h
theorem kTL_bk (hf : f < 8) (h : d i f = (-1 : Int32)) (hv : v ≠ (-1 : Int32)) (l : Nat) : kuN (kTL d) i (kTL d i + 1) l = kTL (kup d i (upd (d i) f v)) l := by
  by_cases q : l = i
  · subst q
    rw [kuN_y rfl]
    show kcnt (d l) 8 + 1 = kcnt (kup d l (upd (d l) f v) l) 8
    rw [kup_y]
    exact (kcnt_up hf h (by rw [pk_us]; exact hv) (fun j _ q => pk_un q)).symm
  · rw [kuN_n q]
    show kcnt (d l) 8 = kcnt (kup d i (upd (d i) f v) l) 8
    rw [kup_n q]
theorem kTF_bk (hi : i < 8) (h : d i f = (-1 : Int32)) (hv : v ≠ (-1 : Int32)) (g : Nat) : kuN (kTF d) f (kTF d f + 1) g = kTF (kup d i (upd (d i) f v)) g := by
  by_cases q : g = f
  · subst q
    rw [kuN_y rfl]
    exact (kcnt_up (p := fun q => d q g) (p' := fun q => kup d i (upd (d i) g v) q g) hi h (by (try dsimp only); rw [kup_y, pk_us]; exact hv) (fun j _ q => by (try dsimp only); rw [kup_n q])).symm
  · rw [kuN_n q]
    refine (kcnt_eq (p := fun q => d q g) (p' := fun q => kup d i (upd (d i) f v) q g) (fun j _ => ?_)).symm
    (try dsimp only)
    by_cases e : j = i
    · subst e; rw [kup_y, pk_un q]
    · rw [kup_n e]
theorem kCp_bk (hi : i < 8) (hf : f < 8) (h : d i f = (-1 : Int32)) (hv : v ≠ (-1 : Int32)) : kCp (kup d i (upd (d i) f v)) = kCp d + 1 := by
  have h9 := kns_ch (f := kTL (kup d i (upd (d i) f v))) (g := kTL d) hi (fun j _ q => by
    rw [← kTL_bk hf h hv j, kuN_n q])
  rw [← kTL_bk hf h hv i, kuN_y rfl] at h9
  have e : kCp (kup d i (upd (d i) f v)) = kns (kTL (kup d i (upd (d i) f v))) 8 := rfl
  have e2 : kCp d = kns (kTL d) 8 := rfl
  omega
end KBK
/-- one couple booked: the array tells it -/
theorem kEq_bk {X : rS} {B : kSt} {i f cp : Nat} (hi : i < 8) (hf : f < 8) (h : B.2.2.2 i f = (-1 : Int32)) (hd : B.1.2.2.2.2.2.2.1 ≤ 30) (j : Nat) (hj : j < 188) :
    kEq ((kPyF f (kPyL i (kXB X B))).1, (kPyF f (kPyL i (kXB X B))).2.1, (kPyF f (kPyL i (kXB X B))).2.2.1, (kPyF f (kPyL i (kXB X B))).2.2.2.1, kup B.2.2.2 i (upd (B.2.2.2 i) f (nI B.1.2.2.2.2.2.2.1))) (kuN (kTL B.2.2.2) i (kTL B.2.2.2 i + 1)) (kuN (kTF B.2.2.2) f (kTF B.2.2.2 f + 1)) cp j
    = kEq (kXB X (kBk i f B)) (kTL (kBk i f B).2.2.2) (kTF (kBk i f B).2.2.2) cp j := by
  have hv : nI B.1.2.2.2.2.2.2.1 ≠ (-1 : Int32) := nI_ne1 (by omega)
  refine kq_c (fun q => ?_) (fun _ _ => rfl) (fun _ _ => rfl) (fun _ _ => rfl) (fun _ _ => rfl) (fun _ q2 => ?_) (fun _ q2 => ?_)
  · rcases k11 q with rfl | rfl | rfl | rfl | rfl | rfl | rfl | rfl | rfl | rfl | rfl <;> first | rfl | exact Int32.add_assoc _ _ _
  · rw [kTL_bk hf h hv]; rfl
  · rw [kTF_bk hi h hv]; rfl
/-! the first way to pair -/
theorem kff1_t {P : Nat → Bool} : ∀ {n : Nat}, kff1 P n < n → P (kff1 P n) = true
  | 0, h => absurd h (Nat.not_lt_zero _)
  | n + 1, h => by
    unfold kff1 at h ⊢
    split
    · rename_i q; exact kff1_t q
    · rename_i q
      rw [if_neg q] at h
      split
      · assumption
      · rename_i q2; rw [if_neg q2] at h; omega
theorem kff1_all {P : Nat → Bool} : ∀ {n : Nat}, kff1 P n = n → ∀ i, i < n → ¬ P i = true
  | 0, _, i, hi => absurd hi (Nat.not_lt_zero i)
  | n + 1, h, i, hi => by
    obtain ⟨h1, h2⟩ := kff1_p h
    by_cases e : i = n
    · rw [e]; exact h2
    · exact kff1_all h1 i (by omega)
theorem kCh_bit (M : Nat → Nat) (c : Nat) (fo : Nat → Int32) : ∀ i, i ≤ 8 → ∀ j, j < i → (kCh M c fo i).2.2 j = (-1 : Int32) ∨ ∃ g, g < 8 ∧ (kCh M c fo i).2.2 j = nI g ∧ (M j).testBit g = true
  | 0, _, j, hj => absurd hj (Nat.not_lt_zero j)
  | i + 1, hi, j, hj => by
    have ih := kCh_bit M c fo i (by omega) j
    have hst := kCh_lt M c fo i
    unfold kCh
    split
    · rename_i q
      show upd _ i (nI _) j = _ ∨ ∃ g, g < 8 ∧ upd _ i (nI _) j = nI g ∧ _
      by_cases e : j = i
      · right
        refine ⟨_, q.2, by rw [e, pk_us], ?_⟩
        rw [e]
        exact ((kFP_iff (by omega) hst).mp (kff1_t q.2)).1
      · rw [pk_un e]
        exact ih (by omega)
    · show upd _ i (-1 : Int32) j = _ ∨ ∃ g, g < 8 ∧ upd _ i (-1 : Int32) j = nI g ∧ _
      by_cases e : j = i
      · left; rw [e, pk_us]
      · rw [pk_un e]
        exact ih (by omega)
theorem kCh_G {M : Nat → Nat} {c : Nat} {fo : Nat → Int32} (hc : c ≤ kG M 8 255) : ∀ i, i ≤ 8 → (kCh M c fo i).1 ≤ kG M (8 - i) (kCh M c fo i).2.1 ∧ (kCh M c fo i).1 + kcnt (kCh M c fo i).2.2 i = c
  | 0, _ => ⟨hc, rfl⟩
  | i + 1, hi => by
    obtain ⟨h1, h2⟩ := kCh_G (fo := fo) hc i (by omega)
    have hst := kCh_lt M c fo i
    unfold kCh
    split
    · rename_i q
      have hp := (kFP_iff (by omega) hst).mp (kff1_t q.2)
      refine ⟨?_, ?_⟩
      · show _ - 1 ≤ kG M (8 - (i + 1)) (kclr _ _)
        rw [show 8 - (i + 1) = 7 - i by omega]
        exact hp.2.2
      · show _ - 1 + (kcnt (upd _ i _) i + (if upd _ i _ i = (-1 : Int32) then 0 else 1)) = c
        rw [pk_us, if_neg (nI_ne1 (by have := q.2; omega)), kcnt_eq (p := (kCh M c fo i).2.2) (fun j hj => pk_un (by omega))]
        have := q.1
        omega
    · rename_i q
      refine ⟨?_, ?_⟩
      · show (kCh M c fo i).1 ≤ kG M (8 - (i + 1)) (kCh M c fo i).2.1
        rw [show 8 - (i + 1) = 7 - i by omega]
        by_cases q0 : 0 < (kCh M c fo i).1
        · rw [show 8 - i = (7 - i) + 1 by omega] at h1
          have hn : kff1 (kFP M i (kCh M c fo i).2.1 (kCh M c fo i).1) 8 = 8 := by
            have := kff1_le (kFP M i (kCh M c fo i).2.1 (kCh M c fo i).1) 8
            have h9 : ¬ kff1 (kFP M i (kCh M c fo i).2.1 (kCh M c fo i).1) 8 < 8 := fun h => q ⟨q0, h⟩
            omega
          have ha := kff1_all hn
          rcases Nat.lt_or_ge (kG M (7 - i) (kCh M c fo i).2.1) (kCh M c fo i).1 with hlt | hge
          · exfalso
            have hx : kGx M (7 - (7 - i)) (kCh M c fo i).2.1 (kG M (7 - i)) 8 ≤ (kCh M c fo i).1 - 1 := kGx_le (by omega) 8 (fun f hf b1 b2 => by
              rw [show 7 - (7 - i) = i by omega] at b2
              have h8 := ha f hf
              rw [kFP_iff (by omega) hst] at h8
              rcases Nat.lt_or_ge (kG M (7 - i) (kclr (kCh M c fo i).2.1 f)) ((kCh M c fo i).1 - 1) with h7 | h7
              · omega
              · exact absurd ⟨b2, b1, h7⟩ h8)
            have h6 : kG M ((7 - i) + 1) (kCh M c fo i).2.1 = kGx M (7 - (7 - i)) (kCh M c fo i).2.1 (kG M (7 - i)) 8 := rfl
            omega
          · exact hge
        · omega
      · show (kCh M c fo i).1 + (kcnt (upd _ i _) i + (if upd _ i _ i = (-1 : Int32) then 0 else 1)) = c
        rw [pk_us, if_pos rfl, kcnt_eq (p := (kCh M c fo i).2.2) (fun j hj => pk_un (by omega))]
        omega
theorem kFX_eq (X : rS) (ro : Nat) : kFX X ro = (kCh (kMX X) (kCX X ro) (fun _ => nI 0) 8).2.2 := by
  unfold kFX kFx
  rfl
/-- as many leaders are chosen as there are couples -/
theorem kFX_n (X : rS) (ro : Nat) : kcnt (kFX X ro) 8 = kCX X ro := by
  have hc : kCX X ro ≤ kG (kMX X) 8 255 := by rw [kCX_m]; omega
  obtain ⟨h1, h2⟩ := kCh_G (fo := fun _ => nI 0) hc 8 (Nat.le_refl 8)
  have h3 : (kCh (kMX X) (kCX X ro) (fun _ => nI 0) 8).1 = 0 := Nat.le_zero.mp h1
  rw [h3, Nat.zero_add] at h2
  rw [kFX_eq]
  exact h2
theorem kFX_0 {X : rS} {ro i : Nat} (h : kCX X ro ≤ 0) (hi : i < 8) : kFX X ro i = (-1 : Int32) := by
  by_cases q : kFX X ro i = (-1 : Int32)
  · exact q
  · exfalso
    have h1 := kFX_n X ro
    have h2 := kns_pt (f := fun _ => 0) (g := fun j => if kFX X ro j = (-1 : Int32) then 0 else 1) hi (fun j _ => by
      (try dsimp only)
      by_cases e : j = i
      · rw [if_pos e, e, if_neg q]; exact Nat.le_refl _
      · rw [if_neg e]; exact Nat.zero_le _)
    rw [kcnt_ns] at h1
    omega
/-- who is chosen is there, and has not danced with the leader -/
theorem kFX_ok {X : rS} {ro i : Nat} (h : kOkR X) (hi : i < 8) (hn : ¬ kFX X ro i = (-1 : Int32)) : i < X.2.1.2.2.2.2.2 ∧ (kFX X ro i).toNatClampNeg < X.2.2.1.2.2.2.2.2 ∧ X.2.2.2.2 i (kFX X ro i).toNatClampNeg = (-1 : Int32) ∧ kFX X ro i = nI (kFX X ro i).toNatClampNeg := by
  have hb0 := kCh_bit (kMX X) (kCX X ro) (fun _ => nI 0) 8 (Nat.le_refl 8) i hi
  rw [← kFX_eq] at hb0
  obtain ⟨g, hg, e2, hb⟩ := hb0.resolve_left hn
  have hc : (kFX X ro i).toNatClampNeg = g := by rw [e2, nI_clamp (by omega)]
  obtain ⟨b1, b2, b3⟩ := (kMX_bit hg).mp hb
  rw [hc]
  refine ⟨?_, ?_, b3, e2⟩
  · rcases Nat.lt_or_ge i X.2.1.2.2.2.2.2 with q | q
    · exact q
    · exfalso
      have hlt : (kS1 X.2.2.2.1.1 X.2.1 kF0 0).2.2 < 2 ^ X.2.1.2.2.2.2.2 := kLn_lt _ _ _ _
      rw [Nat.testBit_lt_two_pow (Nat.lt_of_lt_of_le hlt (kpow_le q))] at b1
      cases b1
  · rcases Nat.lt_or_ge g X.2.2.1.2.2.2.2.2 with q | q
    · exact q
    · exfalso
      have hlt : (kS2 X.2.2.2.1.1 X.2.1 X.2.2.1 kF0 0).2.2 < 2 ^ X.2.2.1.2.2.2.2.2 := kLn_lt _ _ _ _
      rw [Nat.testBit_lt_two_pow (Nat.lt_of_lt_of_le hlt (kpow_le q))] at b2
      cases b2
theorem kBook_row (fo : Nat → Int32) (s : kSt) : ∀ i l, i ≤ l → (kBook fo s i).2.2.2 l = s.2.2.2 l
  | 0, _, _ => rfl
  | i + 1, l, h => by
    have ih := kBook_row fo s i l (by omega)
    unfold kBook
    split
    · exact ih
    · show kup (kBook fo s i).2.2.2 i _ l = _
      rw [kup_n (by omega)]
      exact ih
theorem kBook_all (fo : Nat → Int32) (s : kSt) : ∀ i, (kBook fo s i).1.2.2.2.2.2.2.2 = s.1.2.2.2.2.2.2.2 + nI (kcnt fo i)
  | 0 => (Int32.add_zero _).symm
  | i + 1 => by
    have ih := kBook_all fo s i
    by_cases q : fo i = (-1 : Int32)
    · rw [kBook_n q, kcnt_e q]; exact ih
    · rw [kBook_y q, kcnt_n q]
      show (kBook fo s i).1.2.2.2.2.2.2.2 + nI 1 = _
      rw [ih, ← nI_add, ← Int32.add_assoc]
theorem kBook_cp {X : rS} {ro : Nat} (h : kOkR X) (hd : X.1.2.2.2.2.2.2.1 ≤ 30) : ∀ i, i ≤ 8 → kCp (kBook (kFX X ro) (kS4 X) i).2.2.2 = kCp X.2.2.2.2 + kcnt (kFX X ro) i
  | 0, _ => rfl
  | i + 1, hi => by
    have ih := kBook_cp (ro := ro) h hd i (by omega)
    by_cases q : kFX X ro i = (-1 : Int32)
    · rw [kBook_n q, kcnt_e q]; exact ih
    · obtain ⟨h1, h2, h3, h4⟩ := kFX_ok h (by omega) q
      rw [kBook_y q, kcnt_n q]
      have hr := kBook_row (kFX X ro) (kS4 X) i i (Nat.le_refl i)
      have hs := (kBook_same (kFX X ro) (kS4 X) i).2.2.2.2.2.1
      have h8 := h.2.1.1
      have e := kCp_bk (d := (kBook (kFX X ro) (kS4 X) i).2.2.2) (i := i) (f := (kFX X ro i).toNatClampNeg) (v := nI (kBook (kFX X ro) (kS4 X) i).1.2.2.2.2.2.2.1) (by omega) (by omega) (by rw [hr]; exact h3) (nI_ne1 (by rw [hs]; show X.1.2.2.2.2.2.2.1 < _; omega))
      show kCp (kup _ i (upd _ _ _)) = _
      rw [e, ih]
      omega
/-- the dance's end: the array tells it -/
theorem kEq_dn {X : rS} {cp : Nat} (h : kOkR X) (hd : X.1.2.2.2.2.2.2.1 ≤ 30) (B : kSt) (hB : B = kBook (kFX X (kro X.1)) (kS4 X) 8) (hcp : cp = kCp X.2.2.2.2 + kCX X (kro X.1)) (j : Nat) (hj : j < 188) :
    kEq ((B.1.1, B.1.2.1 - kro B.1, B.1.2.2.1 + nI (kro B.1), B.1.2.2.2.1, B.1.2.2.2.2.1, B.1.2.2.2.2.2.1, B.1.2.2.2.2.2.2.1 + 1, X.1.2.2.2.2.2.2.2 + nI (kCX X (kro X.1))), B.2.1, B.2.2.1, X.2.2.2.1, B.2.2.2) (kTL B.2.2.2) (kTF B.2.2.2) cp j = kEn (kX4 X (kDn X.2.2.2.1.1 (kS4 X))) j := by
  have e1 : kDn X.2.2.2.1.1 (kS4 X) = (kBurn B.1, B.2) := by rw [hB]; unfold kDn; rfl
  have e2 := kBook_all (kFX X (kro X.1)) (kS4 X) 8
  have e3 := kBook_cp (ro := kro X.1) h hd 8 (Nat.le_refl 8)
  rw [kFX_n] at e2 e3
  rw [← hB] at e2 e3
  rw [e1]
  refine kq_c (fun q => ?_) (fun _ _ => rfl) (fun _ _ => rfl) (fun _ _ => rfl) (fun _ _ => rfl) (fun _ _ => rfl) (fun _ _ => rfl)
  rcases k11 q with rfl | rfl | rfl | rfl | rfl | rfl | rfl | rfl | rfl | rfl | rfl <;> first | rfl | exact e2.symm | exact congrArg nI (by rw [hcp, ← e3])
theorem kDn_R {X : rS} {s : kSt} (h : kOkR (kX4 X s)) (hc : kOkC s.1) (hp : kPoss s.1) : kOkR (kX4 X (kDn X.2.2.2.1.1 s)) ∧ kOkC (kDn X.2.2.2.1.1 s).1 := by
  obtain ⟨hl, hf, hb1, hb2, hpn⟩ := h
  have hk := kDn_ok (p := X.2.2.2.1.1) (s := s) ⟨hc, hl, hf⟩ hp
  have hs := kBook_same (kFx X.2.2.2.1.1 s.2.1 s.2.2.1 s.2.2.2 (kro s.1)) s 8
  obtain ⟨B, hB⟩ : ∃ B, B = kBook (kFx X.2.2.2.1.1 s.2.1 s.2.2.1 s.2.2.2 (kro s.1)) s 8 := ⟨_, rfl⟩
  have e : kDn X.2.2.2.1.1 s = (kBurn B.1, B.2) := by rw [hB]; unfold kDn; rfl
  rw [← hB] at hs
  obtain ⟨-, -, -, -, -, -, -, o1, o2, -, -, o3, o4, -⟩ := hs
  rw [e] at hk ⊢
  refine ⟨⟨hk.2.1, hk.2.2, ⟨?_, ?_⟩, ⟨?_, ?_⟩, hpn⟩, hk.1⟩
  · show kBo B.2.1.2.2.1
    rw [o1]; exact hb1.1
  · show kBo B.2.1.2.2.2.1
    rw [o2]; exact hb1.2
  · show kBo B.2.2.1.2.2.1
    rw [o3]; exact hb2.1
  · show kBo B.2.2.1.2.2.2.1
    rw [o4]; exact hb2.2
theorem kOn_R {X : rS} (h : kOkR X) (hc : kOkC X.1) : ∀ k, kOkR (kX4 X (kOn X.2.2.2.1.1 (kS4 X) k).1) ∧ kOkC (kOn X.2.2.2.1.1 (kS4 X) k).1.1
  | 0 => ⟨h, hc⟩
  | k + 1 => by
    have ih := kOn_R h hc k
    by_cases q : 0 < (kOn X.2.2.2.1.1 (kS4 X) k).2.1 ∧ kPoss (kOn X.2.2.2.1.1 (kS4 X) k).1.1
    · rw [kOn_y q]
      dsimp only
      exact kDn_R ih.1 ih.2 q.2
    · rw [show kOn X.2.2.2.1.1 (kS4 X) (k + 1) = kOn X.2.2.2.1.1 (kS4 X) k from if_neg q]
      exact ih
theorem kOn_X {X : rS} {k : Nat} (h : 0 < (kOn X.2.2.2.1.1 (kS4 X) k).2.1 ∧ kPoss (kOn X.2.2.2.1.1 (kS4 X) k).1.1) :
    kX4 (kX4 X (kOn X.2.2.2.1.1 (kS4 X) k).1) (kDn (kX4 X (kOn X.2.2.2.1.1 (kS4 X) k).1).2.2.2.1.1 (kS4 (kX4 X (kOn X.2.2.2.1.1 (kS4 X) k).1))) = kX4 X (kOn X.2.2.2.1.1 (kS4 X) (k + 1)).1 := by
  rw [kOn_y h]
def kgo (n : Nat) : Nat := if 0 < n then 1 else 0
theorem kgo_y {n : Nat} (h : ¬ n ≤ 0) : kgo n = 1 := if_pos (by omega)
theorem kgo_n {n : Nat} (h : n ≤ 0) : kgo n = 0 := if_neg (by omega)
theorem kgo_1 (n : Nat) : kgo n ≤ 1 := by
  unfold kgo
  split <;> omega
theorem kOn_dn {p : Nat → Int32} {s : kSt} : ∀ k, (kOn p s k).1.1.2.2.2.2.2.2.1 = s.1.2.2.2.2.2.2.1 + (kOn p s k).2.2
  | 0 => rfl
  | k + 1 => by
    have ih := kOn_dn (p := p) (s := s) k
    unfold kOn
    split
    · have hs := (kBook_same (kFx p (kOn p s k).1.2.1 (kOn p s k).1.2.2.1 (kOn p s k).1.2.2.2 (kro (kOn p s k).1.1)) (kOn p s k).1 8).2.2.2.2.2.1
      show (kBook _ (kOn p s k).1 8).1.2.2.2.2.2.2.1 + 1 = _ + ((kOn p s k).2.2 + 1)
      rw [hs, ih]
      omega
    · exact ih
/-- told in a way that leaves numbers alone -/
def kGe (X : rS) (ro i g : Nat) : Prop := (kFX X ro i).toNatClampNeg = g
theorem kFX_ok2 {X : rS} {ro i : Nat} (h : kOkR X) (hi : i < 8) (hn : ¬ kFX X ro i = (-1 : Int32)) : ∃ g, i < X.2.1.2.2.2.2.2 ∧ g < X.2.2.1.2.2.2.2.2 ∧ X.2.2.2.2 i g = (-1 : Int32) ∧ kFX X ro i = nI g ∧ kGe X ro i g := by
  obtain ⟨h1, h2, h3, h4⟩ := kFX_ok h hi hn
  exact ⟨_, h1, h2, h3, h4, rfl⟩
theorem kBook_g {X : rS} {ro i g : Nat} (hn : ¬ kFX X ro i = (-1 : Int32)) (hg : kGe X ro i g) : kBook (kFX X ro) (kS4 X) (i + 1) = kBk i g (kBook (kFX X ro) (kS4 X) i) := by
  rw [kBook_y hn, show (kFX X ro i).toNatClampNeg = g from hg]
