/-! what holds of the hall, whatever is asked of it -/
def kGdG (g : rG) : Prop := kOkG g ∧ kBo g.2.2.1 ∧ kBo g.2.2.2.1
theorem kBo_u {f : Nat → Int32} {i : Nat} {v : Int32} (h : kBo f) (hv : v = nI 0 ∨ v = nI 1) : kBo (upd f i v) := fun j hj => by
  by_cases e : j = i
  · rw [e, pk_us]; exact hv
  · rw [pk_un e]; exact h j hj
theorem kGdG_ad {g : rG} {tk sh : Int32} {z : Nat} (h : kGdG g) (hn : g.2.2.2.2.2 < 8) (h1 : 1 ≤ z) (h9 : z ≤ 9) (hs : sh = nI 0 ∨ sh = nI 1) : kGdG (kAd g tk (nI z) sh) := by
  obtain ⟨⟨-, hz⟩, hb1, hb2⟩ := h
  refine ⟨⟨by show g.2.2.2.2.2 + 1 ≤ 8; omega, fun i hi => ?_⟩, kBo_u hb1 hs, kBo_u hb2 (Or.inr rfl)⟩
  show upd g.2.1 g.2.2.2.2.2 (nI z) i = nI (upd g.2.1 g.2.2.2.2.2 (nI z) i).toNatClampNeg ∧ 1 ≤ (upd g.2.1 g.2.2.2.2.2 (nI z) i).toNatClampNeg ∧ (upd g.2.1 g.2.2.2.2.2 (nI z) i).toNatClampNeg ≤ 9
  by_cases e : i = g.2.2.2.2.2
  · rw [e, pk_us, nI_clamp (by omega)]
    exact ⟨rfl, h1, h9⟩
  · rw [pk_un e]
    have hi2 : i < g.2.2.2.2.2 + 1 := hi
    exact hz i (by omega)
def kGdD (X : rS) : Prop := (∀ l f, l < 8 → f < 8 → ¬ X.2.2.2.2 l f = (-1 : Int32) → l < X.2.1.2.2.2.2.2 ∧ f < X.2.2.1.2.2.2.2.2 ∧ ∃ k, k < X.1.2.2.2.2.2.2.1 ∧ X.2.2.2.2 l f = nI k) ∧ ∀ l f g, l < 8 → f < 8 → g < 8 → ¬ X.2.2.2.2 l f = (-1 : Int32) → X.2.2.2.2 l f = X.2.2.2.2 l g → f = g
def kGdP (X : rS) : Prop := (1 ≤ X.1.2.2.2.1 ∧ X.1.2.2.2.1 ≤ 4) ∧ ∀ f, f < 4 → ∃ n, 1 ≤ n ∧ n ≤ 9 ∧ X.2.2.2.1.2.1 f = nI n
def kGd (X : rS) : Prop := kGdG X.2.1 ∧ kGdG X.2.2.1 ∧ kPn9 X.2.2.2.1.1 ∧ kOkC X.1 ∧ kGdP X ∧ kGdD X
theorem kGd_R {X : rS} (h : kGd X) : kOkR X := ⟨h.1.1, h.2.1.1, h.1.2, h.2.1.2, kPn_9 h.2.2.1⟩
theorem kGd_S {X : rS} (h : kGd X) : kOkS (X.1, X.2.1, X.2.2.1, X.2.2.2.2) := ⟨h.2.2.2.1, h.1.1, h.2.1.1⟩
theorem kGd_sum {X : rS} (h : kGd X) : ¬ ksum X.2.2.2.1.2.1 X.1.2.2.2.1 ≤ 0 := by
  obtain ⟨⟨h1, h4⟩, hp⟩ := h.2.2.2.2.1
  have hs : ∀ n, n ≤ 4 → ∃ k, n ≤ k ∧ k ≤ 9 * n ∧ ksum X.2.2.2.1.2.1 n = nI k := by
    intro n
    induction n with
    | zero => intro _; exact ⟨0, Nat.le_refl 0, by omega, rfl⟩
    | succ n ih =>
      intro hn
      obtain ⟨k, a1, a2, a3⟩ := ih (by omega)
      obtain ⟨j, b1, b2, b3⟩ := hp n (by omega)
      refine ⟨k + j, by omega, by omega, ?_⟩
      show ksum X.2.2.2.1.2.1 n + X.2.2.2.1.2.1 n = nI (k + j)
      rw [a3, b3, nI_add]
  obtain ⟨k, a1, a2, a3⟩ := hs _ h4
  rw [a3]
  exact nI_nle (by omega) (by omega)
theorem kGd_TL {X : rS} (h : kGd X) (h8 : X.2.1.2.2.2.2.2 < 8) : kTL X.2.2.2.2 X.2.1.2.2.2.2.2 = 0 := by
  show kcnt (X.2.2.2.2 X.2.1.2.2.2.2.2) 8 = 0
  rw [kcnt_ns]
  refine kns_0 8 fun j hj => ?_
  have hd := h.2.2.2.2.2.1 X.2.1.2.2.2.2.2 j h8 hj
  by_cases q : X.2.2.2.2 X.2.1.2.2.2.2.2 j = (-1 : Int32)
  · exact if_pos q
  · exact absurd (hd q).1 (Nat.lt_irrefl _)
theorem kGd_TF {X : rS} (h : kGd X) (h8 : X.2.2.1.2.2.2.2.2 < 8) : kTF X.2.2.2.2 X.2.2.1.2.2.2.2.2 = 0 := by
  show kcnt (fun q => X.2.2.2.2 q X.2.2.1.2.2.2.2.2) 8 = 0
  rw [kcnt_ns]
  refine kns_0 8 fun j hj => ?_
  have hd := h.2.2.2.2.2.1 j X.2.2.1.2.2.2.2.2 hj h8
  by_cases q : X.2.2.2.2 j X.2.2.1.2.2.2.2.2 = (-1 : Int32)
  · exact if_pos q
  · exact absurd (hd q).2.1 (Nat.lt_irrefl _)
section KGD
variable {X : rS}
theorem kGd_adL {tk sh : Int32} {z : Nat} (h : kGd X) (hn : X.2.1.2.2.2.2.2 < 8) (h1 : 1 ≤ z) (h9 : z ≤ 9) (hs : sh = nI 0 ∨ sh = nI 1) : kGd (X.1, kAd X.2.1 tk (nI z) sh, X.2.2) := by
  obtain ⟨a, b, c, d, e, f1, f2⟩ := h
  refine ⟨kGdG_ad a hn h1 h9 hs, b, c, d, e, fun l f hl hf q => ?_, f2⟩
  obtain ⟨g1, g2, g3⟩ := f1 l f hl hf q
  exact ⟨Nat.lt_succ_of_lt g1, g2, g3⟩
theorem kGd_adF {tk sh : Int32} {z : Nat} (h : kGd X) (hn : X.2.2.1.2.2.2.2.2 < 8) (h1 : 1 ≤ z) (h9 : z ≤ 9) (hs : sh = nI 0 ∨ sh = nI 1) : kGd (X.1, X.2.1, kAd X.2.2.1 tk (nI z) sh, X.2.2.2) := by
  obtain ⟨a, b, c, d, e, f1, f2⟩ := h
  refine ⟨a, kGdG_ad b hn h1 h9 hs, c, d, e, fun l f hl hf q => ?_, f2⟩
  obtain ⟨g1, g2, g3⟩ := f1 l f hl hf q
  exact ⟨g1, Nat.lt_succ_of_lt g2, g3⟩
theorem kGd_tkL {i : Nat} {v : Int32} (h : kGd X) : kGd (X.1, (upd X.2.1.1 i v, X.2.1.2), X.2.2) := ⟨⟨h.1.1, h.1.2⟩, h.2⟩
theorem kGd_tkF {i : Nat} {v : Int32} (h : kGd X) : kGd (X.1, X.2.1, (upd X.2.2.1.1 i v, X.2.2.1.2), X.2.2.2) := ⟨h.1, ⟨h.2.1.1, h.2.1.2⟩, h.2.2⟩
theorem kGd_heL {i : Nat} {y : Int32} (h : kGd X) (hy : y = nI 0 ∨ y = nI 1) : kGd (X.1, (X.2.1.1, X.2.1.2.1, X.2.1.2.2.1, upd X.2.1.2.2.2.1 i y, X.2.1.2.2.2.2), X.2.2) := ⟨⟨h.1.1, h.1.2.1, kBo_u h.1.2.2 hy⟩, h.2⟩
theorem kGd_heF {i : Nat} {y : Int32} (h : kGd X) (hy : y = nI 0 ∨ y = nI 1) : kGd (X.1, X.2.1, (X.2.2.1.1, X.2.2.1.2.1, X.2.2.1.2.2.1, upd X.2.2.1.2.2.2.1 i y, X.2.2.1.2.2.2.2), X.2.2.2) := ⟨h.1, ⟨h.2.1.1, h.2.1.2.1, kBo_u h.2.1.2.2 hy⟩, h.2.2⟩
theorem kGd_shoe {z n : Nat} (h : kGd X) (hn : n ≤ 9) : kGd (X.1, X.2.1, X.2.2.1, (upd X.2.2.2.1.1 z (nI n), X.2.2.2.1.2), X.2.2.2.2) := ⟨h.1, h.2.1, fun y y1 y9 => by
  by_cases e : y = z
  · exact ⟨n, hn, by rw [e]; exact pk_us⟩
  · obtain ⟨m, hm, e2⟩ := h.2.2.1 y y1 y9
    exact ⟨m, hm, (pk_un e).trans e2⟩, h.2.2.2⟩
theorem kGd_lamp {a b : Nat} (h : kGd X) (ha : a ≤ 6) (hb : b ≤ 999) : kGd ((a, b, X.1.2.2), X.2) := ⟨h.1, h.2.1, h.2.2.1, ⟨ha, hb, h.2.2.2.1.2.2⟩, h.2.2.2.2⟩
theorem kGd_fid {k : Nat} (h : kGd X) (h1 : 1 ≤ k) (h4 : k ≤ 4) : kGd ((X.1.1, X.1.2.1, X.1.2.2.1, k, X.1.2.2.2.2), X.2.1, X.2.2.1, (X.2.2.2.1.1, (fun _ => nI 1), X.2.2.2.1.2.2), X.2.2.2.2) :=
  ⟨h.1, h.2.1, h.2.2.1, h.2.2.2.1, ⟨⟨h1, h4⟩, fun _ _ => ⟨1, Nat.le_refl 1, by decide, rfl⟩⟩, h.2.2.2.2.2⟩
theorem kGd_part {i k : Nat} (h : kGd X) (h1 : 1 ≤ k) (h9 : k ≤ 9) : kGd (X.1, X.2.1, X.2.2.1, (X.2.2.2.1.1, upd X.2.2.2.1.2.1 i (nI k), X.2.2.2.1.2.2), X.2.2.2.2) :=
  ⟨h.1, h.2.1, h.2.2.1, h.2.2.2.1, ⟨h.2.2.2.2.1.1, fun f hf => by
    by_cases e : f = i
    · exact ⟨k, h1, h9, by rw [e]; exact pk_us⟩
    · obtain ⟨n, n1, n9, e2⟩ := h.2.2.2.2.1.2 f hf
      exact ⟨n, n1, n9, (pk_un e).trans e2⟩⟩, h.2.2.2.2.2⟩
theorem kBo_cp {f : Nat → Int32} {n : Nat} (h : kBo f) : kBo (kcp (fun _ => nI 1) f n) := fun j hj => by
  by_cases q : j < n
  · rw [kcp_in _ _ q]; exact Or.inr rfl
  · rw [kcp_out _ _ (by omega)]; exact h j hj
theorem kGd_night {b : Int32} {g : Nat → Int32} {n m : Nat} {t : Int32} (h : kGd X) : kGd ((X.1.1, X.1.2.1, X.1.2.2.1, X.1.2.2.2.1, b, t, 0, X.1.2.2.2.2.2.2.2), kNtG X.2.1 n, kNtG X.2.2.1 m, (X.2.2.2.1.1, X.2.2.2.1.2.1, g), fun _ _ => (-1 : Int32)) :=
  ⟨⟨h.1.1, h.1.2.1, kBo_cp h.1.2.2⟩, ⟨h.2.1.1, h.2.1.2.1, kBo_cp h.2.1.2.2⟩, h.2.2.1, ⟨h.2.2.2.1.1, h.2.2.2.1.2.1, Nat.zero_le _⟩, h.2.2.2.2.1, fun _ _ _ _ q => absurd rfl q, fun _ _ _ _ _ _ q => absurd rfl q⟩
theorem kGd_text {L F : rG} (h : kGd X) (hL : kGdG L) (hF : kGdG F) : kGd ((X.1.1, X.1.2.1, X.1.2.2.1, X.1.2.2.2.1, X.1.2.2.2.2.1, X.1.2.2.2.2.2.1, 0, X.1.2.2.2.2.2.2.2), L, F, X.2.2.2.1, fun _ _ => (-1 : Int32)) :=
  ⟨hL, hF, h.2.2.1, ⟨h.2.2.2.1.1, h.2.2.2.1.2.1, Nat.zero_le _⟩, h.2.2.2.2.1, fun _ _ _ _ q => absurd rfl q, fun _ _ _ _ _ _ q => absurd rfl q⟩
theorem kBook_d {ro : Nat} (h : kOkR X) : ∀ i, i ≤ 8 → ∀ l, (kBook (kFX X ro) (kS4 X) i).2.2.2 l = X.2.2.2.2 l ∨ ∃ g, l < X.2.1.2.2.2.2.2 ∧ g < X.2.2.1.2.2.2.2.2 ∧ X.2.2.2.2 l g = (-1 : Int32) ∧ (kBook (kFX X ro) (kS4 X) i).2.2.2 l = upd (X.2.2.2.2 l) g (nI X.1.2.2.2.2.2.2.1)
  | 0, _, _ => Or.inl rfl
  | i + 1, hi, l => by
    have ih := kBook_d (ro := ro) h i (by omega) l
    by_cases q : kFX X ro i = (-1 : Int32)
    · rw [kBook_n q]; exact ih
    · obtain ⟨g, h1, h2, h3, h4, h5⟩ := kFX_ok2 h (by omega) q
      rw [kBook_g q h5]
      by_cases e : l = i
      · subst e
        have hr := kBook_row (kFX X ro) (kS4 X) l l (Nat.le_refl l)
        have hs := (kBook_same (kFX X ro) (kS4 X) l).2.2.2.2.2.1
        refine Or.inr ⟨g, h1, h2, h3, ?_⟩
        have e9 : (kBk l g (kBook (kFX X ro) (kS4 X) l)).2.2.2 l = upd ((kBook (kFX X ro) (kS4 X) l).2.2.2 l) g (nI (kBook (kFX X ro) (kS4 X) l).1.2.2.2.2.2.2.1) := kup_y
        exact e9.trans (by rw [hr, hs])
      · have e9 : (kBk i g (kBook (kFX X ro) (kS4 X) i)).2.2.2 l = (kBook (kFX X ro) (kS4 X) i).2.2.2 l := kup_n e
        rw [e9]
        exact ih
theorem kGd_dn (h : kGd X) (hp : kPoss X.1) : kGd (kX4 X (kDn X.2.2.2.1.1 (kS4 X))) := by
  have hR := kGd_R h
  have hD := kDn_R (X := X) (s := kS4 X) hR h.2.2.2.1 hp
  have hb := kBook_d (ro := kro X.1) hR 8 (Nat.le_refl 8)
  have hs := kBook_same (kFX X (kro X.1)) (kS4 X) 8
  obtain ⟨B, hB⟩ : ∃ B, B = kBook (kFX X (kro X.1)) (kS4 X) 8 := ⟨_, rfl⟩
  have e : kDn X.2.2.2.1.1 (kS4 X) = (kBurn B.1, B.2) := by rw [hB]; unfold kDn; rfl
  rw [← hB] at hs hb
  rw [e] at hD ⊢
  obtain ⟨⟨hl, hf, hb1, hb2, -⟩, hc⟩ := hD
  obtain ⟨-, -, -, a4, -, a6, -, -, -, nL, -, -, -, nF⟩ := hs
  have hd1 := h.2.2.2.2.2.1
  have hd30 := h.2.2.2.1.2.2
  refine ⟨⟨hl, hb1⟩, ⟨hf, hb2⟩, h.2.2.1, hc, ⟨?_, h.2.2.2.2.1.2⟩, fun l f hl8 hf8 q => ?_, fun l f g hl8 hf8 hg8 q q2 => ?_⟩
  · show 1 ≤ B.1.2.2.2.1 ∧ B.1.2.2.2.1 ≤ 4
    rw [a4]
    exact h.2.2.2.2.1.1
  · show l < B.2.1.2.2.2.2.2 ∧ f < B.2.2.1.2.2.2.2.2 ∧ ∃ k, k < B.1.2.2.2.2.2.2.1 + 1 ∧ B.2.2.2 l f = nI k
    have q : ¬ B.2.2.2 l f = (-1 : Int32) := q
    rw [nL, nF, a6]
    rcases hb l with e1 | ⟨g, g1, g2, g3, e1⟩
    · rw [e1] at q ⊢
      obtain ⟨u1, u2, k, u3, u4⟩ := hd1 l f hl8 hf8 q
      exact ⟨u1, u2, k, Nat.lt_succ_of_lt u3, u4⟩
    · rw [e1] at q ⊢
      by_cases e2 : f = g
      · rw [e2, pk_us]
        exact ⟨g1, g2, _, Nat.lt_succ_self _, rfl⟩
      · rw [pk_un e2] at q ⊢
        obtain ⟨u1, u2, k, u3, u4⟩ := hd1 l f hl8 hf8 q
        exact ⟨u1, u2, k, Nat.lt_succ_of_lt u3, u4⟩
  · have q : ¬ B.2.2.2 l f = (-1 : Int32) := q
    have q2 : B.2.2.2 l f = B.2.2.2 l g := q2
    rcases hb l with e1 | ⟨g9, g1, g2, g3, e1⟩
    · rw [e1] at q q2
      exact h.2.2.2.2.2.2 l f g hl8 hf8 hg8 q q2
    · rw [e1] at q q2
      have hno : ∀ j, j < 8 → ¬ X.2.2.2.2 l j = nI X.1.2.2.2.2.2.2.1 := fun j hj q9 => by
        obtain ⟨-, -, k, u3, u4⟩ := hd1 l j hl8 hj (by rw [q9]; exact nI_ne1 (by omega))
        rw [u4] at q9
        have := (nI_eq (by omega) (by omega)).mp q9
        omega
      by_cases e2 : f = g9
      · by_cases e3 : g = g9
        · rw [e2, e3]
        · rw [e2, pk_us, pk_un e3] at q2
          exact absurd q2.symm (hno g hg8)
      · by_cases e3 : g = g9
        · rw [e3, pk_us, pk_un e2] at q2
          exact absurd q2 (hno f hf8)
        · rw [pk_un e2] at q
          rw [pk_un e2, pk_un e3] at q2
          exact h.2.2.2.2.2.2 l f g hl8 hf8 hg8 q q2
theorem kGd_on (h : kGd X) : ∀ k, kGd (kX4 X (kOn X.2.2.2.1.1 (kS4 X) k).1)
  | 0 => h
  | k + 1 => by
    have ih := kGd_on h k
    by_cases q : 0 < (kOn X.2.2.2.1.1 (kS4 X) k).2.1 ∧ kPoss (kOn X.2.2.2.1.1 (kS4 X) k).1.1
    · rw [← kOn_X q]
      exact kGd_dn ih q.2
    · rw [show kOn X.2.2.2.1.1 (kS4 X) (k + 1) = kOn X.2.2.2.1.1 (kS4 X) k from if_neg q]
      exact ih
theorem kGd_onE (h : kGd X) : kGd (kX4 X (kOnE X.2.2.2.1.1 (kS4 X)).1) := by
  have h9 := kGd_on h
  obtain ⟨n9, hn9⟩ : ∃ n9 : Nat, n9 = 30 := ⟨30, rfl⟩
  have e : kOnE X.2.2.2.1.1 (kS4 X) = ((kOn X.2.2.2.1.1 (kS4 X) n9).1, (kOn X.2.2.2.1.1 (kS4 X) n9).2.2) := by rw [hn9]; rfl
  rw [e]
  exact h9 n9
theorem kGd_sv {V : Nat → rS} {sc : Nat} (hV : ∀ i, i < 4 → kGd (V i)) (h : kGd X) (hs : sc ≤ 4) : ∀ i, i < 4 → kGd (kSav sc V X i) := by
  intro i hi
  have h5 : sc = 0 ∨ sc = 1 ∨ sc = 2 ∨ sc = 3 ∨ sc = 4 := by omega
  have h4 : i = 0 ∨ i = 1 ∨ i = 2 ∨ i = 3 := by omega
  rcases h5 with rfl | rfl | rfl | rfl | rfl <;> rcases h4 with rfl | rfl | rfl | rfl <;> first | exact h | exact hV _ (by decide)
end KGD
/-! what a text gives is as good -/
theorem kRT2_ok {bs : Nat → Int32} {ln q t : Nat} (h : (kRT2 bs ln q t).1 = true) : 1 ≤ (kRT2 bs ln q t).2.2.2.1 ∧ (kRT2 bs ln q t).2.2.2.1 ≤ 9 ∧ (kRT2 bs ln q t).2.2.2.2 ≤ 1 := by
  by_cases h1 : kIs bs ln q 44
  · by_cases h2 : kDig bs ln (q + 1) 1
    · have h2a := h2.2.1
      have h2b := h2.2.2
      by_cases h3 : kIs bs ln (q + 2) 45
      · by_cases h4 : kIs bs ln (q + 3) 59
        · have e : kRT2 bs ln q t = (true, q + 4, t, kb9 bs (q + 1) - 48, 0) := by unfold kRT2; rw [if_pos h1, if_pos h2, if_pos h3, if_pos h4]
          rw [e]
          exact ⟨by show 1 ≤ kb9 bs (q + 1) - 48; omega, by show kb9 bs (q + 1) - 48 ≤ 9; omega, Nat.zero_le _⟩
        · unfold kRT2 at h; rw [if_pos h1, if_pos h2, if_pos h3, if_neg h4] at h; cases h
      · by_cases h4 : kIs bs ln (q + 2) 59
        · have e : kRT2 bs ln q t = (true, q + 3, t, kb9 bs (q + 1) - 48, 1) := by unfold kRT2; rw [if_pos h1, if_pos h2, if_neg h3, if_pos h4]
          rw [e]
          exact ⟨by show 1 ≤ kb9 bs (q + 1) - 48; omega, by show kb9 bs (q + 1) - 48 ≤ 9; omega, Nat.le_refl 1⟩
        · unfold kRT2 at h; rw [if_pos h1, if_pos h2, if_neg h3, if_neg h4] at h; cases h
    · unfold kRT2 at h; rw [if_pos h1, if_neg h2] at h; cases h
  · unfold kRT2 at h; rw [if_neg h1] at h; cases h
theorem kRT_ok {bs : Nat → Int32} {ln q : Nat} (h : (kRT bs ln q).1 = true) : 1 ≤ (kRT bs ln q).2.2.2.1 ∧ (kRT bs ln q).2.2.2.1 ≤ 9 ∧ (kRT bs ln q).2.2.2.2 ≤ 1 := by
  by_cases h1 : kDig bs ln q 0
  · by_cases h2 : kDig bs ln (q + 1) 0
    · have e : kRT bs ln q = kRT2 bs ln (q + 2) (10 * (kb9 bs q - 48) + (kb9 bs (q + 1) - 48)) := by unfold kRT; rw [if_pos h1, if_pos h2]
      rw [e] at h ⊢
      exact kRT2_ok h
    · have e : kRT bs ln q = kRT2 bs ln (q + 1) (kb9 bs q - 48) := by unfold kRT; rw [if_pos h1, if_neg h2]
      rw [e] at h ⊢
      exact kRT2_ok h
  · unfold kRT at h; rw [if_neg h1] at h; cases h
theorem kbo1 {o : Nat} (h : o ≤ 1) : nI o = nI 0 ∨ nI o = nI 1 := by
  rcases (show o = 0 ∨ o = 1 by omega) with rfl | rfl
  · exact Or.inl rfl
  · exact Or.inr rfl
theorem kGdG_add {g : rG} {t z o : Nat} (h : kGdG g) (hn : ¬ 8 ≤ g.2.2.2.2.2) (hz : 1 ≤ z ∧ z ≤ 9 ∧ o ≤ 1) : kGdG (kAdd g t z o) := kGdG_ad (tk := nI t) h (by omega) hz.1 hz.2.1 (kbo1 hz.2.2)
theorem kRG_gd {bs : Nat → Int32} {ln pl : Nat} {L F : rG} (hL : kGdG L) (hF : kGdG F) : kGdG (kRG bs ln pl L F).2.2.1 ∧ kGdG (kRG bs ln pl L F).2.2.2 := by
  obtain ⟨r, hr⟩ : ∃ r, r = kRT bs ln (pl + 1) := ⟨_, rfl⟩
  have hok : r.1 = true → 1 ≤ r.2.2.2.1 ∧ r.2.2.2.1 ≤ 9 ∧ r.2.2.2.2 ≤ 1 := fun h => by rw [hr] at h ⊢; exact kRT_ok h
  obtain ⟨ok, q, t, z, o⟩ := r
  have hr := hr.symm
  by_cases h1 : kIs bs ln pl 108
  · by_cases h2 : 8 ≤ L.2.2.2.2.2
    · rw [kRG_x1 h1 h2]; exact ⟨hL, hF⟩
    · rw [kRG_l h1 h2 hr]
      by_cases h3 : ok = true
      · rw [if_pos h3]; exact ⟨kGdG_add hL h2 (hok h3), hF⟩
      · rw [if_neg h3]; exact ⟨hL, hF⟩
  · by_cases h2 : 8 ≤ F.2.2.2.2.2
    · rw [kRG_x2 h1 h2]; exact ⟨hL, hF⟩
    · by_cases h4 : kIs bs ln pl 102
      · rw [kRG_f h1 h2 h4 hr]
        by_cases h3 : ok = true
        · rw [if_pos h3]; exact ⟨hL, kGdG_add hF h2 (hok h3)⟩
        · rw [if_neg h3]; exact ⟨hL, hF⟩
      · rw [kRG_x3 h1 h2 h4]; exact ⟨hL, hF⟩
def kBoG (g : rG) : Prop := kBo g.2.2.1 ∧ kBo g.2.2.2.1
theorem kG0_gd {g : rG} (h : kBoG g) : kGdG (kG0 g) := ⟨⟨Nat.zero_le _, fun i hi => absurd hi (Nat.not_lt_zero i)⟩, h.1, h.2⟩
theorem kRs_gd {bs : Nat → Int32} {ln : Nat} {L F : rG} (hL : kBoG L) (hF : kBoG F) : ∀ k, kGdG (kRs bs ln L F k).2.2.1 ∧ kGdG (kRs bs ln L F k).2.2.2
  | 0 => ⟨kG0_gd hL, kG0_gd hF⟩
  | k + 1 => by
    have ih := kRs_gd (bs := bs) (ln := ln) hL hF k
    by_cases q : (kRs bs ln L F k).1 = true ∧ (kRs bs ln L F k).2.1 < ln
    · rw [kRs_y q.1 q.2]
      exact kRG_gd ih.1 ih.2
    · rw [show kRs bs ln L F (k + 1) = kRs bs ln L F k from if_neg q]
      exact ih
theorem kRsE_gd {bs : Nat → Int32} {ln : Nat} {L F : rG} (hL : kBoG L) (hF : kBoG F) : kGdG (kRsE bs ln L F).2.2.1 ∧ kGdG (kRsE bs ln L F).2.2.2 := by
  unfold kRsE
  exact kRs_gd hL hF 100
/-- at the start -/
theorem kGd_ini : kGd ((3, 60, 0, 2, 0, 0, 0, 0), kG00, kG00, (fun _ => nI 1, fun _ => nI 1, k0), fun _ _ => (-1 : Int32)) := by
  have hb : kBo k0 := fun _ _ => Or.inl rfl
  have hg : kGdG kG00 := ⟨⟨Nat.zero_le _, fun i hi => absurd hi (Nat.not_lt_zero i)⟩, hb, hb⟩
  exact ⟨hg, hg, fun _ _ _ => ⟨1, by decide, rfl⟩, ⟨by decide, by decide, by decide⟩, ⟨⟨by decide, by decide⟩, fun _ _ => ⟨1, Nat.le_refl 1, by decide, rfl⟩⟩, fun _ _ _ _ q => absurd rfl q, fun _ _ _ _ _ _ q => absurd rfl q⟩
