/-! the states of the two halls: alike, and sound -/
def vRs (s s' : kSt) : Prop := s'.1 = s.1 ∧ vG s.2.1 s'.2.1 ∧ vG s.2.2.1 s'.2.2.1 ∧ vDD s.2.2.2 s'.2.2.2
theorem vG_pay {g h : rG} (hv : vG g h) (k : Nat) : vG (upd g.1 k (g.1 k - nI 1), g.2.1, g.2.2.1, g.2.2.2.1, upd g.2.2.2.2.1 k (g.2.2.2.2.1 k + nI 1), g.2.2.2.2.2) (upd h.1 (2 * k + 1) (h.1 (2 * k + 1) - nI 1), h.2.1, h.2.2.1, h.2.2.2.1, upd h.2.2.2.2.1 (2 * k + 1) (h.2.2.2.2.1 (2 * k + 1) + nI 1), h.2.2.2.2.2) := by
  refine ⟨hv.1, hv.2.1, fun j hj => ?_⟩
  have hj : j < g.2.2.2.2.2 := hj
  obtain ⟨e0, e1, e2, e3, e4, e5⟩ := hv.2.2 j hj
  refine ⟨?_, ?_, e2, e3, e4, ?_⟩
  · show upd h.1 (2 * k + 1) (h.1 (2 * k + 1) - nI 1) (2 * j) = nI 0
    rw [pk_un (by omega)]
    exact e0
  · show upd h.1 (2 * k + 1) (h.1 (2 * k + 1) - nI 1) (2 * j + 1) = upd g.1 k (g.1 k - nI 1) j
    by_cases e : j = k
    · subst e; rw [pk_us, pk_us, e1]
    · rw [pk_un (by omega), pk_un e]; exact e1
  · show upd h.2.2.2.2.1 (2 * k + 1) (h.2.2.2.2.1 (2 * k + 1) + nI 1) (2 * j + 1) = upd g.2.2.2.2.1 k (g.2.2.2.2.1 k + nI 1) j
    by_cases e : j = k
    · subst e; rw [pk_us, pk_us, e5]
    · rw [pk_un (by omega), pk_un e]; exact e5
theorem vDD_bk {d e : Nat → Nat → Int32} (h : vDD d e) {l f : Nat} (hl : l < 4) (hf : f < 4) (v : Int32) : vDD (kup d l (upd (d l) f v)) (kup e (2 * l + 1) (upd (e (2 * l + 1)) (2 * f + 1) v)) := by
  refine ⟨fun a b ha hb => ?_, fun a b ha hb => ?_⟩
  · by_cases q : a = l
    · subst q
      rw [kup_y, kup_y]
      refine ⟨?_, ?_⟩
      · by_cases r : b = f
        · subst r; rw [pk_us, pk_us]
        · rw [pk_un (by omega), pk_un r]; exact (h.1 a b ha hb).1
      · rw [pk_un (by omega)]; exact (h.1 a b ha hb).2
    · rw [kup_n (by omega), kup_n q]; exact h.1 a b ha hb
  · rw [kup_n (by omega)]; exact h.2 a b ha hb
theorem vBk {s s' : kSt} (h : vRs s s') {l f : Nat} (hl : l < 4) (hf : f < 4) : vRs (kBk l f s) (kBk (2 * l + 1) (2 * f + 1) s') := by
  obtain ⟨C, L, F, d⟩ := s
  obtain ⟨C', L', F', d'⟩ := s'
  obtain ⟨h1, h2, h3, h4⟩ := h
  dsimp only at h1 h2 h3 h4
  subst h1
  exact ⟨rfl, vG_pay h2 l, vG_pay h3 f, vDD_bk h4 hl hf _⟩
theorem kBook_s {fo : Nat → Int32} {s : kSt} {i g : Nat} (hg : g < 100) (e : fo i = nI g) : kBook fo s (i + 1) = kBk i g (kBook fo s i) := by
  rw [kBook_y (by rw [e]; exact nI_ne1 (by omega)), e, nI_clamp (by omega)]
theorem vBook {s s' : kSt} (h : vRs s s') {fo fo' : Nat → Int32} (hf : vFo 4 fo fo') : ∀ i, i ≤ 4 → vRs (kBook fo s i) (kBook fo' s' (2 * i))
  | 0, _ => h
  | i + 1, hi => by
    have ih := vBook h hf i (by omega)
    obtain ⟨f1, f2⟩ := hf i (by omega)
    have e0 : kBook fo' s' (2 * i + 1) = kBook fo' s' (2 * i) := kBook_n f2
    show vRs (kBook fo s (i + 1)) (kBook fo' s' (2 * i + 1 + 1))
    rcases f1 with ⟨a, b⟩ | ⟨g, hg, a, b⟩
    · rw [kBook_n a, kBook_n b, e0]
      exact ih
    · rw [kBook_s (by omega) a, kBook_s (by omega) b, e0]
      exact vBk ih (by omega) hg
theorem vBook8 {s s' : kSt} (h : vRs s s') {fo fo' : Nat → Int32} (hf : vFo 4 fo fo') (h8 : ∀ j, 4 ≤ j → j < 8 → fo j = (-1 : Int32)) : vRs (kBook fo s 8) (kBook fo' s' 8) := by
  have K : ∀ k, k ≤ 4 → kBook fo s (4 + k) = kBook fo s 4 := by
    intro k
    induction k with
    | zero => intro _; rfl
    | succ k ih =>
      intro hk
      have e : kBook fo s (4 + k + 1) = kBook fo s (4 + k) := kBook_n (h8 (4 + k) (by omega) (by omega))
      exact e.trans (ih (by omega))
  have e := K 4 (Nat.le_refl 4)
  have b := vBook h hf 4 (Nat.le_refl 4)
  have e : kBook fo s 8 = kBook fo s 4 := e
  rw [e]
  exact b
theorem vDn (p : Nat → Int32) {s s' : kSt} (h : vRs s s') : vRs (kDn p s) (kDn p s') ∧ kCd p s' = kCd p s := by
  have hh := h
  obtain ⟨h1, h2, h3, h4⟩ := h
  have hc := vCx p h2 h3 h4 (kro s.1)
  obtain ⟨f1, f2⟩ := vFx p h2 h3 h4 (kro s.1)
  refine ⟨?_, by unfold kCd; rw [h1]; exact hc⟩
  unfold kDn
  rw [h1]
  generalize kFx p s.2.1 s.2.2.1 s.2.2.2 (kro s.1) = fo at f1 f2 ⊢
  generalize kFx p s'.2.1 s'.2.2.1 s'.2.2.2 (kro s.1) = fo' at f1 ⊢
  have b := vBook8 hh f1 f2
  generalize kBook fo s 8 = t at b ⊢
  generalize kBook fo' s' 8 = t' at b ⊢
  exact ⟨by show kBurn t'.1 = kBurn t.1; rw [b.1], b.2⟩
def vOs (p : Nat → Int32) (x : kSt × Nat × Nat) : kSt × Nat × Nat := if 0 < x.2.1 ∧ kPoss x.1.1 then (kDn p x.1, kCd p x.1, x.2.2 + 1) else x
theorem kOn_s (p : Nat → Int32) (s : kSt) (k : Nat) : kOn p s (k + 1) = vOs p (kOn p s k) := rfl
theorem vOn (p : Nat → Int32) {s s' : kSt} (h : vRs s s') : ∀ k, vRs (kOn p s k).1 (kOn p s' k).1 ∧ (kOn p s' k).2 = (kOn p s k).2
  | 0 => ⟨h, rfl⟩
  | k + 1 => by
    obtain ⟨i1, i2⟩ := vOn p h k
    rw [kOn_s, kOn_s]
    generalize kOn p s k = x at i1 i2 ⊢
    generalize kOn p s' k = x' at i1 i2 ⊢
    obtain ⟨d1, d2⟩ := vDn p i1
    unfold vOs
    rw [i2, i1.1]
    by_cases q : 0 < x.2.1 ∧ kPoss x.1.1
    · rw [if_pos q, if_pos q, d2]
      exact ⟨d1, rfl⟩
    · rw [if_neg q, if_neg q]
      exact ⟨i1, i2⟩
theorem vOnE (p : Nat → Int32) {s s' : kSt} (h : vRs s s') : vRs (kOnE p s).1 (kOnE p s').1 ∧ (kOnE p s').2 = (kOnE p s).2 := by
  have h9 := vOn p h
  obtain ⟨n9, hn9⟩ : ∃ n9 : Nat, n9 = 30 := ⟨30, rfl⟩
  have e : ∀ s : kSt, kOnE p s = ((kOn p s n9).1, (kOn p s n9).2.2) := fun s => by rw [hn9]; rfl
  rw [e, e]
  exact ⟨(h9 n9).1, by show (kOn p s' n9).2.2 = (kOn p s n9).2.2; rw [(h9 n9).2]⟩
/-! what holds of each hall -/
def vD (s : kSt) : Prop := ∀ l f, l < 8 → f < 8 → ¬ s.2.2.2 l f = (-1 : Int32) → l < s.2.1.2.2.2.2.2 ∧ f < s.2.2.1.2.2.2.2.2 ∧ ∃ k, k < 30 ∧ s.2.2.2 l f = nI k
def vB (s : kSt) : Prop := s.1.2.2.2.2.1 = nI (2 * kCp s.2.2.2)
def vI (s : kSt) : Prop := kOkC s.1 ∧ kGdG s.2.1 ∧ kGdG s.2.2.1 ∧ ((1 ≤ s.1.2.2.2.1 ∧ s.1.2.2.2.1 ≤ 4) ∧ 1 ≤ s.1.1) ∧ vD s ∧ vB s
def vP (r : rA) : Prop := ∀ f, f < 4 → ∃ n, 1 ≤ n ∧ n ≤ 9 ∧ r.2.1 f = nI n
theorem vI_S {s : kSt} (h : vI s) : kOkS s := ⟨h.1, h.2.1.1, h.2.2.1.1⟩
theorem vP_sum {r : rA} (hp : vP r) {m : Nat} (h1 : 1 ≤ m) (h4 : m ≤ 4) : ¬ ksum r.2.1 m ≤ 0 := by
  have hs : ∀ n, n ≤ 4 → ∃ k, n ≤ k ∧ k ≤ 9 * n ∧ ksum r.2.1 n = nI k := by
    intro n
    induction n with
    | zero => intro _; exact ⟨0, Nat.le_refl 0, by omega, rfl⟩
    | succ n ih =>
      intro hn
      obtain ⟨k, a1, a2, a3⟩ := ih (by omega)
      obtain ⟨j, b1, b2, b3⟩ := hp n (by omega)
      refine ⟨k + j, by omega, by omega, ?_⟩
      show ksum r.2.1 n + r.2.1 n = nI (k + j)
      rw [a3, b3, nI_add]
  obtain ⟨k, a1, a2, a3⟩ := hs _ h4
  rw [a3]
  exact nI_nle (by omega) (by omega)
theorem vaux {A B x : Nat} (h : A + x = B + (x + 1)) : A = B + 1 := by omega
theorem vCp_bk {d : Nat → Nat → Int32} {i f : Nat} {v : Int32} (hi : i < 8) (hf : f < 8) (h : d i f = (-1 : Int32)) (hv : v ≠ (-1 : Int32)) : kCp (kup d i (upd (d i) f v)) = kCp d + 1 := by
  have h9 := kns_ch (f := fun l => kcnt (kup d i (upd (d i) f v) l) 8) (g := fun l => kcnt (d l) 8) hi (fun j _ q => by (try dsimp only); rw [kup_n q])
  have e : kcnt (kup d i (upd (d i) f v) i) 8 = kcnt (d i) 8 + 1 := by
    rw [kup_y]
    exact kcnt_up hf h (by rw [pk_us]; exact hv) (fun j _ q => pk_un q)
  (try dsimp only at h9)
  rw [e] at h9
  exact vaux h9
section VB
variable {s : kSt} {fo : Nat → Int32}
theorem vBook_I (hD : vD s) (hB : vB s) (h8 : s.2.1.2.2.2.2.2 ≤ 8) (h8' : s.2.2.1.2.2.2.2.2 ≤ 8) (hdn : s.1.2.2.2.2.2.2.1 < 30) (hfo : ∀ i, i < 8 → fo i = (-1 : Int32) ∨ ∃ g, fo i = nI g ∧ i < s.2.1.2.2.2.2.2 ∧ g < s.2.2.1.2.2.2.2.2 ∧ s.2.2.2 i g = (-1 : Int32)) : ∀ i, i ≤ 8 → vD (kBook fo s i) ∧ vB (kBook fo s i)
  | 0, _ => ⟨hD, hB⟩
  | i + 1, hi => by
    obtain ⟨a, b⟩ := vBook_I hD hB h8 h8' hdn hfo i (by omega)
    rcases hfo i (by omega) with e | ⟨g, e, g1, g2, g3⟩
    · rw [kBook_n e]; exact ⟨a, b⟩
    · have hr := kBook_row fo s i i (Nat.le_refl i)
      have hs := kBook_same fo s i
      rw [kBook_s (by omega) e]
      obtain ⟨-, -, -, -, -, s6, -, -, -, s10, -, -, -, s14⟩ := hs
      generalize kBook fo s i = t at a b hr s6 s10 s14 ⊢
      have ht : t.2.2.2 i g = (-1 : Int32) := by rw [hr]; exact g3
      have hv : nI t.1.2.2.2.2.2.2.1 ≠ (-1 : Int32) := nI_ne1 (by rw [s6]; omega)
      refine ⟨fun l f hl hf q => ?_, ?_⟩
      · show l < t.2.1.2.2.2.2.2 ∧ f < t.2.2.1.2.2.2.2.2 ∧ ∃ k, k < 30 ∧ kup t.2.2.2 i (upd (t.2.2.2 i) g (nI t.1.2.2.2.2.2.2.1)) l f = nI k
        have q : ¬ kup t.2.2.2 i (upd (t.2.2.2 i) g (nI t.1.2.2.2.2.2.2.1)) l f = (-1 : Int32) := q
        by_cases e1 : l = i
        · subst e1
          rw [kup_y] at q ⊢
          by_cases e2 : f = g
          · subst e2
            rw [pk_us]
            exact ⟨by rw [s10]; exact g1, by rw [s14]; exact g2, _, by rw [s6]; exact hdn, rfl⟩
          · rw [pk_un e2] at q ⊢
            exact a l f hl hf q
        · rw [kup_n e1] at q ⊢
          exact a l f hl hf q
      · show t.1.2.2.2.2.1 + nI 2 = nI (2 * kCp (kup t.2.2.2 i (upd (t.2.2.2 i) g (nI t.1.2.2.2.2.2.2.1))))
        rw [vCp_bk (by omega) (by omega) ht hv, show t.1.2.2.2.2.1 = nI (2 * kCp t.2.2.2) from b, nI_add, Nat.mul_add]
theorem vI_dn (p : Nat → Int32) (h : vI s) (hp : kPoss s.1) : vI (kDn p s) := by
  obtain ⟨hC, hL, hF, hfd, hD, hB⟩ := h
  have hk := kDn_ok (p := p) (s := s) ⟨hC, hL.1, hF.1⟩ hp
  have hfo := fun i (hi : i < 8) => vFx_ok p (L := s.2.1) (F := s.2.2.1) (d := s.2.2.2) hL.1.1 hF.1.1 (kro s.1) hi
  have hp2 := hp.2
  have hb := vBook_I hD hB hL.1.1 hF.1.1 (by omega) hfo 8 (Nat.le_refl 8)
  have hs := kBook_same (kFx p s.2.1 s.2.2.1 s.2.2.2 (kro s.1)) s 8
  obtain ⟨B, hBe⟩ : ∃ B, B = kBook (kFx p s.2.1 s.2.2.1 s.2.2.2 (kro s.1)) s 8 := ⟨_, rfl⟩
  have e : kDn p s = (kBurn B.1, B.2) := by rw [hBe]; unfold kDn; rfl
  rw [← hBe] at hb hs
  rw [e] at hk ⊢
  obtain ⟨k1, k2, k3⟩ := hk
  obtain ⟨a1, -, -, a4, -, -, o1, o2, w1, -, p1, p2, w2, -⟩ := hs
  refine ⟨k1, ⟨k2, ?_, ?_⟩, ⟨k3, ?_, ?_⟩, ?_, hb.1, hb.2⟩
  · show kBo B.2.1.2.2.1
    rw [o2]; exact hL.2.1
  · show kBo B.2.1.2.2.2.1
    rw [w1]; exact hL.2.2
  · show kBo B.2.2.1.2.2.1
    rw [p2]; exact hF.2.1
  · show kBo B.2.2.1.2.2.2.1
    rw [w2]; exact hF.2.2
  · show (1 ≤ B.1.2.2.2.1 ∧ B.1.2.2.2.1 ≤ 4) ∧ 1 ≤ B.1.1
    rw [a4, a1]; exact hfd
theorem vI_on (p : Nat → Int32) (h : vI s) : ∀ k, vI (kOn p s k).1
  | 0 => h
  | k + 1 => by
    have ih := vI_on p h k
    rw [kOn_s]
    generalize kOn p s k = x at ih ⊢
    unfold vOs
    by_cases q : 0 < x.2.1 ∧ kPoss x.1.1
    · rw [if_pos q]; exact vI_dn p ih q.2
    · rw [if_neg q]; exact ih
theorem vI_onE (p : Nat → Int32) (h : vI s) : vI (kOnE p s).1 := by
  have h9 := vI_on p h
  obtain ⟨n9, hn9⟩ : ∃ n9 : Nat, n9 = 30 := ⟨30, rfl⟩
  have e : kOnE p s = ((kOn p s n9).1, (kOn p s n9).2.2) := by rw [hn9]; rfl
  rw [e]
  exact h9 n9
/-- the dances danced are told by the number -/
theorem kOn_n (p : Nat → Int32) (s : kSt) : ∀ k, (kOn p s k).1.1.2.2.2.2.2.2.1 = s.1.2.2.2.2.2.2.1 + (kOn p s k).2.2 ∧ (kOn p s k).2.2 ≤ k
  | 0 => ⟨rfl, Nat.le_refl 0⟩
  | k + 1 => by
    have ih := kOn_n p s k
    rw [kOn_s]
    generalize kOn p s k = x at ih ⊢
    unfold vOs
    by_cases q : 0 < x.2.1 ∧ kPoss x.1.1
    · rw [if_pos q]
      have hs := (kBook_same (kFx p x.1.2.1 x.1.2.2.1 x.1.2.2.2 (kro x.1.1)) x.1 8).2.2.2.2.2.1
      obtain ⟨B, hBe⟩ : ∃ B, B = kBook (kFx p x.1.2.1 x.1.2.2.1 x.1.2.2.2 (kro x.1.1)) x.1 8 := ⟨_, rfl⟩
      have e : kDn p x.1 = (kBurn B.1, B.2) := by rw [hBe]; unfold kDn; rfl
      rw [← hBe] at hs
      rw [e]
      refine ⟨?_, by show x.2.2 + 1 ≤ k + 1; omega⟩
      show B.1.2.2.2.2.2.2.1 + 1 = s.1.2.2.2.2.2.2.1 + (x.2.2 + 1)
      rw [hs, ih.1]
      omega
    · rw [if_neg q]
      exact ⟨ih.1, by omega⟩
theorem kOnE_n (p : Nat → Int32) (s : kSt) : (kOnE p s).1.1.2.2.2.2.2.2.1 = s.1.2.2.2.2.2.2.1 + (kOnE p s).2 ∧ (kOnE p s).2 ≤ 30 := by
  have h9 := kOn_n p s
  obtain ⟨n9, hn9⟩ : ∃ n9 : Nat, n9 = 30 := ⟨30, rfl⟩
  have e : kOnE p s = ((kOn p s n9).1, (kOn p s n9).2.2) := by rw [hn9]; rfl
  have hq := h9 n9
  rw [e]
  exact ⟨hq.1, by show (kOn p s n9).2.2 ≤ 30; rw [hn9] at hq ⊢; exact hq.2⟩
end VB
/-! counts -/
theorem vkns {f g : Nat → Nat} (h : ∀ n, n < 4 → g (2 * n) = 0 ∧ g (2 * n + 1) = f n) (hz : ∀ n, 4 ≤ n → n < 8 → f n = 0) : kns g 8 = kns f 8 := by
  have K : ∀ n, n ≤ 4 → kns g (2 * n) = kns f n := by
    intro n
    induction n with
    | zero => intro _; rfl
    | succ n ih =>
      intro hn
      have a : kns g (2 * (n + 1)) = kns g (2 * n) + g (2 * n) + g (2 * n + 1) := rfl
      have b : kns f (n + 1) = kns f n + f n := rfl
      rw [a, b, ih (by omega), (h n (by omega)).1, (h n (by omega)).2]
      rfl
  have Z : ∀ k, k ≤ 4 → kns f (4 + k) = kns f 4 := by
    intro k
    induction k with
    | zero => intro _; rfl
    | succ k ih =>
      intro hk
      have b : kns f (4 + (k + 1)) = kns f (4 + k) + f (4 + k) := rfl
      rw [b, hz (4 + k) (by omega) (by omega), ih (by omega)]
      rfl
  have k4 := K 4 (Nat.le_refl 4)
  have z4 := Z 4 (Nat.le_refl 4)
  exact k4.trans z4.symm
theorem vkcnt {r r' : Nat → Int32} (h : ∀ f, f < 4 → r' (2 * f + 1) = r f ∧ r' (2 * f) = (-1 : Int32)) (hz : ∀ f, 4 ≤ f → f < 8 → r f = (-1 : Int32)) : kcnt r' 8 = kcnt r 8 := by
  rw [kcnt_ns, kcnt_ns]
  exact vkns (fun n hn => ⟨if_pos (h n hn).2, by (try dsimp only); rw [(h n hn).1]⟩) (fun n h4 h8 => if_pos (hz n h4 h8))
theorem vkcnt0 {r : Nat → Int32} (hz : ∀ f, f < 8 → r f = (-1 : Int32)) : kcnt r 8 = 0 := by
  rw [kcnt_ns]
  exact kns_0 8 (fun i hi => if_pos (hz i hi))
section VN
variable {s s' : kSt}
theorem vD4 (hD : vD s) (hL : s.2.1.2.2.2.2.2 ≤ 4) (hF : s.2.2.1.2.2.2.2.2 ≤ 4) : ∀ l f, l < 8 → f < 8 → 4 ≤ l ∨ 4 ≤ f → s.2.2.2 l f = (-1 : Int32) := by
  intro l f hl hf h
  by_cases q : s.2.2.2 l f = (-1 : Int32)
  · exact q
  · obtain ⟨a, b, -⟩ := hD l f hl hf q
    omega
theorem vrow (h : vRs s s') (hD : vD s) {i : Nat} (hi : i < 4) : kcnt (s'.2.2.2 (2 * i + 1)) 8 = kcnt (s.2.2.2 i) 8 :=
  vkcnt (fun f hf => h.2.2.2.1 i f hi hf) (fun f h4 h8 => vD4 hD h.2.1.1 h.2.2.1.1 i f (by omega) h8 (Or.inr h4))
theorem vcol (h : vRs s s') (hD : vD s) {i : Nat} (hi : i < 4) : kcnt (fun q => s'.2.2.2 q (2 * i + 1)) 8 = kcnt (fun q => s.2.2.2 q i) 8 :=
  vkcnt (r := fun q => s.2.2.2 q i) (r' := fun q => s'.2.2.2 q (2 * i + 1)) (fun f hf => ⟨(h.2.2.2.1 f i hf hi).1, h.2.2.2.2 f (2 * i + 1) hf (by omega)⟩) (fun f h4 h8 => vD4 hD h.2.1.1 h.2.2.1.1 f i h8 (by omega) (Or.inl h4))
theorem vCp (h : vRs s s') (hD : vD s) : kCp s'.2.2.2 = kCp s.2.2.2 :=
  vkns (f := fun l => kcnt (s.2.2.2 l) 8) (g := fun l => kcnt (s'.2.2.2 l) 8) (fun n hn => ⟨vkcnt0 (fun f hf => h.2.2.2.2 n f hn hf), vrow h hD hn⟩) (fun n h4 h8 => vkcnt0 (fun f hf => vD4 hD h.2.1.1 h.2.2.1.1 n f h8 hf (Or.inl h4)))
end VN
