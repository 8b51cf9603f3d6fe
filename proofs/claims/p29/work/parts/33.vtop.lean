/-! the halls' states as they lie: what holds of both, behind each call -/
abbrev vK (X : rS) : kSt := (X.1, X.2.1, X.2.2.1, X.2.2.2.2)
def vGd (X : rS) : Prop := vI (vK X) ∧ vP X.2.2.2.1
def vRR (X Y : rS) : Prop := vRs (vK X) (vK Y) ∧ Y.2.2.2.1 = X.2.2.2.1
def vAll (X Y : rS) : Prop := vGd X ∧ vGd Y ∧ vRR X Y
section VG
variable {X Y : rS}
theorem vGd_adL (h : vGd X) {t z : Nat} {sh : Int32} (hn : X.2.1.2.2.2.2.2 < 8) (h1 : 1 ≤ z) (h9 : z ≤ 9) (hs : sh = nI 0 ∨ sh = nI 1) : vGd (X.1, kAd X.2.1 (nI t) (nI z) sh, X.2.2) := by
  obtain ⟨⟨a, b, c, d, e, f⟩, g⟩ := h
  exact ⟨⟨a, kGdG_ad b hn h1 h9 hs, c, d, fun l f hl hf q => ⟨Nat.lt_succ_of_lt (e l f hl hf q).1, (e l f hl hf q).2⟩, f⟩, g⟩
theorem vGd_adF (h : vGd X) {t z : Nat} {sh : Int32} (hn : X.2.2.1.2.2.2.2.2 < 8) (h1 : 1 ≤ z) (h9 : z ≤ 9) (hs : sh = nI 0 ∨ sh = nI 1) : vGd (X.1, X.2.1, kAd X.2.2.1 (nI t) (nI z) sh, X.2.2.2) := by
  obtain ⟨⟨a, b, c, d, e, f⟩, g⟩ := h
  exact ⟨⟨a, b, kGdG_ad c hn h1 h9 hs, d, fun l f hl hf q => ⟨(e l f hl hf q).1, Nat.lt_succ_of_lt (e l f hl hf q).2.1, (e l f hl hf q).2.2⟩, f⟩, g⟩
theorem vGd_tkL (h : vGd X) {i : Nat} {v : Int32} : vGd (X.1, (upd X.2.1.1 i v, X.2.1.2), X.2.2) := ⟨⟨h.1.1, ⟨h.1.2.1.1, h.1.2.1.2⟩, h.1.2.2⟩, h.2⟩
theorem vGd_tkF (h : vGd X) {i : Nat} {v : Int32} : vGd (X.1, X.2.1, (upd X.2.2.1.1 i v, X.2.2.1.2), X.2.2.2) := ⟨⟨h.1.1, h.1.2.1, ⟨h.1.2.2.1.1, h.1.2.2.1.2⟩, h.1.2.2.2⟩, h.2⟩
theorem vGd_heL (h : vGd X) {i : Nat} {y : Int32} (hy : y = nI 0 ∨ y = nI 1) : vGd (X.1, (X.2.1.1, X.2.1.2.1, X.2.1.2.2.1, upd X.2.1.2.2.2.1 i y, X.2.1.2.2.2.2), X.2.2) := ⟨⟨h.1.1, ⟨h.1.2.1.1, h.1.2.1.2.1, kBo_u h.1.2.1.2.2 hy⟩, h.1.2.2⟩, h.2⟩
theorem vGd_heF (h : vGd X) {i : Nat} {y : Int32} (hy : y = nI 0 ∨ y = nI 1) : vGd (X.1, X.2.1, (X.2.2.1.1, X.2.2.1.2.1, X.2.2.1.2.2.1, upd X.2.2.1.2.2.2.1 i y, X.2.2.1.2.2.2.2), X.2.2.2) := ⟨⟨h.1.1, h.1.2.1, ⟨h.1.2.2.1.1, h.1.2.2.1.2.1, kBo_u h.1.2.2.1.2.2 hy⟩, h.1.2.2.2⟩, h.2⟩
theorem vGd_shoe (h : vGd X) {z : Nat} {v : Int32} : vGd (X.1, X.2.1, X.2.2.1, (upd X.2.2.2.1.1 z v, X.2.2.2.1.2), X.2.2.2.2) := ⟨h.1, h.2⟩
theorem vGd_lamp (h : vGd X) {a b : Nat} (h1 : 1 ≤ a) (ha : a ≤ 6) (hb : b ≤ 999) : vGd ((a, b, X.1.2.2), X.2) := ⟨⟨⟨ha, hb, h.1.1.2.2⟩, h.1.2.1, h.1.2.2.1, ⟨h.1.2.2.2.1.1, h1⟩, h.1.2.2.2.2⟩, h.2⟩
theorem vGd_fid (h : vGd X) {k : Nat} (h1 : 1 ≤ k) (h4 : k ≤ 4) : vGd ((X.1.1, X.1.2.1, X.1.2.2.1, k, X.1.2.2.2.2), X.2.1, X.2.2.1, (X.2.2.2.1.1, (fun _ => nI 1), X.2.2.2.1.2.2), X.2.2.2.2) :=
  ⟨⟨h.1.1, h.1.2.1, h.1.2.2.1, ⟨⟨h1, h4⟩, h.1.2.2.2.1.2⟩, h.1.2.2.2.2⟩, fun _ _ => ⟨1, Nat.le_refl 1, by decide, rfl⟩⟩
theorem vGd_part (h : vGd X) {i k : Nat} (h1 : 1 ≤ k) (h9 : k ≤ 9) : vGd (X.1, X.2.1, X.2.2.1, (X.2.2.2.1.1, upd X.2.2.2.1.2.1 i (nI k), X.2.2.2.1.2.2), X.2.2.2.2) :=
  ⟨h.1, fun f hf => by
    by_cases e : f = i
    · exact ⟨k, h1, h9, by rw [e]; exact pk_us⟩
    · obtain ⟨n, n1, n9, e2⟩ := h.2 f hf
      exact ⟨n, n1, n9, (pk_un e).trans e2⟩⟩
theorem vGd_night (h : vGd X) {g : Nat → Int32} {n m : Nat} {t : Int32} : vGd ((X.1.1, X.1.2.1, X.1.2.2.1, X.1.2.2.2.1, nI 0, t, 0, X.1.2.2.2.2.2.2.2), kNtG X.2.1 n, kNtG X.2.2.1 m, (X.2.2.2.1.1, X.2.2.2.1.2.1, g), fun _ _ => (-1 : Int32)) := by
  refine ⟨⟨⟨h.1.1.1, h.1.1.2.1, Nat.zero_le _⟩, ⟨h.1.2.1.1, h.1.2.1.2.1, kBo_cp h.1.2.1.2.2⟩, ⟨h.1.2.2.1.1, h.1.2.2.1.2.1, kBo_cp h.1.2.2.1.2.2⟩, h.1.2.2.2.1, fun _ _ _ _ q => absurd rfl q, ?_⟩, h.2⟩
  have e : kCp (fun _ _ => (-1 : Int32)) = 0 := kns_0 8 (fun i hi => vkcnt0 (fun f hf => rfl))
  show nI 0 = nI (2 * kCp (fun _ _ => (-1 : Int32)))
  rw [e]
theorem vGd_st (h : vGd X) {q : kSt} (hq : vI q) : vGd (q.1, q.2.1, q.2.2.1, X.2.2.2.1, q.2.2.2) := ⟨hq, h.2⟩
/-! alike behind each call -/
theorem vupd {f f' : Nat → Int32} {n k : Nat} (hk : k ≤ n) (h : k < n → f' (2 * k + 1) = f k) (a v : Int32) : upd (upd f' (2 * n) a) (2 * n + 1) v (2 * k + 1) = upd f n v k := by
  by_cases e : k = n
  · rw [e, pk_us, pk_us]
  · rw [pk_un (by omega), pk_un (by omega), pk_un e]
    exact h (by omega)
theorem vG_add {g h : rG} (hv : vG g h) (hn : g.2.2.2.2.2 < 4) (t z sh z' sh' : Int32) : vG (kAd g t z sh) (kAd (kAd h (nI 0) z' sh') t z sh) := by
  obtain ⟨h4, h2, hq⟩ := hv
  obtain ⟨g1, g2, g3, g5, g6, n⟩ := g
  obtain ⟨i1, i2, i3, i5, i6, m⟩ := h
  dsimp only at h4 h2 hq hn
  subst h2
  refine ⟨?_, ?_, fun k hk => ?_⟩
  · show n + 1 ≤ 4; omega
  · show 2 * n + 1 + 1 = 2 * (n + 1); omega
  · have hk : k < n + 1 := hk
    refine ⟨?_, vupd (by omega) (fun q => (hq k q).2.1) _ _, vupd (by omega) (fun q => (hq k q).2.2.1) _ _, vupd (by omega) (fun q => (hq k q).2.2.2.1) _ _, vupd (by omega) (fun q => (hq k q).2.2.2.2.1) _ _, vupd (by omega) (fun q => (hq k q).2.2.2.2.2) _ _⟩
    show upd (upd i1 (2 * n) (nI 0)) (2 * n + 1) t (2 * k) = nI 0
    rw [pk_un (by omega)]
    by_cases e : k = n
    · rw [e, pk_us]
    · rw [pk_un (by omega)]
      exact (hq k (by omega)).1
theorem vG_tok {g h : rG} (hv : vG g h) (i : Nat) (v : Int32) : vG (upd g.1 i v, g.2) (upd h.1 (2 * i + 1) v, h.2) := by
  refine ⟨hv.1, hv.2.1, fun k hk => ?_⟩
  obtain ⟨e0, e1, e2⟩ := hv.2.2 k hk
  refine ⟨?_, ?_, e2⟩
  · show upd h.1 (2 * i + 1) v (2 * k) = nI 0
    rw [pk_un (by omega)]; exact e0
  · show upd h.1 (2 * i + 1) v (2 * k + 1) = upd g.1 i v k
    by_cases e : k = i
    · rw [e, pk_us, pk_us]
    · rw [pk_un (by omega), pk_un e]; exact e1
theorem vG_here {g h : rG} (hv : vG g h) (i : Nat) (y : Int32) : vG (g.1, g.2.1, g.2.2.1, upd g.2.2.2.1 i y, g.2.2.2.2) (h.1, h.2.1, h.2.2.1, upd h.2.2.2.1 (2 * i + 1) y, h.2.2.2.2) := by
  refine ⟨hv.1, hv.2.1, fun k hk => ?_⟩
  obtain ⟨e0, e1, e2, e3, e4, e5⟩ := hv.2.2 k hk
  refine ⟨e0, e1, e2, e3, ?_, e5⟩
  show upd h.2.2.2.1 (2 * i + 1) y (2 * k + 1) = upd g.2.2.2.1 i y k
  by_cases e : k = i
  · rw [e, pk_us, pk_us]
  · rw [pk_un (by omega), pk_un e]; exact e4
theorem vG_night {g h : rG} (hv : vG g h) : vG (kNtG g g.2.2.2.2.2) (kNtG h h.2.2.2.2.2) := by
  refine ⟨hv.1, hv.2.1, fun k hk => ?_⟩
  have hk : k < g.2.2.2.2.2 := hk
  obtain ⟨e0, e1, e2, e3, e4, e5⟩ := hv.2.2 k hk
  refine ⟨e0, e1, e2, e3, ?_, e5⟩
  show kcp (fun _ => nI 1) h.2.2.2.1 h.2.2.2.2.2 (2 * k + 1) = kcp (fun _ => nI 1) g.2.2.2.1 g.2.2.2.2.2 k
  rw [kcp_in _ _ hk, kcp_in _ _ (by rw [hv.2.1]; omega)]
theorem vA_adL (h : vAll X Y) (hn : X.2.1.2.2.2.2.2 < 4) {t z : Nat} {sh sh' : Int32} (h1 : 1 ≤ z) (h9 : z ≤ 9) (hs : sh = nI 0 ∨ sh = nI 1) (hs' : sh' = nI 0 ∨ sh' = nI 1) : vAll (X.1, kAd X.2.1 (nI t) (nI z) sh, X.2.2) (Y.1, kAd (kAd Y.2.1 (nI 0) (nI z) sh') (nI t) (nI z) sh, Y.2.2) := by
  have hm : Y.2.1.2.2.2.2.2 = 2 * X.2.1.2.2.2.2.2 := h.2.2.1.2.1.2.1
  have a := vGd_adL (t := 0) h.2.1 (by omega) h1 h9 hs'
  have b := vGd_adL (t := t) a (by show Y.2.1.2.2.2.2.2 + 1 < 8; omega) h1 h9 hs
  exact ⟨vGd_adL h.1 (by omega) h1 h9 hs, b, ⟨h.2.2.1.1, vG_add h.2.2.1.2.1 hn _ _ _ _ _, h.2.2.1.2.2.1, h.2.2.1.2.2.2⟩, h.2.2.2⟩
theorem vA_adF (h : vAll X Y) (hn : X.2.2.1.2.2.2.2.2 < 4) {t z : Nat} {sh sh' : Int32} (h1 : 1 ≤ z) (h9 : z ≤ 9) (hs : sh = nI 0 ∨ sh = nI 1) (hs' : sh' = nI 0 ∨ sh' = nI 1) : vAll (X.1, X.2.1, kAd X.2.2.1 (nI t) (nI z) sh, X.2.2.2) (Y.1, Y.2.1, kAd (kAd Y.2.2.1 (nI 0) (nI z) sh') (nI t) (nI z) sh, Y.2.2.2) := by
  have hm : Y.2.2.1.2.2.2.2.2 = 2 * X.2.2.1.2.2.2.2.2 := h.2.2.1.2.2.1.2.1
  have a := vGd_adF (t := 0) h.2.1 (by omega) h1 h9 hs'
  have b := vGd_adF (t := t) a (by show Y.2.2.1.2.2.2.2.2 + 1 < 8; omega) h1 h9 hs
  exact ⟨vGd_adF h.1 (by omega) h1 h9 hs, b, ⟨h.2.2.1.1, h.2.2.1.2.1, vG_add h.2.2.1.2.2.1 hn _ _ _ _ _, h.2.2.1.2.2.2⟩, h.2.2.2⟩
theorem vA_tkL (h : vAll X Y) {i : Nat} {v : Int32} : vAll (X.1, (upd X.2.1.1 i v, X.2.1.2), X.2.2) (Y.1, (upd Y.2.1.1 (2 * i + 1) v, Y.2.1.2), Y.2.2) := ⟨vGd_tkL h.1, vGd_tkL h.2.1, ⟨h.2.2.1.1, vG_tok h.2.2.1.2.1 i v, h.2.2.1.2.2⟩, h.2.2.2⟩
theorem vA_tkF (h : vAll X Y) {i : Nat} {v : Int32} : vAll (X.1, X.2.1, (upd X.2.2.1.1 i v, X.2.2.1.2), X.2.2.2) (Y.1, Y.2.1, (upd Y.2.2.1.1 (2 * i + 1) v, Y.2.2.1.2), Y.2.2.2) := ⟨vGd_tkF h.1, vGd_tkF h.2.1, ⟨h.2.2.1.1, h.2.2.1.2.1, vG_tok h.2.2.1.2.2.1 i v, h.2.2.1.2.2.2⟩, h.2.2.2⟩
theorem vA_heL (h : vAll X Y) {i : Nat} {y : Int32} (hy : y = nI 0 ∨ y = nI 1) : vAll (X.1, (X.2.1.1, X.2.1.2.1, X.2.1.2.2.1, upd X.2.1.2.2.2.1 i y, X.2.1.2.2.2.2), X.2.2) (Y.1, (Y.2.1.1, Y.2.1.2.1, Y.2.1.2.2.1, upd Y.2.1.2.2.2.1 (2 * i + 1) y, Y.2.1.2.2.2.2), Y.2.2) := ⟨vGd_heL h.1 hy, vGd_heL h.2.1 hy, ⟨h.2.2.1.1, vG_here h.2.2.1.2.1 i y, h.2.2.1.2.2⟩, h.2.2.2⟩
theorem vA_heF (h : vAll X Y) {i : Nat} {y : Int32} (hy : y = nI 0 ∨ y = nI 1) : vAll (X.1, X.2.1, (X.2.2.1.1, X.2.2.1.2.1, X.2.2.1.2.2.1, upd X.2.2.1.2.2.2.1 i y, X.2.2.1.2.2.2.2), X.2.2.2) (Y.1, Y.2.1, (Y.2.2.1.1, Y.2.2.1.2.1, Y.2.2.1.2.2.1, upd Y.2.2.1.2.2.2.1 (2 * i + 1) y, Y.2.2.1.2.2.2.2), Y.2.2.2) := ⟨vGd_heF h.1 hy, vGd_heF h.2.1 hy, ⟨h.2.2.1.1, h.2.2.1.2.1, vG_here h.2.2.1.2.2.1 i y, h.2.2.1.2.2.2⟩, h.2.2.2⟩
theorem vA_shoe (h : vAll X Y) {z : Nat} {v : Int32} : vAll (X.1, X.2.1, X.2.2.1, (upd X.2.2.2.1.1 z v, X.2.2.2.1.2), X.2.2.2.2) (Y.1, Y.2.1, Y.2.2.1, (upd Y.2.2.2.1.1 z v, Y.2.2.2.1.2), Y.2.2.2.2) := ⟨vGd_shoe h.1, vGd_shoe h.2.1, h.2.2.1, by (try dsimp only); rw [h.2.2.2]⟩
theorem vA_lamp (h : vAll X Y) {a b : Nat} (h1 : 1 ≤ a) (ha : a ≤ 6) (hb : b ≤ 999) : vAll ((a, b, X.1.2.2), X.2) ((a, b, Y.1.2.2), Y.2) := ⟨vGd_lamp h.1 h1 ha hb, vGd_lamp h.2.1 h1 ha hb, ⟨by have e : Y.1 = X.1 := h.2.2.1.1; show (a, b, Y.1.2.2) = (a, b, X.1.2.2); rw [e], h.2.2.1.2⟩, h.2.2.2⟩
theorem vA_fid (h : vAll X Y) {k : Nat} (h1 : 1 ≤ k) (h4 : k ≤ 4) : vAll ((X.1.1, X.1.2.1, X.1.2.2.1, k, X.1.2.2.2.2), X.2.1, X.2.2.1, (X.2.2.2.1.1, (fun _ => nI 1), X.2.2.2.1.2.2), X.2.2.2.2) ((Y.1.1, Y.1.2.1, Y.1.2.2.1, k, Y.1.2.2.2.2), Y.2.1, Y.2.2.1, (Y.2.2.2.1.1, (fun _ => nI 1), Y.2.2.2.1.2.2), Y.2.2.2.2) := by
  have e : Y.1 = X.1 := h.2.2.1.1
  exact ⟨vGd_fid h.1 h1 h4, vGd_fid h.2.1 h1 h4, ⟨by show (Y.1.1, Y.1.2.1, Y.1.2.2.1, k, Y.1.2.2.2.2) = (X.1.1, X.1.2.1, X.1.2.2.1, k, X.1.2.2.2.2); rw [e], h.2.2.1.2⟩, by show (Y.2.2.2.1.1, _, Y.2.2.2.1.2.2) = (X.2.2.2.1.1, _, X.2.2.2.1.2.2); rw [h.2.2.2]⟩
theorem vA_part (h : vAll X Y) {i k : Nat} (h1 : 1 ≤ k) (h9 : k ≤ 9) : vAll (X.1, X.2.1, X.2.2.1, (X.2.2.2.1.1, upd X.2.2.2.1.2.1 i (nI k), X.2.2.2.1.2.2), X.2.2.2.2) (Y.1, Y.2.1, Y.2.2.1, (Y.2.2.2.1.1, upd Y.2.2.2.1.2.1 i (nI k), Y.2.2.2.1.2.2), Y.2.2.2.2) := ⟨vGd_part h.1 h1 h9, vGd_part h.2.1 h1 h9, h.2.2.1, by show (Y.2.2.2.1.1, upd Y.2.2.2.1.2.1 i (nI k), Y.2.2.2.1.2.2) = (X.2.2.2.1.1, upd X.2.2.2.1.2.1 i (nI k), X.2.2.2.1.2.2); rw [h.2.2.2]⟩
theorem vA_night (h : vAll X Y) : vAll ((X.1.1, X.1.2.1, X.1.2.2.1, X.1.2.2.2.1, nI 0, X.1.2.2.2.2.2.1 + nI 1, 0, X.1.2.2.2.2.2.2.2), kNtG X.2.1 X.2.1.2.2.2.2.2, kNtG X.2.2.1 X.2.2.1.2.2.2.2.2, (X.2.2.2.1.1, X.2.2.2.1.2.1, kgot X.1 X.2.2.2.1 X.1.2.2.2.1), fun _ _ => (-1 : Int32)) ((Y.1.1, Y.1.2.1, Y.1.2.2.1, Y.1.2.2.2.1, nI 0, Y.1.2.2.2.2.2.1 + nI 1, 0, Y.1.2.2.2.2.2.2.2), kNtG Y.2.1 Y.2.1.2.2.2.2.2, kNtG Y.2.2.1 Y.2.2.1.2.2.2.2.2, (Y.2.2.2.1.1, Y.2.2.2.1.2.1, kgot Y.1 Y.2.2.2.1 Y.1.2.2.2.1), fun _ _ => (-1 : Int32)) := by
  have e : Y.1 = X.1 := h.2.2.1.1
  have e2 : Y.2.2.2.1 = X.2.2.2.1 := h.2.2.2
  refine ⟨vGd_night h.1, vGd_night h.2.1, ⟨?_, vG_night h.2.2.1.2.1, vG_night h.2.2.1.2.2.1, ⟨fun _ _ _ _ => ⟨rfl, rfl⟩, fun _ _ _ _ => rfl⟩⟩, ?_⟩
  · show (Y.1.1, Y.1.2.1, Y.1.2.2.1, Y.1.2.2.2.1, nI 0, Y.1.2.2.2.2.2.1 + nI 1, 0, Y.1.2.2.2.2.2.2.2) = (X.1.1, X.1.2.1, X.1.2.2.1, X.1.2.2.2.1, nI 0, X.1.2.2.2.2.2.1 + nI 1, 0, X.1.2.2.2.2.2.2.2)
    rw [e]
  · show (Y.2.2.2.1.1, Y.2.2.2.1.2.1, kgot Y.1 Y.2.2.2.1 Y.1.2.2.2.1) = (X.2.2.2.1.1, X.2.2.2.1.2.1, kgot X.1 X.2.2.2.1 X.1.2.2.2.1)
    rw [e, e2]
theorem vA_st (h : vAll X Y) {q q' : kSt} (hq : vI q) (hq' : vI q') (hr : vRs q q') : vAll (q.1, q.2.1, q.2.2.1, X.2.2.2.1, q.2.2.2) (q'.1, q'.2.1, q'.2.2.1, Y.2.2.2.1, q'.2.2.2) := ⟨vGd_st h.1 hq, vGd_st h.2.1 hq', hr, h.2.2.2⟩
theorem vA_dn (h : vAll X Y) (hp : kPoss X.1) {q q' : kSt} (hq : q = kDn X.2.2.2.1.1 (vK X)) (hq' : q' = kDn Y.2.2.2.1.1 (vK Y)) : vAll (q.1, q.2.1, q.2.2.1, X.2.2.2.1, q.2.2.2) (q'.1, q'.2.1, q'.2.2.1, Y.2.2.2.1, q'.2.2.2) := by
  have e : Y.1 = X.1 := h.2.2.1.1
  have a := vI_dn X.2.2.2.1.1 h.1.1 hp
  have b := vI_dn Y.2.2.2.1.1 h.2.1.1 (by show kPoss Y.1; rw [e]; exact hp)
  have r := (vDn X.2.2.2.1.1 h.2.2.1).1
  rw [← h.2.2.2, ← hq'] at r
  rw [h.2.2.2, ← hq] at r
  rw [← hq] at a
  rw [← hq'] at b
  exact vA_st h a b r
theorem vA_on (h : vAll X Y) {q q' : kSt} (hq : q = (kOnE X.2.2.2.1.1 (vK X)).1) (hq' : q' = (kOnE Y.2.2.2.1.1 (vK Y)).1) : vAll (q.1, q.2.1, q.2.2.1, X.2.2.2.1, q.2.2.2) (q'.1, q'.2.1, q'.2.2.1, Y.2.2.2.1, q'.2.2.2) := by
  have a := vI_onE X.2.2.2.1.1 h.1.1
  have b := vI_onE Y.2.2.2.1.1 h.2.1.1
  have r := (vOnE X.2.2.2.1.1 h.2.2.1).1
  rw [← h.2.2.2, ← hq'] at r
  rw [h.2.2.2, ← hq] at r
  rw [← hq] at a
  rw [← hq'] at b
  exact vA_st h a b r
/-! the answers -/
theorem vq_cd (h : vAll X Y) : kCd Y.2.2.2.1.1 (vK Y) = kCd X.2.2.2.1.1 (vK X) := by
  rw [h.2.2.2]
  exact (vDn X.2.2.2.1.1 h.2.2.1).2
theorem vq_on (h : vAll X Y) : (kOnE Y.2.2.2.1.1 (vK Y)).2 = (kOnE X.2.2.2.1.1 (vK X)).2 := by
  rw [h.2.2.2]
  exact (vOnE X.2.2.2.1.1 h.2.2.1).2
theorem vq_best (h : vAll X Y) : kBest Y.2.2.2.1.1 Y.2.1 Y.2.2.1 9 = kBest X.2.2.2.1.1 X.2.1 X.2.2.1 9 := by
  rw [h.2.2.2]
  exact vBest X.2.2.2.1.1 h.2.2.1.2.1 h.2.2.1.2.2.1 9
theorem vq_cx (h : vAll X Y) (ro : Nat) : kCx Y.2.2.2.1.1 Y.2.1 Y.2.2.1 Y.2.2.2.2 ro = kCx X.2.2.2.1.1 X.2.1 X.2.2.1 X.2.2.2.2 ro := by
  rw [h.2.2.2]
  exact vCx X.2.2.2.1.1 h.2.2.1.2.1 h.2.2.1.2.2.1 h.2.2.1.2.2.2 ro
theorem vq_lf (h : vAll X Y) : kLf Y.2.2.2.1.1 Y.2.1 Y.2.2.1 = kLf X.2.2.2.1.1 X.2.1 X.2.2.1 := by
  rw [h.2.2.2]
  exact vLf X.2.2.2.1.1 h.2.2.1.2.1 h.2.2.1.2.2.1
theorem vq_fx (h : vAll X Y) {i : Nat} (hi : i < 4) : ((kFx X.2.2.2.1.1 X.2.1 X.2.2.1 X.2.2.2.2 (kro X.1) i = (-1 : Int32) ∧ kFx Y.2.2.2.1.1 Y.2.1 Y.2.2.1 Y.2.2.2.2 (kro Y.1) (2 * i + 1) = (-1 : Int32)) ∨ ∃ g, g < 4 ∧ kFx X.2.2.2.1.1 X.2.1 X.2.2.1 X.2.2.2.2 (kro X.1) i = nI g ∧ kFx Y.2.2.2.1.1 Y.2.1 Y.2.2.1 Y.2.2.2.2 (kro Y.1) (2 * i + 1) = nI (2 * g + 1)) ∧ kFx Y.2.2.2.1.1 Y.2.1 Y.2.2.1 Y.2.2.2.2 (kro Y.1) (2 * i) = (-1 : Int32) := by
  have e : Y.1 = X.1 := h.2.2.1.1
  rw [h.2.2.2, e]
  exact (vFx X.2.2.2.1.1 h.2.2.1.2.1 h.2.2.1.2.2.1 h.2.2.1.2.2.2 (kro X.1)).1 i hi
theorem vq_gl (h : vAll X Y) {i : Nat} (hi : i < X.2.1.2.2.2.2.2) (w : Nat) (hw : w ≤ 7) : kGL Y.2.2.2.1.1 Y.2.1 Y.2.2.2.2 (2 * i + 1) w = kGL X.2.2.2.1.1 X.2.1 X.2.2.2.2 i w := by
  have h4 : X.2.1.2.2.2.2.2 ≤ 4 := h.2.2.1.2.1.1
  rw [h.2.2.2]
  exact vGL X.2.2.2.1.1 h.2.2.1.2.1 hi (vrow h.2.2.1 h.1.1.2.2.2.2.1 (by omega)) w hw
theorem vq_go (h : vAll X Y) {i : Nat} (hi : i < X.2.2.1.2.2.2.2.2) (w : Nat) (hw : w ≤ 7) : kGO Y.2.2.2.1.1 Y.2.1 Y.2.2.1 Y.2.2.2.2 (2 * i + 1) w = kGO X.2.2.2.1.1 X.2.1 X.2.2.1 X.2.2.2.2 i w := by
  have h4 : X.2.2.1.2.2.2.2.2 ≤ 4 := h.2.2.1.2.2.1.1
  rw [h.2.2.2]
  exact vGO X.2.2.2.1.1 h.2.2.1.2.1 h.2.2.1.2.2.1 hi (vcol h.2.2.1 h.1.1.2.2.2.2.1 (by omega)) w hw
theorem vq_gl0 (h : vAll X Y) {i : Nat} (hi : i < 4) : kGL Y.2.2.2.1.1 Y.2.1 Y.2.2.2.2 (2 * i) 4 = nI 0 := by
  rw [h.2.2.2]
  exact vGL0 X.2.2.2.1.1 (d := X.2.2.2.2) h.2.2.1.2.1 hi
theorem vq_go0 (h : vAll X Y) {i : Nat} (hi : i < 4) : kGO Y.2.2.2.1.1 Y.2.1 Y.2.2.1 Y.2.2.2.2 (2 * i) 4 = nI 0 := by
  rw [h.2.2.2]
  exact vGO0 X.2.2.2.1.1 (d := X.2.2.2.2) h.2.2.1.2.1 h.2.2.1.2.2.1 hi
theorem vq_num (h : vAll X Y) {w : Nat} (h2 : 2 ≤ w) (h13 : w ≤ 13) : knum Y.1 Y.2.1 Y.2.2.1 Y.2.2.2.1 Y.2.2.2.2 w = knum X.1 X.2.1 X.2.2.1 X.2.2.2.1 X.2.2.2.2 w := by
  have e : Y.1 = X.1 := h.2.2.1.1
  have c := vCp h.2.2.1 h.1.1.2.2.2.2.1
  have c : kns (fun l => kcnt (Y.2.2.2.2 l) 8) 8 = kns (fun l => kcnt (X.2.2.2.2 l) 8) 8 := c
  rw [h.2.2.2, e]
  rcases (show w = 2 ∨ w = 3 ∨ w = 4 ∨ w = 5 ∨ w = 6 ∨ w = 7 ∨ w = 8 ∨ w = 9 ∨ w = 10 ∨ w = 11 ∨ w = 12 ∨ w = 13 by omega) with rfl | rfl | rfl | rfl | rfl | rfl | rfl | rfl | rfl | rfl | rfl | rfl
  · rfl
  · rfl
  · rfl
  · rfl
  · rfl
  · rfl
  · show nI (kns (fun l => kcnt (Y.2.2.2.2 l) 8) 8) = nI (kns (fun l => kcnt (X.2.2.2.2 l) 8) 8)
    rw [c]
  · rfl
  · rfl
  · rfl
  · rfl
  · rfl
theorem vq_dd (h : vAll X Y) {k f : Nat} (hk : k < 4) (hf : f < 4) : Y.2.2.2.2 (2 * k + 1) (2 * f + 1) = X.2.2.2.2 k f := (h.2.2.1.2.2.2.1 k f hk hf).1
end VG
/-! the sums that isSound makes -/
theorem kns_tr {f : Nat → Nat} {n : Nat} : ∀ {k : Nat}, (∀ i, n ≤ i → i < n + k → f i = 0) → kns f (n + k) = kns f n
  | 0, _ => rfl
  | k + 1, h => by
    have ih := kns_tr (f := f) (n := n) (k := k) (fun i h1 h2 => h i h1 (by omega))
    have b : kns f (n + (k + 1)) = kns f (n + k) + f (n + k) := rfl
    rw [b, ih, h (n + k) (by omega) (by omega)]
    rfl
theorem kns_t8 {f : Nat → Nat} {n : Nat} (hn : n ≤ 8) (h : ∀ i, n ≤ i → i < 8 → f i = 0) : kns f n = kns f 8 := by
  have e := kns_tr (f := f) (n := n) (k := 8 - n) (fun i h1 h2 => h i h1 (by omega))
  rw [show n + (8 - n) = 8 by omega] at e
  exact e.symm
theorem kns_sw (a : Nat → Nat → Nat) (m : Nat) : ∀ n, kns (fun i => kns (a i) m) n = kns (fun j => kns (fun i => a i j) n) m
  | 0 => (kns_0 m (fun _ _ => rfl)).symm
  | n + 1 => by
    have ih := kns_sw a m n
    have e : kns (fun j => kns (fun i => a i j) (n + 1)) m = kns (fun j => kns (fun i => a i j) n) m + kns (a n) m := kns_add (fun j => kns (fun i => a i j) n) (a n) m
    rw [e, ← ih]
    rfl
section VS
variable {X : rS}
theorem vD_0 (h : vGd X) {l f : Nat} (hl : l < 8) (hf : f < 8) (q : X.2.1.2.2.2.2.2 ≤ l ∨ X.2.2.1.2.2.2.2.2 ≤ f) : X.2.2.2.2 l f = (-1 : Int32) := by
  by_cases e : X.2.2.2.2 l f = (-1 : Int32)
  · exact e
  · obtain ⟨a, b, -⟩ := h.1.2.2.2.2.1 l f hl hf e
    have a : l < X.2.1.2.2.2.2.2 := a
    have b : f < X.2.2.1.2.2.2.2.2 := b
    omega
/-- who has danced: not below 0 -/
theorem vD_c (h : vGd X) {l f : Nat} (hl : l < 8) (hf : f < 8) : X.2.2.2.2 l f = (-1 : Int32) ∨ ¬ X.2.2.2.2 l f < 0 := by
  by_cases e : X.2.2.2.2 l f = (-1 : Int32)
  · exact Or.inl e
  · obtain ⟨-, -, k, hk, e2⟩ := h.1.2.2.2.2.1 l f hl hf e
    have e2 : X.2.2.2.2 l f = nI k := e2
    refine Or.inr ?_
    rw [e2]
    exact fun q => absurd ((nI_ltI (a := k) (b := 0) (by omega) (by omega)).mp q) (by omega)
theorem vs_l (h : vGd X) : kns (fun l => kcnt (X.2.2.2.2 l) 8) X.2.1.2.2.2.2.2 = kCp X.2.2.2.2 :=
  kns_t8 h.1.2.1.1.1 (fun i h1 h8 => vkcnt0 (fun f hf => vD_0 h h8 hf (Or.inl h1)))
theorem vkc8 (h : vGd X) {l : Nat} (hl : l < 8) : kcnt (X.2.2.2.2 l) X.2.2.1.2.2.2.2.2 = kcnt (X.2.2.2.2 l) 8 := by
  rw [kcnt_ns, kcnt_ns]
  exact kns_t8 h.1.2.2.1.1.1 (fun i h1 h8 => if_pos (vD_0 h hl h8 (Or.inr h1)))
theorem vs_p (h : vGd X) : kns (fun l => kcnt (X.2.2.2.2 l) X.2.2.1.2.2.2.2.2) X.2.1.2.2.2.2.2 = kCp X.2.2.2.2 := by
  have h8 : X.2.1.2.2.2.2.2 ≤ 8 := h.1.2.1.1.1
  rw [← vs_l h]
  exact kns_eq2 (fun i hi => vkc8 h (by omega))
theorem vs_f (h : vGd X) : kns (fun f => kcnt (fun q => X.2.2.2.2 q f) 8) X.2.2.1.2.2.2.2.2 = kCp X.2.2.2.2 := by
  have e1 : kns (fun f => kcnt (fun q => X.2.2.2.2 q f) 8) X.2.2.1.2.2.2.2.2 = kns (fun f => kcnt (fun q => X.2.2.2.2 q f) 8) 8 := kns_t8 h.1.2.2.1.1.1 (fun i h1 h8 => vkcnt0 (fun q hq => vD_0 h hq h8 (Or.inr h1)))
  rw [e1]
  have e2 := kns_sw (fun l f => if X.2.2.2.2 l f = (-1 : Int32) then 0 else 1) 8 8
  have e3 : kCp X.2.2.2.2 = kns (fun i => kns ((fun l f => if X.2.2.2.2 l f = (-1 : Int32) then 0 else 1) i) 8) 8 := kns_eq2 (fun i _ => kcnt_ns (X.2.2.2.2 i) 8)
  rw [e3, e2]
  exact kns_eq2 (fun i _ => kcnt_ns (fun q => X.2.2.2.2 q i) 8)
theorem kns_mono (f : Nat → Nat) {i n : Nat} (h : i ≤ n) : kns f i ≤ kns f n := by
  induction n with
  | zero => rw [Nat.le_zero.mp h]; exact Nat.le_refl _
  | succ n ih =>
    rcases Nat.lt_or_ge n i with q | q
    · rw [show i = n + 1 by omega]; exact Nat.le_refl _
    · exact Nat.le_trans (ih q) (Nat.le_add_right _ _)
theorem kCp_64 (d : Nat → Nat → Int32) : kCp d ≤ 64 := kns_le (fun l => kcnt (d l) 8) 8 (fun i => kcnt_le (d i) 8) 8
end VS
theorem vini : vAll ((3, 60, 0, 2, 0, 0, 0, 0), kG00, kG00, (fun _ => nI 1, fun _ => nI 1, k0), fun _ _ => (-1 : Int32)) ((3, 60, 0, 2, 0, 0, 0, 0), kG00, kG00, (fun _ => nI 1, fun _ => nI 1, k0), fun _ _ => (-1 : Int32)) := by
  have g : vGd ((3, 60, 0, 2, 0, 0, 0, 0), kG00, kG00, (fun _ => nI 1, fun _ => nI 1, k0), fun _ _ => (-1 : Int32)) := by
    have hg : kGdG kG00 := ⟨⟨Nat.zero_le _, fun i hi => absurd hi (Nat.not_lt_zero i)⟩, fun _ _ => Or.inl rfl, fun _ _ => Or.inl rfl⟩
    refine ⟨⟨⟨by decide, by decide, by decide⟩, hg, hg, ⟨⟨by decide, by decide⟩, by decide⟩, fun _ _ _ _ q => absurd rfl q, ?_⟩, fun _ _ => ⟨1, Nat.le_refl 1, by decide, rfl⟩⟩
    have e : kCp (fun _ _ => (-1 : Int32)) = 0 := kns_0 8 (fun i hi => vkcnt0 (fun f hf => rfl))
    show (0 : Int32) = nI (2 * kCp (fun _ _ => (-1 : Int32)))
    rw [e]
    rfl
  have hv : vG kG00 kG00 := ⟨Nat.zero_le _, rfl, fun k hk => absurd hk (Nat.not_lt_zero k)⟩
  exact ⟨g, g, ⟨rfl, hv, hv, fun _ _ _ _ => ⟨rfl, rfl⟩, fun _ _ _ _ => rfl⟩, rfl⟩
