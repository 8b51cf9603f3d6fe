/-! the law's small methods: their numbers -/
def kUp (v : Int32) (n : Nat) : Nat := v.toBitVec.toNat % 2 ^ 31 % n
theorem kUp_ok (v : Int32) {n : Nat} (h0 : 0 < n) (hn : n < 2 ^ 31) : (v &&& 2147483647) - (v &&& 2147483647) / nI n * nI n = nI (kUp v n) := by
  rw [pk_and v 31 (by decide), pk_rem (Nat.mod_lt _ (by decide)) h0 hn]
  rfl
theorem kUp_lt (v : Int32) {n : Nat} (h0 : 0 < n) : kUp v n < n := Nat.mod_lt _ h0
def kOth (v : Int32) : Int32 := if v < 0 then v else nI 2 * v + nI 1
theorem kOth_n {k : Nat} (h : k < 1000) : kOth (nI k) = nI (2 * k + 1) := by
  have h0 : ¬ nI k < 0 := fun q => absurd ((nI_ltI (a := k) (b := 0) (by omega) (by omega)).mp q) (by omega)
  unfold kOth
  rw [if_neg h0, pk_mul, nI_add]
theorem kOth_m : kOth (-1 : Int32) = (-1 : Int32) := by decide
/-- what is saved -/
def vBR (x : rS) : Prop := kBo x.2.1.2.2.1 ∧ kBo x.2.1.2.2.2.1 ∧ kBo x.2.2.1.2.2.1 ∧ kBo x.2.2.1.2.2.2.1
def vSv (sc : Nat) (V : Nat → rS) : Prop := sc ≤ 4 ∧ ∀ i, i < 4 → vBR (V i)
theorem vGd_br {X : rS} (h : vGd X) : vBR X := ⟨h.1.2.1.2.1, h.1.2.1.2.2, h.1.2.2.1.2.1, h.1.2.2.1.2.2⟩
theorem vSv_s {sc : Nat} {V : Nat → rS} {X : rS} (h : vSv sc V) (hX : vBR X) : vSv (kSc sc) (kSav sc V X) := by
  obtain ⟨h4, hV⟩ := h
  refine ⟨Nat.min_le_right _ _, fun i hi => ?_⟩
  rcases (show sc = 0 ∨ sc = 1 ∨ sc = 2 ∨ sc = 3 ∨ sc = 4 by omega) with rfl | rfl | rfl | rfl | rfl <;> rcases k4 hi with rfl | rfl | rfl | rfl <;> first | exact hX | exact hV 0 (by decide) | exact hV 1 (by decide) | exact hV 2 (by decide) | exact hV 3 (by decide)
theorem kSc_4 (sc : Nat) : kSc sc ≤ 4 := Nat.min_le_right _ _
theorem kSc_1 (sc : Nat) : 1 ≤ kSc sc := by unfold kSc; omega
theorem kSav_l {sc : Nat} (h : sc ≤ 4) (V : Nat → rS) (X : rS) : kSav sc V X (kSc sc - 1) = X := by
  rcases (show sc = 0 ∨ sc = 1 ∨ sc = 2 ∨ sc = 3 ∨ sc = 4 by omega) with rfl | rfl | rfl | rfl | rfl <;> rfl
/-- what a cell of the script is, beyond its end too -/
def vcell (L : Nat) (xs : Nat → Int32) (k : Nat) : Int32 := if k < L then xs k else (1116352408 : Int32) * (nI k + nI 601)
def kPreC (D : va_G) (tys : List (ClassId × FieldType)) (b L : Nat) (xs : Nat → Int32) (sz : Nat) : State → Prop := fun U => kPre D tys [] sz U ∧ va_X b L xs U U.heap ∧ b < sz
theorem kPreC_blind {av : List Value} {D : va_G} {tys : List (ClassId × FieldType)} {b L : Nat} {xs : Nat → Int32} {sz : Nat} : FrameBlind (va_Pc av (kPreC D tys b L xs sz)) := fun a U g mk q => by
  obtain ⟨q0, q1, qX, qb⟩ := q
  obtain ⟨-, p1⟩ := kPre_blind (av := av) (D := D) (tys := tys) (Bs := []) (sz := sz) a U g mk ⟨q0, q1⟩
  exact ⟨q0, p1, va_X.moved (u := U) (U := U.calling g mk a) (Vm.Alike.refl U.vm) qX, qb⟩
theorem kPreC_S {s : State} {H : Heap} {locs : List Loc} {A : Nat → Prop} {D : va_G} {tys : List (ClassId × FieldType)} {Bs : List va_W} {As : List Value} {b L : Nat} {xs : Nat → Int32} (hK : va_K D vwCl tys s) (hN : kN s) (hP : va_P D vwCl (bkF Bs) H) (hD : va_D A (bkF Bs)) (hS : va_S A s.heap H locs) (hX : va_X b L xs s s.heap) (hbl : b < s.heap.size) (hbA : ¬ A b) : PreS s H (va_Pc As (kPreC D tys b L xs H.size)) As :=
  ⟨kPreC_blind, fun U hU hW => by
    obtain ⟨q0, q1⟩ := (kPre_S (As := As) (Cs := []) hK hN hP hD [] (by decide) rfl).2 U hU hW
    refine ⟨q0, q1, ?_, Nat.lt_of_lt_of_le hbl hS.1⟩
    rw [hU]
    exact va_X.moved hW.alike (hX.kept (hS.2.1 b hbl hbA))⟩
abbrev rm_L_cell : Room := { frames := 0, cells := 0, slots := 0, locals := 0 }
theorem c_L_cell (l : Launch) (D : va_G) (cy : Nat → ClassId) (b L : Nat) (xs : Nat → Int32) (k : Nat) (hL : L ≤ 260) (hk : k ≤ 1000) (sz : Nat) : Met l yL_cell wsL_cell rm_L_cell (va_Pc [.ref b, .int (nI k)] (kPreC D (kT cy) b L xs sz)) (va_Qi (fun r_ (_ : Unit) => r_ = vcell L xs k) (kFr D (kT cy) [] sz (fun _ : Unit => [])) (va_A (bkF []) sz)) 0 0 (va_A (bkF []) sz) := by
  refine Met.ofW (cc := cL_cell) (maxL := 2) (ret := some .int) (by decide) rfl ?_
  intro p e s m args below meth c s₁ B hml hv
  obtain ⟨rfl, ⟨hsz, hP, hK, hD0, hN⟩, hX, hbl⟩ := hv
  have hl := lv_entry ([.ref b, .int (nI k)]) (n := 2) (Nat.le_of_ble_eq_true rfl)
  rw [lg_entry_eq]
  generalize (lg_sl ([.ref b, .int (nI k)]) ++ List.replicate (2 - (lg_sl ([.ref b, .int (nI k)])).length) Slot.unset).toArray = ls at hl ⊢
  subst hsz
  have hl : lv_has ls 2 [(0, .ref b), (1, .int (nI k))] := hl
  have hx := B.exec
  have hb : c.code = cL_cell := B.bytes
  have hr := B.returns
  have hlocks := B.notSynchronized
  have hts := atoms_spec (ws := wsL_cell) B.pre
  have hown := findClass_of_methodNamed B.named
  have hD := hD0.self (sz := s.heap.size)
  have hS : va_S (va_A (bkF []) s.heap.size) s.heap s.heap [] := va_S.rf
  have hbA : ¬ va_A (bkF []) s.heap.size b := by
    rintro (⟨k, e, h⟩ | h)
    · cases h
    · omega
  refine lv_iload_n hx hb dL_cell_0 rfl (lv_at hl 1 rfl) ?_
  refine lv_aload_n hx hb dL_cell_1 rfl (lv_at hl 0 rfl) ?_
  refine va_slen hx hb hX hbl hbA hS dL_cell_2 ?_
  refine lv_icmp_ge (tgt := 12) hx hb dL_cell_3 (by decide) (fun hc => ?_) (fun hc => ?_)
  · have hc : L ≤ k := (nI_leI (a := L) (b := k) (by omega) (by omega)).mp hc
    refine lv_ldc hx hb hown (hts (.constant RL 7 (1116352408)) (by decide +kernel)) dL_cell_12 ?_
    refine lv_iload_n hx hb dL_cell_14 rfl (lv_at hl 1 rfl) ?_
    refine lv_sipush (v := nI 601) hx hb dL_cell_15 (by decide) ?_
    refine lv_iadd hx hb dL_cell_18 ?_
    refine lv_imul hx hb dL_cell_19 ?_
    exact kr_i (post := fun r_ (_ : Unit) => r_ = vcell L xs k) (Bs := fun _ : Unit => []) hx hb hr hlocks rfl () hP hK hD hS (by unfold vcell; rw [if_neg (by omega)]) dL_cell_20 rfl
  · have hc : k < L := Nat.not_le.mp (fun q => hc ((nI_leI (a := L) (b := k) (by omega) (by omega)).mpr q))
    refine lv_aload_n hx hb dL_cell_6 rfl (lv_at hl 0 rfl) ?_
    refine lv_iload_n hx hb dL_cell_7 rfl (lv_at hl 1 rfl) ?_
    refine va_sld hx hb hX hbl hbA hS (vp_in_nI (n := k) (N := L) hc (by omega)) dL_cell_8 ?_
    refine kv_i (y := xs k) (by rw [nI_clamp (n := k) (by omega)]) ?_
    refine lv_goto (tgt := 20) hx hb dL_cell_9 (by decide) ?_
    exact kr_i (post := fun r_ (_ : Unit) => r_ = vcell L xs k) (Bs := fun _ : Unit => []) hx hb hr hlocks rfl () hP hK hD hS (by unfold vcell; rw [if_pos hc]) dL_cell_20 rfl
/-! isSound's numbers -/
def vCP (X : rS) : Nat := kCp X.2.2.2.2
def vDl (X : rS) (i : Nat) : Nat := kns (fun l => kcnt (X.2.2.2.2 l) 8) i
def vPr (X : rS) (i : Nat) : Nat := kns (fun l => kcnt (X.2.2.2.2 l) X.2.2.1.2.2.2.2.2) i
def vPi (X : rS) (i f : Nat) : Nat := vPr X i + kcnt (X.2.2.2.2 i) f
def vDf (X : rS) (f : Nat) : Nat := vCP X - kns (fun f => kcnt (fun q => X.2.2.2.2 q f) 8) f
section VZ
variable {X Y : rS}
theorem vCP_64 (X : rS) : vCP X ≤ 64 := kCp_64 _
theorem vDl_n (h : vGd X) : vDl X X.2.1.2.2.2.2.2 = vCP X := vs_l h
theorem vPr_n (h : vGd X) : vPr X X.2.1.2.2.2.2.2 = vCP X := vs_p h
theorem vDf_0 : vDf X 0 = vCP X := rfl
theorem vDf_n (h : vGd X) : vDf X X.2.2.1.2.2.2.2.2 = 0 := by
  unfold vDf
  rw [vs_f h]
  exact Nat.sub_self _
theorem vDf_le (X : rS) (j : Nat) : vDf X j ≤ 64 := Nat.le_trans (Nat.sub_le _ _) (vCP_64 X)
theorem vDf_s (h : vGd X) {j : Nat} (hj : j < X.2.2.1.2.2.2.2.2) : nI (vDf X j) - nI (kcnt (fun q => X.2.2.2.2 q j) 8) = nI (vDf X (j + 1)) := by
  have e := vs_f h
  have m := kns_mono (fun f => kcnt (fun q => X.2.2.2.2 q f) 8) (show j + 1 ≤ X.2.2.1.2.2.2.2.2 from hj)
  have b : kns (fun f => kcnt (fun q => X.2.2.2.2 q f) 8) (j + 1) = kns (fun f => kcnt (fun q => X.2.2.2.2 q f) 8) j + kcnt (fun q => X.2.2.2.2 q j) 8 := rfl
  have e2 : vCP X = kns (fun f => kcnt (fun q => X.2.2.2.2 q f) 8) X.2.2.1.2.2.2.2.2 := e.symm
  unfold vDf
  generalize kns (fun f => kcnt (fun q => X.2.2.2.2 q f) 8) X.2.2.1.2.2.2.2.2 = S at e2 m
  generalize kns (fun f => kcnt (fun q => X.2.2.2.2 q f) 8) (j + 1) = S1 at b m ⊢
  generalize kns (fun f => kcnt (fun q => X.2.2.2.2 q f) 8) j = S0 at b ⊢
  generalize kcnt (fun q => X.2.2.2.2 q j) 8 = k9 at b ⊢
  generalize vCP X = cp at e2 ⊢
  rw [pk_sub (by omega)]
  congr 1
  omega
theorem vPi_e {i f : Nat} (h : X.2.2.2.2 i f = (-1 : Int32)) : vPi X i (f + 1) = vPi X i f + 0 := by
  unfold vPi
  rw [kcnt_e h]
  rfl
theorem vPi_y {i f : Nat} (h : ¬ X.2.2.2.2 i f = (-1 : Int32)) : vPi X i (f + 1) = vPi X i f + 1 := by
  unfold vPi
  rw [kcnt_n h]
  rfl
theorem kCx_en (p : Nat → Int32) (L F : rG) (d : Nat → Nat → Int32) (ro : Nat) : kCx p L F d ro ≤ ro := kMC_en _ _ _ _
theorem vq_fxo (h : vAll X Y) {k : Nat} (hk : k < 4) : kOth (kFx X.2.2.2.1.1 X.2.1 X.2.2.1 X.2.2.2.2 (kro X.1) k) = kFx Y.2.2.2.1.1 Y.2.1 Y.2.2.1 Y.2.2.2.2 (kro Y.1) (2 * k + 1) := by
  rcases (vq_fx h hk).1 with ⟨a, b⟩ | ⟨g, hg, a, b⟩
  · rw [a, b]; exact kOth_m
  · rw [a, b]; exact kOth_n (by omega)
end VZ
/-! isStep's numbers -/
theorem vby {k : Nat} (h : k < 7) : ¬ nI k - nI 3 < (-99) ∧ ¬ nI 99 < nI k - nI 3 := by
  have h9 : ∀ k, k < 7 → ¬ nI k - nI 3 < (-99 : Int32) ∧ ¬ nI 99 < nI k - nI 3 := by decide +kernel
  exact h9 k h
theorem vlt100 {v : Int32} (h : ¬ nI 100 ≤ v) : ¬ nI 99 < v := fun q => h (by
  have e1 : (nI 99).toInt = (99 : Int) := nI_toInt (by omega)
  have e2 : (nI 100).toInt = (100 : Int) := nI_toInt (by omega)
  rw [Int32.lt_iff_toInt_lt, e1] at q
  rw [Int32.le_iff_toInt_le, e2]
  omega)
theorem vA_tkL2 {X Y : rS} (h : vAll X Y) {i : Nat} {v w : Int32} (e : w = v) : vAll (X.1, (upd X.2.1.1 i v, X.2.1.2), X.2.2) (Y.1, (upd Y.2.1.1 (2 * i + 1) w, Y.2.1.2), Y.2.2) := by
  subst e
  exact vA_tkL h
theorem vA_tkF2 {X Y : rS} (h : vAll X Y) {i : Nat} {v w : Int32} (e : w = v) : vAll (X.1, X.2.1, (upd X.2.2.1.1 i v, X.2.2.1.2), X.2.2.2) (Y.1, Y.2.1, (upd Y.2.2.1.1 (2 * i + 1) w, Y.2.2.1.2), Y.2.2.2) := by
  subst e
  exact vA_tkF h
