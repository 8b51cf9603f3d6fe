/-! the hall's own cells, and the saved states -/
abbrev rS : Type := rC × rG × rG × rA × (Nat → Nat → Int32)
abbrev rH : Type := (Nat → Nat) × (Nat → Nat) × (Nat → Nat) × (Nat → Nat) × Nat
/-- the hall: its state, its trial, its floor, its text; how many are saved -/
abbrev jO (h : Nat → Nat) (c : rH) : va_W := [(h 0, .inr (4, [.ref (c.1 0), .ref (c.2.1 0), .ref (c.2.2.1 0), .ref (c.2.2.2.1 0), .ref (h 1), .int (nI c.2.2.2.2)]))]
abbrev jS (cy : Nat → ClassId) (h : Nat → Nat) (f : Nat → Option Nat) : va_W := [(h 1, .inl (cy 3, 4, .inr (.inr (.inr (.inr f)))))]
abbrev svW (cy : Nat → ClassId) (sv : Nat → Nat → Nat) (V : Nat → rS) : va_W := bkF [sO (sv 0) (V 0).1, gW cy (sv 0) 1 (V 0).2.1, gW cy (sv 0) 7 (V 0).2.2.1, sA cy (sv 0) (V 0).2.2.2.1, rW cy (sv 0) (V 0).2.2.2.2,
  sO (sv 1) (V 1).1, gW cy (sv 1) 1 (V 1).2.1, gW cy (sv 1) 7 (V 1).2.2.1, sA cy (sv 1) (V 1).2.2.2.1, rW cy (sv 1) (V 1).2.2.2.2,
  sO (sv 2) (V 2).1, gW cy (sv 2) 1 (V 2).2.1, gW cy (sv 2) 7 (V 2).2.2.1, sA cy (sv 2) (V 2).2.2.2.1, rW cy (sv 2) (V 2).2.2.2.2,
  sO (sv 3) (V 3).1, gW cy (sv 3) 1 (V 3).2.1, gW cy (sv 3) 7 (V 3).2.2.1, sA cy (sv 3) (V 3).2.2.2.1, rW cy (sv 3) (V 3).2.2.2.2]
/-- where the saved states lie when one more is saved: the oldest one's place goes to the end when all are taken -/
def kRot (sc : Nat) (sv : Nat → Nat → Nat) : Nat → Nat → Nat := match sc with
  | 4 => fun i => match i with
    | 0 => sv 1
    | 1 => sv 2
    | 2 => sv 3
    | 3 => sv 0
    | n => sv n
  | _ => sv
def kSav (sc : Nat) (V : Nat → rS) (x : rS) : Nat → rS := match sc with
  | 0 => fun i => match i with
    | 0 => x
    | n => V n
  | 1 => fun i => match i with
    | 1 => x
    | n => V n
  | 2 => fun i => match i with
    | 2 => x
    | n => V n
  | 3 => fun i => match i with
    | 3 => x
    | n => V n
  | _ => fun i => match i with
    | 0 => V 1
    | 1 => V 2
    | 2 => V 3
    | 3 => x
    | n => V n
def kSc (sc : Nat) : Nat := min (sc + 1) 4
theorem k_ofFnO {n : Nat} {f g : Nat → Option Nat} (h : ∀ j, j < n → f j = g j) (c : ClassId) : vp_cell c (n, .inr (.inr (.inr (.inr f)))) = vp_cell c (n, .inr (.inr (.inr (.inr g)))) := by
  show arrV c n (fun j => va_rf (f j)) = arrV c n (fun j => va_rf (g j))
  unfold arrV
  congr 2
  funext j
  show va_rf (f j.val) = va_rf (g j.val)
  rw [h j.val j.isLt]
theorem kP_cellO {D : va_G} {cl : List vw_C} {ws : va_W} {H : Heap} (hP : va_P D cl ws H) (k : Nat) {a n : Nat} {c : ClassId} {f g : Nat → Option Nat} (hk : ws[k]? = some (a, .inl (c, n, .inr (.inr (.inr (.inr f)))))) (h : ∀ j, j < n → f j = g j) : va_P D cl (ws.set k (a, .inl (c, n, .inr (.inr (.inr (.inr g)))))) H := by
  intro i q hq
  rw [List.getElem?_set] at hq
  by_cases e : k = i
  · subst e
    rw [if_pos rfl] at hq
    obtain ⟨hl, -⟩ := List.getElem?_eq_some_iff.mp hk
    rw [if_pos hl] at hq
    cases hq
    show H[a]? = some (vp_cell c (n, .inr (.inr (.inr (.inr g)))))
    rw [← k_ofFnO h c]
    exact hP k _ hk
  · rw [if_neg e] at hq
    exact hP i q hq
theorem k4 {i : Nat} (h : i < 4) : i = 0 ∨ i = 1 ∨ i = 2 ∨ i = 3 := by omega
