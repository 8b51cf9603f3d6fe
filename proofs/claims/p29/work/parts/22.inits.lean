/-! making objects: the class of a new array is the one known -/
theorem kcy {D : va_G} {cl : List vw_C} {tys : List (ClassId × FieldType)} {s : State} {cA c0 : ClassId} {ty : FieldType} (hK : va_K D cl (tys ++ [(cA, ty)]) s) (t0 : Nat) (h : tys[t0]? = some (c0, ty)) : cA = c0 := by
  have h1 := (hK.2 tys.length (cA, ty) (by simp)).2
  have hlt : t0 < tys.length := (List.getElem?_eq_some_iff.mp h).1
  have h2 := (hK.2 t0 (c0, ty) (by rw [List.getElem?_append_left hlt]; exact h)).2
  cases ty with
  | object C =>
    obtain ⟨_, _, _, _, _, h4⟩ := h1
    obtain ⟨_, _, _, _, _, h5⟩ := h2
    exact Option.some.inj (h4.symm.trans h5)
  | _ => exact Option.some.inj (h1.symm.trans h2)
abbrev k0 : Nat → Int32 := fun _ => 0
abbrev kG00 : rG := (k0, k0, k0, k0, k0, 0)
