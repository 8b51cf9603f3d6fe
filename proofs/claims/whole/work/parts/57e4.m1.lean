/-- a book of -1 alone: nobody has danced tonight -/
theorem kEn_m1 {C : rC} {L F : rG} {Ar : rA} (j : Nat) : kEq (C, L, F, Ar, fun _ _ => (-1 : Int32)) (fun _ => 0) (fun _ => 0) 0 j = kEn (C, L, F, Ar, fun _ _ => (-1 : Int32)) j := by
  have h : kcnt (fun _ => (-1 : Int32)) 8 = 0 := by decide
  show _ = kEq (C, L, F, Ar, fun _ _ => (-1 : Int32)) (fun _ => kcnt (fun _ => (-1 : Int32)) 8) (fun _ => kcnt (fun _ => (-1 : Int32)) 8) (kns (fun _ => kcnt (fun _ => (-1 : Int32)) 8) 8) j
  rw [h]
  rfl
