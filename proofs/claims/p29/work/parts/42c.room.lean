abbrev rm_L_isStep : Room := { frames := 15, cells := 0, slots := 0, locals := 368 }
