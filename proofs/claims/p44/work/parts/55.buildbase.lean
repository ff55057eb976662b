theorem rp_nil {ws : va_W} : Rp ws [] [] ws := ⟨ws, List.Perm.refl _, List.Perm.refl _, rfl⟩
abbrev rm_L_build : Room := { frames := 8, cells := 2000, slots := 20000, locals := 134 }

