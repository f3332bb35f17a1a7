/-! the law's loop -/
theorem lw_zz : (0 : Nat) = 0 := rfl
