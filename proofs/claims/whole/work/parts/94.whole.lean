/-! the whole (under way) -/
theorem lw_zz : (0 : Nat) = 0 := rfl
