/-! the last part -/
theorem end0 : 1 = 1 := rfl
