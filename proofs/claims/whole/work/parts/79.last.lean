/-! the last part -/
theorem tr_last : True := trivial
