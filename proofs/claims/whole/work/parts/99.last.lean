/-- the last part, small -/
theorem zz_last : True := trivial
