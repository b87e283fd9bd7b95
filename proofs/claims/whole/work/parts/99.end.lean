/-! the end of the parts as they lie -/
theorem zz_end : True := True.intro
