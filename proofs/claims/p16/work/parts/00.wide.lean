/-- a name of the rest of the library: rounds are read over the whole of it from the first part on -/
theorem aa_wide : True := by
  have _ := @Bundle.chainSX
  trivial
