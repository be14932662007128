/-! a name of the whole library, so that the first round is read over it from its first part on -/
theorem z_wide : True := by
  have _ := @Stand.multianewarray2F
  trivial
