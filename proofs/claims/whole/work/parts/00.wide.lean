/-- a row of the library that part 74 stands on, named first -/
theorem k_wide : True := by
  have := @Jvm.Stand.multianewarray2F
  trivial
