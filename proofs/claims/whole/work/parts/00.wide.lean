/-! names a row of the whole library, so that the first round on a new machine reads it from the first part on -/
theorem hc_wide : True := by
  have _h := @Jvm.Stand.multianewarray2F
  trivial
