/-! this claim's rows on exceptions stand over the whole library: named here first, so that a new machine reads it at once -/
theorem wd_0 : True := by
  have _h := @Jvm.Stand.thenCaughtThrough
  trivial
