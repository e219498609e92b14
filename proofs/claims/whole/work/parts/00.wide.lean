/-! names of the library's rest are used later: said here, so that the whole library is read from the first part on -/
theorem gw_wide : True := by
  have h := @Jvm.Stand.multianewarray2F
  trivial
