/-- a name of the rest of the library, first of all: the claim is read over the whole library from its first part on -/
theorem w0_wide : True := by
  have _ := @Stand.thenCaughtThrough
  trivial
