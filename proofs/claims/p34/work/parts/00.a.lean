/-! read over the whole library from the first part on -/
theorem wd_0 : True := by
  have := @Jvm.Free.Multi.fill_inner
  trivial
