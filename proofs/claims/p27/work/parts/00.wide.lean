/-- a name of the whole library, ahead of all: the round is read over the whole of it at once -/
theorem wd_0 : True := by
  have _q := @Jvm.Free.Multi.fill_facts
  trivial
