theorem r_wide : True := by
  have h := @Jvm.Free.Multi.outerC
  trivial
