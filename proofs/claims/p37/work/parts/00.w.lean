theorem w00 : True := by
  have h := @Jvm.Free.Multi.fill_facts
  trivial
