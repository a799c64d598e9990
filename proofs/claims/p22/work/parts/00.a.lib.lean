theorem wd_lib : True := by
  have h := @Jvm.Free.Multi.fill_facts
  trivial
