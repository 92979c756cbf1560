theorem wd_0 : True := by
  have _q := @Jvm.Stand.thenCaughtThrough
  trivial
