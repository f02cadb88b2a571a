theorem zwide : True := by
  have _ := @Jvm.Stand.thenCaughtThrough
  trivial
