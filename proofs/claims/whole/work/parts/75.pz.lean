theorem zz_scratch : True := by
  have := @codeSync_his
  trivial
