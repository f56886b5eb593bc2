theorem nk_mna_there : True := by
  have _h := @Stand.multianewarray2F
  trivial
