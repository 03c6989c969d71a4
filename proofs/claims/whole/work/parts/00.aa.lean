theorem aa_t : True := by
  have h := @FP.Core.ne_nan
  trivial
