theorem try_it : True := by
  have := @op_0
  have := @op_25
  have := @op_26
  have := @op_27
  have := @op_33
  trivial
