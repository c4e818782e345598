theorem try_it : True := by
  have := @c_M_init
  have := @c_M_read
  trivial
