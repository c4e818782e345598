theorem try_it : True := trivial
