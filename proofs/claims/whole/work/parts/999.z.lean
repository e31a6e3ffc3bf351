theorem tail_probe : True := trivial
