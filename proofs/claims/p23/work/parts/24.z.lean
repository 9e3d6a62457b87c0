theorem z_z : True := trivial
