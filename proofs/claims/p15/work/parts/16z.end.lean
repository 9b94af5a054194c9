theorem zz_z : True := trivial
