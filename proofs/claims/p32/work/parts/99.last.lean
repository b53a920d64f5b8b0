theorem zz_look : True := trivial
