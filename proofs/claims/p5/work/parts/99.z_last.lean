theorem zz_last9 : True := trivial
