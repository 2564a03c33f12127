theorem zz90 : True := trivial
