theorem zz69 : True := trivial
