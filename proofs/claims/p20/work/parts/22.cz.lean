theorem mm_zz : True := trivial
