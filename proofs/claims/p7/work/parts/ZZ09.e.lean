theorem zz_end_t : True := trivial
