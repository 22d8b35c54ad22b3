theorem ab_end : True := trivial
