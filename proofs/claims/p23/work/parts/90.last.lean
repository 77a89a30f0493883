theorem p23_last : True := trivial
