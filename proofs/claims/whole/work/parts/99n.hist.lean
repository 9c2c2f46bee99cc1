theorem gSafe_n : True := trivial
