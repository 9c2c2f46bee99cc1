theorem gSafe_o : True := trivial
