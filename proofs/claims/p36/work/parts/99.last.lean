theorem last_of_all : True := trivial
