theorem nop99 : True := trivial
