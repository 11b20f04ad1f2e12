def zz_end : Nat := 0
