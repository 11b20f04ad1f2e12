def lB (s : Int) : Int := if s < 16 then 0 else if s < 20 then 1 else if s < 22 then 2 else if s < 24 then 3 else if s = 24 then 4 else s - 19
def mB (s : Int) : Int := if s < 32 then 0 else if s < 36 then 1 else if s < 38 then 2 else if s < 40 then 3 else if s < 42 then 4 else if s = 42 then 5 else s - 36
