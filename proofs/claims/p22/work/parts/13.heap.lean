/-! the heap by numbers of things: where a thing lies (D), how long an array is (N), what fields (F) and elements (A) hold; the tables of the reference -/
set_option maxRecDepth 100000
def t_cls : Nat → Nat := fun o => bif Nat.beq o 0 then 1 else bif Nat.beq o 1 then 13 else bif Nat.beq o 2 then 15 else bif Nat.beq o 3 then 17 else bif Nat.beq o 4 then 16 else bif Nat.beq o 5 then 14 else bif Nat.beq o 6 then 18 else 0
def t_arr : Nat → Bool := fun o => Nat.ble 10 o
def t_perm : Nat → Bool := fun o => Nat.blt o 89 && (Nat.blt o 7 || Nat.ble 10 o)
def t_nf : Nat → Nat := fun c => bif Nat.beq c 1 then 13 else bif Nat.beq c 13 then 5 else bif Nat.beq c 15 then 2 else bif Nat.beq c 17 then 17 else bif Nat.beq c 16 then 12 else bif Nat.beq c 14 then 47 else bif Nat.beq c 18 then 59 else 0
def t_kd1 : Nat → Nat := fun k => bif Nat.beq k 0 then 3 else bif Nat.beq k 1 then 3 else bif Nat.beq k 2 then 3 else bif Nat.beq k 3 then 3 else bif Nat.beq k 4 then 3 else bif Nat.beq k 5 then 3 else bif Nat.beq k 6 then 3 else bif Nat.beq k 7 then 3 else bif Nat.beq k 8 then 3 else bif Nat.beq k 9 then 0 else bif Nat.beq k 10 then 0 else bif Nat.beq k 11 then 0 else bif Nat.beq k 12 then 3 else 0
def t_flo1 : Nat → Int := fun k => bif Nat.beq k 0 then (10) else bif Nat.beq k 1 then (11) else bif Nat.beq k 2 then (1) else bif Nat.beq k 3 then (2) else bif Nat.beq k 4 then (3) else bif Nat.beq k 5 then (4) else bif Nat.beq k 6 then (5) else bif Nat.beq k 7 then (6) else bif Nat.beq k 8 then (12) else bif Nat.beq k 9 then (-2147483648) else bif Nat.beq k 10 then (-2147483648) else bif Nat.beq k 11 then (-2147483648) else bif Nat.beq k 12 then (13) else 0
def t_fhi1 : Nat → Int := fun k => bif Nat.beq k 0 then (10) else bif Nat.beq k 1 then (11) else bif Nat.beq k 2 then (1) else bif Nat.beq k 3 then (2) else bif Nat.beq k 4 then (3) else bif Nat.beq k 5 then (4) else bif Nat.beq k 6 then (5) else bif Nat.beq k 7 then (6) else bif Nat.beq k 8 then (12) else bif Nat.beq k 9 then (2147483647) else bif Nat.beq k 10 then (2147483647) else bif Nat.beq k 11 then (2147483647) else bif Nat.beq k 12 then (13) else 0
def t_kd13 : Nat → Nat := fun k => bif Nat.beq k 0 then 3 else bif Nat.beq k 1 then 0 else bif Nat.beq k 2 then 3 else bif Nat.beq k 3 then 0 else bif Nat.beq k 4 then 0 else 0
def t_flo13 : Nat → Int := fun k => bif Nat.beq k 0 then (14) else bif Nat.beq k 1 then (0) else bif Nat.beq k 2 then (15) else bif Nat.beq k 3 then (0) else bif Nat.beq k 4 then (-2147483648) else 0
def t_fhi13 : Nat → Int := fun k => bif Nat.beq k 0 then (14) else bif Nat.beq k 1 then (65536) else bif Nat.beq k 2 then (15) else bif Nat.beq k 3 then (65536) else bif Nat.beq k 4 then (2147483647) else 0
def t_kd15 : Nat → Nat := fun k => bif Nat.beq k 0 then 3 else bif Nat.beq k 1 then 0 else 0
def t_flo15 : Nat → Int := fun k => bif Nat.beq k 0 then (10) else bif Nat.beq k 1 then (-2147483648) else 0
def t_fhi15 : Nat → Int := fun k => bif Nat.beq k 0 then (10) else bif Nat.beq k 1 then (2147483647) else 0
def t_kd17 : Nat → Nat := fun k => bif Nat.beq k 0 then 3 else bif Nat.beq k 1 then 3 else bif Nat.beq k 2 then 0 else bif Nat.beq k 3 then 3 else bif Nat.beq k 4 then 3 else bif Nat.beq k 5 then 0 else bif Nat.beq k 6 then 0 else bif Nat.beq k 7 then 3 else bif Nat.beq k 8 then 0 else bif Nat.beq k 9 then 3 else bif Nat.beq k 10 then 0 else bif Nat.beq k 11 then 3 else bif Nat.beq k 12 then 0 else bif Nat.beq k 13 then 3 else bif Nat.beq k 14 then 0 else bif Nat.beq k 15 then 0 else bif Nat.beq k 16 then 0 else 0
def t_flo17 : Nat → Int := fun k => bif Nat.beq k 0 then (1) else bif Nat.beq k 1 then (16) else bif Nat.beq k 2 then (0) else bif Nat.beq k 3 then (17) else bif Nat.beq k 4 then (18) else bif Nat.beq k 5 then (-2147483648) else bif Nat.beq k 6 then (0) else bif Nat.beq k 7 then (19) else bif Nat.beq k 8 then (-2147483648) else bif Nat.beq k 9 then (20) else bif Nat.beq k 10 then (-2147483648) else bif Nat.beq k 11 then (21) else bif Nat.beq k 12 then (-2147483648) else bif Nat.beq k 13 then (22) else bif Nat.beq k 14 then (0) else bif Nat.beq k 15 then (-2147483648) else bif Nat.beq k 16 then (-2147483648) else 0
def t_fhi17 : Nat → Int := fun k => bif Nat.beq k 0 then (1) else bif Nat.beq k 1 then (16) else bif Nat.beq k 2 then (65536) else bif Nat.beq k 3 then (17) else bif Nat.beq k 4 then (18) else bif Nat.beq k 5 then (2147483647) else bif Nat.beq k 6 then (16384) else bif Nat.beq k 7 then (19) else bif Nat.beq k 8 then (2147483647) else bif Nat.beq k 9 then (20) else bif Nat.beq k 10 then (2147483647) else bif Nat.beq k 11 then (21) else bif Nat.beq k 12 then (2147483647) else bif Nat.beq k 13 then (22) else bif Nat.beq k 14 then (65536) else bif Nat.beq k 15 then (2147483647) else bif Nat.beq k 16 then (2147483647) else 0
def t_kd16 : Nat → Nat := fun k => bif Nat.beq k 0 then 3 else bif Nat.beq k 1 then 3 else bif Nat.beq k 2 then 0 else bif Nat.beq k 3 then 3 else bif Nat.beq k 4 then 3 else bif Nat.beq k 5 then 0 else bif Nat.beq k 6 then 0 else bif Nat.beq k 7 then 0 else bif Nat.beq k 8 then 0 else bif Nat.beq k 9 then 0 else bif Nat.beq k 10 then 0 else bif Nat.beq k 11 then 0 else 0
def t_flo16 : Nat → Int := fun k => bif Nat.beq k 0 then (1) else bif Nat.beq k 1 then (23) else bif Nat.beq k 2 then (-2147483648) else bif Nat.beq k 3 then (24) else bif Nat.beq k 4 then (25) else bif Nat.beq k 5 then (0) else bif Nat.beq k 6 then (0) else bif Nat.beq k 7 then (0) else bif Nat.beq k 8 then (0) else bif Nat.beq k 9 then (0) else bif Nat.beq k 10 then (-2147483648) else bif Nat.beq k 11 then (-2147483648) else 0
def t_fhi16 : Nat → Int := fun k => bif Nat.beq k 0 then (1) else bif Nat.beq k 1 then (23) else bif Nat.beq k 2 then (2147483647) else bif Nat.beq k 3 then (24) else bif Nat.beq k 4 then (25) else bif Nat.beq k 5 then (16384) else bif Nat.beq k 6 then (65536) else bif Nat.beq k 7 then (65536) else bif Nat.beq k 8 then (65536) else bif Nat.beq k 9 then (65536) else bif Nat.beq k 10 then (2147483647) else bif Nat.beq k 11 then (2147483647) else 0
def t_kd14 : Nat → Nat := fun k => bif Nat.beq k 0 then 3 else bif Nat.beq k 1 then 3 else bif Nat.beq k 2 then 0 else bif Nat.beq k 3 then 0 else bif Nat.beq k 4 then 1 else bif Nat.beq k 5 then 3 else bif Nat.beq k 6 then 3 else bif Nat.beq k 7 then 3 else bif Nat.beq k 8 then 3 else bif Nat.beq k 9 then 3 else bif Nat.beq k 10 then 0 else bif Nat.beq k 11 then 3 else bif Nat.beq k 12 then 3 else bif Nat.beq k 13 then 3 else bif Nat.beq k 14 then 3 else bif Nat.beq k 15 then 3 else bif Nat.beq k 16 then 3 else bif Nat.beq k 17 then 3 else bif Nat.beq k 18 then 3 else bif Nat.beq k 19 then 0 else bif Nat.beq k 20 then 3 else bif Nat.beq k 21 then 3 else bif Nat.beq k 22 then 3 else bif Nat.beq k 23 then 3 else bif Nat.beq k 24 then 3 else bif Nat.beq k 25 then 0 else bif Nat.beq k 26 then 0 else bif Nat.beq k 27 then 0 else bif Nat.beq k 28 then 0 else bif Nat.beq k 29 then 0 else bif Nat.beq k 30 then 0 else bif Nat.beq k 31 then 0 else bif Nat.beq k 32 then 0 else bif Nat.beq k 33 then 0 else bif Nat.beq k 34 then 0 else bif Nat.beq k 35 then 2 else bif Nat.beq k 36 then 0 else bif Nat.beq k 37 then 3 else bif Nat.beq k 38 then 3 else bif Nat.beq k 39 then 0 else bif Nat.beq k 40 then 0 else bif Nat.beq k 41 then 0 else bif Nat.beq k 42 then 0 else bif Nat.beq k 43 then 0 else bif Nat.beq k 44 then 0 else bif Nat.beq k 45 then 0 else bif Nat.beq k 46 then 3 else 0
def t_flo14 : Nat → Int := fun k => bif Nat.beq k 0 then (1) else bif Nat.beq k 1 then (26) else bif Nat.beq k 2 then (0) else bif Nat.beq k 3 then (-2147483648) else bif Nat.beq k 4 then (0) else bif Nat.beq k 5 then (27) else bif Nat.beq k 6 then (28) else bif Nat.beq k 7 then (29) else bif Nat.beq k 8 then (30) else bif Nat.beq k 9 then (31) else bif Nat.beq k 10 then (0) else bif Nat.beq k 11 then (32) else bif Nat.beq k 12 then (33) else bif Nat.beq k 13 then (34) else bif Nat.beq k 14 then (35) else bif Nat.beq k 15 then (36) else bif Nat.beq k 16 then (37) else bif Nat.beq k 17 then (38) else bif Nat.beq k 18 then (39) else bif Nat.beq k 19 then (0) else bif Nat.beq k 20 then (40) else bif Nat.beq k 21 then (41) else bif Nat.beq k 22 then (42) else bif Nat.beq k 23 then (43) else bif Nat.beq k 24 then (44) else bif Nat.beq k 25 then (0) else bif Nat.beq k 26 then (0) else bif Nat.beq k 27 then (0) else bif Nat.beq k 28 then (0) else bif Nat.beq k 29 then (0) else bif Nat.beq k 30 then (0) else bif Nat.beq k 31 then (0) else bif Nat.beq k 32 then (-2147483648) else bif Nat.beq k 33 then (-2147483648) else bif Nat.beq k 34 then (-2147483648) else bif Nat.beq k 35 then (-9223372036854775808) else bif Nat.beq k 36 then (-2147483648) else bif Nat.beq k 37 then (45) else bif Nat.beq k 38 then (46) else bif Nat.beq k 39 then (0) else bif Nat.beq k 40 then (0) else bif Nat.beq k 41 then (0) else bif Nat.beq k 42 then (0) else bif Nat.beq k 43 then (0) else bif Nat.beq k 44 then (0) else bif Nat.beq k 45 then (-100) else bif Nat.beq k 46 then (47) else 0
def t_fhi14 : Nat → Int := fun k => bif Nat.beq k 0 then (1) else bif Nat.beq k 1 then (26) else bif Nat.beq k 2 then (65536) else bif Nat.beq k 3 then (2147483647) else bif Nat.beq k 4 then (1) else bif Nat.beq k 5 then (27) else bif Nat.beq k 6 then (28) else bif Nat.beq k 7 then (29) else bif Nat.beq k 8 then (30) else bif Nat.beq k 9 then (31) else bif Nat.beq k 10 then (11) else bif Nat.beq k 11 then (32) else bif Nat.beq k 12 then (33) else bif Nat.beq k 13 then (34) else bif Nat.beq k 14 then (35) else bif Nat.beq k 15 then (36) else bif Nat.beq k 16 then (37) else bif Nat.beq k 17 then (38) else bif Nat.beq k 18 then (39) else bif Nat.beq k 19 then (20) else bif Nat.beq k 20 then (40) else bif Nat.beq k 21 then (41) else bif Nat.beq k 22 then (42) else bif Nat.beq k 23 then (43) else bif Nat.beq k 24 then (44) else bif Nat.beq k 25 then (65536) else bif Nat.beq k 26 then (65536) else bif Nat.beq k 27 then (65536) else bif Nat.beq k 28 then (65536) else bif Nat.beq k 29 then (131072) else bif Nat.beq k 30 then (20) else bif Nat.beq k 31 then (65536) else bif Nat.beq k 32 then (2147483647) else bif Nat.beq k 33 then (2147483647) else bif Nat.beq k 34 then (2147483647) else bif Nat.beq k 35 then (9223372036854775807) else bif Nat.beq k 36 then (2147483647) else bif Nat.beq k 37 then (45) else bif Nat.beq k 38 then (46) else bif Nat.beq k 39 then (131072) else bif Nat.beq k 40 then (131072) else bif Nat.beq k 41 then (511) else bif Nat.beq k 42 then (511) else bif Nat.beq k 43 then (511) else bif Nat.beq k 44 then (524288) else bif Nat.beq k 45 then (524288) else bif Nat.beq k 46 then (47) else 0
def t_kd18 : Nat → Nat := fun k => bif Nat.beq k 0 then 3 else bif Nat.beq k 1 then 0 else bif Nat.beq k 2 then 0 else bif Nat.beq k 3 then 3 else bif Nat.beq k 4 then 0 else bif Nat.beq k 5 then 0 else bif Nat.beq k 6 then 1 else bif Nat.beq k 7 then 3 else bif Nat.beq k 8 then 3 else bif Nat.beq k 9 then 3 else bif Nat.beq k 10 then 3 else bif Nat.beq k 11 then 3 else bif Nat.beq k 12 then 0 else bif Nat.beq k 13 then 3 else bif Nat.beq k 14 then 3 else bif Nat.beq k 15 then 3 else bif Nat.beq k 16 then 3 else bif Nat.beq k 17 then 0 else bif Nat.beq k 18 then 3 else bif Nat.beq k 19 then 3 else bif Nat.beq k 20 then 3 else bif Nat.beq k 21 then 3 else bif Nat.beq k 22 then 0 else bif Nat.beq k 23 then 0 else bif Nat.beq k 24 then 0 else bif Nat.beq k 25 then 3 else bif Nat.beq k 26 then 3 else bif Nat.beq k 27 then 3 else bif Nat.beq k 28 then 0 else bif Nat.beq k 29 then 3 else bif Nat.beq k 30 then 0 else bif Nat.beq k 31 then 3 else bif Nat.beq k 32 then 3 else bif Nat.beq k 33 then 3 else bif Nat.beq k 34 then 3 else bif Nat.beq k 35 then 0 else bif Nat.beq k 36 then 3 else bif Nat.beq k 37 then 0 else bif Nat.beq k 38 then 3 else bif Nat.beq k 39 then 3 else bif Nat.beq k 40 then 3 else bif Nat.beq k 41 then 3 else bif Nat.beq k 42 then 3 else bif Nat.beq k 43 then 3 else bif Nat.beq k 44 then 3 else bif Nat.beq k 45 then 3 else bif Nat.beq k 46 then 3 else bif Nat.beq k 47 then 3 else bif Nat.beq k 48 then 3 else bif Nat.beq k 49 then 0 else bif Nat.beq k 50 then 3 else bif Nat.beq k 51 then 3 else bif Nat.beq k 52 then 3 else bif Nat.beq k 53 then 0 else bif Nat.beq k 54 then 0 else bif Nat.beq k 55 then 3 else bif Nat.beq k 56 then 3 else bif Nat.beq k 57 then 3 else bif Nat.beq k 58 then 3 else 0
def t_flo18 : Nat → Int := fun k => bif Nat.beq k 0 then (1) else bif Nat.beq k 1 then (0) else bif Nat.beq k 2 then (0) else bif Nat.beq k 3 then (48) else bif Nat.beq k 4 then (0) else bif Nat.beq k 5 then (-2147483648) else bif Nat.beq k 6 then (0) else bif Nat.beq k 7 then (49) else bif Nat.beq k 8 then (50) else bif Nat.beq k 9 then (51) else bif Nat.beq k 10 then (52) else bif Nat.beq k 11 then (53) else bif Nat.beq k 12 then (0) else bif Nat.beq k 13 then (54) else bif Nat.beq k 14 then (55) else bif Nat.beq k 15 then (56) else bif Nat.beq k 16 then (57) else bif Nat.beq k 17 then (0) else bif Nat.beq k 18 then (58) else bif Nat.beq k 19 then (59) else bif Nat.beq k 20 then (60) else bif Nat.beq k 21 then (61) else bif Nat.beq k 22 then (0) else bif Nat.beq k 23 then (0) else bif Nat.beq k 24 then (0) else bif Nat.beq k 25 then (62) else bif Nat.beq k 26 then (63) else bif Nat.beq k 27 then (64) else bif Nat.beq k 28 then (0) else bif Nat.beq k 29 then (65) else bif Nat.beq k 30 then (0) else bif Nat.beq k 31 then (66) else bif Nat.beq k 32 then (67) else bif Nat.beq k 33 then (68) else bif Nat.beq k 34 then (69) else bif Nat.beq k 35 then (0) else bif Nat.beq k 36 then (70) else bif Nat.beq k 37 then (0) else bif Nat.beq k 38 then (71) else bif Nat.beq k 39 then (72) else bif Nat.beq k 40 then (73) else bif Nat.beq k 41 then (74) else bif Nat.beq k 42 then (75) else bif Nat.beq k 43 then (76) else bif Nat.beq k 44 then (77) else bif Nat.beq k 45 then (78) else bif Nat.beq k 46 then (79) else bif Nat.beq k 47 then (80) else bif Nat.beq k 48 then (81) else bif Nat.beq k 49 then (0) else bif Nat.beq k 50 then (82) else bif Nat.beq k 51 then (83) else bif Nat.beq k 52 then (84) else bif Nat.beq k 53 then (-1) else bif Nat.beq k 54 then (-2147483648) else bif Nat.beq k 55 then (85) else bif Nat.beq k 56 then (86) else bif Nat.beq k 57 then (87) else bif Nat.beq k 58 then (88) else 0
def t_fhi18 : Nat → Int := fun k => bif Nat.beq k 0 then (1) else bif Nat.beq k 1 then (3) else bif Nat.beq k 2 then (8) else bif Nat.beq k 3 then (48) else bif Nat.beq k 4 then (65536) else bif Nat.beq k 5 then (2147483647) else bif Nat.beq k 6 then (1) else bif Nat.beq k 7 then (49) else bif Nat.beq k 8 then (50) else bif Nat.beq k 9 then (51) else bif Nat.beq k 10 then (52) else bif Nat.beq k 11 then (53) else bif Nat.beq k 12 then (11) else bif Nat.beq k 13 then (54) else bif Nat.beq k 14 then (55) else bif Nat.beq k 15 then (56) else bif Nat.beq k 16 then (57) else bif Nat.beq k 17 then (11) else bif Nat.beq k 18 then (58) else bif Nat.beq k 19 then (59) else bif Nat.beq k 20 then (60) else bif Nat.beq k 21 then (61) else bif Nat.beq k 22 then (16384) else bif Nat.beq k 23 then (16384) else bif Nat.beq k 24 then (16777216) else bif Nat.beq k 25 then (62) else bif Nat.beq k 26 then (63) else bif Nat.beq k 27 then (64) else bif Nat.beq k 28 then (8001) else bif Nat.beq k 29 then (65) else bif Nat.beq k 30 then (16385) else bif Nat.beq k 31 then (66) else bif Nat.beq k 32 then (67) else bif Nat.beq k 33 then (68) else bif Nat.beq k 34 then (69) else bif Nat.beq k 35 then (100000000) else bif Nat.beq k 36 then (70) else bif Nat.beq k 37 then (100000000) else bif Nat.beq k 38 then (71) else bif Nat.beq k 39 then (72) else bif Nat.beq k 40 then (73) else bif Nat.beq k 41 then (74) else bif Nat.beq k 42 then (75) else bif Nat.beq k 43 then (76) else bif Nat.beq k 44 then (77) else bif Nat.beq k 45 then (78) else bif Nat.beq k 46 then (79) else bif Nat.beq k 47 then (80) else bif Nat.beq k 48 then (81) else bif Nat.beq k 49 then (512) else bif Nat.beq k 50 then (82) else bif Nat.beq k 51 then (83) else bif Nat.beq k 52 then (84) else bif Nat.beq k 53 then (255) else bif Nat.beq k 54 then (2147483647) else bif Nat.beq k 55 then (85) else bif Nat.beq k 56 then (86) else bif Nat.beq k 57 then (87) else bif Nat.beq k 58 then (88) else 0
def t_kd : Nat → Nat → Nat := fun c k => bif Nat.beq c 1 then t_kd1 k else bif Nat.beq c 13 then t_kd13 k else bif Nat.beq c 15 then t_kd15 k else bif Nat.beq c 17 then t_kd17 k else bif Nat.beq c 16 then t_kd16 k else bif Nat.beq c 14 then t_kd14 k else bif Nat.beq c 18 then t_kd18 k else 0
def t_flo : Nat → Nat → Int := fun c k => bif Nat.beq c 1 then t_flo1 k else bif Nat.beq c 13 then t_flo13 k else bif Nat.beq c 15 then t_flo15 k else bif Nat.beq c 17 then t_flo17 k else bif Nat.beq c 16 then t_flo16 k else bif Nat.beq c 14 then t_flo14 k else bif Nat.beq c 18 then t_flo18 k else 0
def t_fhi : Nat → Nat → Int := fun c k => bif Nat.beq c 1 then t_fhi1 k else bif Nat.beq c 13 then t_fhi13 k else bif Nat.beq c 15 then t_fhi15 k else bif Nat.beq c 17 then t_fhi17 k else bif Nat.beq c 16 then t_fhi16 k else bif Nat.beq c 14 then t_fhi14 k else bif Nat.beq c 18 then t_fhi18 k else 0
def t_ak : Nat → Nat := fun o => bif Nat.blt o 49 then (bif Nat.blt o 29 then (bif Nat.blt o 19 then (bif Nat.blt o 14 then (bif Nat.blt o 12 then (bif Nat.blt o 11 then (1) else (1)) else (bif Nat.blt o 13 then (1) else (1))) else (bif Nat.blt o 16 then (bif Nat.blt o 15 then (1) else (1)) else (bif Nat.blt o 17 then (1) else (bif Nat.blt o 18 then (2) else (1))))) else (bif Nat.blt o 24 then (bif Nat.blt o 21 then (bif Nat.blt o 20 then (1) else (1)) else (bif Nat.blt o 22 then (1) else (bif Nat.blt o 23 then (1) else (1)))) else (bif Nat.blt o 26 then (bif Nat.blt o 25 then (1) else (1)) else (bif Nat.blt o 27 then (1) else (bif Nat.blt o 28 then (1) else (1)))))) else (bif Nat.blt o 39 then (bif Nat.blt o 34 then (bif Nat.blt o 31 then (bif Nat.blt o 30 then (1) else (2)) else (bif Nat.blt o 32 then (1) else (bif Nat.blt o 33 then (1) else (1)))) else (bif Nat.blt o 36 then (bif Nat.blt o 35 then (1) else (1)) else (bif Nat.blt o 37 then (1) else (bif Nat.blt o 38 then (1) else (2))))) else (bif Nat.blt o 44 then (bif Nat.blt o 41 then (bif Nat.blt o 40 then (1) else (1)) else (bif Nat.blt o 42 then (1) else (bif Nat.blt o 43 then (1) else (1)))) else (bif Nat.blt o 46 then (bif Nat.blt o 45 then (1) else (1)) else (bif Nat.blt o 47 then (1) else (bif Nat.blt o 48 then (2) else (1))))))) else (bif Nat.blt o 69 then (bif Nat.blt o 59 then (bif Nat.blt o 54 then (bif Nat.blt o 51 then (bif Nat.blt o 50 then (1) else (1)) else (bif Nat.blt o 52 then (1) else (bif Nat.blt o 53 then (1) else (1)))) else (bif Nat.blt o 56 then (bif Nat.blt o 55 then (1) else (1)) else (bif Nat.blt o 57 then (1) else (bif Nat.blt o 58 then (1) else (1))))) else (bif Nat.blt o 64 then (bif Nat.blt o 61 then (bif Nat.blt o 60 then (1) else (1)) else (bif Nat.blt o 62 then (1) else (bif Nat.blt o 63 then (1) else (1)))) else (bif Nat.blt o 66 then (bif Nat.blt o 65 then (1) else (1)) else (bif Nat.blt o 67 then (1) else (bif Nat.blt o 68 then (1) else (1)))))) else (bif Nat.blt o 79 then (bif Nat.blt o 74 then (bif Nat.blt o 71 then (bif Nat.blt o 70 then (1) else (1)) else (bif Nat.blt o 72 then (1) else (bif Nat.blt o 73 then (1) else (1)))) else (bif Nat.blt o 76 then (bif Nat.blt o 75 then (1) else (1)) else (bif Nat.blt o 77 then (1) else (bif Nat.blt o 78 then (3) else (1))))) else (bif Nat.blt o 84 then (bif Nat.blt o 81 then (bif Nat.blt o 80 then (1) else (1)) else (bif Nat.blt o 82 then (1) else (bif Nat.blt o 83 then (1) else (1)))) else (bif Nat.blt o 86 then (bif Nat.blt o 85 then (1) else (1)) else (bif Nat.blt o 87 then (2) else (bif Nat.blt o 88 then (1) else (1)))))))
def t_len : Nat → Nat := fun o => bif Nat.blt o 49 then (bif Nat.blt o 29 then (bif Nat.blt o 19 then (bif Nat.blt o 14 then (bif Nat.blt o 12 then (bif Nat.blt o 11 then (262144) else (4)) else (bif Nat.blt o 13 then (10) else (5))) else (bif Nat.blt o 16 then (bif Nat.blt o 15 then (65536) else (65536)) else (bif Nat.blt o 17 then (65536) else (bif Nat.blt o 18 then (4) else (16384))))) else (bif Nat.blt o 24 then (bif Nat.blt o 21 then (bif Nat.blt o 20 then (70000) else (70000)) else (bif Nat.blt o 22 then (131072) else (bif Nat.blt o 23 then (65536) else (70000)))) else (bif Nat.blt o 26 then (bif Nat.blt o 25 then (16385) else (16385)) else (bif Nat.blt o 27 then (65536) else (bif Nat.blt o 28 then (256) else (192)))))) else (bif Nat.blt o 39 then (bif Nat.blt o 34 then (bif Nat.blt o 31 then (bif Nat.blt o 30 then (3) else (3)) else (bif Nat.blt o 32 then (256) else (bif Nat.blt o 33 then (2048) else (192)))) else (bif Nat.blt o 36 then (bif Nat.blt o 35 then (3) else (1536)) else (bif Nat.blt o 37 then (1536) else (bif Nat.blt o 38 then (1536) else (3))))) else (bif Nat.blt o 44 then (bif Nat.blt o 41 then (bif Nat.blt o 40 then (256) else (256)) else (bif Nat.blt o 42 then (256) else (bif Nat.blt o 43 then (64) else (64)))) else (bif Nat.blt o 46 then (bif Nat.blt o 45 then (64) else (65536)) else (bif Nat.blt o 47 then (131072) else (bif Nat.blt o 48 then (4) else (65536))))))) else (bif Nat.blt o 69 then (bif Nat.blt o 59 then (bif Nat.blt o 54 then (bif Nat.blt o 51 then (bif Nat.blt o 50 then (256) else (192)) else (bif Nat.blt o 52 then (3) else (bif Nat.blt o 53 then (3) else (256)))) else (bif Nat.blt o 56 then (bif Nat.blt o 55 then (192) else (3)) else (bif Nat.blt o 57 then (3) else (bif Nat.blt o 58 then (256) else (192))))) else (bif Nat.blt o 64 then (bif Nat.blt o 61 then (bif Nat.blt o 60 then (3) else (3)) else (bif Nat.blt o 62 then (16384) else (bif Nat.blt o 63 then (8001) else (8001)))) else (bif Nat.blt o 66 then (bif Nat.blt o 65 then (8001) else (16385)) else (bif Nat.blt o 67 then (24003) else (bif Nat.blt o 68 then (24003) else (24003)))))) else (bif Nat.blt o 79 then (bif Nat.blt o 74 then (bif Nat.blt o 71 then (bif Nat.blt o 70 then (24000) else (65536)) else (bif Nat.blt o 72 then (2048) else (bif Nat.blt o 73 then (2048) else (2048)))) else (bif Nat.blt o 76 then (bif Nat.blt o 75 then (64) else (64)) else (bif Nat.blt o 77 then (64) else (bif Nat.blt o 78 then (64) else (256))))) else (bif Nat.blt o 84 then (bif Nat.blt o 81 then (bif Nat.blt o 80 then (256) else (512)) else (bif Nat.blt o 82 then (512) else (bif Nat.blt o 83 then (256) else (2048)))) else (bif Nat.blt o 86 then (bif Nat.blt o 85 then (257) else (12)) else (bif Nat.blt o 87 then (4) else (bif Nat.blt o 88 then (12) else (12)))))))
def t_alo : Nat → Int := fun o => bif Nat.blt o 49 then (bif Nat.blt o 29 then (bif Nat.blt o 19 then (bif Nat.blt o 14 then (bif Nat.blt o 12 then (bif Nat.blt o 11 then ((0)) else ((0))) else (bif Nat.blt o 13 then ((-2147483648)) else ((-2147483648)))) else (bif Nat.blt o 16 then (bif Nat.blt o 15 then ((0)) else ((0))) else (bif Nat.blt o 17 then ((0)) else (bif Nat.blt o 18 then ((-9223372036854775808)) else ((0)))))) else (bif Nat.blt o 24 then (bif Nat.blt o 21 then (bif Nat.blt o 20 then ((0)) else ((0))) else (bif Nat.blt o 22 then ((0)) else (bif Nat.blt o 23 then ((0)) else ((0))))) else (bif Nat.blt o 26 then (bif Nat.blt o 25 then ((0)) else ((0))) else (bif Nat.blt o 27 then ((0)) else (bif Nat.blt o 28 then ((0)) else ((-1))))))) else (bif Nat.blt o 39 then (bif Nat.blt o 34 then (bif Nat.blt o 31 then (bif Nat.blt o 30 then ((-1)) else ((-9223372036854775808))) else (bif Nat.blt o 32 then ((0)) else (bif Nat.blt o 33 then ((0)) else ((-1))))) else (bif Nat.blt o 36 then (bif Nat.blt o 35 then ((-1)) else ((-1))) else (bif Nat.blt o 37 then ((0)) else (bif Nat.blt o 38 then ((0)) else ((-9223372036854775808)))))) else (bif Nat.blt o 44 then (bif Nat.blt o 41 then (bif Nat.blt o 40 then ((-1)) else ((-1))) else (bif Nat.blt o 42 then ((0)) else (bif Nat.blt o 43 then ((-1)) else ((0))))) else (bif Nat.blt o 46 then (bif Nat.blt o 45 then ((0)) else ((0))) else (bif Nat.blt o 47 then ((0)) else (bif Nat.blt o 48 then ((-9223372036854775808)) else ((0)))))))) else (bif Nat.blt o 69 then (bif Nat.blt o 59 then (bif Nat.blt o 54 then (bif Nat.blt o 51 then (bif Nat.blt o 50 then ((0)) else ((-1))) else (bif Nat.blt o 52 then ((-1)) else (bif Nat.blt o 53 then ((-2147483648)) else ((0))))) else (bif Nat.blt o 56 then (bif Nat.blt o 55 then ((-1)) else ((-1))) else (bif Nat.blt o 57 then ((-2147483648)) else (bif Nat.blt o 58 then ((0)) else ((-1)))))) else (bif Nat.blt o 64 then (bif Nat.blt o 61 then (bif Nat.blt o 60 then ((-1)) else ((-2147483648))) else (bif Nat.blt o 62 then ((0)) else (bif Nat.blt o 63 then ((0)) else ((0))))) else (bif Nat.blt o 66 then (bif Nat.blt o 65 then ((0)) else ((0))) else (bif Nat.blt o 67 then ((0)) else (bif Nat.blt o 68 then ((0)) else ((-2147483648))))))) else (bif Nat.blt o 79 then (bif Nat.blt o 74 then (bif Nat.blt o 71 then (bif Nat.blt o 70 then ((0)) else ((0))) else (bif Nat.blt o 72 then ((-1)) else (bif Nat.blt o 73 then ((0)) else ((0))))) else (bif Nat.blt o 76 then (bif Nat.blt o 75 then ((-2147483648)) else ((-2147483648))) else (bif Nat.blt o 77 then ((-2147483648)) else (bif Nat.blt o 78 then ((0)) else ((-2147483648)))))) else (bif Nat.blt o 84 then (bif Nat.blt o 81 then (bif Nat.blt o 80 then ((-2147483648)) else ((-2147483648))) else (bif Nat.blt o 82 then ((-2147483648)) else (bif Nat.blt o 83 then ((-2147483648)) else ((0))))) else (bif Nat.blt o 86 then (bif Nat.blt o 85 then ((-2147483648)) else ((-2147483648))) else (bif Nat.blt o 87 then ((-9223372036854775808)) else (bif Nat.blt o 88 then ((-2147483648)) else ((-2147483648))))))))
def t_ahi : Nat → Int := fun o => bif Nat.blt o 49 then (bif Nat.blt o 29 then (bif Nat.blt o 19 then (bif Nat.blt o 14 then (bif Nat.blt o 12 then (bif Nat.blt o 11 then ((255)) else ((65536))) else (bif Nat.blt o 13 then ((2147483647)) else ((2147483647)))) else (bif Nat.blt o 16 then (bif Nat.blt o 15 then ((255)) else ((255))) else (bif Nat.blt o 17 then ((255)) else (bif Nat.blt o 18 then ((9223372036854775807)) else ((255)))))) else (bif Nat.blt o 24 then (bif Nat.blt o 21 then (bif Nat.blt o 20 then ((255)) else ((255))) else (bif Nat.blt o 22 then ((255)) else (bif Nat.blt o 23 then ((255)) else ((255))))) else (bif Nat.blt o 26 then (bif Nat.blt o 25 then ((2147483647)) else ((2147483647))) else (bif Nat.blt o 27 then ((255)) else (bif Nat.blt o 28 then ((11)) else ((512))))))) else (bif Nat.blt o 39 then (bif Nat.blt o 34 then (bif Nat.blt o 31 then (bif Nat.blt o 30 then ((9)) else ((9223372036854775807))) else (bif Nat.blt o 32 then ((11)) else (bif Nat.blt o 33 then ((255)) else ((512))))) else (bif Nat.blt o 36 then (bif Nat.blt o 35 then ((9)) else ((63))) else (bif Nat.blt o 37 then ((9)) else (bif Nat.blt o 38 then ((511)) else ((9223372036854775807)))))) else (bif Nat.blt o 44 then (bif Nat.blt o 41 then (bif Nat.blt o 40 then ((1048576)) else ((15))) else (bif Nat.blt o 42 then ((4096)) else (bif Nat.blt o 43 then ((11)) else ((6))))) else (bif Nat.blt o 46 then (bif Nat.blt o 45 then ((63)) else ((255))) else (bif Nat.blt o 47 then ((255)) else (bif Nat.blt o 48 then ((9223372036854775807)) else ((255)))))))) else (bif Nat.blt o 69 then (bif Nat.blt o 59 then (bif Nat.blt o 54 then (bif Nat.blt o 51 then (bif Nat.blt o 50 then ((11)) else ((512))) else (bif Nat.blt o 52 then ((9)) else (bif Nat.blt o 53 then ((2147483647)) else ((11))))) else (bif Nat.blt o 56 then (bif Nat.blt o 55 then ((512)) else ((9))) else (bif Nat.blt o 57 then ((2147483647)) else (bif Nat.blt o 58 then ((11)) else ((512)))))) else (bif Nat.blt o 64 then (bif Nat.blt o 61 then (bif Nat.blt o 60 then ((9)) else ((2147483647))) else (bif Nat.blt o 62 then ((255)) else (bif Nat.blt o 63 then ((16384)) else ((16384))))) else (bif Nat.blt o 66 then (bif Nat.blt o 65 then ((16384)) else ((255))) else (bif Nat.blt o 67 then ((63)) else (bif Nat.blt o 68 then ((31)) else ((2147483647))))))) else (bif Nat.blt o 79 then (bif Nat.blt o 74 then (bif Nat.blt o 71 then (bif Nat.blt o 70 then ((255)) else ((255))) else (bif Nat.blt o 72 then ((63)) else (bif Nat.blt o 73 then ((9)) else ((511))))) else (bif Nat.blt o 76 then (bif Nat.blt o 75 then ((2147483647)) else ((2147483647))) else (bif Nat.blt o 77 then ((2147483647)) else (bif Nat.blt o 78 then ((1)) else ((2147483647)))))) else (bif Nat.blt o 84 then (bif Nat.blt o 81 then (bif Nat.blt o 80 then ((2147483647)) else ((2147483647))) else (bif Nat.blt o 82 then ((2147483647)) else (bif Nat.blt o 83 then ((2147483647)) else ((255))))) else (bif Nat.blt o 86 then (bif Nat.blt o 85 then ((2147483647)) else ((2147483647))) else (bif Nat.blt o 87 then ((9223372036854775807)) else (bif Nat.blt o 88 then ((2147483647)) else ((2147483647))))))))
abbrev hF : Type := Nat → Nat → Int
abbrev hA : Type := Nat → Int → Int
def fv (D : Nat → Nat) (kd : Nat) (z : Int) : Value := match kd with
  | 2 => J z
  | 3 => if z < 0 then .null else .ref (D z.toNat)
  | _ => I z
/-- an element, by the kind of array (0 byte, 1 int, 2 long, 3 boolean, else references) -/
def av (D : Nat → Nat) (kd : Nat) (z : Int) : Value := match kd with
  | 0 => I z
  | 1 => I z
  | 2 => J z
  | 3 => I z
  | _ => if z < 0 then .null else .ref (D z.toNat)
def updF (F : hF) (o k : Nat) (z : Int) : hF := fun o' kₚ => bif Nat.beq o' o && Nat.beq kₚ k then z else F o' kₚ
def updA (A : hA) (o : Nat) (j z : Int) : hA := fun o' i => bif Nat.beq o' o then (if i = j then z else A o i) else A o' i
def HS (σ0 : rS) (σ : rS) (D N : Nat → Nat) (F : hF) (A : hA) : Prop :=
  (∀ o, D o ≠ 0 → t_arr o = false → rat σ (D o) = some (.inl (t_cls o, (List.range (t_nf (t_cls o))).map (fun k => fv D (t_kd (t_cls o) k) (F o k))))) ∧
  (∀ o, D o ≠ 0 → t_arr o = true → ∃ dv ov, rat σ (D o) = some (.inr (t_ak o, N o, dv, ov)) ∧ ∀ j : Nat, rlk ov dv j = av D (t_ak o) (A o j)) ∧
  (∀ o o', D o ≠ 0 → D o = D o' → o = o') ∧
  (∀ o, D o ≠ 0 → 12 ≤ D o) ∧
  (∀ o, t_perm o = true → D o ≠ 0) ∧
  (∀ o, t_perm o = true → t_arr o = true → N o = t_len o) ∧
  (∀ o k, t_flo (t_cls o) k ≤ F o k ∧ F o k ≤ t_fhi (t_cls o) k) ∧
  (∀ o i, t_alo o ≤ A o i ∧ A o i ≤ t_ahi o) ∧
  (∀ a, (∀ o, D o ≠ 0 → D o ≠ a) → rat σ a = rat σ0 a) ∧
  (σ.length = σ0.length)
theorem HS.obj {σ0 σ : rS} {D N : Nat → Nat} {F : hF} {A : hA} (H : HS σ0 σ D N F A) : ∀ o, D o ≠ 0 → t_arr o = false → rat σ (D o) = some (.inl (t_cls o, (List.range (t_nf (t_cls o))).map (fun k => fv D (t_kd (t_cls o) k) (F o k)))) := by
  unfold HS at H
  exact H.1
theorem HS.arr {σ0 σ : rS} {D N : Nat → Nat} {F : hF} {A : hA} (H : HS σ0 σ D N F A) : ∀ o, D o ≠ 0 → t_arr o = true → ∃ dv ov, rat σ (D o) = some (.inr (t_ak o, N o, dv, ov)) ∧ ∀ j : Nat, rlk ov dv j = av D (t_ak o) (A o j) := by
  unfold HS at H
  exact H.2.1
theorem HS.inj {σ0 σ : rS} {D N : Nat → Nat} {F : hF} {A : hA} (H : HS σ0 σ D N F A) : ∀ o o', D o ≠ 0 → D o = D o' → o = o' := by
  unfold HS at H
  exact H.2.2.1
theorem HS.lo {σ0 σ : rS} {D N : Nat → Nat} {F : hF} {A : hA} (H : HS σ0 σ D N F A) : ∀ o, D o ≠ 0 → 12 ≤ D o := by
  unfold HS at H
  exact H.2.2.2.1
theorem HS.perm {σ0 σ : rS} {D N : Nat → Nat} {F : hF} {A : hA} (H : HS σ0 σ D N F A) : ∀ o, t_perm o = true → D o ≠ 0 := by
  unfold HS at H
  exact H.2.2.2.2.1
theorem HS.fix {σ0 σ : rS} {D N : Nat → Nat} {F : hF} {A : hA} (H : HS σ0 σ D N F A) : ∀ o, t_perm o = true → t_arr o = true → N o = t_len o := by
  unfold HS at H
  exact H.2.2.2.2.2.1
theorem HS.frng {σ0 σ : rS} {D N : Nat → Nat} {F : hF} {A : hA} (H : HS σ0 σ D N F A) : ∀ o k, t_flo (t_cls o) k ≤ F o k ∧ F o k ≤ t_fhi (t_cls o) k := by
  unfold HS at H
  exact H.2.2.2.2.2.2.1
theorem HS.arng {σ0 σ : rS} {D N : Nat → Nat} {F : hF} {A : hA} (H : HS σ0 σ D N F A) : ∀ o i, t_alo o ≤ A o i ∧ A o i ≤ t_ahi o := by
  unfold HS at H
  exact H.2.2.2.2.2.2.2.1
theorem HS.out {σ0 σ : rS} {D N : Nat → Nat} {F : hF} {A : hA} (H : HS σ0 σ D N F A) : ∀ a, (∀ o, D o ≠ 0 → D o ≠ a) → rat σ a = rat σ0 a := by
  unfold HS at H
  exact H.2.2.2.2.2.2.2.2.1
theorem HS.len {σ0 σ : rS} {D N : Nat → Nat} {F : hF} {A : hA} (H : HS σ0 σ D N F A) : σ.length = σ0.length := by
  unfold HS at H
  exact H.2.2.2.2.2.2.2.2.2
section HEAP
variable {σ0 σ : rS} {D N : Nat → Nat} {F : hF} {A : hA}
theorem rnth_map {n k : Nat} {f : Nat → Value} (h : k < n) : rnth ((List.range n).map f) k = some (f k) := by
  rw [rnth_eq]
  simp [h]
theorem rstl_map {n k : Nat} {f : Nat → Value} {v : Value} : rstl ((List.range n).map f) k v = (List.range n).map (fun j => bif Nat.beq j k then v else f j) := by
  rw [rstl_eq]
  apply List.ext_getElem?
  intro i
  rw [List.getElem?_set]
  by_cases h : k = i
  · subst h
    by_cases hl : k < n
    · simp [hl]
    · simp [hl]
  · have hb : Nat.beq i k = false := by
      cases hb : Nat.beq i k with
      | false => rfl
      | true => exact absurd (Nat.eq_of_beq_eq_true hb).symm h
    by_cases hl : i < n
    · simp [h, hl, hb]
    · simp [h, hl]
theorem beqf {a b : Nat} (h : a ≠ b) : Nat.beq a b = false := by
  cases hb : Nat.beq a b with
  | false => rfl
  | true => exact absurd (Nat.eq_of_beq_eq_true hb) h
theorem HS_put (H : HS σ0 σ D N F A) {o k : Nat} {z : Int} (hD : D o ≠ 0) (ha : t_arr o = false) (h1 : t_flo (t_cls o) k ≤ z) (h2 : z ≤ t_fhi (t_cls o) k) :
    HS σ0 (rstl σ (D o) (.inl (t_cls o, rstl ((List.range (t_nf (t_cls o))).map (fun k => fv D (t_kd (t_cls o) k) (F o k))) k (fv D (t_kd (t_cls o) k) z)))) D N (updF F o k z) A := by
  have hc := H.obj o hD ha
  unfold HS
  refine ⟨fun o' h' ha' => ?_, fun o' h' ha' => ?_, H.inj, H.lo, H.perm, H.fix, fun o' kₚ => ?_, H.arng, fun a h => ?_, ?_⟩
  · by_cases e : o' = o
    · subst e
      rw [rat_same hc, rstl_map]
      congr 3
      apply List.map_congr_left
      intro j _
      show _ = fv D (t_kd (t_cls o') j) (bif Nat.beq o' o' && Nat.beq j k then z else F o' j)
      rw [Nat.beq_refl]
      cases hb : Nat.beq j k with
      | true => rw [Nat.eq_of_beq_eq_true hb]; rfl
      | false => rfl
    · rw [rat_other (fun q => e (H.inj o o' hD q).symm), H.obj o' h' ha']
      congr 3
      apply List.map_congr_left
      intro j _
      show _ = fv D (t_kd (t_cls o') j) (bif Nat.beq o' o && Nat.beq j k then z else F o' j)
      rw [beqf e]
      rfl
  · rw [rat_other (fun q => by have := H.inj o o' hD q; subst this; rw [ha] at ha'; cases ha')]
    exact H.arr o' h' ha'
  · show t_flo (t_cls o') kₚ ≤ (bif Nat.beq o' o && Nat.beq kₚ k then z else F o' kₚ) ∧ (bif Nat.beq o' o && Nat.beq kₚ k then z else F o' kₚ) ≤ _
    cases hb : (Nat.beq o' o && Nat.beq kₚ k) with
    | false => exact H.frng o' kₚ
    | true =>
      rw [Bool.and_eq_true] at hb
      rw [Nat.eq_of_beq_eq_true hb.1, Nat.eq_of_beq_eq_true hb.2]
      exact ⟨h1, h2⟩
  · rw [rat_other (h o hD)]
    exact H.out a h
  · rw [rstl_eq, List.length_set]
    exact H.len
theorem HS_sto (H : HS σ0 σ D N F A) {o j : Nat} {z : Int} {dv : Value} {ov : rO} (hD : D o ≠ 0) (ha : t_arr o = true) (h1 : t_alo o ≤ z) (h2 : z ≤ t_ahi o) (hc : rat σ (D o) = some (.inr (t_ak o, N o, dv, ov))) (hv : ∀ j : Nat, rlk ov dv j = av D (t_ak o) (A o j)) :
    HS σ0 (rstl σ (D o) (.inr (t_ak o, N o, dv, rup ov j (av D (t_ak o) z)))) D N F (updA A o j z) := by
  unfold HS
  refine ⟨fun o' h' ha' => ?_, fun o' h' ha' => ?_, H.inj, H.lo, H.perm, H.fix, H.frng, fun o' i => ?_, fun a h => ?_, ?_⟩
  · rw [rat_other (fun q => by have := H.inj o o' hD q; subst this; rw [ha] at ha'; cases ha')]
    exact H.obj o' h' ha'
  · by_cases e : o' = o
    · subst e
      refine ⟨dv, _, rat_same hc, fun i => ?_⟩
      rw [rlk_rup, hv]
      show _ = av D (t_ak o') (bif Nat.beq o' o' then (if (i : Int) = j then z else A o' i) else A o' i)
      rw [Nat.beq_refl]
      by_cases e2 : i = j
      · subst e2
        rw [if_pos rfl]
        show _ = av D (t_ak o') (if (i : Int) = i then z else A o' i)
        rw [if_pos rfl]
      · rw [if_neg e2]
        show _ = av D (t_ak o') (if (i : Int) = j then z else A o' i)
        rw [if_neg (by omega)]
    · rw [rat_other (fun q => e (H.inj o o' hD q).symm)]
      obtain ⟨dv', ov', q1, q2⟩ := H.arr o' h' ha'
      refine ⟨dv', ov', q1, fun i => ?_⟩
      rw [q2]
      show _ = av D (t_ak o') (bif Nat.beq o' o then (if (i : Int) = j then z else A o i) else A o' i)
      rw [beqf e]
      rfl
  · show t_alo o' ≤ (bif Nat.beq o' o then (if i = j then z else A o i) else A o' i) ∧ (bif Nat.beq o' o then (if i = j then z else A o i) else A o' i) ≤ _
    cases hb : Nat.beq o' o with
    | false => exact H.arng o' i
    | true =>
      have e := Nat.eq_of_beq_eq_true hb
      subst e
      show t_alo o' ≤ (if i = j then z else A o' i) ∧ (if i = j then z else A o' i) ≤ _
      by_cases e2 : i = j
      · rw [if_pos e2]; exact ⟨h1, h2⟩
      · rw [if_neg e2]; exact H.arng o' i
  · rw [rat_other (h o hD)]
    exact H.out a h
  · rw [rstl_eq, List.length_set]
    exact H.len
/-! the numbers -/
theorem ofI_lt {a b : Int} (ha : -2147483648 ≤ a) (ha' : a ≤ 2147483647) (hb : -2147483648 ≤ b) (hb' : b ≤ 2147483647) : (Int32.ofInt a < Int32.ofInt b) ↔ a < b := by
  rw [Int32.lt_iff_toInt_lt, Int32.toInt_ofInt_of_le (by omega) (by omega), Int32.toInt_ofInt_of_le (by omega) (by omega)]
theorem ofI_le {a b : Int} (ha : -2147483648 ≤ a) (ha' : a ≤ 2147483647) (hb : -2147483648 ≤ b) (hb' : b ≤ 2147483647) : (Int32.ofInt a ≤ Int32.ofInt b) ↔ a ≤ b := by
  rw [Int32.le_iff_toInt_le, Int32.toInt_ofInt_of_le (by omega) (by omega), Int32.toInt_ofInt_of_le (by omega) (by omega)]
theorem ofI_eq {a b : Int} (ha : -2147483648 ≤ a) (ha' : a ≤ 2147483647) (hb : -2147483648 ≤ b) (hb' : b ≤ 2147483647) : (Int32.ofInt a = Int32.ofInt b) ↔ a = b := by
  constructor
  · intro h
    have := congrArg Int32.toInt h
    rw [Int32.toInt_ofInt_of_le (by omega) (by omega), Int32.toInt_ofInt_of_le (by omega) (by omega)] at this
    exact this
  · intro h; rw [h]
theorem ofI_nn {a : Int} (ha : 0 ≤ a) (ha' : a ≤ 2147483647) : decide (Int32.ofInt a < 0) = false := by
  rw [decide_eq_false_iff_not, show (0 : Int32) = Int32.ofInt 0 from rfl, ofI_lt (by omega) ha' (by omega) (by omega)]
  omega
theorem ofI_nat {a : Int} (ha : 0 ≤ a) (ha' : a ≤ 2147483647) : (Int32.ofInt a).toNatClampNeg = a.toNat := by
  show (Int32.ofInt a).toInt.toNat = a.toNat
  rw [Int32.toInt_ofInt_of_le (by omega) (by omega)]
/-! reading and writing -/
variable {μ d pc c s : Nat} {ls : rO} {st : List Value} {r : rT} {len : Nat} {act : rA}
theorem g_I (H : HS σ0 σ D N F A) {x q ci k o : Nat} {z : Value} (hf : PP.1 μ pc = some (.getfield x, len, (q, ci, k, z))) (hD : D o ≠ 0) (ha : t_arr o = false) (hc : t_cls o = ci) (hk : k < t_nf ci) (hd : ∀ z, fv D (t_kd ci k) z = I z) (h : Ev PP μ d (pc + 3) ls (I (F o k) :: st) σ c s r) : Ev PP μ d pc ls (.ref (D o) :: st) σ c s r := by
  subst hc
  exact x_getfield hf (H.obj o hD ha) (by rw [rnth_map hk, hd]) h
theorem g_J (H : HS σ0 σ D N F A) {x q ci k o : Nat} {z : Value} (hf : PP.1 μ pc = some (.getfield x, len, (q, ci, k, z))) (hD : D o ≠ 0) (ha : t_arr o = false) (hc : t_cls o = ci) (hk : k < t_nf ci) (hd : ∀ z, fv D (t_kd ci k) z = J z) (h : Ev PP μ d (pc + 3) ls (J (F o k) :: st) σ c s r) : Ev PP μ d pc ls (.ref (D o) :: st) σ c s r := by
  subst hc
  exact x_getfield hf (H.obj o hD ha) (by rw [rnth_map hk, hd]) h
theorem g_R (H : HS σ0 σ D N F A) {x q ci k o t : Nat} {z : Value} (hf : PP.1 μ pc = some (.getfield x, len, (q, ci, k, z))) (hD : D o ≠ 0) (ha : t_arr o = false) (hc : t_cls o = ci) (hk : k < t_nf ci) (hd : t_kd ci k = 3) (ht : F o k = (t : Int)) (h : Ev PP μ d (pc + 3) ls (.ref (D t) :: st) σ c s r) : Ev PP μ d pc ls (.ref (D o) :: st) σ c s r := by
  subst hc
  refine x_getfield hf (H.obj o hD ha) (v := .ref (D t)) ?_ h
  rw [rnth_map hk, hd, ht]
  show some (if ((t : Int) : Int) < 0 then Value.null else .ref (D (t : Int).toNat)) = _
  rw [if_neg (by omega)]
  rfl
theorem p_I (H : HS σ0 σ D N F A) {x q ci k o tag : Nat} {z : Int} (hf : PP.1 μ pc = some (.putfield x, len, (q, ci, k, .ref tag))) (hp : (Nat.blt tag 8 || (Nat.blt tag 16 && PP.2.2.2.1 μ)) = true) (hD : D o ≠ 0) (ha : t_arr o = false) (hc : t_cls o = ci) (hk : k < t_nf ci) (hd : ∀ z, fv D (t_kd ci k) z = I z) (hv : rfit (tag % 8) (I z) = true) (h1 : t_flo ci k ≤ z) (h2 : z ≤ t_fhi ci k)
    (h : ∀ σ, HS σ0 σ D N (updF F o k z) A → Ev PP μ d (pc + 3) ls st σ c s r) : Ev PP μ d pc ls (I z :: .ref (D o) :: st) σ c s r := by
  subst hc
  refine x_putfield hf hp (H.obj o hD ha) (by simpa using hk) (H.lo o hD) hv (h _ ?_)
  have := HS_put H (z := z) (k := k) hD ha h1 h2
  rw [hd] at this
  exact this
theorem p_J (H : HS σ0 σ D N F A) {x q ci k o tag : Nat} {z : Int} (hf : PP.1 μ pc = some (.putfield x, len, (q, ci, k, .ref tag))) (hp : (Nat.blt tag 8 || (Nat.blt tag 16 && PP.2.2.2.1 μ)) = true) (hD : D o ≠ 0) (ha : t_arr o = false) (hc : t_cls o = ci) (hk : k < t_nf ci) (hd : ∀ z, fv D (t_kd ci k) z = J z) (hv : rfit (tag % 8) (J z) = true) (h1 : t_flo ci k ≤ z) (h2 : z ≤ t_fhi ci k)
    (h : ∀ σ, HS σ0 σ D N (updF F o k z) A → Ev PP μ d (pc + 3) ls st σ c s r) : Ev PP μ d pc ls (J z :: .ref (D o) :: st) σ c s r := by
  subst hc
  refine x_putfield hf hp (H.obj o hD ha) (by simpa using hk) (H.lo o hD) hv (h _ ?_)
  have := HS_put H (z := z) (k := k) hD ha h1 h2
  rw [hd] at this
  exact this
theorem l_I (H : HS σ0 σ D N F A) {o : Nat} {j : Int} (hf : PP.1 μ pc = some (.iaload, len, act)) (hD : D o ≠ 0) (ha : t_arr o = true) (hk : t_ak o = 1) (h0 : 0 ≤ j) (h1 : j < N o) (hm : j ≤ 2147483647) (h : Ev PP μ d (pc + 1) ls (I (A o j) :: st) σ c s r) : Ev PP μ d pc ls (I j :: .ref (D o) :: st) σ c s r := by
  obtain ⟨dv, ov, q1, q2⟩ := H.arr o hD ha
  rw [hk] at q1
  refine x_iaload hf q1 (ofI_nn h0 hm) (ofI_nat h0 hm) (by omega) (w := Int32.ofInt (A o j)) ?_ h
  rw [q2, hk, Int.toNat_of_nonneg h0]
  rfl
theorem s_I (H : HS σ0 σ D N F A) {o : Nat} {j z : Int} (hf : PP.1 μ pc = some (.iastore, len, act)) (hD : D o ≠ 0) (ha : t_arr o = true) (hk : t_ak o = 1) (h0 : 0 ≤ j) (h1 : j < N o) (hm : j ≤ 2147483647) (r1 : t_alo o ≤ z) (r2 : z ≤ t_ahi o)
    (h : ∀ σ, HS σ0 σ D N F (updA A o j z) → Ev PP μ d (pc + 1) ls st σ c s r) : Ev PP μ d pc ls (I z :: I j :: .ref (D o) :: st) σ c s r := by
  obtain ⟨dv, ov, q1, q2⟩ := H.arr o hD ha
  have q1' := q1
  rw [hk] at q1'
  refine x_iastore hf q1' (ofI_nn h0 hm) (ofI_nat h0 hm) (by omega) (H.lo o hD) (h _ ?_)
  have := HS_sto H (j := j.toNat) (z := z) hD ha r1 r2 q1 q2
  rw [hk, Int.toNat_of_nonneg h0] at this
  exact this
end HEAP

