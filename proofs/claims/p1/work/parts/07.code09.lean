/-! the code of the methods 248 to 250 -/
-- 248 java/lang/Math.max(II)I
def tr248 (pc : Nat) : Option rI := bif Nat.blt pc 5 then (bif Nat.blt pc 1 then (bif Nat.beq pc 0 then some (.iload_n 0, 1, (0, 0, 0, .null)) else none) else (bif Nat.beq pc 1 then some (.iload_n 1, 1, (0, 0, 0, .null)) else (bif Nat.beq pc 2 then some (.if_icmp .lt (7), 3, (0, 0, 0, .null)) else none))) else (bif Nat.blt pc 9 then (bif Nat.beq pc 5 then some (.iload_n 0, 1, (0, 0, 0, .null)) else (bif Nat.beq pc 6 then some (.goto (4), 3, (0, 0, 0, .null)) else none)) else (bif Nat.beq pc 9 then some (.iload_n 1, 1, (0, 0, 0, .null)) else (bif Nat.beq pc 10 then some (.ireturn, 1, (0, 0, 0, .null)) else none)))
def tb248 (pc : Nat) : Option rI := bif Nat.blt pc 11 then tr248 pc else none
set_option maxRecDepth 100000 in
theorem ck248_0 : (List.range 11).all (fun i => rck tr248 prog_22_method_65_code [] 2 (0 + i)) = true := by decide +kernel
theorem ck248 : ∀ pc, pc < 11 → rck tr248 prog_22_method_65_code [] 2 pc = true := (rck_j rck_0 ck248_0)
-- 249 java/lang/Math.min(II)I
def tr249 (pc : Nat) : Option rI := bif Nat.blt pc 5 then (bif Nat.blt pc 1 then (bif Nat.beq pc 0 then some (.iload_n 0, 1, (0, 0, 0, .null)) else none) else (bif Nat.beq pc 1 then some (.iload_n 1, 1, (0, 0, 0, .null)) else (bif Nat.beq pc 2 then some (.if_icmp .gt (7), 3, (0, 0, 0, .null)) else none))) else (bif Nat.blt pc 9 then (bif Nat.beq pc 5 then some (.iload_n 0, 1, (0, 0, 0, .null)) else (bif Nat.beq pc 6 then some (.goto (4), 3, (0, 0, 0, .null)) else none)) else (bif Nat.beq pc 9 then some (.iload_n 1, 1, (0, 0, 0, .null)) else (bif Nat.beq pc 10 then some (.ireturn, 1, (0, 0, 0, .null)) else none)))
def tb249 (pc : Nat) : Option rI := bif Nat.blt pc 11 then tr249 pc else none
set_option maxRecDepth 100000 in
theorem ck249_0 : (List.range 11).all (fun i => rck tr249 prog_22_method_69_code [] 2 (0 + i)) = true := by decide +kernel
theorem ck249 : ∀ pc, pc < 11 → rck tr249 prog_22_method_69_code [] 2 pc = true := (rck_j rck_0 ck249_0)
-- 250 java/util/Arrays.copyOf([BI)[B
def tr250a (pc : Nat) : Option rI := bif Nat.blt pc 2 then (bif Nat.blt pc 1 then (bif Nat.beq pc 0 then some (.iload_n 1, 1, (0, 0, 0, .null)) else none) else (bif Nat.beq pc 1 then some (.aload_n 0, 1, (0, 0, 0, .null)) else none)) else (bif Nat.blt pc 3 then (bif Nat.beq pc 2 then some (.arraylength, 1, (0, 0, 0, .null)) else none) else (bif Nat.beq pc 3 then some (.if_icmp .ne (11), 3, (0, 0, 0, .null)) else (bif Nat.beq pc 6 then some (.aload_n 0, 1, (0, 0, 0, .null)) else none)))
def tr250b (pc : Nat) : Option rI := bif Nat.blt pc 15 then (bif Nat.blt pc 14 then (bif Nat.beq pc 13 then some (.areturn, 1, (0, 0, 0, .null)) else none) else (bif Nat.beq pc 14 then some (.iload_n 1, 1, (0, 0, 0, .null)) else none)) else (bif Nat.blt pc 17 then (bif Nat.beq pc 15 then some (.newarray .byte, 2, (0, 0, 0, .null)) else none) else (bif Nat.beq pc 17 then some (.astore_n 2, 1, (0, 0, 0, .null)) else (bif Nat.beq pc 18 then some (.aload_n 0, 1, (0, 0, 0, .null)) else none)))
def tr250c (pc : Nat) : Option rI := bif Nat.blt pc 21 then (bif Nat.blt pc 20 then (bif Nat.beq pc 19 then some (.iconst (0), 1, (0, 0, 0, .null)) else none) else (bif Nat.beq pc 20 then some (.aload_n 2, 1, (0, 0, 0, .null)) else none)) else (bif Nat.blt pc 22 then (bif Nat.beq pc 21 then some (.iconst (0), 1, (0, 0, 0, .null)) else none) else (bif Nat.beq pc 22 then some (.aload_n 0, 1, (0, 0, 0, .null)) else (bif Nat.beq pc 23 then some (.arraylength, 1, (0, 0, 0, .null)) else none)))
def tr250d (pc : Nat) : Option rI := bif Nat.blt pc 28 then (bif Nat.blt pc 25 then (bif Nat.beq pc 24 then some (.iload_n 1, 1, (0, 0, 0, .null)) else none) else (bif Nat.beq pc 25 then some (.invokestatic 304, 3, (24, 249, 2, .null)) else none)) else (bif Nat.blt pc 31 then (bif Nat.beq pc 28 then some (.invokestatic 150, 3, (27, 0, 0, .null)) else none) else (bif Nat.beq pc 31 then some (.aload_n 2, 1, (0, 0, 0, .null)) else (bif Nat.beq pc 32 then some (.areturn, 1, (0, 0, 0, .null)) else none)))
def tr250 (pc : Nat) : Option rI := bif Nat.blt pc 19 then (bif Nat.blt pc 13 then (tr250a pc) else (tr250b pc)) else (bif Nat.blt pc 24 then (tr250c pc) else (tr250d pc))
def tb250 (pc : Nat) : Option rI := bif Nat.blt pc 33 then tr250 pc else none
set_option maxRecDepth 100000 in
theorem ck250_0 : (List.range 33).all (fun i => rck tr250 prog_24_method_121_code pool_20 3 (0 + i)) = true := by decide +kernel
theorem ck250 : ∀ pc, pc < 33 → rck tr250 prog_24_method_121_code pool_20 3 pc = true := (rck_j rck_0 ck250_0)
