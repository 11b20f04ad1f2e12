/-! the code of the methods 423 to 449 is what the bytes decode to -/
set_option maxRecDepth 100000 in
theorem ck423_0 : (List.range 202).all (fun i => rck tr423 prog_20_method_38_code pool_18 6 (0 + i)) = true := by decide +kernel
theorem ck423 : ∀ pc, pc < 202 → rck tr423 prog_20_method_38_code pool_18 6 pc = true := (rck_j rck_0 ck423_0)
set_option maxRecDepth 100000 in
theorem ck424_0 : (List.range 41).all (fun i => rck tr424 prog_20_method_39_code pool_18 6 (0 + i)) = true := by decide +kernel
theorem ck424 : ∀ pc, pc < 41 → rck tr424 prog_20_method_39_code pool_18 6 pc = true := (rck_j rck_0 ck424_0)
set_option maxRecDepth 100000 in
theorem ck425_0 : (List.range 55).all (fun i => rck tr425 prog_20_method_40_code pool_18 3 (0 + i)) = true := by decide +kernel
theorem ck425 : ∀ pc, pc < 55 → rck tr425 prog_20_method_40_code pool_18 3 pc = true := (rck_j rck_0 ck425_0)
set_option maxRecDepth 100000 in
theorem ck426_0 : (List.range 31).all (fun i => rck tr426 prog_20_method_41_code pool_18 3 (0 + i)) = true := by decide +kernel
theorem ck426 : ∀ pc, pc < 31 → rck tr426 prog_20_method_41_code pool_18 3 pc = true := (rck_j rck_0 ck426_0)
set_option maxRecDepth 100000 in
theorem ck427_0 : (List.range 23).all (fun i => rck tr427 prog_20_method_42_code pool_18 1 (0 + i)) = true := by decide +kernel
theorem ck427 : ∀ pc, pc < 23 → rck tr427 prog_20_method_42_code pool_18 1 pc = true := (rck_j rck_0 ck427_0)
set_option maxRecDepth 100000 in
theorem ck428_0 : (List.range 20).all (fun i => rck tr428 prog_20_method_43_code pool_18 1 (0 + i)) = true := by decide +kernel
theorem ck428 : ∀ pc, pc < 20 → rck tr428 prog_20_method_43_code pool_18 1 pc = true := (rck_j rck_0 ck428_0)
set_option maxRecDepth 100000 in
theorem ck429_0 : (List.range 63).all (fun i => rck tr429 prog_20_method_44_code pool_18 3 (0 + i)) = true := by decide +kernel
theorem ck429 : ∀ pc, pc < 63 → rck tr429 prog_20_method_44_code pool_18 3 pc = true := (rck_j rck_0 ck429_0)
set_option maxRecDepth 100000 in
theorem ck430_0 : (List.range 79).all (fun i => rck tr430 prog_20_method_45_code pool_18 7 (0 + i)) = true := by decide +kernel
theorem ck430 : ∀ pc, pc < 79 → rck tr430 prog_20_method_45_code pool_18 7 pc = true := (rck_j rck_0 ck430_0)
set_option maxRecDepth 100000 in
theorem ck431_0 : (List.range 81).all (fun i => rck tr431 prog_20_method_46_code pool_18 6 (0 + i)) = true := by decide +kernel
theorem ck431 : ∀ pc, pc < 81 → rck tr431 prog_20_method_46_code pool_18 6 pc = true := (rck_j rck_0 ck431_0)
set_option maxRecDepth 100000 in
theorem ck432_0 : (List.range 46).all (fun i => rck tr432 prog_20_method_47_code pool_18 2 (0 + i)) = true := by decide +kernel
theorem ck432 : ∀ pc, pc < 46 → rck tr432 prog_20_method_47_code pool_18 2 pc = true := (rck_j rck_0 ck432_0)
set_option maxRecDepth 100000 in
theorem ck433_0 : (List.range 45).all (fun i => rck tr433 prog_20_method_48_code pool_18 2 (0 + i)) = true := by decide +kernel
theorem ck433 : ∀ pc, pc < 45 → rck tr433 prog_20_method_48_code pool_18 2 pc = true := (rck_j rck_0 ck433_0)
set_option maxRecDepth 100000 in
theorem ck434_0 : (List.range 120).all (fun i => rck tr434 prog_20_method_49_code pool_18 10 (0 + i)) = true := by decide +kernel
set_option maxRecDepth 100000 in
theorem ck434_120 : (List.range 120).all (fun i => rck tr434 prog_20_method_49_code pool_18 10 (120 + i)) = true := by decide +kernel
set_option maxRecDepth 100000 in
theorem ck434_240 : (List.range 120).all (fun i => rck tr434 prog_20_method_49_code pool_18 10 (240 + i)) = true := by decide +kernel
set_option maxRecDepth 100000 in
theorem ck434_360 : (List.range 44).all (fun i => rck tr434 prog_20_method_49_code pool_18 10 (360 + i)) = true := by decide +kernel
theorem ck434 : ∀ pc, pc < 404 → rck tr434 prog_20_method_49_code pool_18 10 pc = true := (rck_j (rck_j (rck_j (rck_j rck_0 ck434_0) ck434_120) ck434_240) ck434_360)
set_option maxRecDepth 100000 in
theorem ck435_0 : (List.range 34).all (fun i => rck tr435 prog_20_method_50_code pool_18 4 (0 + i)) = true := by decide +kernel
theorem ck435 : ∀ pc, pc < 34 → rck tr435 prog_20_method_50_code pool_18 4 pc = true := (rck_j rck_0 ck435_0)
set_option maxRecDepth 100000 in
theorem ck436_0 : (List.range 81).all (fun i => rck tr436 prog_20_method_51_code pool_18 3 (0 + i)) = true := by decide +kernel
theorem ck436 : ∀ pc, pc < 81 → rck tr436 prog_20_method_51_code pool_18 3 pc = true := (rck_j rck_0 ck436_0)
set_option maxRecDepth 100000 in
theorem ck437_0 : (List.range 250).all (fun i => rck tr437 prog_20_method_52_code pool_18 11 (0 + i)) = true := by decide +kernel
set_option maxRecDepth 100000 in
theorem ck437_250 : (List.range 39).all (fun i => rck tr437 prog_20_method_52_code pool_18 11 (250 + i)) = true := by decide +kernel
theorem ck437 : ∀ pc, pc < 289 → rck tr437 prog_20_method_52_code pool_18 11 pc = true := (rck_j (rck_j rck_0 ck437_0) ck437_250)
set_option maxRecDepth 100000 in
theorem ck438_0 : (List.range 66).all (fun i => rck tr438 prog_20_method_53_code pool_18 4 (0 + i)) = true := by decide +kernel
theorem ck438 : ∀ pc, pc < 66 → rck tr438 prog_20_method_53_code pool_18 4 pc = true := (rck_j rck_0 ck438_0)
set_option maxRecDepth 100000 in
theorem ck439_0 : (List.range 29).all (fun i => rck tr439 prog_20_method_54_code pool_18 3 (0 + i)) = true := by decide +kernel
theorem ck439 : ∀ pc, pc < 29 → rck tr439 prog_20_method_54_code pool_18 3 pc = true := (rck_j rck_0 ck439_0)
set_option maxRecDepth 100000 in
theorem ck440_0 : (List.range 19).all (fun i => rck tr440 prog_20_method_55_code pool_18 2 (0 + i)) = true := by decide +kernel
theorem ck440 : ∀ pc, pc < 19 → rck tr440 prog_20_method_55_code pool_18 2 pc = true := (rck_j rck_0 ck440_0)
set_option maxRecDepth 100000 in
theorem ck441_0 : (List.range 76).all (fun i => rck tr441 prog_20_method_56_code pool_18 5 (0 + i)) = true := by decide +kernel
theorem ck441 : ∀ pc, pc < 76 → rck tr441 prog_20_method_56_code pool_18 5 pc = true := (rck_j rck_0 ck441_0)
set_option maxRecDepth 100000 in
theorem ck442_0 : (List.range 70).all (fun i => rck tr442 prog_20_method_57_code pool_18 2 (0 + i)) = true := by decide +kernel
theorem ck442 : ∀ pc, pc < 70 → rck tr442 prog_20_method_57_code pool_18 2 pc = true := (rck_j rck_0 ck442_0)
set_option maxRecDepth 100000 in
theorem ck443_0 : (List.range 132).all (fun i => rck tr443 prog_20_method_58_code pool_18 5 (0 + i)) = true := by decide +kernel
theorem ck443 : ∀ pc, pc < 132 → rck tr443 prog_20_method_58_code pool_18 5 pc = true := (rck_j rck_0 ck443_0)
set_option maxRecDepth 100000 in
theorem ck444_0 : (List.range 159).all (fun i => rck tr444 prog_20_method_59_code pool_18 6 (0 + i)) = true := by decide +kernel
theorem ck444 : ∀ pc, pc < 159 → rck tr444 prog_20_method_59_code pool_18 6 pc = true := (rck_j rck_0 ck444_0)
set_option maxRecDepth 100000 in
theorem ck445_0 : (List.range 100).all (fun i => rck tr445 prog_20_method_60_code pool_18 2 (0 + i)) = true := by decide +kernel
theorem ck445 : ∀ pc, pc < 100 → rck tr445 prog_20_method_60_code pool_18 2 pc = true := (rck_j rck_0 ck445_0)
set_option maxRecDepth 100000 in
theorem ck446_0 : (List.range 100).all (fun i => rck tr446 prog_20_method_61_code pool_18 2 (0 + i)) = true := by decide +kernel
theorem ck446 : ∀ pc, pc < 100 → rck tr446 prog_20_method_61_code pool_18 2 pc = true := (rck_j rck_0 ck446_0)
set_option maxRecDepth 100000 in
theorem ck447_0 : (List.range 172).all (fun i => rck tr447 prog_20_method_62_code pool_18 2 (0 + i)) = true := by decide +kernel
theorem ck447 : ∀ pc, pc < 172 → rck tr447 prog_20_method_62_code pool_18 2 pc = true := (rck_j rck_0 ck447_0)
set_option maxRecDepth 100000 in
theorem ck448_0 : (List.range 59).all (fun i => rck tr448 prog_20_method_63_code pool_18 6 (0 + i)) = true := by decide +kernel
theorem ck448 : ∀ pc, pc < 59 → rck tr448 prog_20_method_63_code pool_18 6 pc = true := (rck_j rck_0 ck448_0)
set_option maxRecDepth 100000 in
theorem ck449_0 : (List.range 120).all (fun i => rck tr449 prog_20_method_64_code pool_18 10 (0 + i)) = true := by decide +kernel
set_option maxRecDepth 100000 in
theorem ck449_120 : (List.range 120).all (fun i => rck tr449 prog_20_method_64_code pool_18 10 (120 + i)) = true := by decide +kernel
set_option maxRecDepth 100000 in
theorem ck449_240 : (List.range 120).all (fun i => rck tr449 prog_20_method_64_code pool_18 10 (240 + i)) = true := by decide +kernel
set_option maxRecDepth 100000 in
theorem ck449_360 : (List.range 65).all (fun i => rck tr449 prog_20_method_64_code pool_18 10 (360 + i)) = true := by decide +kernel
theorem ck449 : ∀ pc, pc < 425 → rck tr449 prog_20_method_64_code pool_18 10 pc = true := (rck_j (rck_j (rck_j (rck_j rck_0 ck449_0) ck449_120) ck449_240) ck449_360)
