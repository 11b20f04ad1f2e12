/-! the code of the methods 457 to 460 is what the bytes decode to -/
set_option maxRecDepth 100000 in
theorem ck457_0 : (List.range 33).all (fun i => rck tr457 prog_24_method_123_code pool_20 3 (0 + i)) = true := by decide +kernel
theorem ck457 : ∀ pc, pc < 33 → rck tr457 prog_24_method_123_code pool_20 3 pc = true := (rck_j rck_0 ck457_0)
set_option maxRecDepth 100000 in
theorem ck458_0 : (List.range 28).all (fun i => rck tr458 prog_24_method_110_code pool_20 5 (0 + i)) = true := by decide +kernel
theorem ck458 : ∀ pc, pc < 28 → rck tr458 prog_24_method_110_code pool_20 5 pc = true := (rck_j rck_0 ck458_0)
set_option maxRecDepth 100000 in
theorem ck459_0 : (List.range 28).all (fun i => rck tr459 prog_24_method_104_code pool_20 5 (0 + i)) = true := by decide +kernel
theorem ck459 : ∀ pc, pc < 28 → rck tr459 prog_24_method_104_code pool_20 5 pc = true := (rck_j rck_0 ck459_0)
set_option maxRecDepth 100000 in
theorem ck460_0 : (List.range 74).all (fun i => rck tr460 prog_24_method_30_code pool_20 3 (0 + i)) = true := by decide +kernel
theorem ck460 : ∀ pc, pc < 74 → rck tr460 prog_24_method_30_code pool_20 3 pc = true := (rck_j rck_0 ck460_0)
