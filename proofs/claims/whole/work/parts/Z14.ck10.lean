/-! the code of the methods 287 to 299 is what the bytes decode to -/
set_option maxRecDepth 100000 in
theorem ck287_0 : (List.range 36).all (fun i => rck tr287 prog_16_method_32_code pool_14 1 (0 + i)) = true := by decide +kernel
theorem ck287 : ∀ pc, pc < 36 → rck tr287 prog_16_method_32_code pool_14 1 pc = true := (rck_j rck_0 ck287_0)
set_option maxRecDepth 100000 in
theorem ck288_0 : (List.range 218).all (fun i => rck tr288 prog_16_method_33_code pool_14 8 (0 + i)) = true := by decide +kernel
theorem ck288 : ∀ pc, pc < 218 → rck tr288 prog_16_method_33_code pool_14 8 pc = true := (rck_j rck_0 ck288_0)
set_option maxRecDepth 100000 in
theorem ck289_0 : (List.range 233).all (fun i => rck tr289 prog_16_method_34_code pool_14 5 (0 + i)) = true := by decide +kernel
theorem ck289 : ∀ pc, pc < 233 → rck tr289 prog_16_method_34_code pool_14 5 pc = true := (rck_j rck_0 ck289_0)
set_option maxRecDepth 100000 in
theorem ck290_0 : (List.range 53).all (fun i => rck tr290 prog_16_method_35_code pool_14 1 (0 + i)) = true := by decide +kernel
theorem ck290 : ∀ pc, pc < 53 → rck tr290 prog_16_method_35_code pool_14 1 pc = true := (rck_j rck_0 ck290_0)
set_option maxRecDepth 100000 in
theorem ck291_0 : (List.range 120).all (fun i => rck tr291 prog_16_method_36_code pool_14 14 (0 + i)) = true := by decide +kernel
set_option maxRecDepth 100000 in
theorem ck291_120 : (List.range 120).all (fun i => rck tr291 prog_16_method_36_code pool_14 14 (120 + i)) = true := by decide +kernel
set_option maxRecDepth 100000 in
theorem ck291_240 : (List.range 120).all (fun i => rck tr291 prog_16_method_36_code pool_14 14 (240 + i)) = true := by decide +kernel
set_option maxRecDepth 100000 in
theorem ck291_360 : (List.range 120).all (fun i => rck tr291 prog_16_method_36_code pool_14 14 (360 + i)) = true := by decide +kernel
set_option maxRecDepth 100000 in
theorem ck291_480 : (List.range 69).all (fun i => rck tr291 prog_16_method_36_code pool_14 14 (480 + i)) = true := by decide +kernel
theorem ck291 : ∀ pc, pc < 549 → rck tr291 prog_16_method_36_code pool_14 14 pc = true := (rck_j (rck_j (rck_j (rck_j (rck_j rck_0 ck291_0) ck291_120) ck291_240) ck291_360) ck291_480)
set_option maxRecDepth 100000 in
theorem ck292_0 : (List.range 174).all (fun i => rck tr292 prog_16_method_37_code pool_14 10 (0 + i)) = true := by decide +kernel
theorem ck292 : ∀ pc, pc < 174 → rck tr292 prog_16_method_37_code pool_14 10 pc = true := (rck_j rck_0 ck292_0)
set_option maxRecDepth 100000 in
theorem ck293_0 : (List.range 250).all (fun i => rck tr293 prog_16_method_38_code pool_14 8 (0 + i)) = true := by decide +kernel
set_option maxRecDepth 100000 in
theorem ck293_250 : (List.range 86).all (fun i => rck tr293 prog_16_method_38_code pool_14 8 (250 + i)) = true := by decide +kernel
theorem ck293 : ∀ pc, pc < 336 → rck tr293 prog_16_method_38_code pool_14 8 pc = true := (rck_j (rck_j rck_0 ck293_0) ck293_250)
set_option maxRecDepth 100000 in
theorem ck294_0 : (List.range 75).all (fun i => rck tr294 prog_16_method_39_code pool_14 1 (0 + i)) = true := by decide +kernel
theorem ck294 : ∀ pc, pc < 75 → rck tr294 prog_16_method_39_code pool_14 1 pc = true := (rck_j rck_0 ck294_0)
set_option maxRecDepth 100000 in
theorem ck295_0 : (List.range 55).all (fun i => rck tr295 prog_16_method_40_code pool_14 1 (0 + i)) = true := by decide +kernel
theorem ck295 : ∀ pc, pc < 55 → rck tr295 prog_16_method_40_code pool_14 1 pc = true := (rck_j rck_0 ck295_0)
set_option maxRecDepth 100000 in
theorem ck296_0 : (List.range 96).all (fun i => rck tr296 prog_16_method_41_code pool_14 1 (0 + i)) = true := by decide +kernel
theorem ck296 : ∀ pc, pc < 96 → rck tr296 prog_16_method_41_code pool_14 1 pc = true := (rck_j rck_0 ck296_0)
set_option maxRecDepth 100000 in
theorem ck297_0 : (List.range 65).all (fun i => rck tr297 prog_16_method_42_code pool_14 1 (0 + i)) = true := by decide +kernel
theorem ck297 : ∀ pc, pc < 65 → rck tr297 prog_16_method_42_code pool_14 1 pc = true := (rck_j rck_0 ck297_0)
set_option maxRecDepth 100000 in
theorem ck298_0 : (List.range 120).all (fun i => rck tr298 prog_16_method_43_code pool_14 19 (0 + i)) = true := by decide +kernel
set_option maxRecDepth 100000 in
theorem ck298_120 : (List.range 120).all (fun i => rck tr298 prog_16_method_43_code pool_14 19 (120 + i)) = true := by decide +kernel
set_option maxRecDepth 100000 in
theorem ck298_240 : (List.range 120).all (fun i => rck tr298 prog_16_method_43_code pool_14 19 (240 + i)) = true := by decide +kernel
set_option maxRecDepth 100000 in
theorem ck298_360 : (List.range 120).all (fun i => rck tr298 prog_16_method_43_code pool_14 19 (360 + i)) = true := by decide +kernel
set_option maxRecDepth 100000 in
theorem ck298_480 : (List.range 120).all (fun i => rck tr298 prog_16_method_43_code pool_14 19 (480 + i)) = true := by decide +kernel
set_option maxRecDepth 100000 in
theorem ck298_600 : (List.range 40).all (fun i => rck tr298 prog_16_method_43_code pool_14 19 (600 + i)) = true := by decide +kernel
theorem ck298 : ∀ pc, pc < 640 → rck tr298 prog_16_method_43_code pool_14 19 pc = true := (rck_j (rck_j (rck_j (rck_j (rck_j (rck_j rck_0 ck298_0) ck298_120) ck298_240) ck298_360) ck298_480) ck298_600)
set_option maxRecDepth 100000 in
theorem ck299_0 : (List.range 149).all (fun i => rck tr299 prog_16_method_44_code pool_14 8 (0 + i)) = true := by decide +kernel
theorem ck299 : ∀ pc, pc < 149 → rck tr299 prog_16_method_44_code pool_14 8 pc = true := (rck_j rck_0 ck299_0)
