/-! the code of the methods 398 to 422 is what the bytes decode to -/
set_option maxRecDepth 100000 in
theorem ck398_0 : (List.range 59).all (fun i => rck tr398 prog_20_method_13_code pool_18 4 (0 + i)) = true := by decide +kernel
theorem ck398 : ∀ pc, pc < 59 → rck tr398 prog_20_method_13_code pool_18 4 pc = true := (rck_j rck_0 ck398_0)
set_option maxRecDepth 100000 in
theorem ck399_0 : (List.range 125).all (fun i => rck tr399 prog_20_method_14_code pool_18 5 (0 + i)) = true := by decide +kernel
theorem ck399 : ∀ pc, pc < 125 → rck tr399 prog_20_method_14_code pool_18 5 pc = true := (rck_j rck_0 ck399_0)
set_option maxRecDepth 100000 in
theorem ck400_0 : (List.range 17).all (fun i => rck tr400 prog_20_method_15_code pool_18 2 (0 + i)) = true := by decide +kernel
theorem ck400 : ∀ pc, pc < 17 → rck tr400 prog_20_method_15_code pool_18 2 pc = true := (rck_j rck_0 ck400_0)
set_option maxRecDepth 100000 in
theorem ck401_0 : (List.range 55).all (fun i => rck tr401 prog_20_method_16_code pool_18 1 (0 + i)) = true := by decide +kernel
theorem ck401 : ∀ pc, pc < 55 → rck tr401 prog_20_method_16_code pool_18 1 pc = true := (rck_j rck_0 ck401_0)
set_option maxRecDepth 100000 in
theorem ck402_0 : (List.range 65).all (fun i => rck tr402 prog_20_method_17_code pool_18 1 (0 + i)) = true := by decide +kernel
theorem ck402 : ∀ pc, pc < 65 → rck tr402 prog_20_method_17_code pool_18 1 pc = true := (rck_j rck_0 ck402_0)
set_option maxRecDepth 100000 in
theorem ck403_0 : (List.range 42).all (fun i => rck tr403 prog_20_method_18_code pool_18 6 (0 + i)) = true := by decide +kernel
theorem ck403 : ∀ pc, pc < 42 → rck tr403 prog_20_method_18_code pool_18 6 pc = true := (rck_j rck_0 ck403_0)
set_option maxRecDepth 100000 in
theorem ck404_0 : (List.range 173).all (fun i => rck tr404 prog_20_method_19_code pool_18 5 (0 + i)) = true := by decide +kernel
theorem ck404 : ∀ pc, pc < 173 → rck tr404 prog_20_method_19_code pool_18 5 pc = true := (rck_j rck_0 ck404_0)
set_option maxRecDepth 100000 in
theorem ck405_0 : (List.range 120).all (fun i => rck tr405 prog_20_method_20_code pool_18 6 (0 + i)) = true := by decide +kernel
theorem ck405 : ∀ pc, pc < 120 → rck tr405 prog_20_method_20_code pool_18 6 pc = true := (rck_j rck_0 ck405_0)
set_option maxRecDepth 100000 in
theorem ck406_0 : (List.range 10).all (fun i => rck tr406 prog_20_method_21_code pool_18 1 (0 + i)) = true := by decide +kernel
theorem ck406 : ∀ pc, pc < 10 → rck tr406 prog_20_method_21_code pool_18 1 pc = true := (rck_j rck_0 ck406_0)
set_option maxRecDepth 100000 in
theorem ck407_0 : (List.range 250).all (fun i => rck tr407 prog_20_method_22_code pool_18 11 (0 + i)) = true := by decide +kernel
set_option maxRecDepth 100000 in
theorem ck407_250 : (List.range 24).all (fun i => rck tr407 prog_20_method_22_code pool_18 11 (250 + i)) = true := by decide +kernel
theorem ck407 : ∀ pc, pc < 274 → rck tr407 prog_20_method_22_code pool_18 11 pc = true := (rck_j (rck_j rck_0 ck407_0) ck407_250)
set_option maxRecDepth 100000 in
theorem ck408_0 : (List.range 42).all (fun i => rck tr408 prog_20_method_23_code pool_18 6 (0 + i)) = true := by decide +kernel
theorem ck408 : ∀ pc, pc < 42 → rck tr408 prog_20_method_23_code pool_18 6 pc = true := (rck_j rck_0 ck408_0)
set_option maxRecDepth 100000 in
theorem ck409_0 : (List.range 72).all (fun i => rck tr409 prog_20_method_24_code pool_18 7 (0 + i)) = true := by decide +kernel
theorem ck409 : ∀ pc, pc < 72 → rck tr409 prog_20_method_24_code pool_18 7 pc = true := (rck_j rck_0 ck409_0)
set_option maxRecDepth 100000 in
theorem ck410_0 : (List.range 158).all (fun i => rck tr410 prog_20_method_25_code pool_18 8 (0 + i)) = true := by decide +kernel
theorem ck410 : ∀ pc, pc < 158 → rck tr410 prog_20_method_25_code pool_18 8 pc = true := (rck_j rck_0 ck410_0)
set_option maxRecDepth 100000 in
theorem ck411_0 : (List.range 250).all (fun i => rck tr411 prog_20_method_26_code pool_18 6 (0 + i)) = true := by decide +kernel
set_option maxRecDepth 100000 in
theorem ck411_250 : (List.range 36).all (fun i => rck tr411 prog_20_method_26_code pool_18 6 (250 + i)) = true := by decide +kernel
theorem ck411 : ∀ pc, pc < 286 → rck tr411 prog_20_method_26_code pool_18 6 pc = true := (rck_j (rck_j rck_0 ck411_0) ck411_250)
set_option maxRecDepth 100000 in
theorem ck412_0 : (List.range 186).all (fun i => rck tr412 prog_20_method_27_code pool_18 11 (0 + i)) = true := by decide +kernel
theorem ck412 : ∀ pc, pc < 186 → rck tr412 prog_20_method_27_code pool_18 11 pc = true := (rck_j rck_0 ck412_0)
set_option maxRecDepth 100000 in
theorem ck413_0 : (List.range 85).all (fun i => rck tr413 prog_20_method_28_code pool_18 7 (0 + i)) = true := by decide +kernel
theorem ck413 : ∀ pc, pc < 85 → rck tr413 prog_20_method_28_code pool_18 7 pc = true := (rck_j rck_0 ck413_0)
set_option maxRecDepth 100000 in
theorem ck414_0 : (List.range 85).all (fun i => rck tr414 prog_20_method_29_code pool_18 5 (0 + i)) = true := by decide +kernel
theorem ck414 : ∀ pc, pc < 85 → rck tr414 prog_20_method_29_code pool_18 5 pc = true := (rck_j rck_0 ck414_0)
set_option maxRecDepth 100000 in
theorem ck415_0 : (List.range 40).all (fun i => rck tr415 prog_20_method_30_code pool_18 3 (0 + i)) = true := by decide +kernel
theorem ck415 : ∀ pc, pc < 40 → rck tr415 prog_20_method_30_code pool_18 3 pc = true := (rck_j rck_0 ck415_0)
set_option maxRecDepth 100000 in
theorem ck416_0 : (List.range 29).all (fun i => rck tr416 prog_20_method_31_code pool_18 5 (0 + i)) = true := by decide +kernel
theorem ck416 : ∀ pc, pc < 29 → rck tr416 prog_20_method_31_code pool_18 5 pc = true := (rck_j rck_0 ck416_0)
set_option maxRecDepth 100000 in
theorem ck417_0 : (List.range 155).all (fun i => rck tr417 prog_20_method_32_code pool_18 3 (0 + i)) = true := by decide +kernel
theorem ck417 : ∀ pc, pc < 155 → rck tr417 prog_20_method_32_code pool_18 3 pc = true := (rck_j rck_0 ck417_0)
set_option maxRecDepth 100000 in
theorem ck418_0 : (List.range 64).all (fun i => rck tr418 prog_20_method_33_code pool_18 4 (0 + i)) = true := by decide +kernel
theorem ck418 : ∀ pc, pc < 64 → rck tr418 prog_20_method_33_code pool_18 4 pc = true := (rck_j rck_0 ck418_0)
set_option maxRecDepth 100000 in
theorem ck419_0 : (List.range 223).all (fun i => rck tr419 prog_20_method_34_code pool_18 6 (0 + i)) = true := by decide +kernel
theorem ck419 : ∀ pc, pc < 223 → rck tr419 prog_20_method_34_code pool_18 6 pc = true := (rck_j rck_0 ck419_0)
set_option maxRecDepth 100000 in
theorem ck420_0 : (List.range 105).all (fun i => rck tr420 prog_20_method_35_code pool_18 3 (0 + i)) = true := by decide +kernel
theorem ck420 : ∀ pc, pc < 105 → rck tr420 prog_20_method_35_code pool_18 3 pc = true := (rck_j rck_0 ck420_0)
set_option maxRecDepth 100000 in
theorem ck421_0 : (List.range 24).all (fun i => rck tr421 prog_20_method_36_code pool_18 3 (0 + i)) = true := by decide +kernel
theorem ck421 : ∀ pc, pc < 24 → rck tr421 prog_20_method_36_code pool_18 3 pc = true := (rck_j rck_0 ck421_0)
set_option maxRecDepth 100000 in
theorem ck422_0 : (List.range 250).all (fun i => rck tr422 prog_20_method_37_code pool_18 8 (0 + i)) = true := by decide +kernel
set_option maxRecDepth 100000 in
theorem ck422_250 : (List.range 109).all (fun i => rck tr422 prog_20_method_37_code pool_18 8 (250 + i)) = true := by decide +kernel
theorem ck422 : ∀ pc, pc < 359 → rck tr422 prog_20_method_37_code pool_18 8 pc = true := (rck_j (rck_j rck_0 ck422_0) ck422_250)
