/-! the code of the methods 373 to 397 is what the bytes decode to -/
set_option maxRecDepth 100000 in
theorem ck373_0 : (List.range 37).all (fun i => rck tr373 prog_19_method_21_code pool_17 2 (0 + i)) = true := by decide +kernel
theorem ck373 : ∀ pc, pc < 37 → rck tr373 prog_19_method_21_code pool_17 2 pc = true := (rck_j rck_0 ck373_0)
set_option maxRecDepth 100000 in
theorem ck374_0 : (List.range 101).all (fun i => rck tr374 prog_19_method_22_code pool_17 4 (0 + i)) = true := by decide +kernel
theorem ck374 : ∀ pc, pc < 101 → rck tr374 prog_19_method_22_code pool_17 4 pc = true := (rck_j rck_0 ck374_0)
set_option maxRecDepth 100000 in
theorem ck375_0 : (List.range 25).all (fun i => rck tr375 prog_19_method_23_code pool_17 1 (0 + i)) = true := by decide +kernel
theorem ck375 : ∀ pc, pc < 25 → rck tr375 prog_19_method_23_code pool_17 1 pc = true := (rck_j rck_0 ck375_0)
set_option maxRecDepth 100000 in
theorem ck376_0 : (List.range 30).all (fun i => rck tr376 prog_19_method_24_code pool_17 2 (0 + i)) = true := by decide +kernel
theorem ck376 : ∀ pc, pc < 30 → rck tr376 prog_19_method_24_code pool_17 2 pc = true := (rck_j rck_0 ck376_0)
set_option maxRecDepth 100000 in
theorem ck377_0 : (List.range 32).all (fun i => rck tr377 prog_19_method_25_code pool_17 5 (0 + i)) = true := by decide +kernel
theorem ck377 : ∀ pc, pc < 32 → rck tr377 prog_19_method_25_code pool_17 5 pc = true := (rck_j rck_0 ck377_0)
set_option maxRecDepth 100000 in
theorem ck378_0 : (List.range 120).all (fun i => rck tr378 prog_19_method_26_code pool_17 12 (0 + i)) = true := by decide +kernel
set_option maxRecDepth 100000 in
theorem ck378_120 : (List.range 120).all (fun i => rck tr378 prog_19_method_26_code pool_17 12 (120 + i)) = true := by decide +kernel
set_option maxRecDepth 100000 in
theorem ck378_240 : (List.range 120).all (fun i => rck tr378 prog_19_method_26_code pool_17 12 (240 + i)) = true := by decide +kernel
set_option maxRecDepth 100000 in
theorem ck378_360 : (List.range 55).all (fun i => rck tr378 prog_19_method_26_code pool_17 12 (360 + i)) = true := by decide +kernel
theorem ck378 : ∀ pc, pc < 415 → rck tr378 prog_19_method_26_code pool_17 12 pc = true := (rck_j (rck_j (rck_j (rck_j rck_0 ck378_0) ck378_120) ck378_240) ck378_360)
set_option maxRecDepth 100000 in
theorem ck379_0 : (List.range 22).all (fun i => rck tr379 prog_19_method_27_code pool_17 2 (0 + i)) = true := by decide +kernel
theorem ck379 : ∀ pc, pc < 22 → rck tr379 prog_19_method_27_code pool_17 2 pc = true := (rck_j rck_0 ck379_0)
set_option maxRecDepth 100000 in
theorem ck380_0 : (List.range 39).all (fun i => rck tr380 prog_19_method_28_code pool_17 6 (0 + i)) = true := by decide +kernel
theorem ck380 : ∀ pc, pc < 39 → rck tr380 prog_19_method_28_code pool_17 6 pc = true := (rck_j rck_0 ck380_0)
set_option maxRecDepth 100000 in
theorem ck381_0 : (List.range 10).all (fun i => rck tr381 prog_19_method_29_code pool_17 3 (0 + i)) = true := by decide +kernel
theorem ck381 : ∀ pc, pc < 10 → rck tr381 prog_19_method_29_code pool_17 3 pc = true := (rck_j rck_0 ck381_0)
set_option maxRecDepth 100000 in
theorem ck382_0 : (List.range 179).all (fun i => rck tr382 prog_19_method_30_code pool_17 6 (0 + i)) = true := by decide +kernel
theorem ck382 : ∀ pc, pc < 179 → rck tr382 prog_19_method_30_code pool_17 6 pc = true := (rck_j rck_0 ck382_0)
set_option maxRecDepth 100000 in
theorem ck383_0 : (List.range 120).all (fun i => rck tr383 prog_19_method_31_code pool_17 11 (0 + i)) = true := by decide +kernel
set_option maxRecDepth 100000 in
theorem ck383_120 : (List.range 120).all (fun i => rck tr383 prog_19_method_31_code pool_17 11 (120 + i)) = true := by decide +kernel
set_option maxRecDepth 100000 in
theorem ck383_240 : (List.range 120).all (fun i => rck tr383 prog_19_method_31_code pool_17 11 (240 + i)) = true := by decide +kernel
set_option maxRecDepth 100000 in
theorem ck383_360 : (List.range 120).all (fun i => rck tr383 prog_19_method_31_code pool_17 11 (360 + i)) = true := by decide +kernel
set_option maxRecDepth 100000 in
theorem ck383_480 : (List.range 35).all (fun i => rck tr383 prog_19_method_31_code pool_17 11 (480 + i)) = true := by decide +kernel
theorem ck383 : ∀ pc, pc < 515 → rck tr383 prog_19_method_31_code pool_17 11 pc = true := (rck_j (rck_j (rck_j (rck_j (rck_j rck_0 ck383_0) ck383_120) ck383_240) ck383_360) ck383_480)
set_option maxRecDepth 100000 in
theorem ck384_0 : (List.range 120).all (fun i => rck tr384 prog_19_method_32_code pool_17 17 (0 + i)) = true := by decide +kernel
set_option maxRecDepth 100000 in
theorem ck384_120 : (List.range 120).all (fun i => rck tr384 prog_19_method_32_code pool_17 17 (120 + i)) = true := by decide +kernel
set_option maxRecDepth 100000 in
theorem ck384_240 : (List.range 120).all (fun i => rck tr384 prog_19_method_32_code pool_17 17 (240 + i)) = true := by decide +kernel
set_option maxRecDepth 100000 in
theorem ck384_360 : (List.range 64).all (fun i => rck tr384 prog_19_method_32_code pool_17 17 (360 + i)) = true := by decide +kernel
theorem ck384 : ∀ pc, pc < 424 → rck tr384 prog_19_method_32_code pool_17 17 pc = true := (rck_j (rck_j (rck_j (rck_j rck_0 ck384_0) ck384_120) ck384_240) ck384_360)
set_option maxRecDepth 100000 in
theorem ck385_0 : (List.range 86).all (fun i => rck tr385 prog_19_method_33_code pool_17 3 (0 + i)) = true := by decide +kernel
theorem ck385 : ∀ pc, pc < 86 → rck tr385 prog_19_method_33_code pool_17 3 pc = true := (rck_j rck_0 ck385_0)
set_option maxRecDepth 100000 in
theorem ck386_0 : (List.range 250).all (fun i => rck tr386 prog_20_method_1_code pool_18 2 (0 + i)) = true := by decide +kernel
set_option maxRecDepth 100000 in
theorem ck386_250 : (List.range 106).all (fun i => rck tr386 prog_20_method_1_code pool_18 2 (250 + i)) = true := by decide +kernel
theorem ck386 : ∀ pc, pc < 356 → rck tr386 prog_20_method_1_code pool_18 2 pc = true := (rck_j (rck_j rck_0 ck386_0) ck386_250)
set_option maxRecDepth 100000 in
theorem ck387_0 : (List.range 11).all (fun i => rck tr387 prog_20_method_2_code pool_18 3 (0 + i)) = true := by decide +kernel
theorem ck387 : ∀ pc, pc < 11 → rck tr387 prog_20_method_2_code pool_18 3 pc = true := (rck_j rck_0 ck387_0)
set_option maxRecDepth 100000 in
theorem ck388_0 : (List.range 145).all (fun i => rck tr388 prog_20_method_3_code pool_18 3 (0 + i)) = true := by decide +kernel
theorem ck388 : ∀ pc, pc < 145 → rck tr388 prog_20_method_3_code pool_18 3 pc = true := (rck_j rck_0 ck388_0)
set_option maxRecDepth 100000 in
theorem ck389_0 : (List.range 71).all (fun i => rck tr389 prog_20_method_4_code pool_18 4 (0 + i)) = true := by decide +kernel
theorem ck389 : ∀ pc, pc < 71 → rck tr389 prog_20_method_4_code pool_18 4 pc = true := (rck_j rck_0 ck389_0)
set_option maxRecDepth 100000 in
theorem ck390_0 : (List.range 24).all (fun i => rck tr390 prog_20_method_5_code pool_18 1 (0 + i)) = true := by decide +kernel
theorem ck390 : ∀ pc, pc < 24 → rck tr390 prog_20_method_5_code pool_18 1 pc = true := (rck_j rck_0 ck390_0)
set_option maxRecDepth 100000 in
theorem ck391_0 : (List.range 39).all (fun i => rck tr391 prog_20_method_6_code pool_18 2 (0 + i)) = true := by decide +kernel
theorem ck391 : ∀ pc, pc < 39 → rck tr391 prog_20_method_6_code pool_18 2 pc = true := (rck_j rck_0 ck391_0)
set_option maxRecDepth 100000 in
theorem ck392_0 : (List.range 34).all (fun i => rck tr392 prog_20_method_7_code pool_18 2 (0 + i)) = true := by decide +kernel
theorem ck392 : ∀ pc, pc < 34 → rck tr392 prog_20_method_7_code pool_18 2 pc = true := (rck_j rck_0 ck392_0)
set_option maxRecDepth 100000 in
theorem ck393_0 : (List.range 32).all (fun i => rck tr393 prog_20_method_8_code pool_18 5 (0 + i)) = true := by decide +kernel
theorem ck393 : ∀ pc, pc < 32 → rck tr393 prog_20_method_8_code pool_18 5 pc = true := (rck_j rck_0 ck393_0)
set_option maxRecDepth 100000 in
theorem ck394_0 : (List.range 30).all (fun i => rck tr394 prog_20_method_9_code pool_18 2 (0 + i)) = true := by decide +kernel
theorem ck394 : ∀ pc, pc < 30 → rck tr394 prog_20_method_9_code pool_18 2 pc = true := (rck_j rck_0 ck394_0)
set_option maxRecDepth 100000 in
theorem ck395_0 : (List.range 61).all (fun i => rck tr395 prog_20_method_10_code pool_18 2 (0 + i)) = true := by decide +kernel
theorem ck395 : ∀ pc, pc < 61 → rck tr395 prog_20_method_10_code pool_18 2 pc = true := (rck_j rck_0 ck395_0)
set_option maxRecDepth 100000 in
theorem ck396_0 : (List.range 39).all (fun i => rck tr396 prog_20_method_11_code pool_18 5 (0 + i)) = true := by decide +kernel
theorem ck396 : ∀ pc, pc < 39 → rck tr396 prog_20_method_11_code pool_18 5 pc = true := (rck_j rck_0 ck396_0)
set_option maxRecDepth 100000 in
theorem ck397_0 : (List.range 157).all (fun i => rck tr397 prog_20_method_12_code pool_18 8 (0 + i)) = true := by decide +kernel
theorem ck397 : ∀ pc, pc < 157 → rck tr397 prog_20_method_12_code pool_18 8 pc = true := (rck_j rck_0 ck397_0)
