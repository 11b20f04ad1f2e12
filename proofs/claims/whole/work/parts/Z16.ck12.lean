/-! the code of the methods 342 to 372 is what the bytes decode to -/
set_option maxRecDepth 100000 in
theorem ck342_0 : (List.range 27).all (fun i => rck tr342 prog_18_method_24_code pool_16 1 (0 + i)) = true := by decide +kernel
theorem ck342 : ∀ pc, pc < 27 → rck tr342 prog_18_method_24_code pool_16 1 pc = true := (rck_j rck_0 ck342_0)
set_option maxRecDepth 100000 in
theorem ck343_0 : (List.range 48).all (fun i => rck tr343 prog_18_method_25_code pool_16 1 (0 + i)) = true := by decide +kernel
theorem ck343 : ∀ pc, pc < 48 → rck tr343 prog_18_method_25_code pool_16 1 pc = true := (rck_j rck_0 ck343_0)
set_option maxRecDepth 100000 in
theorem ck344_0 : (List.range 14).all (fun i => rck tr344 prog_18_method_26_code pool_16 2 (0 + i)) = true := by decide +kernel
theorem ck344 : ∀ pc, pc < 14 → rck tr344 prog_18_method_26_code pool_16 2 pc = true := (rck_j rck_0 ck344_0)
set_option maxRecDepth 100000 in
theorem ck345_0 : (List.range 85).all (fun i => rck tr345 prog_18_method_27_code pool_16 7 (0 + i)) = true := by decide +kernel
theorem ck345 : ∀ pc, pc < 85 → rck tr345 prog_18_method_27_code pool_16 7 pc = true := (rck_j rck_0 ck345_0)
set_option maxRecDepth 100000 in
theorem ck346_0 : (List.range 52).all (fun i => rck tr346 prog_18_method_28_code pool_16 1 (0 + i)) = true := by decide +kernel
theorem ck346 : ∀ pc, pc < 52 → rck tr346 prog_18_method_28_code pool_16 1 pc = true := (rck_j rck_0 ck346_0)
set_option maxRecDepth 100000 in
theorem ck347_0 : (List.range 140).all (fun i => rck tr347 prog_18_method_29_code pool_16 8 (0 + i)) = true := by decide +kernel
theorem ck347 : ∀ pc, pc < 140 → rck tr347 prog_18_method_29_code pool_16 8 pc = true := (rck_j rck_0 ck347_0)
set_option maxRecDepth 100000 in
theorem ck348_0 : (List.range 158).all (fun i => rck tr348 prog_18_method_30_code pool_16 6 (0 + i)) = true := by decide +kernel
theorem ck348 : ∀ pc, pc < 158 → rck tr348 prog_18_method_30_code pool_16 6 pc = true := (rck_j rck_0 ck348_0)
set_option maxRecDepth 100000 in
theorem ck349_0 : (List.range 14).all (fun i => rck tr349 prog_18_method_31_code pool_16 2 (0 + i)) = true := by decide +kernel
theorem ck349 : ∀ pc, pc < 14 → rck tr349 prog_18_method_31_code pool_16 2 pc = true := (rck_j rck_0 ck349_0)
set_option maxRecDepth 100000 in
theorem ck350_0 : (List.range 250).all (fun i => rck tr350 prog_18_method_32_code pool_16 6 (0 + i)) = true := by decide +kernel
set_option maxRecDepth 100000 in
theorem ck350_250 : (List.range 20).all (fun i => rck tr350 prog_18_method_32_code pool_16 6 (250 + i)) = true := by decide +kernel
theorem ck350 : ∀ pc, pc < 270 → rck tr350 prog_18_method_32_code pool_16 6 pc = true := (rck_j (rck_j rck_0 ck350_0) ck350_250)
set_option maxRecDepth 100000 in
theorem ck351_0 : (List.range 211).all (fun i => rck tr351 prog_18_method_33_code pool_16 7 (0 + i)) = true := by decide +kernel
theorem ck351 : ∀ pc, pc < 211 → rck tr351 prog_18_method_33_code pool_16 7 pc = true := (rck_j rck_0 ck351_0)
set_option maxRecDepth 100000 in
theorem ck352_0 : (List.range 59).all (fun i => rck tr352 prog_18_method_34_code pool_16 4 (0 + i)) = true := by decide +kernel
theorem ck352 : ∀ pc, pc < 59 → rck tr352 prog_18_method_34_code pool_16 4 pc = true := (rck_j rck_0 ck352_0)
set_option maxRecDepth 100000 in
theorem ck353_0 : (List.range 66).all (fun i => rck tr353 prog_19_method_1_code pool_17 2 (0 + i)) = true := by decide +kernel
theorem ck353 : ∀ pc, pc < 66 → rck tr353 prog_19_method_1_code pool_17 2 pc = true := (rck_j rck_0 ck353_0)
set_option maxRecDepth 100000 in
theorem ck354_0 : (List.range 46).all (fun i => rck tr354 prog_19_method_2_code pool_17 2 (0 + i)) = true := by decide +kernel
theorem ck354 : ∀ pc, pc < 46 → rck tr354 prog_19_method_2_code pool_17 2 pc = true := (rck_j rck_0 ck354_0)
set_option maxRecDepth 100000 in
theorem ck355_0 : (List.range 6).all (fun i => rck tr355 prog_19_method_3_code pool_17 1 (0 + i)) = true := by decide +kernel
theorem ck355 : ∀ pc, pc < 6 → rck tr355 prog_19_method_3_code pool_17 1 pc = true := (rck_j rck_0 ck355_0)
set_option maxRecDepth 100000 in
theorem ck356_0 : (List.range 15).all (fun i => rck tr356 prog_19_method_4_code pool_17 3 (0 + i)) = true := by decide +kernel
theorem ck356 : ∀ pc, pc < 15 → rck tr356 prog_19_method_4_code pool_17 3 pc = true := (rck_j rck_0 ck356_0)
set_option maxRecDepth 100000 in
theorem ck357_0 : (List.range 8).all (fun i => rck tr357 prog_19_method_5_code pool_17 4 (0 + i)) = true := by decide +kernel
theorem ck357 : ∀ pc, pc < 8 → rck tr357 prog_19_method_5_code pool_17 4 pc = true := (rck_j rck_0 ck357_0)
set_option maxRecDepth 100000 in
theorem ck358_0 : (List.range 35).all (fun i => rck tr358 prog_19_method_6_code pool_17 2 (0 + i)) = true := by decide +kernel
theorem ck358 : ∀ pc, pc < 35 → rck tr358 prog_19_method_6_code pool_17 2 pc = true := (rck_j rck_0 ck358_0)
set_option maxRecDepth 100000 in
theorem ck359_0 : (List.range 250).all (fun i => rck tr359 prog_19_method_7_code pool_17 19 (0 + i)) = true := by decide +kernel
set_option maxRecDepth 100000 in
theorem ck359_250 : (List.range 96).all (fun i => rck tr359 prog_19_method_7_code pool_17 19 (250 + i)) = true := by decide +kernel
theorem ck359 : ∀ pc, pc < 346 → rck tr359 prog_19_method_7_code pool_17 19 pc = true := (rck_j (rck_j rck_0 ck359_0) ck359_250)
set_option maxRecDepth 100000 in
theorem ck360_0 : (List.range 39).all (fun i => rck tr360 prog_19_method_8_code pool_17 5 (0 + i)) = true := by decide +kernel
theorem ck360 : ∀ pc, pc < 39 → rck tr360 prog_19_method_8_code pool_17 5 pc = true := (rck_j rck_0 ck360_0)
set_option maxRecDepth 100000 in
theorem ck361_0 : (List.range 176).all (fun i => rck tr361 prog_19_method_9_code pool_17 8 (0 + i)) = true := by decide +kernel
theorem ck361 : ∀ pc, pc < 176 → rck tr361 prog_19_method_9_code pool_17 8 pc = true := (rck_j rck_0 ck361_0)
set_option maxRecDepth 100000 in
theorem ck362_0 : (List.range 59).all (fun i => rck tr362 prog_19_method_10_code pool_17 5 (0 + i)) = true := by decide +kernel
theorem ck362 : ∀ pc, pc < 59 → rck tr362 prog_19_method_10_code pool_17 5 pc = true := (rck_j rck_0 ck362_0)
set_option maxRecDepth 100000 in
theorem ck363_0 : (List.range 30).all (fun i => rck tr363 prog_19_method_11_code pool_17 2 (0 + i)) = true := by decide +kernel
theorem ck363 : ∀ pc, pc < 30 → rck tr363 prog_19_method_11_code pool_17 2 pc = true := (rck_j rck_0 ck363_0)
set_option maxRecDepth 100000 in
theorem ck364_0 : (List.range 38).all (fun i => rck tr364 prog_19_method_12_code pool_17 3 (0 + i)) = true := by decide +kernel
theorem ck364 : ∀ pc, pc < 38 → rck tr364 prog_19_method_12_code pool_17 3 pc = true := (rck_j rck_0 ck364_0)
set_option maxRecDepth 100000 in
theorem ck365_0 : (List.range 118).all (fun i => rck tr365 prog_19_method_13_code pool_17 8 (0 + i)) = true := by decide +kernel
theorem ck365 : ∀ pc, pc < 118 → rck tr365 prog_19_method_13_code pool_17 8 pc = true := (rck_j rck_0 ck365_0)
set_option maxRecDepth 100000 in
theorem ck366_0 : (List.range 80).all (fun i => rck tr366 prog_19_method_14_code pool_17 6 (0 + i)) = true := by decide +kernel
theorem ck366 : ∀ pc, pc < 80 → rck tr366 prog_19_method_14_code pool_17 6 pc = true := (rck_j rck_0 ck366_0)
set_option maxRecDepth 100000 in
theorem ck367_0 : (List.range 37).all (fun i => rck tr367 prog_19_method_15_code pool_17 2 (0 + i)) = true := by decide +kernel
theorem ck367 : ∀ pc, pc < 37 → rck tr367 prog_19_method_15_code pool_17 2 pc = true := (rck_j rck_0 ck367_0)
set_option maxRecDepth 100000 in
theorem ck368_0 : (List.range 42).all (fun i => rck tr368 prog_19_method_16_code pool_17 4 (0 + i)) = true := by decide +kernel
theorem ck368 : ∀ pc, pc < 42 → rck tr368 prog_19_method_16_code pool_17 4 pc = true := (rck_j rck_0 ck368_0)
set_option maxRecDepth 100000 in
theorem ck369_0 : (List.range 43).all (fun i => rck tr369 prog_19_method_17_code pool_17 4 (0 + i)) = true := by decide +kernel
theorem ck369 : ∀ pc, pc < 43 → rck tr369 prog_19_method_17_code pool_17 4 pc = true := (rck_j rck_0 ck369_0)
set_option maxRecDepth 100000 in
theorem ck370_0 : (List.range 49).all (fun i => rck tr370 prog_19_method_18_code pool_17 2 (0 + i)) = true := by decide +kernel
theorem ck370 : ∀ pc, pc < 49 → rck tr370 prog_19_method_18_code pool_17 2 pc = true := (rck_j rck_0 ck370_0)
set_option maxRecDepth 100000 in
theorem ck371_0 : (List.range 91).all (fun i => rck tr371 prog_19_method_19_code pool_17 4 (0 + i)) = true := by decide +kernel
theorem ck371 : ∀ pc, pc < 91 → rck tr371 prog_19_method_19_code pool_17 4 pc = true := (rck_j rck_0 ck371_0)
set_option maxRecDepth 100000 in
theorem ck372_0 : (List.range 250).all (fun i => rck tr372 prog_19_method_20_code pool_17 9 (0 + i)) = true := by decide +kernel
set_option maxRecDepth 100000 in
theorem ck372_250 : (List.range 102).all (fun i => rck tr372 prog_19_method_20_code pool_17 9 (250 + i)) = true := by decide +kernel
theorem ck372 : ∀ pc, pc < 352 → rck tr372 prog_19_method_20_code pool_17 9 pc = true := (rck_j (rck_j rck_0 ck372_0) ck372_250)
