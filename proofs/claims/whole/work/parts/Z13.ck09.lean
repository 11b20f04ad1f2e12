/-! the code of the methods 267 to 286 is what the bytes decode to -/
set_option maxRecDepth 100000 in
theorem ck267_0 : (List.range 58).all (fun i => rck tr267 prog_16_method_12_code pool_14 3 (0 + i)) = true := by decide +kernel
theorem ck267 : ∀ pc, pc < 58 → rck tr267 prog_16_method_12_code pool_14 3 pc = true := (rck_j rck_0 ck267_0)
set_option maxRecDepth 100000 in
theorem ck268_0 : (List.range 50).all (fun i => rck tr268 prog_16_method_13_code pool_14 5 (0 + i)) = true := by decide +kernel
theorem ck268 : ∀ pc, pc < 50 → rck tr268 prog_16_method_13_code pool_14 5 pc = true := (rck_j rck_0 ck268_0)
set_option maxRecDepth 100000 in
theorem ck269_0 : (List.range 92).all (fun i => rck tr269 prog_16_method_14_code pool_14 5 (0 + i)) = true := by decide +kernel
theorem ck269 : ∀ pc, pc < 92 → rck tr269 prog_16_method_14_code pool_14 5 pc = true := (rck_j rck_0 ck269_0)
set_option maxRecDepth 100000 in
theorem ck270_0 : (List.range 20).all (fun i => rck tr270 prog_16_method_15_code pool_14 2 (0 + i)) = true := by decide +kernel
theorem ck270 : ∀ pc, pc < 20 → rck tr270 prog_16_method_15_code pool_14 2 pc = true := (rck_j rck_0 ck270_0)
set_option maxRecDepth 100000 in
theorem ck271_0 : (List.range 250).all (fun i => rck tr271 prog_16_method_16_code pool_14 11 (0 + i)) = true := by decide +kernel
set_option maxRecDepth 100000 in
theorem ck271_250 : (List.range 131).all (fun i => rck tr271 prog_16_method_16_code pool_14 11 (250 + i)) = true := by decide +kernel
theorem ck271 : ∀ pc, pc < 381 → rck tr271 prog_16_method_16_code pool_14 11 pc = true := (rck_j (rck_j rck_0 ck271_0) ck271_250)
set_option maxRecDepth 100000 in
theorem ck272_0 : (List.range 250).all (fun i => rck tr272 prog_16_method_17_code pool_14 10 (0 + i)) = true := by decide +kernel
set_option maxRecDepth 100000 in
theorem ck272_250 : (List.range 5).all (fun i => rck tr272 prog_16_method_17_code pool_14 10 (250 + i)) = true := by decide +kernel
theorem ck272 : ∀ pc, pc < 255 → rck tr272 prog_16_method_17_code pool_14 10 pc = true := (rck_j (rck_j rck_0 ck272_0) ck272_250)
set_option maxRecDepth 100000 in
theorem ck273_0 : (List.range 152).all (fun i => rck tr273 prog_16_method_18_code pool_14 7 (0 + i)) = true := by decide +kernel
theorem ck273 : ∀ pc, pc < 152 → rck tr273 prog_16_method_18_code pool_14 7 pc = true := (rck_j rck_0 ck273_0)
set_option maxRecDepth 100000 in
theorem ck274_0 : (List.range 16).all (fun i => rck tr274 prog_16_method_19_code pool_14 1 (0 + i)) = true := by decide +kernel
theorem ck274 : ∀ pc, pc < 16 → rck tr274 prog_16_method_19_code pool_14 1 pc = true := (rck_j rck_0 ck274_0)
set_option maxRecDepth 100000 in
theorem ck275_0 : (List.range 120).all (fun i => rck tr275 prog_16_method_20_code pool_14 6 (0 + i)) = true := by decide +kernel
set_option maxRecDepth 100000 in
theorem ck275_120 : (List.range 120).all (fun i => rck tr275 prog_16_method_20_code pool_14 6 (120 + i)) = true := by decide +kernel
set_option maxRecDepth 100000 in
theorem ck275_240 : (List.range 120).all (fun i => rck tr275 prog_16_method_20_code pool_14 6 (240 + i)) = true := by decide +kernel
set_option maxRecDepth 100000 in
theorem ck275_360 : (List.range 53).all (fun i => rck tr275 prog_16_method_20_code pool_14 6 (360 + i)) = true := by decide +kernel
theorem ck275 : ∀ pc, pc < 413 → rck tr275 prog_16_method_20_code pool_14 6 pc = true := (rck_j (rck_j (rck_j (rck_j rck_0 ck275_0) ck275_120) ck275_240) ck275_360)
set_option maxRecDepth 100000 in
theorem ck276_0 : (List.range 22).all (fun i => rck tr276 prog_16_method_21_code pool_14 1 (0 + i)) = true := by decide +kernel
theorem ck276 : ∀ pc, pc < 22 → rck tr276 prog_16_method_21_code pool_14 1 pc = true := (rck_j rck_0 ck276_0)
set_option maxRecDepth 100000 in
theorem ck277_0 : (List.range 184).all (fun i => rck tr277 prog_16_method_22_code pool_14 2 (0 + i)) = true := by decide +kernel
theorem ck277 : ∀ pc, pc < 184 → rck tr277 prog_16_method_22_code pool_14 2 pc = true := (rck_j rck_0 ck277_0)
set_option maxRecDepth 100000 in
theorem ck278_0 : (List.range 11).all (fun i => rck tr278 prog_16_method_23_code pool_14 3 (0 + i)) = true := by decide +kernel
theorem ck278 : ∀ pc, pc < 11 → rck tr278 prog_16_method_23_code pool_14 3 pc = true := (rck_j rck_0 ck278_0)
set_option maxRecDepth 100000 in
theorem ck279_0 : (List.range 8).all (fun i => rck tr279 prog_16_method_24_code pool_14 2 (0 + i)) = true := by decide +kernel
theorem ck279 : ∀ pc, pc < 8 → rck tr279 prog_16_method_24_code pool_14 2 pc = true := (rck_j rck_0 ck279_0)
set_option maxRecDepth 100000 in
theorem ck280_0 : (List.range 34).all (fun i => rck tr280 prog_16_method_25_code pool_14 6 (0 + i)) = true := by decide +kernel
theorem ck280 : ∀ pc, pc < 34 → rck tr280 prog_16_method_25_code pool_14 6 pc = true := (rck_j rck_0 ck280_0)
set_option maxRecDepth 100000 in
theorem ck281_0 : (List.range 250).all (fun i => rck tr281 prog_16_method_26_code pool_14 17 (0 + i)) = true := by decide +kernel
set_option maxRecDepth 100000 in
theorem ck281_250 : (List.range 142).all (fun i => rck tr281 prog_16_method_26_code pool_14 17 (250 + i)) = true := by decide +kernel
theorem ck281 : ∀ pc, pc < 392 → rck tr281 prog_16_method_26_code pool_14 17 pc = true := (rck_j (rck_j rck_0 ck281_0) ck281_250)
set_option maxRecDepth 100000 in
theorem ck282_0 : (List.range 12).all (fun i => rck tr282 prog_16_method_27_code pool_14 3 (0 + i)) = true := by decide +kernel
theorem ck282 : ∀ pc, pc < 12 → rck tr282 prog_16_method_27_code pool_14 3 pc = true := (rck_j rck_0 ck282_0)
set_option maxRecDepth 100000 in
theorem ck283_0 : (List.range 37).all (fun i => rck tr283 prog_16_method_28_code pool_14 2 (0 + i)) = true := by decide +kernel
theorem ck283 : ∀ pc, pc < 37 → rck tr283 prog_16_method_28_code pool_14 2 pc = true := (rck_j rck_0 ck283_0)
set_option maxRecDepth 100000 in
theorem ck284_0 : (List.range 131).all (fun i => rck tr284 prog_16_method_29_code pool_14 4 (0 + i)) = true := by decide +kernel
theorem ck284 : ∀ pc, pc < 131 → rck tr284 prog_16_method_29_code pool_14 4 pc = true := (rck_j rck_0 ck284_0)
set_option maxRecDepth 100000 in
theorem ck285_0 : (List.range 193).all (fun i => rck tr285 prog_16_method_30_code pool_14 3 (0 + i)) = true := by decide +kernel
theorem ck285 : ∀ pc, pc < 193 → rck tr285 prog_16_method_30_code pool_14 3 pc = true := (rck_j rck_0 ck285_0)
set_option maxRecDepth 100000 in
theorem ck286_0 : (List.range 120).all (fun i => rck tr286 prog_16_method_31_code pool_14 11 (0 + i)) = true := by decide +kernel
set_option maxRecDepth 100000 in
theorem ck286_120 : (List.range 120).all (fun i => rck tr286 prog_16_method_31_code pool_14 11 (120 + i)) = true := by decide +kernel
set_option maxRecDepth 100000 in
theorem ck286_240 : (List.range 120).all (fun i => rck tr286 prog_16_method_31_code pool_14 11 (240 + i)) = true := by decide +kernel
set_option maxRecDepth 100000 in
theorem ck286_360 : (List.range 120).all (fun i => rck tr286 prog_16_method_31_code pool_14 11 (360 + i)) = true := by decide +kernel
set_option maxRecDepth 100000 in
theorem ck286_480 : (List.range 57).all (fun i => rck tr286 prog_16_method_31_code pool_14 11 (480 + i)) = true := by decide +kernel
theorem ck286 : ∀ pc, pc < 537 → rck tr286 prog_16_method_31_code pool_14 11 pc = true := (rck_j (rck_j (rck_j (rck_j (rck_j rck_0 ck286_0) ck286_120) ck286_240) ck286_360) ck286_480)
