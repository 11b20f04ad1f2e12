/-! the code of the methods 450 to 456 is what the bytes decode to -/
set_option maxRecDepth 100000 in
theorem ck450_0 : (List.range 120).all (fun i => rck tr450 prog_20_method_65_code pool_18 16 (0 + i)) = true := by decide +kernel
set_option maxRecDepth 100000 in
theorem ck450_120 : (List.range 120).all (fun i => rck tr450 prog_20_method_65_code pool_18 16 (120 + i)) = true := by decide +kernel
set_option maxRecDepth 100000 in
theorem ck450_240 : (List.range 120).all (fun i => rck tr450 prog_20_method_65_code pool_18 16 (240 + i)) = true := by decide +kernel
set_option maxRecDepth 100000 in
theorem ck450_360 : (List.range 120).all (fun i => rck tr450 prog_20_method_65_code pool_18 16 (360 + i)) = true := by decide +kernel
set_option maxRecDepth 100000 in
theorem ck450_480 : (List.range 42).all (fun i => rck tr450 prog_20_method_65_code pool_18 16 (480 + i)) = true := by decide +kernel
theorem ck450 : ∀ pc, pc < 522 → rck tr450 prog_20_method_65_code pool_18 16 pc = true := (rck_j (rck_j (rck_j (rck_j (rck_j rck_0 ck450_0) ck450_120) ck450_240) ck450_360) ck450_480)
set_option maxRecDepth 100000 in
theorem ck451_0 : (List.range 11).all (fun i => rck tr451 prog_20_method_66_code pool_18 3 (0 + i)) = true := by decide +kernel
theorem ck451 : ∀ pc, pc < 11 → rck tr451 prog_20_method_66_code pool_18 3 pc = true := (rck_j rck_0 ck451_0)
set_option maxRecDepth 100000 in
theorem ck452_0 : (List.range 39).all (fun i => rck tr452 prog_20_method_67_code pool_18 6 (0 + i)) = true := by decide +kernel
theorem ck452 : ∀ pc, pc < 39 → rck tr452 prog_20_method_67_code pool_18 6 pc = true := (rck_j rck_0 ck452_0)
set_option maxRecDepth 100000 in
theorem ck453_0 : (List.range 120).all (fun i => rck tr453 prog_20_method_68_code pool_18 15 (0 + i)) = true := by decide +kernel
set_option maxRecDepth 100000 in
theorem ck453_120 : (List.range 120).all (fun i => rck tr453 prog_20_method_68_code pool_18 15 (120 + i)) = true := by decide +kernel
set_option maxRecDepth 100000 in
theorem ck453_240 : (List.range 120).all (fun i => rck tr453 prog_20_method_68_code pool_18 15 (240 + i)) = true := by decide +kernel
set_option maxRecDepth 100000 in
theorem ck453_360 : (List.range 56).all (fun i => rck tr453 prog_20_method_68_code pool_18 15 (360 + i)) = true := by decide +kernel
theorem ck453 : ∀ pc, pc < 416 → rck tr453 prog_20_method_68_code pool_18 15 pc = true := (rck_j (rck_j (rck_j (rck_j rck_0 ck453_0) ck453_120) ck453_240) ck453_360)
set_option maxRecDepth 100000 in
theorem ck454_0 : (List.range 250).all (fun i => rck tr454 prog_20_method_69_code pool_18 6 (0 + i)) = true := by decide +kernel
set_option maxRecDepth 100000 in
theorem ck454_250 : (List.range 50).all (fun i => rck tr454 prog_20_method_69_code pool_18 6 (250 + i)) = true := by decide +kernel
theorem ck454 : ∀ pc, pc < 300 → rck tr454 prog_20_method_69_code pool_18 6 pc = true := (rck_j (rck_j rck_0 ck454_0) ck454_250)
set_option maxRecDepth 100000 in
theorem ck455_0 : (List.range 120).all (fun i => rck tr455 code pool_19 4 (0 + i)) = true := by decide +kernel
set_option maxRecDepth 100000 in
theorem ck455_120 : (List.range 120).all (fun i => rck tr455 code pool_19 4 (120 + i)) = true := by decide +kernel
set_option maxRecDepth 100000 in
theorem ck455_240 : (List.range 120).all (fun i => rck tr455 code pool_19 4 (240 + i)) = true := by decide +kernel
set_option maxRecDepth 100000 in
theorem ck455_360 : (List.range 120).all (fun i => rck tr455 code pool_19 4 (360 + i)) = true := by decide +kernel
set_option maxRecDepth 100000 in
theorem ck455_480 : (List.range 120).all (fun i => rck tr455 code pool_19 4 (480 + i)) = true := by decide +kernel
set_option maxRecDepth 100000 in
theorem ck455_600 : (List.range 120).all (fun i => rck tr455 code pool_19 4 (600 + i)) = true := by decide +kernel
set_option maxRecDepth 100000 in
theorem ck455_720 : (List.range 120).all (fun i => rck tr455 code pool_19 4 (720 + i)) = true := by decide +kernel
set_option maxRecDepth 100000 in
theorem ck455_840 : (List.range 120).all (fun i => rck tr455 code pool_19 4 (840 + i)) = true := by decide +kernel
set_option maxRecDepth 100000 in
theorem ck455_960 : (List.range 114).all (fun i => rck tr455 code pool_19 4 (960 + i)) = true := by decide +kernel
theorem ck455 : ∀ pc, pc < 1074 → rck tr455 code pool_19 4 pc = true := (rck_j (rck_j (rck_j (rck_j (rck_j (rck_j (rck_j (rck_j (rck_j rck_0 ck455_0) ck455_120) ck455_240) ck455_360) ck455_480) ck455_600) ck455_720) ck455_840) ck455_960)
set_option maxRecDepth 100000 in
theorem ck456_0 : (List.range 33).all (fun i => rck tr456 prog_24_method_121_code pool_20 3 (0 + i)) = true := by decide +kernel
theorem ck456 : ∀ pc, pc < 33 → rck tr456 prog_24_method_121_code pool_20 3 pc = true := (rck_j rck_0 ck456_0)
