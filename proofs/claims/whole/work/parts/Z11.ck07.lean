/-! the code of the methods 225 to 245 is what the bytes decode to -/
set_option maxRecDepth 100000 in
theorem ck225_0 : (List.range 67).all (fun i => rck tr225 prog_11_method_14_code pool_11 6 (0 + i)) = true := by decide +kernel
theorem ck225 : ∀ pc, pc < 67 → rck tr225 prog_11_method_14_code pool_11 6 pc = true := (rck_j rck_0 ck225_0)
set_option maxRecDepth 100000 in
theorem ck226_0 : (List.range 181).all (fun i => rck tr226 prog_11_method_15_code pool_11 7 (0 + i)) = true := by decide +kernel
theorem ck226 : ∀ pc, pc < 181 → rck tr226 prog_11_method_15_code pool_11 7 pc = true := (rck_j rck_0 ck226_0)
set_option maxRecDepth 100000 in
theorem ck227_0 : (List.range 250).all (fun i => rck tr227 prog_11_method_16_code pool_11 4 (0 + i)) = true := by decide +kernel
set_option maxRecDepth 100000 in
theorem ck227_250 : (List.range 22).all (fun i => rck tr227 prog_11_method_16_code pool_11 4 (250 + i)) = true := by decide +kernel
theorem ck227 : ∀ pc, pc < 272 → rck tr227 prog_11_method_16_code pool_11 4 pc = true := (rck_j (rck_j rck_0 ck227_0) ck227_250)
set_option maxRecDepth 100000 in
theorem ck228_0 : (List.range 250).all (fun i => rck tr228 prog_11_method_17_code pool_11 11 (0 + i)) = true := by decide +kernel
set_option maxRecDepth 100000 in
theorem ck228_250 : (List.range 50).all (fun i => rck tr228 prog_11_method_17_code pool_11 11 (250 + i)) = true := by decide +kernel
theorem ck228 : ∀ pc, pc < 300 → rck tr228 prog_11_method_17_code pool_11 11 pc = true := (rck_j (rck_j rck_0 ck228_0) ck228_250)
set_option maxRecDepth 100000 in
theorem ck229_0 : (List.range 42).all (fun i => rck tr229 prog_11_method_18_code pool_11 5 (0 + i)) = true := by decide +kernel
theorem ck229 : ∀ pc, pc < 42 → rck tr229 prog_11_method_18_code pool_11 5 pc = true := (rck_j rck_0 ck229_0)
set_option maxRecDepth 100000 in
theorem ck230_0 : (List.range 127).all (fun i => rck tr230 prog_11_method_19_code pool_11 4 (0 + i)) = true := by decide +kernel
theorem ck230 : ∀ pc, pc < 127 → rck tr230 prog_11_method_19_code pool_11 4 pc = true := (rck_j rck_0 ck230_0)
set_option maxRecDepth 100000 in
theorem ck231_0 : (List.range 68).all (fun i => rck tr231 prog_12_method_1_code pool_12 2 (0 + i)) = true := by decide +kernel
theorem ck231 : ∀ pc, pc < 68 → rck tr231 prog_12_method_1_code pool_12 2 pc = true := (rck_j rck_0 ck231_0)
set_option maxRecDepth 100000 in
theorem ck232_0 : (List.range 7).all (fun i => rck tr232 prog_12_method_2_code pool_12 3 (0 + i)) = true := by decide +kernel
theorem ck232 : ∀ pc, pc < 7 → rck tr232 prog_12_method_2_code pool_12 3 pc = true := (rck_j rck_0 ck232_0)
set_option maxRecDepth 100000 in
theorem ck233_0 : (List.range 250).all (fun i => rck tr233 prog_12_method_3_code pool_12 12 (0 + i)) = true := by decide +kernel
set_option maxRecDepth 100000 in
theorem ck233_250 : (List.range 70).all (fun i => rck tr233 prog_12_method_3_code pool_12 12 (250 + i)) = true := by decide +kernel
theorem ck233 : ∀ pc, pc < 320 → rck tr233 prog_12_method_3_code pool_12 12 pc = true := (rck_j (rck_j rck_0 ck233_0) ck233_250)
set_option maxRecDepth 100000 in
theorem ck234_0 : (List.range 22).all (fun i => rck tr234 prog_12_method_4_code pool_12 1 (0 + i)) = true := by decide +kernel
theorem ck234 : ∀ pc, pc < 22 → rck tr234 prog_12_method_4_code pool_12 1 pc = true := (rck_j rck_0 ck234_0)
set_option maxRecDepth 100000 in
theorem ck235_0 : (List.range 250).all (fun i => rck tr235 prog_12_method_5_code pool_12 2 (0 + i)) = true := by decide +kernel
set_option maxRecDepth 100000 in
theorem ck235_250 : (List.range 25).all (fun i => rck tr235 prog_12_method_5_code pool_12 2 (250 + i)) = true := by decide +kernel
theorem ck235 : ∀ pc, pc < 275 → rck tr235 prog_12_method_5_code pool_12 2 pc = true := (rck_j (rck_j rck_0 ck235_0) ck235_250)
set_option maxRecDepth 100000 in
theorem ck236_0 : (List.range 45).all (fun i => rck tr236 prog_12_method_6_code pool_12 3 (0 + i)) = true := by decide +kernel
theorem ck236 : ∀ pc, pc < 45 → rck tr236 prog_12_method_6_code pool_12 3 pc = true := (rck_j rck_0 ck236_0)
set_option maxRecDepth 100000 in
theorem ck237_0 : (List.range 80).all (fun i => rck tr237 prog_12_method_7_code pool_12 2 (0 + i)) = true := by decide +kernel
theorem ck237 : ∀ pc, pc < 80 → rck tr237 prog_12_method_7_code pool_12 2 pc = true := (rck_j rck_0 ck237_0)
set_option maxRecDepth 100000 in
theorem ck238_0 : (List.range 102).all (fun i => rck tr238 prog_12_method_8_code pool_12 4 (0 + i)) = true := by decide +kernel
theorem ck238 : ∀ pc, pc < 102 → rck tr238 prog_12_method_8_code pool_12 4 pc = true := (rck_j rck_0 ck238_0)
set_option maxRecDepth 100000 in
theorem ck239_0 : (List.range 34).all (fun i => rck tr239 prog_12_method_9_code pool_12 2 (0 + i)) = true := by decide +kernel
theorem ck239 : ∀ pc, pc < 34 → rck tr239 prog_12_method_9_code pool_12 2 pc = true := (rck_j rck_0 ck239_0)
set_option maxRecDepth 100000 in
theorem ck240_0 : (List.range 32).all (fun i => rck tr240 prog_12_method_10_code pool_12 2 (0 + i)) = true := by decide +kernel
theorem ck240 : ∀ pc, pc < 32 → rck tr240 prog_12_method_10_code pool_12 2 pc = true := (rck_j rck_0 ck240_0)
set_option maxRecDepth 100000 in
theorem ck241_0 : (List.range 66).all (fun i => rck tr241 prog_12_method_11_code pool_12 2 (0 + i)) = true := by decide +kernel
theorem ck241 : ∀ pc, pc < 66 → rck tr241 prog_12_method_11_code pool_12 2 pc = true := (rck_j rck_0 ck241_0)
set_option maxRecDepth 100000 in
theorem ck242_0 : (List.range 133).all (fun i => rck tr242 prog_12_method_12_code pool_12 1 (0 + i)) = true := by decide +kernel
theorem ck242 : ∀ pc, pc < 133 → rck tr242 prog_12_method_12_code pool_12 1 pc = true := (rck_j rck_0 ck242_0)
set_option maxRecDepth 100000 in
theorem ck243_0 : (List.range 247).all (fun i => rck tr243 prog_12_method_13_code pool_12 5 (0 + i)) = true := by decide +kernel
theorem ck243 : ∀ pc, pc < 247 → rck tr243 prog_12_method_13_code pool_12 5 pc = true := (rck_j rck_0 ck243_0)
set_option maxRecDepth 100000 in
theorem ck244_0 : (List.range 250).all (fun i => rck tr244 prog_12_method_14_code pool_12 7 (0 + i)) = true := by decide +kernel
set_option maxRecDepth 100000 in
theorem ck244_250 : (List.range 11).all (fun i => rck tr244 prog_12_method_14_code pool_12 7 (250 + i)) = true := by decide +kernel
theorem ck244 : ∀ pc, pc < 261 → rck tr244 prog_12_method_14_code pool_12 7 pc = true := (rck_j (rck_j rck_0 ck244_0) ck244_250)
set_option maxRecDepth 100000 in
theorem ck245_0 : (List.range 250).all (fun i => rck tr245 prog_12_method_15_code pool_12 12 (0 + i)) = true := by decide +kernel
set_option maxRecDepth 100000 in
theorem ck245_250 : (List.range 80).all (fun i => rck tr245 prog_12_method_15_code pool_12 12 (250 + i)) = true := by decide +kernel
theorem ck245 : ∀ pc, pc < 330 → rck tr245 prog_12_method_15_code pool_12 12 pc = true := (rck_j (rck_j rck_0 ck245_0) ck245_250)
