/-! the code of the methods 246 to 266 is what the bytes decode to -/
set_option maxRecDepth 100000 in
theorem ck246_0 : (List.range 229).all (fun i => rck tr246 prog_12_method_16_code pool_12 9 (0 + i)) = true := by decide +kernel
theorem ck246 : ∀ pc, pc < 229 → rck tr246 prog_12_method_16_code pool_12 9 pc = true := (rck_j rck_0 ck246_0)
set_option maxRecDepth 100000 in
theorem ck247_0 : (List.range 250).all (fun i => rck tr247 prog_12_method_17_code pool_12 9 (0 + i)) = true := by decide +kernel
set_option maxRecDepth 100000 in
theorem ck247_250 : (List.range 56).all (fun i => rck tr247 prog_12_method_17_code pool_12 9 (250 + i)) = true := by decide +kernel
theorem ck247 : ∀ pc, pc < 306 → rck tr247 prog_12_method_17_code pool_12 9 pc = true := (rck_j (rck_j rck_0 ck247_0) ck247_250)
set_option maxRecDepth 100000 in
theorem ck248_0 : (List.range 107).all (fun i => rck tr248 prog_12_method_18_code pool_12 5 (0 + i)) = true := by decide +kernel
theorem ck248 : ∀ pc, pc < 107 → rck tr248 prog_12_method_18_code pool_12 5 pc = true := (rck_j rck_0 ck248_0)
set_option maxRecDepth 100000 in
theorem ck249_0 : (List.range 192).all (fun i => rck tr249 prog_12_method_19_code pool_12 5 (0 + i)) = true := by decide +kernel
theorem ck249 : ∀ pc, pc < 192 → rck tr249 prog_12_method_19_code pool_12 5 pc = true := (rck_j rck_0 ck249_0)
set_option maxRecDepth 100000 in
theorem ck250_0 : (List.range 120).all (fun i => rck tr250 prog_12_method_20_code pool_12 16 (0 + i)) = true := by decide +kernel
set_option maxRecDepth 100000 in
theorem ck250_120 : (List.range 120).all (fun i => rck tr250 prog_12_method_20_code pool_12 16 (120 + i)) = true := by decide +kernel
set_option maxRecDepth 100000 in
theorem ck250_240 : (List.range 120).all (fun i => rck tr250 prog_12_method_20_code pool_12 16 (240 + i)) = true := by decide +kernel
set_option maxRecDepth 100000 in
theorem ck250_360 : (List.range 79).all (fun i => rck tr250 prog_12_method_20_code pool_12 16 (360 + i)) = true := by decide +kernel
theorem ck250 : ∀ pc, pc < 439 → rck tr250 prog_12_method_20_code pool_12 16 pc = true := (rck_j (rck_j (rck_j (rck_j rck_0 ck250_0) ck250_120) ck250_240) ck250_360)
set_option maxRecDepth 100000 in
theorem ck251_0 : (List.range 38).all (fun i => rck tr251 prog_12_method_21_code pool_12 3 (0 + i)) = true := by decide +kernel
theorem ck251 : ∀ pc, pc < 38 → rck tr251 prog_12_method_21_code pool_12 3 pc = true := (rck_j rck_0 ck251_0)
set_option maxRecDepth 100000 in
theorem ck252_0 : (List.range 46).all (fun i => rck tr252 prog_12_method_22_code pool_12 3 (0 + i)) = true := by decide +kernel
theorem ck252 : ∀ pc, pc < 46 → rck tr252 prog_12_method_22_code pool_12 3 pc = true := (rck_j rck_0 ck252_0)
set_option maxRecDepth 100000 in
theorem ck253_0 : (List.range 117).all (fun i => rck tr253 prog_12_method_23_code pool_12 9 (0 + i)) = true := by decide +kernel
theorem ck253 : ∀ pc, pc < 117 → rck tr253 prog_12_method_23_code pool_12 9 pc = true := (rck_j rck_0 ck253_0)
set_option maxRecDepth 100000 in
theorem ck254_0 : (List.range 44).all (fun i => rck tr254 prog_12_method_24_code pool_12 3 (0 + i)) = true := by decide +kernel
theorem ck254 : ∀ pc, pc < 44 → rck tr254 prog_12_method_24_code pool_12 3 pc = true := (rck_j rck_0 ck254_0)
set_option maxRecDepth 100000 in
theorem ck255_0 : (List.range 21).all (fun i => rck tr255 prog_15_method_1_code pool_13 1 (0 + i)) = true := by decide +kernel
theorem ck255 : ∀ pc, pc < 21 → rck tr255 prog_15_method_1_code pool_13 1 pc = true := (rck_j rck_0 ck255_0)
set_option maxRecDepth 100000 in
theorem ck256_0 : (List.range 192).all (fun i => rck tr256 prog_16_method_1_code pool_14 2 (0 + i)) = true := by decide +kernel
theorem ck256 : ∀ pc, pc < 192 → rck tr256 prog_16_method_1_code pool_14 2 pc = true := (rck_j rck_0 ck256_0)
set_option maxRecDepth 100000 in
theorem ck257_0 : (List.range 39).all (fun i => rck tr257 prog_16_method_2_code pool_14 6 (0 + i)) = true := by decide +kernel
theorem ck257 : ∀ pc, pc < 39 → rck tr257 prog_16_method_2_code pool_14 6 pc = true := (rck_j rck_0 ck257_0)
set_option maxRecDepth 100000 in
theorem ck258_0 : (List.range 66).all (fun i => rck tr258 prog_16_method_3_code pool_14 6 (0 + i)) = true := by decide +kernel
theorem ck258 : ∀ pc, pc < 66 → rck tr258 prog_16_method_3_code pool_14 6 pc = true := (rck_j rck_0 ck258_0)
set_option maxRecDepth 100000 in
theorem ck259_0 : (List.range 20).all (fun i => rck tr259 prog_16_method_4_code pool_14 2 (0 + i)) = true := by decide +kernel
theorem ck259 : ∀ pc, pc < 20 → rck tr259 prog_16_method_4_code pool_14 2 pc = true := (rck_j rck_0 ck259_0)
set_option maxRecDepth 100000 in
theorem ck260_0 : (List.range 20).all (fun i => rck tr260 prog_16_method_5_code pool_14 3 (0 + i)) = true := by decide +kernel
theorem ck260 : ∀ pc, pc < 20 → rck tr260 prog_16_method_5_code pool_14 3 pc = true := (rck_j rck_0 ck260_0)
set_option maxRecDepth 100000 in
theorem ck261_0 : (List.range 250).all (fun i => rck tr261 prog_16_method_6_code pool_14 15 (0 + i)) = true := by decide +kernel
set_option maxRecDepth 100000 in
theorem ck261_250 : (List.range 146).all (fun i => rck tr261 prog_16_method_6_code pool_14 15 (250 + i)) = true := by decide +kernel
theorem ck261 : ∀ pc, pc < 396 → rck tr261 prog_16_method_6_code pool_14 15 pc = true := (rck_j (rck_j rck_0 ck261_0) ck261_250)
set_option maxRecDepth 100000 in
theorem ck262_0 : (List.range 250).all (fun i => rck tr262 prog_16_method_7_code pool_14 17 (0 + i)) = true := by decide +kernel
set_option maxRecDepth 100000 in
theorem ck262_250 : (List.range 37).all (fun i => rck tr262 prog_16_method_7_code pool_14 17 (250 + i)) = true := by decide +kernel
theorem ck262 : ∀ pc, pc < 287 → rck tr262 prog_16_method_7_code pool_14 17 pc = true := (rck_j (rck_j rck_0 ck262_0) ck262_250)
set_option maxRecDepth 100000 in
theorem ck263_0 : (List.range 38).all (fun i => rck tr263 prog_16_method_8_code pool_14 2 (0 + i)) = true := by decide +kernel
theorem ck263 : ∀ pc, pc < 38 → rck tr263 prog_16_method_8_code pool_14 2 pc = true := (rck_j rck_0 ck263_0)
set_option maxRecDepth 100000 in
theorem ck264_0 : (List.range 47).all (fun i => rck tr264 prog_16_method_9_code pool_14 3 (0 + i)) = true := by decide +kernel
theorem ck264 : ∀ pc, pc < 47 → rck tr264 prog_16_method_9_code pool_14 3 pc = true := (rck_j rck_0 ck264_0)
set_option maxRecDepth 100000 in
theorem ck265_0 : (List.range 35).all (fun i => rck tr265 prog_16_method_10_code pool_14 6 (0 + i)) = true := by decide +kernel
theorem ck265 : ∀ pc, pc < 35 → rck tr265 prog_16_method_10_code pool_14 6 pc = true := (rck_j rck_0 ck265_0)
set_option maxRecDepth 100000 in
theorem ck266_0 : (List.range 200).all (fun i => rck tr266 prog_16_method_11_code pool_14 3 (0 + i)) = true := by decide +kernel
theorem ck266 : ∀ pc, pc < 200 → rck tr266 prog_16_method_11_code pool_14 3 pc = true := (rck_j rck_0 ck266_0)
