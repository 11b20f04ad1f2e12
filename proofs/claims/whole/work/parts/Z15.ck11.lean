/-! the code of the methods 300 to 341 is what the bytes decode to -/
set_option maxRecDepth 100000 in
theorem ck300_0 : (List.range 52).all (fun i => rck tr300 prog_16_method_45_code pool_14 5 (0 + i)) = true := by decide +kernel
theorem ck300 : ∀ pc, pc < 52 → rck tr300 prog_16_method_45_code pool_14 5 pc = true := (rck_j rck_0 ck300_0)
set_option maxRecDepth 100000 in
theorem ck301_0 : (List.range 24).all (fun i => rck tr301 prog_16_method_46_code pool_14 3 (0 + i)) = true := by decide +kernel
theorem ck301 : ∀ pc, pc < 24 → rck tr301 prog_16_method_46_code pool_14 3 pc = true := (rck_j rck_0 ck301_0)
set_option maxRecDepth 100000 in
theorem ck302_0 : (List.range 132).all (fun i => rck tr302 prog_16_method_47_code pool_14 6 (0 + i)) = true := by decide +kernel
theorem ck302 : ∀ pc, pc < 132 → rck tr302 prog_16_method_47_code pool_14 6 pc = true := (rck_j rck_0 ck302_0)
set_option maxRecDepth 100000 in
theorem ck303_0 : (List.range 10).all (fun i => rck tr303 prog_17_method_1_code pool_15 2 (0 + i)) = true := by decide +kernel
theorem ck303 : ∀ pc, pc < 10 → rck tr303 prog_17_method_1_code pool_15 2 pc = true := (rck_j rck_0 ck303_0)
set_option maxRecDepth 100000 in
theorem ck304_0 : (List.range 6).all (fun i => rck tr304 prog_17_method_2_code pool_15 2 (0 + i)) = true := by decide +kernel
theorem ck304 : ∀ pc, pc < 6 → rck tr304 prog_17_method_2_code pool_15 2 pc = true := (rck_j rck_0 ck304_0)
set_option maxRecDepth 100000 in
theorem ck305_0 : (List.range 12).all (fun i => rck tr305 prog_17_method_3_code pool_15 2 (0 + i)) = true := by decide +kernel
theorem ck305 : ∀ pc, pc < 12 → rck tr305 prog_17_method_3_code pool_15 2 pc = true := (rck_j rck_0 ck305_0)
set_option maxRecDepth 100000 in
theorem ck306_0 : (List.range 37).all (fun i => rck tr306 prog_17_method_4_code pool_15 6 (0 + i)) = true := by decide +kernel
theorem ck306 : ∀ pc, pc < 37 → rck tr306 prog_17_method_4_code pool_15 6 pc = true := (rck_j rck_0 ck306_0)
set_option maxRecDepth 100000 in
theorem ck307_0 : (List.range 11).all (fun i => rck tr307 prog_17_method_5_code pool_15 2 (0 + i)) = true := by decide +kernel
theorem ck307 : ∀ pc, pc < 11 → rck tr307 prog_17_method_5_code pool_15 2 pc = true := (rck_j rck_0 ck307_0)
set_option maxRecDepth 100000 in
theorem ck308_0 : (List.range 53).all (fun i => rck tr308 prog_17_method_6_code pool_15 7 (0 + i)) = true := by decide +kernel
theorem ck308 : ∀ pc, pc < 53 → rck tr308 prog_17_method_6_code pool_15 7 pc = true := (rck_j rck_0 ck308_0)
set_option maxRecDepth 100000 in
theorem ck309_0 : (List.range 232).all (fun i => rck tr309 prog_17_method_7_code pool_15 8 (0 + i)) = true := by decide +kernel
theorem ck309 : ∀ pc, pc < 232 → rck tr309 prog_17_method_7_code pool_15 8 pc = true := (rck_j rck_0 ck309_0)
set_option maxRecDepth 100000 in
theorem ck310_0 : (List.range 11).all (fun i => rck tr310 prog_17_method_8_code pool_15 3 (0 + i)) = true := by decide +kernel
theorem ck310 : ∀ pc, pc < 11 → rck tr310 prog_17_method_8_code pool_15 3 pc = true := (rck_j rck_0 ck310_0)
set_option maxRecDepth 100000 in
theorem ck311_0 : (List.range 57).all (fun i => rck tr311 prog_17_method_9_code pool_15 9 (0 + i)) = true := by decide +kernel
theorem ck311 : ∀ pc, pc < 57 → rck tr311 prog_17_method_9_code pool_15 9 pc = true := (rck_j rck_0 ck311_0)
set_option maxRecDepth 100000 in
theorem ck312_0 : (List.range 25).all (fun i => rck tr312 prog_17_method_10_code pool_15 4 (0 + i)) = true := by decide +kernel
theorem ck312 : ∀ pc, pc < 25 → rck tr312 prog_17_method_10_code pool_15 4 pc = true := (rck_j rck_0 ck312_0)
set_option maxRecDepth 100000 in
theorem ck313_0 : (List.range 123).all (fun i => rck tr313 prog_17_method_11_code pool_15 15 (0 + i)) = true := by decide +kernel
theorem ck313 : ∀ pc, pc < 123 → rck tr313 prog_17_method_11_code pool_15 15 pc = true := (rck_j rck_0 ck313_0)
set_option maxRecDepth 100000 in
theorem ck314_0 : (List.range 241).all (fun i => rck tr314 prog_17_method_12_code pool_15 10 (0 + i)) = true := by decide +kernel
theorem ck314 : ∀ pc, pc < 241 → rck tr314 prog_17_method_12_code pool_15 10 pc = true := (rck_j rck_0 ck314_0)
set_option maxRecDepth 100000 in
theorem ck315_0 : (List.range 19).all (fun i => rck tr315 prog_17_method_13_code pool_15 1 (0 + i)) = true := by decide +kernel
theorem ck315 : ∀ pc, pc < 19 → rck tr315 prog_17_method_13_code pool_15 1 pc = true := (rck_j rck_0 ck315_0)
set_option maxRecDepth 100000 in
theorem ck316_0 : (List.range 29).all (fun i => rck tr316 prog_17_method_14_code pool_15 4 (0 + i)) = true := by decide +kernel
theorem ck316 : ∀ pc, pc < 29 → rck tr316 prog_17_method_14_code pool_15 4 pc = true := (rck_j rck_0 ck316_0)
set_option maxRecDepth 100000 in
theorem ck317_0 : (List.range 30).all (fun i => rck tr317 prog_17_method_15_code pool_15 5 (0 + i)) = true := by decide +kernel
theorem ck317 : ∀ pc, pc < 30 → rck tr317 prog_17_method_15_code pool_15 5 pc = true := (rck_j rck_0 ck317_0)
set_option maxRecDepth 100000 in
theorem ck318_0 : (List.range 9).all (fun i => rck tr318 prog_17_method_16_code pool_15 3 (0 + i)) = true := by decide +kernel
theorem ck318 : ∀ pc, pc < 9 → rck tr318 prog_17_method_16_code pool_15 3 pc = true := (rck_j rck_0 ck318_0)
set_option maxRecDepth 100000 in
theorem ck319_0 : (List.range 36).all (fun i => rck tr319 prog_18_method_1_code pool_16 2 (0 + i)) = true := by decide +kernel
theorem ck319 : ∀ pc, pc < 36 → rck tr319 prog_18_method_1_code pool_16 2 pc = true := (rck_j rck_0 ck319_0)
set_option maxRecDepth 100000 in
theorem ck320_0 : (List.range 34).all (fun i => rck tr320 prog_18_method_2_code pool_16 2 (0 + i)) = true := by decide +kernel
theorem ck320 : ∀ pc, pc < 34 → rck tr320 prog_18_method_2_code pool_16 2 pc = true := (rck_j rck_0 ck320_0)
set_option maxRecDepth 100000 in
theorem ck321_0 : (List.range 24).all (fun i => rck tr321 prog_18_method_3_code pool_16 4 (0 + i)) = true := by decide +kernel
theorem ck321 : ∀ pc, pc < 24 → rck tr321 prog_18_method_3_code pool_16 4 pc = true := (rck_j rck_0 ck321_0)
set_option maxRecDepth 100000 in
theorem ck322_0 : (List.range 50).all (fun i => rck tr322 prog_18_method_4_code pool_16 2 (0 + i)) = true := by decide +kernel
theorem ck322 : ∀ pc, pc < 50 → rck tr322 prog_18_method_4_code pool_16 2 pc = true := (rck_j rck_0 ck322_0)
set_option maxRecDepth 100000 in
theorem ck323_0 : (List.range 47).all (fun i => rck tr323 prog_18_method_5_code pool_16 5 (0 + i)) = true := by decide +kernel
theorem ck323 : ∀ pc, pc < 47 → rck tr323 prog_18_method_5_code pool_16 5 pc = true := (rck_j rck_0 ck323_0)
set_option maxRecDepth 100000 in
theorem ck324_0 : (List.range 59).all (fun i => rck tr324 prog_18_method_6_code pool_16 7 (0 + i)) = true := by decide +kernel
theorem ck324 : ∀ pc, pc < 59 → rck tr324 prog_18_method_6_code pool_16 7 pc = true := (rck_j rck_0 ck324_0)
set_option maxRecDepth 100000 in
theorem ck325_0 : (List.range 60).all (fun i => rck tr325 prog_18_method_7_code pool_16 6 (0 + i)) = true := by decide +kernel
theorem ck325 : ∀ pc, pc < 60 → rck tr325 prog_18_method_7_code pool_16 6 pc = true := (rck_j rck_0 ck325_0)
set_option maxRecDepth 100000 in
theorem ck326_0 : (List.range 96).all (fun i => rck tr326 prog_18_method_8_code pool_16 6 (0 + i)) = true := by decide +kernel
theorem ck326 : ∀ pc, pc < 96 → rck tr326 prog_18_method_8_code pool_16 6 pc = true := (rck_j rck_0 ck326_0)
set_option maxRecDepth 100000 in
theorem ck327_0 : (List.range 21).all (fun i => rck tr327 prog_18_method_9_code pool_16 2 (0 + i)) = true := by decide +kernel
theorem ck327 : ∀ pc, pc < 21 → rck tr327 prog_18_method_9_code pool_16 2 pc = true := (rck_j rck_0 ck327_0)
set_option maxRecDepth 100000 in
theorem ck328_0 : (List.range 20).all (fun i => rck tr328 prog_18_method_10_code pool_16 3 (0 + i)) = true := by decide +kernel
theorem ck328 : ∀ pc, pc < 20 → rck tr328 prog_18_method_10_code pool_16 3 pc = true := (rck_j rck_0 ck328_0)
set_option maxRecDepth 100000 in
theorem ck329_0 : (List.range 15).all (fun i => rck tr329 prog_18_method_11_code pool_16 4 (0 + i)) = true := by decide +kernel
theorem ck329 : ∀ pc, pc < 15 → rck tr329 prog_18_method_11_code pool_16 4 pc = true := (rck_j rck_0 ck329_0)
set_option maxRecDepth 100000 in
theorem ck330_0 : (List.range 117).all (fun i => rck tr330 prog_18_method_12_code pool_16 4 (0 + i)) = true := by decide +kernel
theorem ck330 : ∀ pc, pc < 117 → rck tr330 prog_18_method_12_code pool_16 4 pc = true := (rck_j rck_0 ck330_0)
set_option maxRecDepth 100000 in
theorem ck331_0 : (List.range 135).all (fun i => rck tr331 prog_18_method_13_code pool_16 6 (0 + i)) = true := by decide +kernel
theorem ck331 : ∀ pc, pc < 135 → rck tr331 prog_18_method_13_code pool_16 6 pc = true := (rck_j rck_0 ck331_0)
set_option maxRecDepth 100000 in
theorem ck332_0 : (List.range 106).all (fun i => rck tr332 prog_18_method_14_code pool_16 6 (0 + i)) = true := by decide +kernel
theorem ck332 : ∀ pc, pc < 106 → rck tr332 prog_18_method_14_code pool_16 6 pc = true := (rck_j rck_0 ck332_0)
set_option maxRecDepth 100000 in
theorem ck333_0 : (List.range 127).all (fun i => rck tr333 prog_18_method_15_code pool_16 8 (0 + i)) = true := by decide +kernel
theorem ck333 : ∀ pc, pc < 127 → rck tr333 prog_18_method_15_code pool_16 8 pc = true := (rck_j rck_0 ck333_0)
set_option maxRecDepth 100000 in
theorem ck334_0 : (List.range 36).all (fun i => rck tr334 prog_18_method_16_code pool_16 2 (0 + i)) = true := by decide +kernel
theorem ck334 : ∀ pc, pc < 36 → rck tr334 prog_18_method_16_code pool_16 2 pc = true := (rck_j rck_0 ck334_0)
set_option maxRecDepth 100000 in
theorem ck335_0 : (List.range 19).all (fun i => rck tr335 prog_18_method_17_code pool_16 3 (0 + i)) = true := by decide +kernel
theorem ck335 : ∀ pc, pc < 19 → rck tr335 prog_18_method_17_code pool_16 3 pc = true := (rck_j rck_0 ck335_0)
set_option maxRecDepth 100000 in
theorem ck336_0 : (List.range 91).all (fun i => rck tr336 prog_18_method_18_code pool_16 5 (0 + i)) = true := by decide +kernel
theorem ck336 : ∀ pc, pc < 91 → rck tr336 prog_18_method_18_code pool_16 5 pc = true := (rck_j rck_0 ck336_0)
set_option maxRecDepth 100000 in
theorem ck337_0 : (List.range 122).all (fun i => rck tr337 prog_18_method_19_code pool_16 8 (0 + i)) = true := by decide +kernel
theorem ck337 : ∀ pc, pc < 122 → rck tr337 prog_18_method_19_code pool_16 8 pc = true := (rck_j rck_0 ck337_0)
set_option maxRecDepth 100000 in
theorem ck338_0 : (List.range 65).all (fun i => rck tr338 prog_18_method_20_code pool_16 10 (0 + i)) = true := by decide +kernel
theorem ck338 : ∀ pc, pc < 65 → rck tr338 prog_18_method_20_code pool_16 10 pc = true := (rck_j rck_0 ck338_0)
set_option maxRecDepth 100000 in
theorem ck339_0 : (List.range 106).all (fun i => rck tr339 prog_18_method_21_code pool_16 12 (0 + i)) = true := by decide +kernel
theorem ck339 : ∀ pc, pc < 106 → rck tr339 prog_18_method_21_code pool_16 12 pc = true := (rck_j rck_0 ck339_0)
set_option maxRecDepth 100000 in
theorem ck340_0 : (List.range 111).all (fun i => rck tr340 prog_18_method_22_code pool_16 12 (0 + i)) = true := by decide +kernel
theorem ck340 : ∀ pc, pc < 111 → rck tr340 prog_18_method_22_code pool_16 12 pc = true := (rck_j rck_0 ck340_0)
set_option maxRecDepth 100000 in
theorem ck341_0 : (List.range 115).all (fun i => rck tr341 prog_18_method_23_code pool_16 7 (0 + i)) = true := by decide +kernel
theorem ck341 : ∀ pc, pc < 115 → rck tr341 prog_18_method_23_code pool_16 7 pc = true := (rck_j rck_0 ck341_0)
