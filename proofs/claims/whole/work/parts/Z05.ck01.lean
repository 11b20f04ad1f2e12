/-! the code of the methods 45 to 82 is what the bytes decode to -/
set_option maxRecDepth 100000 in
theorem ck45_0 : (List.range 22).all (fun i => rck tr45 prog_1_method_46_code pool_0 3 (0 + i)) = true := by decide +kernel
theorem ck45 : ∀ pc, pc < 22 → rck tr45 prog_1_method_46_code pool_0 3 pc = true := (rck_j rck_0 ck45_0)
set_option maxRecDepth 100000 in
theorem ck46_0 : (List.range 11).all (fun i => rck tr46 prog_1_method_47_code pool_0 2 (0 + i)) = true := by decide +kernel
theorem ck46 : ∀ pc, pc < 11 → rck tr46 prog_1_method_47_code pool_0 2 pc = true := (rck_j rck_0 ck46_0)
set_option maxRecDepth 100000 in
theorem ck47_0 : (List.range 11).all (fun i => rck tr47 prog_1_method_48_code pool_0 3 (0 + i)) = true := by decide +kernel
theorem ck47 : ∀ pc, pc < 11 → rck tr47 prog_1_method_48_code pool_0 3 pc = true := (rck_j rck_0 ck47_0)
set_option maxRecDepth 100000 in
theorem ck48_0 : (List.range 17).all (fun i => rck tr48 prog_1_method_49_code pool_0 2 (0 + i)) = true := by decide +kernel
theorem ck48 : ∀ pc, pc < 17 → rck tr48 prog_1_method_49_code pool_0 2 pc = true := (rck_j rck_0 ck48_0)
set_option maxRecDepth 100000 in
theorem ck49_0 : (List.range 250).all (fun i => rck tr49 prog_1_method_50_code pool_0 10 (0 + i)) = true := by decide +kernel
set_option maxRecDepth 100000 in
theorem ck49_250 : (List.range 24).all (fun i => rck tr49 prog_1_method_50_code pool_0 10 (250 + i)) = true := by decide +kernel
theorem ck49 : ∀ pc, pc < 274 → rck tr49 prog_1_method_50_code pool_0 10 pc = true := (rck_j (rck_j rck_0 ck49_0) ck49_250)
set_option maxRecDepth 100000 in
theorem ck50_0 : (List.range 17).all (fun i => rck tr50 prog_1_method_51_code pool_0 4 (0 + i)) = true := by decide +kernel
theorem ck50 : ∀ pc, pc < 17 → rck tr50 prog_1_method_51_code pool_0 4 pc = true := (rck_j rck_0 ck50_0)
set_option maxRecDepth 100000 in
theorem ck51_0 : (List.range 250).all (fun i => rck tr51 prog_1_method_52_code pool_0 16 (0 + i)) = true := by decide +kernel
set_option maxRecDepth 100000 in
theorem ck51_250 : (List.range 3).all (fun i => rck tr51 prog_1_method_52_code pool_0 16 (250 + i)) = true := by decide +kernel
theorem ck51 : ∀ pc, pc < 253 → rck tr51 prog_1_method_52_code pool_0 16 pc = true := (rck_j (rck_j rck_0 ck51_0) ck51_250)
set_option maxRecDepth 100000 in
theorem ck52_0 : (List.range 167).all (fun i => rck tr52 prog_1_method_53_code pool_0 8 (0 + i)) = true := by decide +kernel
theorem ck52 : ∀ pc, pc < 167 → rck tr52 prog_1_method_53_code pool_0 8 pc = true := (rck_j rck_0 ck52_0)
set_option maxRecDepth 100000 in
theorem ck53_0 : (List.range 58).all (fun i => rck tr53 prog_1_method_54_code pool_0 5 (0 + i)) = true := by decide +kernel
theorem ck53 : ∀ pc, pc < 58 → rck tr53 prog_1_method_54_code pool_0 5 pc = true := (rck_j rck_0 ck53_0)
set_option maxRecDepth 100000 in
theorem ck54_0 : (List.range 11).all (fun i => rck tr54 prog_1_method_55_code pool_0 1 (0 + i)) = true := by decide +kernel
theorem ck54 : ∀ pc, pc < 11 → rck tr54 prog_1_method_55_code pool_0 1 pc = true := (rck_j rck_0 ck54_0)
set_option maxRecDepth 100000 in
theorem ck55_0 : (List.range 175).all (fun i => rck tr55 prog_14_method_1_code pool_1 1 (0 + i)) = true := by decide +kernel
theorem ck55 : ∀ pc, pc < 175 → rck tr55 prog_14_method_1_code pool_1 1 pc = true := (rck_j rck_0 ck55_0)
set_option maxRecDepth 100000 in
theorem ck56_0 : (List.range 15).all (fun i => rck tr56 prog_14_method_2_code pool_1 1 (0 + i)) = true := by decide +kernel
theorem ck56 : ∀ pc, pc < 15 → rck tr56 prog_14_method_2_code pool_1 1 pc = true := (rck_j rck_0 ck56_0)
set_option maxRecDepth 100000 in
theorem ck57_0 : (List.range 46).all (fun i => rck tr57 prog_14_method_3_code pool_1 3 (0 + i)) = true := by decide +kernel
theorem ck57 : ∀ pc, pc < 46 → rck tr57 prog_14_method_3_code pool_1 3 pc = true := (rck_j rck_0 ck57_0)
set_option maxRecDepth 100000 in
theorem ck58_0 : (List.range 115).all (fun i => rck tr58 prog_14_method_4_code pool_1 9 (0 + i)) = true := by decide +kernel
theorem ck58 : ∀ pc, pc < 115 → rck tr58 prog_14_method_4_code pool_1 9 pc = true := (rck_j rck_0 ck58_0)
set_option maxRecDepth 100000 in
theorem ck59_0 : (List.range 85).all (fun i => rck tr59 prog_14_method_5_code pool_1 7 (0 + i)) = true := by decide +kernel
theorem ck59 : ∀ pc, pc < 85 → rck tr59 prog_14_method_5_code pool_1 7 pc = true := (rck_j rck_0 ck59_0)
set_option maxRecDepth 100000 in
theorem ck60_0 : (List.range 108).all (fun i => rck tr60 prog_14_method_6_code pool_1 6 (0 + i)) = true := by decide +kernel
theorem ck60 : ∀ pc, pc < 108 → rck tr60 prog_14_method_6_code pool_1 6 pc = true := (rck_j rck_0 ck60_0)
set_option maxRecDepth 100000 in
theorem ck61_0 : (List.range 32).all (fun i => rck tr61 prog_14_method_7_code pool_1 3 (0 + i)) = true := by decide +kernel
theorem ck61 : ∀ pc, pc < 32 → rck tr61 prog_14_method_7_code pool_1 3 pc = true := (rck_j rck_0 ck61_0)
set_option maxRecDepth 100000 in
theorem ck62_0 : (List.range 25).all (fun i => rck tr62 prog_14_method_8_code pool_1 4 (0 + i)) = true := by decide +kernel
theorem ck62 : ∀ pc, pc < 25 → rck tr62 prog_14_method_8_code pool_1 4 pc = true := (rck_j rck_0 ck62_0)
set_option maxRecDepth 100000 in
theorem ck63_0 : (List.range 109).all (fun i => rck tr63 prog_14_method_9_code pool_1 8 (0 + i)) = true := by decide +kernel
theorem ck63 : ∀ pc, pc < 109 → rck tr63 prog_14_method_9_code pool_1 8 pc = true := (rck_j rck_0 ck63_0)
set_option maxRecDepth 100000 in
theorem ck64_0 : (List.range 18).all (fun i => rck tr64 prog_14_method_10_code pool_1 2 (0 + i)) = true := by decide +kernel
theorem ck64 : ∀ pc, pc < 18 → rck tr64 prog_14_method_10_code pool_1 2 pc = true := (rck_j rck_0 ck64_0)
set_option maxRecDepth 100000 in
theorem ck65_0 : (List.range 37).all (fun i => rck tr65 prog_14_method_11_code pool_1 3 (0 + i)) = true := by decide +kernel
theorem ck65 : ∀ pc, pc < 37 → rck tr65 prog_14_method_11_code pool_1 3 pc = true := (rck_j rck_0 ck65_0)
set_option maxRecDepth 100000 in
theorem ck66_0 : (List.range 96).all (fun i => rck tr66 prog_14_method_12_code pool_1 4 (0 + i)) = true := by decide +kernel
theorem ck66 : ∀ pc, pc < 96 → rck tr66 prog_14_method_12_code pool_1 4 pc = true := (rck_j rck_0 ck66_0)
set_option maxRecDepth 100000 in
theorem ck67_0 : (List.range 16).all (fun i => rck tr67 prog_14_method_13_code pool_1 3 (0 + i)) = true := by decide +kernel
theorem ck67 : ∀ pc, pc < 16 → rck tr67 prog_14_method_13_code pool_1 3 pc = true := (rck_j rck_0 ck67_0)
set_option maxRecDepth 100000 in
theorem ck68_0 : (List.range 148).all (fun i => rck tr68 prog_14_method_14_code pool_1 2 (0 + i)) = true := by decide +kernel
theorem ck68 : ∀ pc, pc < 148 → rck tr68 prog_14_method_14_code pool_1 2 pc = true := (rck_j rck_0 ck68_0)
set_option maxRecDepth 100000 in
theorem ck69_0 : (List.range 19).all (fun i => rck tr69 prog_14_method_15_code pool_1 3 (0 + i)) = true := by decide +kernel
theorem ck69 : ∀ pc, pc < 19 → rck tr69 prog_14_method_15_code pool_1 3 pc = true := (rck_j rck_0 ck69_0)
set_option maxRecDepth 100000 in
theorem ck70_0 : (List.range 21).all (fun i => rck tr70 prog_14_method_16_code pool_1 2 (0 + i)) = true := by decide +kernel
theorem ck70 : ∀ pc, pc < 21 → rck tr70 prog_14_method_16_code pool_1 2 pc = true := (rck_j rck_0 ck70_0)
set_option maxRecDepth 100000 in
theorem ck71_0 : (List.range 56).all (fun i => rck tr71 prog_14_method_17_code pool_1 5 (0 + i)) = true := by decide +kernel
theorem ck71 : ∀ pc, pc < 56 → rck tr71 prog_14_method_17_code pool_1 5 pc = true := (rck_j rck_0 ck71_0)
set_option maxRecDepth 100000 in
theorem ck72_0 : (List.range 56).all (fun i => rck tr72 prog_14_method_18_code pool_1 6 (0 + i)) = true := by decide +kernel
theorem ck72 : ∀ pc, pc < 56 → rck tr72 prog_14_method_18_code pool_1 6 pc = true := (rck_j rck_0 ck72_0)
set_option maxRecDepth 100000 in
theorem ck73_0 : (List.range 70).all (fun i => rck tr73 prog_14_method_19_code pool_1 6 (0 + i)) = true := by decide +kernel
theorem ck73 : ∀ pc, pc < 70 → rck tr73 prog_14_method_19_code pool_1 6 pc = true := (rck_j rck_0 ck73_0)
set_option maxRecDepth 100000 in
theorem ck74_0 : (List.range 52).all (fun i => rck tr74 prog_14_method_20_code pool_1 3 (0 + i)) = true := by decide +kernel
theorem ck74 : ∀ pc, pc < 52 → rck tr74 prog_14_method_20_code pool_1 3 pc = true := (rck_j rck_0 ck74_0)
set_option maxRecDepth 100000 in
theorem ck75_0 : (List.range 53).all (fun i => rck tr75 prog_14_method_21_code pool_1 3 (0 + i)) = true := by decide +kernel
theorem ck75 : ∀ pc, pc < 53 → rck tr75 prog_14_method_21_code pool_1 3 pc = true := (rck_j rck_0 ck75_0)
set_option maxRecDepth 100000 in
theorem ck76_0 : (List.range 23).all (fun i => rck tr76 prog_14_method_22_code pool_1 2 (0 + i)) = true := by decide +kernel
theorem ck76 : ∀ pc, pc < 23 → rck tr76 prog_14_method_22_code pool_1 2 pc = true := (rck_j rck_0 ck76_0)
set_option maxRecDepth 100000 in
theorem ck77_0 : (List.range 40).all (fun i => rck tr77 prog_14_method_23_code pool_1 3 (0 + i)) = true := by decide +kernel
theorem ck77 : ∀ pc, pc < 40 → rck tr77 prog_14_method_23_code pool_1 3 pc = true := (rck_j rck_0 ck77_0)
set_option maxRecDepth 100000 in
theorem ck78_0 : (List.range 49).all (fun i => rck tr78 prog_14_method_24_code pool_1 2 (0 + i)) = true := by decide +kernel
theorem ck78 : ∀ pc, pc < 49 → rck tr78 prog_14_method_24_code pool_1 2 pc = true := (rck_j rck_0 ck78_0)
set_option maxRecDepth 100000 in
theorem ck79_0 : (List.range 32).all (fun i => rck tr79 prog_14_method_25_code pool_1 2 (0 + i)) = true := by decide +kernel
theorem ck79 : ∀ pc, pc < 32 → rck tr79 prog_14_method_25_code pool_1 2 pc = true := (rck_j rck_0 ck79_0)
set_option maxRecDepth 100000 in
theorem ck80_0 : (List.range 172).all (fun i => rck tr80 prog_14_method_26_code pool_1 2 (0 + i)) = true := by decide +kernel
theorem ck80 : ∀ pc, pc < 172 → rck tr80 prog_14_method_26_code pool_1 2 pc = true := (rck_j rck_0 ck80_0)
set_option maxRecDepth 100000 in
theorem ck81_0 : (List.range 155).all (fun i => rck tr81 prog_14_method_27_code pool_1 7 (0 + i)) = true := by decide +kernel
theorem ck81 : ∀ pc, pc < 155 → rck tr81 prog_14_method_27_code pool_1 7 pc = true := (rck_j rck_0 ck81_0)
set_option maxRecDepth 100000 in
theorem ck82_0 : (List.range 250).all (fun i => rck tr82 prog_14_method_28_code pool_1 6 (0 + i)) = true := by decide +kernel
set_option maxRecDepth 100000 in
theorem ck82_250 : (List.range 24).all (fun i => rck tr82 prog_14_method_28_code pool_1 6 (250 + i)) = true := by decide +kernel
theorem ck82 : ∀ pc, pc < 274 → rck tr82 prog_14_method_28_code pool_1 6 pc = true := (rck_j (rck_j rck_0 ck82_0) ck82_250)
