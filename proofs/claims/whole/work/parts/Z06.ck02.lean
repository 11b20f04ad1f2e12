/-! the code of the methods 83 to 107 is what the bytes decode to -/
set_option maxRecDepth 100000 in
theorem ck83_0 : (List.range 67).all (fun i => rck tr83 prog_14_method_29_code pool_1 2 (0 + i)) = true := by decide +kernel
theorem ck83 : ∀ pc, pc < 67 → rck tr83 prog_14_method_29_code pool_1 2 pc = true := (rck_j rck_0 ck83_0)
set_option maxRecDepth 100000 in
theorem ck84_0 : (List.range 93).all (fun i => rck tr84 prog_14_method_30_code pool_1 4 (0 + i)) = true := by decide +kernel
theorem ck84 : ∀ pc, pc < 93 → rck tr84 prog_14_method_30_code pool_1 4 pc = true := (rck_j rck_0 ck84_0)
set_option maxRecDepth 100000 in
theorem ck85_0 : (List.range 75).all (fun i => rck tr85 prog_14_method_31_code pool_1 6 (0 + i)) = true := by decide +kernel
theorem ck85 : ∀ pc, pc < 75 → rck tr85 prog_14_method_31_code pool_1 6 pc = true := (rck_j rck_0 ck85_0)
set_option maxRecDepth 100000 in
theorem ck86_0 : (List.range 79).all (fun i => rck tr86 prog_14_method_32_code pool_1 8 (0 + i)) = true := by decide +kernel
theorem ck86 : ∀ pc, pc < 79 → rck tr86 prog_14_method_32_code pool_1 8 pc = true := (rck_j rck_0 ck86_0)
set_option maxRecDepth 100000 in
theorem ck87_0 : (List.range 250).all (fun i => rck tr87 prog_14_method_33_code pool_1 7 (0 + i)) = true := by decide +kernel
set_option maxRecDepth 100000 in
theorem ck87_250 : (List.range 115).all (fun i => rck tr87 prog_14_method_33_code pool_1 7 (250 + i)) = true := by decide +kernel
theorem ck87 : ∀ pc, pc < 365 → rck tr87 prog_14_method_33_code pool_1 7 pc = true := (rck_j (rck_j rck_0 ck87_0) ck87_250)
set_option maxRecDepth 100000 in
theorem ck88_0 : (List.range 60).all (fun i => rck tr88 prog_14_method_34_code pool_1 5 (0 + i)) = true := by decide +kernel
theorem ck88 : ∀ pc, pc < 60 → rck tr88 prog_14_method_34_code pool_1 5 pc = true := (rck_j rck_0 ck88_0)
set_option maxRecDepth 100000 in
theorem ck89_0 : (List.range 240).all (fun i => rck tr89 prog_14_method_35_code pool_1 6 (0 + i)) = true := by decide +kernel
theorem ck89 : ∀ pc, pc < 240 → rck tr89 prog_14_method_35_code pool_1 6 pc = true := (rck_j rck_0 ck89_0)
set_option maxRecDepth 100000 in
theorem ck90_0 : (List.range 101).all (fun i => rck tr90 prog_14_method_36_code pool_1 2 (0 + i)) = true := by decide +kernel
theorem ck90 : ∀ pc, pc < 101 → rck tr90 prog_14_method_36_code pool_1 2 pc = true := (rck_j rck_0 ck90_0)
set_option maxRecDepth 100000 in
theorem ck91_0 : (List.range 25).all (fun i => rck tr91 prog_14_method_37_code pool_1 2 (0 + i)) = true := by decide +kernel
theorem ck91 : ∀ pc, pc < 25 → rck tr91 prog_14_method_37_code pool_1 2 pc = true := (rck_j rck_0 ck91_0)
set_option maxRecDepth 100000 in
theorem ck92_0 : (List.range 5).all (fun i => rck tr92 prog_2_method_1_code pool_2 1 (0 + i)) = true := by decide +kernel
theorem ck92 : ∀ pc, pc < 5 → rck tr92 prog_2_method_1_code pool_2 1 pc = true := (rck_j rck_0 ck92_0)
set_option maxRecDepth 100000 in
theorem ck93_0 : (List.range 57).all (fun i => rck tr93 prog_2_method_2_code pool_2 4 (0 + i)) = true := by decide +kernel
theorem ck93 : ∀ pc, pc < 57 → rck tr93 prog_2_method_2_code pool_2 4 pc = true := (rck_j rck_0 ck93_0)
set_option maxRecDepth 100000 in
theorem ck94_0 : (List.range 110).all (fun i => rck tr94 prog_2_method_3_code pool_2 9 (0 + i)) = true := by decide +kernel
theorem ck94 : ∀ pc, pc < 110 → rck tr94 prog_2_method_3_code pool_2 9 pc = true := (rck_j rck_0 ck94_0)
set_option maxRecDepth 100000 in
theorem ck95_0 : (List.range 18).all (fun i => rck tr95 prog_2_method_4_code pool_2 4 (0 + i)) = true := by decide +kernel
theorem ck95 : ∀ pc, pc < 18 → rck tr95 prog_2_method_4_code pool_2 4 pc = true := (rck_j rck_0 ck95_0)
set_option maxRecDepth 100000 in
theorem ck96_0 : (List.range 124).all (fun i => rck tr96 prog_3_method_1_code pool_3 1 (0 + i)) = true := by decide +kernel
theorem ck96 : ∀ pc, pc < 124 → rck tr96 prog_3_method_1_code pool_3 1 pc = true := (rck_j rck_0 ck96_0)
set_option maxRecDepth 100000 in
theorem ck97_0 : (List.range 44).all (fun i => rck tr97 prog_3_method_2_code pool_3 3 (0 + i)) = true := by decide +kernel
theorem ck97 : ∀ pc, pc < 44 → rck tr97 prog_3_method_2_code pool_3 3 pc = true := (rck_j rck_0 ck97_0)
set_option maxRecDepth 100000 in
theorem ck98_0 : (List.range 10).all (fun i => rck tr98 prog_3_method_3_code pool_3 2 (0 + i)) = true := by decide +kernel
theorem ck98 : ∀ pc, pc < 10 → rck tr98 prog_3_method_3_code pool_3 2 pc = true := (rck_j rck_0 ck98_0)
set_option maxRecDepth 100000 in
theorem ck99_0 : (List.range 126).all (fun i => rck tr99 prog_3_method_4_code pool_3 6 (0 + i)) = true := by decide +kernel
theorem ck99 : ∀ pc, pc < 126 → rck tr99 prog_3_method_4_code pool_3 6 pc = true := (rck_j rck_0 ck99_0)
set_option maxRecDepth 100000 in
theorem ck100_0 : (List.range 100).all (fun i => rck tr100 prog_3_method_5_code pool_3 4 (0 + i)) = true := by decide +kernel
theorem ck100 : ∀ pc, pc < 100 → rck tr100 prog_3_method_5_code pool_3 4 pc = true := (rck_j rck_0 ck100_0)
set_option maxRecDepth 100000 in
theorem ck101_0 : (List.range 79).all (fun i => rck tr101 prog_3_method_6_code pool_3 2 (0 + i)) = true := by decide +kernel
theorem ck101 : ∀ pc, pc < 79 → rck tr101 prog_3_method_6_code pool_3 2 pc = true := (rck_j rck_0 ck101_0)
set_option maxRecDepth 100000 in
theorem ck102_0 : (List.range 104).all (fun i => rck tr102 prog_3_method_7_code pool_3 2 (0 + i)) = true := by decide +kernel
theorem ck102 : ∀ pc, pc < 104 → rck tr102 prog_3_method_7_code pool_3 2 pc = true := (rck_j rck_0 ck102_0)
set_option maxRecDepth 100000 in
theorem ck103_0 : (List.range 110).all (fun i => rck tr103 prog_3_method_8_code pool_3 6 (0 + i)) = true := by decide +kernel
theorem ck103 : ∀ pc, pc < 110 → rck tr103 prog_3_method_8_code pool_3 6 pc = true := (rck_j rck_0 ck103_0)
set_option maxRecDepth 100000 in
theorem ck104_0 : (List.range 250).all (fun i => rck tr104 prog_3_method_9_code pool_3 6 (0 + i)) = true := by decide +kernel
set_option maxRecDepth 100000 in
theorem ck104_250 : (List.range 43).all (fun i => rck tr104 prog_3_method_9_code pool_3 6 (250 + i)) = true := by decide +kernel
theorem ck104 : ∀ pc, pc < 293 → rck tr104 prog_3_method_9_code pool_3 6 pc = true := (rck_j (rck_j rck_0 ck104_0) ck104_250)
set_option maxRecDepth 100000 in
theorem ck105_0 : (List.range 66).all (fun i => rck tr105 prog_3_method_10_code pool_3 4 (0 + i)) = true := by decide +kernel
theorem ck105 : ∀ pc, pc < 66 → rck tr105 prog_3_method_10_code pool_3 4 pc = true := (rck_j rck_0 ck105_0)
set_option maxRecDepth 100000 in
theorem ck106_0 : (List.range 171).all (fun i => rck tr106 prog_3_method_11_code pool_3 9 (0 + i)) = true := by decide +kernel
theorem ck106 : ∀ pc, pc < 171 → rck tr106 prog_3_method_11_code pool_3 9 pc = true := (rck_j rck_0 ck106_0)
set_option maxRecDepth 100000 in
theorem ck107_0 : (List.range 165).all (fun i => rck tr107 prog_3_method_12_code pool_3 9 (0 + i)) = true := by decide +kernel
theorem ck107 : ∀ pc, pc < 165 → rck tr107 prog_3_method_12_code pool_3 9 pc = true := (rck_j rck_0 ck107_0)
