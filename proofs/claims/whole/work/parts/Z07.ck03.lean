/-! the code of the methods 108 to 136 is what the bytes decode to -/
set_option maxRecDepth 100000 in
theorem ck108_0 : (List.range 199).all (fun i => rck tr108 prog_3_method_13_code pool_3 10 (0 + i)) = true := by decide +kernel
theorem ck108 : ∀ pc, pc < 199 → rck tr108 prog_3_method_13_code pool_3 10 pc = true := (rck_j rck_0 ck108_0)
set_option maxRecDepth 100000 in
theorem ck109_0 : (List.range 207).all (fun i => rck tr109 prog_3_method_14_code pool_3 6 (0 + i)) = true := by decide +kernel
theorem ck109 : ∀ pc, pc < 207 → rck tr109 prog_3_method_14_code pool_3 6 pc = true := (rck_j rck_0 ck109_0)
set_option maxRecDepth 100000 in
theorem ck110_0 : (List.range 128).all (fun i => rck tr110 prog_3_method_15_code pool_3 8 (0 + i)) = true := by decide +kernel
theorem ck110 : ∀ pc, pc < 128 → rck tr110 prog_3_method_15_code pool_3 8 pc = true := (rck_j rck_0 ck110_0)
set_option maxRecDepth 100000 in
theorem ck111_0 : (List.range 70).all (fun i => rck tr111 prog_3_method_16_code pool_3 7 (0 + i)) = true := by decide +kernel
theorem ck111 : ∀ pc, pc < 70 → rck tr111 prog_3_method_16_code pool_3 7 pc = true := (rck_j rck_0 ck111_0)
set_option maxRecDepth 100000 in
theorem ck112_0 : (List.range 55).all (fun i => rck tr112 prog_3_method_17_code pool_3 7 (0 + i)) = true := by decide +kernel
theorem ck112 : ∀ pc, pc < 55 → rck tr112 prog_3_method_17_code pool_3 7 pc = true := (rck_j rck_0 ck112_0)
set_option maxRecDepth 100000 in
theorem ck113_0 : (List.range 27).all (fun i => rck tr113 prog_4_method_1_code pool_4 1 (0 + i)) = true := by decide +kernel
theorem ck113 : ∀ pc, pc < 27 → rck tr113 prog_4_method_1_code pool_4 1 pc = true := (rck_j rck_0 ck113_0)
set_option maxRecDepth 100000 in
theorem ck114_0 : (List.range 20).all (fun i => rck tr114 prog_4_method_2_code pool_4 1 (0 + i)) = true := by decide +kernel
theorem ck114 : ∀ pc, pc < 20 → rck tr114 prog_4_method_2_code pool_4 1 pc = true := (rck_j rck_0 ck114_0)
set_option maxRecDepth 100000 in
theorem ck115_0 : (List.range 142).all (fun i => rck tr115 prog_4_method_3_code pool_4 5 (0 + i)) = true := by decide +kernel
theorem ck115 : ∀ pc, pc < 142 → rck tr115 prog_4_method_3_code pool_4 5 pc = true := (rck_j rck_0 ck115_0)
set_option maxRecDepth 100000 in
theorem ck116_0 : (List.range 26).all (fun i => rck tr116 prog_4_method_4_code pool_4 1 (0 + i)) = true := by decide +kernel
theorem ck116 : ∀ pc, pc < 26 → rck tr116 prog_4_method_4_code pool_4 1 pc = true := (rck_j rck_0 ck116_0)
set_option maxRecDepth 100000 in
theorem ck117_0 : (List.range 42).all (fun i => rck tr117 prog_4_method_5_code pool_4 2 (0 + i)) = true := by decide +kernel
theorem ck117 : ∀ pc, pc < 42 → rck tr117 prog_4_method_5_code pool_4 2 pc = true := (rck_j rck_0 ck117_0)
set_option maxRecDepth 100000 in
theorem ck118_0 : (List.range 42).all (fun i => rck tr118 prog_4_method_6_code pool_4 5 (0 + i)) = true := by decide +kernel
theorem ck118 : ∀ pc, pc < 42 → rck tr118 prog_4_method_6_code pool_4 5 pc = true := (rck_j rck_0 ck118_0)
set_option maxRecDepth 100000 in
theorem ck119_0 : (List.range 103).all (fun i => rck tr119 prog_4_method_7_code pool_4 6 (0 + i)) = true := by decide +kernel
theorem ck119 : ∀ pc, pc < 103 → rck tr119 prog_4_method_7_code pool_4 6 pc = true := (rck_j rck_0 ck119_0)
set_option maxRecDepth 100000 in
theorem ck120_0 : (List.range 51).all (fun i => rck tr120 prog_5_method_1_code pool_5 1 (0 + i)) = true := by decide +kernel
theorem ck120 : ∀ pc, pc < 51 → rck tr120 prog_5_method_1_code pool_5 1 pc = true := (rck_j rck_0 ck120_0)
set_option maxRecDepth 100000 in
theorem ck121_0 : (List.range 46).all (fun i => rck tr121 prog_5_method_2_code pool_5 4 (0 + i)) = true := by decide +kernel
theorem ck121 : ∀ pc, pc < 46 → rck tr121 prog_5_method_2_code pool_5 4 pc = true := (rck_j rck_0 ck121_0)
set_option maxRecDepth 100000 in
theorem ck122_0 : (List.range 44).all (fun i => rck tr122 prog_5_method_3_code pool_5 4 (0 + i)) = true := by decide +kernel
theorem ck122 : ∀ pc, pc < 44 → rck tr122 prog_5_method_3_code pool_5 4 pc = true := (rck_j rck_0 ck122_0)
set_option maxRecDepth 100000 in
theorem ck123_0 : (List.range 104).all (fun i => rck tr123 prog_5_method_4_code pool_5 3 (0 + i)) = true := by decide +kernel
theorem ck123 : ∀ pc, pc < 104 → rck tr123 prog_5_method_4_code pool_5 3 pc = true := (rck_j rck_0 ck123_0)
set_option maxRecDepth 100000 in
theorem ck124_0 : (List.range 48).all (fun i => rck tr124 prog_5_method_5_code pool_5 2 (0 + i)) = true := by decide +kernel
theorem ck124 : ∀ pc, pc < 48 → rck tr124 prog_5_method_5_code pool_5 2 pc = true := (rck_j rck_0 ck124_0)
set_option maxRecDepth 100000 in
theorem ck125_0 : (List.range 97).all (fun i => rck tr125 prog_5_method_6_code pool_5 8 (0 + i)) = true := by decide +kernel
theorem ck125 : ∀ pc, pc < 97 → rck tr125 prog_5_method_6_code pool_5 8 pc = true := (rck_j rck_0 ck125_0)
set_option maxRecDepth 100000 in
theorem ck126_0 : (List.range 107).all (fun i => rck tr126 prog_5_method_7_code pool_5 3 (0 + i)) = true := by decide +kernel
theorem ck126 : ∀ pc, pc < 107 → rck tr126 prog_5_method_7_code pool_5 3 pc = true := (rck_j rck_0 ck126_0)
set_option maxRecDepth 100000 in
theorem ck127_0 : (List.range 151).all (fun i => rck tr127 prog_5_method_8_code pool_5 4 (0 + i)) = true := by decide +kernel
theorem ck127 : ∀ pc, pc < 151 → rck tr127 prog_5_method_8_code pool_5 4 pc = true := (rck_j rck_0 ck127_0)
set_option maxRecDepth 100000 in
theorem ck128_0 : (List.range 45).all (fun i => rck tr128 prog_5_method_9_code pool_5 4 (0 + i)) = true := by decide +kernel
theorem ck128 : ∀ pc, pc < 45 → rck tr128 prog_5_method_9_code pool_5 4 pc = true := (rck_j rck_0 ck128_0)
set_option maxRecDepth 100000 in
theorem ck129_0 : (List.range 74).all (fun i => rck tr129 prog_5_method_10_code pool_5 6 (0 + i)) = true := by decide +kernel
theorem ck129 : ∀ pc, pc < 74 → rck tr129 prog_5_method_10_code pool_5 6 pc = true := (rck_j rck_0 ck129_0)
set_option maxRecDepth 100000 in
theorem ck130_0 : (List.range 160).all (fun i => rck tr130 prog_5_method_11_code pool_5 5 (0 + i)) = true := by decide +kernel
theorem ck130 : ∀ pc, pc < 160 → rck tr130 prog_5_method_11_code pool_5 5 pc = true := (rck_j rck_0 ck130_0)
set_option maxRecDepth 100000 in
theorem ck131_0 : (List.range 166).all (fun i => rck tr131 prog_6_method_1_code pool_6 4 (0 + i)) = true := by decide +kernel
theorem ck131 : ∀ pc, pc < 166 → rck tr131 prog_6_method_1_code pool_6 4 pc = true := (rck_j rck_0 ck131_0)
set_option maxRecDepth 100000 in
theorem ck132_0 : (List.range 23).all (fun i => rck tr132 prog_6_method_2_code pool_6 2 (0 + i)) = true := by decide +kernel
theorem ck132 : ∀ pc, pc < 23 → rck tr132 prog_6_method_2_code pool_6 2 pc = true := (rck_j rck_0 ck132_0)
set_option maxRecDepth 100000 in
theorem ck133_0 : (List.range 23).all (fun i => rck tr133 prog_6_method_3_code pool_6 3 (0 + i)) = true := by decide +kernel
theorem ck133 : ∀ pc, pc < 23 → rck tr133 prog_6_method_3_code pool_6 3 pc = true := (rck_j rck_0 ck133_0)
set_option maxRecDepth 100000 in
theorem ck134_0 : (List.range 225).all (fun i => rck tr134 prog_6_method_4_code pool_6 10 (0 + i)) = true := by decide +kernel
theorem ck134 : ∀ pc, pc < 225 → rck tr134 prog_6_method_4_code pool_6 10 pc = true := (rck_j rck_0 ck134_0)
set_option maxRecDepth 100000 in
theorem ck135_0 : (List.range 226).all (fun i => rck tr135 prog_6_method_5_code pool_6 8 (0 + i)) = true := by decide +kernel
theorem ck135 : ∀ pc, pc < 226 → rck tr135 prog_6_method_5_code pool_6 8 pc = true := (rck_j rck_0 ck135_0)
set_option maxRecDepth 100000 in
theorem ck136_0 : (List.range 250).all (fun i => rck tr136 prog_6_method_6_code pool_6 10 (0 + i)) = true := by decide +kernel
set_option maxRecDepth 100000 in
theorem ck136_250 : (List.range 74).all (fun i => rck tr136 prog_6_method_6_code pool_6 10 (250 + i)) = true := by decide +kernel
theorem ck136 : ∀ pc, pc < 324 → rck tr136 prog_6_method_6_code pool_6 10 pc = true := (rck_j (rck_j rck_0 ck136_0) ck136_250)
