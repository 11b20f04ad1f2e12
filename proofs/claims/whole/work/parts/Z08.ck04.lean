/-! the code of the methods 137 to 159 is what the bytes decode to -/
set_option maxRecDepth 100000 in
theorem ck137_0 : (List.range 83).all (fun i => rck tr137 prog_6_method_7_code pool_6 2 (0 + i)) = true := by decide +kernel
theorem ck137 : ∀ pc, pc < 83 → rck tr137 prog_6_method_7_code pool_6 2 pc = true := (rck_j rck_0 ck137_0)
set_option maxRecDepth 100000 in
theorem ck138_0 : (List.range 28).all (fun i => rck tr138 prog_6_method_8_code pool_6 4 (0 + i)) = true := by decide +kernel
theorem ck138 : ∀ pc, pc < 28 → rck tr138 prog_6_method_8_code pool_6 4 pc = true := (rck_j rck_0 ck138_0)
set_option maxRecDepth 100000 in
theorem ck139_0 : (List.range 186).all (fun i => rck tr139 prog_6_method_9_code pool_6 5 (0 + i)) = true := by decide +kernel
theorem ck139 : ∀ pc, pc < 186 → rck tr139 prog_6_method_9_code pool_6 5 pc = true := (rck_j rck_0 ck139_0)
set_option maxRecDepth 100000 in
theorem ck140_0 : (List.range 250).all (fun i => rck tr140 prog_6_method_10_code pool_6 8 (0 + i)) = true := by decide +kernel
set_option maxRecDepth 100000 in
theorem ck140_250 : (List.range 92).all (fun i => rck tr140 prog_6_method_10_code pool_6 8 (250 + i)) = true := by decide +kernel
theorem ck140 : ∀ pc, pc < 342 → rck tr140 prog_6_method_10_code pool_6 8 pc = true := (rck_j (rck_j rck_0 ck140_0) ck140_250)
set_option maxRecDepth 100000 in
theorem ck141_0 : (List.range 155).all (fun i => rck tr141 prog_6_method_11_code pool_6 9 (0 + i)) = true := by decide +kernel
theorem ck141 : ∀ pc, pc < 155 → rck tr141 prog_6_method_11_code pool_6 9 pc = true := (rck_j rck_0 ck141_0)
set_option maxRecDepth 100000 in
theorem ck142_0 : (List.range 250).all (fun i => rck tr142 prog_6_method_12_code pool_6 9 (0 + i)) = true := by decide +kernel
set_option maxRecDepth 100000 in
theorem ck142_250 : (List.range 20).all (fun i => rck tr142 prog_6_method_12_code pool_6 9 (250 + i)) = true := by decide +kernel
theorem ck142 : ∀ pc, pc < 270 → rck tr142 prog_6_method_12_code pool_6 9 pc = true := (rck_j (rck_j rck_0 ck142_0) ck142_250)
set_option maxRecDepth 100000 in
theorem ck143_0 : (List.range 64).all (fun i => rck tr143 prog_6_method_13_code pool_6 3 (0 + i)) = true := by decide +kernel
theorem ck143 : ∀ pc, pc < 64 → rck tr143 prog_6_method_13_code pool_6 3 pc = true := (rck_j rck_0 ck143_0)
set_option maxRecDepth 100000 in
theorem ck144_0 : (List.range 165).all (fun i => rck tr144 prog_6_method_14_code pool_6 4 (0 + i)) = true := by decide +kernel
theorem ck144 : ∀ pc, pc < 165 → rck tr144 prog_6_method_14_code pool_6 4 pc = true := (rck_j rck_0 ck144_0)
set_option maxRecDepth 100000 in
theorem ck145_0 : (List.range 24).all (fun i => rck tr145 prog_6_method_15_code pool_6 3 (0 + i)) = true := by decide +kernel
theorem ck145 : ∀ pc, pc < 24 → rck tr145 prog_6_method_15_code pool_6 3 pc = true := (rck_j rck_0 ck145_0)
set_option maxRecDepth 100000 in
theorem ck146_0 : (List.range 70).all (fun i => rck tr146 prog_6_method_16_code pool_6 5 (0 + i)) = true := by decide +kernel
theorem ck146 : ∀ pc, pc < 70 → rck tr146 prog_6_method_16_code pool_6 5 pc = true := (rck_j rck_0 ck146_0)
set_option maxRecDepth 100000 in
theorem ck147_0 : (List.range 250).all (fun i => rck tr147 prog_6_method_17_code pool_6 8 (0 + i)) = true := by decide +kernel
set_option maxRecDepth 100000 in
theorem ck147_250 : (List.range 56).all (fun i => rck tr147 prog_6_method_17_code pool_6 8 (250 + i)) = true := by decide +kernel
theorem ck147 : ∀ pc, pc < 306 → rck tr147 prog_6_method_17_code pool_6 8 pc = true := (rck_j (rck_j rck_0 ck147_0) ck147_250)
set_option maxRecDepth 100000 in
theorem ck148_0 : (List.range 30).all (fun i => rck tr148 prog_6_method_18_code pool_6 4 (0 + i)) = true := by decide +kernel
theorem ck148 : ∀ pc, pc < 30 → rck tr148 prog_6_method_18_code pool_6 4 pc = true := (rck_j rck_0 ck148_0)
set_option maxRecDepth 100000 in
theorem ck149_0 : (List.range 154).all (fun i => rck tr149 prog_6_method_19_code pool_6 9 (0 + i)) = true := by decide +kernel
theorem ck149 : ∀ pc, pc < 154 → rck tr149 prog_6_method_19_code pool_6 9 pc = true := (rck_j rck_0 ck149_0)
set_option maxRecDepth 100000 in
theorem ck150_0 : (List.range 250).all (fun i => rck tr150 prog_6_method_20_code pool_6 7 (0 + i)) = true := by decide +kernel
set_option maxRecDepth 100000 in
theorem ck150_250 : (List.range 36).all (fun i => rck tr150 prog_6_method_20_code pool_6 7 (250 + i)) = true := by decide +kernel
theorem ck150 : ∀ pc, pc < 286 → rck tr150 prog_6_method_20_code pool_6 7 pc = true := (rck_j (rck_j rck_0 ck150_0) ck150_250)
set_option maxRecDepth 100000 in
theorem ck151_0 : (List.range 52).all (fun i => rck tr151 prog_6_method_21_code pool_6 7 (0 + i)) = true := by decide +kernel
theorem ck151 : ∀ pc, pc < 52 → rck tr151 prog_6_method_21_code pool_6 7 pc = true := (rck_j rck_0 ck151_0)
set_option maxRecDepth 100000 in
theorem ck152_0 : (List.range 94).all (fun i => rck tr152 prog_6_method_22_code pool_6 4 (0 + i)) = true := by decide +kernel
theorem ck152 : ∀ pc, pc < 94 → rck tr152 prog_6_method_22_code pool_6 4 pc = true := (rck_j rck_0 ck152_0)
set_option maxRecDepth 100000 in
theorem ck153_0 : (List.range 226).all (fun i => rck tr153 prog_6_method_23_code pool_6 4 (0 + i)) = true := by decide +kernel
theorem ck153 : ∀ pc, pc < 226 → rck tr153 prog_6_method_23_code pool_6 4 pc = true := (rck_j rck_0 ck153_0)
set_option maxRecDepth 100000 in
theorem ck154_0 : (List.range 33).all (fun i => rck tr154 prog_6_method_24_code pool_6 4 (0 + i)) = true := by decide +kernel
theorem ck154 : ∀ pc, pc < 33 → rck tr154 prog_6_method_24_code pool_6 4 pc = true := (rck_j rck_0 ck154_0)
set_option maxRecDepth 100000 in
theorem ck155_0 : (List.range 12).all (fun i => rck tr155 prog_7_method_1_code pool_7 1 (0 + i)) = true := by decide +kernel
theorem ck155 : ∀ pc, pc < 12 → rck tr155 prog_7_method_1_code pool_7 1 pc = true := (rck_j rck_0 ck155_0)
set_option maxRecDepth 100000 in
theorem ck156_0 : (List.range 21).all (fun i => rck tr156 prog_7_method_2_code pool_7 1 (0 + i)) = true := by decide +kernel
theorem ck156 : ∀ pc, pc < 21 → rck tr156 prog_7_method_2_code pool_7 1 pc = true := (rck_j rck_0 ck156_0)
set_option maxRecDepth 100000 in
theorem ck157_0 : (List.range 73).all (fun i => rck tr157 prog_7_method_3_code pool_7 3 (0 + i)) = true := by decide +kernel
theorem ck157 : ∀ pc, pc < 73 → rck tr157 prog_7_method_3_code pool_7 3 pc = true := (rck_j rck_0 ck157_0)
set_option maxRecDepth 100000 in
theorem ck158_0 : (List.range 18).all (fun i => rck tr158 prog_7_method_4_code pool_7 2 (0 + i)) = true := by decide +kernel
theorem ck158 : ∀ pc, pc < 18 → rck tr158 prog_7_method_4_code pool_7 2 pc = true := (rck_j rck_0 ck158_0)
set_option maxRecDepth 100000 in
theorem ck159_0 : (List.range 47).all (fun i => rck tr159 prog_7_method_5_code pool_7 2 (0 + i)) = true := by decide +kernel
theorem ck159 : ∀ pc, pc < 47 → rck tr159 prog_7_method_5_code pool_7 2 pc = true := (rck_j rck_0 ck159_0)
