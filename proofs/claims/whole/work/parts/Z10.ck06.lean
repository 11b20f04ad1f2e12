/-! the code of the methods 195 to 224 is what the bytes decode to -/
set_option maxRecDepth 100000 in
theorem ck195_0 : (List.range 45).all (fun i => rck tr195 prog_10_method_5_code pool_10 4 (0 + i)) = true := by decide +kernel
theorem ck195 : ∀ pc, pc < 45 → rck tr195 prog_10_method_5_code pool_10 4 pc = true := (rck_j rck_0 ck195_0)
set_option maxRecDepth 100000 in
theorem ck196_0 : (List.range 80).all (fun i => rck tr196 prog_10_method_6_code pool_10 6 (0 + i)) = true := by decide +kernel
theorem ck196 : ∀ pc, pc < 80 → rck tr196 prog_10_method_6_code pool_10 6 pc = true := (rck_j rck_0 ck196_0)
set_option maxRecDepth 100000 in
theorem ck197_0 : (List.range 107).all (fun i => rck tr197 prog_10_method_7_code pool_10 7 (0 + i)) = true := by decide +kernel
theorem ck197 : ∀ pc, pc < 107 → rck tr197 prog_10_method_7_code pool_10 7 pc = true := (rck_j rck_0 ck197_0)
set_option maxRecDepth 100000 in
theorem ck198_0 : (List.range 21).all (fun i => rck tr198 prog_10_method_8_code pool_10 2 (0 + i)) = true := by decide +kernel
theorem ck198 : ∀ pc, pc < 21 → rck tr198 prog_10_method_8_code pool_10 2 pc = true := (rck_j rck_0 ck198_0)
set_option maxRecDepth 100000 in
theorem ck199_0 : (List.range 53).all (fun i => rck tr199 prog_10_method_9_code pool_10 4 (0 + i)) = true := by decide +kernel
theorem ck199 : ∀ pc, pc < 53 → rck tr199 prog_10_method_9_code pool_10 4 pc = true := (rck_j rck_0 ck199_0)
set_option maxRecDepth 100000 in
theorem ck200_0 : (List.range 44).all (fun i => rck tr200 prog_10_method_10_code pool_10 3 (0 + i)) = true := by decide +kernel
theorem ck200 : ∀ pc, pc < 44 → rck tr200 prog_10_method_10_code pool_10 3 pc = true := (rck_j rck_0 ck200_0)
set_option maxRecDepth 100000 in
theorem ck201_0 : (List.range 225).all (fun i => rck tr201 prog_10_method_11_code pool_10 8 (0 + i)) = true := by decide +kernel
theorem ck201 : ∀ pc, pc < 225 → rck tr201 prog_10_method_11_code pool_10 8 pc = true := (rck_j rck_0 ck201_0)
set_option maxRecDepth 100000 in
theorem ck202_0 : (List.range 63).all (fun i => rck tr202 prog_10_method_12_code pool_10 5 (0 + i)) = true := by decide +kernel
theorem ck202 : ∀ pc, pc < 63 → rck tr202 prog_10_method_12_code pool_10 5 pc = true := (rck_j rck_0 ck202_0)
set_option maxRecDepth 100000 in
theorem ck203_0 : (List.range 7).all (fun i => rck tr203 prog_10_method_13_code pool_10 3 (0 + i)) = true := by decide +kernel
theorem ck203 : ∀ pc, pc < 7 → rck tr203 prog_10_method_13_code pool_10 3 pc = true := (rck_j rck_0 ck203_0)
set_option maxRecDepth 100000 in
theorem ck204_0 : (List.range 35).all (fun i => rck tr204 prog_10_method_14_code pool_10 4 (0 + i)) = true := by decide +kernel
theorem ck204 : ∀ pc, pc < 35 → rck tr204 prog_10_method_14_code pool_10 4 pc = true := (rck_j rck_0 ck204_0)
set_option maxRecDepth 100000 in
theorem ck205_0 : (List.range 21).all (fun i => rck tr205 prog_10_method_15_code pool_10 4 (0 + i)) = true := by decide +kernel
theorem ck205 : ∀ pc, pc < 21 → rck tr205 prog_10_method_15_code pool_10 4 pc = true := (rck_j rck_0 ck205_0)
set_option maxRecDepth 100000 in
theorem ck206_0 : (List.range 250).all (fun i => rck tr206 prog_10_method_16_code pool_10 17 (0 + i)) = true := by decide +kernel
set_option maxRecDepth 100000 in
theorem ck206_250 : (List.range 86).all (fun i => rck tr206 prog_10_method_16_code pool_10 17 (250 + i)) = true := by decide +kernel
theorem ck206 : ∀ pc, pc < 336 → rck tr206 prog_10_method_16_code pool_10 17 pc = true := (rck_j (rck_j rck_0 ck206_0) ck206_250)
set_option maxRecDepth 100000 in
theorem ck207_0 : (List.range 143).all (fun i => rck tr207 prog_10_method_17_code pool_10 8 (0 + i)) = true := by decide +kernel
theorem ck207 : ∀ pc, pc < 143 → rck tr207 prog_10_method_17_code pool_10 8 pc = true := (rck_j rck_0 ck207_0)
set_option maxRecDepth 100000 in
theorem ck208_0 : (List.range 45).all (fun i => rck tr208 prog_10_method_18_code pool_10 1 (0 + i)) = true := by decide +kernel
theorem ck208 : ∀ pc, pc < 45 → rck tr208 prog_10_method_18_code pool_10 1 pc = true := (rck_j rck_0 ck208_0)
set_option maxRecDepth 100000 in
theorem ck209_0 : (List.range 62).all (fun i => rck tr209 prog_10_method_19_code pool_10 4 (0 + i)) = true := by decide +kernel
theorem ck209 : ∀ pc, pc < 62 → rck tr209 prog_10_method_19_code pool_10 4 pc = true := (rck_j rck_0 ck209_0)
set_option maxRecDepth 100000 in
theorem ck210_0 : (List.range 237).all (fun i => rck tr210 prog_10_method_20_code pool_10 9 (0 + i)) = true := by decide +kernel
theorem ck210 : ∀ pc, pc < 237 → rck tr210 prog_10_method_20_code pool_10 9 pc = true := (rck_j rck_0 ck210_0)
set_option maxRecDepth 100000 in
theorem ck211_0 : (List.range 186).all (fun i => rck tr211 prog_10_method_21_code pool_10 8 (0 + i)) = true := by decide +kernel
theorem ck211 : ∀ pc, pc < 186 → rck tr211 prog_10_method_21_code pool_10 8 pc = true := (rck_j rck_0 ck211_0)
set_option maxRecDepth 100000 in
theorem ck212_0 : (List.range 31).all (fun i => rck tr212 prog_11_method_1_code pool_11 4 (0 + i)) = true := by decide +kernel
theorem ck212 : ∀ pc, pc < 31 → rck tr212 prog_11_method_1_code pool_11 4 pc = true := (rck_j rck_0 ck212_0)
set_option maxRecDepth 100000 in
theorem ck213_0 : (List.range 15).all (fun i => rck tr213 prog_11_method_2_code pool_11 1 (0 + i)) = true := by decide +kernel
theorem ck213 : ∀ pc, pc < 15 → rck tr213 prog_11_method_2_code pool_11 1 pc = true := (rck_j rck_0 ck213_0)
set_option maxRecDepth 100000 in
theorem ck214_0 : (List.range 62).all (fun i => rck tr214 prog_11_method_3_code pool_11 3 (0 + i)) = true := by decide +kernel
theorem ck214 : ∀ pc, pc < 62 → rck tr214 prog_11_method_3_code pool_11 3 pc = true := (rck_j rck_0 ck214_0)
set_option maxRecDepth 100000 in
theorem ck215_0 : (List.range 152).all (fun i => rck tr215 prog_11_method_4_code pool_11 8 (0 + i)) = true := by decide +kernel
theorem ck215 : ∀ pc, pc < 152 → rck tr215 prog_11_method_4_code pool_11 8 pc = true := (rck_j rck_0 ck215_0)
set_option maxRecDepth 100000 in
theorem ck216_0 : (List.range 42).all (fun i => rck tr216 prog_11_method_5_code pool_11 5 (0 + i)) = true := by decide +kernel
theorem ck216 : ∀ pc, pc < 42 → rck tr216 prog_11_method_5_code pool_11 5 pc = true := (rck_j rck_0 ck216_0)
set_option maxRecDepth 100000 in
theorem ck217_0 : (List.range 35).all (fun i => rck tr217 prog_11_method_6_code pool_11 2 (0 + i)) = true := by decide +kernel
theorem ck217 : ∀ pc, pc < 35 → rck tr217 prog_11_method_6_code pool_11 2 pc = true := (rck_j rck_0 ck217_0)
set_option maxRecDepth 100000 in
theorem ck218_0 : (List.range 250).all (fun i => rck tr218 prog_11_method_7_code pool_11 10 (0 + i)) = true := by decide +kernel
set_option maxRecDepth 100000 in
theorem ck218_250 : (List.range 27).all (fun i => rck tr218 prog_11_method_7_code pool_11 10 (250 + i)) = true := by decide +kernel
theorem ck218 : ∀ pc, pc < 277 → rck tr218 prog_11_method_7_code pool_11 10 pc = true := (rck_j (rck_j rck_0 ck218_0) ck218_250)
set_option maxRecDepth 100000 in
theorem ck219_0 : (List.range 88).all (fun i => rck tr219 prog_11_method_8_code pool_11 3 (0 + i)) = true := by decide +kernel
theorem ck219 : ∀ pc, pc < 88 → rck tr219 prog_11_method_8_code pool_11 3 pc = true := (rck_j rck_0 ck219_0)
set_option maxRecDepth 100000 in
theorem ck220_0 : (List.range 71).all (fun i => rck tr220 prog_11_method_9_code pool_11 6 (0 + i)) = true := by decide +kernel
theorem ck220 : ∀ pc, pc < 71 → rck tr220 prog_11_method_9_code pool_11 6 pc = true := (rck_j rck_0 ck220_0)
set_option maxRecDepth 100000 in
theorem ck221_0 : (List.range 7).all (fun i => rck tr221 prog_11_method_10_code pool_11 3 (0 + i)) = true := by decide +kernel
theorem ck221 : ∀ pc, pc < 7 → rck tr221 prog_11_method_10_code pool_11 3 pc = true := (rck_j rck_0 ck221_0)
set_option maxRecDepth 100000 in
theorem ck222_0 : (List.range 35).all (fun i => rck tr222 prog_11_method_11_code pool_11 4 (0 + i)) = true := by decide +kernel
theorem ck222 : ∀ pc, pc < 35 → rck tr222 prog_11_method_11_code pool_11 4 pc = true := (rck_j rck_0 ck222_0)
set_option maxRecDepth 100000 in
theorem ck223_0 : (List.range 22).all (fun i => rck tr223 prog_11_method_12_code pool_11 4 (0 + i)) = true := by decide +kernel
theorem ck223 : ∀ pc, pc < 22 → rck tr223 prog_11_method_12_code pool_11 4 pc = true := (rck_j rck_0 ck223_0)
set_option maxRecDepth 100000 in
theorem ck224_0 : (List.range 250).all (fun i => rck tr224 prog_11_method_13_code pool_11 11 (0 + i)) = true := by decide +kernel
set_option maxRecDepth 100000 in
theorem ck224_250 : (List.range 59).all (fun i => rck tr224 prog_11_method_13_code pool_11 11 (250 + i)) = true := by decide +kernel
theorem ck224 : ∀ pc, pc < 309 → rck tr224 prog_11_method_13_code pool_11 11 pc = true := (rck_j (rck_j rck_0 ck224_0) ck224_250)
