/-! the code of the methods 160 to 194 is what the bytes decode to -/
set_option maxRecDepth 100000 in
theorem ck160_0 : (List.range 55).all (fun i => rck tr160 prog_7_method_6_code pool_7 5 (0 + i)) = true := by decide +kernel
theorem ck160 : ∀ pc, pc < 55 → rck tr160 prog_7_method_6_code pool_7 5 pc = true := (rck_j rck_0 ck160_0)
set_option maxRecDepth 100000 in
theorem ck161_0 : (List.range 39).all (fun i => rck tr161 prog_7_method_7_code pool_7 4 (0 + i)) = true := by decide +kernel
theorem ck161 : ∀ pc, pc < 39 → rck tr161 prog_7_method_7_code pool_7 4 pc = true := (rck_j rck_0 ck161_0)
set_option maxRecDepth 100000 in
theorem ck162_0 : (List.range 44).all (fun i => rck tr162 prog_7_method_8_code pool_7 3 (0 + i)) = true := by decide +kernel
theorem ck162 : ∀ pc, pc < 44 → rck tr162 prog_7_method_8_code pool_7 3 pc = true := (rck_j rck_0 ck162_0)
set_option maxRecDepth 100000 in
theorem ck163_0 : (List.range 86).all (fun i => rck tr163 prog_7_method_9_code pool_7 7 (0 + i)) = true := by decide +kernel
theorem ck163 : ∀ pc, pc < 86 → rck tr163 prog_7_method_9_code pool_7 7 pc = true := (rck_j rck_0 ck163_0)
set_option maxRecDepth 100000 in
theorem ck164_0 : (List.range 107).all (fun i => rck tr164 prog_7_method_10_code pool_7 3 (0 + i)) = true := by decide +kernel
theorem ck164 : ∀ pc, pc < 107 → rck tr164 prog_7_method_10_code pool_7 3 pc = true := (rck_j rck_0 ck164_0)
set_option maxRecDepth 100000 in
theorem ck165_0 : (List.range 66).all (fun i => rck tr165 prog_7_method_11_code pool_7 1 (0 + i)) = true := by decide +kernel
theorem ck165 : ∀ pc, pc < 66 → rck tr165 prog_7_method_11_code pool_7 1 pc = true := (rck_j rck_0 ck165_0)
set_option maxRecDepth 100000 in
theorem ck166_0 : (List.range 72).all (fun i => rck tr166 prog_8_method_1_code pool_8 3 (0 + i)) = true := by decide +kernel
theorem ck166 : ∀ pc, pc < 72 → rck tr166 prog_8_method_1_code pool_8 3 pc = true := (rck_j rck_0 ck166_0)
set_option maxRecDepth 100000 in
theorem ck167_0 : (List.range 24).all (fun i => rck tr167 prog_8_method_2_code pool_8 3 (0 + i)) = true := by decide +kernel
theorem ck167 : ∀ pc, pc < 24 → rck tr167 prog_8_method_2_code pool_8 3 pc = true := (rck_j rck_0 ck167_0)
set_option maxRecDepth 100000 in
theorem ck168_0 : (List.range 25).all (fun i => rck tr168 prog_8_method_3_code pool_8 2 (0 + i)) = true := by decide +kernel
theorem ck168 : ∀ pc, pc < 25 → rck tr168 prog_8_method_3_code pool_8 2 pc = true := (rck_j rck_0 ck168_0)
set_option maxRecDepth 100000 in
theorem ck169_0 : (List.range 250).all (fun i => rck tr169 prog_8_method_4_code pool_8 9 (0 + i)) = true := by decide +kernel
set_option maxRecDepth 100000 in
theorem ck169_250 : (List.range 88).all (fun i => rck tr169 prog_8_method_4_code pool_8 9 (250 + i)) = true := by decide +kernel
theorem ck169 : ∀ pc, pc < 338 → rck tr169 prog_8_method_4_code pool_8 9 pc = true := (rck_j (rck_j rck_0 ck169_0) ck169_250)
set_option maxRecDepth 100000 in
theorem ck170_0 : (List.range 41).all (fun i => rck tr170 prog_8_method_5_code pool_8 3 (0 + i)) = true := by decide +kernel
theorem ck170 : ∀ pc, pc < 41 → rck tr170 prog_8_method_5_code pool_8 3 pc = true := (rck_j rck_0 ck170_0)
set_option maxRecDepth 100000 in
theorem ck171_0 : (List.range 7).all (fun i => rck tr171 prog_8_method_6_code pool_8 2 (0 + i)) = true := by decide +kernel
theorem ck171 : ∀ pc, pc < 7 → rck tr171 prog_8_method_6_code pool_8 2 pc = true := (rck_j rck_0 ck171_0)
set_option maxRecDepth 100000 in
theorem ck172_0 : (List.range 38).all (fun i => rck tr172 prog_8_method_7_code pool_8 3 (0 + i)) = true := by decide +kernel
theorem ck172 : ∀ pc, pc < 38 → rck tr172 prog_8_method_7_code pool_8 3 pc = true := (rck_j rck_0 ck172_0)
set_option maxRecDepth 100000 in
theorem ck173_0 : (List.range 20).all (fun i => rck tr173 prog_8_method_8_code pool_8 2 (0 + i)) = true := by decide +kernel
theorem ck173 : ∀ pc, pc < 20 → rck tr173 prog_8_method_8_code pool_8 2 pc = true := (rck_j rck_0 ck173_0)
set_option maxRecDepth 100000 in
theorem ck174_0 : (List.range 12).all (fun i => rck tr174 prog_8_method_9_code pool_8 2 (0 + i)) = true := by decide +kernel
theorem ck174 : ∀ pc, pc < 12 → rck tr174 prog_8_method_9_code pool_8 2 pc = true := (rck_j rck_0 ck174_0)
set_option maxRecDepth 100000 in
theorem ck175_0 : (List.range 34).all (fun i => rck tr175 prog_8_method_10_code pool_8 4 (0 + i)) = true := by decide +kernel
theorem ck175 : ∀ pc, pc < 34 → rck tr175 prog_8_method_10_code pool_8 4 pc = true := (rck_j rck_0 ck175_0)
set_option maxRecDepth 100000 in
theorem ck176_0 : (List.range 30).all (fun i => rck tr176 prog_8_method_11_code pool_8 4 (0 + i)) = true := by decide +kernel
theorem ck176 : ∀ pc, pc < 30 → rck tr176 prog_8_method_11_code pool_8 4 pc = true := (rck_j rck_0 ck176_0)
set_option maxRecDepth 100000 in
theorem ck177_0 : (List.range 65).all (fun i => rck tr177 prog_8_method_12_code pool_8 7 (0 + i)) = true := by decide +kernel
theorem ck177 : ∀ pc, pc < 65 → rck tr177 prog_8_method_12_code pool_8 7 pc = true := (rck_j rck_0 ck177_0)
set_option maxRecDepth 100000 in
theorem ck178_0 : (List.range 114).all (fun i => rck tr178 prog_8_method_13_code pool_8 7 (0 + i)) = true := by decide +kernel
theorem ck178 : ∀ pc, pc < 114 → rck tr178 prog_8_method_13_code pool_8 7 pc = true := (rck_j rck_0 ck178_0)
set_option maxRecDepth 100000 in
theorem ck179_0 : (List.range 166).all (fun i => rck tr179 prog_8_method_14_code pool_8 13 (0 + i)) = true := by decide +kernel
theorem ck179 : ∀ pc, pc < 166 → rck tr179 prog_8_method_14_code pool_8 13 pc = true := (rck_j rck_0 ck179_0)
set_option maxRecDepth 100000 in
theorem ck180_0 : (List.range 63).all (fun i => rck tr180 prog_8_method_15_code pool_8 5 (0 + i)) = true := by decide +kernel
theorem ck180 : ∀ pc, pc < 63 → rck tr180 prog_8_method_15_code pool_8 5 pc = true := (rck_j rck_0 ck180_0)
set_option maxRecDepth 100000 in
theorem ck181_0 : (List.range 207).all (fun i => rck tr181 prog_8_method_16_code pool_8 9 (0 + i)) = true := by decide +kernel
theorem ck181 : ∀ pc, pc < 207 → rck tr181 prog_8_method_16_code pool_8 9 pc = true := (rck_j rck_0 ck181_0)
set_option maxRecDepth 100000 in
theorem ck182_0 : (List.range 34).all (fun i => rck tr182 prog_8_method_17_code pool_8 4 (0 + i)) = true := by decide +kernel
theorem ck182 : ∀ pc, pc < 34 → rck tr182 prog_8_method_17_code pool_8 4 pc = true := (rck_j rck_0 ck182_0)
set_option maxRecDepth 100000 in
theorem ck183_0 : (List.range 72).all (fun i => rck tr183 prog_8_method_18_code pool_8 5 (0 + i)) = true := by decide +kernel
theorem ck183 : ∀ pc, pc < 72 → rck tr183 prog_8_method_18_code pool_8 5 pc = true := (rck_j rck_0 ck183_0)
set_option maxRecDepth 100000 in
theorem ck184_0 : (List.range 250).all (fun i => rck tr184 prog_8_method_19_code pool_8 13 (0 + i)) = true := by decide +kernel
set_option maxRecDepth 100000 in
theorem ck184_250 : (List.range 66).all (fun i => rck tr184 prog_8_method_19_code pool_8 13 (250 + i)) = true := by decide +kernel
theorem ck184 : ∀ pc, pc < 316 → rck tr184 prog_8_method_19_code pool_8 13 pc = true := (rck_j (rck_j rck_0 ck184_0) ck184_250)
set_option maxRecDepth 100000 in
theorem ck185_0 : (List.range 36).all (fun i => rck tr185 prog_9_method_1_code pool_9 1 (0 + i)) = true := by decide +kernel
theorem ck185 : ∀ pc, pc < 36 → rck tr185 prog_9_method_1_code pool_9 1 pc = true := (rck_j rck_0 ck185_0)
set_option maxRecDepth 100000 in
theorem ck186_0 : (List.range 51).all (fun i => rck tr186 prog_9_method_2_code pool_9 2 (0 + i)) = true := by decide +kernel
theorem ck186 : ∀ pc, pc < 51 → rck tr186 prog_9_method_2_code pool_9 2 pc = true := (rck_j rck_0 ck186_0)
set_option maxRecDepth 100000 in
theorem ck187_0 : (List.range 46).all (fun i => rck tr187 prog_9_method_3_code pool_9 3 (0 + i)) = true := by decide +kernel
theorem ck187 : ∀ pc, pc < 46 → rck tr187 prog_9_method_3_code pool_9 3 pc = true := (rck_j rck_0 ck187_0)
set_option maxRecDepth 100000 in
theorem ck188_0 : (List.range 37).all (fun i => rck tr188 prog_9_method_4_code pool_9 4 (0 + i)) = true := by decide +kernel
theorem ck188 : ∀ pc, pc < 37 → rck tr188 prog_9_method_4_code pool_9 4 pc = true := (rck_j rck_0 ck188_0)
set_option maxRecDepth 100000 in
theorem ck189_0 : (List.range 97).all (fun i => rck tr189 prog_9_method_5_code pool_9 8 (0 + i)) = true := by decide +kernel
theorem ck189 : ∀ pc, pc < 97 → rck tr189 prog_9_method_5_code pool_9 8 pc = true := (rck_j rck_0 ck189_0)
set_option maxRecDepth 100000 in
theorem ck190_0 : (List.range 31).all (fun i => rck tr190 prog_9_method_6_code pool_9 4 (0 + i)) = true := by decide +kernel
theorem ck190 : ∀ pc, pc < 31 → rck tr190 prog_9_method_6_code pool_9 4 pc = true := (rck_j rck_0 ck190_0)
set_option maxRecDepth 100000 in
theorem ck191_0 : (List.range 26).all (fun i => rck tr191 prog_10_method_1_code pool_10 3 (0 + i)) = true := by decide +kernel
theorem ck191 : ∀ pc, pc < 26 → rck tr191 prog_10_method_1_code pool_10 3 pc = true := (rck_j rck_0 ck191_0)
set_option maxRecDepth 100000 in
theorem ck192_0 : (List.range 45).all (fun i => rck tr192 prog_10_method_2_code pool_10 4 (0 + i)) = true := by decide +kernel
theorem ck192 : ∀ pc, pc < 45 → rck tr192 prog_10_method_2_code pool_10 4 pc = true := (rck_j rck_0 ck192_0)
set_option maxRecDepth 100000 in
theorem ck193_0 : (List.range 33).all (fun i => rck tr193 prog_10_method_3_code pool_10 3 (0 + i)) = true := by decide +kernel
theorem ck193 : ∀ pc, pc < 33 → rck tr193 prog_10_method_3_code pool_10 3 pc = true := (rck_j rck_0 ck193_0)
set_option maxRecDepth 100000 in
theorem ck194_0 : (List.range 138).all (fun i => rck tr194 prog_10_method_4_code pool_10 5 (0 + i)) = true := by decide +kernel
theorem ck194 : ∀ pc, pc < 138 → rck tr194 prog_10_method_4_code pool_10 5 pc = true := (rck_j rck_0 ck194_0)
