/-! the code of the methods 0 to 44 is what the bytes decode to -/
set_option maxRecDepth 100000 in
theorem ck0_0 : (List.range 192).all (fun i => rck tr0 prog_1_method_1_code pool_0 1 (0 + i)) = true := by decide +kernel
theorem ck0 : ∀ pc, pc < 192 → rck tr0 prog_1_method_1_code pool_0 1 pc = true := (rck_j rck_0 ck0_0)
set_option maxRecDepth 100000 in
theorem ck1_0 : (List.range 73).all (fun i => rck tr1 prog_1_method_2_code pool_0 6 (0 + i)) = true := by decide +kernel
theorem ck1 : ∀ pc, pc < 73 → rck tr1 prog_1_method_2_code pool_0 6 pc = true := (rck_j rck_0 ck1_0)
set_option maxRecDepth 100000 in
theorem ck2_0 : (List.range 46).all (fun i => rck tr2 prog_1_method_3_code pool_0 5 (0 + i)) = true := by decide +kernel
theorem ck2 : ∀ pc, pc < 46 → rck tr2 prog_1_method_3_code pool_0 5 pc = true := (rck_j rck_0 ck2_0)
set_option maxRecDepth 100000 in
theorem ck3_0 : (List.range 81).all (fun i => rck tr3 prog_1_method_4_code pool_0 6 (0 + i)) = true := by decide +kernel
theorem ck3 : ∀ pc, pc < 81 → rck tr3 prog_1_method_4_code pool_0 6 pc = true := (rck_j rck_0 ck3_0)
set_option maxRecDepth 100000 in
theorem ck4_0 : (List.range 38).all (fun i => rck tr4 prog_1_method_5_code pool_0 3 (0 + i)) = true := by decide +kernel
theorem ck4 : ∀ pc, pc < 38 → rck tr4 prog_1_method_5_code pool_0 3 pc = true := (rck_j rck_0 ck4_0)
set_option maxRecDepth 100000 in
theorem ck5_0 : (List.range 85).all (fun i => rck tr5 prog_1_method_6_code pool_0 6 (0 + i)) = true := by decide +kernel
theorem ck5 : ∀ pc, pc < 85 → rck tr5 prog_1_method_6_code pool_0 6 pc = true := (rck_j rck_0 ck5_0)
set_option maxRecDepth 100000 in
theorem ck6_0 : (List.range 21).all (fun i => rck tr6 prog_1_method_7_code pool_0 2 (0 + i)) = true := by decide +kernel
theorem ck6 : ∀ pc, pc < 21 → rck tr6 prog_1_method_7_code pool_0 2 pc = true := (rck_j rck_0 ck6_0)
set_option maxRecDepth 100000 in
theorem ck7_0 : (List.range 44).all (fun i => rck tr7 prog_1_method_8_code pool_0 3 (0 + i)) = true := by decide +kernel
theorem ck7 : ∀ pc, pc < 44 → rck tr7 prog_1_method_8_code pool_0 3 pc = true := (rck_j rck_0 ck7_0)
set_option maxRecDepth 100000 in
theorem ck8_0 : (List.range 35).all (fun i => rck tr8 prog_1_method_9_code pool_0 3 (0 + i)) = true := by decide +kernel
theorem ck8 : ∀ pc, pc < 35 → rck tr8 prog_1_method_9_code pool_0 3 pc = true := (rck_j rck_0 ck8_0)
set_option maxRecDepth 100000 in
theorem ck9_0 : (List.range 26).all (fun i => rck tr9 prog_1_method_10_code pool_0 3 (0 + i)) = true := by decide +kernel
theorem ck9 : ∀ pc, pc < 26 → rck tr9 prog_1_method_10_code pool_0 3 pc = true := (rck_j rck_0 ck9_0)
set_option maxRecDepth 100000 in
theorem ck10_0 : (List.range 18).all (fun i => rck tr10 prog_1_method_11_code pool_0 2 (0 + i)) = true := by decide +kernel
theorem ck10 : ∀ pc, pc < 18 → rck tr10 prog_1_method_11_code pool_0 2 pc = true := (rck_j rck_0 ck10_0)
set_option maxRecDepth 100000 in
theorem ck11_0 : (List.range 57).all (fun i => rck tr11 prog_1_method_12_code pool_0 6 (0 + i)) = true := by decide +kernel
theorem ck11 : ∀ pc, pc < 57 → rck tr11 prog_1_method_12_code pool_0 6 pc = true := (rck_j rck_0 ck11_0)
set_option maxRecDepth 100000 in
theorem ck12_0 : (List.range 57).all (fun i => rck tr12 prog_1_method_13_code pool_0 7 (0 + i)) = true := by decide +kernel
theorem ck12 : ∀ pc, pc < 57 → rck tr12 prog_1_method_13_code pool_0 7 pc = true := (rck_j rck_0 ck12_0)
set_option maxRecDepth 100000 in
theorem ck13_0 : (List.range 72).all (fun i => rck tr13 prog_1_method_14_code pool_0 7 (0 + i)) = true := by decide +kernel
theorem ck13 : ∀ pc, pc < 72 → rck tr13 prog_1_method_14_code pool_0 7 pc = true := (rck_j rck_0 ck13_0)
set_option maxRecDepth 100000 in
theorem ck14_0 : (List.range 24).all (fun i => rck tr14 prog_1_method_15_code pool_0 2 (0 + i)) = true := by decide +kernel
theorem ck14 : ∀ pc, pc < 24 → rck tr14 prog_1_method_15_code pool_0 2 pc = true := (rck_j rck_0 ck14_0)
set_option maxRecDepth 100000 in
theorem ck15_0 : (List.range 48).all (fun i => rck tr15 prog_1_method_16_code pool_0 4 (0 + i)) = true := by decide +kernel
theorem ck15 : ∀ pc, pc < 48 → rck tr15 prog_1_method_16_code pool_0 4 pc = true := (rck_j rck_0 ck15_0)
set_option maxRecDepth 100000 in
theorem ck16_0 : (List.range 33).all (fun i => rck tr16 prog_1_method_17_code pool_0 2 (0 + i)) = true := by decide +kernel
theorem ck16 : ∀ pc, pc < 33 → rck tr16 prog_1_method_17_code pool_0 2 pc = true := (rck_j rck_0 ck16_0)
set_option maxRecDepth 100000 in
theorem ck17_0 : (List.range 250).all (fun i => rck tr17 prog_1_method_18_code pool_0 7 (0 + i)) = true := by decide +kernel
set_option maxRecDepth 100000 in
theorem ck17_250 : (List.range 108).all (fun i => rck tr17 prog_1_method_18_code pool_0 7 (250 + i)) = true := by decide +kernel
theorem ck17 : ∀ pc, pc < 358 → rck tr17 prog_1_method_18_code pool_0 7 pc = true := (rck_j (rck_j rck_0 ck17_0) ck17_250)
set_option maxRecDepth 100000 in
theorem ck18_0 : (List.range 61).all (fun i => rck tr18 prog_1_method_19_code pool_0 5 (0 + i)) = true := by decide +kernel
theorem ck18 : ∀ pc, pc < 61 → rck tr18 prog_1_method_19_code pool_0 5 pc = true := (rck_j rck_0 ck18_0)
set_option maxRecDepth 100000 in
theorem ck19_0 : (List.range 21).all (fun i => rck tr19 prog_1_method_20_code pool_0 2 (0 + i)) = true := by decide +kernel
theorem ck19 : ∀ pc, pc < 21 → rck tr19 prog_1_method_20_code pool_0 2 pc = true := (rck_j rck_0 ck19_0)
set_option maxRecDepth 100000 in
theorem ck20_0 : (List.range 75).all (fun i => rck tr20 prog_1_method_21_code pool_0 5 (0 + i)) = true := by decide +kernel
theorem ck20 : ∀ pc, pc < 75 → rck tr20 prog_1_method_21_code pool_0 5 pc = true := (rck_j rck_0 ck20_0)
set_option maxRecDepth 100000 in
theorem ck21_0 : (List.range 31).all (fun i => rck tr21 prog_1_method_22_code pool_0 3 (0 + i)) = true := by decide +kernel
theorem ck21 : ∀ pc, pc < 31 → rck tr21 prog_1_method_22_code pool_0 3 pc = true := (rck_j rck_0 ck21_0)
set_option maxRecDepth 100000 in
theorem ck22_0 : (List.range 105).all (fun i => rck tr22 prog_1_method_23_code pool_0 2 (0 + i)) = true := by decide +kernel
theorem ck22 : ∀ pc, pc < 105 → rck tr22 prog_1_method_23_code pool_0 2 pc = true := (rck_j rck_0 ck22_0)
set_option maxRecDepth 100000 in
theorem ck23_0 : (List.range 20).all (fun i => rck tr23 prog_1_method_24_code pool_0 2 (0 + i)) = true := by decide +kernel
theorem ck23 : ∀ pc, pc < 20 → rck tr23 prog_1_method_24_code pool_0 2 pc = true := (rck_j rck_0 ck23_0)
set_option maxRecDepth 100000 in
theorem ck24_0 : (List.range 15).all (fun i => rck tr24 prog_1_method_25_code pool_0 1 (0 + i)) = true := by decide +kernel
theorem ck24 : ∀ pc, pc < 15 → rck tr24 prog_1_method_25_code pool_0 1 pc = true := (rck_j rck_0 ck24_0)
set_option maxRecDepth 100000 in
theorem ck25_0 : (List.range 16).all (fun i => rck tr25 prog_1_method_26_code pool_0 1 (0 + i)) = true := by decide +kernel
theorem ck25 : ∀ pc, pc < 16 → rck tr25 prog_1_method_26_code pool_0 1 pc = true := (rck_j rck_0 ck25_0)
set_option maxRecDepth 100000 in
theorem ck26_0 : (List.range 174).all (fun i => rck tr26 prog_1_method_27_code pool_0 2 (0 + i)) = true := by decide +kernel
theorem ck26 : ∀ pc, pc < 174 → rck tr26 prog_1_method_27_code pool_0 2 pc = true := (rck_j rck_0 ck26_0)
set_option maxRecDepth 100000 in
theorem ck27_0 : (List.range 24).all (fun i => rck tr27 prog_1_method_28_code pool_0 3 (0 + i)) = true := by decide +kernel
theorem ck27 : ∀ pc, pc < 24 → rck tr27 prog_1_method_28_code pool_0 3 pc = true := (rck_j rck_0 ck27_0)
set_option maxRecDepth 100000 in
theorem ck28_0 : (List.range 31).all (fun i => rck tr28 prog_1_method_29_code pool_0 5 (0 + i)) = true := by decide +kernel
theorem ck28 : ∀ pc, pc < 31 → rck tr28 prog_1_method_29_code pool_0 5 pc = true := (rck_j rck_0 ck28_0)
set_option maxRecDepth 100000 in
theorem ck29_0 : (List.range 59).all (fun i => rck tr29 prog_1_method_30_code pool_0 4 (0 + i)) = true := by decide +kernel
theorem ck29 : ∀ pc, pc < 59 → rck tr29 prog_1_method_30_code pool_0 4 pc = true := (rck_j rck_0 ck29_0)
set_option maxRecDepth 100000 in
theorem ck30_0 : (List.range 37).all (fun i => rck tr30 prog_1_method_31_code pool_0 2 (0 + i)) = true := by decide +kernel
theorem ck30 : ∀ pc, pc < 37 → rck tr30 prog_1_method_31_code pool_0 2 pc = true := (rck_j rck_0 ck30_0)
set_option maxRecDepth 100000 in
theorem ck31_0 : (List.range 27).all (fun i => rck tr31 prog_1_method_32_code pool_0 3 (0 + i)) = true := by decide +kernel
theorem ck31 : ∀ pc, pc < 27 → rck tr31 prog_1_method_32_code pool_0 3 pc = true := (rck_j rck_0 ck31_0)
set_option maxRecDepth 100000 in
theorem ck32_0 : (List.range 207).all (fun i => rck tr32 prog_1_method_33_code pool_0 6 (0 + i)) = true := by decide +kernel
theorem ck32 : ∀ pc, pc < 207 → rck tr32 prog_1_method_33_code pool_0 6 pc = true := (rck_j rck_0 ck32_0)
set_option maxRecDepth 100000 in
theorem ck33_0 : (List.range 132).all (fun i => rck tr33 prog_1_method_34_code pool_0 5 (0 + i)) = true := by decide +kernel
theorem ck33 : ∀ pc, pc < 132 → rck tr33 prog_1_method_34_code pool_0 5 pc = true := (rck_j rck_0 ck33_0)
set_option maxRecDepth 100000 in
theorem ck34_0 : (List.range 160).all (fun i => rck tr34 prog_1_method_35_code pool_0 5 (0 + i)) = true := by decide +kernel
theorem ck34 : ∀ pc, pc < 160 → rck tr34 prog_1_method_35_code pool_0 5 pc = true := (rck_j rck_0 ck34_0)
set_option maxRecDepth 100000 in
theorem ck35_0 : (List.range 23).all (fun i => rck tr35 prog_1_method_36_code pool_0 1 (0 + i)) = true := by decide +kernel
theorem ck35 : ∀ pc, pc < 23 → rck tr35 prog_1_method_36_code pool_0 1 pc = true := (rck_j rck_0 ck35_0)
set_option maxRecDepth 100000 in
theorem ck36_0 : (List.range 35).all (fun i => rck tr36 prog_1_method_37_code pool_0 1 (0 + i)) = true := by decide +kernel
theorem ck36 : ∀ pc, pc < 35 → rck tr36 prog_1_method_37_code pool_0 1 pc = true := (rck_j rck_0 ck36_0)
set_option maxRecDepth 100000 in
theorem ck37_0 : (List.range 31).all (fun i => rck tr37 prog_1_method_38_code pool_0 1 (0 + i)) = true := by decide +kernel
theorem ck37 : ∀ pc, pc < 31 → rck tr37 prog_1_method_38_code pool_0 1 pc = true := (rck_j rck_0 ck37_0)
set_option maxRecDepth 100000 in
theorem ck38_0 : (List.range 102).all (fun i => rck tr38 prog_1_method_39_code pool_0 1 (0 + i)) = true := by decide +kernel
theorem ck38 : ∀ pc, pc < 102 → rck tr38 prog_1_method_39_code pool_0 1 pc = true := (rck_j rck_0 ck38_0)
set_option maxRecDepth 100000 in
theorem ck39_0 : (List.range 35).all (fun i => rck tr39 prog_1_method_40_code pool_0 1 (0 + i)) = true := by decide +kernel
theorem ck39 : ∀ pc, pc < 35 → rck tr39 prog_1_method_40_code pool_0 1 pc = true := (rck_j rck_0 ck39_0)
set_option maxRecDepth 100000 in
theorem ck40_0 : (List.range 27).all (fun i => rck tr40 prog_1_method_41_code pool_0 1 (0 + i)) = true := by decide +kernel
theorem ck40 : ∀ pc, pc < 27 → rck tr40 prog_1_method_41_code pool_0 1 pc = true := (rck_j rck_0 ck40_0)
set_option maxRecDepth 100000 in
theorem ck41_0 : (List.range 43).all (fun i => rck tr41 prog_1_method_42_code pool_0 2 (0 + i)) = true := by decide +kernel
theorem ck41 : ∀ pc, pc < 43 → rck tr41 prog_1_method_42_code pool_0 2 pc = true := (rck_j rck_0 ck41_0)
set_option maxRecDepth 100000 in
theorem ck42_0 : (List.range 37).all (fun i => rck tr42 prog_1_method_43_code pool_0 6 (0 + i)) = true := by decide +kernel
theorem ck42 : ∀ pc, pc < 37 → rck tr42 prog_1_method_43_code pool_0 6 pc = true := (rck_j rck_0 ck42_0)
set_option maxRecDepth 100000 in
theorem ck43_0 : (List.range 27).all (fun i => rck tr43 prog_1_method_44_code pool_0 3 (0 + i)) = true := by decide +kernel
theorem ck43 : ∀ pc, pc < 27 → rck tr43 prog_1_method_44_code pool_0 3 pc = true := (rck_j rck_0 ck43_0)
set_option maxRecDepth 100000 in
theorem ck44_0 : (List.range 39).all (fun i => rck tr44 prog_1_method_45_code pool_0 5 (0 + i)) = true := by decide +kernel
theorem ck44 : ∀ pc, pc < 39 → rck tr44 prog_1_method_45_code pool_0 5 pc = true := (rck_j rck_0 ck44_0)
