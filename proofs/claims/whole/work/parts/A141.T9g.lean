section
/-! T9g.cls -/
abbrev V17_vD5 : vV := [(0, 0, [(4, 0), (4, 0), (4, 0), (4, 0), (4, 0), (4, 0), (4, 0), (4, 0), (4, 0), (4, 0), (4, 0), (4, 0), (4, 0), (4, 0), (4, 0), (4, 0), (4, 0), (0, 0), (0, 0)]), (0, 7, [(4, 0), (0, 0), (1, 0), (0, 0), (0, 0)]), (0, 7, [(4, 0), (0, 0), (1, 0), (0, 0), (0, 0)]), (1, 0, []), (1, 0, []), (0, 6, [(4, 0), (4, 0), (4, 0), (4, 0), (4, 0), (4, 0), (4, 0), (4, 0), (4, 0), (4, 0), (4, 0), (4, 0), (4, 0), (4, 0), (4, 0), (0, 0), (0, 0), (4, 0), (4, 0)]), (1, 1, []), (0, 5, [(4, 0), (4, 0), (4, 0), (4, 0), (0, 0), (0, 0), (0, 0), (4, 0), (4, 0), (0, 0), (0, 0), (0, 0), (0, 0), (0, 0), (0, 0), (0, 0), (0, 0), (0, 0), (0, 0)]), (0, 7, [(4, 0), (0, 0), (1, 0), (0, 0), (0, 0)]), (1, 0, []), (1, 1, []), (1, 1, []), (1, 1, []), (1, 1, []), (1, 1, []), (0, 7, [(4, 0), (0, 0), (1, 0), (0, 0), (0, 0)]), (1, 0, []), (0, 7, [(4, 0), (0, 0), (1, 0), (0, 0), (0, 0)]), (1, 0, []), (1, 1, []), (1, 1, []), (1, 7, []), (1, 1, []), (1, 1, []), (1, 1, []), (1, 1, []), (1, 6, []), (1, 5, []), (0, 9, [(4, 0), (4, 0), (4, 0)]), (1, 5, []), (1, 2, []), (0, 3, [(4, 0), (4, 0), (4, 0), (0, 0), (4, 0), (4, 0), (4, 0), (4, 0), (4, 0), (4, 0), (4, 0), (4, 0), (4, 0), (0, 0), (0, 0), (0, 0), (0, 0)]), (1, 1, []), (1, 1, []), (1, 1, []), (1, 1, []), (1, 1, []), (1, 1, []), (1, 1, []), (1, 1, []), (0, 8, [(0, 0), (0, 0), (4, 0), (4, 0), (4, 0), (4, 0), (4, 0), (4, 0), (4, 0), (4, 0), (4, 0), (0, 0), (0, 0)]), (1, 1, []), (1, 1, []), (1, 1, []), (1, 1, []), (1, 1, []), (1, 1, []), (1, 1, []), (1, 1, []), (0, 7, [(4, 0), (0, 0), (1, 0), (0, 0), (0, 0)]), (1, 0, []), (0, 7, [(4, 0), (0, 0), (1, 0), (0, 0), (0, 0)]), (1, 0, []), (0, 8, [(0, 0), (0, 0), (4, 0), (4, 0), (4, 0), (4, 0), (4, 0), (4, 0), (4, 0), (4, 0), (4, 0), (0, 0), (0, 0)]), (1, 1, []), (1, 1, []), (1, 1, []), (1, 1, []), (1, 1, []), (1, 1, []), (1, 1, []), (1, 1, []), (0, 8, [(0, 0), (0, 0), (4, 0), (4, 0), (4, 0), (4, 0), (4, 0), (4, 0), (4, 0), (4, 0), (4, 0), (0, 0), (0, 0)]), (1, 1, []), (1, 1, []), (1, 1, []), (1, 1, []), (1, 1, []), (1, 1, []), (1, 1, []), (1, 1, []), (0, 8, [(0, 0), (0, 0), (4, 0), (4, 0), (4, 0), (4, 0), (4, 0), (4, 0), (4, 0), (4, 0), (4, 0), (0, 0), (0, 0)]), (1, 1, []), (1, 1, []), (1, 1, []), (1, 1, []), (1, 1, []), (1, 1, []), (1, 1, []), (1, 1, [])]
theorem len_V17_vD5_oz_T9gcls : (V17_vD5).length = 80 := by decide +kernel
theorem oz_T9gcls_1 : vsub V17_vD5 V153_Row_Row [5, 2, 1, 3, 4, 6, 7, 8, 9, 10, 11, 12, 13, 14, 15, 16, 17, 18, 19, 20, 21, 22, 23, 24, 25, 26, 27, 28, 29, 30, 31, 32, 33, 34, 35, 36, 37, 38, 39, 40, 41, 42, 43, 44, 45, 46, 47, 48, 49, 50, 51, 52, 53, 54, 55, 56, 57, 58, 59, 60, 61, 62, 63, 64, 65, 66, 67, 68, 69, 70, 71, 72, 73, 74, 75, 76, 77, 78, 79] = true := by decide +kernel
theorem oz_T9gcls_2 : vmov V17_vD5 [5, 2, 1, 3, 4, 6, 7, 8, 9, 10, 11, 12, 13, 14, 15, 16, 17, 18, 19, 20, 21, 22, 23, 24, 25, 26, 27, 28, 29, 30, 31, 32, 33, 34, 35, 36, 37, 38, 39, 40, 41, 42, 43, 44, 45, 46, 47, 48, 49, 50, 51, 52, 53, 54, 55, 56, 57, 58, 59, 60, 61, 62, 63, 64, 65, 66, 67, 68, 69, 70, 71, 72, 73, 74, 75, 76, 77, 78, 79] [3, 8, 9, 10, 11, 12, 13, 15, 17, 20, 21, 22, 23, 24, 49, 51] = true := by decide +kernel
def oz_T9gclsl_0 : List (Nat × Nat) := [(2, 0), (2, 1), (2, 2), (2, 3), (2, 4), (5, 13), (5, 14), (5, 15), (7, 1), (7, 2), (7, 3), (7, 4), (7, 5), (7, 6), (7, 7), (7, 8), (7, 9), (7, 10), (7, 11), (7, 12), (7, 13), (7, 14), (7, 15), (7, 16), (7, 17), (7, 18), (8, 0), (8, 1), (8, 2), (8, 3), (8, 4), (15, 0), (15, 1), (15, 2), (15, 3), (15, 4), (17, 0), (17, 1), (17, 2), (17, 3), (17, 4), (28, 0), (31, 3), (31, 13), (31, 14), (31, 15), (31, 16), (40, 0), (49, 0), (49, 1), (49, 2), (49, 3), (49, 4), (51, 0), (51, 1), (51, 2), (51, 3), (51, 4), (53, 0), (62, 0), (71, 0)]
theorem oz_T9gcls_3 : (oz_T9gclsl_0).all (fun p => !tbz 871264760124528182756155676566605097434001235181366994359357851491024776939102487049049691886932953198242778968872532746964406526168820620930227843455648829994076138011012972667033133562170397657642355704363441882059480466462299076113306762424365229730161053601195900332245748837112672997526590930888474922252487393901016537703277472996188757776018272250266407544422396193819243580955568715817179422600863680458862855782344357724987511314712645415116366571057720908071500350921131966739970918283667244382657954467953248811687416895174263894184434503200901145692009936494119825747172099920046855606427379539379053557234677168028780732916345780442921781901282462163161246954235524808704 (Nat.add (Nat.mul 32 p.1) p.2)) = true := by decide +kernel
def oz_T9gclsl_1 : List Nat := [3, 9, 10, 11, 12, 13, 14, 16, 18, 19, 20, 21, 22, 23, 24, 25, 29, 30, 32, 35, 36, 37, 38, 39, 41, 42, 43, 44, 45, 46, 47, 48, 50, 52, 54, 55, 56, 57, 58, 59, 60, 61, 63, 64, 65, 66, 67, 68, 69, 70, 72, 73, 74, 75, 76, 77, 78, 79]
theorem oz_T9gcls_4 : (oz_T9gclsl_1).all (fun p => !tbz 1206560012864099004022280 p) = true := by decide +kernel
def oz_T9gclsl_2 : List Nat := [3, 9, 10, 11, 12, 13, 14, 16, 18, 21, 22, 23, 24, 25, 50, 52]
theorem oz_T9gcls_5 : (oz_T9gclsl_2).all (fun p => !tbz 5629499599584776 p) = true := by decide +kernel
def oz_T9gclsl_3 : List Nat := [5, 2, 1, 3, 4, 6, 7, 8, 9, 10, 11, 12, 13, 14, 15, 16, 17, 18, 19, 20, 21, 22, 23, 24, 25, 26, 27, 28, 29, 30, 31, 32, 33, 34, 35, 36, 37, 38, 39, 40, 41, 42, 43, 44, 45, 46, 47, 48, 49, 50, 51, 52, 53, 54, 55, 56, 57, 58, 59, 60, 61, 62, 63, 64, 65, 66, 67, 68, 69, 70, 71, 72, 73, 74, 75, 76, 77, 78, 79]
theorem oz_T9gcls_6 : okc oz_T9gclsl_3 1665414532415804592829160291989656556050555749803460185407317235909486142555953048848116532290613004496076446172227213802509246545940233603663171278461367175972949616582808466394938044509272893391392860480360154117 = true := by decide +kernel

theorem C17_vD5 {σE : rS} {D N : Nat → Nat} {F : hF} {A : hA} {d c s : Nat} {Q : wQ} (H : HW V17_vD5 σE D N F A) (HT : STC σE) {x1 : Int} (pf2 : HID (F 0 5 = (D 2 : Int))) (pf3 : HID (F 2 0 = (D 3 : Int))) (pf4 : HID (F 1 0 = (D 4 : Int))) (pf5 : HID (F 0 11 = (D 5 : Int))) (pf6 : HID (F 5 0 = (D 6 : Int))) (pf7 : HID (F 5 1 = (D 7 : Int))) (pf8 : HID (F 7 0 = (D 8 : Int))) (pf9 : HID (F 8 0 = (D 9 : Int))) (pf10 : HID (F 7 7 = (D 10 : Int))) (pf11 : HID (F 7 8 = (D 11 : Int))) (pf12 : HID (F 7 1 = (D 12 : Int))) (pf13 : HID (F 7 2 = (D 13 : Int))) (pf14 : HID (F 7 3 = (D 14 : Int))) (pf15 : HID (F 5 9 = (D 15 : Int))) (pf16 : HID (F 15 0 = (D 16 : Int))) (pf17 : HID (F 5 10 = (D 17 : Int))) (pf18 : HID (F 17 0 = (D 18 : Int))) (pf19 : HID (F 5 11 = (D 19 : Int))) (pf20 : HID (F 5 12 = (D 20 : Int))) (pf21 : HID (F 5 13 = (D 21 : Int))) (pf22 : HID (A 21 0 = (D 22 : Int))) (pf23 : HID (F 5 14 = (D 23 : Int))) (pf24 : HID (A 21 1 = (D 24 : Int))) (pf25 : HID (A 21 2 = (D 25 : Int))) (pf26 : HID (F 5 3 = (D 26 : Int))) (pf27 : HID (F 5 4 = (D 27 : Int))) (pf28 : HID (F 5 7 = (D 28 : Int))) (pf29 : HID (F 28 1 = (D 29 : Int))) (pf30 : HID (F 28 2 = (D 30 : Int))) (pf31 : HID (A 26 0 = (D 31 : Int))) (pf32 : HID (F 31 0 = (D 32 : Int))) (pf33 : HID (F 31 1 = (D 33 : Int))) (pf34 : HID (F 31 2 = (D 34 : Int))) (pf35 : HID (F 31 4 = (D 35 : Int))) (pf36 : HID (F 31 5 = (D 36 : Int))) (pf37 : HID (F 31 10 = (D 37 : Int))) (pf38 : HID (F 31 11 = (D 38 : Int))) (pf39 : HID (F 31 12 = (D 39 : Int))) (pf40 : HID (F 31 6 = (D 40 : Int))) (pf41 : HID (F 40 2 = (D 41 : Int))) (pf42 : HID (F 40 3 = (D 42 : Int))) (pf43 : HID (F 40 4 = (D 43 : Int))) (pf44 : HID (F 40 5 = (D 44 : Int))) (pf45 : HID (F 40 6 = (D 45 : Int))) (pf46 : HID (F 40 7 = (D 46 : Int))) (pf47 : HID (F 40 8 = (D 47 : Int))) (pf48 : HID (F 40 9 = (D 48 : Int))) (pf49 : HID (F 31 7 = (D 49 : Int))) (pf50 : HID (F 49 0 = (D 50 : Int))) (pf51 : HID (F 31 8 = (D 51 : Int))) (pf52 : HID (F 51 0 = (D 52 : Int))) (pf53 : HID (A 27 0 = (D 53 : Int))) (pf54 : HID (F 53 2 = (D 54 : Int))) (pf55 : HID (F 53 3 = (D 55 : Int))) (pf56 : HID (F 53 4 = (D 56 : Int))) (pf57 : HID (F 53 5 = (D 57 : Int))) (pf58 : HID (F 53 6 = (D 58 : Int))) (pf59 : HID (F 53 7 = (D 59 : Int))) (pf60 : HID (F 53 8 = (D 60 : Int))) (pf61 : HID (F 53 9 = (D 61 : Int))) (pf62 : HID (A 27 1 = (D 62 : Int))) (pf63 : HID (F 62 2 = (D 63 : Int))) (pf64 : HID (F 62 3 = (D 64 : Int))) (pf65 : HID (F 62 4 = (D 65 : Int))) (pf66 : HID (F 62 5 = (D 66 : Int))) (pf67 : HID (F 62 6 = (D 67 : Int))) (pf68 : HID (F 62 7 = (D 68 : Int))) (pf69 : HID (F 62 8 = (D 69 : Int))) (pf70 : HID (F 62 9 = (D 70 : Int))) (pf71 : HID (A 27 2 = (D 71 : Int))) (pf72 : HID (F 71 2 = (D 72 : Int))) (pf73 : HID (F 71 3 = (D 73 : Int))) (pf74 : HID (F 71 4 = (D 74 : Int))) (pf75 : HID (F 71 5 = (D 75 : Int))) (pf76 : HID (F 71 6 = (D 76 : Int))) (pf77 : HID (F 71 7 = (D 77 : Int))) (pf78 : HID (F 71 8 = (D 78 : Int))) (pf79 : HID (F 71 9 = (D 79 : Int))) (n3 : Int) (en3 : HID ((N 3 : Int) = n3)) (n4 : Int) (en4 : HID ((N 4 : Int) = n4)) (n6 : Int) (en6 : HID ((N 6 : Int) = n6)) (n9 : Int) (en9 : HID ((N 9 : Int) = n9)) (n10 : Int) (en10 : HID ((N 10 : Int) = n10)) (n11 : Int) (en11 : HID ((N 11 : Int) = n11)) (n12 : Int) (en12 : HID ((N 12 : Int) = n12)) (n13 : Int) (en13 : HID ((N 13 : Int) = n13)) (n14 : Int) (en14 : HID ((N 14 : Int) = n14)) (n16 : Int) (en16 : HID ((N 16 : Int) = n16)) (n18 : Int) (en18 : HID ((N 18 : Int) = n18)) (n19 : Int) (en19 : HID ((N 19 : Int) = n19)) (n20 : Int) (en20 : HID ((N 20 : Int) = n20)) (n21 : Int) (en21 : HID ((N 21 : Int) = n21)) (n22 : Int) (en22 : HID ((N 22 : Int) = n22)) (n23 : Int) (en23 : HID ((N 23 : Int) = n23)) (n24 : Int) (en24 : HID ((N 24 : Int) = n24)) (n25 : Int) (en25 : HID ((N 25 : Int) = n25)) (n26 : Int) (en26 : HID ((N 26 : Int) = n26)) (n27 : Int) (en27 : HID ((N 27 : Int) = n27)) (n29 : Int) (en29 : HID ((N 29 : Int) = n29)) (n30 : Int) (en30 : HID ((N 30 : Int) = n30)) (n32 : Int) (en32 : HID ((N 32 : Int) = n32)) (n33 : Int) (en33 : HID ((N 33 : Int) = n33)) (n34 : Int) (en34 : HID ((N 34 : Int) = n34)) (n35 : Int) (en35 : HID ((N 35 : Int) = n35)) (n36 : Int) (en36 : HID ((N 36 : Int) = n36)) (n37 : Int) (en37 : HID ((N 37 : Int) = n37)) (n38 : Int) (en38 : HID ((N 38 : Int) = n38)) (n39 : Int) (en39 : HID ((N 39 : Int) = n39)) (n41 : Int) (en41 : HID ((N 41 : Int) = n41)) (n42 : Int) (en42 : HID ((N 42 : Int) = n42)) (n43 : Int) (en43 : HID ((N 43 : Int) = n43)) (n44 : Int) (en44 : HID ((N 44 : Int) = n44)) (n45 : Int) (en45 : HID ((N 45 : Int) = n45)) (n46 : Int) (en46 : HID ((N 46 : Int) = n46)) (n47 : Int) (en47 : HID ((N 47 : Int) = n47)) (n48 : Int) (en48 : HID ((N 48 : Int) = n48)) (n50 : Int) (en50 : HID ((N 50 : Int) = n50)) (n52 : Int) (en52 : HID ((N 52 : Int) = n52)) (n54 : Int) (en54 : HID ((N 54 : Int) = n54)) (n55 : Int) (en55 : HID ((N 55 : Int) = n55)) (n56 : Int) (en56 : HID ((N 56 : Int) = n56)) (n57 : Int) (en57 : HID ((N 57 : Int) = n57)) (n58 : Int) (en58 : HID ((N 58 : Int) = n58)) (n59 : Int) (en59 : HID ((N 59 : Int) = n59)) (n60 : Int) (en60 : HID ((N 60 : Int) = n60)) (n61 : Int) (en61 : HID ((N 61 : Int) = n61)) (n63 : Int) (en63 : HID ((N 63 : Int) = n63)) (n64 : Int) (en64 : HID ((N 64 : Int) = n64)) (n65 : Int) (en65 : HID ((N 65 : Int) = n65)) (n66 : Int) (en66 : HID ((N 66 : Int) = n66)) (n67 : Int) (en67 : HID ((N 67 : Int) = n67)) (n68 : Int) (en68 : HID ((N 68 : Int) = n68)) (n69 : Int) (en69 : HID ((N 69 : Int) = n69)) (n70 : Int) (en70 : HID ((N 70 : Int) = n70)) (n72 : Int) (en72 : HID ((N 72 : Int) = n72)) (n73 : Int) (en73 : HID ((N 73 : Int) = n73)) (n74 : Int) (en74 : HID ((N 74 : Int) = n74)) (n75 : Int) (en75 : HID ((N 75 : Int) = n75)) (n76 : Int) (en76 : HID ((N 76 : Int) = n76)) (n77 : Int) (en77 : HID ((N 77 : Int) = n77)) (n78 : Int) (en78 : HID ((N 78 : Int) = n78)) (n79 : Int) (en79 : HID ((N 79 : Int) = n79)) (u1_1 : Int) (eu1_1 : HID (F 1 1 = u1_1)) (u2_1 : Int) (eu2_1 : HID (F 2 1 = u2_1)) (u2_2 : Int) (eu2_2 : HID (F 2 2 = u2_2)) (u2_3 : Int) (eu2_3 : HID (F 2 3 = u2_3)) (u2_4 : Int) (eu2_4 : HID (F 2 4 = u2_4)) (u8_1 : Int) (eu8_1 : HID (F 8 1 = u8_1)) (u15_1 : Int) (eu15_1 : HID (F 15 1 = u15_1)) (u17_1 : Int) (eu17_1 : HID (F 17 1 = u17_1)) (u40_1 : Int) (eu40_1 : HID (F 40 1 = u40_1)) (u49_1 : Int) (eu49_1 : HID (F 49 1 = u49_1)) (u51_1 : Int) (eu51_1 : HID (F 51 1 = u51_1)) (u53_1 : Int) (eu53_1 : HID (F 53 1 = u53_1)) (u62_1 : Int) (eu62_1 : HID (F 62 1 = u62_1)) (u71_1 : Int) (eu71_1 : HID (F 71 1 = u71_1)) (w3 : Int → Int) (ew3 : A 3 = w3) (w4 : Int → Int) (ew4 : A 4 = w4) (w6 : Int → Int) (ew6 : A 6 = w6) (w34 : Int → Int) (ew34 : A 34 = w34) {ls : rO} (hl0 : rlook ls 0 = some (.ref (D 0))) (hl1 : rlook ls 1 = some (I (x1))) (hl3 : rlook ls 3 = some (I (5))) (hl4 : rlook ls 4 = some (.ref (D 1))) (h0 : inr (x1)) (h1 : 0 ≤ (u2_1) ∧ (u2_1) ≤ (n3) ∧ (n3) ≤ 65536) (h2 : 0 ≤ (u1_1) ∧ (u1_1) ≤ (n4) ∧ (n4) ≤ 65536) (h3 : (u1_1) ≤ 16384) (h4 : 1 ≤ ((w6)) 1 ∧ ((w6)) 1 ≤ 8) (h5 : 3 ≤ ((w6)) 1) (h6 : 0 ≤ (u8_1) ∧ (u8_1) ≤ (n9) ∧ (n9) ≤ 65536) (h7 : (n10) = 0 ∨ (n10) = 2048) (h8 : (n11) ≤ 16384) (h9 : (n12) = (n13) ∧ (n14) = (n13) ∧ (n13) ≤ 65536 ∧ ((n13) = 0 ∨ 64 ≤ (n13)) ∧ lgq ((n13)) = 0) (h10 : 0 ≤ (u15_1) ∧ (u15_1) ≤ (n16) ∧ (n16) ≤ 65536) (h11 : 0 ≤ (u17_1) ∧ (u17_1) ≤ (n18) ∧ (n18) ≤ 65536) (h12 : (n19) = 256) (h13 : (n20) = 53) (h14 : (n21) = 3 ∧ (n22) = (n23) ∧ (n24) = (n23) ∧ (n25) = (n23) ∧ lgq ((n23)) = 0 ∧ (n23) ≤ 16384) (h15 : (n6) = 10 ∧ (n26) = 2 ∧ (n27) = 3 ∧ (n29) = 3 ∧ (n30) = 3) (h16 : CDZD ((n32)) ((n33)) ((n34)) ((n35)) ((n36)) ((n37)) ((n38)) ((n39))) (h17 : SHZD ((n41)) ((n42)) ((n43)) ((n44)) ((n45)) ((n46)) ((n47)) ((n48)) ((u40_1)) 12 64) (h18 : 0 ≤ (u49_1) ∧ (u49_1) ≤ (n50) ∧ (n50) ≤ 65536) (h19 : 0 ≤ (u51_1) ∧ (u51_1) ≤ (n52) ∧ (n52) ≤ 65536) (h20 : CEL ((w34))) (h21 : SHZD ((n54)) ((n55)) ((n56)) ((n57)) ((n58)) ((n59)) ((n60)) ((n61)) ((u53_1)) 36 512) (h22 : SHZD ((n63)) ((n64)) ((n65)) ((n66)) ((n67)) ((n68)) ((n69)) ((n70)) ((u62_1)) 32 256) (h23 : SHZD ((n72)) ((n73)) ((n74)) ((n75)) ((n76)) ((n77)) ((n78)) ((n79)) ((u71_1)) 53 512) (h24 : (u2_1) = 0 ∧ (u2_2) = 0 ∧ (u2_4) = 0 ∧ (u2_3) = 0) (hc277 : ∀ (ls : rO) (σ : rS) (D_c277 N_c277 : Nat → Nat) (c_c277 s_c277 : Nat) (F_c277 : hF) (A_c277 : hA) , rlook ls 0 = some (.ref (D_c277 0)) → rlook ls 1 = some (I (x1)) → rlook ls 3 = some (I (5)) → rlook ls 4 = some (.ref (D_c277 1)) → HW V17_vD5 σ D_c277 N_c277 F_c277 A_c277 → OUT (V17_vD5).length D N σE c s D_c277 N_c277 σ c_c277 s_c277 → SD [3, 9, 10, 11, 12, 13, 14, 16, 18, 21, 22, 23, 24, 25, 50, 52] D D_c277 → SD [3, 9, 10, 11, 12, 13, 14, 16, 18, 21, 22, 23, 24, 25, 50, 52] N N_c277 → SF [(2, 0), (2, 1), (2, 2), (2, 3), (2, 4), (5, 13), (5, 14), (5, 15), (7, 1), (7, 2), (7, 3), (7, 4), (7, 5), (7, 6), (7, 7), (7, 8), (7, 9), (7, 10), (7, 11), (7, 12), (7, 13), (7, 14), (7, 15), (7, 16), (7, 17), (7, 18), (8, 0), (8, 1), (8, 2), (8, 3), (8, 4), (15, 0), (15, 1), (15, 2), (15, 3), (15, 4), (17, 0), (17, 1), (17, 2), (17, 3), (17, 4), (28, 0), (31, 3), (31, 13), (31, 14), (31, 15), (31, 16), (40, 0), (49, 0), (49, 1), (49, 2), (49, 3), (49, 4), (51, 0), (51, 1), (51, 2), (51, 3), (51, 4), (53, 0), (62, 0), (71, 0)] F F_c277 → SA [3, 9, 10, 11, 12, 13, 14, 16, 18, 19, 20, 21, 22, 23, 24, 25, 29, 30, 32, 35, 36, 37, 38, 39, 41, 42, 43, 44, 45, 46, 47, 48, 50, 52, 54, 55, 56, 57, 58, 59, 60, 61, 63, 64, 65, 66, 67, 68, 69, 70, 72, 73, 74, 75, 76, 77, 78, 79] A A_c277 → F_c277 2 0 = (D_c277 3 : Int) → F_c277 8 0 = (D_c277 9 : Int) → F_c277 7 7 = (D_c277 10 : Int) → F_c277 7 8 = (D_c277 11 : Int) → F_c277 7 1 = (D_c277 12 : Int) → F_c277 7 2 = (D_c277 13 : Int) → F_c277 7 3 = (D_c277 14 : Int) → F_c277 15 0 = (D_c277 16 : Int) → F_c277 17 0 = (D_c277 18 : Int) → F_c277 5 13 = (D_c277 21 : Int) → A_c277 21 0 = (D_c277 22 : Int) → F_c277 5 14 = (D_c277 23 : Int) → A_c277 21 1 = (D_c277 24 : Int) → A_c277 21 2 = (D_c277 25 : Int) → F_c277 49 0 = (D_c277 50 : Int) → F_c277 51 0 = (D_c277 52 : Int) → ∀ mc277_3 : Int, (N_c277 3 : Int) = mc277_3 → ∀ mc277_9 : Int, (N_c277 9 : Int) = mc277_9 → ∀ mc277_10 : Int, (N_c277 10 : Int) = mc277_10 → ∀ mc277_11 : Int, (N_c277 11 : Int) = mc277_11 → ∀ mc277_12 : Int, (N_c277 12 : Int) = mc277_12 → ∀ mc277_13 : Int, (N_c277 13 : Int) = mc277_13 → ∀ mc277_14 : Int, (N_c277 14 : Int) = mc277_14 → ∀ mc277_16 : Int, (N_c277 16 : Int) = mc277_16 → ∀ mc277_18 : Int, (N_c277 18 : Int) = mc277_18 → ∀ mc277_21 : Int, (N_c277 21 : Int) = mc277_21 → ∀ mc277_22 : Int, (N_c277 22 : Int) = mc277_22 → ∀ mc277_23 : Int, (N_c277 23 : Int) = mc277_23 → ∀ mc277_24 : Int, (N_c277 24 : Int) = mc277_24 → ∀ mc277_25 : Int, (N_c277 25 : Int) = mc277_25 → ∀ mc277_50 : Int, (N_c277 50 : Int) = mc277_50 → ∀ mc277_52 : Int, (N_c277 52 : Int) = mc277_52 → ∀ yc277_2_1 : Int, F_c277 2 1 = yc277_2_1 → ∀ yc277_2_2 : Int, F_c277 2 2 = yc277_2_2 → ∀ yc277_8_1 : Int, F_c277 8 1 = yc277_8_1 → ∀ yc277_15_1 : Int, F_c277 15 1 = yc277_15_1 → ∀ yc277_17_1 : Int, F_c277 17 1 = yc277_17_1 → ∀ yc277_49_1 : Int, F_c277 49 1 = yc277_49_1 → ∀ yc277_51_1 : Int, F_c277 51 1 = yc277_51_1 → ∀ wc277_3 : Int → Int, A_c277 3 = wc277_3 → (0 ≤ (yc277_2_1) ∧ (yc277_2_1) ≤ (mc277_3) ∧ (mc277_3) ≤ 65536) → (0 ≤ (yc277_8_1) ∧ (yc277_8_1) ≤ (mc277_9) ∧ (mc277_9) ≤ 65536) → ((mc277_10) = 0 ∨ (mc277_10) = 2048) → ((mc277_11) ≤ 16384) → ((mc277_12) = (mc277_13) ∧ (mc277_14) = (mc277_13) ∧ (mc277_13) ≤ 65536 ∧ ((mc277_13) = 0 ∨ 64 ≤ (mc277_13)) ∧ lgq ((mc277_13)) = 0) → (0 ≤ (yc277_15_1) ∧ (yc277_15_1) ≤ (mc277_16) ∧ (mc277_16) ≤ 65536) → (0 ≤ (yc277_17_1) ∧ (yc277_17_1) ≤ (mc277_18) ∧ (mc277_18) ≤ 65536) → ((mc277_21) = 3 ∧ (mc277_22) = (mc277_23) ∧ (mc277_24) = (mc277_23) ∧ (mc277_25) = (mc277_23) ∧ lgq ((mc277_23)) = 0 ∧ (mc277_23) ≤ 16384) → (0 ≤ (yc277_49_1) ∧ (yc277_49_1) ≤ (mc277_50) ∧ (mc277_50) ≤ 65536) → (0 ≤ (yc277_51_1) ∧ (yc277_51_1) ≤ (mc277_52) ∧ (mc277_52) ≤ 65536) → (CEL ((w34))) → ((yc277_2_2) = 0) → (WRY 5 ((w6)) (sc ((w4)) 0 ((u1_1))) [] DCE wsE ((yc277_2_1)) (sc ((wc277_3)) 0 ((yc277_2_1)))) → Ew 17 (d + 6) 277 ls [] σ c_c277 s_c277 Q) (k : ∀ (z : Int) (σ : rS) (Dₚ Nₚ : Nat → Nat) (Fₚ : hF) (Aₚ : hA) (cₚ sₚ : Nat), HW V17_vD5 σ Dₚ Nₚ Fₚ Aₚ → OUT (V17_vD5).length D N σE c s Dₚ Nₚ σ cₚ sₚ → SD [3, 9, 10, 11, 12, 13, 14, 16, 18, 21, 22, 23, 24, 25, 50, 52] D Dₚ → SD [3, 9, 10, 11, 12, 13, 14, 16, 18, 21, 22, 23, 24, 25, 50, 52] N Nₚ → SF [(2, 0), (2, 1), (2, 2), (2, 3), (2, 4), (5, 13), (5, 14), (5, 15), (7, 1), (7, 2), (7, 3), (7, 4), (7, 5), (7, 6), (7, 7), (7, 8), (7, 9), (7, 10), (7, 11), (7, 12), (7, 13), (7, 14), (7, 15), (7, 16), (7, 17), (7, 18), (8, 0), (8, 1), (8, 2), (8, 3), (8, 4), (15, 0), (15, 1), (15, 2), (15, 3), (15, 4), (17, 0), (17, 1), (17, 2), (17, 3), (17, 4), (28, 0), (31, 3), (31, 13), (31, 14), (31, 15), (31, 16), (40, 0), (49, 0), (49, 1), (49, 2), (49, 3), (49, 4), (51, 0), (51, 1), (51, 2), (51, 3), (51, 4), (53, 0), (62, 0), (71, 0)] F Fₚ → SA [3, 9, 10, 11, 12, 13, 14, 16, 18, 19, 20, 21, 22, 23, 24, 25, 29, 30, 32, 35, 36, 37, 38, 39, 41, 42, 43, 44, 45, 46, 47, 48, 50, 52, 54, 55, 56, 57, 58, 59, 60, 61, 63, 64, 65, 66, 67, 68, 69, 70, 72, 73, 74, 75, 76, 77, 78, 79] A Aₚ → Fₚ 2 0 = (Dₚ 3 : Int) → Fₚ 8 0 = (Dₚ 9 : Int) → Fₚ 7 7 = (Dₚ 10 : Int) → Fₚ 7 8 = (Dₚ 11 : Int) → Fₚ 7 1 = (Dₚ 12 : Int) → Fₚ 7 2 = (Dₚ 13 : Int) → Fₚ 7 3 = (Dₚ 14 : Int) → Fₚ 15 0 = (Dₚ 16 : Int) → Fₚ 17 0 = (Dₚ 18 : Int) → Fₚ 5 13 = (Dₚ 21 : Int) → Aₚ 21 0 = (Dₚ 22 : Int) → Fₚ 5 14 = (Dₚ 23 : Int) → Aₚ 21 1 = (Dₚ 24 : Int) → Aₚ 21 2 = (Dₚ 25 : Int) → Fₚ 49 0 = (Dₚ 50 : Int) → Fₚ 51 0 = (Dₚ 52 : Int) → ∀ m3 : Int, (Nₚ 3 : Int) = m3 → ∀ m9 : Int, (Nₚ 9 : Int) = m9 → ∀ m10 : Int, (Nₚ 10 : Int) = m10 → ∀ m11 : Int, (Nₚ 11 : Int) = m11 → ∀ m12 : Int, (Nₚ 12 : Int) = m12 → ∀ m13 : Int, (Nₚ 13 : Int) = m13 → ∀ m14 : Int, (Nₚ 14 : Int) = m14 → ∀ m16 : Int, (Nₚ 16 : Int) = m16 → ∀ m18 : Int, (Nₚ 18 : Int) = m18 → ∀ m21 : Int, (Nₚ 21 : Int) = m21 → ∀ m22 : Int, (Nₚ 22 : Int) = m22 → ∀ m23 : Int, (Nₚ 23 : Int) = m23 → ∀ m24 : Int, (Nₚ 24 : Int) = m24 → ∀ m25 : Int, (Nₚ 25 : Int) = m25 → ∀ m50 : Int, (Nₚ 50 : Int) = m50 → ∀ m52 : Int, (Nₚ 52 : Int) = m52 → ∀ y2_1 : Int, Fₚ 2 1 = y2_1 → ∀ y2_2 : Int, Fₚ 2 2 = y2_2 → ∀ y8_1 : Int, Fₚ 8 1 = y8_1 → ∀ y15_1 : Int, Fₚ 15 1 = y15_1 → ∀ y17_1 : Int, Fₚ 17 1 = y17_1 → ∀ y49_1 : Int, Fₚ 49 1 = y49_1 → ∀ y51_1 : Int, Fₚ 51 1 = y51_1 → ∀ v3 : Int → Int, Aₚ 3 = v3 → (inr (z)) → (0 ≤ (y2_1) ∧ (y2_1) ≤ (m3) ∧ (m3) ≤ 65536) → (0 ≤ (y8_1) ∧ (y8_1) ≤ (m9) ∧ (m9) ≤ 65536) → ((m10) = 0 ∨ (m10) = 2048) → ((m11) ≤ 16384) → ((m12) = (m13) ∧ (m14) = (m13) ∧ (m13) ≤ 65536 ∧ ((m13) = 0 ∨ 64 ≤ (m13)) ∧ lgq ((m13)) = 0) → (0 ≤ (y15_1) ∧ (y15_1) ≤ (m16) ∧ (m16) ≤ 65536) → (0 ≤ (y17_1) ∧ (y17_1) ≤ (m18) ∧ (m18) ≤ 65536) → ((m21) = 3 ∧ (m22) = (m23) ∧ (m24) = (m23) ∧ (m25) = (m23) ∧ lgq ((m23)) = 0 ∧ (m23) ≤ 16384) → (0 ≤ (y49_1) ∧ (y49_1) ≤ (m50) ∧ (m50) ≤ 65536) → (0 ≤ (y51_1) ∧ (y51_1) ≤ (m52) ∧ (m52) ≤ 65536) → (CEL ((w34))) → ((y2_2) = 0) → ((z) = -1) → (WRY 5 ((w6)) (sc ((w4)) 0 ((u1_1))) [] DCE wsE ((z)) (sc ((v3)) 0 ((y2_1)))) → Q (some (I z)) σ cₚ sₚ) : Ew 17 (d + 6) 188 ls [.ref (D 5)] σE c s Q := by
  have O := OUT_refl (n := (V17_vD5).length) (D := D) (N := N) (σ := σE) (c := c) (s := s)
  have HE := H
  have r1 : HID ((-2147483648 : Int) ≤ u1_1 ∧ u1_1 ≤ 2147483647) := krg_e (show (-2147483648 : Int) ≤ F 1 1 ∧ F 1 1 ≤ 2147483647 from H.krg 1 1 (ltn len_V17_vD5_oz_T9gcls rfl)) (show F 1 1 = u1_1 from (eu1_1))
  refine Ew_of (pcₚ := 189) (fun _ => x_aload_n rfl hl0) ?_
  refine v_g H (o := 0) (v := .ref (D 2)) rfl rfl rfl rfl rfl (vrf (pf2)) ?_
  refine Ew_of (pcₚ := 194) (fun _ => x_aload rfl hl4) ?_
  refine v_inv H (o := 5) rfl rfl rfl rfl rfl rfl (by rfl) (C153_Row_Row (D := puc 1665414532415804592829160291989656556050555749803460185407317235909486142555953048848116532290613004496076446172227213802509246545940233603663171278461367175972949616582808466394938044509272893391392860480360154117 D) (N := puc 1665414532415804592829160291989656556050555749803460185407317235909486142555953048848116532290613004496076446172227213802509246545940233603663171278461367175972949616582808466394938044509272893391392860480360154117 N) (HW_subc H oz_T9gcls_1 oz_T9gcls_6) (STC_out HT HE O) (pf3) (pf4) (pf6) (pf7) (pf8) (pf9) (pf10) (pf11) (pf12) (pf13) (pf14) (pf15) (pf16) (pf17) (pf18) (pf19) (pf20) (pf21) (pf22) (pf23) (pf24) (pf25) (pf26) (pf27) (pf28) (pf29) (pf30) (pf31) (pf32) (pf33) (pf34) (pf35) (pf36) (pf37) (pf38) (pf39) (pf40) (pf41) (pf42) (pf43) (pf44) (pf45) (pf46) (pf47) (pf48) (pf49) (pf50) (pf51) (pf52) (pf53) (pf54) (pf55) (pf56) (pf57) (pf58) (pf59) (pf60) (pf61) (pf62) (pf63) (pf64) (pf65) (pf66) (pf67) (pf68) (pf69) (pf70) (pf71) (pf72) (pf73) (pf74) (pf75) (pf76) (pf77) (pf78) (pf79) (n3) (en3) (n4) (en4) (n6) (en6) (n9) (en9) (n10) (en10) (n11) (en11) (n12) (en12) (n13) (en13) (n14) (en14) (n16) (en16) (n18) (en18) (n19) (en19) (n20) (en20) (n21) (en21) (n22) (en22) (n23) (en23) (n24) (en24) (n25) (en25) (n26) (en26) (n27) (en27) (n29) (en29) (n30) (en30) (n32) (en32) (n33) (en33) (n34) (en34) (n35) (en35) (n36) (en36) (n37) (en37) (n38) (en38) (n39) (en39) (n41) (en41) (n42) (en42) (n43) (en43) (n44) (en44) (n45) (en45) (n46) (en46) (n47) (en47) (n48) (en48) (n50) (en50) (n52) (en52) (n54) (en54) (n55) (en55) (n56) (en56) (n57) (en57) (n58) (en58) (n59) (en59) (n60) (en60) (n61) (en61) (n63) (en63) (n64) (en64) (n65) (en65) (n66) (en66) (n67) (en67) (n68) (en68) (n69) (en69) (n70) (en70) (n72) (en72) (n73) (en73) (n74) (en74) (n75) (en75) (n76) (en76) (n77) (en77) (n78) (en78) (n79) (en79) (u2_1) ((eu2_1)) (u2_2) ((eu2_2)) (u2_3) ((eu2_3)) (u2_4) ((eu2_4)) (u1_1) ((eu1_1)) (u8_1) ((eu8_1)) (u15_1) ((eu15_1)) (u17_1) ((eu17_1)) (u40_1) ((eu40_1)) (u49_1) ((eu49_1)) (u51_1) ((eu51_1)) (u53_1) ((eu53_1)) (u62_1) ((eu62_1)) (u71_1) ((eu71_1)) (w3) (ew3) (w4) (ew4) (w6) (ew6) (w34) (ew34) (show 0 ≤ (u2_1) ∧ (u2_1) ≤ (n3) ∧ (n3) ≤ 65536 from h1) (show 0 ≤ (u2_4) ∧ (u2_4) ≤ 7 from q_5072 h24) (show 0 ≤ (u1_1) ∧ (u1_1) ≤ (n4) ∧ (n4) ≤ 65536 from h2) (show (u1_1) ≤ 16384 from h3) (show 1 ≤ ((w6)) 1 ∧ ((w6)) 1 ≤ 8 from h4) (show 3 ≤ ((w6)) 1 from h5) (show 0 ≤ (u8_1) ∧ (u8_1) ≤ (n9) ∧ (n9) ≤ 65536 from h6) (show (n10) = 0 ∨ (n10) = 2048 from h7) (show (n11) ≤ 16384 from h8) (show (n12) = (n13) ∧ (n14) = (n13) ∧ (n13) ≤ 65536 ∧ ((n13) = 0 ∨ 64 ≤ (n13)) ∧ lgq ((n13)) = 0 from h9) (show 0 ≤ (u15_1) ∧ (u15_1) ≤ (n16) ∧ (n16) ≤ 65536 from h10) (show 0 ≤ (u17_1) ∧ (u17_1) ≤ (n18) ∧ (n18) ≤ 65536 from h11) (show (n19) = 256 from h12) (show (n20) = 53 from h13) (show (n21) = 3 ∧ (n22) = (n23) ∧ (n24) = (n23) ∧ (n25) = (n23) ∧ lgq ((n23)) = 0 ∧ (n23) ≤ 16384 from h14) (show (n6) = 10 ∧ (n26) = 2 ∧ (n27) = 3 ∧ (n29) = 3 ∧ (n30) = 3 from h15) (h16) (h17) (show 0 ≤ (u49_1) ∧ (u49_1) ≤ (n50) ∧ (n50) ≤ 65536 from h18) (show 0 ≤ (u51_1) ∧ (u51_1) ≤ (n52) ∧ (n52) ≤ 65536 from h19) (h20) (h21) (h22) (h23) (show (u2_1) = 0 ∧ (u2_2) = 0 ∧ (u2_4) = 0 ∧ (u2_3) = 0 from h24) (fun z79 σ79 D79ₚ N79ₚ F79ₚ A79ₚ c79 s79 Hₚ Oₚ hD79 hN79 hS79 hA79 (pm79_3 : HID _) (pm79_8 : HID _) (pm79_9 : HID _) (pm79_10 : HID _) (pm79_11 : HID _) (pm79_12 : HID _) (pm79_13 : HID _) (pm79_15 : HID _) (pm79_17 : HID _) (pm79_20 : HID _) (pm79_21 : HID _) (pm79_22 : HID _) (pm79_23 : HID _) (pm79_24 : HID _) (pm79_49 : HID _) (pm79_51 : HID _) m79_3 (em79_3 : HID _) m79_8 (em79_8 : HID _) m79_9 (em79_9 : HID _) m79_10 (em79_10 : HID _) m79_11 (em79_11 : HID _) m79_12 (em79_12 : HID _) m79_13 (em79_13 : HID _) m79_15 (em79_15 : HID _) m79_17 (em79_17 : HID _) m79_20 (em79_20 : HID _) m79_21 (em79_21 : HID _) m79_22 (em79_22 : HID _) m79_23 (em79_23 : HID _) m79_24 (em79_24 : HID _) m79_49 (em79_49 : HID _) m79_51 (em79_51 : HID _) y79_1_1 (ey79_1_1 : HID _) y79_1_2 (ey79_1_2 : HID _) y79_1_4 (ey79_1_4 : HID _) y79_7_1 (ey79_7_1 : HID _) y79_14_1 (ey79_14_1 : HID _) y79_16_1 (ey79_16_1 : HID _) y79_48_1 (ey79_48_1 : HID _) y79_50_1 (ey79_50_1 : HID _) w79_3 ew79_3 pz79_0 pz79_1 pz79_2 pz79_3 pz79_4 pz79_5 pz79_6 pz79_7 pz79_8 pz79_9 pz79_10 pz79_11 pz79_12 pz79_13 pz79_14 pz79_15 => ⟨rretB rfl pz79_0, ?_⟩))
  refine v_backMc (c := c) (s := s) H oz_T9gcls_1 oz_T9gcls_6 Hₚ Oₚ hD79 oz_T9gcls_2 (fun D79 N79 F79 A79 H Oₚ eD79 eN79 eF79 eA79 => ?_)
  have O := OUT_trans O Oₚ
  -- Packer.packDictionary
  have cF79 : SF oz_T9gclsl_0 F F79 := SF_trans (SF_refl) (SF_gluc (ι := oz_T9gclsl_3) oz_T9gcls_6 hS79 eF79 (by decide +kernel)) (any_sub (lₚ := [(2, 0), (2, 1), (2, 2), (2, 3), (2, 4), (5, 13), (5, 14), (5, 15), (7, 1), (7, 2), (7, 3), (7, 4), (7, 5), (7, 6), (7, 7), (7, 8), (7, 9), (7, 10), (7, 11), (7, 12), (7, 13), (7, 14), (7, 15), (7, 16), (7, 17), (7, 18), (8, 0), (8, 1), (8, 2), (8, 3), (8, 4), (15, 0), (15, 1), (15, 2), (15, 3), (15, 4), (17, 0), (17, 1), (17, 2), (17, 3), (17, 4), (28, 0), (31, 3), (31, 13), (31, 14), (31, 15), (31, 16), (40, 0), (49, 0), (49, 1), (49, 2), (49, 3), (49, 4), (51, 0), (51, 1), (51, 2), (51, 3), (51, 4), (53, 0), (62, 0), (71, 0)]) (by decide +kernel))
  have mF79 := SFm_of cF79 oz_T9gcls_3
  have cA79 : SA oz_T9gclsl_1 A A79 := SA_trans (SA_refl) (SA_gluc (ι := oz_T9gclsl_3) oz_T9gcls_6 hA79 eA79 (by decide +kernel)) (any_subA (lₚ := [3, 9, 10, 11, 12, 13, 14, 16, 18, 19, 20, 21, 22, 23, 24, 25, 29, 30, 32, 35, 36, 37, 38, 39, 41, 42, 43, 44, 45, 46, 47, 48, 50, 52, 54, 55, 56, 57, 58, 59, 60, 61, 63, 64, 65, 66, 67, 68, 69, 70, 72, 73, 74, 75, 76, 77, 78, 79]) (by decide +kernel))
  have mA79 := SAm_of cA79 oz_T9gcls_4
  have cD79 : SD oz_T9gclsl_2 D D79 := SD_trans (SD_refl) (SD_gluc (ι := oz_T9gclsl_3) oz_T9gcls_6 hD79 eD79 (by decide +kernel)) (any_subA (lₚ := [3, 9, 10, 11, 12, 13, 14, 16, 18, 21, 22, 23, 24, 25, 50, 52]) (by decide +kernel))
  have mD79 := SDm_of cD79 oz_T9gcls_5
  have cN79 : SD oz_T9gclsl_2 N N79 := SD_trans (SD_refl) (SD_gluc (ι := oz_T9gclsl_3) oz_T9gcls_6 hN79 eN79 (by decide +kernel)) (any_subA (lₚ := [3, 9, 10, 11, 12, 13, 14, 16, 18, 21, 22, 23, 24, 25, 50, 52]) (by decide +kernel))
  have mN79 := SDm_of cN79 oz_T9gcls_5
  have pe79_21_0 : HID (A79 21 0 = (D79 22 : Int)) := (congrFun (eA79 21) 0).trans (pm79_21.trans (congrArg (fun q : Nat => (q : Int)) (eD79 22).symm))
  have pe79_21_1 : HID (A79 21 1 = (D79 24 : Int)) := (congrFun (eA79 21) 1).trans (pm79_23.trans (congrArg (fun q : Nat => (q : Int)) (eD79 24).symm))
  have pe79_21_2 : HID (A79 21 2 = (D79 25 : Int)) := (congrFun (eA79 21) 2).trans (pm79_24.trans (congrArg (fun q : Nat => (q : Int)) (eD79 25).symm))
  have pf79_15_0 : HID (F79 15 0 = (D79 16 : Int)) := (eF79 15 0).trans (pm79_15.trans (congrArg (fun q : Nat => (q : Int)) (eD79 16).symm))
  have pf79_17_0 : HID (F79 17 0 = (D79 18 : Int)) := (eF79 17 0).trans (pm79_17.trans (congrArg (fun q : Nat => (q : Int)) (eD79 18).symm))
  have pf79_2_0 : HID (F79 2 0 = (D79 3 : Int)) := (eF79 2 0).trans (pm79_3.trans (congrArg (fun q : Nat => (q : Int)) (eD79 3).symm))
  have pf79_49_0 : HID (F79 49 0 = (D79 50 : Int)) := (eF79 49 0).trans (pm79_49.trans (congrArg (fun q : Nat => (q : Int)) (eD79 50).symm))
  have pf79_5_13 : HID (F79 5 13 = (D79 21 : Int)) := (eF79 5 13).trans (pm79_20.trans (congrArg (fun q : Nat => (q : Int)) (eD79 21).symm))
  have pf79_5_14 : HID (F79 5 14 = (D79 23 : Int)) := (eF79 5 14).trans (pm79_22.trans (congrArg (fun q : Nat => (q : Int)) (eD79 23).symm))
  have pf79_51_0 : HID (F79 51 0 = (D79 52 : Int)) := (eF79 51 0).trans (pm79_51.trans (congrArg (fun q : Nat => (q : Int)) (eD79 52).symm))
  have pf79_7_1 : HID (F79 7 1 = (D79 12 : Int)) := (eF79 7 1).trans (pm79_11.trans (congrArg (fun q : Nat => (q : Int)) (eD79 12).symm))
  have pf79_7_2 : HID (F79 7 2 = (D79 13 : Int)) := (eF79 7 2).trans (pm79_12.trans (congrArg (fun q : Nat => (q : Int)) (eD79 13).symm))
  have pf79_7_3 : HID (F79 7 3 = (D79 14 : Int)) := (eF79 7 3).trans (pm79_13.trans (congrArg (fun q : Nat => (q : Int)) (eD79 14).symm))
  have pf79_7_7 : HID (F79 7 7 = (D79 10 : Int)) := (eF79 7 7).trans (pm79_9.trans (congrArg (fun q : Nat => (q : Int)) (eD79 10).symm))
  have pf79_7_8 : HID (F79 7 8 = (D79 11 : Int)) := (eF79 7 8).trans (pm79_10.trans (congrArg (fun q : Nat => (q : Int)) (eD79 11).symm))
  have pf79_8_0 : HID (F79 8 0 = (D79 9 : Int)) := (eF79 8 0).trans (pm79_8.trans (congrArg (fun q : Nat => (q : Int)) (eD79 9).symm))
  have r96 : HID ((-2147483648 : Int) ≤ y79_1_1 ∧ y79_1_1 ≤ 2147483647) := krg_e (show (-2147483648 : Int) ≤ F79 2 1 ∧ F79 2 1 ≤ 2147483647 from H.krg 2 1 (ltn len_V17_vD5_oz_T9gcls rfl)) (show F79 2 1 = y79_1_1 from ((eF79 2 1).trans ey79_1_1))
  have r97 : HID ((0 : Int) ≤ y79_1_2 ∧ y79_1_2 ≤ 1) := krg_e (show (0 : Int) ≤ F79 2 2 ∧ F79 2 2 ≤ 1 from H.krg 2 2 (ltn len_V17_vD5_oz_T9gcls rfl)) (show F79 2 2 = y79_1_2 from ((eF79 2 2).trans ey79_1_2))
  refine Ew_of (pcₚ := 199) (fun _ => x_istore rfl) ?_
  refine Ew_of (pcₚ := 201) (fun _ => x_iload rfl rk_s) ?_
  refine w_ifeq (t := 214) rfl rfl (show inr (z79) from q_1794 pz79_13) (fun b104 => ?_) (fun b104 => ?_)
  · refine Ew_of (pcₚ := 215) (fun _ => x_iconst rfl) ?_
    have : WRY 5 ((w6)) (sc ((w4)) 0 ((u1_1))) [] DCE wsE (((-1))) (sc ((w79_3)) 0 ((y79_1_1))) := WRY_5 (MKL_c pz79_14 (by (have qg0 := HIDe r1; have qg1 := HIDe r96; omega)) (by (have qg0 := HIDe r1; have qg1 := HIDe r96; omega)))
    exact w_ireturn rfl (k ((-1)) _ _ _ _ _ _ _ H O (cD79) (cN79) (cF79) (cA79) (pf79_2_0) (pf79_8_0) (pf79_7_7) (pf79_7_8) (pf79_7_1) (pf79_7_2) (pf79_7_3) (pf79_15_0) (pf79_17_0) (pf79_5_13) (pe79_21_0) (pf79_5_14) (pe79_21_1) (pe79_21_2) (pf79_49_0) (pf79_51_0) (m79_3) ((congrArg (fun q : Nat => (q : Int)) (eN79 3)).trans em79_3) (m79_8) ((congrArg (fun q : Nat => (q : Int)) (eN79 9)).trans em79_8) (m79_9) ((congrArg (fun q : Nat => (q : Int)) (eN79 10)).trans em79_9) (m79_10) ((congrArg (fun q : Nat => (q : Int)) (eN79 11)).trans em79_10) (m79_11) ((congrArg (fun q : Nat => (q : Int)) (eN79 12)).trans em79_11) (m79_12) ((congrArg (fun q : Nat => (q : Int)) (eN79 13)).trans em79_12) (m79_13) ((congrArg (fun q : Nat => (q : Int)) (eN79 14)).trans em79_13) (m79_15) ((congrArg (fun q : Nat => (q : Int)) (eN79 16)).trans em79_15) (m79_17) ((congrArg (fun q : Nat => (q : Int)) (eN79 18)).trans em79_17) (m79_20) ((congrArg (fun q : Nat => (q : Int)) (eN79 21)).trans em79_20) (m79_21) ((congrArg (fun q : Nat => (q : Int)) (eN79 22)).trans em79_21) (m79_22) ((congrArg (fun q : Nat => (q : Int)) (eN79 23)).trans em79_22) (m79_23) ((congrArg (fun q : Nat => (q : Int)) (eN79 24)).trans em79_23) (m79_24) ((congrArg (fun q : Nat => (q : Int)) (eN79 25)).trans em79_24) (m79_49) ((congrArg (fun q : Nat => (q : Int)) (eN79 50)).trans em79_49) (m79_51) ((congrArg (fun q : Nat => (q : Int)) (eN79 52)).trans em79_51) (y79_1_1) (((eF79 2 1).trans ey79_1_1)) (y79_1_2) (((eF79 2 2).trans ey79_1_2)) (y79_7_1) (((eF79 8 1).trans ey79_7_1)) (y79_14_1) (((eF79 15 1).trans ey79_14_1)) (y79_16_1) (((eF79 17 1).trans ey79_16_1)) (y79_48_1) (((eF79 49 1).trans ey79_48_1)) (y79_50_1) (((eF79 51 1).trans ey79_50_1)) (w79_3) ((eA79 3).trans ew79_3) (show inr ((-1)) from q_63) (show 0 ≤ (y79_1_1) ∧ (y79_1_1) ≤ (m79_3) ∧ (m79_3) ≤ 65536 from pz79_1) (show 0 ≤ (y79_7_1) ∧ (y79_7_1) ≤ (m79_8) ∧ (m79_8) ≤ 65536 from pz79_3) (show (m79_9) = 0 ∨ (m79_9) = 2048 from pz79_4) (show (m79_10) ≤ 16384 from pz79_5) (show (m79_11) = (m79_12) ∧ (m79_13) = (m79_12) ∧ (m79_12) ≤ 65536 ∧ ((m79_12) = 0 ∨ 64 ≤ (m79_12)) ∧ lgq ((m79_12)) = 0 from pz79_6) (show 0 ≤ (y79_14_1) ∧ (y79_14_1) ≤ (m79_15) ∧ (m79_15) ≤ 65536 from pz79_7) (show 0 ≤ (y79_16_1) ∧ (y79_16_1) ≤ (m79_17) ∧ (m79_17) ≤ 65536 from pz79_8) (show (m79_20) = 3 ∧ (m79_21) = (m79_22) ∧ (m79_23) = (m79_22) ∧ (m79_24) = (m79_22) ∧ lgq ((m79_22)) = 0 ∧ (m79_22) ≤ 16384 from pz79_9) (show 0 ≤ (y79_48_1) ∧ (y79_48_1) ≤ (m79_49) ∧ (m79_49) ≤ 65536 from pz79_10) (show 0 ≤ (y79_50_1) ∧ (y79_50_1) ≤ (m79_51) ∧ (m79_51) ≤ 65536 from pz79_11) (pz79_12) (show (y79_1_2) = 0 from pz79_15) (show ((-1)) = -1 by first | exact q_3830 | omega) (show WRY 5 ((w6)) (sc ((w4)) 0 ((u1_1))) [] DCE wsE (((-1))) (sc ((w79_3)) 0 ((y79_1_1))) by assumption))
  · refine Ew_of (pcₚ := 205) (fun _ => x_aload_n rfl (rk_o (hl0) rfl rfl)) ?_
    refine Ew_stk (congrArg (fun qz : Nat => ([.ref qz] : List Value)) (show D79 0 = D 0 from mD79 0 rfl).symm) ?_
    refine v_g H (o := 0) (v := .ref (D79 2)) rfl rfl rfl rfl rfl (vrf ((mF79 0 5 rfl).trans ((pf2).trans (congrArg (fun q : Nat => (q : Int)) (mD79 2 rfl).symm)))) ?_
    refine v_g H (o := 2) (v := I (y79_1_2)) rfl rfl rfl rfl rfl (congrArg (fun z : Int => I z) (((eF79 2 2).trans ey79_1_2) : F79 2 2 = y79_1_2)) ?_
    refine w_ifeq (t := 216) rfl rfl (show inr (y79_1_2) from q_1794 (HIDe r97)) (fun b105 => ?_) (fun b105 => ?_)
    · have : WRY 5 ((w6)) (sc ((w4)) 0 ((u1_1))) [] DCE wsE ((y79_1_1)) (sc ((w79_3)) 0 ((y79_1_1))) := WRY_5 (MKL_c pz79_14 (by (have qg0 := HIDe r1; have qg1 := HIDe r96; omega)) (by (have qg0 := HIDe r1; have qg1 := HIDe r96; omega)))
      refine Ew_of (pcₚ := 217) (fun _ => x_iload_n rfl (rk_o (hl3) rfl rfl)) ?_
      refine Ew_of (pcₚ := 218) (fun _ => x_iconst rfl) ?_
      refine w_icmpeq (t := 277) rfl rfl (show inr (5) from q_727) (show inr (5) from q_727) (fun b106 => ?_) (fun b106 => ?_)
      · exact hc277  _ _ _ _ _ _ _ _  ((rk_o (hl0) rfl rfl).trans (congrArg (fun q : Nat => some (Value.ref q)) (mD79 0 rfl).symm)) (rk_o (hl1) rfl rfl) (rk_o (hl3) rfl rfl) ((rk_o (hl4) rfl rfl).trans (congrArg (fun q : Nat => some (Value.ref q)) (mD79 1 rfl).symm)) H O (SD_trans (SD_refl) (SD_gluc (ι := oz_T9gclsl_3) oz_T9gcls_6 hD79 eD79 (by decide +kernel)) (any_subA (lₚ := [3, 9, 10, 11, 12, 13, 14, 16, 18, 21, 22, 23, 24, 25, 50, 52]) (by decide +kernel))) (SD_trans (SD_refl) (SD_gluc (ι := oz_T9gclsl_3) oz_T9gcls_6 hN79 eN79 (by decide +kernel)) (any_subA (lₚ := [3, 9, 10, 11, 12, 13, 14, 16, 18, 21, 22, 23, 24, 25, 50, 52]) (by decide +kernel))) (SF_trans (SF_refl) (SF_gluc (ι := oz_T9gclsl_3) oz_T9gcls_6 hS79 eF79 (by decide +kernel)) (any_sub (lₚ := [(2, 0), (2, 1), (2, 2), (2, 3), (2, 4), (5, 13), (5, 14), (5, 15), (7, 1), (7, 2), (7, 3), (7, 4), (7, 5), (7, 6), (7, 7), (7, 8), (7, 9), (7, 10), (7, 11), (7, 12), (7, 13), (7, 14), (7, 15), (7, 16), (7, 17), (7, 18), (8, 0), (8, 1), (8, 2), (8, 3), (8, 4), (15, 0), (15, 1), (15, 2), (15, 3), (15, 4), (17, 0), (17, 1), (17, 2), (17, 3), (17, 4), (28, 0), (31, 3), (31, 13), (31, 14), (31, 15), (31, 16), (40, 0), (49, 0), (49, 1), (49, 2), (49, 3), (49, 4), (51, 0), (51, 1), (51, 2), (51, 3), (51, 4), (53, 0), (62, 0), (71, 0)]) (by decide +kernel))) (SA_trans (SA_refl) (SA_gluc (ι := oz_T9gclsl_3) oz_T9gcls_6 hA79 eA79 (by decide +kernel)) (any_subA (lₚ := [3, 9, 10, 11, 12, 13, 14, 16, 18, 19, 20, 21, 22, 23, 24, 25, 29, 30, 32, 35, 36, 37, 38, 39, 41, 42, 43, 44, 45, 46, 47, 48, 50, 52, 54, 55, 56, 57, 58, 59, 60, 61, 63, 64, 65, 66, 67, 68, 69, 70, 72, 73, 74, 75, 76, 77, 78, 79]) (by decide +kernel))) (pf79_2_0) (pf79_8_0) (pf79_7_7) (pf79_7_8) (pf79_7_1) (pf79_7_2) (pf79_7_3) (pf79_15_0) (pf79_17_0) (pf79_5_13) (pe79_21_0) (pf79_5_14) (pe79_21_1) (pe79_21_2) (pf79_49_0) (pf79_51_0) (m79_3) ((congrArg (fun q : Nat => (q : Int)) (eN79 3)).trans em79_3) (m79_8) ((congrArg (fun q : Nat => (q : Int)) (eN79 9)).trans em79_8) (m79_9) ((congrArg (fun q : Nat => (q : Int)) (eN79 10)).trans em79_9) (m79_10) ((congrArg (fun q : Nat => (q : Int)) (eN79 11)).trans em79_10) (m79_11) ((congrArg (fun q : Nat => (q : Int)) (eN79 12)).trans em79_11) (m79_12) ((congrArg (fun q : Nat => (q : Int)) (eN79 13)).trans em79_12) (m79_13) ((congrArg (fun q : Nat => (q : Int)) (eN79 14)).trans em79_13) (m79_15) ((congrArg (fun q : Nat => (q : Int)) (eN79 16)).trans em79_15) (m79_17) ((congrArg (fun q : Nat => (q : Int)) (eN79 18)).trans em79_17) (m79_20) ((congrArg (fun q : Nat => (q : Int)) (eN79 21)).trans em79_20) (m79_21) ((congrArg (fun q : Nat => (q : Int)) (eN79 22)).trans em79_21) (m79_22) ((congrArg (fun q : Nat => (q : Int)) (eN79 23)).trans em79_22) (m79_23) ((congrArg (fun q : Nat => (q : Int)) (eN79 24)).trans em79_23) (m79_24) ((congrArg (fun q : Nat => (q : Int)) (eN79 25)).trans em79_24) (m79_49) ((congrArg (fun q : Nat => (q : Int)) (eN79 50)).trans em79_49) (m79_51) ((congrArg (fun q : Nat => (q : Int)) (eN79 52)).trans em79_51) (y79_1_1) (((eF79 2 1).trans ey79_1_1)) (y79_1_2) (((eF79 2 2).trans ey79_1_2)) (y79_7_1) (((eF79 8 1).trans ey79_7_1)) (y79_14_1) (((eF79 15 1).trans ey79_14_1)) (y79_16_1) (((eF79 17 1).trans ey79_16_1)) (y79_48_1) (((eF79 49 1).trans ey79_48_1)) (y79_50_1) (((eF79 51 1).trans ey79_50_1)) (w79_3) ((eA79 3).trans ew79_3) (show 0 ≤ (y79_1_1) ∧ (y79_1_1) ≤ (m79_3) ∧ (m79_3) ≤ 65536 from pz79_1) (show 0 ≤ (y79_7_1) ∧ (y79_7_1) ≤ (m79_8) ∧ (m79_8) ≤ 65536 from pz79_3) (show (m79_9) = 0 ∨ (m79_9) = 2048 from pz79_4) (show (m79_10) ≤ 16384 from pz79_5) (show (m79_11) = (m79_12) ∧ (m79_13) = (m79_12) ∧ (m79_12) ≤ 65536 ∧ ((m79_12) = 0 ∨ 64 ≤ (m79_12)) ∧ lgq ((m79_12)) = 0 from pz79_6) (show 0 ≤ (y79_14_1) ∧ (y79_14_1) ≤ (m79_15) ∧ (m79_15) ≤ 65536 from pz79_7) (show 0 ≤ (y79_16_1) ∧ (y79_16_1) ≤ (m79_17) ∧ (m79_17) ≤ 65536 from pz79_8) (show (m79_20) = 3 ∧ (m79_21) = (m79_22) ∧ (m79_23) = (m79_22) ∧ (m79_24) = (m79_22) ∧ lgq ((m79_22)) = 0 ∧ (m79_22) ≤ 16384 from pz79_9) (show 0 ≤ (y79_48_1) ∧ (y79_48_1) ≤ (m79_49) ∧ (m79_49) ≤ 65536 from pz79_10) (show 0 ≤ (y79_50_1) ∧ (y79_50_1) ≤ (m79_51) ∧ (m79_51) ≤ 65536 from pz79_11) (pz79_12) (show (y79_1_2) = 0 from b105) (show WRY 5 ((w6)) (sc ((w4)) 0 ((u1_1))) [] DCE wsE ((y79_1_1)) (sc ((w79_3)) 0 ((y79_1_1))) by assumption)
      · exact absurd b106 (by omega)
    · refine Ew_of (pcₚ := 215) (fun _ => x_iconst rfl) ?_
      have : WRY 5 ((w6)) (sc ((w4)) 0 ((u1_1))) [] DCE wsE (((-1))) (sc ((w79_3)) 0 ((y79_1_1))) := WRY_5 (MKL_c pz79_14 (by (have qg0 := HIDe r1; have qg1 := HIDe r96; omega)) (by (have qg0 := HIDe r1; have qg1 := HIDe r96; omega)))
      exact w_ireturn rfl (k ((-1)) _ _ _ _ _ _ _ H O (cD79) (cN79) (cF79) (cA79) (pf79_2_0) (pf79_8_0) (pf79_7_7) (pf79_7_8) (pf79_7_1) (pf79_7_2) (pf79_7_3) (pf79_15_0) (pf79_17_0) (pf79_5_13) (pe79_21_0) (pf79_5_14) (pe79_21_1) (pe79_21_2) (pf79_49_0) (pf79_51_0) (m79_3) ((congrArg (fun q : Nat => (q : Int)) (eN79 3)).trans em79_3) (m79_8) ((congrArg (fun q : Nat => (q : Int)) (eN79 9)).trans em79_8) (m79_9) ((congrArg (fun q : Nat => (q : Int)) (eN79 10)).trans em79_9) (m79_10) ((congrArg (fun q : Nat => (q : Int)) (eN79 11)).trans em79_10) (m79_11) ((congrArg (fun q : Nat => (q : Int)) (eN79 12)).trans em79_11) (m79_12) ((congrArg (fun q : Nat => (q : Int)) (eN79 13)).trans em79_12) (m79_13) ((congrArg (fun q : Nat => (q : Int)) (eN79 14)).trans em79_13) (m79_15) ((congrArg (fun q : Nat => (q : Int)) (eN79 16)).trans em79_15) (m79_17) ((congrArg (fun q : Nat => (q : Int)) (eN79 18)).trans em79_17) (m79_20) ((congrArg (fun q : Nat => (q : Int)) (eN79 21)).trans em79_20) (m79_21) ((congrArg (fun q : Nat => (q : Int)) (eN79 22)).trans em79_21) (m79_22) ((congrArg (fun q : Nat => (q : Int)) (eN79 23)).trans em79_22) (m79_23) ((congrArg (fun q : Nat => (q : Int)) (eN79 24)).trans em79_23) (m79_24) ((congrArg (fun q : Nat => (q : Int)) (eN79 25)).trans em79_24) (m79_49) ((congrArg (fun q : Nat => (q : Int)) (eN79 50)).trans em79_49) (m79_51) ((congrArg (fun q : Nat => (q : Int)) (eN79 52)).trans em79_51) (y79_1_1) (((eF79 2 1).trans ey79_1_1)) (y79_1_2) (((eF79 2 2).trans ey79_1_2)) (y79_7_1) (((eF79 8 1).trans ey79_7_1)) (y79_14_1) (((eF79 15 1).trans ey79_14_1)) (y79_16_1) (((eF79 17 1).trans ey79_16_1)) (y79_48_1) (((eF79 49 1).trans ey79_48_1)) (y79_50_1) (((eF79 51 1).trans ey79_50_1)) (w79_3) ((eA79 3).trans ew79_3) (show inr ((-1)) from q_63) (show 0 ≤ (y79_1_1) ∧ (y79_1_1) ≤ (m79_3) ∧ (m79_3) ≤ 65536 from pz79_1) (show 0 ≤ (y79_7_1) ∧ (y79_7_1) ≤ (m79_8) ∧ (m79_8) ≤ 65536 from pz79_3) (show (m79_9) = 0 ∨ (m79_9) = 2048 from pz79_4) (show (m79_10) ≤ 16384 from pz79_5) (show (m79_11) = (m79_12) ∧ (m79_13) = (m79_12) ∧ (m79_12) ≤ 65536 ∧ ((m79_12) = 0 ∨ 64 ≤ (m79_12)) ∧ lgq ((m79_12)) = 0 from pz79_6) (show 0 ≤ (y79_14_1) ∧ (y79_14_1) ≤ (m79_15) ∧ (m79_15) ≤ 65536 from pz79_7) (show 0 ≤ (y79_16_1) ∧ (y79_16_1) ≤ (m79_17) ∧ (m79_17) ≤ 65536 from pz79_8) (show (m79_20) = 3 ∧ (m79_21) = (m79_22) ∧ (m79_23) = (m79_22) ∧ (m79_24) = (m79_22) ∧ lgq ((m79_22)) = 0 ∧ (m79_22) ≤ 16384 from pz79_9) (show 0 ≤ (y79_48_1) ∧ (y79_48_1) ≤ (m79_49) ∧ (m79_49) ≤ 65536 from pz79_10) (show 0 ≤ (y79_50_1) ∧ (y79_50_1) ≤ (m79_51) ∧ (m79_51) ≤ 65536 from pz79_11) (pz79_12) (show (y79_1_2) = 0 from pz79_15) (show ((-1)) = -1 by first | exact q_3830 | omega) (show WRY 5 ((w6)) (sc ((w4)) 0 ((u1_1))) [] DCE wsE (((-1))) (sc ((w79_3)) 0 ((y79_1_1))) by assumption))


end
section
/-! T9h.cls -/
abbrev V17_vE4 : vV := [(0, 0, [(4, 0), (4, 0), (4, 0), (4, 0), (4, 0), (4, 0), (4, 0), (4, 0), (4, 0), (4, 0), (4, 0), (4, 0), (4, 0), (4, 0), (4, 0), (4, 0), (4, 0), (0, 0), (0, 0)]), (0, 7, [(4, 0), (0, 0), (1, 0), (0, 0), (0, 0)]), (0, 7, [(4, 0), (0, 0), (1, 0), (0, 0), (0, 0)]), (1, 0, []), (0, 7, [(4, 0), (0, 0), (1, 0), (0, 0), (0, 0)]), (1, 0, []), (1, 0, []), (1, 1, []), (1, 1, []), (1, 1, []), (0, 6, [(4, 0), (4, 0), (4, 0), (4, 0), (4, 0), (4, 0), (4, 0), (4, 0), (4, 0), (4, 0), (4, 0), (4, 0), (4, 0), (4, 0), (4, 0), (0, 0), (0, 0), (4, 0), (4, 0)]), (1, 1, [])]
theorem len_V17_vE4_oz_T9hcls : (V17_vE4).length = 12 := by decide +kernel
theorem oz_T9hcls_1 : vsub V17_vE4 V34 [0, 8] = true := by decide +kernel
theorem oz_T9hcls_2 : vsub V17_vE4 V29_Row_Row [4, 1, 5, 6] = true := by decide +kernel
def oz_T9hclsl_0 : List Nat := [7, 9]
theorem oz_T9hcls_3 : (oz_T9hclsl_0).all (fun p => !tbz 640 p) = true := by decide +kernel
def oz_T9hclsl_1 : List (Nat × Nat) := []
theorem oz_T9hcls_4 : (oz_T9hclsl_1).all (fun p => !tbz 0 (Nat.add (Nat.mul 32 p.1) p.2)) = true := by decide +kernel
def oz_T9hclsl_2 : List Nat := [0, 8]
theorem oz_T9hcls_5 : okc oz_T9hclsl_2 4096 = true := by decide +kernel
def oz_T9hclsl_3 : List Nat := [4, 1, 5, 6]
theorem oz_T9hcls_6 : okc oz_T9hclsl_3 806617604 = true := by decide +kernel

theorem C17_vE4 {σE : rS} {D N : Nat → Nat} {F : hF} {A : hA} {d c s : Nat} {Q : wQ} (H : HW V17_vE4 σE D N F A) {x1 y0 : Int} (pf2 : HID (F 0 5 = (D 2 : Int))) (pf3 : HID (F 2 0 = (D 3 : Int))) (pf4 : HID (F 0 6 = (D 4 : Int))) (pf5 : HID (F 4 0 = (D 5 : Int))) (pf6 : HID (F 1 0 = (D 6 : Int))) (pf7 : HID (F 0 16 = (D 7 : Int))) (pf8 : HID (F 0 1 = (D 8 : Int))) (pf9 : HID (F 0 13 = (D 9 : Int))) (pf10 : HID (F 0 11 = (D 10 : Int))) (pf11 : HID (F 10 18 = (D 11 : Int))) (n3 : Int) (en3 : HID ((N 3 : Int) = n3)) (n5 : Int) (en5 : HID ((N 5 : Int) = n5)) (n6 : Int) (en6 : HID ((N 6 : Int) = n6)) (n7 : Int) (en7 : HID ((N 7 : Int) = n7)) (n8 : Int) (en8 : HID ((N 8 : Int) = n8)) (n9 : Int) (en9 : HID ((N 9 : Int) = n9)) (n11 : Int) (en11 : HID ((N 11 : Int) = n11)) (u1_1 : Int) (eu1_1 : HID (F 1 1 = u1_1)) (u2_1 : Int) (eu2_1 : HID (F 2 1 = u2_1)) (u4_1 : Int) (eu4_1 : HID (F 4 1 = u4_1)) (w8 : Int → Int) (ew8 : A 8 = w8) {ls : rO} (hl0 : rlook ls 0 = some (.ref (D 0))) (hl1 : rlook ls 1 = some (I (x1))) (hl3 : rlook ls 3 = some (I (4))) (hl4 : rlook ls 4 = some (.ref (D 1))) (h0 : inr (x1)) (h1 : inr y0) (h2 : 0 ≤ (u2_1) ∧ (u2_1) ≤ (n3) ∧ (n3) ≤ 65536) (h3 : 0 ≤ (u4_1) ∧ (u4_1) ≤ (n5) ∧ (n5) ≤ 65536) (h4 : 0 ≤ (u1_1) ∧ (u1_1) ≤ (n6) ∧ (n6) ≤ 65536) (h5 : (u1_1) ≤ 16384) (h6 : (n7) = 2) (h7 : 1 ≤ ((w8)) 2 ∧ ((w8)) 2 ≤ 65536) (h8 : 0 ≤ ((w8)) 8 ∧ ((w8)) 8 ≤ 11) (h9 : 0 ≤ ((w8)) 6 ∧ ((w8)) 6 ≤ 255) (h10 : (n8) = 10) (h11 : (n9) = 13) (h12 : (n11) = 13) (hc337 : ∀ (ls : rO) (σ : rS) (F_c337 : hF) (A_c337 : hA) , rlook ls 0 = some (.ref (D 0)) → rlook ls 1 = some (I (x1)) → HW V17_vE4 σ D N F_c337 A_c337 → OUT (V17_vE4).length D N σE c s D N σ c s → SF [] F F_c337 → SA [7, 9] A A_c337 → ∀ wc337_7 : Int → Int, A_c337 7 = wc337_7 → ∀ wc337_9 : Int → Int, A_c337 9 = wc337_9 → (0 ≤ (u2_1) ∧ (u2_1) ≤ (n3) ∧ (n3) ≤ 65536) → (HID (STR (y0) ((u1_1)) (sc ((A 5)) 0 ((u4_1))) (sc ((A 6)) 0 ((u1_1))) (((A 7)) 0) (((wc337_7)) 0))) → (HID (((wc337_7)) 1 = w32 (((A 7)) 1 + (if BNA ((w8)) 4 ((u1_1)) < (u2_1) then 1 else 0)))) → (∀ i, 0 ≤ i → i < 0 + (n9) → ((wc337_9)) i = ((A 11)) (0 + (i - 0))) → Ew 17 (d + 3) 337 ls [] σ c s Q) (k : ∀ (z : Int) (σ : rS) (Fₚ : hF) (Aₚ : hA), HW V17_vE4 σ D N Fₚ Aₚ → OUT (V17_vE4).length D N σE c s D N σ c s → SF [] F Fₚ → SA [7, 9] A Aₚ → (inr (z)) → ((0 : Int) = 1) → Q (some (I z)) σ c s) : Ew 17 (d + 3) 239 ls [I (y0)] σE c s Q := by
  have O := OUT_refl (n := (V17_vE4).length) (D := D) (N := N) (σ := σE) (c := c) (s := s)
  have HE := H
  have r1 : HID ((-2147483648 : Int) ≤ u1_1 ∧ u1_1 ≤ 2147483647) := krg_e (show (-2147483648 : Int) ≤ F 1 1 ∧ F 1 1 ≤ 2147483647 from H.krg 1 1 (ltn len_V17_vE4_oz_T9hcls rfl)) (show F 1 1 = u1_1 from (eu1_1))
  have r2 : HID ((-2147483648 : Int) ≤ u2_1 ∧ u2_1 ≤ 2147483647) := krg_e (show (-2147483648 : Int) ≤ F 2 1 ∧ F 2 1 ≤ 2147483647 from H.krg 2 1 (ltn len_V17_vE4_oz_T9hcls rfl)) (show F 2 1 = u2_1 from (eu2_1))
  have r3 : HID ((-2147483648 : Int) ≤ u4_1 ∧ u4_1 ≤ 2147483647) := krg_e (show (-2147483648 : Int) ≤ F 4 1 ∧ F 4 1 ≤ 2147483647 from H.krg 4 1 (ltn len_V17_vE4_oz_T9hcls rfl)) (show F 4 1 = u4_1 from (eu4_1))
  have r7 : HID ((0 : Int) ≤ n7 ∧ n7 ≤ 1000000) := nrng (H.nle 7 (ltn len_V17_vE4_oz_T9hcls rfl)) (show (N 7 : Int) = n7 from en7)
  have r9 : HID ((0 : Int) ≤ n9 ∧ n9 ≤ 1000000) := nrng (H.nle 9 (ltn len_V17_vE4_oz_T9hcls rfl)) (show (N 9 : Int) = n9 from en9)
  refine Ew_of (pcₚ := 241) (fun _ => x_istore rfl) ?_
  refine Ew_of (pcₚ := 242) (fun _ => x_aload_n rfl (rk_o (hl0) rfl rfl)) ?_
  refine v_g H (o := 0) (v := .ref (D 7)) rfl rfl rfl rfl rfl (vrf (pf7)) ?_
  refine Ew_of (pcₚ := 246) (fun _ => x_iconst rfl) ?_
  refine Ew_of (pcₚ := 247) (fun _ => x_dup2 rfl rfl rfl) ?_
  refine v_lI H (o := 7) rfl rfl rfl rfl (n := n7) (en7) (show 0 ≤ 0 ∧ 0 < n7 from q_4457 (HIDe r7) h6) (fun v11 ev11 (qv11 : HID _) => ?_)
  have ev11 : (A 7) (0) = v11 := (congrFun (rfl : A 7 = A 7) (0)).symm.trans ev11
  have hv0 := ev11
  refine Ew_of (pcₚ := 250) (fun _ => x_iload rfl rk_s) ?_
  refine Ew_of (pcₚ := 252) (fun _ => x_aload rfl (rk_o (hl4) rfl rfl)) ?_
  refine v_g H (o := 1) (v := I (u1_1)) rfl rfl rfl rfl rfl (congrArg (fun z : Int => I z) ((eu1_1) : F 1 1 = u1_1)) ?_
  refine w_icmpne (t := 274) rfl rfl (show inr (y0) from h1) (show inr (u1_1) from q_3477 h4 h5) (fun b12 => ?_) (fun b12 => ?_)
  · refine Ew_of (pcₚ := 275) (fun _ => x_iconst rfl) ?_
    refine w_iaddE rfl ?_
    have g13 : inr (adI (v11) (1)) := toI_inr _
    have hs0 : HID (STR (y0) ((u1_1)) (sc ((A 5)) 0 ((u4_1))) (sc ((A 6)) 0 ((u1_1))) (((A 7)) 0) (((adI (v11) (1))))) := by unfold HID; first | exact STR_n hv0 (by (have qg0 := HIDe qv11; have qg1 := HIDe r1; have qg2 := HIDe r3; omega)) | exact STR_u hv0 pNONE_1 (by (have qg0 := HIDe qv11; have qg1 := HIDe r1; have qg2 := HIDe r3; omega)) | exact STR_y hv0 (by (have qg0 := HIDe qv11; have qg1 := HIDe r1; have qg2 := HIDe r3; omega)) pNONE_1 (by (have qg0 := HIDe qv11; have qg1 := HIDe r1; have qg2 := HIDe r3; omega))
    refine v_sI H (o := 7) (z := (adI (v11) (1))) rfl rfl rfl rfl (n := n7) (en7) (show 0 ≤ 0 ∧ 0 < n7 from q_4457 (HIDe r7) h6) (show inr ((adI (v11) (1))) from g13) (fun σ H Oₚ => ?_)
    have O := OUT_trans O Oₚ
    have cAu14 : SA oz_T9hclsl_0 A (updA A 7 (0) ((adI (v11) (1)))) := SA_upd (SA_refl) rfl
    have mAu14 := SAm_of cAu14 oz_T9hcls_3
    refine Ew_of (pcₚ := 278) (fun _ => x_aload_n rfl (rk_o (hl0) rfl rfl)) ?_
    refine v_g H (o := 0) (v := .ref (D 7)) rfl rfl rfl rfl rfl (vrf (pf7)) ?_
    refine Ew_of (pcₚ := 282) (fun _ => x_iconst rfl) ?_
    refine Ew_of (pcₚ := 283) (fun _ => x_dup2 rfl rfl rfl) ?_
    refine v_lI H (o := 7) rfl rfl rfl rfl (n := n7) (en7) (show 0 ≤ 1 ∧ 1 < n7 from q_4502 h6) (fun v15 ev15 (qv15 : HID _) => ?_)
    have ev15 : (upd1 (A 7) (0) ((adI (v11) (1)))) (1) = v15 := (congrFun (rfl : (updA A 7 (0) ((adI (v11) (1)))) 7 = upd1 (A 7) (0) ((adI (v11) (1)))) (1)).symm.trans ev15
    have hv1 : ((A 7)) 1 = (v15) := by have h := ev15; first | exact h | (rw [upd1_o (by decide)] at h; exact h)
    refine Ew_of (pcₚ := 285) (fun _ => x_aload_n rfl (rk_o (hl0) rfl rfl)) ?_
    refine v_g H (o := 0) (v := .ref (D 2)) rfl rfl rfl rfl rfl (vrf (pf2)) ?_
    refine v_g H (o := 2) (v := I (u2_1)) rfl rfl rfl rfl rfl (congrArg (fun z : Int => I z) ((eu2_1) : F 2 1 = u2_1)) ?_
    refine Ew_of (pcₚ := 292) (fun _ => x_aload_n rfl (rk_o (hl0) rfl rfl)) ?_
    refine Ew_of (pcₚ := 293) (fun _ => x_iload_n rfl (rk_o (hl3) rfl rfl)) ?_
    refine Ew_of (pcₚ := 295) (fun _ => x_aload rfl (rk_o (hl4) rfl rfl)) ?_
    refine v_g H (o := 1) (v := I (u1_1)) rfl rfl rfl rfl rfl (congrArg (fun z : Int => I z) ((eu1_1) : F 1 1 = u1_1)) ?_
    refine v_inv H (o := 0) rfl rfl rfl rfl rfl rfl (by rfl) (C34x (D := puc 4096 D) (N := puc 4096 N) (HW_subc H oz_T9hcls_1 oz_T9hcls_5) (pf8) (n8) (en8) (w8) ((funext (mAu14 8 rfl)).trans (ew8)) (show inr (4) from q_216) (show inr (u1_1) from q_3477 h4 h5) (show 0 ≤ (u1_1) ∧ (u1_1) ≤ 16384 from q_4843 h4 h5) (show 0 ≤ (4) ∧ (4) ≤ 5 from q_5073) (show 1 ≤ ((w8)) 2 ∧ ((w8)) 2 ≤ 65536 from h7) (show 0 ≤ ((w8)) 8 ∧ ((w8)) 8 ≤ 11 from h8) (show 0 ≤ ((w8)) 6 ∧ ((w8)) 6 ≤ 255 from h9) (show (n8) = 10 from h10) (fun z16 σ16 F16ₚ A16ₚ Hₚ Oₚ hS16 hA16 pz16_0 pz16_1 => ⟨rfl, ?_⟩))
    refine v_backc (c := c) (s := s) H oz_T9hcls_1 oz_T9hcls_5 Hₚ Oₚ (fun F16 A16 H Oₚ eF16 eA16 => ?_)
    have O := OUT_trans O Oₚ
    -- PackHouse.boundOf
    have cF16 : SF oz_T9hclsl_1 F F16 := SF_trans (SF_refl) (SF_gluc (ι := oz_T9hclsl_2) oz_T9hcls_5 hS16 eF16 (by decide +kernel)) (any_sub (lₚ := []) (by decide +kernel))
    have mF16 := SFm_of cF16 oz_T9hcls_4
    have cA16 : SA oz_T9hclsl_0 A A16 := SA_trans (cAu14) (SA_gluc (ι := oz_T9hclsl_2) oz_T9hcls_5 hA16 eA16 (by decide +kernel)) (any_subA (lₚ := []) (by decide +kernel))
    have mA16 := SAm_of cA16 oz_T9hcls_3
    have hbd := pz16_1
    (try clear pz16_1)
    refine w_icmple (t := 308) rfl rfl (show inr (u2_1) from q_38 h2) (show inr (z16) from pz16_0) (fun b17 => ?_) (fun b17 => ?_)
    · refine Ew_of (pcₚ := 309) (fun _ => x_iconst rfl) ?_
      refine w_iaddE rfl ?_
      have g18 : inr (adI (v15) (0)) := toI_inr _
      have hs1 : HID (((adI (v15) (0))) = w32 (((A 7)) 1 + (if BNA ((w8)) 4 ((u1_1)) < (u2_1) then 1 else 0))) := by unfold HID; exact BYN hv1 (by decide) (by (have qg0 := HIDe qv15; have qg1 := HIDe r1; have qg2 := HIDe r2; omega)) hbd (by first | exact .inl ⟨by (have qg0 := HIDe qv15; have qg1 := HIDe r1; have qg2 := HIDe r2; omega), rfl⟩ | exact .inr ⟨by (have qg0 := HIDe qv15; have qg1 := HIDe r1; have qg2 := HIDe r2; omega), rfl⟩)
      (try clear hbd)
      refine v_sI H (o := 7) (z := (adI (v15) (0))) rfl rfl rfl rfl (n := n7) (en7) (show 0 ≤ 1 ∧ 1 < n7 from q_4502 h6) (show inr ((adI (v15) (0))) from g18) (fun σ H Oₚ => ?_)
      have O := OUT_trans O Oₚ
      have cAu19 : SA oz_T9hclsl_0 A (updA A16 7 (1) ((adI (v15) (0)))) := SA_upd (cA16) rfl
      have mAu19 := SAm_of cAu19 oz_T9hcls_3
      have : HID (STR (y0) ((u1_1)) (sc ((A 5)) 0 ((u4_1))) (sc ((A 6)) 0 ((u1_1))) (((A 7)) 0) (((upd1 (upd1 (A 7) (0) ((adI (v11) (1)))) (1) ((adI (v15) (0))))) 0)) := by rw [upd1_o (by decide), upd1_s]; exact hs0
      have : HID (((upd1 (upd1 (A 7) (0) ((adI (v11) (1)))) (1) ((adI (v15) (0))))) 1 = w32 (((A 7)) 1 + (if BNA ((w8)) 4 ((u1_1)) < (u2_1) then 1 else 0))) := by rw [upd1_s]; exact hs1
      refine Ew_of (pcₚ := 312) (fun _ => x_iload_n rfl (rk_o (hl3) rfl rfl)) ?_
      refine Ew_of (pcₚ := 313) (fun _ => x_iconst rfl) ?_
      refine w_icmpne (t := 337) rfl rfl (show inr (4) from q_216) (show inr (4) from q_216) (fun b20 => ?_) (fun b20 => ?_)
      · exact absurd b20 (by omega)
      · refine Ew_of (pcₚ := 317) (fun _ => x_aload_n rfl (rk_o (hl0) rfl rfl)) ?_
        refine v_g H (o := 0) (v := .ref (D 10)) rfl rfl rfl rfl rfl (vrf ((mF16 0 11 rfl).trans (pf10))) ?_
        refine v_g H (o := 10) (v := .ref (D 11)) rfl rfl rfl rfl rfl (vrf ((mF16 10 18 rfl).trans (pf11))) ?_
        refine Ew_of (pcₚ := 324) (fun _ => x_iconst rfl) ?_
        refine Ew_of (pcₚ := 325) (fun _ => x_aload_n rfl (rk_o (hl0) rfl rfl)) ?_
        refine v_g H (o := 0) (v := .ref (D 9)) rfl rfl rfl rfl rfl (vrf ((mF16 0 13 rfl).trans (pf9))) ?_
        refine Ew_of (pcₚ := 329) (fun _ => x_iconst rfl) ?_
        refine Ew_of (pcₚ := 330) (fun _ => x_aload_n rfl (rk_o (hl0) rfl rfl)) ?_
        refine v_g H (o := 0) (v := .ref (D 9)) rfl rfl rfl rfl rfl (vrf ((mF16 0 13 rfl).trans (pf9))) ?_
        refine v_len H (o := 9) rfl rfl rfl rfl (n := n9) (en9) ?_
        refine v_cpy H (t := 9) (t0 := 11) rfl rfl rfl rfl rfl rfl rfl rfl (n := n9) (en9) (n0 := n11) (en11) (show 0 ≤ n9 ∧ 0 ≤ 0 ∧ 0 ≤ 0 ∧ 0 + n9 ≤ n11 ∧ 0 + n9 ≤ n9 from q_4920 (HIDe r9) h11 h12) (fun σ A21 H Oₚ hA21 ga21 gb21 => ?_)
        have gb21 : ∀ i, i < 0 ∨ 0 + n9 ≤ i → A21 9 i = (A 9) i := fun i a => (gb21 i a).trans (congrFun ((show A16 9 = (updA A 7 (0) ((adI (v11) (1)))) 9 from (eA16 9))) i)
        have ga21 : ∀ i, 0 ≤ i → i < 0 + n9 → A21 9 i = (A 11) (0 + (i - 0)) := fun i a b => (ga21 i a b).trans (congrFun (funext (mAu19 11 rfl)) _)
        have O := OUT_trans O Oₚ
        have cA21 : SA oz_T9hclsl_0 A A21 := SA_trans (cAu19) hA21 (any_subA (by decide +kernel))
        have mA21 := SAm_of cA21 oz_T9hcls_3
        exact hc337  _ _ _ _  (rk_o (hl0) rfl rfl) (rk_o (hl1) rfl rfl) H O (SF_trans (SF_refl) (SF_gluc (ι := oz_T9hclsl_2) oz_T9hcls_5 hS16 eF16 (by decide +kernel)) (any_sub (lₚ := []) (by decide +kernel))) (SA_trans (SA_upd (SA_trans (SA_upd (SA_refl) rfl) (SA_gluc (ι := oz_T9hclsl_2) oz_T9hcls_5 hA16 eA16 (by decide +kernel)) (any_subA (lₚ := []) (by decide +kernel))) rfl) hA21 (any_subA (by decide +kernel)))    (upd1 (upd1 (A 7) (0) ((adI (v11) (1)))) (1) ((adI (v15) (0)))) ((funext (hA21 7 rfl)).trans (congrArg (fun q => upd1 q (1) ((adI (v15) (0)))) ((show A16 7 = (updA A 7 (0) ((adI (v11) (1)))) 7 from (eA16 7))))) (A21 9) (rfl) (show 0 ≤ (u2_1) ∧ (u2_1) ≤ (n3) ∧ (n3) ≤ 65536 from h2) (show HID (STR (y0) ((u1_1)) (sc ((A 5)) 0 ((u4_1))) (sc ((A 6)) 0 ((u1_1))) (((A 7)) 0) (((upd1 (upd1 (A 7) (0) ((adI (v11) (1)))) (1) ((adI (v15) (0))))) 0)) by assumption) (show HID (((upd1 (upd1 (A 7) (0) ((adI (v11) (1)))) (1) ((adI (v15) (0))))) 1 = w32 (((A 7)) 1 + (if BNA ((w8)) 4 ((u1_1)) < (u2_1) then 1 else 0))) by assumption) (ga21)
    · refine Ew_of (pcₚ := 305) (fun _ => x_iconst rfl) ?_
      refine Ew_of (pcₚ := 309) (fun _ => x_goto rfl rfl) ?_
      refine w_iaddE rfl ?_
      have g22 : inr (adI (v15) (1)) := toI_inr _
      have hs1 : HID (((adI (v15) (1))) = w32 (((A 7)) 1 + (if BNA ((w8)) 4 ((u1_1)) < (u2_1) then 1 else 0))) := by unfold HID; exact BYN hv1 (by decide) (by (have qg0 := HIDe qv15; have qg1 := HIDe r1; have qg2 := HIDe r2; omega)) hbd (by first | exact .inl ⟨by (have qg0 := HIDe qv15; have qg1 := HIDe r1; have qg2 := HIDe r2; omega), rfl⟩ | exact .inr ⟨by (have qg0 := HIDe qv15; have qg1 := HIDe r1; have qg2 := HIDe r2; omega), rfl⟩)
      (try clear hbd)
      refine v_sI H (o := 7) (z := (adI (v15) (1))) rfl rfl rfl rfl (n := n7) (en7) (show 0 ≤ 1 ∧ 1 < n7 from q_4502 h6) (show inr ((adI (v15) (1))) from g22) (fun σ H Oₚ => ?_)
      have O := OUT_trans O Oₚ
      have cAu23 : SA oz_T9hclsl_0 A (updA A16 7 (1) ((adI (v15) (1)))) := SA_upd (cA16) rfl
      have mAu23 := SAm_of cAu23 oz_T9hcls_3
      have : HID (STR (y0) ((u1_1)) (sc ((A 5)) 0 ((u4_1))) (sc ((A 6)) 0 ((u1_1))) (((A 7)) 0) (((upd1 (upd1 (A 7) (0) ((adI (v11) (1)))) (1) ((adI (v15) (1))))) 0)) := by rw [upd1_o (by decide), upd1_s]; exact hs0
      have : HID (((upd1 (upd1 (A 7) (0) ((adI (v11) (1)))) (1) ((adI (v15) (1))))) 1 = w32 (((A 7)) 1 + (if BNA ((w8)) 4 ((u1_1)) < (u2_1) then 1 else 0))) := by rw [upd1_s]; exact hs1
      refine Ew_of (pcₚ := 312) (fun _ => x_iload_n rfl (rk_o (hl3) rfl rfl)) ?_
      refine Ew_of (pcₚ := 313) (fun _ => x_iconst rfl) ?_
      refine w_icmpne (t := 337) rfl rfl (show inr (4) from q_216) (show inr (4) from q_216) (fun b24 => ?_) (fun b24 => ?_)
      · exact absurd b24 (by omega)
      · refine Ew_of (pcₚ := 317) (fun _ => x_aload_n rfl (rk_o (hl0) rfl rfl)) ?_
        refine v_g H (o := 0) (v := .ref (D 10)) rfl rfl rfl rfl rfl (vrf ((mF16 0 11 rfl).trans (pf10))) ?_
        refine v_g H (o := 10) (v := .ref (D 11)) rfl rfl rfl rfl rfl (vrf ((mF16 10 18 rfl).trans (pf11))) ?_
        refine Ew_of (pcₚ := 324) (fun _ => x_iconst rfl) ?_
        refine Ew_of (pcₚ := 325) (fun _ => x_aload_n rfl (rk_o (hl0) rfl rfl)) ?_
        refine v_g H (o := 0) (v := .ref (D 9)) rfl rfl rfl rfl rfl (vrf ((mF16 0 13 rfl).trans (pf9))) ?_
        refine Ew_of (pcₚ := 329) (fun _ => x_iconst rfl) ?_
        refine Ew_of (pcₚ := 330) (fun _ => x_aload_n rfl (rk_o (hl0) rfl rfl)) ?_
        refine v_g H (o := 0) (v := .ref (D 9)) rfl rfl rfl rfl rfl (vrf ((mF16 0 13 rfl).trans (pf9))) ?_
        refine v_len H (o := 9) rfl rfl rfl rfl (n := n9) (en9) ?_
        refine v_cpy H (t := 9) (t0 := 11) rfl rfl rfl rfl rfl rfl rfl rfl (n := n9) (en9) (n0 := n11) (en11) (show 0 ≤ n9 ∧ 0 ≤ 0 ∧ 0 ≤ 0 ∧ 0 + n9 ≤ n11 ∧ 0 + n9 ≤ n9 from q_4920 (HIDe r9) h11 h12) (fun σ A25 H Oₚ hA25 ga25 gb25 => ?_)
        have gb25 : ∀ i, i < 0 ∨ 0 + n9 ≤ i → A25 9 i = (A 9) i := fun i a => (gb25 i a).trans (congrFun ((show A16 9 = (updA A 7 (0) ((adI (v11) (1)))) 9 from (eA16 9))) i)
        have ga25 : ∀ i, 0 ≤ i → i < 0 + n9 → A25 9 i = (A 11) (0 + (i - 0)) := fun i a b => (ga25 i a b).trans (congrFun (funext (mAu23 11 rfl)) _)
        have O := OUT_trans O Oₚ
        have cA25 : SA oz_T9hclsl_0 A A25 := SA_trans (cAu23) hA25 (any_subA (by decide +kernel))
        have mA25 := SAm_of cA25 oz_T9hcls_3
        exact hc337  _ _ _ _  (rk_o (hl0) rfl rfl) (rk_o (hl1) rfl rfl) H O (SF_trans (SF_refl) (SF_gluc (ι := oz_T9hclsl_2) oz_T9hcls_5 hS16 eF16 (by decide +kernel)) (any_sub (lₚ := []) (by decide +kernel))) (SA_trans (SA_upd (SA_trans (SA_upd (SA_refl) rfl) (SA_gluc (ι := oz_T9hclsl_2) oz_T9hcls_5 hA16 eA16 (by decide +kernel)) (any_subA (lₚ := []) (by decide +kernel))) rfl) hA25 (any_subA (by decide +kernel)))    (upd1 (upd1 (A 7) (0) ((adI (v11) (1)))) (1) ((adI (v15) (1)))) ((funext (hA25 7 rfl)).trans (congrArg (fun q => upd1 q (1) ((adI (v15) (1)))) ((show A16 7 = (updA A 7 (0) ((adI (v11) (1)))) 7 from (eA16 7))))) (A25 9) (rfl) (show 0 ≤ (u2_1) ∧ (u2_1) ≤ (n3) ∧ (n3) ≤ 65536 from h2) (show HID (STR (y0) ((u1_1)) (sc ((A 5)) 0 ((u4_1))) (sc ((A 6)) 0 ((u1_1))) (((A 7)) 0) (((upd1 (upd1 (A 7) (0) ((adI (v11) (1)))) (1) ((adI (v15) (1))))) 0)) by assumption) (show HID (((upd1 (upd1 (A 7) (0) ((adI (v11) (1)))) (1) ((adI (v15) (1))))) 1 = w32 (((A 7)) 1 + (if BNA ((w8)) 4 ((u1_1)) < (u2_1) then 1 else 0))) by assumption) (ga25)
  · refine Ew_of (pcₚ := 259) (fun _ => x_aload_n rfl (rk_o (hl0) rfl rfl)) ?_
    refine v_g H (o := 0) (v := .ref (D 4)) rfl rfl rfl rfl rfl (vrf (pf4)) ?_
    refine Ew_of (pcₚ := 264) (fun _ => x_aload rfl (rk_o (hl4) rfl rfl)) ?_
    refine w_stat24 rfl rfl (by rfl) (C29_Row_Rowp (D := puc 806617604 D) (N := puc 806617604 N) (HW_subc H oz_T9hcls_2 oz_T9hcls_6) (pf5) (pf6) (n5) (en5) (n6) (en6) (u4_1) ((eu4_1)) (u1_1) ((eu1_1)) (A 5) (rfl) (A 6) (rfl) (show 0 ≤ (u4_1) ∧ (u4_1) ≤ (n5) ∧ (n5) ≤ 65536 from h3) (show 0 ≤ (u1_1) ∧ (u1_1) ≤ (n6) ∧ (n6) ≤ 65536 from h4) (fun z26 σ26 F26ₚ A26ₚ Hₚ Oₚ hS26 hA26 pz26_0 pz26_1 => ⟨rfl, ?_⟩))
    refine v_backc (c := c) (s := s) H oz_T9hcls_2 oz_T9hcls_6 Hₚ Oₚ (fun F26 A26 H Oₚ eF26 eA26 => ?_)
    have O := OUT_trans O Oₚ
    -- PackHouse.firstUnlike
    have cF26 : SF oz_T9hclsl_1 F F26 := SF_trans (SF_refl) (SF_gluc (ι := oz_T9hclsl_3) oz_T9hcls_6 hS26 eF26 (by decide +kernel)) (any_sub (lₚ := []) (by decide +kernel))
    have mF26 := SFm_of cF26 oz_T9hcls_4
    have cA26 : SA oz_T9hclsl_0 A A26 := SA_trans (SA_refl) (SA_gluc (ι := oz_T9hclsl_3) oz_T9hcls_6 hA26 eA26 (by decide +kernel)) (any_subA (lₚ := []) (by decide +kernel))
    have mA26 := SAm_of cA26 oz_T9hcls_3
    refine w_ifge (t := 274) rfl rfl (show inr (z26) from pz26_0) (fun b27 => ?_) (fun b27 => ?_)
    · refine Ew_of (pcₚ := 275) (fun _ => x_iconst rfl) ?_
      refine w_iaddE rfl ?_
      have g28 : inr (adI (v11) (1)) := toI_inr _
      have hs0 : HID (STR (y0) ((u1_1)) (sc ((A 5)) 0 ((u4_1))) (sc ((A 6)) 0 ((u1_1))) (((A 7)) 0) (((adI (v11) (1))))) := by unfold HID; first | exact STR_n hv0 (by (have qg0 := HIDe qv11; have qg1 := HIDe r1; have qg2 := HIDe r3; omega)) | exact STR_u hv0 pz26_1 (by (have qg0 := HIDe qv11; have qg1 := HIDe r1; have qg2 := HIDe r3; omega)) | exact STR_y hv0 (by (have qg0 := HIDe qv11; have qg1 := HIDe r1; have qg2 := HIDe r3; omega)) pz26_1 (by (have qg0 := HIDe qv11; have qg1 := HIDe r1; have qg2 := HIDe r3; omega))
      refine v_sI H (o := 7) (z := (adI (v11) (1))) rfl rfl rfl rfl (n := n7) (en7) (show 0 ≤ 0 ∧ 0 < n7 from q_4457 (HIDe r7) h6) (show inr ((adI (v11) (1))) from g28) (fun σ H Oₚ => ?_)
      have O := OUT_trans O Oₚ
      have cAu29 : SA oz_T9hclsl_0 A (updA A26 7 (0) ((adI (v11) (1)))) := SA_upd (cA26) rfl
      have mAu29 := SAm_of cAu29 oz_T9hcls_3
      refine Ew_of (pcₚ := 278) (fun _ => x_aload_n rfl (rk_o (hl0) rfl rfl)) ?_
      refine v_g H (o := 0) (v := .ref (D 7)) rfl rfl rfl rfl rfl (vrf ((mF26 0 16 rfl).trans (pf7))) ?_
      refine Ew_of (pcₚ := 282) (fun _ => x_iconst rfl) ?_
      refine Ew_of (pcₚ := 283) (fun _ => x_dup2 rfl rfl rfl) ?_
      refine v_lI H (o := 7) rfl rfl rfl rfl (n := n7) (en7) (show 0 ≤ 1 ∧ 1 < n7 from q_4502 h6) (fun v30 ev30 (qv30 : HID _) => ?_)
      have ev30 : (upd1 (A 7) (0) ((adI (v11) (1)))) (1) = v30 := (congrFun (congrArg (fun q => upd1 q (0) ((adI (v11) (1)))) ((show A26 7 = A 7 from (eA26 7)))) (1)).symm.trans ev30
      have hv1 : ((A 7)) 1 = (v30) := by have h := ev30; first | exact h | (rw [upd1_o (by decide)] at h; exact h)
      refine Ew_of (pcₚ := 285) (fun _ => x_aload_n rfl (rk_o (hl0) rfl rfl)) ?_
      refine v_g H (o := 0) (v := .ref (D 2)) rfl rfl rfl rfl rfl (vrf ((mF26 0 5 rfl).trans (pf2))) ?_
      refine v_g H (o := 2) (v := I (u2_1)) rfl rfl rfl rfl rfl (congrArg (fun z : Int => I z) (((mF26 2 1 rfl).trans (eu2_1)) : F26 2 1 = u2_1)) ?_
      refine Ew_of (pcₚ := 292) (fun _ => x_aload_n rfl (rk_o (hl0) rfl rfl)) ?_
      refine Ew_of (pcₚ := 293) (fun _ => x_iload_n rfl (rk_o (hl3) rfl rfl)) ?_
      refine Ew_of (pcₚ := 295) (fun _ => x_aload rfl (rk_o (hl4) rfl rfl)) ?_
      refine v_g H (o := 1) (v := I (u1_1)) rfl rfl rfl rfl rfl (congrArg (fun z : Int => I z) (((mF26 1 1 rfl).trans (eu1_1)) : F26 1 1 = u1_1)) ?_
      refine v_inv H (o := 0) rfl rfl rfl rfl rfl rfl (by rfl) (C34x (D := puc 4096 D) (N := puc 4096 N) (HW_subc H oz_T9hcls_1 oz_T9hcls_5) ((mF26 0 1 rfl).trans (pf8)) (n8) (en8) (w8) ((funext (mAu29 8 rfl)).trans (ew8)) (show inr (4) from q_216) (show inr (u1_1) from q_3477 h4 h5) (show 0 ≤ (u1_1) ∧ (u1_1) ≤ 16384 from q_4843 h4 h5) (show 0 ≤ (4) ∧ (4) ≤ 5 from q_5073) (show 1 ≤ ((w8)) 2 ∧ ((w8)) 2 ≤ 65536 from h7) (show 0 ≤ ((w8)) 8 ∧ ((w8)) 8 ≤ 11 from h8) (show 0 ≤ ((w8)) 6 ∧ ((w8)) 6 ≤ 255 from h9) (show (n8) = 10 from h10) (fun z31 σ31 F31ₚ A31ₚ Hₚ Oₚ hS31 hA31 pz31_0 pz31_1 => ⟨rfl, ?_⟩))
      refine v_backc (c := c) (s := s) H oz_T9hcls_1 oz_T9hcls_5 Hₚ Oₚ (fun F31 A31 H Oₚ eF31 eA31 => ?_)
      have O := OUT_trans O Oₚ
      -- PackHouse.boundOf
      have cF31 : SF oz_T9hclsl_1 F F31 := SF_trans (cF26) (SF_gluc (ι := oz_T9hclsl_2) oz_T9hcls_5 hS31 eF31 (by decide +kernel)) (any_sub (lₚ := []) (by decide +kernel))
      have mF31 := SFm_of cF31 oz_T9hcls_4
      have cA31 : SA oz_T9hclsl_0 A A31 := SA_trans (cAu29) (SA_gluc (ι := oz_T9hclsl_2) oz_T9hcls_5 hA31 eA31 (by decide +kernel)) (any_subA (lₚ := []) (by decide +kernel))
      have mA31 := SAm_of cA31 oz_T9hcls_3
      have hbd := pz31_1
      (try clear pz31_1)
      refine w_icmple (t := 308) rfl rfl (show inr (u2_1) from q_38 h2) (show inr (z31) from pz31_0) (fun b32 => ?_) (fun b32 => ?_)
      · refine Ew_of (pcₚ := 309) (fun _ => x_iconst rfl) ?_
        refine w_iaddE rfl ?_
        have g33 : inr (adI (v30) (0)) := toI_inr _
        have hs1 : HID (((adI (v30) (0))) = w32 (((A 7)) 1 + (if BNA ((w8)) 4 ((u1_1)) < (u2_1) then 1 else 0))) := by unfold HID; exact BYN hv1 (by decide) (by (have qg0 := HIDe qv30; have qg1 := HIDe r1; have qg2 := HIDe r2; omega)) hbd (by first | exact .inl ⟨by (have qg0 := HIDe qv30; have qg1 := HIDe r1; have qg2 := HIDe r2; omega), rfl⟩ | exact .inr ⟨by (have qg0 := HIDe qv30; have qg1 := HIDe r1; have qg2 := HIDe r2; omega), rfl⟩)
        (try clear hbd)
        refine v_sI H (o := 7) (z := (adI (v30) (0))) rfl rfl rfl rfl (n := n7) (en7) (show 0 ≤ 1 ∧ 1 < n7 from q_4502 h6) (show inr ((adI (v30) (0))) from g33) (fun σ H Oₚ => ?_)
        have O := OUT_trans O Oₚ
        have cAu34 : SA oz_T9hclsl_0 A (updA A31 7 (1) ((adI (v30) (0)))) := SA_upd (cA31) rfl
        have mAu34 := SAm_of cAu34 oz_T9hcls_3
        have : HID (STR (y0) ((u1_1)) (sc ((A 5)) 0 ((u4_1))) (sc ((A 6)) 0 ((u1_1))) (((A 7)) 0) (((upd1 (upd1 (A 7) (0) ((adI (v11) (1)))) (1) ((adI (v30) (0))))) 0)) := by rw [upd1_o (by decide), upd1_s]; exact hs0
        have : HID (((upd1 (upd1 (A 7) (0) ((adI (v11) (1)))) (1) ((adI (v30) (0))))) 1 = w32 (((A 7)) 1 + (if BNA ((w8)) 4 ((u1_1)) < (u2_1) then 1 else 0))) := by rw [upd1_s]; exact hs1
        refine Ew_of (pcₚ := 312) (fun _ => x_iload_n rfl (rk_o (hl3) rfl rfl)) ?_
        refine Ew_of (pcₚ := 313) (fun _ => x_iconst rfl) ?_
        refine w_icmpne (t := 337) rfl rfl (show inr (4) from q_216) (show inr (4) from q_216) (fun b35 => ?_) (fun b35 => ?_)
        · exact absurd b35 (by omega)
        · refine Ew_of (pcₚ := 317) (fun _ => x_aload_n rfl (rk_o (hl0) rfl rfl)) ?_
          refine v_g H (o := 0) (v := .ref (D 10)) rfl rfl rfl rfl rfl (vrf ((mF31 0 11 rfl).trans (pf10))) ?_
          refine v_g H (o := 10) (v := .ref (D 11)) rfl rfl rfl rfl rfl (vrf ((mF31 10 18 rfl).trans (pf11))) ?_
          refine Ew_of (pcₚ := 324) (fun _ => x_iconst rfl) ?_
          refine Ew_of (pcₚ := 325) (fun _ => x_aload_n rfl (rk_o (hl0) rfl rfl)) ?_
          refine v_g H (o := 0) (v := .ref (D 9)) rfl rfl rfl rfl rfl (vrf ((mF31 0 13 rfl).trans (pf9))) ?_
          refine Ew_of (pcₚ := 329) (fun _ => x_iconst rfl) ?_
          refine Ew_of (pcₚ := 330) (fun _ => x_aload_n rfl (rk_o (hl0) rfl rfl)) ?_
          refine v_g H (o := 0) (v := .ref (D 9)) rfl rfl rfl rfl rfl (vrf ((mF31 0 13 rfl).trans (pf9))) ?_
          refine v_len H (o := 9) rfl rfl rfl rfl (n := n9) (en9) ?_
          refine v_cpy H (t := 9) (t0 := 11) rfl rfl rfl rfl rfl rfl rfl rfl (n := n9) (en9) (n0 := n11) (en11) (show 0 ≤ n9 ∧ 0 ≤ 0 ∧ 0 ≤ 0 ∧ 0 + n9 ≤ n11 ∧ 0 + n9 ≤ n9 from q_4920 (HIDe r9) h11 h12) (fun σ A36 H Oₚ hA36 ga36 gb36 => ?_)
          have gb36 : ∀ i, i < 0 ∨ 0 + n9 ≤ i → A36 9 i = (A 9) i := fun i a => (gb36 i a).trans (congrFun (((show A31 9 = (updA A26 7 (0) ((adI (v11) (1)))) 9 from (eA31 9))).trans ((show A26 9 = A 9 from (eA26 9)))) i)
          have ga36 : ∀ i, 0 ≤ i → i < 0 + n9 → A36 9 i = (A 11) (0 + (i - 0)) := fun i a b => (ga36 i a b).trans (congrFun (funext (mAu34 11 rfl)) _)
          have O := OUT_trans O Oₚ
          have cA36 : SA oz_T9hclsl_0 A A36 := SA_trans (cAu34) hA36 (any_subA (by decide +kernel))
          have mA36 := SAm_of cA36 oz_T9hcls_3
          exact hc337  _ _ _ _  (rk_o (hl0) rfl rfl) (rk_o (hl1) rfl rfl) H O (SF_trans (SF_trans (SF_refl) (SF_gluc (ι := oz_T9hclsl_3) oz_T9hcls_6 hS26 eF26 (by decide +kernel)) (any_sub (lₚ := []) (by decide +kernel))) (SF_gluc (ι := oz_T9hclsl_2) oz_T9hcls_5 hS31 eF31 (by decide +kernel)) (any_sub (lₚ := []) (by decide +kernel))) (SA_trans (SA_upd (SA_trans (SA_upd (SA_trans (SA_refl) (SA_gluc (ι := oz_T9hclsl_3) oz_T9hcls_6 hA26 eA26 (by decide +kernel)) (any_subA (lₚ := []) (by decide +kernel))) rfl) (SA_gluc (ι := oz_T9hclsl_2) oz_T9hcls_5 hA31 eA31 (by decide +kernel)) (any_subA (lₚ := []) (by decide +kernel))) rfl) hA36 (any_subA (by decide +kernel)))    (upd1 (upd1 (A 7) (0) ((adI (v11) (1)))) (1) ((adI (v30) (0)))) ((funext (hA36 7 rfl)).trans (congrArg (fun q => upd1 q (1) ((adI (v30) (0)))) (((show A31 7 = (updA A26 7 (0) ((adI (v11) (1)))) 7 from (eA31 7))).trans (congrArg (fun q => upd1 q (0) ((adI (v11) (1)))) ((show A26 7 = A 7 from (eA26 7))))))) (A36 9) (rfl) (show 0 ≤ (u2_1) ∧ (u2_1) ≤ (n3) ∧ (n3) ≤ 65536 from h2) (show HID (STR (y0) ((u1_1)) (sc ((A 5)) 0 ((u4_1))) (sc ((A 6)) 0 ((u1_1))) (((A 7)) 0) (((upd1 (upd1 (A 7) (0) ((adI (v11) (1)))) (1) ((adI (v30) (0))))) 0)) by assumption) (show HID (((upd1 (upd1 (A 7) (0) ((adI (v11) (1)))) (1) ((adI (v30) (0))))) 1 = w32 (((A 7)) 1 + (if BNA ((w8)) 4 ((u1_1)) < (u2_1) then 1 else 0))) by assumption) (ga36)
      · refine Ew_of (pcₚ := 305) (fun _ => x_iconst rfl) ?_
        refine Ew_of (pcₚ := 309) (fun _ => x_goto rfl rfl) ?_
        refine w_iaddE rfl ?_
        have g37 : inr (adI (v30) (1)) := toI_inr _
        have hs1 : HID (((adI (v30) (1))) = w32 (((A 7)) 1 + (if BNA ((w8)) 4 ((u1_1)) < (u2_1) then 1 else 0))) := by unfold HID; exact BYN hv1 (by decide) (by (have qg0 := HIDe qv30; have qg1 := HIDe r1; have qg2 := HIDe r2; omega)) hbd (by first | exact .inl ⟨by (have qg0 := HIDe qv30; have qg1 := HIDe r1; have qg2 := HIDe r2; omega), rfl⟩ | exact .inr ⟨by (have qg0 := HIDe qv30; have qg1 := HIDe r1; have qg2 := HIDe r2; omega), rfl⟩)
        (try clear hbd)
        refine v_sI H (o := 7) (z := (adI (v30) (1))) rfl rfl rfl rfl (n := n7) (en7) (show 0 ≤ 1 ∧ 1 < n7 from q_4502 h6) (show inr ((adI (v30) (1))) from g37) (fun σ H Oₚ => ?_)
        have O := OUT_trans O Oₚ
        have cAu38 : SA oz_T9hclsl_0 A (updA A31 7 (1) ((adI (v30) (1)))) := SA_upd (cA31) rfl
        have mAu38 := SAm_of cAu38 oz_T9hcls_3
        have : HID (STR (y0) ((u1_1)) (sc ((A 5)) 0 ((u4_1))) (sc ((A 6)) 0 ((u1_1))) (((A 7)) 0) (((upd1 (upd1 (A 7) (0) ((adI (v11) (1)))) (1) ((adI (v30) (1))))) 0)) := by rw [upd1_o (by decide), upd1_s]; exact hs0
        have : HID (((upd1 (upd1 (A 7) (0) ((adI (v11) (1)))) (1) ((adI (v30) (1))))) 1 = w32 (((A 7)) 1 + (if BNA ((w8)) 4 ((u1_1)) < (u2_1) then 1 else 0))) := by rw [upd1_s]; exact hs1
        refine Ew_of (pcₚ := 312) (fun _ => x_iload_n rfl (rk_o (hl3) rfl rfl)) ?_
        refine Ew_of (pcₚ := 313) (fun _ => x_iconst rfl) ?_
        refine w_icmpne (t := 337) rfl rfl (show inr (4) from q_216) (show inr (4) from q_216) (fun b39 => ?_) (fun b39 => ?_)
        · exact absurd b39 (by omega)
        · refine Ew_of (pcₚ := 317) (fun _ => x_aload_n rfl (rk_o (hl0) rfl rfl)) ?_
          refine v_g H (o := 0) (v := .ref (D 10)) rfl rfl rfl rfl rfl (vrf ((mF31 0 11 rfl).trans (pf10))) ?_
          refine v_g H (o := 10) (v := .ref (D 11)) rfl rfl rfl rfl rfl (vrf ((mF31 10 18 rfl).trans (pf11))) ?_
          refine Ew_of (pcₚ := 324) (fun _ => x_iconst rfl) ?_
          refine Ew_of (pcₚ := 325) (fun _ => x_aload_n rfl (rk_o (hl0) rfl rfl)) ?_
          refine v_g H (o := 0) (v := .ref (D 9)) rfl rfl rfl rfl rfl (vrf ((mF31 0 13 rfl).trans (pf9))) ?_
          refine Ew_of (pcₚ := 329) (fun _ => x_iconst rfl) ?_
          refine Ew_of (pcₚ := 330) (fun _ => x_aload_n rfl (rk_o (hl0) rfl rfl)) ?_
          refine v_g H (o := 0) (v := .ref (D 9)) rfl rfl rfl rfl rfl (vrf ((mF31 0 13 rfl).trans (pf9))) ?_
          refine v_len H (o := 9) rfl rfl rfl rfl (n := n9) (en9) ?_
          refine v_cpy H (t := 9) (t0 := 11) rfl rfl rfl rfl rfl rfl rfl rfl (n := n9) (en9) (n0 := n11) (en11) (show 0 ≤ n9 ∧ 0 ≤ 0 ∧ 0 ≤ 0 ∧ 0 + n9 ≤ n11 ∧ 0 + n9 ≤ n9 from q_4920 (HIDe r9) h11 h12) (fun σ A40 H Oₚ hA40 ga40 gb40 => ?_)
          have gb40 : ∀ i, i < 0 ∨ 0 + n9 ≤ i → A40 9 i = (A 9) i := fun i a => (gb40 i a).trans (congrFun (((show A31 9 = (updA A26 7 (0) ((adI (v11) (1)))) 9 from (eA31 9))).trans ((show A26 9 = A 9 from (eA26 9)))) i)
          have ga40 : ∀ i, 0 ≤ i → i < 0 + n9 → A40 9 i = (A 11) (0 + (i - 0)) := fun i a b => (ga40 i a b).trans (congrFun (funext (mAu38 11 rfl)) _)
          have O := OUT_trans O Oₚ
          have cA40 : SA oz_T9hclsl_0 A A40 := SA_trans (cAu38) hA40 (any_subA (by decide +kernel))
          have mA40 := SAm_of cA40 oz_T9hcls_3
          exact hc337  _ _ _ _  (rk_o (hl0) rfl rfl) (rk_o (hl1) rfl rfl) H O (SF_trans (SF_trans (SF_refl) (SF_gluc (ι := oz_T9hclsl_3) oz_T9hcls_6 hS26 eF26 (by decide +kernel)) (any_sub (lₚ := []) (by decide +kernel))) (SF_gluc (ι := oz_T9hclsl_2) oz_T9hcls_5 hS31 eF31 (by decide +kernel)) (any_sub (lₚ := []) (by decide +kernel))) (SA_trans (SA_upd (SA_trans (SA_upd (SA_trans (SA_refl) (SA_gluc (ι := oz_T9hclsl_3) oz_T9hcls_6 hA26 eA26 (by decide +kernel)) (any_subA (lₚ := []) (by decide +kernel))) rfl) (SA_gluc (ι := oz_T9hclsl_2) oz_T9hcls_5 hA31 eA31 (by decide +kernel)) (any_subA (lₚ := []) (by decide +kernel))) rfl) hA40 (any_subA (by decide +kernel)))    (upd1 (upd1 (A 7) (0) ((adI (v11) (1)))) (1) ((adI (v30) (1)))) ((funext (hA40 7 rfl)).trans (congrArg (fun q => upd1 q (1) ((adI (v30) (1)))) (((show A31 7 = (updA A26 7 (0) ((adI (v11) (1)))) 7 from (eA31 7))).trans (congrArg (fun q => upd1 q (0) ((adI (v11) (1)))) ((show A26 7 = A 7 from (eA26 7))))))) (A40 9) (rfl) (show 0 ≤ (u2_1) ∧ (u2_1) ≤ (n3) ∧ (n3) ≤ 65536 from h2) (show HID (STR (y0) ((u1_1)) (sc ((A 5)) 0 ((u4_1))) (sc ((A 6)) 0 ((u1_1))) (((A 7)) 0) (((upd1 (upd1 (A 7) (0) ((adI (v11) (1)))) (1) ((adI (v30) (1))))) 0)) by assumption) (show HID (((upd1 (upd1 (A 7) (0) ((adI (v11) (1)))) (1) ((adI (v30) (1))))) 1 = w32 (((A 7)) 1 + (if BNA ((w8)) 4 ((u1_1)) < (u2_1) then 1 else 0))) by assumption) (ga40)
    · refine Ew_of (pcₚ := 271) (fun _ => x_iconst rfl) ?_
      refine Ew_of (pcₚ := 275) (fun _ => x_goto rfl rfl) ?_
      refine w_iaddE rfl ?_
      have g41 : inr (adI (v11) (0)) := toI_inr _
      have hs0 : HID (STR (y0) ((u1_1)) (sc ((A 5)) 0 ((u4_1))) (sc ((A 6)) 0 ((u1_1))) (((A 7)) 0) (((adI (v11) (0))))) := by unfold HID; first | exact STR_n hv0 (by (have qg0 := HIDe qv11; have qg1 := HIDe r1; have qg2 := HIDe r3; omega)) | exact STR_u hv0 pz26_1 (by (have qg0 := HIDe qv11; have qg1 := HIDe r1; have qg2 := HIDe r3; omega)) | exact STR_y hv0 (by (have qg0 := HIDe qv11; have qg1 := HIDe r1; have qg2 := HIDe r3; omega)) pz26_1 (by (have qg0 := HIDe qv11; have qg1 := HIDe r1; have qg2 := HIDe r3; omega))
      refine v_sI H (o := 7) (z := (adI (v11) (0))) rfl rfl rfl rfl (n := n7) (en7) (show 0 ≤ 0 ∧ 0 < n7 from q_4457 (HIDe r7) h6) (show inr ((adI (v11) (0))) from g41) (fun σ H Oₚ => ?_)
      have O := OUT_trans O Oₚ
      have cAu42 : SA oz_T9hclsl_0 A (updA A26 7 (0) ((adI (v11) (0)))) := SA_upd (cA26) rfl
      have mAu42 := SAm_of cAu42 oz_T9hcls_3
      refine Ew_of (pcₚ := 278) (fun _ => x_aload_n rfl (rk_o (hl0) rfl rfl)) ?_
      refine v_g H (o := 0) (v := .ref (D 7)) rfl rfl rfl rfl rfl (vrf ((mF26 0 16 rfl).trans (pf7))) ?_
      refine Ew_of (pcₚ := 282) (fun _ => x_iconst rfl) ?_
      refine Ew_of (pcₚ := 283) (fun _ => x_dup2 rfl rfl rfl) ?_
      refine v_lI H (o := 7) rfl rfl rfl rfl (n := n7) (en7) (show 0 ≤ 1 ∧ 1 < n7 from q_4502 h6) (fun v43 ev43 (qv43 : HID _) => ?_)
      have ev43 : (upd1 (A 7) (0) ((adI (v11) (0)))) (1) = v43 := (congrFun (congrArg (fun q => upd1 q (0) ((adI (v11) (0)))) ((show A26 7 = A 7 from (eA26 7)))) (1)).symm.trans ev43
      have hv1 : ((A 7)) 1 = (v43) := by have h := ev43; first | exact h | (rw [upd1_o (by decide)] at h; exact h)
      refine Ew_of (pcₚ := 285) (fun _ => x_aload_n rfl (rk_o (hl0) rfl rfl)) ?_
      refine v_g H (o := 0) (v := .ref (D 2)) rfl rfl rfl rfl rfl (vrf ((mF26 0 5 rfl).trans (pf2))) ?_
      refine v_g H (o := 2) (v := I (u2_1)) rfl rfl rfl rfl rfl (congrArg (fun z : Int => I z) (((mF26 2 1 rfl).trans (eu2_1)) : F26 2 1 = u2_1)) ?_
      refine Ew_of (pcₚ := 292) (fun _ => x_aload_n rfl (rk_o (hl0) rfl rfl)) ?_
      refine Ew_of (pcₚ := 293) (fun _ => x_iload_n rfl (rk_o (hl3) rfl rfl)) ?_
      refine Ew_of (pcₚ := 295) (fun _ => x_aload rfl (rk_o (hl4) rfl rfl)) ?_
      refine v_g H (o := 1) (v := I (u1_1)) rfl rfl rfl rfl rfl (congrArg (fun z : Int => I z) (((mF26 1 1 rfl).trans (eu1_1)) : F26 1 1 = u1_1)) ?_
      refine v_inv H (o := 0) rfl rfl rfl rfl rfl rfl (by rfl) (C34x (D := puc 4096 D) (N := puc 4096 N) (HW_subc H oz_T9hcls_1 oz_T9hcls_5) ((mF26 0 1 rfl).trans (pf8)) (n8) (en8) (w8) ((funext (mAu42 8 rfl)).trans (ew8)) (show inr (4) from q_216) (show inr (u1_1) from q_3477 h4 h5) (show 0 ≤ (u1_1) ∧ (u1_1) ≤ 16384 from q_4843 h4 h5) (show 0 ≤ (4) ∧ (4) ≤ 5 from q_5073) (show 1 ≤ ((w8)) 2 ∧ ((w8)) 2 ≤ 65536 from h7) (show 0 ≤ ((w8)) 8 ∧ ((w8)) 8 ≤ 11 from h8) (show 0 ≤ ((w8)) 6 ∧ ((w8)) 6 ≤ 255 from h9) (show (n8) = 10 from h10) (fun z44 σ44 F44ₚ A44ₚ Hₚ Oₚ hS44 hA44 pz44_0 pz44_1 => ⟨rfl, ?_⟩))
      refine v_backc (c := c) (s := s) H oz_T9hcls_1 oz_T9hcls_5 Hₚ Oₚ (fun F44 A44 H Oₚ eF44 eA44 => ?_)
      have O := OUT_trans O Oₚ
      -- PackHouse.boundOf
      have cF44 : SF oz_T9hclsl_1 F F44 := SF_trans (cF26) (SF_gluc (ι := oz_T9hclsl_2) oz_T9hcls_5 hS44 eF44 (by decide +kernel)) (any_sub (lₚ := []) (by decide +kernel))
      have mF44 := SFm_of cF44 oz_T9hcls_4
      have cA44 : SA oz_T9hclsl_0 A A44 := SA_trans (cAu42) (SA_gluc (ι := oz_T9hclsl_2) oz_T9hcls_5 hA44 eA44 (by decide +kernel)) (any_subA (lₚ := []) (by decide +kernel))
      have mA44 := SAm_of cA44 oz_T9hcls_3
      have hbd := pz44_1
      (try clear pz44_1)
      refine w_icmple (t := 308) rfl rfl (show inr (u2_1) from q_38 h2) (show inr (z44) from pz44_0) (fun b45 => ?_) (fun b45 => ?_)
      · refine Ew_of (pcₚ := 309) (fun _ => x_iconst rfl) ?_
        refine w_iaddE rfl ?_
        have g46 : inr (adI (v43) (0)) := toI_inr _
        have hs1 : HID (((adI (v43) (0))) = w32 (((A 7)) 1 + (if BNA ((w8)) 4 ((u1_1)) < (u2_1) then 1 else 0))) := by unfold HID; exact BYN hv1 (by decide) (by (have qg0 := HIDe qv43; have qg1 := HIDe r1; have qg2 := HIDe r2; omega)) hbd (by first | exact .inl ⟨by (have qg0 := HIDe qv43; have qg1 := HIDe r1; have qg2 := HIDe r2; omega), rfl⟩ | exact .inr ⟨by (have qg0 := HIDe qv43; have qg1 := HIDe r1; have qg2 := HIDe r2; omega), rfl⟩)
        (try clear hbd)
        refine v_sI H (o := 7) (z := (adI (v43) (0))) rfl rfl rfl rfl (n := n7) (en7) (show 0 ≤ 1 ∧ 1 < n7 from q_4502 h6) (show inr ((adI (v43) (0))) from g46) (fun σ H Oₚ => ?_)
        have O := OUT_trans O Oₚ
        have cAu47 : SA oz_T9hclsl_0 A (updA A44 7 (1) ((adI (v43) (0)))) := SA_upd (cA44) rfl
        have mAu47 := SAm_of cAu47 oz_T9hcls_3
        have : HID (STR (y0) ((u1_1)) (sc ((A 5)) 0 ((u4_1))) (sc ((A 6)) 0 ((u1_1))) (((A 7)) 0) (((upd1 (upd1 (A 7) (0) ((adI (v11) (0)))) (1) ((adI (v43) (0))))) 0)) := by rw [upd1_o (by decide), upd1_s]; exact hs0
        have : HID (((upd1 (upd1 (A 7) (0) ((adI (v11) (0)))) (1) ((adI (v43) (0))))) 1 = w32 (((A 7)) 1 + (if BNA ((w8)) 4 ((u1_1)) < (u2_1) then 1 else 0))) := by rw [upd1_s]; exact hs1
        refine Ew_of (pcₚ := 312) (fun _ => x_iload_n rfl (rk_o (hl3) rfl rfl)) ?_
        refine Ew_of (pcₚ := 313) (fun _ => x_iconst rfl) ?_
        refine w_icmpne (t := 337) rfl rfl (show inr (4) from q_216) (show inr (4) from q_216) (fun b48 => ?_) (fun b48 => ?_)
        · exact absurd b48 (by omega)
        · refine Ew_of (pcₚ := 317) (fun _ => x_aload_n rfl (rk_o (hl0) rfl rfl)) ?_
          refine v_g H (o := 0) (v := .ref (D 10)) rfl rfl rfl rfl rfl (vrf ((mF44 0 11 rfl).trans (pf10))) ?_
          refine v_g H (o := 10) (v := .ref (D 11)) rfl rfl rfl rfl rfl (vrf ((mF44 10 18 rfl).trans (pf11))) ?_
          refine Ew_of (pcₚ := 324) (fun _ => x_iconst rfl) ?_
          refine Ew_of (pcₚ := 325) (fun _ => x_aload_n rfl (rk_o (hl0) rfl rfl)) ?_
          refine v_g H (o := 0) (v := .ref (D 9)) rfl rfl rfl rfl rfl (vrf ((mF44 0 13 rfl).trans (pf9))) ?_
          refine Ew_of (pcₚ := 329) (fun _ => x_iconst rfl) ?_
          refine Ew_of (pcₚ := 330) (fun _ => x_aload_n rfl (rk_o (hl0) rfl rfl)) ?_
          refine v_g H (o := 0) (v := .ref (D 9)) rfl rfl rfl rfl rfl (vrf ((mF44 0 13 rfl).trans (pf9))) ?_
          refine v_len H (o := 9) rfl rfl rfl rfl (n := n9) (en9) ?_
          refine v_cpy H (t := 9) (t0 := 11) rfl rfl rfl rfl rfl rfl rfl rfl (n := n9) (en9) (n0 := n11) (en11) (show 0 ≤ n9 ∧ 0 ≤ 0 ∧ 0 ≤ 0 ∧ 0 + n9 ≤ n11 ∧ 0 + n9 ≤ n9 from q_4920 (HIDe r9) h11 h12) (fun σ A49 H Oₚ hA49 ga49 gb49 => ?_)
          have gb49 : ∀ i, i < 0 ∨ 0 + n9 ≤ i → A49 9 i = (A 9) i := fun i a => (gb49 i a).trans (congrFun (((show A44 9 = (updA A26 7 (0) ((adI (v11) (0)))) 9 from (eA44 9))).trans ((show A26 9 = A 9 from (eA26 9)))) i)
          have ga49 : ∀ i, 0 ≤ i → i < 0 + n9 → A49 9 i = (A 11) (0 + (i - 0)) := fun i a b => (ga49 i a b).trans (congrFun (funext (mAu47 11 rfl)) _)
          have O := OUT_trans O Oₚ
          have cA49 : SA oz_T9hclsl_0 A A49 := SA_trans (cAu47) hA49 (any_subA (by decide +kernel))
          have mA49 := SAm_of cA49 oz_T9hcls_3
          exact hc337  _ _ _ _  (rk_o (hl0) rfl rfl) (rk_o (hl1) rfl rfl) H O (SF_trans (SF_trans (SF_refl) (SF_gluc (ι := oz_T9hclsl_3) oz_T9hcls_6 hS26 eF26 (by decide +kernel)) (any_sub (lₚ := []) (by decide +kernel))) (SF_gluc (ι := oz_T9hclsl_2) oz_T9hcls_5 hS44 eF44 (by decide +kernel)) (any_sub (lₚ := []) (by decide +kernel))) (SA_trans (SA_upd (SA_trans (SA_upd (SA_trans (SA_refl) (SA_gluc (ι := oz_T9hclsl_3) oz_T9hcls_6 hA26 eA26 (by decide +kernel)) (any_subA (lₚ := []) (by decide +kernel))) rfl) (SA_gluc (ι := oz_T9hclsl_2) oz_T9hcls_5 hA44 eA44 (by decide +kernel)) (any_subA (lₚ := []) (by decide +kernel))) rfl) hA49 (any_subA (by decide +kernel)))    (upd1 (upd1 (A 7) (0) ((adI (v11) (0)))) (1) ((adI (v43) (0)))) ((funext (hA49 7 rfl)).trans (congrArg (fun q => upd1 q (1) ((adI (v43) (0)))) (((show A44 7 = (updA A26 7 (0) ((adI (v11) (0)))) 7 from (eA44 7))).trans (congrArg (fun q => upd1 q (0) ((adI (v11) (0)))) ((show A26 7 = A 7 from (eA26 7))))))) (A49 9) (rfl) (show 0 ≤ (u2_1) ∧ (u2_1) ≤ (n3) ∧ (n3) ≤ 65536 from h2) (show HID (STR (y0) ((u1_1)) (sc ((A 5)) 0 ((u4_1))) (sc ((A 6)) 0 ((u1_1))) (((A 7)) 0) (((upd1 (upd1 (A 7) (0) ((adI (v11) (0)))) (1) ((adI (v43) (0))))) 0)) by assumption) (show HID (((upd1 (upd1 (A 7) (0) ((adI (v11) (0)))) (1) ((adI (v43) (0))))) 1 = w32 (((A 7)) 1 + (if BNA ((w8)) 4 ((u1_1)) < (u2_1) then 1 else 0))) by assumption) (ga49)
      · refine Ew_of (pcₚ := 305) (fun _ => x_iconst rfl) ?_
        refine Ew_of (pcₚ := 309) (fun _ => x_goto rfl rfl) ?_
        refine w_iaddE rfl ?_
        have g50 : inr (adI (v43) (1)) := toI_inr _
        have hs1 : HID (((adI (v43) (1))) = w32 (((A 7)) 1 + (if BNA ((w8)) 4 ((u1_1)) < (u2_1) then 1 else 0))) := by unfold HID; exact BYN hv1 (by decide) (by (have qg0 := HIDe qv43; have qg1 := HIDe r1; have qg2 := HIDe r2; omega)) hbd (by first | exact .inl ⟨by (have qg0 := HIDe qv43; have qg1 := HIDe r1; have qg2 := HIDe r2; omega), rfl⟩ | exact .inr ⟨by (have qg0 := HIDe qv43; have qg1 := HIDe r1; have qg2 := HIDe r2; omega), rfl⟩)
        (try clear hbd)
        refine v_sI H (o := 7) (z := (adI (v43) (1))) rfl rfl rfl rfl (n := n7) (en7) (show 0 ≤ 1 ∧ 1 < n7 from q_4502 h6) (show inr ((adI (v43) (1))) from g50) (fun σ H Oₚ => ?_)
        have O := OUT_trans O Oₚ
        have cAu51 : SA oz_T9hclsl_0 A (updA A44 7 (1) ((adI (v43) (1)))) := SA_upd (cA44) rfl
        have mAu51 := SAm_of cAu51 oz_T9hcls_3
        have : HID (STR (y0) ((u1_1)) (sc ((A 5)) 0 ((u4_1))) (sc ((A 6)) 0 ((u1_1))) (((A 7)) 0) (((upd1 (upd1 (A 7) (0) ((adI (v11) (0)))) (1) ((adI (v43) (1))))) 0)) := by rw [upd1_o (by decide), upd1_s]; exact hs0
        have : HID (((upd1 (upd1 (A 7) (0) ((adI (v11) (0)))) (1) ((adI (v43) (1))))) 1 = w32 (((A 7)) 1 + (if BNA ((w8)) 4 ((u1_1)) < (u2_1) then 1 else 0))) := by rw [upd1_s]; exact hs1
        refine Ew_of (pcₚ := 312) (fun _ => x_iload_n rfl (rk_o (hl3) rfl rfl)) ?_
        refine Ew_of (pcₚ := 313) (fun _ => x_iconst rfl) ?_
        refine w_icmpne (t := 337) rfl rfl (show inr (4) from q_216) (show inr (4) from q_216) (fun b52 => ?_) (fun b52 => ?_)
        · exact absurd b52 (by omega)
        · refine Ew_of (pcₚ := 317) (fun _ => x_aload_n rfl (rk_o (hl0) rfl rfl)) ?_
          refine v_g H (o := 0) (v := .ref (D 10)) rfl rfl rfl rfl rfl (vrf ((mF44 0 11 rfl).trans (pf10))) ?_
          refine v_g H (o := 10) (v := .ref (D 11)) rfl rfl rfl rfl rfl (vrf ((mF44 10 18 rfl).trans (pf11))) ?_
          refine Ew_of (pcₚ := 324) (fun _ => x_iconst rfl) ?_
          refine Ew_of (pcₚ := 325) (fun _ => x_aload_n rfl (rk_o (hl0) rfl rfl)) ?_
          refine v_g H (o := 0) (v := .ref (D 9)) rfl rfl rfl rfl rfl (vrf ((mF44 0 13 rfl).trans (pf9))) ?_
          refine Ew_of (pcₚ := 329) (fun _ => x_iconst rfl) ?_
          refine Ew_of (pcₚ := 330) (fun _ => x_aload_n rfl (rk_o (hl0) rfl rfl)) ?_
          refine v_g H (o := 0) (v := .ref (D 9)) rfl rfl rfl rfl rfl (vrf ((mF44 0 13 rfl).trans (pf9))) ?_
          refine v_len H (o := 9) rfl rfl rfl rfl (n := n9) (en9) ?_
          refine v_cpy H (t := 9) (t0 := 11) rfl rfl rfl rfl rfl rfl rfl rfl (n := n9) (en9) (n0 := n11) (en11) (show 0 ≤ n9 ∧ 0 ≤ 0 ∧ 0 ≤ 0 ∧ 0 + n9 ≤ n11 ∧ 0 + n9 ≤ n9 from q_4920 (HIDe r9) h11 h12) (fun σ A53 H Oₚ hA53 ga53 gb53 => ?_)
          have gb53 : ∀ i, i < 0 ∨ 0 + n9 ≤ i → A53 9 i = (A 9) i := fun i a => (gb53 i a).trans (congrFun (((show A44 9 = (updA A26 7 (0) ((adI (v11) (0)))) 9 from (eA44 9))).trans ((show A26 9 = A 9 from (eA26 9)))) i)
          have ga53 : ∀ i, 0 ≤ i → i < 0 + n9 → A53 9 i = (A 11) (0 + (i - 0)) := fun i a b => (ga53 i a b).trans (congrFun (funext (mAu51 11 rfl)) _)
          have O := OUT_trans O Oₚ
          have cA53 : SA oz_T9hclsl_0 A A53 := SA_trans (cAu51) hA53 (any_subA (by decide +kernel))
          have mA53 := SAm_of cA53 oz_T9hcls_3
          exact hc337  _ _ _ _  (rk_o (hl0) rfl rfl) (rk_o (hl1) rfl rfl) H O (SF_trans (SF_trans (SF_refl) (SF_gluc (ι := oz_T9hclsl_3) oz_T9hcls_6 hS26 eF26 (by decide +kernel)) (any_sub (lₚ := []) (by decide +kernel))) (SF_gluc (ι := oz_T9hclsl_2) oz_T9hcls_5 hS44 eF44 (by decide +kernel)) (any_sub (lₚ := []) (by decide +kernel))) (SA_trans (SA_upd (SA_trans (SA_upd (SA_trans (SA_refl) (SA_gluc (ι := oz_T9hclsl_3) oz_T9hcls_6 hA26 eA26 (by decide +kernel)) (any_subA (lₚ := []) (by decide +kernel))) rfl) (SA_gluc (ι := oz_T9hclsl_2) oz_T9hcls_5 hA44 eA44 (by decide +kernel)) (any_subA (lₚ := []) (by decide +kernel))) rfl) hA53 (any_subA (by decide +kernel)))    (upd1 (upd1 (A 7) (0) ((adI (v11) (0)))) (1) ((adI (v43) (1)))) ((funext (hA53 7 rfl)).trans (congrArg (fun q => upd1 q (1) ((adI (v43) (1)))) (((show A44 7 = (updA A26 7 (0) ((adI (v11) (0)))) 7 from (eA44 7))).trans (congrArg (fun q => upd1 q (0) ((adI (v11) (0)))) ((show A26 7 = A 7 from (eA26 7))))))) (A53 9) (rfl) (show 0 ≤ (u2_1) ∧ (u2_1) ≤ (n3) ∧ (n3) ≤ 65536 from h2) (show HID (STR (y0) ((u1_1)) (sc ((A 5)) 0 ((u4_1))) (sc ((A 6)) 0 ((u1_1))) (((A 7)) 0) (((upd1 (upd1 (A 7) (0) ((adI (v11) (0)))) (1) ((adI (v43) (1))))) 0)) by assumption) (show HID (((upd1 (upd1 (A 7) (0) ((adI (v11) (0)))) (1) ((adI (v43) (1))))) 1 = w32 (((A 7)) 1 + (if BNA ((w8)) 4 ((u1_1)) < (u2_1) then 1 else 0))) by assumption) (ga53)
abbrev V17_vE5 : vV := [(0, 0, [(4, 0), (4, 0), (4, 0), (4, 0), (4, 0), (4, 0), (4, 0), (4, 0), (4, 0), (4, 0), (4, 0), (4, 0), (4, 0), (4, 0), (4, 0), (4, 0), (4, 0), (0, 0), (0, 0)]), (0, 7, [(4, 0), (0, 0), (1, 0), (0, 0), (0, 0)]), (0, 7, [(4, 0), (0, 0), (1, 0), (0, 0), (0, 0)]), (1, 0, []), (1, 0, []), (1, 1, []), (1, 1, [])]
theorem len_V17_vE5_oz_T9hcls : (V17_vE5).length = 7 := by decide +kernel
theorem oz_T9hcls_8 : vsub V17_vE5 V34 [0, 6] = true := by decide +kernel
def oz_T9hclsl_4 : List Nat := [5]
theorem oz_T9hcls_9 : (oz_T9hclsl_4).all (fun p => !tbz 32 p) = true := by decide +kernel
def oz_T9hclsl_5 : List Nat := [0, 6]
theorem oz_T9hcls_10 : okc oz_T9hclsl_5 3072 = true := by decide +kernel

theorem C17_vE5 {σE : rS} {D N : Nat → Nat} {F : hF} {A : hA} {d c s : Nat} {Q : wQ} (H : HW V17_vE5 σE D N F A) {x1 : Int} (pf2 : HID (F 0 5 = (D 2 : Int))) (pf3 : HID (F 2 0 = (D 3 : Int))) (pf4 : HID (F 1 0 = (D 4 : Int))) (pf5 : HID (F 0 16 = (D 5 : Int))) (pf6 : HID (F 0 1 = (D 6 : Int))) (n3 : Int) (en3 : HID ((N 3 : Int) = n3)) (n4 : Int) (en4 : HID ((N 4 : Int) = n4)) (n5 : Int) (en5 : HID ((N 5 : Int) = n5)) (n6 : Int) (en6 : HID ((N 6 : Int) = n6)) (u1_1 : Int) (eu1_1 : HID (F 1 1 = u1_1)) (u2_1 : Int) (eu2_1 : HID (F 2 1 = u2_1)) (w6 : Int → Int) (ew6 : A 6 = w6) {ls : rO} (hl0 : rlook ls 0 = some (.ref (D 0))) (hl1 : rlook ls 1 = some (I (x1))) (hl3 : rlook ls 3 = some (I (5))) (hl4 : rlook ls 4 = some (.ref (D 1))) (h0 : inr (x1)) (h1 : 0 ≤ (u2_1) ∧ (u2_1) ≤ (n3) ∧ (n3) ≤ 65536) (h2 : 0 ≤ (u1_1) ∧ (u1_1) ≤ (n4) ∧ (n4) ≤ 65536) (h3 : (u1_1) ≤ 16384) (h4 : (n5) = 2) (h5 : 1 ≤ ((w6)) 2 ∧ ((w6)) 2 ≤ 65536) (h6 : 0 ≤ ((w6)) 8 ∧ ((w6)) 8 ≤ 11) (h7 : 0 ≤ ((w6)) 6 ∧ ((w6)) 6 ≤ 255) (h8 : (n6) = 10) (hc337 : ∀ (ls : rO) (σ : rS) (F_c337 : hF) (A_c337 : hA) , rlook ls 0 = some (.ref (D 0)) → rlook ls 1 = some (I (x1)) → HW V17_vE5 σ D N F_c337 A_c337 → OUT (V17_vE5).length D N σE c s D N σ c s → SF [] F F_c337 → SA [5] A A_c337 → ∀ wc337_5 : Int → Int, A_c337 5 = wc337_5 → (0 ≤ (u2_1) ∧ (u2_1) ≤ (n3) ∧ (n3) ≤ 65536) → (((wc337_5)) 0 = ((A 5)) 0) → (HID (((wc337_5)) 1 = w32 (((A 5)) 1 + (if BNA ((w6)) 5 ((u1_1)) < (u2_1) then 1 else 0)))) → Ew 17 (d + 3) 337 ls [] σ c s Q) (k : ∀ (z : Int) (σ : rS) (Fₚ : hF) (Aₚ : hA), HW V17_vE5 σ D N Fₚ Aₚ → OUT (V17_vE5).length D N σE c s D N σ c s → SF [] F Fₚ → SA [5] A Aₚ → (inr (z)) → ((0 : Int) = 1) → Q (some (I z)) σ c s) : Ew 17 (d + 3) 277 ls [] σE c s Q := by
  have O := OUT_refl (n := (V17_vE5).length) (D := D) (N := N) (σ := σE) (c := c) (s := s)
  have HE := H
  have r1 : HID ((-2147483648 : Int) ≤ u1_1 ∧ u1_1 ≤ 2147483647) := krg_e (show (-2147483648 : Int) ≤ F 1 1 ∧ F 1 1 ≤ 2147483647 from H.krg 1 1 (ltn len_V17_vE5_oz_T9hcls rfl)) (show F 1 1 = u1_1 from (eu1_1))
  have r2 : HID ((-2147483648 : Int) ≤ u2_1 ∧ u2_1 ≤ 2147483647) := krg_e (show (-2147483648 : Int) ≤ F 2 1 ∧ F 2 1 ≤ 2147483647 from H.krg 2 1 (ltn len_V17_vE5_oz_T9hcls rfl)) (show F 2 1 = u2_1 from (eu2_1))
  refine Ew_of (pcₚ := 278) (fun _ => x_aload_n rfl hl0) ?_
  refine v_g H (o := 0) (v := .ref (D 5)) rfl rfl rfl rfl rfl (vrf (pf5)) ?_
  refine Ew_of (pcₚ := 282) (fun _ => x_iconst rfl) ?_
  refine Ew_of (pcₚ := 283) (fun _ => x_dup2 rfl rfl rfl) ?_
  refine v_lI H (o := 5) rfl rfl rfl rfl (n := n5) (en5) (show 0 ≤ 1 ∧ 1 < n5 from q_4502 h4) (fun v7 ev7 (qv7 : HID _) => ?_)
  have ev7 : (A 5) (1) = v7 := (congrFun (rfl : A 5 = A 5) (1)).symm.trans ev7
  have hv1 : ((A 5)) 1 = (v7) := by have h := ev7; first | exact h | (rw [upd1_o (by decide)] at h; exact h)
  refine Ew_of (pcₚ := 285) (fun _ => x_aload_n rfl hl0) ?_
  refine v_g H (o := 0) (v := .ref (D 2)) rfl rfl rfl rfl rfl (vrf (pf2)) ?_
  refine v_g H (o := 2) (v := I (u2_1)) rfl rfl rfl rfl rfl (congrArg (fun z : Int => I z) ((eu2_1) : F 2 1 = u2_1)) ?_
  refine Ew_of (pcₚ := 292) (fun _ => x_aload_n rfl hl0) ?_
  refine Ew_of (pcₚ := 293) (fun _ => x_iload_n rfl hl3) ?_
  refine Ew_of (pcₚ := 295) (fun _ => x_aload rfl hl4) ?_
  refine v_g H (o := 1) (v := I (u1_1)) rfl rfl rfl rfl rfl (congrArg (fun z : Int => I z) ((eu1_1) : F 1 1 = u1_1)) ?_
  refine v_inv H (o := 0) rfl rfl rfl rfl rfl rfl (by rfl) (C34x (D := puc 3072 D) (N := puc 3072 N) (HW_subc H oz_T9hcls_8 oz_T9hcls_10) (pf6) (n6) (en6) (w6) (ew6) (show inr (5) from q_727) (show inr (u1_1) from q_3477 h2 h3) (show 0 ≤ (u1_1) ∧ (u1_1) ≤ 16384 from q_4843 h2 h3) (show 0 ≤ (5) ∧ (5) ≤ 5 from q_5074) (show 1 ≤ ((w6)) 2 ∧ ((w6)) 2 ≤ 65536 from h5) (show 0 ≤ ((w6)) 8 ∧ ((w6)) 8 ≤ 11 from h6) (show 0 ≤ ((w6)) 6 ∧ ((w6)) 6 ≤ 255 from h7) (show (n6) = 10 from h8) (fun z8 σ8 F8ₚ A8ₚ Hₚ Oₚ hS8 hA8 pz8_0 pz8_1 => ⟨rfl, ?_⟩))
  refine v_backc (c := c) (s := s) H oz_T9hcls_8 oz_T9hcls_10 Hₚ Oₚ (fun F8 A8 H Oₚ eF8 eA8 => ?_)
  have O := OUT_trans O Oₚ
  -- PackHouse.boundOf
  have cF8 : SF oz_T9hclsl_1 F F8 := SF_trans (SF_refl) (SF_gluc (ι := oz_T9hclsl_5) oz_T9hcls_10 hS8 eF8 (by decide +kernel)) (any_sub (lₚ := []) (by decide +kernel))
  have mF8 := SFm_of cF8 oz_T9hcls_4
  have cA8 : SA oz_T9hclsl_4 A A8 := SA_trans (SA_refl) (SA_gluc (ι := oz_T9hclsl_5) oz_T9hcls_10 hA8 eA8 (by decide +kernel)) (any_subA (lₚ := []) (by decide +kernel))
  have mA8 := SAm_of cA8 oz_T9hcls_9
  have hbd := pz8_1
  (try clear pz8_1)
  refine w_icmple (t := 308) rfl rfl (show inr (u2_1) from q_38 h1) (show inr (z8) from pz8_0) (fun b9 => ?_) (fun b9 => ?_)
  · refine Ew_of (pcₚ := 309) (fun _ => x_iconst rfl) ?_
    refine w_iaddE rfl ?_
    have g10 : inr (adI (v7) (0)) := toI_inr _
    have hs1 : HID (((adI (v7) (0))) = w32 (((A 5)) 1 + (if BNA ((w6)) 5 ((u1_1)) < (u2_1) then 1 else 0))) := by unfold HID; exact BYN hv1 (by decide) (by (have qg0 := HIDe qv7; have qg1 := HIDe r1; have qg2 := HIDe r2; omega)) hbd (by first | exact .inl ⟨by (have qg0 := HIDe qv7; have qg1 := HIDe r1; have qg2 := HIDe r2; omega), rfl⟩ | exact .inr ⟨by (have qg0 := HIDe qv7; have qg1 := HIDe r1; have qg2 := HIDe r2; omega), rfl⟩)
    (try clear hbd)
    refine v_sI H (o := 5) (z := (adI (v7) (0))) rfl rfl rfl rfl (n := n5) (en5) (show 0 ≤ 1 ∧ 1 < n5 from q_4502 h4) (show inr ((adI (v7) (0))) from g10) (fun σ H Oₚ => ?_)
    have O := OUT_trans O Oₚ
    have cAu11 : SA oz_T9hclsl_4 A (updA A8 5 (1) ((adI (v7) (0)))) := SA_upd (cA8) rfl
    have mAu11 := SAm_of cAu11 oz_T9hcls_9
    have : ((upd1 (A 5) (1) ((adI (v7) (0))))) 0 = ((A 5)) 0 := upd1_o (by decide)
    have : HID (((upd1 (A 5) (1) ((adI (v7) (0))))) 1 = w32 (((A 5)) 1 + (if BNA ((w6)) 5 ((u1_1)) < (u2_1) then 1 else 0))) := by rw [upd1_s]; exact hs1
    refine Ew_of (pcₚ := 312) (fun _ => x_iload_n rfl hl3) ?_
    refine Ew_of (pcₚ := 313) (fun _ => x_iconst rfl) ?_
    refine w_icmpne (t := 337) rfl rfl (show inr (5) from q_727) (show inr (4) from q_216) (fun b12 => ?_) (fun b12 => ?_)
    · exact hc337  _ _ _ _  (hl0) (hl1) H O (SF_trans (SF_refl) (SF_gluc (ι := oz_T9hclsl_5) oz_T9hcls_10 hS8 eF8 (by decide +kernel)) (any_sub (lₚ := []) (by decide +kernel))) (SA_upd (SA_trans (SA_refl) (SA_gluc (ι := oz_T9hclsl_5) oz_T9hcls_10 hA8 eA8 (by decide +kernel)) (any_subA (lₚ := []) (by decide +kernel))) rfl)    (upd1 (A 5) (1) ((adI (v7) (0)))) (congrArg (fun q => upd1 q (1) ((adI (v7) (0)))) ((show A8 5 = A 5 from (eA8 5)))) (show 0 ≤ (u2_1) ∧ (u2_1) ≤ (n3) ∧ (n3) ≤ 65536 from h1) (show ((upd1 (A 5) (1) ((adI (v7) (0))))) 0 = ((A 5)) 0 by have qh0 := HIDe qv7; omega) (show HID (((upd1 (A 5) (1) ((adI (v7) (0))))) 1 = w32 (((A 5)) 1 + (if BNA ((w6)) 5 ((u1_1)) < (u2_1) then 1 else 0))) by assumption)
    · exact absurd b12 (by omega)
  · refine Ew_of (pcₚ := 305) (fun _ => x_iconst rfl) ?_
    refine Ew_of (pcₚ := 309) (fun _ => x_goto rfl rfl) ?_
    refine w_iaddE rfl ?_
    have g13 : inr (adI (v7) (1)) := toI_inr _
    have hs1 : HID (((adI (v7) (1))) = w32 (((A 5)) 1 + (if BNA ((w6)) 5 ((u1_1)) < (u2_1) then 1 else 0))) := by unfold HID; exact BYN hv1 (by decide) (by (have qg0 := HIDe qv7; have qg1 := HIDe r1; have qg2 := HIDe r2; omega)) hbd (by first | exact .inl ⟨by (have qg0 := HIDe qv7; have qg1 := HIDe r1; have qg2 := HIDe r2; omega), rfl⟩ | exact .inr ⟨by (have qg0 := HIDe qv7; have qg1 := HIDe r1; have qg2 := HIDe r2; omega), rfl⟩)
    (try clear hbd)
    refine v_sI H (o := 5) (z := (adI (v7) (1))) rfl rfl rfl rfl (n := n5) (en5) (show 0 ≤ 1 ∧ 1 < n5 from q_4502 h4) (show inr ((adI (v7) (1))) from g13) (fun σ H Oₚ => ?_)
    have O := OUT_trans O Oₚ
    have cAu14 : SA oz_T9hclsl_4 A (updA A8 5 (1) ((adI (v7) (1)))) := SA_upd (cA8) rfl
    have mAu14 := SAm_of cAu14 oz_T9hcls_9
    have : ((upd1 (A 5) (1) ((adI (v7) (1))))) 0 = ((A 5)) 0 := upd1_o (by decide)
    have : HID (((upd1 (A 5) (1) ((adI (v7) (1))))) 1 = w32 (((A 5)) 1 + (if BNA ((w6)) 5 ((u1_1)) < (u2_1) then 1 else 0))) := by rw [upd1_s]; exact hs1
    refine Ew_of (pcₚ := 312) (fun _ => x_iload_n rfl hl3) ?_
    refine Ew_of (pcₚ := 313) (fun _ => x_iconst rfl) ?_
    refine w_icmpne (t := 337) rfl rfl (show inr (5) from q_727) (show inr (4) from q_216) (fun b15 => ?_) (fun b15 => ?_)
    · exact hc337  _ _ _ _  (hl0) (hl1) H O (SF_trans (SF_refl) (SF_gluc (ι := oz_T9hclsl_5) oz_T9hcls_10 hS8 eF8 (by decide +kernel)) (any_sub (lₚ := []) (by decide +kernel))) (SA_upd (SA_trans (SA_refl) (SA_gluc (ι := oz_T9hclsl_5) oz_T9hcls_10 hA8 eA8 (by decide +kernel)) (any_subA (lₚ := []) (by decide +kernel))) rfl)    (upd1 (A 5) (1) ((adI (v7) (1)))) (congrArg (fun q => upd1 q (1) ((adI (v7) (1)))) ((show A8 5 = A 5 from (eA8 5)))) (show 0 ≤ (u2_1) ∧ (u2_1) ≤ (n3) ∧ (n3) ≤ 65536 from h1) (show ((upd1 (A 5) (1) ((adI (v7) (1))))) 0 = ((A 5)) 0 by have qh0 := HIDe qv7; omega) (show HID (((upd1 (A 5) (1) ((adI (v7) (1))))) 1 = w32 (((A 5)) 1 + (if BNA ((w6)) 5 ((u1_1)) < (u2_1) then 1 else 0))) by assumption)
    · exact absurd b15 (by omega)


end
section
/-! T9i.cls -/
abbrev V17_vG : vV := [(0, 0, [(4, 0), (4, 0), (4, 0), (4, 0), (4, 0), (4, 0), (4, 0), (4, 0), (4, 0), (4, 0), (4, 0), (4, 0), (4, 0), (4, 0), (4, 0), (4, 0), (4, 0), (0, 0), (0, 0)]), (1, 4, []), (0, 7, [(4, 0), (0, 0), (1, 0), (0, 0), (0, 0)]), (1, 0, []), (0, 7, [(4, 0), (0, 0), (1, 0), (0, 0), (0, 0)]), (1, 0, []), (0, 7, [(4, 0), (0, 0), (1, 0), (0, 0), (0, 0)]), (1, 0, []), (0, 7, [(4, 0), (0, 0), (1, 0), (0, 0), (0, 0)]), (1, 0, []), (0, 7, [(4, 0), (0, 0), (1, 0), (0, 0), (0, 0)]), (1, 0, [])]
theorem len_V17_vG_oz_T9icls : (V17_vG).length = 12 := by decide +kernel
theorem oz_T9icls_1 : vsub V17_vG V158_Row [2, 10, 3, 11] = true := by decide +kernel
theorem oz_T9icls_2 : vmov V17_vG [2, 10, 3, 11] [2] = true := by decide +kernel
theorem oz_T9icls_3 : vsub V17_vG V158_Row [4, 10, 5, 11] = true := by decide +kernel
theorem oz_T9icls_4 : vmov V17_vG [4, 10, 5, 11] [2] = true := by decide +kernel
theorem oz_T9icls_5 : vsub V17_vG V158_Row [6, 10, 7, 11] = true := by decide +kernel
theorem oz_T9icls_6 : vmov V17_vG [6, 10, 7, 11] [2] = true := by decide +kernel
theorem oz_T9icls_7 : vsub V17_vG V158_Row [8, 10, 9, 11] = true := by decide +kernel
theorem oz_T9icls_8 : vmov V17_vG [8, 10, 9, 11] [2] = true := by decide +kernel
def oz_T9iclsl_0 : List (Nat × Nat) := [(2, 0), (2, 1), (2, 2), (2, 3), (2, 4), (4, 0), (4, 1), (4, 2), (4, 3), (4, 4), (6, 0), (6, 1), (6, 2), (6, 3), (6, 4), (8, 0), (8, 1), (8, 2), (8, 3), (8, 4)]
theorem oz_T9icls_9 : (oz_T9iclsl_0).all (fun p => !tbz 3589554766356802058325290689066312247140827750128844236490294584920361899393024 (Nat.add (Nat.mul 32 p.1) p.2)) = true := by decide +kernel
def oz_T9iclsl_1 : List Nat := [3, 5, 7, 9]
theorem oz_T9icls_10 : (oz_T9iclsl_1).all (fun p => !tbz 680 p) = true := by decide +kernel
def oz_T9iclsl_2 : List Nat := [2, 10, 3, 11]
theorem oz_T9icls_11 : okc oz_T9iclsl_2 1477186562 = true := by decide +kernel
def oz_T9iclsl_3 : List Nat := [4, 10, 5, 11]
theorem oz_T9icls_12 : okc oz_T9iclsl_3 1477710852 = true := by decide +kernel
def oz_T9iclsl_4 : List Nat := [6, 10, 7, 11]
theorem oz_T9icls_13 : okc oz_T9iclsl_4 1478235142 = true := by decide +kernel
def oz_T9iclsl_5 : List Nat := [8, 10, 9, 11]
theorem oz_T9icls_14 : okc oz_T9iclsl_5 1478759432 = true := by decide +kernel

theorem C17_vG {σE : rS} {D N : Nat → Nat} {F : hF} {A : hA} {d c s : Nat} {Q : wQ} (H : HW V17_vG σE D N F A) {x1 : Int} (pf1 : HID (F 0 0 = (D 1 : Int))) (pf2 : HID (A 1 0 = (D 2 : Int))) (pf3 : HID (F 2 0 = (D 3 : Int))) (pf4 : HID (A 1 1 = (D 4 : Int))) (pf5 : HID (F 4 0 = (D 5 : Int))) (pf6 : HID (A 1 2 = (D 6 : Int))) (pf7 : HID (F 6 0 = (D 7 : Int))) (pf8 : HID (A 1 3 = (D 8 : Int))) (pf9 : HID (F 8 0 = (D 9 : Int))) (pf10 : HID (F 0 5 = (D 10 : Int))) (pf11 : HID (F 10 0 = (D 11 : Int))) (n1 : Int) (en1 : HID ((N 1 : Int) = n1)) (n3 : Int) (en3 : HID ((N 3 : Int) = n3)) (n5 : Int) (en5 : HID ((N 5 : Int) = n5)) (n7 : Int) (en7 : HID ((N 7 : Int) = n7)) (n9 : Int) (en9 : HID ((N 9 : Int) = n9)) (n11 : Int) (en11 : HID ((N 11 : Int) = n11)) (u2_1 : Int) (eu2_1 : HID (F 2 1 = u2_1)) (u2_2 : Int) (eu2_2 : HID (F 2 2 = u2_2)) (u4_1 : Int) (eu4_1 : HID (F 4 1 = u4_1)) (u4_2 : Int) (eu4_2 : HID (F 4 2 = u4_2)) (u6_1 : Int) (eu6_1 : HID (F 6 1 = u6_1)) (u6_2 : Int) (eu6_2 : HID (F 6 2 = u6_2)) (u8_1 : Int) (eu8_1 : HID (F 8 1 = u8_1)) (u8_2 : Int) (eu8_2 : HID (F 8 2 = u8_2)) (u10_1 : Int) (eu10_1 : HID (F 10 1 = u10_1)) (w3 : Int → Int) (ew3 : A 3 = w3) (w5 : Int → Int) (ew5 : A 5 = w5) (w7 : Int → Int) (ew7 : A 7 = w7) (w9 : Int → Int) (ew9 : A 9 = w9) (w11 : Int → Int) (ew11 : A 11 = w11) {ls : rO} (hl0 : rlook ls 0 = some (.ref (D 0))) (hl1 : rlook ls 1 = some (I (x1))) (h0 : inr (x1)) (h1 : (n1) = 4) (h2 : 0 ≤ (u2_1) ∧ (u2_1) ≤ (n3) ∧ (n3) ≤ 65536) (h3 : 0 ≤ (u4_1) ∧ (u4_1) ≤ (n5) ∧ (n5) ≤ 65536) (h4 : 0 ≤ (u6_1) ∧ (u6_1) ≤ (n7) ∧ (n7) ≤ 65536) (h5 : 0 ≤ (u8_1) ∧ (u8_1) ≤ (n9) ∧ (n9) ≤ 65536) (h6 : (u2_2) = 0) (h7 : (u4_2) = 0) (h8 : (u6_2) = 0) (h9 : (u8_2) = 0) (h10 : 0 ≤ (u10_1) ∧ (u10_1) ≤ (n11) ∧ (n11) ≤ 65536) (h11 : 0 ≤ (x1) ∧ (x1) ≤ 3) (k : ∀ (z : Int) (σ : rS) (Dₚ Nₚ : Nat → Nat) (Fₚ : hF) (Aₚ : hA) (cₚ sₚ : Nat), HW V17_vG σ Dₚ Nₚ Fₚ Aₚ → OUT (V17_vG).length D N σE c s Dₚ Nₚ σ cₚ sₚ → SD [3, 5, 7, 9] D Dₚ → SD [3, 5, 7, 9] N Nₚ → SF [(2, 0), (2, 1), (2, 2), (2, 3), (2, 4), (4, 0), (4, 1), (4, 2), (4, 3), (4, 4), (6, 0), (6, 1), (6, 2), (6, 3), (6, 4), (8, 0), (8, 1), (8, 2), (8, 3), (8, 4)] F Fₚ → SA [3, 5, 7, 9] A Aₚ → Fₚ 2 0 = (Dₚ 3 : Int) → Fₚ 4 0 = (Dₚ 5 : Int) → Fₚ 6 0 = (Dₚ 7 : Int) → Fₚ 8 0 = (Dₚ 9 : Int) → ∀ m3 : Int, (Nₚ 3 : Int) = m3 → ∀ m5 : Int, (Nₚ 5 : Int) = m5 → ∀ m7 : Int, (Nₚ 7 : Int) = m7 → ∀ m9 : Int, (Nₚ 9 : Int) = m9 → ∀ y2_1 : Int, Fₚ 2 1 = y2_1 → ∀ y2_2 : Int, Fₚ 2 2 = y2_2 → ∀ y4_1 : Int, Fₚ 4 1 = y4_1 → ∀ y4_2 : Int, Fₚ 4 2 = y4_2 → ∀ y6_1 : Int, Fₚ 6 1 = y6_1 → ∀ y6_2 : Int, Fₚ 6 2 = y6_2 → ∀ y8_1 : Int, Fₚ 8 1 = y8_1 → ∀ y8_2 : Int, Fₚ 8 2 = y8_2 → ∀ v3 : Int → Int, Aₚ 3 = v3 → ∀ v5 : Int → Int, Aₚ 5 = v5 → ∀ v7 : Int → Int, Aₚ 7 = v7 → ∀ v9 : Int → Int, Aₚ 9 = v9 → (inr (z)) → (0 ≤ (y2_1) ∧ (y2_1) ≤ (m3) ∧ (m3) ≤ 65536) → (0 ≤ (y4_1) ∧ (y4_1) ≤ (m5) ∧ (m5) ≤ 65536) → (0 ≤ (y6_1) ∧ (y6_1) ≤ (m7) ∧ (m7) ≤ 65536) → (0 ≤ (y8_1) ∧ (y8_1) ≤ (m9) ∧ (m9) ≤ 65536) → ((y2_2) = 0) → ((y4_2) = 0) → ((y6_2) = 0) → ((y8_2) = 0) → (0 ≤ (u10_1) ∧ (u10_1) ≤ (n11) ∧ (n11) ≤ 65536) → ((z) = (u10_1)) → (IMP ((x1) = 0) (sc ((v3)) 0 ((y2_1)) = sc ((w11)) 0 ((u10_1)))) → (IMP ((x1) = 1) (sc ((v5)) 0 ((y4_1)) = sc ((w11)) 0 ((u10_1)))) → (IMP ((x1) = 2) (sc ((v7)) 0 ((y6_1)) = sc ((w11)) 0 ((u10_1)))) → (IMP ((x1) = 3) (sc ((v9)) 0 ((y8_1)) = sc ((w11)) 0 ((u10_1)))) → (IMP ((x1) ≠ 0) (sc ((v3)) 0 ((y2_1)) = sc ((w3)) 0 ((u2_1)))) → (IMP ((x1) ≠ 1) (sc ((v5)) 0 ((y4_1)) = sc ((w5)) 0 ((u4_1)))) → (IMP ((x1) ≠ 2) (sc ((v7)) 0 ((y6_1)) = sc ((w7)) 0 ((u6_1)))) → (IMP ((x1) ≠ 3) (sc ((v9)) 0 ((y8_1)) = sc ((w9)) 0 ((u8_1)))) → Q (some (I z)) σ cₚ sₚ) : Ew 17 (d + 4) 337 ls [] σE c s Q := by
  have O := OUT_refl (n := (V17_vG).length) (D := D) (N := N) (σ := σE) (c := c) (s := s)
  have HE := H
  have r1 : HID ((-2147483648 : Int) ≤ u2_1 ∧ u2_1 ≤ 2147483647) := krg_e (show (-2147483648 : Int) ≤ F 2 1 ∧ F 2 1 ≤ 2147483647 from H.krg 2 1 (ltn len_V17_vG_oz_T9icls rfl)) (show F 2 1 = u2_1 from (eu2_1))
  have r3 : HID ((-2147483648 : Int) ≤ u4_1 ∧ u4_1 ≤ 2147483647) := krg_e (show (-2147483648 : Int) ≤ F 4 1 ∧ F 4 1 ≤ 2147483647 from H.krg 4 1 (ltn len_V17_vG_oz_T9icls rfl)) (show F 4 1 = u4_1 from (eu4_1))
  have r5 : HID ((-2147483648 : Int) ≤ u6_1 ∧ u6_1 ≤ 2147483647) := krg_e (show (-2147483648 : Int) ≤ F 6 1 ∧ F 6 1 ≤ 2147483647 from H.krg 6 1 (ltn len_V17_vG_oz_T9icls rfl)) (show F 6 1 = u6_1 from (eu6_1))
  have r7 : HID ((-2147483648 : Int) ≤ u8_1 ∧ u8_1 ≤ 2147483647) := krg_e (show (-2147483648 : Int) ≤ F 8 1 ∧ F 8 1 ≤ 2147483647 from H.krg 8 1 (ltn len_V17_vG_oz_T9icls rfl)) (show F 8 1 = u8_1 from (eu8_1))
  have r9 : HID ((-2147483648 : Int) ≤ u10_1 ∧ u10_1 ≤ 2147483647) := krg_e (show (-2147483648 : Int) ≤ F 10 1 ∧ F 10 1 ≤ 2147483647 from H.krg 10 1 (ltn len_V17_vG_oz_T9icls rfl)) (show F 10 1 = u10_1 from (eu10_1))
  have r10 : HID ((0 : Int) ≤ n1 ∧ n1 ≤ 1000000) := nrng (H.nle 1 (ltn len_V17_vG_oz_T9icls rfl)) (show (N 1 : Int) = n1 from en1)
  refine Ew_of (pcₚ := 338) (fun _ => x_aload_n rfl hl0) ?_
  refine v_g H (o := 0) (v := .ref (D 1)) rfl rfl rfl rfl rfl (vrf (pf1)) ?_
  refine Ew_of (pcₚ := 342) (fun _ => x_iload_n rfl hl1) ?_
  rcases (show x1 = 0 ∨ x1 = 1 ∨ x1 = 2 ∨ x1 = 3 by omega) with b16 | b16 | b16 | b16
  · refine v_lR H (o := 1) rfl rfl rfl rfl rfl (n := n1) (en1) (show 0 ≤ x1 ∧ x1 < n1 from q_4749 (HIDe r10) b16 h1 h11) (z := ((D 2 : Nat) : Int)) (v := .ref (D 2)) ((congrArg (A 1) b16).trans (pf2)) (vrf rfl) ?_
    refine Ew_of (pcₚ := 344) (fun _ => x_aload_n rfl hl0) ?_
    refine v_g H (o := 0) (v := .ref (D 10)) rfl rfl rfl rfl rfl (vrf (pf10)) ?_
    refine v_inv H (o := 2) rfl rfl rfl rfl rfl rfl (by rfl) (C158_Row (D := puc 1477186562 D) (N := puc 1477186562 N) (HW_subc H oz_T9icls_1 oz_T9icls_11) (pf3) (pf11) (n3) (en3) (n11) (en11) (u2_1) ((eu2_1)) (u2_2) ((eu2_2)) (u10_1) ((eu10_1)) (w3) (ew3) (w11) (ew11) (show 0 ≤ (u2_1) ∧ (u2_1) ≤ (n3) ∧ (n3) ≤ 65536 from h2) (show 0 ≤ (u10_1) ∧ (u10_1) ≤ (n11) ∧ (n11) ≤ 65536 from h10) (fun σ17 D17ₚ N17ₚ F17ₚ A17ₚ c17 s17 Hₚ Oₚ hD17 hN17 hS17 hA17 (pm17_2 : HID _) m17_2 (em17_2 : HID _) y17_0_1 (ey17_0_1 : HID _) y17_0_2 (ey17_0_2 : HID _) w17_2 ew17_2 pz17_0 pz17_1 pz17_2 pz17_3 => ⟨rfl, ?_⟩))
    refine v_backMc (c := c) (s := s) H oz_T9icls_1 oz_T9icls_11 Hₚ Oₚ hD17 oz_T9icls_2 (fun D17 N17 F17 A17 H Oₚ eD17 eN17 eF17 eA17 => ?_)
    have O := OUT_trans O Oₚ
    -- Row.become
    have cF17 : SF oz_T9iclsl_0 F F17 := SF_trans (SF_refl) (SF_gluc (ι := oz_T9iclsl_2) oz_T9icls_11 hS17 eF17 (by decide +kernel)) (any_sub (lₚ := [(2, 0), (2, 1), (2, 2), (2, 3), (2, 4)]) (by decide +kernel))
    have mF17 := SFm_of cF17 oz_T9icls_9
    have cA17 : SA oz_T9iclsl_1 A A17 := SA_trans (SA_refl) (SA_gluc (ι := oz_T9iclsl_2) oz_T9icls_11 hA17 eA17 (by decide +kernel)) (any_subA (lₚ := [3]) (by decide +kernel))
    have mA17 := SAm_of cA17 oz_T9icls_10
    have cD17 : SD oz_T9iclsl_1 D D17 := SD_trans (SD_refl) (SD_gluc (ι := oz_T9iclsl_2) oz_T9icls_11 hD17 eD17 (by decide +kernel)) (any_subA (lₚ := [3]) (by decide +kernel))
    have mD17 := SDm_of cD17 oz_T9icls_10
    have cN17 : SD oz_T9iclsl_1 N N17 := SD_trans (SD_refl) (SD_gluc (ι := oz_T9iclsl_2) oz_T9icls_11 hN17 eN17 (by decide +kernel)) (any_subA (lₚ := [3]) (by decide +kernel))
    have mN17 := SDm_of cN17 oz_T9icls_10
    have pf17_2_0 : HID (F17 2 0 = (D17 3 : Int)) := (eF17 2 0).trans (pm17_2.trans (congrArg (fun q : Nat => (q : Int)) (eD17 3).symm))
    have pf17_4_0 : HID (F17 4 0 = (D17 5 : Int)) := ((show F17 4 0 = F 4 0 from (eF17 4 0))).trans ((pf5).trans (congrArg (fun q : Nat => (q : Int)) ((show D17 5 = D 5 from (eD17 5))).symm))
    have pf17_6_0 : HID (F17 6 0 = (D17 7 : Int)) := ((show F17 6 0 = F 6 0 from (eF17 6 0))).trans ((pf7).trans (congrArg (fun q : Nat => (q : Int)) ((show D17 7 = D 7 from (eD17 7))).symm))
    have pf17_8_0 : HID (F17 8 0 = (D17 9 : Int)) := ((show F17 8 0 = F 8 0 from (eF17 8 0))).trans ((pf9).trans (congrArg (fun q : Nat => (q : Int)) ((show D17 9 = D 9 from (eD17 9))).symm))
    have r19 : HID ((-2147483648 : Int) ≤ y17_0_1 ∧ y17_0_1 ≤ 2147483647) := krg_e (show (-2147483648 : Int) ≤ F17 2 1 ∧ F17 2 1 ≤ 2147483647 from H.krg 2 1 (ltn len_V17_vG_oz_T9icls rfl)) (show F17 2 1 = y17_0_1 from ((eF17 2 1).trans ey17_0_1))
    have h0_0 : IMP ((x1) = 0) (sc ((w17_2)) 0 ((y17_0_1)) = sc ((w11)) 0 ((u10_1))) := by first | exact fun q => absurd q (by (have qg0 := HIDe r19; have qg1 := HIDe r9; omega)) | exact fun _ => pz17_3
    have h0_1 : IMP ((x1) = 1) (sc ((w5)) 0 ((u4_1)) = sc ((w11)) 0 ((u10_1))) := by first | exact fun q => absurd q (by (have qg0 := HIDe r3; have qg1 := HIDe r9; omega)) | exact fun _ => pz17_3
    have h0_2 : IMP ((x1) = 2) (sc ((w7)) 0 ((u6_1)) = sc ((w11)) 0 ((u10_1))) := by first | exact fun q => absurd q (by (have qg0 := HIDe r5; have qg1 := HIDe r9; omega)) | exact fun _ => pz17_3
    have h0_3 : IMP ((x1) = 3) (sc ((w9)) 0 ((u8_1)) = sc ((w11)) 0 ((u10_1))) := by first | exact fun q => absurd q (by (have qg0 := HIDe r7; have qg1 := HIDe r9; omega)) | exact fun _ => pz17_3
    have h1_0 : IMP ((x1) ≠ 0) (sc ((w17_2)) 0 ((y17_0_1)) = sc ((w3)) 0 ((u2_1))) := by first | exact fun _ => rfl | exact fun q => absurd (by (have qg0 := HIDe r1; have qg1 := HIDe r19; omega)) q
    have h1_1 : IMP ((x1) ≠ 1) (sc ((w5)) 0 ((u4_1)) = sc ((w5)) 0 ((u4_1))) := by first | exact fun _ => rfl | exact fun q => absurd (by (have qg0 := HIDe r3; omega)) q
    have h1_2 : IMP ((x1) ≠ 2) (sc ((w7)) 0 ((u6_1)) = sc ((w7)) 0 ((u6_1))) := by first | exact fun _ => rfl | exact fun q => absurd (by (have qg0 := HIDe r5; omega)) q
    have h1_3 : IMP ((x1) ≠ 3) (sc ((w9)) 0 ((u8_1)) = sc ((w9)) 0 ((u8_1))) := by first | exact fun _ => rfl | exact fun q => absurd (by (have qg0 := HIDe r7; omega)) q
    refine Ew_of (pcₚ := 351) (fun _ => x_aload_n rfl hl0) ?_
    refine Ew_stk (congrArg (fun qz : Nat => ([.ref qz] : List Value)) (show D17 0 = D 0 from mD17 0 rfl).symm) ?_
    refine v_g H (o := 0) (v := .ref (D17 10)) rfl rfl rfl rfl rfl (vrf ((mF17 0 5 rfl).trans ((pf10).trans (congrArg (fun q : Nat => (q : Int)) (mD17 10 rfl).symm)))) ?_
    refine v_g H (o := 10) (v := I (u10_1)) rfl rfl rfl rfl rfl (congrArg (fun z : Int => I z) (((mF17 10 1 rfl).trans (eu10_1)) : F17 10 1 = u10_1)) ?_
    exact w_ireturn rfl (k (u10_1) _ _ _ _ _ _ _ H O (cD17) (cN17) (cF17) (cA17) (pf17_2_0) (pf17_4_0) (pf17_6_0) (pf17_8_0) (m17_2) ((congrArg (fun q : Nat => (q : Int)) (eN17 3)).trans em17_2) (n5) ((congrArg (fun q : Nat => (q : Int)) (show N17 5 = N 5 from (eN17 5))).trans (en5)) (n7) ((congrArg (fun q : Nat => (q : Int)) (show N17 7 = N 7 from (eN17 7))).trans (en7)) (n9) ((congrArg (fun q : Nat => (q : Int)) (show N17 9 = N 9 from (eN17 9))).trans (en9)) (y17_0_1) (((eF17 2 1).trans ey17_0_1)) (y17_0_2) (((eF17 2 2).trans ey17_0_2)) (u4_1) ((((show F17 4 1 = F 4 1 from (eF17 4 1))).trans (eu4_1))) (u4_2) ((((show F17 4 2 = F 4 2 from (eF17 4 2))).trans (eu4_2))) (u6_1) ((((show F17 6 1 = F 6 1 from (eF17 6 1))).trans (eu6_1))) (u6_2) ((((show F17 6 2 = F 6 2 from (eF17 6 2))).trans (eu6_2))) (u8_1) ((((show F17 8 1 = F 8 1 from (eF17 8 1))).trans (eu8_1))) (u8_2) ((((show F17 8 2 = F 8 2 from (eF17 8 2))).trans (eu8_2))) (w17_2) ((eA17 3).trans ew17_2) (w5) (((show A17 5 = A 5 from (eA17 5))).trans (ew5)) (w7) (((show A17 7 = A 7 from (eA17 7))).trans (ew7)) (w9) (((show A17 9 = A 9 from (eA17 9))).trans (ew9)) (show inr (u10_1) from q_38 h10) (show 0 ≤ (y17_0_1) ∧ (y17_0_1) ≤ (m17_2) ∧ (m17_2) ≤ 65536 from pz17_0) (show 0 ≤ (u4_1) ∧ (u4_1) ≤ (n5) ∧ (n5) ≤ 65536 from h3) (show 0 ≤ (u6_1) ∧ (u6_1) ≤ (n7) ∧ (n7) ≤ 65536 from h4) (show 0 ≤ (u8_1) ∧ (u8_1) ≤ (n9) ∧ (n9) ≤ 65536 from h5) (show (y17_0_2) = 0 from pz17_2) (show (u4_2) = 0 from h7) (show (u6_2) = 0 from h8) (show (u8_2) = 0 from h9) (show 0 ≤ (u10_1) ∧ (u10_1) ≤ (n11) ∧ (n11) ≤ 65536 from h10) (show (u10_1) = (u10_1) from q_303) (h0_0) (h0_1) (h0_2) (h0_3) (h1_0) (h1_1) (h1_2) (h1_3))
  · refine v_lR H (o := 1) rfl rfl rfl rfl rfl (n := n1) (en1) (show 0 ≤ x1 ∧ x1 < n1 from q_4750 (HIDe r10) b16 h1 h11) (z := ((D 4 : Nat) : Int)) (v := .ref (D 4)) ((congrArg (A 1) b16).trans (pf4)) (vrf rfl) ?_
    refine Ew_of (pcₚ := 344) (fun _ => x_aload_n rfl hl0) ?_
    refine v_g H (o := 0) (v := .ref (D 10)) rfl rfl rfl rfl rfl (vrf (pf10)) ?_
    refine v_inv H (o := 4) rfl rfl rfl rfl rfl rfl (by rfl) (C158_Row (D := puc 1477710852 D) (N := puc 1477710852 N) (HW_subc H oz_T9icls_3 oz_T9icls_12) (pf5) (pf11) (n5) (en5) (n11) (en11) (u4_1) ((eu4_1)) (u4_2) ((eu4_2)) (u10_1) ((eu10_1)) (w5) (ew5) (w11) (ew11) (show 0 ≤ (u4_1) ∧ (u4_1) ≤ (n5) ∧ (n5) ≤ 65536 from h3) (show 0 ≤ (u10_1) ∧ (u10_1) ≤ (n11) ∧ (n11) ≤ 65536 from h10) (fun σ21 D21ₚ N21ₚ F21ₚ A21ₚ c21 s21 Hₚ Oₚ hD21 hN21 hS21 hA21 (pm21_2 : HID _) m21_2 (em21_2 : HID _) y21_0_1 (ey21_0_1 : HID _) y21_0_2 (ey21_0_2 : HID _) w21_2 ew21_2 pz21_0 pz21_1 pz21_2 pz21_3 => ⟨rfl, ?_⟩))
    refine v_backMc (c := c) (s := s) H oz_T9icls_3 oz_T9icls_12 Hₚ Oₚ hD21 oz_T9icls_4 (fun D21 N21 F21 A21 H Oₚ eD21 eN21 eF21 eA21 => ?_)
    have O := OUT_trans O Oₚ
    -- Row.become
    have cF21 : SF oz_T9iclsl_0 F F21 := SF_trans (SF_refl) (SF_gluc (ι := oz_T9iclsl_3) oz_T9icls_12 hS21 eF21 (by decide +kernel)) (any_sub (lₚ := [(4, 0), (4, 1), (4, 2), (4, 3), (4, 4)]) (by decide +kernel))
    have mF21 := SFm_of cF21 oz_T9icls_9
    have cA21 : SA oz_T9iclsl_1 A A21 := SA_trans (SA_refl) (SA_gluc (ι := oz_T9iclsl_3) oz_T9icls_12 hA21 eA21 (by decide +kernel)) (any_subA (lₚ := [5]) (by decide +kernel))
    have mA21 := SAm_of cA21 oz_T9icls_10
    have cD21 : SD oz_T9iclsl_1 D D21 := SD_trans (SD_refl) (SD_gluc (ι := oz_T9iclsl_3) oz_T9icls_12 hD21 eD21 (by decide +kernel)) (any_subA (lₚ := [5]) (by decide +kernel))
    have mD21 := SDm_of cD21 oz_T9icls_10
    have cN21 : SD oz_T9iclsl_1 N N21 := SD_trans (SD_refl) (SD_gluc (ι := oz_T9iclsl_3) oz_T9icls_12 hN21 eN21 (by decide +kernel)) (any_subA (lₚ := [5]) (by decide +kernel))
    have mN21 := SDm_of cN21 oz_T9icls_10
    have pf21_2_0 : HID (F21 2 0 = (D21 3 : Int)) := ((show F21 2 0 = F 2 0 from (eF21 2 0))).trans ((pf3).trans (congrArg (fun q : Nat => (q : Int)) ((show D21 3 = D 3 from (eD21 3))).symm))
    have pf21_4_0 : HID (F21 4 0 = (D21 5 : Int)) := (eF21 4 0).trans (pm21_2.trans (congrArg (fun q : Nat => (q : Int)) (eD21 5).symm))
    have pf21_6_0 : HID (F21 6 0 = (D21 7 : Int)) := ((show F21 6 0 = F 6 0 from (eF21 6 0))).trans ((pf7).trans (congrArg (fun q : Nat => (q : Int)) ((show D21 7 = D 7 from (eD21 7))).symm))
    have pf21_8_0 : HID (F21 8 0 = (D21 9 : Int)) := ((show F21 8 0 = F 8 0 from (eF21 8 0))).trans ((pf9).trans (congrArg (fun q : Nat => (q : Int)) ((show D21 9 = D 9 from (eD21 9))).symm))
    have r23 : HID ((-2147483648 : Int) ≤ y21_0_1 ∧ y21_0_1 ≤ 2147483647) := krg_e (show (-2147483648 : Int) ≤ F21 4 1 ∧ F21 4 1 ≤ 2147483647 from H.krg 4 1 (ltn len_V17_vG_oz_T9icls rfl)) (show F21 4 1 = y21_0_1 from ((eF21 4 1).trans ey21_0_1))
    have h0_0 : IMP ((x1) = 0) (sc ((w3)) 0 ((u2_1)) = sc ((w11)) 0 ((u10_1))) := by first | exact fun q => absurd q (by (have qg0 := HIDe r1; have qg1 := HIDe r9; omega)) | exact fun _ => pz21_3
    have h0_1 : IMP ((x1) = 1) (sc ((w21_2)) 0 ((y21_0_1)) = sc ((w11)) 0 ((u10_1))) := by first | exact fun q => absurd q (by (have qg0 := HIDe r23; have qg1 := HIDe r9; omega)) | exact fun _ => pz21_3
    have h0_2 : IMP ((x1) = 2) (sc ((w7)) 0 ((u6_1)) = sc ((w11)) 0 ((u10_1))) := by first | exact fun q => absurd q (by (have qg0 := HIDe r5; have qg1 := HIDe r9; omega)) | exact fun _ => pz21_3
    have h0_3 : IMP ((x1) = 3) (sc ((w9)) 0 ((u8_1)) = sc ((w11)) 0 ((u10_1))) := by first | exact fun q => absurd q (by (have qg0 := HIDe r7; have qg1 := HIDe r9; omega)) | exact fun _ => pz21_3
    have h1_0 : IMP ((x1) ≠ 0) (sc ((w3)) 0 ((u2_1)) = sc ((w3)) 0 ((u2_1))) := by first | exact fun _ => rfl | exact fun q => absurd (by (have qg0 := HIDe r1; omega)) q
    have h1_1 : IMP ((x1) ≠ 1) (sc ((w21_2)) 0 ((y21_0_1)) = sc ((w5)) 0 ((u4_1))) := by first | exact fun _ => rfl | exact fun q => absurd (by (have qg0 := HIDe r23; have qg1 := HIDe r3; omega)) q
    have h1_2 : IMP ((x1) ≠ 2) (sc ((w7)) 0 ((u6_1)) = sc ((w7)) 0 ((u6_1))) := by first | exact fun _ => rfl | exact fun q => absurd (by (have qg0 := HIDe r5; omega)) q
    have h1_3 : IMP ((x1) ≠ 3) (sc ((w9)) 0 ((u8_1)) = sc ((w9)) 0 ((u8_1))) := by first | exact fun _ => rfl | exact fun q => absurd (by (have qg0 := HIDe r7; omega)) q
    refine Ew_of (pcₚ := 351) (fun _ => x_aload_n rfl hl0) ?_
    refine Ew_stk (congrArg (fun qz : Nat => ([.ref qz] : List Value)) (show D21 0 = D 0 from mD21 0 rfl).symm) ?_
    refine v_g H (o := 0) (v := .ref (D21 10)) rfl rfl rfl rfl rfl (vrf ((mF21 0 5 rfl).trans ((pf10).trans (congrArg (fun q : Nat => (q : Int)) (mD21 10 rfl).symm)))) ?_
    refine v_g H (o := 10) (v := I (u10_1)) rfl rfl rfl rfl rfl (congrArg (fun z : Int => I z) (((mF21 10 1 rfl).trans (eu10_1)) : F21 10 1 = u10_1)) ?_
    exact w_ireturn rfl (k (u10_1) _ _ _ _ _ _ _ H O (cD21) (cN21) (cF21) (cA21) (pf21_2_0) (pf21_4_0) (pf21_6_0) (pf21_8_0) (n3) ((congrArg (fun q : Nat => (q : Int)) (show N21 3 = N 3 from (eN21 3))).trans (en3)) (m21_2) ((congrArg (fun q : Nat => (q : Int)) (eN21 5)).trans em21_2) (n7) ((congrArg (fun q : Nat => (q : Int)) (show N21 7 = N 7 from (eN21 7))).trans (en7)) (n9) ((congrArg (fun q : Nat => (q : Int)) (show N21 9 = N 9 from (eN21 9))).trans (en9)) (u2_1) ((((show F21 2 1 = F 2 1 from (eF21 2 1))).trans (eu2_1))) (u2_2) ((((show F21 2 2 = F 2 2 from (eF21 2 2))).trans (eu2_2))) (y21_0_1) (((eF21 4 1).trans ey21_0_1)) (y21_0_2) (((eF21 4 2).trans ey21_0_2)) (u6_1) ((((show F21 6 1 = F 6 1 from (eF21 6 1))).trans (eu6_1))) (u6_2) ((((show F21 6 2 = F 6 2 from (eF21 6 2))).trans (eu6_2))) (u8_1) ((((show F21 8 1 = F 8 1 from (eF21 8 1))).trans (eu8_1))) (u8_2) ((((show F21 8 2 = F 8 2 from (eF21 8 2))).trans (eu8_2))) (w3) (((show A21 3 = A 3 from (eA21 3))).trans (ew3)) (w21_2) ((eA21 5).trans ew21_2) (w7) (((show A21 7 = A 7 from (eA21 7))).trans (ew7)) (w9) (((show A21 9 = A 9 from (eA21 9))).trans (ew9)) (show inr (u10_1) from q_38 h10) (show 0 ≤ (u2_1) ∧ (u2_1) ≤ (n3) ∧ (n3) ≤ 65536 from h2) (show 0 ≤ (y21_0_1) ∧ (y21_0_1) ≤ (m21_2) ∧ (m21_2) ≤ 65536 from pz21_0) (show 0 ≤ (u6_1) ∧ (u6_1) ≤ (n7) ∧ (n7) ≤ 65536 from h4) (show 0 ≤ (u8_1) ∧ (u8_1) ≤ (n9) ∧ (n9) ≤ 65536 from h5) (show (u2_2) = 0 from h6) (show (y21_0_2) = 0 from pz21_2) (show (u6_2) = 0 from h8) (show (u8_2) = 0 from h9) (show 0 ≤ (u10_1) ∧ (u10_1) ≤ (n11) ∧ (n11) ≤ 65536 from h10) (show (u10_1) = (u10_1) from q_303) (h0_0) (h0_1) (h0_2) (h0_3) (h1_0) (h1_1) (h1_2) (h1_3))
  · refine v_lR H (o := 1) rfl rfl rfl rfl rfl (n := n1) (en1) (show 0 ≤ x1 ∧ x1 < n1 from q_4751 (HIDe r10) b16 h1 h11) (z := ((D 6 : Nat) : Int)) (v := .ref (D 6)) ((congrArg (A 1) b16).trans (pf6)) (vrf rfl) ?_
    refine Ew_of (pcₚ := 344) (fun _ => x_aload_n rfl hl0) ?_
    refine v_g H (o := 0) (v := .ref (D 10)) rfl rfl rfl rfl rfl (vrf (pf10)) ?_
    refine v_inv H (o := 6) rfl rfl rfl rfl rfl rfl (by rfl) (C158_Row (D := puc 1478235142 D) (N := puc 1478235142 N) (HW_subc H oz_T9icls_5 oz_T9icls_13) (pf7) (pf11) (n7) (en7) (n11) (en11) (u6_1) ((eu6_1)) (u6_2) ((eu6_2)) (u10_1) ((eu10_1)) (w7) (ew7) (w11) (ew11) (show 0 ≤ (u6_1) ∧ (u6_1) ≤ (n7) ∧ (n7) ≤ 65536 from h4) (show 0 ≤ (u10_1) ∧ (u10_1) ≤ (n11) ∧ (n11) ≤ 65536 from h10) (fun σ25 D25ₚ N25ₚ F25ₚ A25ₚ c25 s25 Hₚ Oₚ hD25 hN25 hS25 hA25 (pm25_2 : HID _) m25_2 (em25_2 : HID _) y25_0_1 (ey25_0_1 : HID _) y25_0_2 (ey25_0_2 : HID _) w25_2 ew25_2 pz25_0 pz25_1 pz25_2 pz25_3 => ⟨rfl, ?_⟩))
    refine v_backMc (c := c) (s := s) H oz_T9icls_5 oz_T9icls_13 Hₚ Oₚ hD25 oz_T9icls_6 (fun D25 N25 F25 A25 H Oₚ eD25 eN25 eF25 eA25 => ?_)
    have O := OUT_trans O Oₚ
    -- Row.become
    have cF25 : SF oz_T9iclsl_0 F F25 := SF_trans (SF_refl) (SF_gluc (ι := oz_T9iclsl_4) oz_T9icls_13 hS25 eF25 (by decide +kernel)) (any_sub (lₚ := [(6, 0), (6, 1), (6, 2), (6, 3), (6, 4)]) (by decide +kernel))
    have mF25 := SFm_of cF25 oz_T9icls_9
    have cA25 : SA oz_T9iclsl_1 A A25 := SA_trans (SA_refl) (SA_gluc (ι := oz_T9iclsl_4) oz_T9icls_13 hA25 eA25 (by decide +kernel)) (any_subA (lₚ := [7]) (by decide +kernel))
    have mA25 := SAm_of cA25 oz_T9icls_10
    have cD25 : SD oz_T9iclsl_1 D D25 := SD_trans (SD_refl) (SD_gluc (ι := oz_T9iclsl_4) oz_T9icls_13 hD25 eD25 (by decide +kernel)) (any_subA (lₚ := [7]) (by decide +kernel))
    have mD25 := SDm_of cD25 oz_T9icls_10
    have cN25 : SD oz_T9iclsl_1 N N25 := SD_trans (SD_refl) (SD_gluc (ι := oz_T9iclsl_4) oz_T9icls_13 hN25 eN25 (by decide +kernel)) (any_subA (lₚ := [7]) (by decide +kernel))
    have mN25 := SDm_of cN25 oz_T9icls_10
    have pf25_2_0 : HID (F25 2 0 = (D25 3 : Int)) := ((show F25 2 0 = F 2 0 from (eF25 2 0))).trans ((pf3).trans (congrArg (fun q : Nat => (q : Int)) ((show D25 3 = D 3 from (eD25 3))).symm))
    have pf25_4_0 : HID (F25 4 0 = (D25 5 : Int)) := ((show F25 4 0 = F 4 0 from (eF25 4 0))).trans ((pf5).trans (congrArg (fun q : Nat => (q : Int)) ((show D25 5 = D 5 from (eD25 5))).symm))
    have pf25_6_0 : HID (F25 6 0 = (D25 7 : Int)) := (eF25 6 0).trans (pm25_2.trans (congrArg (fun q : Nat => (q : Int)) (eD25 7).symm))
    have pf25_8_0 : HID (F25 8 0 = (D25 9 : Int)) := ((show F25 8 0 = F 8 0 from (eF25 8 0))).trans ((pf9).trans (congrArg (fun q : Nat => (q : Int)) ((show D25 9 = D 9 from (eD25 9))).symm))
    have r27 : HID ((-2147483648 : Int) ≤ y25_0_1 ∧ y25_0_1 ≤ 2147483647) := krg_e (show (-2147483648 : Int) ≤ F25 6 1 ∧ F25 6 1 ≤ 2147483647 from H.krg 6 1 (ltn len_V17_vG_oz_T9icls rfl)) (show F25 6 1 = y25_0_1 from ((eF25 6 1).trans ey25_0_1))
    have h0_0 : IMP ((x1) = 0) (sc ((w3)) 0 ((u2_1)) = sc ((w11)) 0 ((u10_1))) := by first | exact fun q => absurd q (by (have qg0 := HIDe r1; have qg1 := HIDe r9; omega)) | exact fun _ => pz25_3
    have h0_1 : IMP ((x1) = 1) (sc ((w5)) 0 ((u4_1)) = sc ((w11)) 0 ((u10_1))) := by first | exact fun q => absurd q (by (have qg0 := HIDe r3; have qg1 := HIDe r9; omega)) | exact fun _ => pz25_3
    have h0_2 : IMP ((x1) = 2) (sc ((w25_2)) 0 ((y25_0_1)) = sc ((w11)) 0 ((u10_1))) := by first | exact fun q => absurd q (by (have qg0 := HIDe r27; have qg1 := HIDe r9; omega)) | exact fun _ => pz25_3
    have h0_3 : IMP ((x1) = 3) (sc ((w9)) 0 ((u8_1)) = sc ((w11)) 0 ((u10_1))) := by first | exact fun q => absurd q (by (have qg0 := HIDe r7; have qg1 := HIDe r9; omega)) | exact fun _ => pz25_3
    have h1_0 : IMP ((x1) ≠ 0) (sc ((w3)) 0 ((u2_1)) = sc ((w3)) 0 ((u2_1))) := by first | exact fun _ => rfl | exact fun q => absurd (by (have qg0 := HIDe r1; omega)) q
    have h1_1 : IMP ((x1) ≠ 1) (sc ((w5)) 0 ((u4_1)) = sc ((w5)) 0 ((u4_1))) := by first | exact fun _ => rfl | exact fun q => absurd (by (have qg0 := HIDe r3; omega)) q
    have h1_2 : IMP ((x1) ≠ 2) (sc ((w25_2)) 0 ((y25_0_1)) = sc ((w7)) 0 ((u6_1))) := by first | exact fun _ => rfl | exact fun q => absurd (by (have qg0 := HIDe r27; have qg1 := HIDe r5; omega)) q
    have h1_3 : IMP ((x1) ≠ 3) (sc ((w9)) 0 ((u8_1)) = sc ((w9)) 0 ((u8_1))) := by first | exact fun _ => rfl | exact fun q => absurd (by (have qg0 := HIDe r7; omega)) q
    refine Ew_of (pcₚ := 351) (fun _ => x_aload_n rfl hl0) ?_
    refine Ew_stk (congrArg (fun qz : Nat => ([.ref qz] : List Value)) (show D25 0 = D 0 from mD25 0 rfl).symm) ?_
    refine v_g H (o := 0) (v := .ref (D25 10)) rfl rfl rfl rfl rfl (vrf ((mF25 0 5 rfl).trans ((pf10).trans (congrArg (fun q : Nat => (q : Int)) (mD25 10 rfl).symm)))) ?_
    refine v_g H (o := 10) (v := I (u10_1)) rfl rfl rfl rfl rfl (congrArg (fun z : Int => I z) (((mF25 10 1 rfl).trans (eu10_1)) : F25 10 1 = u10_1)) ?_
    exact w_ireturn rfl (k (u10_1) _ _ _ _ _ _ _ H O (cD25) (cN25) (cF25) (cA25) (pf25_2_0) (pf25_4_0) (pf25_6_0) (pf25_8_0) (n3) ((congrArg (fun q : Nat => (q : Int)) (show N25 3 = N 3 from (eN25 3))).trans (en3)) (n5) ((congrArg (fun q : Nat => (q : Int)) (show N25 5 = N 5 from (eN25 5))).trans (en5)) (m25_2) ((congrArg (fun q : Nat => (q : Int)) (eN25 7)).trans em25_2) (n9) ((congrArg (fun q : Nat => (q : Int)) (show N25 9 = N 9 from (eN25 9))).trans (en9)) (u2_1) ((((show F25 2 1 = F 2 1 from (eF25 2 1))).trans (eu2_1))) (u2_2) ((((show F25 2 2 = F 2 2 from (eF25 2 2))).trans (eu2_2))) (u4_1) ((((show F25 4 1 = F 4 1 from (eF25 4 1))).trans (eu4_1))) (u4_2) ((((show F25 4 2 = F 4 2 from (eF25 4 2))).trans (eu4_2))) (y25_0_1) (((eF25 6 1).trans ey25_0_1)) (y25_0_2) (((eF25 6 2).trans ey25_0_2)) (u8_1) ((((show F25 8 1 = F 8 1 from (eF25 8 1))).trans (eu8_1))) (u8_2) ((((show F25 8 2 = F 8 2 from (eF25 8 2))).trans (eu8_2))) (w3) (((show A25 3 = A 3 from (eA25 3))).trans (ew3)) (w5) (((show A25 5 = A 5 from (eA25 5))).trans (ew5)) (w25_2) ((eA25 7).trans ew25_2) (w9) (((show A25 9 = A 9 from (eA25 9))).trans (ew9)) (show inr (u10_1) from q_38 h10) (show 0 ≤ (u2_1) ∧ (u2_1) ≤ (n3) ∧ (n3) ≤ 65536 from h2) (show 0 ≤ (u4_1) ∧ (u4_1) ≤ (n5) ∧ (n5) ≤ 65536 from h3) (show 0 ≤ (y25_0_1) ∧ (y25_0_1) ≤ (m25_2) ∧ (m25_2) ≤ 65536 from pz25_0) (show 0 ≤ (u8_1) ∧ (u8_1) ≤ (n9) ∧ (n9) ≤ 65536 from h5) (show (u2_2) = 0 from h6) (show (u4_2) = 0 from h7) (show (y25_0_2) = 0 from pz25_2) (show (u8_2) = 0 from h9) (show 0 ≤ (u10_1) ∧ (u10_1) ≤ (n11) ∧ (n11) ≤ 65536 from h10) (show (u10_1) = (u10_1) from q_303) (h0_0) (h0_1) (h0_2) (h0_3) (h1_0) (h1_1) (h1_2) (h1_3))
  · refine v_lR H (o := 1) rfl rfl rfl rfl rfl (n := n1) (en1) (show 0 ≤ x1 ∧ x1 < n1 from q_4752 b16 h1 h11) (z := ((D 8 : Nat) : Int)) (v := .ref (D 8)) ((congrArg (A 1) b16).trans (pf8)) (vrf rfl) ?_
    refine Ew_of (pcₚ := 344) (fun _ => x_aload_n rfl hl0) ?_
    refine v_g H (o := 0) (v := .ref (D 10)) rfl rfl rfl rfl rfl (vrf (pf10)) ?_
    refine v_inv H (o := 8) rfl rfl rfl rfl rfl rfl (by rfl) (C158_Row (D := puc 1478759432 D) (N := puc 1478759432 N) (HW_subc H oz_T9icls_7 oz_T9icls_14) (pf9) (pf11) (n9) (en9) (n11) (en11) (u8_1) ((eu8_1)) (u8_2) ((eu8_2)) (u10_1) ((eu10_1)) (w9) (ew9) (w11) (ew11) (show 0 ≤ (u8_1) ∧ (u8_1) ≤ (n9) ∧ (n9) ≤ 65536 from h5) (show 0 ≤ (u10_1) ∧ (u10_1) ≤ (n11) ∧ (n11) ≤ 65536 from h10) (fun σ29 D29ₚ N29ₚ F29ₚ A29ₚ c29 s29 Hₚ Oₚ hD29 hN29 hS29 hA29 (pm29_2 : HID _) m29_2 (em29_2 : HID _) y29_0_1 (ey29_0_1 : HID _) y29_0_2 (ey29_0_2 : HID _) w29_2 ew29_2 pz29_0 pz29_1 pz29_2 pz29_3 => ⟨rfl, ?_⟩))
    refine v_backMc (c := c) (s := s) H oz_T9icls_7 oz_T9icls_14 Hₚ Oₚ hD29 oz_T9icls_8 (fun D29 N29 F29 A29 H Oₚ eD29 eN29 eF29 eA29 => ?_)
    have O := OUT_trans O Oₚ
    -- Row.become
    have cF29 : SF oz_T9iclsl_0 F F29 := SF_trans (SF_refl) (SF_gluc (ι := oz_T9iclsl_5) oz_T9icls_14 hS29 eF29 (by decide +kernel)) (any_sub (lₚ := [(8, 0), (8, 1), (8, 2), (8, 3), (8, 4)]) (by decide +kernel))
    have mF29 := SFm_of cF29 oz_T9icls_9
    have cA29 : SA oz_T9iclsl_1 A A29 := SA_trans (SA_refl) (SA_gluc (ι := oz_T9iclsl_5) oz_T9icls_14 hA29 eA29 (by decide +kernel)) (any_subA (lₚ := [9]) (by decide +kernel))
    have mA29 := SAm_of cA29 oz_T9icls_10
    have cD29 : SD oz_T9iclsl_1 D D29 := SD_trans (SD_refl) (SD_gluc (ι := oz_T9iclsl_5) oz_T9icls_14 hD29 eD29 (by decide +kernel)) (any_subA (lₚ := [9]) (by decide +kernel))
    have mD29 := SDm_of cD29 oz_T9icls_10
    have cN29 : SD oz_T9iclsl_1 N N29 := SD_trans (SD_refl) (SD_gluc (ι := oz_T9iclsl_5) oz_T9icls_14 hN29 eN29 (by decide +kernel)) (any_subA (lₚ := [9]) (by decide +kernel))
    have mN29 := SDm_of cN29 oz_T9icls_10
    have pf29_2_0 : HID (F29 2 0 = (D29 3 : Int)) := ((show F29 2 0 = F 2 0 from (eF29 2 0))).trans ((pf3).trans (congrArg (fun q : Nat => (q : Int)) ((show D29 3 = D 3 from (eD29 3))).symm))
    have pf29_4_0 : HID (F29 4 0 = (D29 5 : Int)) := ((show F29 4 0 = F 4 0 from (eF29 4 0))).trans ((pf5).trans (congrArg (fun q : Nat => (q : Int)) ((show D29 5 = D 5 from (eD29 5))).symm))
    have pf29_6_0 : HID (F29 6 0 = (D29 7 : Int)) := ((show F29 6 0 = F 6 0 from (eF29 6 0))).trans ((pf7).trans (congrArg (fun q : Nat => (q : Int)) ((show D29 7 = D 7 from (eD29 7))).symm))
    have pf29_8_0 : HID (F29 8 0 = (D29 9 : Int)) := (eF29 8 0).trans (pm29_2.trans (congrArg (fun q : Nat => (q : Int)) (eD29 9).symm))
    have r31 : HID ((-2147483648 : Int) ≤ y29_0_1 ∧ y29_0_1 ≤ 2147483647) := krg_e (show (-2147483648 : Int) ≤ F29 8 1 ∧ F29 8 1 ≤ 2147483647 from H.krg 8 1 (ltn len_V17_vG_oz_T9icls rfl)) (show F29 8 1 = y29_0_1 from ((eF29 8 1).trans ey29_0_1))
    have h0_0 : IMP ((x1) = 0) (sc ((w3)) 0 ((u2_1)) = sc ((w11)) 0 ((u10_1))) := by first | exact fun q => absurd q (by (have qg0 := HIDe r1; have qg1 := HIDe r9; omega)) | exact fun _ => pz29_3
    have h0_1 : IMP ((x1) = 1) (sc ((w5)) 0 ((u4_1)) = sc ((w11)) 0 ((u10_1))) := by first | exact fun q => absurd q (by (have qg0 := HIDe r3; have qg1 := HIDe r9; omega)) | exact fun _ => pz29_3
    have h0_2 : IMP ((x1) = 2) (sc ((w7)) 0 ((u6_1)) = sc ((w11)) 0 ((u10_1))) := by first | exact fun q => absurd q (by (have qg0 := HIDe r5; have qg1 := HIDe r9; omega)) | exact fun _ => pz29_3
    have h0_3 : IMP ((x1) = 3) (sc ((w29_2)) 0 ((y29_0_1)) = sc ((w11)) 0 ((u10_1))) := by first | exact fun q => absurd q (by (have qg0 := HIDe r31; have qg1 := HIDe r9; omega)) | exact fun _ => pz29_3
    have h1_0 : IMP ((x1) ≠ 0) (sc ((w3)) 0 ((u2_1)) = sc ((w3)) 0 ((u2_1))) := by first | exact fun _ => rfl | exact fun q => absurd (by (have qg0 := HIDe r1; omega)) q
    have h1_1 : IMP ((x1) ≠ 1) (sc ((w5)) 0 ((u4_1)) = sc ((w5)) 0 ((u4_1))) := by first | exact fun _ => rfl | exact fun q => absurd (by (have qg0 := HIDe r3; omega)) q
    have h1_2 : IMP ((x1) ≠ 2) (sc ((w7)) 0 ((u6_1)) = sc ((w7)) 0 ((u6_1))) := by first | exact fun _ => rfl | exact fun q => absurd (by (have qg0 := HIDe r5; omega)) q
    have h1_3 : IMP ((x1) ≠ 3) (sc ((w29_2)) 0 ((y29_0_1)) = sc ((w9)) 0 ((u8_1))) := by first | exact fun _ => rfl | exact fun q => absurd (by (have qg0 := HIDe r31; have qg1 := HIDe r7; omega)) q
    refine Ew_of (pcₚ := 351) (fun _ => x_aload_n rfl hl0) ?_
    refine Ew_stk (congrArg (fun qz : Nat => ([.ref qz] : List Value)) (show D29 0 = D 0 from mD29 0 rfl).symm) ?_
    refine v_g H (o := 0) (v := .ref (D29 10)) rfl rfl rfl rfl rfl (vrf ((mF29 0 5 rfl).trans ((pf10).trans (congrArg (fun q : Nat => (q : Int)) (mD29 10 rfl).symm)))) ?_
    refine v_g H (o := 10) (v := I (u10_1)) rfl rfl rfl rfl rfl (congrArg (fun z : Int => I z) (((mF29 10 1 rfl).trans (eu10_1)) : F29 10 1 = u10_1)) ?_
    exact w_ireturn rfl (k (u10_1) _ _ _ _ _ _ _ H O (cD29) (cN29) (cF29) (cA29) (pf29_2_0) (pf29_4_0) (pf29_6_0) (pf29_8_0) (n3) ((congrArg (fun q : Nat => (q : Int)) (show N29 3 = N 3 from (eN29 3))).trans (en3)) (n5) ((congrArg (fun q : Nat => (q : Int)) (show N29 5 = N 5 from (eN29 5))).trans (en5)) (n7) ((congrArg (fun q : Nat => (q : Int)) (show N29 7 = N 7 from (eN29 7))).trans (en7)) (m29_2) ((congrArg (fun q : Nat => (q : Int)) (eN29 9)).trans em29_2) (u2_1) ((((show F29 2 1 = F 2 1 from (eF29 2 1))).trans (eu2_1))) (u2_2) ((((show F29 2 2 = F 2 2 from (eF29 2 2))).trans (eu2_2))) (u4_1) ((((show F29 4 1 = F 4 1 from (eF29 4 1))).trans (eu4_1))) (u4_2) ((((show F29 4 2 = F 4 2 from (eF29 4 2))).trans (eu4_2))) (u6_1) ((((show F29 6 1 = F 6 1 from (eF29 6 1))).trans (eu6_1))) (u6_2) ((((show F29 6 2 = F 6 2 from (eF29 6 2))).trans (eu6_2))) (y29_0_1) (((eF29 8 1).trans ey29_0_1)) (y29_0_2) (((eF29 8 2).trans ey29_0_2)) (w3) (((show A29 3 = A 3 from (eA29 3))).trans (ew3)) (w5) (((show A29 5 = A 5 from (eA29 5))).trans (ew5)) (w7) (((show A29 7 = A 7 from (eA29 7))).trans (ew7)) (w29_2) ((eA29 9).trans ew29_2) (show inr (u10_1) from q_38 h10) (show 0 ≤ (u2_1) ∧ (u2_1) ≤ (n3) ∧ (n3) ≤ 65536 from h2) (show 0 ≤ (u4_1) ∧ (u4_1) ≤ (n5) ∧ (n5) ≤ 65536 from h3) (show 0 ≤ (u6_1) ∧ (u6_1) ≤ (n7) ∧ (n7) ≤ 65536 from h4) (show 0 ≤ (y29_0_1) ∧ (y29_0_1) ≤ (m29_2) ∧ (m29_2) ≤ 65536 from pz29_0) (show (u2_2) = 0 from h6) (show (u4_2) = 0 from h7) (show (u6_2) = 0 from h8) (show (y29_0_2) = 0 from pz29_2) (show 0 ≤ (u10_1) ∧ (u10_1) ≤ (n11) ∧ (n11) ≤ 65536 from h10) (show (u10_1) = (u10_1) from q_303) (h0_0) (h0_1) (h0_2) (h0_3) (h1_0) (h1_1) (h1_2) (h1_3))


end
