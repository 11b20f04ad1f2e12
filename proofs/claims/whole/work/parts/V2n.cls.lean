abbrev V32_Row_Ir_vb4n : vV := [(0, 0, [(4, 0), (4, 0), (4, 0), (4, 0), (4, 0), (4, 0), (4, 0), (4, 0), (4, 0), (4, 0), (4, 0), (4, 0), (4, 0), (4, 0), (4, 0), (4, 0), (4, 0), (0, 0), (0, 0)]), (0, 7, [(4, 0), (0, 0), (1, 0), (0, 0), (0, 0)]), (1, 1, []), (1, 0, []), (0, 7, [(4, 0), (0, 0), (1, 0), (0, 0), (0, 0)]), (1, 0, []), (0, 4, [(4, 0), (4, 0), (0, 0), (4, 0), (4, 0)]), (0, 7, [(4, 0), (0, 0), (1, 0), (0, 0), (0, 0)]), (1, 0, []), (0, 12, [(4, 0), (4, 0), (4, 0), (4, 0), (4, 0), (4, 0), (4, 0), (4, 0), (0, 0), (0, 0), (4, 0), (0, 0), (4, 0), (4, 0), (0, 0), (2, 0), (0, 0), (0, 0), (0, 0), (0, 0), (0, 0), (0, 0)]), (0, 7, [(4, 0), (0, 0), (1, 0), (0, 0), (0, 0)]), (1, 0, []), (0, 9, [(4, 0), (4, 0), (4, 0)]), (1, 2, []), (1, 1, []), (1, 5, []), (1, 5, []), (1, 5, []), (0, 9, [(4, 0), (4, 0), (4, 0)]), (1, 5, []), (1, 2, []), (0, 8, [(0, 0), (0, 0), (4, 0), (4, 0), (4, 0), (4, 0), (4, 0), (4, 0), (4, 0), (4, 0), (4, 0), (0, 0), (0, 0)]), (1, 1, []), (1, 1, []), (1, 1, []), (1, 1, []), (1, 1, []), (1, 1, []), (1, 1, []), (1, 1, []), (0, 8, [(0, 0), (0, 0), (4, 0), (4, 0), (4, 0), (4, 0), (4, 0), (4, 0), (4, 0), (4, 0), (4, 0), (0, 0), (0, 0)]), (1, 1, []), (1, 1, []), (1, 1, []), (1, 1, []), (1, 1, []), (1, 1, []), (1, 1, []), (1, 1, []), (0, 8, [(0, 0), (0, 0), (4, 0), (4, 0), (4, 0), (4, 0), (4, 0), (4, 0), (4, 0), (4, 0), (4, 0), (0, 0), (0, 0)]), (1, 1, []), (1, 1, []), (1, 1, []), (1, 1, []), (1, 1, []), (1, 1, []), (1, 1, []), (1, 1, []), (0, 8, [(0, 0), (0, 0), (4, 0), (4, 0), (4, 0), (4, 0), (4, 0), (4, 0), (4, 0), (4, 0), (4, 0), (0, 0), (0, 0)]), (1, 1, []), (1, 1, []), (1, 1, []), (1, 1, []), (1, 1, []), (1, 1, []), (1, 1, []), (1, 1, []), (0, 8, [(0, 0), (0, 0), (4, 0), (4, 0), (4, 0), (4, 0), (4, 0), (4, 0), (4, 0), (4, 0), (4, 0), (0, 0), (0, 0)]), (1, 1, []), (1, 1, []), (1, 1, []), (1, 1, []), (1, 1, []), (1, 1, []), (1, 1, []), (1, 1, []), (0, 8, [(0, 0), (0, 0), (4, 0), (4, 0), (4, 0), (4, 0), (4, 0), (4, 0), (4, 0), (4, 0), (4, 0), (0, 0), (0, 0)]), (1, 1, []), (1, 1, []), (1, 1, []), (1, 1, []), (1, 1, []), (1, 1, []), (1, 1, []), (1, 1, []), (0, 3, [(4, 0), (4, 0), (4, 0), (0, 0), (4, 0), (4, 0), (4, 0), (4, 0), (4, 0), (4, 0), (4, 0), (4, 0), (4, 0), (0, 0), (0, 0), (0, 0), (0, 0)]), (1, 1, []), (1, 1, []), (1, 1, []), (1, 1, []), (1, 1, []), (1, 1, []), (1, 1, []), (1, 1, []), (0, 8, [(0, 0), (0, 0), (4, 0), (4, 0), (4, 0), (4, 0), (4, 0), (4, 0), (4, 0), (4, 0), (4, 0), (0, 0), (0, 0)]), (1, 1, []), (1, 1, []), (1, 1, []), (1, 1, []), (1, 1, []), (1, 1, []), (1, 1, []), (1, 1, []), (0, 2, [(4, 0), (0, 0), (0, 0)]), (0, 2, [(4, 0), (0, 0), (0, 0)])]
set_option maxRecDepth 20000 in
/-- PackHouse.unpackRow: this, #1, #2, #1.bytes, this.content, this.content.bytes, this.dictionary, this.dictionary.content, this.dictionary.content.bytes, this.unpacker, this.unpacker.literals, this.unpacker.literals.bytes, this.unpacker.now, this.unpacker.now.latest, this.unpacker.states, this.unpacker.now.tables, this.unpacker.known, this.unpacker.ownTables, this.dictionary.stand, this.dictionary.stand.tables, this.dictionary.stand.latest, this.unpacker.known.0, this.unpacker.known.0.points, this.unpacker.known.0.masses, this.unpacker.known.0.mostBits, this.unpacker.known.0.starts, this.unpacker.known.0.symbolAt, this.unpacker.known.0.numberAt, this.unpacker.known.0.placeOf, this.unpacker.known.0.used, this.unpacker.known.1, this.unpacker.known.1.points, this.unpacker.known.1.masses, this.unpacker.known.1.mostBits, this.unpacker.known.1.starts, this.unpacker.known.1.symbolAt, this.unpacker.known.1.numberAt, this.unpacker.known.1.placeOf, this.unpacker.known.1.used, this.unpacker.known.2, this.unpacker.known.2.points, this.unpacker.known.2.masses, this.unpacker.known.2.mostBits, this.unpacker.known.2.starts, this.unpacker.known.2.symbolAt, this.unpacker.known.2.numberAt, this.unpacker.known.2.placeOf, this.unpacker.known.2.used, this.unpacker.ownTables.0, this.unpacker.ownTables.0.points, this.unpacker.ownTables.0.masses, this.unpacker.ownTables.0.mostBits, this.unpacker.ownTables.0.starts, this.unpacker.ownTables.0.used, this.unpacker.ownTables.0.symbolAt, this.unpacker.ownTables.0.numberAt, this.unpacker.ownTables.0.placeOf, this.unpacker.ownTables.1, this.unpacker.ownTables.1.points, this.unpacker.ownTables.1.masses, this.unpacker.ownTables.1.mostBits, this.unpacker.ownTables.1.starts, this.unpacker.ownTables.1.used, this.unpacker.ownTables.1.symbolAt, this.unpacker.ownTables.1.numberAt, this.unpacker.ownTables.1.placeOf, this.unpacker.ownTables.2, this.unpacker.ownTables.2.points, this.unpacker.ownTables.2.masses, this.unpacker.ownTables.2.mostBits, this.unpacker.ownTables.2.starts, this.unpacker.ownTables.2.used, this.unpacker.ownTables.2.symbolAt, this.unpacker.ownTables.2.numberAt, this.unpacker.ownTables.2.placeOf, this.unpacker.ownCodes, this.unpacker.ownCodes.lengths, this.unpacker.ownCodes.codes, this.unpacker.ownCodes.cells, this.unpacker.ownCodes.weights, this.unpacker.ownCodes.weightCounts, this.unpacker.ownCodes.order, this.unpacker.ownCodes.amounts, this.unpacker.ownCodes.parents, this.unpacker.ownCodes.weightShare, this.unpacker.ownCodes.weightShare.points, this.unpacker.ownCodes.weightShare.masses, this.unpacker.ownCodes.weightShare.mostBits, this.unpacker.ownCodes.weightShare.starts, this.unpacker.ownCodes.weightShare.used, this.unpacker.ownCodes.weightShare.symbolAt, this.unpacker.ownCodes.weightShare.numberAt, this.unpacker.ownCodes.weightShare.placeOf, this.unpacker.ownCodes.source, this.unpacker.source -/
theorem C32_Row_Ir_vb4n {σE : rS} {D N : Nat → Nat} {F : hF} {A : hA} {d c s : Nat} {Q : wQ} (H : HW V32_Row_Ir_vb4n σE D N F A) (HT : STC σE) {x3 : Int} (pf3 : F 1 0 = (D 3 : Int)) (pf4 : F 0 6 = (D 4 : Int)) (pf5 : F 4 0 = (D 5 : Int)) (pf6 : F 0 3 = (D 6 : Int)) (pf7 : F 6 0 = (D 7 : Int)) (pf8 : F 7 0 = (D 8 : Int)) (pf9 : F 0 12 = (D 9 : Int)) (pf10 : F 9 4 = (D 10 : Int)) (pf11 : F 10 0 = (D 11 : Int)) (pf12 : F 9 3 = (D 12 : Int)) (pf13 : F 12 2 = (D 13 : Int)) (pf14 : F 9 6 = (D 14 : Int)) (pf15 : F 12 1 = (D 15 : Int)) (pf16 : F 9 0 = (D 16 : Int)) (pf17 : F 9 2 = (D 17 : Int)) (pf18 : F 6 1 = (D 18 : Int)) (pf19 : F 18 1 = (D 19 : Int)) (pf20 : F 18 2 = (D 20 : Int)) (pf21 : A 16 0 = (D 21 : Int)) (pf22 : F 21 2 = (D 22 : Int)) (pf23 : F 21 3 = (D 23 : Int)) (pf24 : F 21 4 = (D 24 : Int)) (pf25 : F 21 5 = (D 25 : Int)) (pf26 : F 21 7 = (D 26 : Int)) (pf27 : F 21 8 = (D 27 : Int)) (pf28 : F 21 9 = (D 28 : Int)) (pf29 : F 21 6 = (D 29 : Int)) (pf30 : A 16 1 = (D 30 : Int)) (pf31 : F 30 2 = (D 31 : Int)) (pf32 : F 30 3 = (D 32 : Int)) (pf33 : F 30 4 = (D 33 : Int)) (pf34 : F 30 5 = (D 34 : Int)) (pf35 : F 30 7 = (D 35 : Int)) (pf36 : F 30 8 = (D 36 : Int)) (pf37 : F 30 9 = (D 37 : Int)) (pf38 : F 30 6 = (D 38 : Int)) (pf39 : A 16 2 = (D 39 : Int)) (pf40 : F 39 2 = (D 40 : Int)) (pf41 : F 39 3 = (D 41 : Int)) (pf42 : F 39 4 = (D 42 : Int)) (pf43 : F 39 5 = (D 43 : Int)) (pf44 : F 39 7 = (D 44 : Int)) (pf45 : F 39 8 = (D 45 : Int)) (pf46 : F 39 9 = (D 46 : Int)) (pf47 : F 39 6 = (D 47 : Int)) (pf48 : A 17 0 = (D 48 : Int)) (pf49 : F 48 2 = (D 49 : Int)) (pf50 : F 48 3 = (D 50 : Int)) (pf51 : F 48 4 = (D 51 : Int)) (pf52 : F 48 5 = (D 52 : Int)) (pf53 : F 48 6 = (D 53 : Int)) (pf54 : F 48 7 = (D 54 : Int)) (pf55 : F 48 8 = (D 55 : Int)) (pf56 : F 48 9 = (D 56 : Int)) (pf57 : A 17 1 = (D 57 : Int)) (pf58 : F 57 2 = (D 58 : Int)) (pf59 : F 57 3 = (D 59 : Int)) (pf60 : F 57 4 = (D 60 : Int)) (pf61 : F 57 5 = (D 61 : Int)) (pf62 : F 57 6 = (D 62 : Int)) (pf63 : F 57 7 = (D 63 : Int)) (pf64 : F 57 8 = (D 64 : Int)) (pf65 : F 57 9 = (D 65 : Int)) (pf66 : A 17 2 = (D 66 : Int)) (pf67 : F 66 2 = (D 67 : Int)) (pf68 : F 66 3 = (D 68 : Int)) (pf69 : F 66 4 = (D 69 : Int)) (pf70 : F 66 5 = (D 70 : Int)) (pf71 : F 66 6 = (D 71 : Int)) (pf72 : F 66 7 = (D 72 : Int)) (pf73 : F 66 8 = (D 73 : Int)) (pf74 : F 66 9 = (D 74 : Int)) (pf75 : F 9 1 = (D 75 : Int)) (pf76 : F 75 0 = (D 76 : Int)) (pf77 : F 75 1 = (D 77 : Int)) (pf78 : F 75 2 = (D 78 : Int)) (pf79 : F 75 4 = (D 79 : Int)) (pf80 : F 75 5 = (D 80 : Int)) (pf81 : F 75 10 = (D 81 : Int)) (pf82 : F 75 11 = (D 82 : Int)) (pf83 : F 75 12 = (D 83 : Int)) (pf84 : F 75 6 = (D 84 : Int)) (pf85 : F 84 2 = (D 85 : Int)) (pf86 : F 84 3 = (D 86 : Int)) (pf87 : F 84 4 = (D 87 : Int)) (pf88 : F 84 5 = (D 88 : Int)) (pf89 : F 84 6 = (D 89 : Int)) (pf90 : F 84 7 = (D 90 : Int)) (pf91 : F 84 8 = (D 91 : Int)) (pf92 : F 84 9 = (D 92 : Int)) (pf93 : F 75 9 = (D 93 : Int)) (pf94 : F 9 5 = (D 94 : Int)) (n2 : Int) (en2 : (N 2 : Int) = n2) (n3 : Int) (en3 : (N 3 : Int) = n3) (n5 : Int) (en5 : (N 5 : Int) = n5) (n8 : Int) (en8 : (N 8 : Int) = n8) (n11 : Int) (en11 : (N 11 : Int) = n11) (n13 : Int) (en13 : (N 13 : Int) = n13) (n14 : Int) (en14 : (N 14 : Int) = n14) (n15 : Int) (en15 : (N 15 : Int) = n15) (n16 : Int) (en16 : (N 16 : Int) = n16) (n17 : Int) (en17 : (N 17 : Int) = n17) (n19 : Int) (en19 : (N 19 : Int) = n19) (n20 : Int) (en20 : (N 20 : Int) = n20) (n22 : Int) (en22 : (N 22 : Int) = n22) (n23 : Int) (en23 : (N 23 : Int) = n23) (n24 : Int) (en24 : (N 24 : Int) = n24) (n25 : Int) (en25 : (N 25 : Int) = n25) (n26 : Int) (en26 : (N 26 : Int) = n26) (n27 : Int) (en27 : (N 27 : Int) = n27) (n28 : Int) (en28 : (N 28 : Int) = n28) (n29 : Int) (en29 : (N 29 : Int) = n29) (n31 : Int) (en31 : (N 31 : Int) = n31) (n32 : Int) (en32 : (N 32 : Int) = n32) (n33 : Int) (en33 : (N 33 : Int) = n33) (n34 : Int) (en34 : (N 34 : Int) = n34) (n35 : Int) (en35 : (N 35 : Int) = n35) (n36 : Int) (en36 : (N 36 : Int) = n36) (n37 : Int) (en37 : (N 37 : Int) = n37) (n38 : Int) (en38 : (N 38 : Int) = n38) (n40 : Int) (en40 : (N 40 : Int) = n40) (n41 : Int) (en41 : (N 41 : Int) = n41) (n42 : Int) (en42 : (N 42 : Int) = n42) (n43 : Int) (en43 : (N 43 : Int) = n43) (n44 : Int) (en44 : (N 44 : Int) = n44) (n45 : Int) (en45 : (N 45 : Int) = n45) (n46 : Int) (en46 : (N 46 : Int) = n46) (n47 : Int) (en47 : (N 47 : Int) = n47) (n49 : Int) (en49 : (N 49 : Int) = n49) (n50 : Int) (en50 : (N 50 : Int) = n50) (n51 : Int) (en51 : (N 51 : Int) = n51) (n52 : Int) (en52 : (N 52 : Int) = n52) (n53 : Int) (en53 : (N 53 : Int) = n53) (n54 : Int) (en54 : (N 54 : Int) = n54) (n55 : Int) (en55 : (N 55 : Int) = n55) (n56 : Int) (en56 : (N 56 : Int) = n56) (n58 : Int) (en58 : (N 58 : Int) = n58) (n59 : Int) (en59 : (N 59 : Int) = n59) (n60 : Int) (en60 : (N 60 : Int) = n60) (n61 : Int) (en61 : (N 61 : Int) = n61) (n62 : Int) (en62 : (N 62 : Int) = n62) (n63 : Int) (en63 : (N 63 : Int) = n63) (n64 : Int) (en64 : (N 64 : Int) = n64) (n65 : Int) (en65 : (N 65 : Int) = n65) (n67 : Int) (en67 : (N 67 : Int) = n67) (n68 : Int) (en68 : (N 68 : Int) = n68) (n69 : Int) (en69 : (N 69 : Int) = n69) (n70 : Int) (en70 : (N 70 : Int) = n70) (n71 : Int) (en71 : (N 71 : Int) = n71) (n72 : Int) (en72 : (N 72 : Int) = n72) (n73 : Int) (en73 : (N 73 : Int) = n73) (n74 : Int) (en74 : (N 74 : Int) = n74) (n76 : Int) (en76 : (N 76 : Int) = n76) (n77 : Int) (en77 : (N 77 : Int) = n77) (n78 : Int) (en78 : (N 78 : Int) = n78) (n79 : Int) (en79 : (N 79 : Int) = n79) (n80 : Int) (en80 : (N 80 : Int) = n80) (n81 : Int) (en81 : (N 81 : Int) = n81) (n82 : Int) (en82 : (N 82 : Int) = n82) (n83 : Int) (en83 : (N 83 : Int) = n83) (n85 : Int) (en85 : (N 85 : Int) = n85) (n86 : Int) (en86 : (N 86 : Int) = n86) (n87 : Int) (en87 : (N 87 : Int) = n87) (n88 : Int) (en88 : (N 88 : Int) = n88) (n89 : Int) (en89 : (N 89 : Int) = n89) (n90 : Int) (en90 : (N 90 : Int) = n90) (n91 : Int) (en91 : (N 91 : Int) = n91) (n92 : Int) (en92 : (N 92 : Int) = n92) (u0_17 : Int) (eu0_17 : F 0 17 = u0_17) (u1_1 : Int) (eu1_1 : F 1 1 = u1_1) (u4_1 : Int) (eu4_1 : F 4 1 = u4_1) (u4_2 : Int) (eu4_2 : F 4 2 = u4_2) (u6_2 : Int) (eu6_2 : F 6 2 = u6_2) (u7_1 : Int) (eu7_1 : F 7 1 = u7_1) (u9_15 : Int) (eu9_15 : F 9 15 = u9_15) (u10_1 : Int) (eu10_1 : F 10 1 = u10_1) (u18_0 : Int) (eu18_0 : F 18 0 = u18_0) (u21_0 : Int) (eu21_0 : F 21 0 = u21_0) (u21_1 : Int) (eu21_1 : F 21 1 = u21_1) (u30_0 : Int) (eu30_0 : F 30 0 = u30_0) (u30_1 : Int) (eu30_1 : F 30 1 = u30_1) (u39_0 : Int) (eu39_0 : F 39 0 = u39_0) (u39_1 : Int) (eu39_1 : F 39 1 = u39_1) (u48_1 : Int) (eu48_1 : F 48 1 = u48_1) (u57_1 : Int) (eu57_1 : F 57 1 = u57_1) (u66_1 : Int) (eu66_1 : F 66 1 = u66_1) (u84_1 : Int) (eu84_1 : F 84 1 = u84_1) (w2 : Int → Int) (ew2 : A 2 = w2) (w3 : Int → Int) (ew3 : A 3 = w3) (w5 : Int → Int) (ew5 : A 5 = w5) (w8 : Int → Int) (ew8 : A 8 = w8) (w19 : Int → Int) (ew19 : A 19 = w19) (w20 : Int → Int) (ew20 : A 20 = w20) (w22 : Int → Int) (ew22 : A 22 = w22) (w23 : Int → Int) (ew23 : A 23 = w23) (w24 : Int → Int) (ew24 : A 24 = w24) (w25 : Int → Int) (ew25 : A 25 = w25) (w26 : Int → Int) (ew26 : A 26 = w26) (w27 : Int → Int) (ew27 : A 27 = w27) (w28 : Int → Int) (ew28 : A 28 = w28) (w31 : Int → Int) (ew31 : A 31 = w31) (w32 : Int → Int) (ew32 : A 32 = w32) (w33 : Int → Int) (ew33 : A 33 = w33) (w34 : Int → Int) (ew34 : A 34 = w34) (w35 : Int → Int) (ew35 : A 35 = w35) (w36 : Int → Int) (ew36 : A 36 = w36) (w37 : Int → Int) (ew37 : A 37 = w37) (w40 : Int → Int) (ew40 : A 40 = w40) (w41 : Int → Int) (ew41 : A 41 = w41) (w42 : Int → Int) (ew42 : A 42 = w42) (w43 : Int → Int) (ew43 : A 43 = w43) (w44 : Int → Int) (ew44 : A 44 = w44) (w45 : Int → Int) (ew45 : A 45 = w45) (w46 : Int → Int) (ew46 : A 46 = w46) (w78 : Int → Int) (ew78 : A 78 = w78) (Dc : DcS) {ls : rO} (hl0 : rlook ls 0 = some (.ref (D 0))) (hl1 : rlook ls 1 = some (.ref (D 1))) (hl3 : rlook ls 3 = some (I (x3))) (hl4 : rlook ls 4 = some (.ref (D 2))) (h0 : inr (x3)) (h1 : 0 ≤ (u1_1) ∧ (u1_1) ≤ (n3) ∧ (n3) ≤ 65536) (h2 : 0 ≤ (u4_1) ∧ (u4_1) ≤ (n5) ∧ (n5) ≤ 65536) (h3 : 0 ≤ (u7_1) ∧ (u7_1) ≤ (n8) ∧ (n8) ≤ 65536) (h4 : 0 ≤ (x3) ∧ (x3) ≤ 65536) (h5 : 0 ≤ (u9_15)) (h6 : 0 ≤ (u10_1) ∧ (u10_1) ≤ (n11) ∧ (n11) ≤ 65536) (h7 : (n2) = 5 ∧ (n13) = 3 ∧ (n14) = 3 ∧ (n15) = 3 ∧ (n16) = 3 ∧ (n17) = 3 ∧ (n19) = 3 ∧ (n20) = 3) (h8 : SL ((w22)) ((u21_1)) ((u21_0)) ((w23)) ((w24)) ((w25)) ((w26)) ((w27)) ((w28))) (h9 : SZD ((n22)) ((n23)) ((n24)) ((n25)) ((n29)) ((n26)) ((n27)) ((n28)) ((u21_1)) ((u21_0))) (h10 : (u21_1) ≤ 36) (h11 : SL ((w31)) ((u30_1)) ((u30_0)) ((w32)) ((w33)) ((w34)) ((w35)) ((w36)) ((w37))) (h12 : SZD ((n31)) ((n32)) ((n33)) ((n34)) ((n38)) ((n35)) ((n36)) ((n37)) ((u30_1)) ((u30_0))) (h13 : (u30_1) ≤ 32) (h14 : SL ((w40)) ((u39_1)) ((u39_0)) ((w41)) ((w42)) ((w43)) ((w44)) ((w45)) ((w46))) (h15 : SZD ((n40)) ((n41)) ((n42)) ((n43)) ((n47)) ((n44)) ((n45)) ((n46)) ((u39_1)) ((u39_0))) (h16 : (u39_1) ≤ 53) (h17 : SHZD ((n49)) ((n50)) ((n51)) ((n52)) ((n53)) ((n54)) ((n55)) ((n56)) ((u48_1)) 36 512) (h18 : SHZD ((n58)) ((n59)) ((n60)) ((n61)) ((n62)) ((n63)) ((n64)) ((n65)) ((u57_1)) 32 256) (h19 : SHZD ((n67)) ((n68)) ((n69)) ((n70)) ((n71)) ((n72)) ((n73)) ((n74)) ((u66_1)) 53 512) (h20 : CDZD ((n76)) ((n77)) ((n78)) ((n79)) ((n80)) ((n81)) ((n82)) ((n83))) (h21 : SHZD ((n85)) ((n86)) ((n87)) ((n88)) ((n89)) ((n90)) ((n91)) ((n92)) ((u84_1)) 12 64) (h22 : CEL ((w78))) (h23 : (u18_0) = -1) (h24 : ((w19)) 0 = -1) (h25 : ((w19)) 1 = -1) (h26 : ((w19)) 2 = -1) (h27 : (u4_1) = 0) (h28 : (u4_2) = 0) (h29 : 1 ≤ ((w20)) 0 ∧ 1 ≤ ((w20)) 1 ∧ 1 ≤ ((w20)) 2) (h30 : SHX (KNX 0) ((u21_0)) ((u21_1)) ((w22))) (h31 : SHX (KNX 1) ((u30_0)) ((u30_1)) ((w31))) (h32 : SHX (KNX 2) ((u39_0)) ((u39_1)) ((w40))) (h33 : DCK Dc (sc ((w8)) 0 ((u7_1))) ((u6_2)) ((w20))) (h34 : Dc.2.2.1.1 = 0) (h35 : (Dc.2.2.2.1 0).1 < 0) (h36 : (Dc.2.2.2.1 1).1 < 0) (h37 : (Dc.2.2.2.1 2).1 < 0) (h38 : (u4_1) = 0) (h39 : DCo Dc) (k : ∀ (z : Int) (σ : rS) (D' N' : Nat → Nat) (F' : hF) (A' : hA) (c' s' : Nat), HW V32_Row_Ir_vb4n σ D' N' F' A' → OUT (V32_Row_Ir_vb4n).length D N σE c s D' N' σ c' s' → SD [5, 11] D D' → SD [5, 11] N N' → SF [(0, 17), (4, 0), (4, 1), (4, 2), (9, 7), (9, 8), (9, 9), (9, 10), (9, 11), (9, 12), (9, 13), (9, 14), (9, 15), (9, 16), (9, 17), (9, 18), (9, 19), (9, 20), (9, 21), (10, 0), (10, 1), (10, 2), (10, 3), (10, 4), (12, 0), (48, 0), (48, 10), (48, 11), (48, 12), (57, 0), (57, 10), (57, 11), (57, 12), (66, 0), (66, 10), (66, 11), (66, 12), (75, 3), (84, 0), (84, 10), (84, 11), (84, 12), (93, 0), (93, 1), (93, 2), (94, 0), (94, 1), (94, 2)] F F' → SA [2, 5, 11, 13, 14, 15, 49, 50, 51, 52, 53, 54, 55, 56, 58, 59, 60, 61, 62, 63, 64, 65, 67, 68, 69, 70, 71, 72, 73, 74, 76, 77, 78, 79, 85, 86, 87, 88, 89, 90, 91, 92] A A' → F' 4 0 = (D' 5 : Int) → F' 10 0 = (D' 11 : Int) → ∀ m5 : Int, (N' 5 : Int) = m5 → ∀ m11 : Int, (N' 11 : Int) = m11 → ∀ y0_17 : Int, F' 0 17 = y0_17 → ∀ y4_1 : Int, F' 4 1 = y4_1 → ∀ y4_2 : Int, F' 4 2 = y4_2 → ∀ y9_15 : Int, F' 9 15 = y9_15 → ∀ y10_1 : Int, F' 10 1 = y10_1 → ∀ v2 : Int → Int, A' 2 = v2 → ∀ v5 : Int → Int, A' 5 = v5 → ∀ v78 : Int → Int, A' 78 = v78 → (inr (z)) → (0 ≤ (y4_1) ∧ (y4_1) ≤ (m5) ∧ (m5) ≤ 65536) → (0 ≤ (y10_1) ∧ (y10_1) ≤ (m11) ∧ (m11) ≤ 65536) → (0 ≤ (y9_15)) → (CEL ((v78))) → (((v2)) 3 = (y4_1)) → ((y4_2) = 0) → ((y4_2) = 0) → (((v2)) 3 = (y4_1)) → (RDQ 4 (sc ((w3)) 0 ((u1_1))) [] Dc ((x3)) ((z)) ((y0_17)) (sc ((v5)) 0 ((y4_1)))) → (CN5 (RDS (ap (sc ((w3)) 0 ((u1_1)))) ((sc ((w3)) 0 ((u1_1))).length : Int) ((x3)) Dc) (((v2)) 0, ((v2)) 1, ((v2)) 2, (y4_1), ((v2)) 4)) → (0 ≤ (RDS (ap (sc ((w3)) 0 ((u1_1)))) ((sc ((w3)) 0 ((u1_1))).length : Int) ((x3)) Dc).1) → Q (some (I z)) σ c' s') : Ew 32 (d + 7) 160 ls [.ref (D 9)] σE c s Q := by
  have O := OUT_refl (n := (V32_Row_Ir_vb4n).length) (D := D) (N := N) (σ := σE) (c := c) (s := s)
  have HE := H
  have r1 : HID ((-2147483648 : Int) ≤ u0_17 ∧ u0_17 ≤ 2147483647) := krg_e (show (-2147483648 : Int) ≤ F 0 17 ∧ F 0 17 ≤ 2147483647 from H.krg 0 17 (by decide)) (show F 0 17 = u0_17 from (eu0_17))
  have r2 : HID ((-2147483648 : Int) ≤ u1_1 ∧ u1_1 ≤ 2147483647) := krg_e (show (-2147483648 : Int) ≤ F 1 1 ∧ F 1 1 ≤ 2147483647 from H.krg 1 1 (by decide)) (show F 1 1 = u1_1 from (eu1_1))
  have r3 : HID ((-2147483648 : Int) ≤ u4_1 ∧ u4_1 ≤ 2147483647) := krg_e (show (-2147483648 : Int) ≤ F 4 1 ∧ F 4 1 ≤ 2147483647 from H.krg 4 1 (by decide)) (show F 4 1 = u4_1 from (eu4_1))
  have r4 : HID ((0 : Int) ≤ u4_2 ∧ u4_2 ≤ 1) := krg_e (show (0 : Int) ≤ F 4 2 ∧ F 4 2 ≤ 1 from H.krg 4 2 (by decide)) (show F 4 2 = u4_2 from (eu4_2))
  have r5 : HID ((-2147483648 : Int) ≤ u6_2 ∧ u6_2 ≤ 2147483647) := krg_e (show (-2147483648 : Int) ≤ F 6 2 ∧ F 6 2 ≤ 2147483647 from H.krg 6 2 (by decide)) (show F 6 2 = u6_2 from (eu6_2))
  have r6 : HID ((-2147483648 : Int) ≤ u7_1 ∧ u7_1 ≤ 2147483647) := krg_e (show (-2147483648 : Int) ≤ F 7 1 ∧ F 7 1 ≤ 2147483647 from H.krg 7 1 (by decide)) (show F 7 1 = u7_1 from (eu7_1))
  have r7 : HID ((-9223372036854775808 : Int) ≤ u9_15 ∧ u9_15 ≤ 9223372036854775807) := krg_e (show (-9223372036854775808 : Int) ≤ F 9 15 ∧ F 9 15 ≤ 9223372036854775807 from H.krg 9 15 (by decide)) (show F 9 15 = u9_15 from (eu9_15))
  have r8 : HID ((-2147483648 : Int) ≤ u10_1 ∧ u10_1 ≤ 2147483647) := krg_e (show (-2147483648 : Int) ≤ F 10 1 ∧ F 10 1 ≤ 2147483647 from H.krg 10 1 (by decide)) (show F 10 1 = u10_1 from (eu10_1))
  have r9 : HID ((-2147483648 : Int) ≤ u21_0 ∧ u21_0 ≤ 2147483647) := krg_e (show (-2147483648 : Int) ≤ F 21 0 ∧ F 21 0 ≤ 2147483647 from H.krg 21 0 (by decide)) (show F 21 0 = u21_0 from (eu21_0))
  have r10 : HID ((-2147483648 : Int) ≤ u21_1 ∧ u21_1 ≤ 2147483647) := krg_e (show (-2147483648 : Int) ≤ F 21 1 ∧ F 21 1 ≤ 2147483647 from H.krg 21 1 (by decide)) (show F 21 1 = u21_1 from (eu21_1))
  have r11 : HID ((-2147483648 : Int) ≤ u30_0 ∧ u30_0 ≤ 2147483647) := krg_e (show (-2147483648 : Int) ≤ F 30 0 ∧ F 30 0 ≤ 2147483647 from H.krg 30 0 (by decide)) (show F 30 0 = u30_0 from (eu30_0))
  have r12 : HID ((-2147483648 : Int) ≤ u30_1 ∧ u30_1 ≤ 2147483647) := krg_e (show (-2147483648 : Int) ≤ F 30 1 ∧ F 30 1 ≤ 2147483647 from H.krg 30 1 (by decide)) (show F 30 1 = u30_1 from (eu30_1))
  have r13 : HID ((-2147483648 : Int) ≤ u39_0 ∧ u39_0 ≤ 2147483647) := krg_e (show (-2147483648 : Int) ≤ F 39 0 ∧ F 39 0 ≤ 2147483647 from H.krg 39 0 (by decide)) (show F 39 0 = u39_0 from (eu39_0))
  have r14 : HID ((-2147483648 : Int) ≤ u39_1 ∧ u39_1 ≤ 2147483647) := krg_e (show (-2147483648 : Int) ≤ F 39 1 ∧ F 39 1 ≤ 2147483647 from H.krg 39 1 (by decide)) (show F 39 1 = u39_1 from (eu39_1))
  have r15 : HID ((-2147483648 : Int) ≤ u48_1 ∧ u48_1 ≤ 2147483647) := krg_e (show (-2147483648 : Int) ≤ F 48 1 ∧ F 48 1 ≤ 2147483647 from H.krg 48 1 (by decide)) (show F 48 1 = u48_1 from (eu48_1))
  have r16 : HID ((-2147483648 : Int) ≤ u57_1 ∧ u57_1 ≤ 2147483647) := krg_e (show (-2147483648 : Int) ≤ F 57 1 ∧ F 57 1 ≤ 2147483647 from H.krg 57 1 (by decide)) (show F 57 1 = u57_1 from (eu57_1))
  have r17 : HID ((-2147483648 : Int) ≤ u66_1 ∧ u66_1 ≤ 2147483647) := krg_e (show (-2147483648 : Int) ≤ F 66 1 ∧ F 66 1 ≤ 2147483647 from H.krg 66 1 (by decide)) (show F 66 1 = u66_1 from (eu66_1))
  have r18 : HID ((-2147483648 : Int) ≤ u84_1 ∧ u84_1 ≤ 2147483647) := krg_e (show (-2147483648 : Int) ≤ F 84 1 ∧ F 84 1 ≤ 2147483647 from H.krg 84 1 (by decide)) (show F 84 1 = u84_1 from (eu84_1))
  replace pf3 := HIDm pf3
  replace pf4 := HIDm pf4
  replace pf5 := HIDm pf5
  replace pf6 := HIDm pf6
  replace pf7 := HIDm pf7
  replace pf8 := HIDm pf8
  replace pf9 := HIDm pf9
  replace pf10 := HIDm pf10
  replace pf11 := HIDm pf11
  replace pf12 := HIDm pf12
  replace pf13 := HIDm pf13
  replace pf14 := HIDm pf14
  replace pf15 := HIDm pf15
  replace pf16 := HIDm pf16
  replace pf17 := HIDm pf17
  replace pf18 := HIDm pf18
  replace pf19 := HIDm pf19
  replace pf20 := HIDm pf20
  replace pf21 := HIDm pf21
  replace pf22 := HIDm pf22
  replace pf23 := HIDm pf23
  replace pf24 := HIDm pf24
  replace pf25 := HIDm pf25
  replace pf26 := HIDm pf26
  replace pf27 := HIDm pf27
  replace pf28 := HIDm pf28
  replace pf29 := HIDm pf29
  replace pf30 := HIDm pf30
  replace pf31 := HIDm pf31
  replace pf32 := HIDm pf32
  replace pf33 := HIDm pf33
  replace pf34 := HIDm pf34
  replace pf35 := HIDm pf35
  replace pf36 := HIDm pf36
  replace pf37 := HIDm pf37
  replace pf38 := HIDm pf38
  replace pf39 := HIDm pf39
  replace pf40 := HIDm pf40
  replace pf41 := HIDm pf41
  replace pf42 := HIDm pf42
  replace pf43 := HIDm pf43
  replace pf44 := HIDm pf44
  replace pf45 := HIDm pf45
  replace pf46 := HIDm pf46
  replace pf47 := HIDm pf47
  replace pf48 := HIDm pf48
  replace pf49 := HIDm pf49
  replace pf50 := HIDm pf50
  replace pf51 := HIDm pf51
  replace pf52 := HIDm pf52
  replace pf53 := HIDm pf53
  replace pf54 := HIDm pf54
  replace pf55 := HIDm pf55
  replace pf56 := HIDm pf56
  replace pf57 := HIDm pf57
  replace pf58 := HIDm pf58
  replace pf59 := HIDm pf59
  replace pf60 := HIDm pf60
  replace pf61 := HIDm pf61
  replace pf62 := HIDm pf62
  replace pf63 := HIDm pf63
  replace pf64 := HIDm pf64
  replace pf65 := HIDm pf65
  replace pf66 := HIDm pf66
  replace pf67 := HIDm pf67
  replace pf68 := HIDm pf68
  replace pf69 := HIDm pf69
  replace pf70 := HIDm pf70
  replace pf71 := HIDm pf71
  replace pf72 := HIDm pf72
  replace pf73 := HIDm pf73
  replace pf74 := HIDm pf74
  replace pf75 := HIDm pf75
  replace pf76 := HIDm pf76
  replace pf77 := HIDm pf77
  replace pf78 := HIDm pf78
  replace pf79 := HIDm pf79
  replace pf80 := HIDm pf80
  replace pf81 := HIDm pf81
  replace pf82 := HIDm pf82
  replace pf83 := HIDm pf83
  replace pf84 := HIDm pf84
  replace pf85 := HIDm pf85
  replace pf86 := HIDm pf86
  replace pf87 := HIDm pf87
  replace pf88 := HIDm pf88
  replace pf89 := HIDm pf89
  replace pf90 := HIDm pf90
  replace pf91 := HIDm pf91
  replace pf92 := HIDm pf92
  replace pf93 := HIDm pf93
  replace pf94 := HIDm pf94
  replace en2 := HIDm en2
  replace en3 := HIDm en3
  replace en5 := HIDm en5
  replace en8 := HIDm en8
  replace en11 := HIDm en11
  replace en13 := HIDm en13
  replace en14 := HIDm en14
  replace en15 := HIDm en15
  replace en16 := HIDm en16
  replace en17 := HIDm en17
  replace en19 := HIDm en19
  replace en20 := HIDm en20
  replace en22 := HIDm en22
  replace en23 := HIDm en23
  replace en24 := HIDm en24
  replace en25 := HIDm en25
  replace en26 := HIDm en26
  replace en27 := HIDm en27
  replace en28 := HIDm en28
  replace en29 := HIDm en29
  replace en31 := HIDm en31
  replace en32 := HIDm en32
  replace en33 := HIDm en33
  replace en34 := HIDm en34
  replace en35 := HIDm en35
  replace en36 := HIDm en36
  replace en37 := HIDm en37
  replace en38 := HIDm en38
  replace en40 := HIDm en40
  replace en41 := HIDm en41
  replace en42 := HIDm en42
  replace en43 := HIDm en43
  replace en44 := HIDm en44
  replace en45 := HIDm en45
  replace en46 := HIDm en46
  replace en47 := HIDm en47
  replace en49 := HIDm en49
  replace en50 := HIDm en50
  replace en51 := HIDm en51
  replace en52 := HIDm en52
  replace en53 := HIDm en53
  replace en54 := HIDm en54
  replace en55 := HIDm en55
  replace en56 := HIDm en56
  replace en58 := HIDm en58
  replace en59 := HIDm en59
  replace en60 := HIDm en60
  replace en61 := HIDm en61
  replace en62 := HIDm en62
  replace en63 := HIDm en63
  replace en64 := HIDm en64
  replace en65 := HIDm en65
  replace en67 := HIDm en67
  replace en68 := HIDm en68
  replace en69 := HIDm en69
  replace en70 := HIDm en70
  replace en71 := HIDm en71
  replace en72 := HIDm en72
  replace en73 := HIDm en73
  replace en74 := HIDm en74
  replace en76 := HIDm en76
  replace en77 := HIDm en77
  replace en78 := HIDm en78
  replace en79 := HIDm en79
  replace en80 := HIDm en80
  replace en81 := HIDm en81
  replace en82 := HIDm en82
  replace en83 := HIDm en83
  replace en85 := HIDm en85
  replace en86 := HIDm en86
  replace en87 := HIDm en87
  replace en88 := HIDm en88
  replace en89 := HIDm en89
  replace en90 := HIDm en90
  replace en91 := HIDm en91
  replace en92 := HIDm en92
  replace eu0_17 := HIDm eu0_17
  replace eu1_1 := HIDm eu1_1
  replace eu4_1 := HIDm eu4_1
  replace eu4_2 := HIDm eu4_2
  replace eu6_2 := HIDm eu6_2
  replace eu7_1 := HIDm eu7_1
  replace eu9_15 := HIDm eu9_15
  replace eu10_1 := HIDm eu10_1
  replace eu18_0 := HIDm eu18_0
  replace eu21_0 := HIDm eu21_0
  replace eu21_1 := HIDm eu21_1
  replace eu30_0 := HIDm eu30_0
  replace eu30_1 := HIDm eu30_1
  replace eu39_0 := HIDm eu39_0
  replace eu39_1 := HIDm eu39_1
  replace eu48_1 := HIDm eu48_1
  replace eu57_1 := HIDm eu57_1
  replace eu66_1 := HIDm eu66_1
  replace eu84_1 := HIDm eu84_1
  have r19 : HID ((0 : Int) ≤ n2 ∧ n2 ≤ 1000000) := nrng (H.nle 2 (by decide)) (show (N 2 : Int) = n2 from en2)
  have r20 : HID ((0 : Int) ≤ n3 ∧ n3 ≤ 1000000) := nrng (H.nle 3 (by decide)) (show (N 3 : Int) = n3 from en3)
  have r21 : HID ((0 : Int) ≤ n5 ∧ n5 ≤ 1000000) := nrng (H.nle 5 (by decide)) (show (N 5 : Int) = n5 from en5)
  have r22 : HID ((0 : Int) ≤ n8 ∧ n8 ≤ 1000000) := nrng (H.nle 8 (by decide)) (show (N 8 : Int) = n8 from en8)
  have r23 : HID ((0 : Int) ≤ n11 ∧ n11 ≤ 1000000) := nrng (H.nle 11 (by decide)) (show (N 11 : Int) = n11 from en11)
  have r24 : HID ((0 : Int) ≤ n13 ∧ n13 ≤ 1000000) := nrng (H.nle 13 (by decide)) (show (N 13 : Int) = n13 from en13)
  have r25 : HID ((0 : Int) ≤ n14 ∧ n14 ≤ 1000000) := nrng (H.nle 14 (by decide)) (show (N 14 : Int) = n14 from en14)
  have r26 : HID ((0 : Int) ≤ n15 ∧ n15 ≤ 1000000) := nrng (H.nle 15 (by decide)) (show (N 15 : Int) = n15 from en15)
  have r27 : HID ((0 : Int) ≤ n16 ∧ n16 ≤ 1000000) := nrng (H.nle 16 (by decide)) (show (N 16 : Int) = n16 from en16)
  have r28 : HID ((0 : Int) ≤ n17 ∧ n17 ≤ 1000000) := nrng (H.nle 17 (by decide)) (show (N 17 : Int) = n17 from en17)
  have r29 : HID ((0 : Int) ≤ n19 ∧ n19 ≤ 1000000) := nrng (H.nle 19 (by decide)) (show (N 19 : Int) = n19 from en19)
  have r30 : HID ((0 : Int) ≤ n20 ∧ n20 ≤ 1000000) := nrng (H.nle 20 (by decide)) (show (N 20 : Int) = n20 from en20)
  have r31 : HID ((0 : Int) ≤ n22 ∧ n22 ≤ 1000000) := nrng (H.nle 22 (by decide)) (show (N 22 : Int) = n22 from en22)
  have r32 : HID ((0 : Int) ≤ n23 ∧ n23 ≤ 1000000) := nrng (H.nle 23 (by decide)) (show (N 23 : Int) = n23 from en23)
  have r33 : HID ((0 : Int) ≤ n24 ∧ n24 ≤ 1000000) := nrng (H.nle 24 (by decide)) (show (N 24 : Int) = n24 from en24)
  have r34 : HID ((0 : Int) ≤ n25 ∧ n25 ≤ 1000000) := nrng (H.nle 25 (by decide)) (show (N 25 : Int) = n25 from en25)
  have r35 : HID ((0 : Int) ≤ n26 ∧ n26 ≤ 1000000) := nrng (H.nle 26 (by decide)) (show (N 26 : Int) = n26 from en26)
  have r36 : HID ((0 : Int) ≤ n27 ∧ n27 ≤ 1000000) := nrng (H.nle 27 (by decide)) (show (N 27 : Int) = n27 from en27)
  have r37 : HID ((0 : Int) ≤ n28 ∧ n28 ≤ 1000000) := nrng (H.nle 28 (by decide)) (show (N 28 : Int) = n28 from en28)
  have r38 : HID ((0 : Int) ≤ n29 ∧ n29 ≤ 1000000) := nrng (H.nle 29 (by decide)) (show (N 29 : Int) = n29 from en29)
  have r39 : HID ((0 : Int) ≤ n31 ∧ n31 ≤ 1000000) := nrng (H.nle 31 (by decide)) (show (N 31 : Int) = n31 from en31)
  have r40 : HID ((0 : Int) ≤ n32 ∧ n32 ≤ 1000000) := nrng (H.nle 32 (by decide)) (show (N 32 : Int) = n32 from en32)
  have r41 : HID ((0 : Int) ≤ n33 ∧ n33 ≤ 1000000) := nrng (H.nle 33 (by decide)) (show (N 33 : Int) = n33 from en33)
  have r42 : HID ((0 : Int) ≤ n34 ∧ n34 ≤ 1000000) := nrng (H.nle 34 (by decide)) (show (N 34 : Int) = n34 from en34)
  have r43 : HID ((0 : Int) ≤ n35 ∧ n35 ≤ 1000000) := nrng (H.nle 35 (by decide)) (show (N 35 : Int) = n35 from en35)
  have r44 : HID ((0 : Int) ≤ n36 ∧ n36 ≤ 1000000) := nrng (H.nle 36 (by decide)) (show (N 36 : Int) = n36 from en36)
  have r45 : HID ((0 : Int) ≤ n37 ∧ n37 ≤ 1000000) := nrng (H.nle 37 (by decide)) (show (N 37 : Int) = n37 from en37)
  have r46 : HID ((0 : Int) ≤ n38 ∧ n38 ≤ 1000000) := nrng (H.nle 38 (by decide)) (show (N 38 : Int) = n38 from en38)
  have r47 : HID ((0 : Int) ≤ n40 ∧ n40 ≤ 1000000) := nrng (H.nle 40 (by decide)) (show (N 40 : Int) = n40 from en40)
  have r48 : HID ((0 : Int) ≤ n41 ∧ n41 ≤ 1000000) := nrng (H.nle 41 (by decide)) (show (N 41 : Int) = n41 from en41)
  have r49 : HID ((0 : Int) ≤ n42 ∧ n42 ≤ 1000000) := nrng (H.nle 42 (by decide)) (show (N 42 : Int) = n42 from en42)
  have r50 : HID ((0 : Int) ≤ n43 ∧ n43 ≤ 1000000) := nrng (H.nle 43 (by decide)) (show (N 43 : Int) = n43 from en43)
  have r51 : HID ((0 : Int) ≤ n44 ∧ n44 ≤ 1000000) := nrng (H.nle 44 (by decide)) (show (N 44 : Int) = n44 from en44)
  have r52 : HID ((0 : Int) ≤ n45 ∧ n45 ≤ 1000000) := nrng (H.nle 45 (by decide)) (show (N 45 : Int) = n45 from en45)
  have r53 : HID ((0 : Int) ≤ n46 ∧ n46 ≤ 1000000) := nrng (H.nle 46 (by decide)) (show (N 46 : Int) = n46 from en46)
  have r54 : HID ((0 : Int) ≤ n47 ∧ n47 ≤ 1000000) := nrng (H.nle 47 (by decide)) (show (N 47 : Int) = n47 from en47)
  have r55 : HID ((0 : Int) ≤ n49 ∧ n49 ≤ 1000000) := nrng (H.nle 49 (by decide)) (show (N 49 : Int) = n49 from en49)
  have r56 : HID ((0 : Int) ≤ n50 ∧ n50 ≤ 1000000) := nrng (H.nle 50 (by decide)) (show (N 50 : Int) = n50 from en50)
  have r57 : HID ((0 : Int) ≤ n51 ∧ n51 ≤ 1000000) := nrng (H.nle 51 (by decide)) (show (N 51 : Int) = n51 from en51)
  have r58 : HID ((0 : Int) ≤ n52 ∧ n52 ≤ 1000000) := nrng (H.nle 52 (by decide)) (show (N 52 : Int) = n52 from en52)
  have r59 : HID ((0 : Int) ≤ n53 ∧ n53 ≤ 1000000) := nrng (H.nle 53 (by decide)) (show (N 53 : Int) = n53 from en53)
  have r60 : HID ((0 : Int) ≤ n54 ∧ n54 ≤ 1000000) := nrng (H.nle 54 (by decide)) (show (N 54 : Int) = n54 from en54)
  have r61 : HID ((0 : Int) ≤ n55 ∧ n55 ≤ 1000000) := nrng (H.nle 55 (by decide)) (show (N 55 : Int) = n55 from en55)
  have r62 : HID ((0 : Int) ≤ n56 ∧ n56 ≤ 1000000) := nrng (H.nle 56 (by decide)) (show (N 56 : Int) = n56 from en56)
  have r63 : HID ((0 : Int) ≤ n58 ∧ n58 ≤ 1000000) := nrng (H.nle 58 (by decide)) (show (N 58 : Int) = n58 from en58)
  have r64 : HID ((0 : Int) ≤ n59 ∧ n59 ≤ 1000000) := nrng (H.nle 59 (by decide)) (show (N 59 : Int) = n59 from en59)
  have r65 : HID ((0 : Int) ≤ n60 ∧ n60 ≤ 1000000) := nrng (H.nle 60 (by decide)) (show (N 60 : Int) = n60 from en60)
  have r66 : HID ((0 : Int) ≤ n61 ∧ n61 ≤ 1000000) := nrng (H.nle 61 (by decide)) (show (N 61 : Int) = n61 from en61)
  have r67 : HID ((0 : Int) ≤ n62 ∧ n62 ≤ 1000000) := nrng (H.nle 62 (by decide)) (show (N 62 : Int) = n62 from en62)
  have r68 : HID ((0 : Int) ≤ n63 ∧ n63 ≤ 1000000) := nrng (H.nle 63 (by decide)) (show (N 63 : Int) = n63 from en63)
  have r69 : HID ((0 : Int) ≤ n64 ∧ n64 ≤ 1000000) := nrng (H.nle 64 (by decide)) (show (N 64 : Int) = n64 from en64)
  have r70 : HID ((0 : Int) ≤ n65 ∧ n65 ≤ 1000000) := nrng (H.nle 65 (by decide)) (show (N 65 : Int) = n65 from en65)
  have r71 : HID ((0 : Int) ≤ n67 ∧ n67 ≤ 1000000) := nrng (H.nle 67 (by decide)) (show (N 67 : Int) = n67 from en67)
  have r72 : HID ((0 : Int) ≤ n68 ∧ n68 ≤ 1000000) := nrng (H.nle 68 (by decide)) (show (N 68 : Int) = n68 from en68)
  have r73 : HID ((0 : Int) ≤ n69 ∧ n69 ≤ 1000000) := nrng (H.nle 69 (by decide)) (show (N 69 : Int) = n69 from en69)
  have r74 : HID ((0 : Int) ≤ n70 ∧ n70 ≤ 1000000) := nrng (H.nle 70 (by decide)) (show (N 70 : Int) = n70 from en70)
  have r75 : HID ((0 : Int) ≤ n71 ∧ n71 ≤ 1000000) := nrng (H.nle 71 (by decide)) (show (N 71 : Int) = n71 from en71)
  have r76 : HID ((0 : Int) ≤ n72 ∧ n72 ≤ 1000000) := nrng (H.nle 72 (by decide)) (show (N 72 : Int) = n72 from en72)
  have r77 : HID ((0 : Int) ≤ n73 ∧ n73 ≤ 1000000) := nrng (H.nle 73 (by decide)) (show (N 73 : Int) = n73 from en73)
  have r78 : HID ((0 : Int) ≤ n74 ∧ n74 ≤ 1000000) := nrng (H.nle 74 (by decide)) (show (N 74 : Int) = n74 from en74)
  have r79 : HID ((0 : Int) ≤ n76 ∧ n76 ≤ 1000000) := nrng (H.nle 76 (by decide)) (show (N 76 : Int) = n76 from en76)
  have r80 : HID ((0 : Int) ≤ n77 ∧ n77 ≤ 1000000) := nrng (H.nle 77 (by decide)) (show (N 77 : Int) = n77 from en77)
  have r81 : HID ((0 : Int) ≤ n78 ∧ n78 ≤ 1000000) := nrng (H.nle 78 (by decide)) (show (N 78 : Int) = n78 from en78)
  have r82 : HID ((0 : Int) ≤ n79 ∧ n79 ≤ 1000000) := nrng (H.nle 79 (by decide)) (show (N 79 : Int) = n79 from en79)
  have r83 : HID ((0 : Int) ≤ n80 ∧ n80 ≤ 1000000) := nrng (H.nle 80 (by decide)) (show (N 80 : Int) = n80 from en80)
  have r84 : HID ((0 : Int) ≤ n81 ∧ n81 ≤ 1000000) := nrng (H.nle 81 (by decide)) (show (N 81 : Int) = n81 from en81)
  have r85 : HID ((0 : Int) ≤ n82 ∧ n82 ≤ 1000000) := nrng (H.nle 82 (by decide)) (show (N 82 : Int) = n82 from en82)
  have r86 : HID ((0 : Int) ≤ n83 ∧ n83 ≤ 1000000) := nrng (H.nle 83 (by decide)) (show (N 83 : Int) = n83 from en83)
  have r87 : HID ((0 : Int) ≤ n85 ∧ n85 ≤ 1000000) := nrng (H.nle 85 (by decide)) (show (N 85 : Int) = n85 from en85)
  have r88 : HID ((0 : Int) ≤ n86 ∧ n86 ≤ 1000000) := nrng (H.nle 86 (by decide)) (show (N 86 : Int) = n86 from en86)
  have r89 : HID ((0 : Int) ≤ n87 ∧ n87 ≤ 1000000) := nrng (H.nle 87 (by decide)) (show (N 87 : Int) = n87 from en87)
  have r90 : HID ((0 : Int) ≤ n88 ∧ n88 ≤ 1000000) := nrng (H.nle 88 (by decide)) (show (N 88 : Int) = n88 from en88)
  have r91 : HID ((0 : Int) ≤ n89 ∧ n89 ≤ 1000000) := nrng (H.nle 89 (by decide)) (show (N 89 : Int) = n89 from en89)
  have r92 : HID ((0 : Int) ≤ n90 ∧ n90 ≤ 1000000) := nrng (H.nle 90 (by decide)) (show (N 90 : Int) = n90 from en90)
  have r93 : HID ((0 : Int) ≤ n91 ∧ n91 ≤ 1000000) := nrng (H.nle 91 (by decide)) (show (N 91 : Int) = n91 from en91)
  have r94 : HID ((0 : Int) ≤ n92 ∧ n92 ≤ 1000000) := nrng (H.nle 92 (by decide)) (show (N 92 : Int) = n92 from en92)
  refine Ew_of (pc' := 161) (fun _ => x_aload_n rfl hl1) ?_
  refine Ew_of (pc' := 162) (fun _ => x_aload_n rfl hl0) ?_
  refine v_g H (o := 0) (v := .ref (D 4)) rfl rfl rfl rfl rfl (vrf (pf4)) ?_
  refine Ew_of (pc' := 166) (fun _ => x_iload_n rfl hl3) ?_
  refine Ew_of (pc' := 167) (fun _ => x_aload_n rfl hl0) ?_
  refine v_g H (o := 0) (v := .ref (D 6)) rfl rfl rfl rfl rfl (vrf (pf6)) ?_
  refine Ew_of (pc' := 172) (fun _ => x_aload rfl hl4) ?_
  have r95 : HID ((-2147483648 : Int) ≤ F 9 21 ∧ F 9 21 ≤ 2147483647) := krg_e (show (-2147483648 : Int) ≤ F 9 21 ∧ F 9 21 ≤ 2147483647 from H.krg 9 21 (by decide)) (show F 9 21 = F 9 21 from rfl)
  refine v_inv H (o := 9) rfl rfl rfl rfl rfl rfl (by rfl) (C233_Row_Row_Dictionary_Ir_vn (D := pul [9, 1, 4, 6, 2, 3, 5, 7, 8, 10, 11, 12, 13, 14, 15, 16, 17, 18, 19, 20, 21, 22, 23, 24, 25, 26, 27, 28, 29, 30, 31, 32, 33, 34, 35, 36, 37, 38, 39, 40, 41, 42, 43, 44, 45, 46, 47, 48, 49, 50, 51, 52, 53, 54, 55, 56, 57, 58, 59, 60, 61, 62, 63, 64, 65, 66, 67, 68, 69, 70, 71, 72, 73, 74, 75, 76, 77, 78, 79, 80, 81, 82, 83, 84, 85, 86, 87, 88, 89, 90, 91, 92, 93, 94] D) (N := pul [9, 1, 4, 6, 2, 3, 5, 7, 8, 10, 11, 12, 13, 14, 15, 16, 17, 18, 19, 20, 21, 22, 23, 24, 25, 26, 27, 28, 29, 30, 31, 32, 33, 34, 35, 36, 37, 38, 39, 40, 41, 42, 43, 44, 45, 46, 47, 48, 49, 50, 51, 52, 53, 54, 55, 56, 57, 58, 59, 60, 61, 62, 63, 64, 65, 66, 67, 68, 69, 70, 71, 72, 73, 74, 75, 76, 77, 78, 79, 80, 81, 82, 83, 84, 85, 86, 87, 88, 89, 90, 91, 92, 93, 94] N) (HW_sub H (VS_of (show vsub V32_Row_Ir_vb4n V233_Row_Row_Dictionary_Ir_vn [9, 1, 4, 6, 2, 3, 5, 7, 8, 10, 11, 12, 13, 14, 15, 16, 17, 18, 19, 20, 21, 22, 23, 24, 25, 26, 27, 28, 29, 30, 31, 32, 33, 34, 35, 36, 37, 38, 39, 40, 41, 42, 43, 44, 45, 46, 47, 48, 49, 50, 51, 52, 53, 54, 55, 56, 57, 58, 59, 60, 61, 62, 63, 64, 65, 66, 67, 68, 69, 70, 71, 72, 73, 74, 75, 76, 77, 78, 79, 80, 81, 82, 83, 84, 85, 86, 87, 88, 89, 90, 91, 92, 93, 94] = true by decide +kernel))) (STC_out HT HE O) (pf3) (pf5) (pf7) (pf8) (pf10) (pf11) (pf12) (pf13) (pf14) (pf15) (pf16) (pf17) (pf18) (pf19) (pf20) (pf21) (pf22) (pf23) (pf24) (pf25) (pf26) (pf27) (pf28) (pf29) (pf30) (pf31) (pf32) (pf33) (pf34) (pf35) (pf36) (pf37) (pf38) (pf39) (pf40) (pf41) (pf42) (pf43) (pf44) (pf45) (pf46) (pf47) (pf48) (pf49) (pf50) (pf51) (pf52) (pf53) (pf54) (pf55) (pf56) (pf57) (pf58) (pf59) (pf60) (pf61) (pf62) (pf63) (pf64) (pf65) (pf66) (pf67) (pf68) (pf69) (pf70) (pf71) (pf72) (pf73) (pf74) (pf75) (pf76) (pf77) (pf78) (pf79) (pf80) (pf81) (pf82) (pf83) (pf84) (pf85) (pf86) (pf87) (pf88) (pf89) (pf90) (pf91) (pf92) (pf93) (pf94) (n2) (en2) (n3) (en3) (n5) (en5) (n8) (en8) (n11) (en11) (n13) (en13) (n14) (en14) (n15) (en15) (n16) (en16) (n17) (en17) (n19) (en19) (n20) (en20) (n22) (en22) (n23) (en23) (n24) (en24) (n25) (en25) (n26) (en26) (n27) (en27) (n28) (en28) (n29) (en29) (n31) (en31) (n32) (en32) (n33) (en33) (n34) (en34) (n35) (en35) (n36) (en36) (n37) (en37) (n38) (en38) (n40) (en40) (n41) (en41) (n42) (en42) (n43) (en43) (n44) (en44) (n45) (en45) (n46) (en46) (n47) (en47) (n49) (en49) (n50) (en50) (n51) (en51) (n52) (en52) (n53) (en53) (n54) (en54) (n55) (en55) (n56) (en56) (n58) (en58) (n59) (en59) (n60) (en60) (n61) (en61) (n62) (en62) (n63) (en63) (n64) (en64) (n65) (en65) (n67) (en67) (n68) (en68) (n69) (en69) (n70) (en70) (n71) (en71) (n72) (en72) (n73) (en73) (n74) (en74) (n76) (en76) (n77) (en77) (n78) (en78) (n79) (en79) (n80) (en80) (n81) (en81) (n82) (en82) (n83) (en83) (n85) (en85) (n86) (en86) (n87) (en87) (n88) (en88) (n89) (en89) (n90) (en90) (n91) (en91) (n92) (en92) (u9_15) ((eu9_15)) (F 9 21) (rfl) (u1_1) ((eu1_1)) (u4_1) ((eu4_1)) (u4_2) ((eu4_2)) (u6_2) ((eu6_2)) (u7_1) ((eu7_1)) (u10_1) ((eu10_1)) (u18_0) ((eu18_0)) (u21_0) ((eu21_0)) (u21_1) ((eu21_1)) (u30_0) ((eu30_0)) (u30_1) ((eu30_1)) (u39_0) ((eu39_0)) (u39_1) ((eu39_1)) (u48_1) ((eu48_1)) (u57_1) ((eu57_1)) (u66_1) ((eu66_1)) (u84_1) ((eu84_1)) (w2) (ew2) (w3) (ew3) (w5) (ew5) (w8) (ew8) (w19) (ew19) (w20) (ew20) (w22) (ew22) (w23) (ew23) (w24) (ew24) (w25) (ew25) (w26) (ew26) (w27) (ew27) (w28) (ew28) (w31) (ew31) (w32) (ew32) (w33) (ew33) (w34) (ew34) (w35) (ew35) (w36) (ew36) (w37) (ew37) (w40) (ew40) (w41) (ew41) (w42) (ew42) (w43) (ew43) (w44) (ew44) (w45) (ew45) (w46) (ew46) (w78) (ew78) (Dc) (show inr (x3) by omega) (show 0 ≤ (u1_1) ∧ (u1_1) ≤ (n3) ∧ (n3) ≤ 65536 by have qh0 := HIDe r2; have qh1 := HIDe r20; omega) (show 0 ≤ (u4_1) ∧ (u4_1) ≤ (n5) ∧ (n5) ≤ 65536 by have qh0 := HIDe r21; have qh1 := HIDe r3; omega) (show 0 ≤ (u7_1) ∧ (u7_1) ≤ (n8) ∧ (n8) ≤ 65536 by have qh0 := HIDe r22; have qh1 := HIDe r6; omega) (show 0 ≤ (x3) ∧ (x3) ≤ 65536 by omega) (show (u4_1) ≤ (x3) by have qh0 := HIDe r3; omega) (show 0 ≤ (u9_15) by have qh0 := HIDe r7; omega) (show 0 ≤ (u10_1) ∧ (u10_1) ≤ (n11) ∧ (n11) ≤ 65536 by have qh0 := HIDe r23; have qh1 := HIDe r8; omega) (show (n2) = 5 ∧ (n13) = 3 ∧ (n14) = 3 ∧ (n15) = 3 ∧ (n16) = 3 ∧ (n17) = 3 ∧ (n19) = 3 ∧ (n20) = 3 by have qh0 := HIDe r19; have qh1 := HIDe r24; have qh2 := HIDe r25; have qh3 := HIDe r26; have qh4 := HIDe r27; have qh5 := HIDe r28; have qh6 := HIDe r29; have qh7 := HIDe r30; omega) (by assumption) (by assumption) (show (u21_1) ≤ 36 by have qh0 := HIDe r10; omega) (by assumption) (by assumption) (show (u30_1) ≤ 32 by have qh0 := HIDe r12; omega) (by assumption) (by assumption) (show (u39_1) ≤ 53 by have qh0 := HIDe r14; omega) (by assumption) (by assumption) (by assumption) (by assumption) (by assumption) (show CEL ((w78)) by assumption) (show (u18_0) = -1 by omega) (show ((w19)) 0 = -1 by omega) (show ((w19)) 1 = -1 by omega) (show ((w19)) 2 = -1 by omega) (show (u4_1) = 0 by have qh0 := HIDe r3; omega) (show (u4_2) = 0 by have qh0 := HIDe r4; omega) (show 1 ≤ ((w20)) 0 ∧ 1 ≤ ((w20)) 1 ∧ 1 ≤ ((w20)) 2 by omega) (show SHX (KNX 0) ((u21_0)) ((u21_1)) ((w22)) by assumption) (show SHX (KNX 1) ((u30_0)) ((u30_1)) ((w31)) by assumption) (show SHX (KNX 2) ((u39_0)) ((u39_1)) ((w40)) by assumption) (show DCK (Dc) (sc ((w8)) 0 ((u7_1))) ((u6_2)) ((w20)) by assumption) (show (Dc).2.2.1.1 = 0 by assumption) (show ((Dc).2.2.2.1 0).1 < 0 by assumption) (show ((Dc).2.2.2.1 1).1 < 0 by assumption) (show ((Dc).2.2.2.1 2).1 < 0 by assumption) (fun z96 σ96 D96' N96' F96' A96' c96 s96 H' O' hD96 hN96 hS96 hA96 pm96_6 pm96_10 m96_6 em96_6 m96_10 em96_10 y96_0_15 ey96_0_15 y96_0_21 ey96_0_21 y96_2_1 ey96_2_1 y96_2_2 ey96_2_2 y96_9_1 ey96_9_1 w96_4 ew96_4 w96_6 ew96_6 w96_77 ew96_77 pz96_0 pz96_1 pz96_2 pz96_3 pz96_4 pz96_5 pz96_6 pz96_7 pz96_8 pz96_9 pz96_10 => ⟨rfl, ?_⟩))
  replace pm96_6 := HIDm pm96_6
  replace pm96_10 := HIDm pm96_10
  replace em96_6 := HIDm em96_6
  replace em96_10 := HIDm em96_10
  replace ey96_0_15 := HIDm ey96_0_15
  replace ey96_0_21 := HIDm ey96_0_21
  replace ey96_2_1 := HIDm ey96_2_1
  replace ey96_2_2 := HIDm ey96_2_2
  replace ey96_9_1 := HIDm ey96_9_1
  refine v_backM (c := c) (s := s) H (show vsub V32_Row_Ir_vb4n V233_Row_Row_Dictionary_Ir_vn [9, 1, 4, 6, 2, 3, 5, 7, 8, 10, 11, 12, 13, 14, 15, 16, 17, 18, 19, 20, 21, 22, 23, 24, 25, 26, 27, 28, 29, 30, 31, 32, 33, 34, 35, 36, 37, 38, 39, 40, 41, 42, 43, 44, 45, 46, 47, 48, 49, 50, 51, 52, 53, 54, 55, 56, 57, 58, 59, 60, 61, 62, 63, 64, 65, 66, 67, 68, 69, 70, 71, 72, 73, 74, 75, 76, 77, 78, 79, 80, 81, 82, 83, 84, 85, 86, 87, 88, 89, 90, 91, 92, 93, 94] = true by decide +kernel) H' O' hD96 (show vmov V32_Row_Ir_vb4n [9, 1, 4, 6, 2, 3, 5, 7, 8, 10, 11, 12, 13, 14, 15, 16, 17, 18, 19, 20, 21, 22, 23, 24, 25, 26, 27, 28, 29, 30, 31, 32, 33, 34, 35, 36, 37, 38, 39, 40, 41, 42, 43, 44, 45, 46, 47, 48, 49, 50, 51, 52, 53, 54, 55, 56, 57, 58, 59, 60, 61, 62, 63, 64, 65, 66, 67, 68, 69, 70, 71, 72, 73, 74, 75, 76, 77, 78, 79, 80, 81, 82, 83, 84, 85, 86, 87, 88, 89, 90, 91, 92, 93, 94] [6, 10] = true by decide +kernel) (fun D96 N96 F96 A96 H O' eD96 eN96 eF96 eA96 => ?_)
  have O := OUT_trans O O'
  -- Unpacker.unpackFrames
  have pe96_16_0 : HID (A96 16 0 = (D96 21 : Int)) := (congrFun ((show A96 16 = A 16 from (eA96 16).trans (funext (hA96 15 rfl)))) 0).trans ((pf21).trans (congrArg (fun q : Nat => (q : Int)) ((show D96 21 = D 21 from (eD96 21).trans (hD96 20 rfl))).symm))
  have pe96_16_1 : HID (A96 16 1 = (D96 30 : Int)) := (congrFun ((show A96 16 = A 16 from (eA96 16).trans (funext (hA96 15 rfl)))) 1).trans ((pf30).trans (congrArg (fun q : Nat => (q : Int)) ((show D96 30 = D 30 from (eD96 30).trans (hD96 29 rfl))).symm))
  have pe96_16_2 : HID (A96 16 2 = (D96 39 : Int)) := (congrFun ((show A96 16 = A 16 from (eA96 16).trans (funext (hA96 15 rfl)))) 2).trans ((pf39).trans (congrArg (fun q : Nat => (q : Int)) ((show D96 39 = D 39 from (eD96 39).trans (hD96 38 rfl))).symm))
  have pe96_17_0 : HID (A96 17 0 = (D96 48 : Int)) := (congrFun ((show A96 17 = A 17 from (eA96 17).trans (funext (hA96 16 rfl)))) 0).trans ((pf48).trans (congrArg (fun q : Nat => (q : Int)) ((show D96 48 = D 48 from (eD96 48).trans (hD96 47 rfl))).symm))
  have pe96_17_1 : HID (A96 17 1 = (D96 57 : Int)) := (congrFun ((show A96 17 = A 17 from (eA96 17).trans (funext (hA96 16 rfl)))) 1).trans ((pf57).trans (congrArg (fun q : Nat => (q : Int)) ((show D96 57 = D 57 from (eD96 57).trans (hD96 56 rfl))).symm))
  have pe96_17_2 : HID (A96 17 2 = (D96 66 : Int)) := (congrFun ((show A96 17 = A 17 from (eA96 17).trans (funext (hA96 16 rfl)))) 2).trans ((pf66).trans (congrArg (fun q : Nat => (q : Int)) ((show D96 66 = D 66 from (eD96 66).trans (hD96 65 rfl))).symm))
  have pf96_0_12 : HID (F96 0 12 = (D96 9 : Int)) := ((show F96 0 12 = F 0 12 from (eF96 0 12))).trans ((pf9).trans (congrArg (fun q : Nat => (q : Int)) ((show D96 9 = D 9 from (eD96 9).trans (hD96 0 rfl))).symm))
  have pf96_0_3 : HID (F96 0 3 = (D96 6 : Int)) := ((show F96 0 3 = F 0 3 from (eF96 0 3))).trans ((pf6).trans (congrArg (fun q : Nat => (q : Int)) ((show D96 6 = D 6 from (eD96 6).trans (hD96 3 rfl))).symm))
  have pf96_0_6 : HID (F96 0 6 = (D96 4 : Int)) := ((show F96 0 6 = F 0 6 from (eF96 0 6))).trans ((pf4).trans (congrArg (fun q : Nat => (q : Int)) ((show D96 4 = D 4 from (eD96 4).trans (hD96 2 rfl))).symm))
  have pf96_1_0 : HID (F96 1 0 = (D96 3 : Int)) := ((show F96 1 0 = F 1 0 from (eF96 1 0).trans (hS96 1 0 rfl))).trans ((pf3).trans (congrArg (fun q : Nat => (q : Int)) ((show D96 3 = D 3 from (eD96 3).trans (hD96 5 rfl))).symm))
  have pf96_10_0 : HID (F96 10 0 = (D96 11 : Int)) := (eF96 10 0).trans (pm96_10.trans (congrArg (fun q : Nat => (q : Int)) (eD96 11).symm))
  have pf96_12_1 : HID (F96 12 1 = (D96 15 : Int)) := ((show F96 12 1 = F 12 1 from (eF96 12 1).trans (hS96 11 1 rfl))).trans ((pf15).trans (congrArg (fun q : Nat => (q : Int)) ((show D96 15 = D 15 from (eD96 15).trans (hD96 14 rfl))).symm))
  have pf96_12_2 : HID (F96 12 2 = (D96 13 : Int)) := ((show F96 12 2 = F 12 2 from (eF96 12 2).trans (hS96 11 2 rfl))).trans ((pf13).trans (congrArg (fun q : Nat => (q : Int)) ((show D96 13 = D 13 from (eD96 13).trans (hD96 12 rfl))).symm))
  have pf96_18_1 : HID (F96 18 1 = (D96 19 : Int)) := ((show F96 18 1 = F 18 1 from (eF96 18 1).trans (hS96 17 1 rfl))).trans ((pf19).trans (congrArg (fun q : Nat => (q : Int)) ((show D96 19 = D 19 from (eD96 19).trans (hD96 18 rfl))).symm))
  have pf96_18_2 : HID (F96 18 2 = (D96 20 : Int)) := ((show F96 18 2 = F 18 2 from (eF96 18 2).trans (hS96 17 2 rfl))).trans ((pf20).trans (congrArg (fun q : Nat => (q : Int)) ((show D96 20 = D 20 from (eD96 20).trans (hD96 19 rfl))).symm))
  have pf96_21_2 : HID (F96 21 2 = (D96 22 : Int)) := ((show F96 21 2 = F 21 2 from (eF96 21 2).trans (hS96 20 2 rfl))).trans ((pf22).trans (congrArg (fun q : Nat => (q : Int)) ((show D96 22 = D 22 from (eD96 22).trans (hD96 21 rfl))).symm))
  have pf96_21_3 : HID (F96 21 3 = (D96 23 : Int)) := ((show F96 21 3 = F 21 3 from (eF96 21 3).trans (hS96 20 3 rfl))).trans ((pf23).trans (congrArg (fun q : Nat => (q : Int)) ((show D96 23 = D 23 from (eD96 23).trans (hD96 22 rfl))).symm))
  have pf96_21_4 : HID (F96 21 4 = (D96 24 : Int)) := ((show F96 21 4 = F 21 4 from (eF96 21 4).trans (hS96 20 4 rfl))).trans ((pf24).trans (congrArg (fun q : Nat => (q : Int)) ((show D96 24 = D 24 from (eD96 24).trans (hD96 23 rfl))).symm))
  have pf96_21_5 : HID (F96 21 5 = (D96 25 : Int)) := ((show F96 21 5 = F 21 5 from (eF96 21 5).trans (hS96 20 5 rfl))).trans ((pf25).trans (congrArg (fun q : Nat => (q : Int)) ((show D96 25 = D 25 from (eD96 25).trans (hD96 24 rfl))).symm))
  have pf96_21_6 : HID (F96 21 6 = (D96 29 : Int)) := ((show F96 21 6 = F 21 6 from (eF96 21 6).trans (hS96 20 6 rfl))).trans ((pf29).trans (congrArg (fun q : Nat => (q : Int)) ((show D96 29 = D 29 from (eD96 29).trans (hD96 28 rfl))).symm))
  have pf96_21_7 : HID (F96 21 7 = (D96 26 : Int)) := ((show F96 21 7 = F 21 7 from (eF96 21 7).trans (hS96 20 7 rfl))).trans ((pf26).trans (congrArg (fun q : Nat => (q : Int)) ((show D96 26 = D 26 from (eD96 26).trans (hD96 25 rfl))).symm))
  have pf96_21_8 : HID (F96 21 8 = (D96 27 : Int)) := ((show F96 21 8 = F 21 8 from (eF96 21 8).trans (hS96 20 8 rfl))).trans ((pf27).trans (congrArg (fun q : Nat => (q : Int)) ((show D96 27 = D 27 from (eD96 27).trans (hD96 26 rfl))).symm))
  have pf96_21_9 : HID (F96 21 9 = (D96 28 : Int)) := ((show F96 21 9 = F 21 9 from (eF96 21 9).trans (hS96 20 9 rfl))).trans ((pf28).trans (congrArg (fun q : Nat => (q : Int)) ((show D96 28 = D 28 from (eD96 28).trans (hD96 27 rfl))).symm))
  have pf96_30_2 : HID (F96 30 2 = (D96 31 : Int)) := ((show F96 30 2 = F 30 2 from (eF96 30 2).trans (hS96 29 2 rfl))).trans ((pf31).trans (congrArg (fun q : Nat => (q : Int)) ((show D96 31 = D 31 from (eD96 31).trans (hD96 30 rfl))).symm))
  have pf96_30_3 : HID (F96 30 3 = (D96 32 : Int)) := ((show F96 30 3 = F 30 3 from (eF96 30 3).trans (hS96 29 3 rfl))).trans ((pf32).trans (congrArg (fun q : Nat => (q : Int)) ((show D96 32 = D 32 from (eD96 32).trans (hD96 31 rfl))).symm))
  have pf96_30_4 : HID (F96 30 4 = (D96 33 : Int)) := ((show F96 30 4 = F 30 4 from (eF96 30 4).trans (hS96 29 4 rfl))).trans ((pf33).trans (congrArg (fun q : Nat => (q : Int)) ((show D96 33 = D 33 from (eD96 33).trans (hD96 32 rfl))).symm))
  have pf96_30_5 : HID (F96 30 5 = (D96 34 : Int)) := ((show F96 30 5 = F 30 5 from (eF96 30 5).trans (hS96 29 5 rfl))).trans ((pf34).trans (congrArg (fun q : Nat => (q : Int)) ((show D96 34 = D 34 from (eD96 34).trans (hD96 33 rfl))).symm))
  have pf96_30_6 : HID (F96 30 6 = (D96 38 : Int)) := ((show F96 30 6 = F 30 6 from (eF96 30 6).trans (hS96 29 6 rfl))).trans ((pf38).trans (congrArg (fun q : Nat => (q : Int)) ((show D96 38 = D 38 from (eD96 38).trans (hD96 37 rfl))).symm))
  have pf96_30_7 : HID (F96 30 7 = (D96 35 : Int)) := ((show F96 30 7 = F 30 7 from (eF96 30 7).trans (hS96 29 7 rfl))).trans ((pf35).trans (congrArg (fun q : Nat => (q : Int)) ((show D96 35 = D 35 from (eD96 35).trans (hD96 34 rfl))).symm))
  have pf96_30_8 : HID (F96 30 8 = (D96 36 : Int)) := ((show F96 30 8 = F 30 8 from (eF96 30 8).trans (hS96 29 8 rfl))).trans ((pf36).trans (congrArg (fun q : Nat => (q : Int)) ((show D96 36 = D 36 from (eD96 36).trans (hD96 35 rfl))).symm))
  have pf96_30_9 : HID (F96 30 9 = (D96 37 : Int)) := ((show F96 30 9 = F 30 9 from (eF96 30 9).trans (hS96 29 9 rfl))).trans ((pf37).trans (congrArg (fun q : Nat => (q : Int)) ((show D96 37 = D 37 from (eD96 37).trans (hD96 36 rfl))).symm))
  have pf96_39_2 : HID (F96 39 2 = (D96 40 : Int)) := ((show F96 39 2 = F 39 2 from (eF96 39 2).trans (hS96 38 2 rfl))).trans ((pf40).trans (congrArg (fun q : Nat => (q : Int)) ((show D96 40 = D 40 from (eD96 40).trans (hD96 39 rfl))).symm))
  have pf96_39_3 : HID (F96 39 3 = (D96 41 : Int)) := ((show F96 39 3 = F 39 3 from (eF96 39 3).trans (hS96 38 3 rfl))).trans ((pf41).trans (congrArg (fun q : Nat => (q : Int)) ((show D96 41 = D 41 from (eD96 41).trans (hD96 40 rfl))).symm))
  have pf96_39_4 : HID (F96 39 4 = (D96 42 : Int)) := ((show F96 39 4 = F 39 4 from (eF96 39 4).trans (hS96 38 4 rfl))).trans ((pf42).trans (congrArg (fun q : Nat => (q : Int)) ((show D96 42 = D 42 from (eD96 42).trans (hD96 41 rfl))).symm))
  have pf96_39_5 : HID (F96 39 5 = (D96 43 : Int)) := ((show F96 39 5 = F 39 5 from (eF96 39 5).trans (hS96 38 5 rfl))).trans ((pf43).trans (congrArg (fun q : Nat => (q : Int)) ((show D96 43 = D 43 from (eD96 43).trans (hD96 42 rfl))).symm))
  have pf96_39_6 : HID (F96 39 6 = (D96 47 : Int)) := ((show F96 39 6 = F 39 6 from (eF96 39 6).trans (hS96 38 6 rfl))).trans ((pf47).trans (congrArg (fun q : Nat => (q : Int)) ((show D96 47 = D 47 from (eD96 47).trans (hD96 46 rfl))).symm))
  have pf96_39_7 : HID (F96 39 7 = (D96 44 : Int)) := ((show F96 39 7 = F 39 7 from (eF96 39 7).trans (hS96 38 7 rfl))).trans ((pf44).trans (congrArg (fun q : Nat => (q : Int)) ((show D96 44 = D 44 from (eD96 44).trans (hD96 43 rfl))).symm))
  have pf96_39_8 : HID (F96 39 8 = (D96 45 : Int)) := ((show F96 39 8 = F 39 8 from (eF96 39 8).trans (hS96 38 8 rfl))).trans ((pf45).trans (congrArg (fun q : Nat => (q : Int)) ((show D96 45 = D 45 from (eD96 45).trans (hD96 44 rfl))).symm))
  have pf96_39_9 : HID (F96 39 9 = (D96 46 : Int)) := ((show F96 39 9 = F 39 9 from (eF96 39 9).trans (hS96 38 9 rfl))).trans ((pf46).trans (congrArg (fun q : Nat => (q : Int)) ((show D96 46 = D 46 from (eD96 46).trans (hD96 45 rfl))).symm))
  have pf96_4_0 : HID (F96 4 0 = (D96 5 : Int)) := (eF96 4 0).trans (pm96_6.trans (congrArg (fun q : Nat => (q : Int)) (eD96 5).symm))
  have pf96_48_2 : HID (F96 48 2 = (D96 49 : Int)) := ((show F96 48 2 = F 48 2 from (eF96 48 2).trans (hS96 47 2 rfl))).trans ((pf49).trans (congrArg (fun q : Nat => (q : Int)) ((show D96 49 = D 49 from (eD96 49).trans (hD96 48 rfl))).symm))
  have pf96_48_3 : HID (F96 48 3 = (D96 50 : Int)) := ((show F96 48 3 = F 48 3 from (eF96 48 3).trans (hS96 47 3 rfl))).trans ((pf50).trans (congrArg (fun q : Nat => (q : Int)) ((show D96 50 = D 50 from (eD96 50).trans (hD96 49 rfl))).symm))
  have pf96_48_4 : HID (F96 48 4 = (D96 51 : Int)) := ((show F96 48 4 = F 48 4 from (eF96 48 4).trans (hS96 47 4 rfl))).trans ((pf51).trans (congrArg (fun q : Nat => (q : Int)) ((show D96 51 = D 51 from (eD96 51).trans (hD96 50 rfl))).symm))
  have pf96_48_5 : HID (F96 48 5 = (D96 52 : Int)) := ((show F96 48 5 = F 48 5 from (eF96 48 5).trans (hS96 47 5 rfl))).trans ((pf52).trans (congrArg (fun q : Nat => (q : Int)) ((show D96 52 = D 52 from (eD96 52).trans (hD96 51 rfl))).symm))
  have pf96_48_6 : HID (F96 48 6 = (D96 53 : Int)) := ((show F96 48 6 = F 48 6 from (eF96 48 6).trans (hS96 47 6 rfl))).trans ((pf53).trans (congrArg (fun q : Nat => (q : Int)) ((show D96 53 = D 53 from (eD96 53).trans (hD96 52 rfl))).symm))
  have pf96_48_7 : HID (F96 48 7 = (D96 54 : Int)) := ((show F96 48 7 = F 48 7 from (eF96 48 7).trans (hS96 47 7 rfl))).trans ((pf54).trans (congrArg (fun q : Nat => (q : Int)) ((show D96 54 = D 54 from (eD96 54).trans (hD96 53 rfl))).symm))
  have pf96_48_8 : HID (F96 48 8 = (D96 55 : Int)) := ((show F96 48 8 = F 48 8 from (eF96 48 8).trans (hS96 47 8 rfl))).trans ((pf55).trans (congrArg (fun q : Nat => (q : Int)) ((show D96 55 = D 55 from (eD96 55).trans (hD96 54 rfl))).symm))
  have pf96_48_9 : HID (F96 48 9 = (D96 56 : Int)) := ((show F96 48 9 = F 48 9 from (eF96 48 9).trans (hS96 47 9 rfl))).trans ((pf56).trans (congrArg (fun q : Nat => (q : Int)) ((show D96 56 = D 56 from (eD96 56).trans (hD96 55 rfl))).symm))
  have pf96_57_2 : HID (F96 57 2 = (D96 58 : Int)) := ((show F96 57 2 = F 57 2 from (eF96 57 2).trans (hS96 56 2 rfl))).trans ((pf58).trans (congrArg (fun q : Nat => (q : Int)) ((show D96 58 = D 58 from (eD96 58).trans (hD96 57 rfl))).symm))
  have pf96_57_3 : HID (F96 57 3 = (D96 59 : Int)) := ((show F96 57 3 = F 57 3 from (eF96 57 3).trans (hS96 56 3 rfl))).trans ((pf59).trans (congrArg (fun q : Nat => (q : Int)) ((show D96 59 = D 59 from (eD96 59).trans (hD96 58 rfl))).symm))
  have pf96_57_4 : HID (F96 57 4 = (D96 60 : Int)) := ((show F96 57 4 = F 57 4 from (eF96 57 4).trans (hS96 56 4 rfl))).trans ((pf60).trans (congrArg (fun q : Nat => (q : Int)) ((show D96 60 = D 60 from (eD96 60).trans (hD96 59 rfl))).symm))
  have pf96_57_5 : HID (F96 57 5 = (D96 61 : Int)) := ((show F96 57 5 = F 57 5 from (eF96 57 5).trans (hS96 56 5 rfl))).trans ((pf61).trans (congrArg (fun q : Nat => (q : Int)) ((show D96 61 = D 61 from (eD96 61).trans (hD96 60 rfl))).symm))
  have pf96_57_6 : HID (F96 57 6 = (D96 62 : Int)) := ((show F96 57 6 = F 57 6 from (eF96 57 6).trans (hS96 56 6 rfl))).trans ((pf62).trans (congrArg (fun q : Nat => (q : Int)) ((show D96 62 = D 62 from (eD96 62).trans (hD96 61 rfl))).symm))
  have pf96_57_7 : HID (F96 57 7 = (D96 63 : Int)) := ((show F96 57 7 = F 57 7 from (eF96 57 7).trans (hS96 56 7 rfl))).trans ((pf63).trans (congrArg (fun q : Nat => (q : Int)) ((show D96 63 = D 63 from (eD96 63).trans (hD96 62 rfl))).symm))
  have pf96_57_8 : HID (F96 57 8 = (D96 64 : Int)) := ((show F96 57 8 = F 57 8 from (eF96 57 8).trans (hS96 56 8 rfl))).trans ((pf64).trans (congrArg (fun q : Nat => (q : Int)) ((show D96 64 = D 64 from (eD96 64).trans (hD96 63 rfl))).symm))
  have pf96_57_9 : HID (F96 57 9 = (D96 65 : Int)) := ((show F96 57 9 = F 57 9 from (eF96 57 9).trans (hS96 56 9 rfl))).trans ((pf65).trans (congrArg (fun q : Nat => (q : Int)) ((show D96 65 = D 65 from (eD96 65).trans (hD96 64 rfl))).symm))
  have pf96_6_0 : HID (F96 6 0 = (D96 7 : Int)) := ((show F96 6 0 = F 6 0 from (eF96 6 0).trans (hS96 3 0 rfl))).trans ((pf7).trans (congrArg (fun q : Nat => (q : Int)) ((show D96 7 = D 7 from (eD96 7).trans (hD96 7 rfl))).symm))
  have pf96_6_1 : HID (F96 6 1 = (D96 18 : Int)) := ((show F96 6 1 = F 6 1 from (eF96 6 1).trans (hS96 3 1 rfl))).trans ((pf18).trans (congrArg (fun q : Nat => (q : Int)) ((show D96 18 = D 18 from (eD96 18).trans (hD96 17 rfl))).symm))
  have pf96_66_2 : HID (F96 66 2 = (D96 67 : Int)) := ((show F96 66 2 = F 66 2 from (eF96 66 2).trans (hS96 65 2 rfl))).trans ((pf67).trans (congrArg (fun q : Nat => (q : Int)) ((show D96 67 = D 67 from (eD96 67).trans (hD96 66 rfl))).symm))
  have pf96_66_3 : HID (F96 66 3 = (D96 68 : Int)) := ((show F96 66 3 = F 66 3 from (eF96 66 3).trans (hS96 65 3 rfl))).trans ((pf68).trans (congrArg (fun q : Nat => (q : Int)) ((show D96 68 = D 68 from (eD96 68).trans (hD96 67 rfl))).symm))
  have pf96_66_4 : HID (F96 66 4 = (D96 69 : Int)) := ((show F96 66 4 = F 66 4 from (eF96 66 4).trans (hS96 65 4 rfl))).trans ((pf69).trans (congrArg (fun q : Nat => (q : Int)) ((show D96 69 = D 69 from (eD96 69).trans (hD96 68 rfl))).symm))
  have pf96_66_5 : HID (F96 66 5 = (D96 70 : Int)) := ((show F96 66 5 = F 66 5 from (eF96 66 5).trans (hS96 65 5 rfl))).trans ((pf70).trans (congrArg (fun q : Nat => (q : Int)) ((show D96 70 = D 70 from (eD96 70).trans (hD96 69 rfl))).symm))
  have pf96_66_6 : HID (F96 66 6 = (D96 71 : Int)) := ((show F96 66 6 = F 66 6 from (eF96 66 6).trans (hS96 65 6 rfl))).trans ((pf71).trans (congrArg (fun q : Nat => (q : Int)) ((show D96 71 = D 71 from (eD96 71).trans (hD96 70 rfl))).symm))
  have pf96_66_7 : HID (F96 66 7 = (D96 72 : Int)) := ((show F96 66 7 = F 66 7 from (eF96 66 7).trans (hS96 65 7 rfl))).trans ((pf72).trans (congrArg (fun q : Nat => (q : Int)) ((show D96 72 = D 72 from (eD96 72).trans (hD96 71 rfl))).symm))
  have pf96_66_8 : HID (F96 66 8 = (D96 73 : Int)) := ((show F96 66 8 = F 66 8 from (eF96 66 8).trans (hS96 65 8 rfl))).trans ((pf73).trans (congrArg (fun q : Nat => (q : Int)) ((show D96 73 = D 73 from (eD96 73).trans (hD96 72 rfl))).symm))
  have pf96_66_9 : HID (F96 66 9 = (D96 74 : Int)) := ((show F96 66 9 = F 66 9 from (eF96 66 9).trans (hS96 65 9 rfl))).trans ((pf74).trans (congrArg (fun q : Nat => (q : Int)) ((show D96 74 = D 74 from (eD96 74).trans (hD96 73 rfl))).symm))
  have pf96_7_0 : HID (F96 7 0 = (D96 8 : Int)) := ((show F96 7 0 = F 7 0 from (eF96 7 0).trans (hS96 7 0 rfl))).trans ((pf8).trans (congrArg (fun q : Nat => (q : Int)) ((show D96 8 = D 8 from (eD96 8).trans (hD96 8 rfl))).symm))
  have pf96_75_0 : HID (F96 75 0 = (D96 76 : Int)) := ((show F96 75 0 = F 75 0 from (eF96 75 0).trans (hS96 74 0 rfl))).trans ((pf76).trans (congrArg (fun q : Nat => (q : Int)) ((show D96 76 = D 76 from (eD96 76).trans (hD96 75 rfl))).symm))
  have pf96_75_1 : HID (F96 75 1 = (D96 77 : Int)) := ((show F96 75 1 = F 75 1 from (eF96 75 1).trans (hS96 74 1 rfl))).trans ((pf77).trans (congrArg (fun q : Nat => (q : Int)) ((show D96 77 = D 77 from (eD96 77).trans (hD96 76 rfl))).symm))
  have pf96_75_10 : HID (F96 75 10 = (D96 81 : Int)) := ((show F96 75 10 = F 75 10 from (eF96 75 10).trans (hS96 74 10 rfl))).trans ((pf81).trans (congrArg (fun q : Nat => (q : Int)) ((show D96 81 = D 81 from (eD96 81).trans (hD96 80 rfl))).symm))
  have pf96_75_11 : HID (F96 75 11 = (D96 82 : Int)) := ((show F96 75 11 = F 75 11 from (eF96 75 11).trans (hS96 74 11 rfl))).trans ((pf82).trans (congrArg (fun q : Nat => (q : Int)) ((show D96 82 = D 82 from (eD96 82).trans (hD96 81 rfl))).symm))
  have pf96_75_12 : HID (F96 75 12 = (D96 83 : Int)) := ((show F96 75 12 = F 75 12 from (eF96 75 12).trans (hS96 74 12 rfl))).trans ((pf83).trans (congrArg (fun q : Nat => (q : Int)) ((show D96 83 = D 83 from (eD96 83).trans (hD96 82 rfl))).symm))
  have pf96_75_2 : HID (F96 75 2 = (D96 78 : Int)) := ((show F96 75 2 = F 75 2 from (eF96 75 2).trans (hS96 74 2 rfl))).trans ((pf78).trans (congrArg (fun q : Nat => (q : Int)) ((show D96 78 = D 78 from (eD96 78).trans (hD96 77 rfl))).symm))
  have pf96_75_4 : HID (F96 75 4 = (D96 79 : Int)) := ((show F96 75 4 = F 75 4 from (eF96 75 4).trans (hS96 74 4 rfl))).trans ((pf79).trans (congrArg (fun q : Nat => (q : Int)) ((show D96 79 = D 79 from (eD96 79).trans (hD96 78 rfl))).symm))
  have pf96_75_5 : HID (F96 75 5 = (D96 80 : Int)) := ((show F96 75 5 = F 75 5 from (eF96 75 5).trans (hS96 74 5 rfl))).trans ((pf80).trans (congrArg (fun q : Nat => (q : Int)) ((show D96 80 = D 80 from (eD96 80).trans (hD96 79 rfl))).symm))
  have pf96_75_6 : HID (F96 75 6 = (D96 84 : Int)) := ((show F96 75 6 = F 75 6 from (eF96 75 6).trans (hS96 74 6 rfl))).trans ((pf84).trans (congrArg (fun q : Nat => (q : Int)) ((show D96 84 = D 84 from (eD96 84).trans (hD96 83 rfl))).symm))
  have pf96_75_9 : HID (F96 75 9 = (D96 93 : Int)) := ((show F96 75 9 = F 75 9 from (eF96 75 9).trans (hS96 74 9 rfl))).trans ((pf93).trans (congrArg (fun q : Nat => (q : Int)) ((show D96 93 = D 93 from (eD96 93).trans (hD96 92 rfl))).symm))
  have pf96_84_2 : HID (F96 84 2 = (D96 85 : Int)) := ((show F96 84 2 = F 84 2 from (eF96 84 2).trans (hS96 83 2 rfl))).trans ((pf85).trans (congrArg (fun q : Nat => (q : Int)) ((show D96 85 = D 85 from (eD96 85).trans (hD96 84 rfl))).symm))
  have pf96_84_3 : HID (F96 84 3 = (D96 86 : Int)) := ((show F96 84 3 = F 84 3 from (eF96 84 3).trans (hS96 83 3 rfl))).trans ((pf86).trans (congrArg (fun q : Nat => (q : Int)) ((show D96 86 = D 86 from (eD96 86).trans (hD96 85 rfl))).symm))
  have pf96_84_4 : HID (F96 84 4 = (D96 87 : Int)) := ((show F96 84 4 = F 84 4 from (eF96 84 4).trans (hS96 83 4 rfl))).trans ((pf87).trans (congrArg (fun q : Nat => (q : Int)) ((show D96 87 = D 87 from (eD96 87).trans (hD96 86 rfl))).symm))
  have pf96_84_5 : HID (F96 84 5 = (D96 88 : Int)) := ((show F96 84 5 = F 84 5 from (eF96 84 5).trans (hS96 83 5 rfl))).trans ((pf88).trans (congrArg (fun q : Nat => (q : Int)) ((show D96 88 = D 88 from (eD96 88).trans (hD96 87 rfl))).symm))
  have pf96_84_6 : HID (F96 84 6 = (D96 89 : Int)) := ((show F96 84 6 = F 84 6 from (eF96 84 6).trans (hS96 83 6 rfl))).trans ((pf89).trans (congrArg (fun q : Nat => (q : Int)) ((show D96 89 = D 89 from (eD96 89).trans (hD96 88 rfl))).symm))
  have pf96_84_7 : HID (F96 84 7 = (D96 90 : Int)) := ((show F96 84 7 = F 84 7 from (eF96 84 7).trans (hS96 83 7 rfl))).trans ((pf90).trans (congrArg (fun q : Nat => (q : Int)) ((show D96 90 = D 90 from (eD96 90).trans (hD96 89 rfl))).symm))
  have pf96_84_8 : HID (F96 84 8 = (D96 91 : Int)) := ((show F96 84 8 = F 84 8 from (eF96 84 8).trans (hS96 83 8 rfl))).trans ((pf91).trans (congrArg (fun q : Nat => (q : Int)) ((show D96 91 = D 91 from (eD96 91).trans (hD96 90 rfl))).symm))
  have pf96_84_9 : HID (F96 84 9 = (D96 92 : Int)) := ((show F96 84 9 = F 84 9 from (eF96 84 9).trans (hS96 83 9 rfl))).trans ((pf92).trans (congrArg (fun q : Nat => (q : Int)) ((show D96 92 = D 92 from (eD96 92).trans (hD96 91 rfl))).symm))
  have pf96_9_0 : HID (F96 9 0 = (D96 16 : Int)) := ((show F96 9 0 = F 9 0 from (eF96 9 0).trans (hS96 0 0 rfl))).trans ((pf16).trans (congrArg (fun q : Nat => (q : Int)) ((show D96 16 = D 16 from (eD96 16).trans (hD96 15 rfl))).symm))
  have pf96_9_1 : HID (F96 9 1 = (D96 75 : Int)) := ((show F96 9 1 = F 9 1 from (eF96 9 1).trans (hS96 0 1 rfl))).trans ((pf75).trans (congrArg (fun q : Nat => (q : Int)) ((show D96 75 = D 75 from (eD96 75).trans (hD96 74 rfl))).symm))
  have pf96_9_2 : HID (F96 9 2 = (D96 17 : Int)) := ((show F96 9 2 = F 9 2 from (eF96 9 2).trans (hS96 0 2 rfl))).trans ((pf17).trans (congrArg (fun q : Nat => (q : Int)) ((show D96 17 = D 17 from (eD96 17).trans (hD96 16 rfl))).symm))
  have pf96_9_3 : HID (F96 9 3 = (D96 12 : Int)) := ((show F96 9 3 = F 9 3 from (eF96 9 3).trans (hS96 0 3 rfl))).trans ((pf12).trans (congrArg (fun q : Nat => (q : Int)) ((show D96 12 = D 12 from (eD96 12).trans (hD96 11 rfl))).symm))
  have pf96_9_4 : HID (F96 9 4 = (D96 10 : Int)) := ((show F96 9 4 = F 9 4 from (eF96 9 4).trans (hS96 0 4 rfl))).trans ((pf10).trans (congrArg (fun q : Nat => (q : Int)) ((show D96 10 = D 10 from (eD96 10).trans (hD96 9 rfl))).symm))
  have pf96_9_5 : HID (F96 9 5 = (D96 94 : Int)) := ((show F96 9 5 = F 9 5 from (eF96 9 5).trans (hS96 0 5 rfl))).trans ((pf94).trans (congrArg (fun q : Nat => (q : Int)) ((show D96 94 = D 94 from (eD96 94).trans (hD96 93 rfl))).symm))
  have pf96_9_6 : HID (F96 9 6 = (D96 14 : Int)) := ((show F96 9 6 = F 9 6 from (eF96 9 6).trans (hS96 0 6 rfl))).trans ((pf14).trans (congrArg (fun q : Nat => (q : Int)) ((show D96 14 = D 14 from (eD96 14).trans (hD96 13 rfl))).symm))
  have r97 : HID ((0 : Int) ≤ m96_6 ∧ m96_6 ≤ 1000000) := nrng (H.nle 5 (by decide)) (show (N96 5 : Int) = m96_6 from (congrArg (fun q : Nat => (q : Int)) (eN96 5)).trans em96_6)
  have r98 : HID ((0 : Int) ≤ m96_10 ∧ m96_10 ≤ 1000000) := nrng (H.nle 11 (by decide)) (show (N96 11 : Int) = m96_10 from (congrArg (fun q : Nat => (q : Int)) (eN96 11)).trans em96_10)
  have r99 : HID ((-9223372036854775808 : Int) ≤ y96_0_15 ∧ y96_0_15 ≤ 9223372036854775807) := krg_e (show (-9223372036854775808 : Int) ≤ F96 9 15 ∧ F96 9 15 ≤ 9223372036854775807 from H.krg 9 15 (by decide)) (show F96 9 15 = y96_0_15 from ((eF96 9 15).trans ey96_0_15))
  have r100 : HID ((-2147483648 : Int) ≤ y96_0_21 ∧ y96_0_21 ≤ 2147483647) := krg_e (show (-2147483648 : Int) ≤ F96 9 21 ∧ F96 9 21 ≤ 2147483647 from H.krg 9 21 (by decide)) (show F96 9 21 = y96_0_21 from ((eF96 9 21).trans ey96_0_21))
  have r101 : HID ((-2147483648 : Int) ≤ y96_2_1 ∧ y96_2_1 ≤ 2147483647) := krg_e (show (-2147483648 : Int) ≤ F96 4 1 ∧ F96 4 1 ≤ 2147483647 from H.krg 4 1 (by decide)) (show F96 4 1 = y96_2_1 from ((eF96 4 1).trans ey96_2_1))
  have r102 : HID ((0 : Int) ≤ y96_2_2 ∧ y96_2_2 ≤ 1) := krg_e (show (0 : Int) ≤ F96 4 2 ∧ F96 4 2 ≤ 1 from H.krg 4 2 (by decide)) (show F96 4 2 = y96_2_2 from ((eF96 4 2).trans ey96_2_2))
  have r103 : HID ((-2147483648 : Int) ≤ y96_9_1 ∧ y96_9_1 ≤ 2147483647) := krg_e (show (-2147483648 : Int) ≤ F96 10 1 ∧ F96 10 1 ≤ 2147483647 from H.krg 10 1 (by decide)) (show F96 10 1 = y96_9_1 from ((eF96 10 1).trans ey96_9_1))
  refine Ew_of (pc' := 177) (fun _ => x_istore rfl) ?_
  refine Ew_of (pc' := 178) (fun _ => x_aload_n rfl (rk_o (hl0) rfl rfl)) ?_
  refine Ew_of (pc' := 179) (fun _ => x_aload_n rfl (rk_o (hl0) rfl rfl)) ?_
  refine Ew_stk (show ([.ref (D 0), .ref (D 0)] : List Value) = [.ref (D96 0), .ref (D96 0)] by rw [show D96 0 = D 0 from ((show D96 0 = D 0 from (eD96 0)))]) ?_
  refine v_g H (o := 0) (v := .ref (D96 9)) rfl rfl rfl rfl rfl (vrf (pf96_0_12)) ?_
  refine v_g H (o := 9) (v := I (y96_0_21)) rfl rfl rfl rfl rfl (congrArg (fun z : Int => I z) (((eF96 9 21).trans ey96_0_21) : F96 9 21 = y96_0_21)) ?_
  refine v_p H (o := 0) (z := y96_0_21) (v := I (y96_0_21)) rfl rfl rfl rfl rfl rfl rfl rfl (show (-2147483648 : Int) ≤ y96_0_21 ∧ y96_0_21 ≤ 2147483647 by have qh0 := HIDe r100; omega) (fun σ H O' => ?_)
  have O := OUT_trans O O'
  refine Ew_of (pc' := 190) (fun _ => x_iload rfl rk_s) ?_
  refine w_ifne (t := 203) rfl rfl (show inr (z96) by omega) (fun b104 => ?_) (fun b104 => ?_)
  · refine Ew_of (pc' := 205) (fun _ => x_iload rfl rk_s) ?_
    refine w_ineg rfl ?_
    have h4 := RDQ_c4 (H := []) (ret := ((-z96))) (by assumption : DCo Dc) pz96_7 (by omega) (by omega) (by omega) (by omega)
    have : RDQ 4 (sc ((w3)) 0 ((u1_1))) [] Dc ((x3)) (((-z96))) ((y96_0_21)) (sc ((w96_6)) 0 ((y96_2_1))) := h4.1
    have : CN5 (RDS (ap (sc ((w3)) 0 ((u1_1)))) ((sc ((w3)) 0 ((u1_1))).length : Int) ((x3)) Dc) (((w96_4)) 0, ((w96_4)) 1, ((w96_4)) 2, (y96_2_1), ((w96_4)) 4) := h4.2.1
    have : 0 ≤ (RDS (ap (sc ((w3)) 0 ((u1_1)))) ((sc ((w3)) 0 ((u1_1))).length : Int) ((x3)) Dc).1 := h4.2.2
    exact w_ireturn rfl (k ((-z96)) _ _ _ _ _ _ _ H O (SD_trans (SD_refl) (SD_glu (ι := [9, 1, 4, 6, 2, 3, 5, 7, 8, 10, 11, 12, 13, 14, 15, 16, 17, 18, 19, 20, 21, 22, 23, 24, 25, 26, 27, 28, 29, 30, 31, 32, 33, 34, 35, 36, 37, 38, 39, 40, 41, 42, 43, 44, 45, 46, 47, 48, 49, 50, 51, 52, 53, 54, 55, 56, 57, 58, 59, 60, 61, 62, 63, 64, 65, 66, 67, 68, 69, 70, 71, 72, 73, 74, 75, 76, 77, 78, 79, 80, 81, 82, 83, 84, 85, 86, 87, 88, 89, 90, 91, 92, 93, 94]) hD96 eD96 (by decide +kernel)) (any_subA (l' := [5, 11]) rfl)) (SD_trans (SD_refl) (SD_glu (ι := [9, 1, 4, 6, 2, 3, 5, 7, 8, 10, 11, 12, 13, 14, 15, 16, 17, 18, 19, 20, 21, 22, 23, 24, 25, 26, 27, 28, 29, 30, 31, 32, 33, 34, 35, 36, 37, 38, 39, 40, 41, 42, 43, 44, 45, 46, 47, 48, 49, 50, 51, 52, 53, 54, 55, 56, 57, 58, 59, 60, 61, 62, 63, 64, 65, 66, 67, 68, 69, 70, 71, 72, 73, 74, 75, 76, 77, 78, 79, 80, 81, 82, 83, 84, 85, 86, 87, 88, 89, 90, 91, 92, 93, 94]) hN96 eN96 (by decide +kernel)) (any_subA (l' := [5, 11]) rfl)) (SF_upd (SF_trans (SF_refl) (SF_glu (ι := [9, 1, 4, 6, 2, 3, 5, 7, 8, 10, 11, 12, 13, 14, 15, 16, 17, 18, 19, 20, 21, 22, 23, 24, 25, 26, 27, 28, 29, 30, 31, 32, 33, 34, 35, 36, 37, 38, 39, 40, 41, 42, 43, 44, 45, 46, 47, 48, 49, 50, 51, 52, 53, 54, 55, 56, 57, 58, 59, 60, 61, 62, 63, 64, 65, 66, 67, 68, 69, 70, 71, 72, 73, 74, 75, 76, 77, 78, 79, 80, 81, 82, 83, 84, 85, 86, 87, 88, 89, 90, 91, 92, 93, 94]) hS96 eF96 (by decide +kernel)) (any_sub (l' := [(4, 0), (4, 1), (4, 2), (9, 7), (9, 8), (9, 9), (9, 10), (9, 11), (9, 12), (9, 13), (9, 14), (9, 15), (9, 16), (9, 17), (9, 18), (9, 19), (9, 20), (9, 21), (10, 0), (10, 1), (10, 2), (10, 3), (10, 4), (12, 0), (48, 0), (48, 10), (48, 11), (48, 12), (57, 0), (57, 10), (57, 11), (57, 12), (66, 0), (66, 10), (66, 11), (66, 12), (75, 3), (84, 0), (84, 10), (84, 11), (84, 12), (93, 0), (93, 1), (93, 2), (94, 0), (94, 1), (94, 2)]) rfl)) rfl) (SA_trans (SA_refl) (SA_glu (ι := [9, 1, 4, 6, 2, 3, 5, 7, 8, 10, 11, 12, 13, 14, 15, 16, 17, 18, 19, 20, 21, 22, 23, 24, 25, 26, 27, 28, 29, 30, 31, 32, 33, 34, 35, 36, 37, 38, 39, 40, 41, 42, 43, 44, 45, 46, 47, 48, 49, 50, 51, 52, 53, 54, 55, 56, 57, 58, 59, 60, 61, 62, 63, 64, 65, 66, 67, 68, 69, 70, 71, 72, 73, 74, 75, 76, 77, 78, 79, 80, 81, 82, 83, 84, 85, 86, 87, 88, 89, 90, 91, 92, 93, 94]) hA96 eA96 (by decide +kernel)) (any_subA (l' := [2, 5, 11, 13, 14, 15, 49, 50, 51, 52, 53, 54, 55, 56, 58, 59, 60, 61, 62, 63, 64, 65, 67, 68, 69, 70, 71, 72, 73, 74, 76, 77, 78, 79, 85, 86, 87, 88, 89, 90, 91, 92]) rfl)) (pf96_4_0) (pf96_10_0) (m96_6) ((congrArg (fun q : Nat => (q : Int)) (eN96 5)).trans em96_6) (m96_10) ((congrArg (fun q : Nat => (q : Int)) (eN96 11)).trans em96_10) (y96_0_21) (rfl) (y96_2_1) (((eF96 4 1).trans ey96_2_1)) (y96_2_2) (((eF96 4 2).trans ey96_2_2)) (y96_0_15) (((eF96 9 15).trans ey96_0_15)) (y96_9_1) (((eF96 10 1).trans ey96_9_1)) (w96_4) ((eA96 2).trans ew96_4) (w96_6) ((eA96 5).trans ew96_6) (w96_77) ((eA96 78).trans ew96_77) (show inr ((-z96)) by omega) (show 0 ≤ (y96_2_1) ∧ (y96_2_1) ≤ (m96_6) ∧ (m96_6) ≤ 65536 by have qh0 := HIDe r101; have qh1 := HIDe r97; omega) (show 0 ≤ (y96_9_1) ∧ (y96_9_1) ≤ (m96_10) ∧ (m96_10) ≤ 65536 by have qh0 := HIDe r103; have qh1 := HIDe r98; omega) (show 0 ≤ (y96_0_15) by have qh0 := HIDe r99; omega) (show CEL ((w96_77)) by assumption) (show ((w96_4)) 3 = (y96_2_1) by have qh0 := HIDe r101; omega) (show (y96_2_2) = 0 by have qh0 := HIDe r102; omega) (show (y96_2_2) = 0 by have qh0 := HIDe r102; omega) (show ((w96_4)) 3 = (y96_2_1) by have qh0 := HIDe r101; omega) (by assumption) (by assumption) (by assumption))
  · refine Ew_of (pc' := 194) (fun _ => x_aload_n rfl (rk_o (hl0) rfl rfl)) ?_
    refine Ew_stk (show ([.ref (D 0)] : List Value) = [.ref (D96 0)] by rw [show D96 0 = D 0 from ((show D96 0 = D 0 from (eD96 0)))]) ?_
    refine v_g H (o := 0) (v := .ref (D96 4)) rfl rfl rfl rfl rfl (vrf (pf96_0_6)) ?_
    refine v_g H (o := 4) (v := I (y96_2_1)) rfl rfl rfl rfl rfl (congrArg (fun z : Int => I z) (((eF96 4 1).trans ey96_2_1) : (updF F96 0 17 (y96_0_21)) 4 1 = y96_2_1)) ?_
    refine Ew_of (pc' := 206) (fun _ => x_goto rfl rfl) ?_
    have h4 := RDQ_c4 (H := []) (ret := (y96_2_1)) (by assumption : DCo Dc) pz96_7 (by (have qg0 := HIDe r101; omega)) (by (have qg0 := HIDe r101; omega)) (by (have qg0 := HIDe r101; omega)) (by (have qg0 := HIDe r101; omega))
    have : RDQ 4 (sc ((w3)) 0 ((u1_1))) [] Dc ((x3)) ((y96_2_1)) ((y96_0_21)) (sc ((w96_6)) 0 ((y96_2_1))) := h4.1
    have : CN5 (RDS (ap (sc ((w3)) 0 ((u1_1)))) ((sc ((w3)) 0 ((u1_1))).length : Int) ((x3)) Dc) (((w96_4)) 0, ((w96_4)) 1, ((w96_4)) 2, (y96_2_1), ((w96_4)) 4) := h4.2.1
    have : 0 ≤ (RDS (ap (sc ((w3)) 0 ((u1_1)))) ((sc ((w3)) 0 ((u1_1))).length : Int) ((x3)) Dc).1 := h4.2.2
    exact w_ireturn rfl (k (y96_2_1) _ _ _ _ _ _ _ H O (SD_trans (SD_refl) (SD_glu (ι := [9, 1, 4, 6, 2, 3, 5, 7, 8, 10, 11, 12, 13, 14, 15, 16, 17, 18, 19, 20, 21, 22, 23, 24, 25, 26, 27, 28, 29, 30, 31, 32, 33, 34, 35, 36, 37, 38, 39, 40, 41, 42, 43, 44, 45, 46, 47, 48, 49, 50, 51, 52, 53, 54, 55, 56, 57, 58, 59, 60, 61, 62, 63, 64, 65, 66, 67, 68, 69, 70, 71, 72, 73, 74, 75, 76, 77, 78, 79, 80, 81, 82, 83, 84, 85, 86, 87, 88, 89, 90, 91, 92, 93, 94]) hD96 eD96 (by decide +kernel)) (any_subA (l' := [5, 11]) rfl)) (SD_trans (SD_refl) (SD_glu (ι := [9, 1, 4, 6, 2, 3, 5, 7, 8, 10, 11, 12, 13, 14, 15, 16, 17, 18, 19, 20, 21, 22, 23, 24, 25, 26, 27, 28, 29, 30, 31, 32, 33, 34, 35, 36, 37, 38, 39, 40, 41, 42, 43, 44, 45, 46, 47, 48, 49, 50, 51, 52, 53, 54, 55, 56, 57, 58, 59, 60, 61, 62, 63, 64, 65, 66, 67, 68, 69, 70, 71, 72, 73, 74, 75, 76, 77, 78, 79, 80, 81, 82, 83, 84, 85, 86, 87, 88, 89, 90, 91, 92, 93, 94]) hN96 eN96 (by decide +kernel)) (any_subA (l' := [5, 11]) rfl)) (SF_upd (SF_trans (SF_refl) (SF_glu (ι := [9, 1, 4, 6, 2, 3, 5, 7, 8, 10, 11, 12, 13, 14, 15, 16, 17, 18, 19, 20, 21, 22, 23, 24, 25, 26, 27, 28, 29, 30, 31, 32, 33, 34, 35, 36, 37, 38, 39, 40, 41, 42, 43, 44, 45, 46, 47, 48, 49, 50, 51, 52, 53, 54, 55, 56, 57, 58, 59, 60, 61, 62, 63, 64, 65, 66, 67, 68, 69, 70, 71, 72, 73, 74, 75, 76, 77, 78, 79, 80, 81, 82, 83, 84, 85, 86, 87, 88, 89, 90, 91, 92, 93, 94]) hS96 eF96 (by decide +kernel)) (any_sub (l' := [(4, 0), (4, 1), (4, 2), (9, 7), (9, 8), (9, 9), (9, 10), (9, 11), (9, 12), (9, 13), (9, 14), (9, 15), (9, 16), (9, 17), (9, 18), (9, 19), (9, 20), (9, 21), (10, 0), (10, 1), (10, 2), (10, 3), (10, 4), (12, 0), (48, 0), (48, 10), (48, 11), (48, 12), (57, 0), (57, 10), (57, 11), (57, 12), (66, 0), (66, 10), (66, 11), (66, 12), (75, 3), (84, 0), (84, 10), (84, 11), (84, 12), (93, 0), (93, 1), (93, 2), (94, 0), (94, 1), (94, 2)]) rfl)) rfl) (SA_trans (SA_refl) (SA_glu (ι := [9, 1, 4, 6, 2, 3, 5, 7, 8, 10, 11, 12, 13, 14, 15, 16, 17, 18, 19, 20, 21, 22, 23, 24, 25, 26, 27, 28, 29, 30, 31, 32, 33, 34, 35, 36, 37, 38, 39, 40, 41, 42, 43, 44, 45, 46, 47, 48, 49, 50, 51, 52, 53, 54, 55, 56, 57, 58, 59, 60, 61, 62, 63, 64, 65, 66, 67, 68, 69, 70, 71, 72, 73, 74, 75, 76, 77, 78, 79, 80, 81, 82, 83, 84, 85, 86, 87, 88, 89, 90, 91, 92, 93, 94]) hA96 eA96 (by decide +kernel)) (any_subA (l' := [2, 5, 11, 13, 14, 15, 49, 50, 51, 52, 53, 54, 55, 56, 58, 59, 60, 61, 62, 63, 64, 65, 67, 68, 69, 70, 71, 72, 73, 74, 76, 77, 78, 79, 85, 86, 87, 88, 89, 90, 91, 92]) rfl)) (pf96_4_0) (pf96_10_0) (m96_6) ((congrArg (fun q : Nat => (q : Int)) (eN96 5)).trans em96_6) (m96_10) ((congrArg (fun q : Nat => (q : Int)) (eN96 11)).trans em96_10) (y96_0_21) (rfl) (y96_2_1) (((eF96 4 1).trans ey96_2_1)) (y96_2_2) (((eF96 4 2).trans ey96_2_2)) (y96_0_15) (((eF96 9 15).trans ey96_0_15)) (y96_9_1) (((eF96 10 1).trans ey96_9_1)) (w96_4) ((eA96 2).trans ew96_4) (w96_6) ((eA96 5).trans ew96_6) (w96_77) ((eA96 78).trans ew96_77) (show inr (y96_2_1) by have qh0 := HIDe r101; omega) (show 0 ≤ (y96_2_1) ∧ (y96_2_1) ≤ (m96_6) ∧ (m96_6) ≤ 65536 by have qh0 := HIDe r101; have qh1 := HIDe r97; omega) (show 0 ≤ (y96_9_1) ∧ (y96_9_1) ≤ (m96_10) ∧ (m96_10) ≤ 65536 by have qh0 := HIDe r103; have qh1 := HIDe r98; omega) (show 0 ≤ (y96_0_15) by have qh0 := HIDe r99; omega) (show CEL ((w96_77)) by assumption) (show ((w96_4)) 3 = (y96_2_1) by have qh0 := HIDe r101; omega) (show (y96_2_2) = 0 by have qh0 := HIDe r102; omega) (show (y96_2_2) = 0 by have qh0 := HIDe r102; omega) (show ((w96_4)) 3 = (y96_2_1) by have qh0 := HIDe r101; omega) (by assumption) (by assumption) (by assumption))
