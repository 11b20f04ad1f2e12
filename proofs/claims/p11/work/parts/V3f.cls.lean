abbrev V17_vd5 : vV := [(0, 0, [(4, 0), (4, 0), (4, 0), (4, 0), (4, 0), (4, 0), (4, 0), (4, 0), (4, 0), (4, 0), (4, 0), (4, 0), (4, 0), (4, 0), (4, 0), (4, 0), (4, 0), (0, 0), (0, 0)]), (0, 7, [(4, 0), (0, 0), (1, 0), (0, 0), (0, 0)]), (0, 7, [(4, 0), (0, 0), (1, 0), (0, 0), (0, 0)]), (1, 0, []), (1, 0, []), (0, 6, [(4, 0), (4, 0), (4, 0), (4, 0), (4, 0), (4, 0), (4, 0), (4, 0), (4, 0), (4, 0), (4, 0), (4, 0), (4, 0), (4, 0), (4, 0), (0, 0), (0, 0), (4, 0), (4, 0)]), (1, 1, []), (0, 5, [(4, 0), (4, 0), (4, 0), (4, 0), (0, 0), (0, 0), (0, 0), (4, 0), (4, 0), (0, 0), (0, 0), (0, 0), (0, 0), (0, 0), (0, 0), (0, 0), (0, 0), (0, 0), (0, 0)]), (0, 7, [(4, 0), (0, 0), (1, 0), (0, 0), (0, 0)]), (1, 0, []), (1, 1, []), (1, 1, []), (1, 1, []), (1, 1, []), (1, 1, []), (0, 7, [(4, 0), (0, 0), (1, 0), (0, 0), (0, 0)]), (1, 0, []), (0, 7, [(4, 0), (0, 0), (1, 0), (0, 0), (0, 0)]), (1, 0, []), (1, 1, []), (1, 1, []), (1, 7, []), (1, 1, []), (1, 1, []), (1, 1, []), (1, 1, []), (1, 6, []), (1, 5, []), (0, 9, [(4, 0), (4, 0), (4, 0)]), (1, 5, []), (1, 2, []), (0, 3, [(4, 0), (4, 0), (4, 0), (0, 0), (4, 0), (4, 0), (4, 0), (4, 0), (4, 0), (4, 0), (4, 0), (4, 0), (4, 0), (0, 0), (0, 0), (0, 0), (0, 0)]), (1, 1, []), (1, 1, []), (1, 1, []), (1, 1, []), (1, 1, []), (1, 1, []), (1, 1, []), (1, 1, []), (0, 8, [(0, 0), (0, 0), (4, 0), (4, 0), (4, 0), (4, 0), (4, 0), (4, 0), (4, 0), (4, 0), (4, 0), (0, 0), (0, 0)]), (1, 1, []), (1, 1, []), (1, 1, []), (1, 1, []), (1, 1, []), (1, 1, []), (1, 1, []), (1, 1, []), (0, 7, [(4, 0), (0, 0), (1, 0), (0, 0), (0, 0)]), (1, 0, []), (0, 7, [(4, 0), (0, 0), (1, 0), (0, 0), (0, 0)]), (1, 0, []), (0, 8, [(0, 0), (0, 0), (4, 0), (4, 0), (4, 0), (4, 0), (4, 0), (4, 0), (4, 0), (4, 0), (4, 0), (0, 0), (0, 0)]), (1, 1, []), (1, 1, []), (1, 1, []), (1, 1, []), (1, 1, []), (1, 1, []), (1, 1, []), (1, 1, []), (0, 8, [(0, 0), (0, 0), (4, 0), (4, 0), (4, 0), (4, 0), (4, 0), (4, 0), (4, 0), (4, 0), (4, 0), (0, 0), (0, 0)]), (1, 1, []), (1, 1, []), (1, 1, []), (1, 1, []), (1, 1, []), (1, 1, []), (1, 1, []), (1, 1, []), (0, 8, [(0, 0), (0, 0), (4, 0), (4, 0), (4, 0), (4, 0), (4, 0), (4, 0), (4, 0), (4, 0), (4, 0), (0, 0), (0, 0)]), (1, 1, []), (1, 1, []), (1, 1, []), (1, 1, []), (1, 1, []), (1, 1, []), (1, 1, []), (1, 1, [])]
/-- PackHouse.write: this, @F, this.written, this.written.bytes, @F.bytes, this.packer, this.packer.settings, this.packer.finder, this.packer.finder.data, this.packer.finder.data.bytes, this.packer.finder.heads, this.packer.finder.back, this.packer.finder.literals, this.packer.finder.lengths, this.packer.finder.distances, this.packer.literals, this.packer.literals.bytes, this.packer.told, this.packer.told.bytes, this.packer.byteCounts, this.packer.symbolCounts, this.packer.symbols, this.packer.symbols.0, this.packer.numbers, this.packer.symbols.1, this.packer.symbols.2, this.packer.ownCodes, this.packer.ownTables, this.packer.next, this.packer.next.tables, this.packer.next.latest, this.packer.ownCodes.0, this.packer.ownCodes.0.lengths, this.packer.ownCodes.0.codes, this.packer.ownCodes.0.cells, this.packer.ownCodes.0.weights, this.packer.ownCodes.0.weightCounts, this.packer.ownCodes.0.order, this.packer.ownCodes.0.amounts, this.packer.ownCodes.0.parents, this.packer.ownCodes.0.weightShare, this.packer.ownCodes.0.weightShare.points, this.packer.ownCodes.0.weightShare.masses, this.packer.ownCodes.0.weightShare.mostBits, this.packer.ownCodes.0.weightShare.starts, this.packer.ownCodes.0.weightShare.used, this.packer.ownCodes.0.weightShare.symbolAt, this.packer.ownCodes.0.weightShare.numberAt, this.packer.ownCodes.0.weightShare.placeOf, this.packer.ownCodes.0.orderFive, this.packer.ownCodes.0.orderFive.bytes, this.packer.ownCodes.0.orderSix, this.packer.ownCodes.0.orderSix.bytes, this.packer.ownTables.0, this.packer.ownTables.0.points, this.packer.ownTables.0.masses, this.packer.ownTables.0.mostBits, this.packer.ownTables.0.starts, this.packer.ownTables.0.used, this.packer.ownTables.0.symbolAt, this.packer.ownTables.0.numberAt, this.packer.ownTables.0.placeOf, this.packer.ownTables.1, this.packer.ownTables.1.points, this.packer.ownTables.1.masses, this.packer.ownTables.1.mostBits, this.packer.ownTables.1.starts, this.packer.ownTables.1.used, this.packer.ownTables.1.symbolAt, this.packer.ownTables.1.numberAt, this.packer.ownTables.1.placeOf, this.packer.ownTables.2, this.packer.ownTables.2.points, this.packer.ownTables.2.masses, this.packer.ownTables.2.mostBits, this.packer.ownTables.2.starts, this.packer.ownTables.2.used, this.packer.ownTables.2.symbolAt, this.packer.ownTables.2.numberAt, this.packer.ownTables.2.placeOf -/
theorem C17_vd5 {σE : rS} {D N : Nat → Nat} {F : hF} {A : hA} {d c s : Nat} {Q : wQ} (H : HW V17_vd5 σE D N F A) (HT : STC σE) {x1 : Int} (pf2 : F 0 5 = (D 2 : Int)) (pf3 : F 2 0 = (D 3 : Int)) (pf4 : F 1 0 = (D 4 : Int)) (pf5 : F 0 11 = (D 5 : Int)) (pf6 : F 5 0 = (D 6 : Int)) (pf7 : F 5 1 = (D 7 : Int)) (pf8 : F 7 0 = (D 8 : Int)) (pf9 : F 8 0 = (D 9 : Int)) (pf10 : F 7 7 = (D 10 : Int)) (pf11 : F 7 8 = (D 11 : Int)) (pf12 : F 7 1 = (D 12 : Int)) (pf13 : F 7 2 = (D 13 : Int)) (pf14 : F 7 3 = (D 14 : Int)) (pf15 : F 5 9 = (D 15 : Int)) (pf16 : F 15 0 = (D 16 : Int)) (pf17 : F 5 10 = (D 17 : Int)) (pf18 : F 17 0 = (D 18 : Int)) (pf19 : F 5 11 = (D 19 : Int)) (pf20 : F 5 12 = (D 20 : Int)) (pf21 : F 5 13 = (D 21 : Int)) (pf22 : A 21 0 = (D 22 : Int)) (pf23 : F 5 14 = (D 23 : Int)) (pf24 : A 21 1 = (D 24 : Int)) (pf25 : A 21 2 = (D 25 : Int)) (pf26 : F 5 3 = (D 26 : Int)) (pf27 : F 5 4 = (D 27 : Int)) (pf28 : F 5 7 = (D 28 : Int)) (pf29 : F 28 1 = (D 29 : Int)) (pf30 : F 28 2 = (D 30 : Int)) (pf31 : A 26 0 = (D 31 : Int)) (pf32 : F 31 0 = (D 32 : Int)) (pf33 : F 31 1 = (D 33 : Int)) (pf34 : F 31 2 = (D 34 : Int)) (pf35 : F 31 4 = (D 35 : Int)) (pf36 : F 31 5 = (D 36 : Int)) (pf37 : F 31 10 = (D 37 : Int)) (pf38 : F 31 11 = (D 38 : Int)) (pf39 : F 31 12 = (D 39 : Int)) (pf40 : F 31 6 = (D 40 : Int)) (pf41 : F 40 2 = (D 41 : Int)) (pf42 : F 40 3 = (D 42 : Int)) (pf43 : F 40 4 = (D 43 : Int)) (pf44 : F 40 5 = (D 44 : Int)) (pf45 : F 40 6 = (D 45 : Int)) (pf46 : F 40 7 = (D 46 : Int)) (pf47 : F 40 8 = (D 47 : Int)) (pf48 : F 40 9 = (D 48 : Int)) (pf49 : F 31 7 = (D 49 : Int)) (pf50 : F 49 0 = (D 50 : Int)) (pf51 : F 31 8 = (D 51 : Int)) (pf52 : F 51 0 = (D 52 : Int)) (pf53 : A 27 0 = (D 53 : Int)) (pf54 : F 53 2 = (D 54 : Int)) (pf55 : F 53 3 = (D 55 : Int)) (pf56 : F 53 4 = (D 56 : Int)) (pf57 : F 53 5 = (D 57 : Int)) (pf58 : F 53 6 = (D 58 : Int)) (pf59 : F 53 7 = (D 59 : Int)) (pf60 : F 53 8 = (D 60 : Int)) (pf61 : F 53 9 = (D 61 : Int)) (pf62 : A 27 1 = (D 62 : Int)) (pf63 : F 62 2 = (D 63 : Int)) (pf64 : F 62 3 = (D 64 : Int)) (pf65 : F 62 4 = (D 65 : Int)) (pf66 : F 62 5 = (D 66 : Int)) (pf67 : F 62 6 = (D 67 : Int)) (pf68 : F 62 7 = (D 68 : Int)) (pf69 : F 62 8 = (D 69 : Int)) (pf70 : F 62 9 = (D 70 : Int)) (pf71 : A 27 2 = (D 71 : Int)) (pf72 : F 71 2 = (D 72 : Int)) (pf73 : F 71 3 = (D 73 : Int)) (pf74 : F 71 4 = (D 74 : Int)) (pf75 : F 71 5 = (D 75 : Int)) (pf76 : F 71 6 = (D 76 : Int)) (pf77 : F 71 7 = (D 77 : Int)) (pf78 : F 71 8 = (D 78 : Int)) (pf79 : F 71 9 = (D 79 : Int)) (n3 : Int) (en3 : (N 3 : Int) = n3) (n4 : Int) (en4 : (N 4 : Int) = n4) (n6 : Int) (en6 : (N 6 : Int) = n6) (n9 : Int) (en9 : (N 9 : Int) = n9) (n10 : Int) (en10 : (N 10 : Int) = n10) (n11 : Int) (en11 : (N 11 : Int) = n11) (n12 : Int) (en12 : (N 12 : Int) = n12) (n13 : Int) (en13 : (N 13 : Int) = n13) (n14 : Int) (en14 : (N 14 : Int) = n14) (n16 : Int) (en16 : (N 16 : Int) = n16) (n18 : Int) (en18 : (N 18 : Int) = n18) (n19 : Int) (en19 : (N 19 : Int) = n19) (n20 : Int) (en20 : (N 20 : Int) = n20) (n21 : Int) (en21 : (N 21 : Int) = n21) (n22 : Int) (en22 : (N 22 : Int) = n22) (n23 : Int) (en23 : (N 23 : Int) = n23) (n24 : Int) (en24 : (N 24 : Int) = n24) (n25 : Int) (en25 : (N 25 : Int) = n25) (n26 : Int) (en26 : (N 26 : Int) = n26) (n27 : Int) (en27 : (N 27 : Int) = n27) (n29 : Int) (en29 : (N 29 : Int) = n29) (n30 : Int) (en30 : (N 30 : Int) = n30) (n32 : Int) (en32 : (N 32 : Int) = n32) (n33 : Int) (en33 : (N 33 : Int) = n33) (n34 : Int) (en34 : (N 34 : Int) = n34) (n35 : Int) (en35 : (N 35 : Int) = n35) (n36 : Int) (en36 : (N 36 : Int) = n36) (n37 : Int) (en37 : (N 37 : Int) = n37) (n38 : Int) (en38 : (N 38 : Int) = n38) (n39 : Int) (en39 : (N 39 : Int) = n39) (n41 : Int) (en41 : (N 41 : Int) = n41) (n42 : Int) (en42 : (N 42 : Int) = n42) (n43 : Int) (en43 : (N 43 : Int) = n43) (n44 : Int) (en44 : (N 44 : Int) = n44) (n45 : Int) (en45 : (N 45 : Int) = n45) (n46 : Int) (en46 : (N 46 : Int) = n46) (n47 : Int) (en47 : (N 47 : Int) = n47) (n48 : Int) (en48 : (N 48 : Int) = n48) (n50 : Int) (en50 : (N 50 : Int) = n50) (n52 : Int) (en52 : (N 52 : Int) = n52) (n54 : Int) (en54 : (N 54 : Int) = n54) (n55 : Int) (en55 : (N 55 : Int) = n55) (n56 : Int) (en56 : (N 56 : Int) = n56) (n57 : Int) (en57 : (N 57 : Int) = n57) (n58 : Int) (en58 : (N 58 : Int) = n58) (n59 : Int) (en59 : (N 59 : Int) = n59) (n60 : Int) (en60 : (N 60 : Int) = n60) (n61 : Int) (en61 : (N 61 : Int) = n61) (n63 : Int) (en63 : (N 63 : Int) = n63) (n64 : Int) (en64 : (N 64 : Int) = n64) (n65 : Int) (en65 : (N 65 : Int) = n65) (n66 : Int) (en66 : (N 66 : Int) = n66) (n67 : Int) (en67 : (N 67 : Int) = n67) (n68 : Int) (en68 : (N 68 : Int) = n68) (n69 : Int) (en69 : (N 69 : Int) = n69) (n70 : Int) (en70 : (N 70 : Int) = n70) (n72 : Int) (en72 : (N 72 : Int) = n72) (n73 : Int) (en73 : (N 73 : Int) = n73) (n74 : Int) (en74 : (N 74 : Int) = n74) (n75 : Int) (en75 : (N 75 : Int) = n75) (n76 : Int) (en76 : (N 76 : Int) = n76) (n77 : Int) (en77 : (N 77 : Int) = n77) (n78 : Int) (en78 : (N 78 : Int) = n78) (n79 : Int) (en79 : (N 79 : Int) = n79) (u1_1 : Int) (eu1_1 : F 1 1 = u1_1) (u2_1 : Int) (eu2_1 : F 2 1 = u2_1) (u2_4 : Int) (eu2_4 : F 2 4 = u2_4) (u8_1 : Int) (eu8_1 : F 8 1 = u8_1) (u15_1 : Int) (eu15_1 : F 15 1 = u15_1) (u17_1 : Int) (eu17_1 : F 17 1 = u17_1) (u40_1 : Int) (eu40_1 : F 40 1 = u40_1) (u49_1 : Int) (eu49_1 : F 49 1 = u49_1) (u51_1 : Int) (eu51_1 : F 51 1 = u51_1) (u53_1 : Int) (eu53_1 : F 53 1 = u53_1) (u62_1 : Int) (eu62_1 : F 62 1 = u62_1) (u71_1 : Int) (eu71_1 : F 71 1 = u71_1) (w6 : Int → Int) (ew6 : A 6 = w6) (w34 : Int → Int) (ew34 : A 34 = w34) {ls : rO} (hl0 : rlook ls 0 = some (.ref (D 0))) (hl1 : rlook ls 1 = some (I (x1))) (hl3 : rlook ls 3 = some (I (5))) (hl4 : rlook ls 4 = some (.ref (D 1))) (h0 : inr (x1)) (h1 : 0 ≤ (u2_1) ∧ (u2_1) ≤ (n3) ∧ (n3) ≤ 65536) (h2 : 0 ≤ (u1_1) ∧ (u1_1) ≤ (n4) ∧ (n4) ≤ 65536) (h3 : (u1_1) ≤ 16384) (h4 : 1 ≤ ((w6)) 1 ∧ ((w6)) 1 ≤ 8) (h5 : 0 ≤ (u8_1) ∧ (u8_1) ≤ (n9) ∧ (n9) ≤ 65536) (h6 : (n10) = 0 ∨ (n10) = 2048) (h7 : (n11) ≤ 16384) (h8 : (n12) = (n13) ∧ (n14) = (n13) ∧ (n13) ≤ 65536 ∧ ((n13) = 0 ∨ 64 ≤ (n13)) ∧ lgq ((n13)) = 0) (h9 : 0 ≤ (u15_1) ∧ (u15_1) ≤ (n16) ∧ (n16) ≤ 65536) (h10 : 0 ≤ (u17_1) ∧ (u17_1) ≤ (n18) ∧ (n18) ≤ 65536) (h11 : (n19) = 256) (h12 : (n20) = 53) (h13 : (n21) = 3 ∧ (n22) = (n23) ∧ (n24) = (n23) ∧ (n25) = (n23) ∧ lgq ((n23)) = 0 ∧ (n23) ≤ 16384) (h14 : (n6) = 10 ∧ (n26) = 2 ∧ (n27) = 3 ∧ (n29) = 3 ∧ (n30) = 3) (h15 : CDZD ((n32)) ((n33)) ((n34)) ((n35)) ((n36)) ((n37)) ((n38)) ((n39))) (h16 : SHZD ((n41)) ((n42)) ((n43)) ((n44)) ((n45)) ((n46)) ((n47)) ((n48)) ((u40_1)) 12 64) (h17 : 0 ≤ (u49_1) ∧ (u49_1) ≤ (n50) ∧ (n50) ≤ 65536) (h18 : 0 ≤ (u51_1) ∧ (u51_1) ≤ (n52) ∧ (n52) ≤ 65536) (h19 : CEL ((w34))) (h20 : SHZD ((n54)) ((n55)) ((n56)) ((n57)) ((n58)) ((n59)) ((n60)) ((n61)) ((u53_1)) 36 512) (h21 : SHZD ((n63)) ((n64)) ((n65)) ((n66)) ((n67)) ((n68)) ((n69)) ((n70)) ((u62_1)) 32 256) (h22 : SHZD ((n72)) ((n73)) ((n74)) ((n75)) ((n76)) ((n77)) ((n78)) ((n79)) ((u71_1)) 53 512) (h23 : (u2_1) = 0) (h24 : (u2_4) = 0) (hc277 : ∀ (ls : rO) (σ : rS) (D_c277 N_c277 : Nat → Nat) (c_c277 s_c277 : Nat) (F_c277 : hF) (A_c277 : hA) , rlook ls 0 = some (.ref (D_c277 0)) → rlook ls 1 = some (I (x1)) → rlook ls 3 = some (I (5)) → rlook ls 4 = some (.ref (D_c277 1)) → HW V17_vd5 σ D_c277 N_c277 F_c277 A_c277 → OUT (V17_vd5).length D N σE c s D_c277 N_c277 σ c_c277 s_c277 → SD [3, 9, 10, 11, 12, 13, 14, 16, 18, 21, 22, 23, 24, 25, 50, 52] D D_c277 → SD [3, 9, 10, 11, 12, 13, 14, 16, 18, 21, 22, 23, 24, 25, 50, 52] N N_c277 → SF [(2, 0), (2, 1), (2, 2), (2, 3), (2, 4), (5, 13), (5, 14), (5, 15), (7, 1), (7, 2), (7, 3), (7, 4), (7, 5), (7, 6), (7, 7), (7, 8), (7, 9), (7, 10), (7, 11), (7, 12), (7, 13), (7, 14), (7, 15), (7, 16), (7, 17), (7, 18), (8, 0), (8, 1), (8, 2), (8, 3), (8, 4), (15, 0), (15, 1), (15, 2), (15, 3), (15, 4), (17, 0), (17, 1), (17, 2), (17, 3), (17, 4), (28, 0), (31, 3), (31, 13), (31, 14), (31, 15), (31, 16), (40, 0), (49, 0), (49, 1), (49, 2), (49, 3), (49, 4), (51, 0), (51, 1), (51, 2), (51, 3), (51, 4), (53, 0), (62, 0), (71, 0)] F F_c277 → SA [3, 9, 10, 11, 12, 13, 14, 16, 18, 19, 20, 21, 22, 23, 24, 25, 29, 30, 32, 35, 36, 37, 38, 39, 41, 42, 43, 44, 45, 46, 47, 48, 50, 52, 54, 55, 56, 57, 58, 59, 60, 61, 63, 64, 65, 66, 67, 68, 69, 70, 72, 73, 74, 75, 76, 77, 78, 79] A A_c277 → F_c277 2 0 = (D_c277 3 : Int) → F_c277 8 0 = (D_c277 9 : Int) → F_c277 7 7 = (D_c277 10 : Int) → F_c277 7 8 = (D_c277 11 : Int) → F_c277 7 1 = (D_c277 12 : Int) → F_c277 7 2 = (D_c277 13 : Int) → F_c277 7 3 = (D_c277 14 : Int) → F_c277 15 0 = (D_c277 16 : Int) → F_c277 17 0 = (D_c277 18 : Int) → F_c277 5 13 = (D_c277 21 : Int) → A_c277 21 0 = (D_c277 22 : Int) → F_c277 5 14 = (D_c277 23 : Int) → A_c277 21 1 = (D_c277 24 : Int) → A_c277 21 2 = (D_c277 25 : Int) → F_c277 49 0 = (D_c277 50 : Int) → F_c277 51 0 = (D_c277 52 : Int) → ∀ mc277_3 : Int, (N_c277 3 : Int) = mc277_3 → ∀ mc277_9 : Int, (N_c277 9 : Int) = mc277_9 → ∀ mc277_10 : Int, (N_c277 10 : Int) = mc277_10 → ∀ mc277_11 : Int, (N_c277 11 : Int) = mc277_11 → ∀ mc277_12 : Int, (N_c277 12 : Int) = mc277_12 → ∀ mc277_13 : Int, (N_c277 13 : Int) = mc277_13 → ∀ mc277_14 : Int, (N_c277 14 : Int) = mc277_14 → ∀ mc277_16 : Int, (N_c277 16 : Int) = mc277_16 → ∀ mc277_18 : Int, (N_c277 18 : Int) = mc277_18 → ∀ mc277_21 : Int, (N_c277 21 : Int) = mc277_21 → ∀ mc277_22 : Int, (N_c277 22 : Int) = mc277_22 → ∀ mc277_23 : Int, (N_c277 23 : Int) = mc277_23 → ∀ mc277_24 : Int, (N_c277 24 : Int) = mc277_24 → ∀ mc277_25 : Int, (N_c277 25 : Int) = mc277_25 → ∀ mc277_50 : Int, (N_c277 50 : Int) = mc277_50 → ∀ mc277_52 : Int, (N_c277 52 : Int) = mc277_52 → ∀ yc277_2_1 : Int, F_c277 2 1 = yc277_2_1 → ∀ yc277_8_1 : Int, F_c277 8 1 = yc277_8_1 → ∀ yc277_15_1 : Int, F_c277 15 1 = yc277_15_1 → ∀ yc277_17_1 : Int, F_c277 17 1 = yc277_17_1 → ∀ yc277_49_1 : Int, F_c277 49 1 = yc277_49_1 → ∀ yc277_51_1 : Int, F_c277 51 1 = yc277_51_1 → (0 ≤ (yc277_2_1) ∧ (yc277_2_1) ≤ (mc277_3) ∧ (mc277_3) ≤ 65536) → (0 ≤ (yc277_8_1) ∧ (yc277_8_1) ≤ (mc277_9) ∧ (mc277_9) ≤ 65536) → ((mc277_10) = 0 ∨ (mc277_10) = 2048) → ((mc277_11) ≤ 16384) → ((mc277_12) = (mc277_13) ∧ (mc277_14) = (mc277_13) ∧ (mc277_13) ≤ 65536 ∧ ((mc277_13) = 0 ∨ 64 ≤ (mc277_13)) ∧ lgq ((mc277_13)) = 0) → (0 ≤ (yc277_15_1) ∧ (yc277_15_1) ≤ (mc277_16) ∧ (mc277_16) ≤ 65536) → (0 ≤ (yc277_17_1) ∧ (yc277_17_1) ≤ (mc277_18) ∧ (mc277_18) ≤ 65536) → ((mc277_21) = 3 ∧ (mc277_22) = (mc277_23) ∧ (mc277_24) = (mc277_23) ∧ (mc277_25) = (mc277_23) ∧ lgq ((mc277_23)) = 0 ∧ (mc277_23) ≤ 16384) → (0 ≤ (yc277_49_1) ∧ (yc277_49_1) ≤ (mc277_50) ∧ (mc277_50) ≤ 65536) → (0 ≤ (yc277_51_1) ∧ (yc277_51_1) ≤ (mc277_52) ∧ (mc277_52) ≤ 65536) → (CEL ((w34))) → Ew 17 (d + 6) 277 ls [] σ c_c277 s_c277 Q) (k : ∀ (z : Int) (σ : rS) (Dₚ Nₚ : Nat → Nat) (Fₚ : hF) (Aₚ : hA) (cₚ sₚ : Nat), HW V17_vd5 σ Dₚ Nₚ Fₚ Aₚ → OUT (V17_vd5).length D N σE c s Dₚ Nₚ σ cₚ sₚ → SD [3, 9, 10, 11, 12, 13, 14, 16, 18, 21, 22, 23, 24, 25, 50, 52] D Dₚ → SD [3, 9, 10, 11, 12, 13, 14, 16, 18, 21, 22, 23, 24, 25, 50, 52] N Nₚ → SF [(2, 0), (2, 1), (2, 2), (2, 3), (2, 4), (5, 13), (5, 14), (5, 15), (7, 1), (7, 2), (7, 3), (7, 4), (7, 5), (7, 6), (7, 7), (7, 8), (7, 9), (7, 10), (7, 11), (7, 12), (7, 13), (7, 14), (7, 15), (7, 16), (7, 17), (7, 18), (8, 0), (8, 1), (8, 2), (8, 3), (8, 4), (15, 0), (15, 1), (15, 2), (15, 3), (15, 4), (17, 0), (17, 1), (17, 2), (17, 3), (17, 4), (28, 0), (31, 3), (31, 13), (31, 14), (31, 15), (31, 16), (40, 0), (49, 0), (49, 1), (49, 2), (49, 3), (49, 4), (51, 0), (51, 1), (51, 2), (51, 3), (51, 4), (53, 0), (62, 0), (71, 0)] F Fₚ → SA [3, 9, 10, 11, 12, 13, 14, 16, 18, 19, 20, 21, 22, 23, 24, 25, 29, 30, 32, 35, 36, 37, 38, 39, 41, 42, 43, 44, 45, 46, 47, 48, 50, 52, 54, 55, 56, 57, 58, 59, 60, 61, 63, 64, 65, 66, 67, 68, 69, 70, 72, 73, 74, 75, 76, 77, 78, 79] A Aₚ → Fₚ 2 0 = (Dₚ 3 : Int) → Fₚ 8 0 = (Dₚ 9 : Int) → Fₚ 7 7 = (Dₚ 10 : Int) → Fₚ 7 8 = (Dₚ 11 : Int) → Fₚ 7 1 = (Dₚ 12 : Int) → Fₚ 7 2 = (Dₚ 13 : Int) → Fₚ 7 3 = (Dₚ 14 : Int) → Fₚ 15 0 = (Dₚ 16 : Int) → Fₚ 17 0 = (Dₚ 18 : Int) → Fₚ 5 13 = (Dₚ 21 : Int) → Aₚ 21 0 = (Dₚ 22 : Int) → Fₚ 5 14 = (Dₚ 23 : Int) → Aₚ 21 1 = (Dₚ 24 : Int) → Aₚ 21 2 = (Dₚ 25 : Int) → Fₚ 49 0 = (Dₚ 50 : Int) → Fₚ 51 0 = (Dₚ 52 : Int) → ∀ m3 : Int, (Nₚ 3 : Int) = m3 → ∀ m9 : Int, (Nₚ 9 : Int) = m9 → ∀ m10 : Int, (Nₚ 10 : Int) = m10 → ∀ m11 : Int, (Nₚ 11 : Int) = m11 → ∀ m12 : Int, (Nₚ 12 : Int) = m12 → ∀ m13 : Int, (Nₚ 13 : Int) = m13 → ∀ m14 : Int, (Nₚ 14 : Int) = m14 → ∀ m16 : Int, (Nₚ 16 : Int) = m16 → ∀ m18 : Int, (Nₚ 18 : Int) = m18 → ∀ m21 : Int, (Nₚ 21 : Int) = m21 → ∀ m22 : Int, (Nₚ 22 : Int) = m22 → ∀ m23 : Int, (Nₚ 23 : Int) = m23 → ∀ m24 : Int, (Nₚ 24 : Int) = m24 → ∀ m25 : Int, (Nₚ 25 : Int) = m25 → ∀ m50 : Int, (Nₚ 50 : Int) = m50 → ∀ m52 : Int, (Nₚ 52 : Int) = m52 → ∀ y2_1 : Int, Fₚ 2 1 = y2_1 → ∀ y8_1 : Int, Fₚ 8 1 = y8_1 → ∀ y15_1 : Int, Fₚ 15 1 = y15_1 → ∀ y17_1 : Int, Fₚ 17 1 = y17_1 → ∀ y49_1 : Int, Fₚ 49 1 = y49_1 → ∀ y51_1 : Int, Fₚ 51 1 = y51_1 → (inr (z)) → (0 ≤ (y2_1) ∧ (y2_1) ≤ (m3) ∧ (m3) ≤ 65536) → (0 ≤ (y8_1) ∧ (y8_1) ≤ (m9) ∧ (m9) ≤ 65536) → ((m10) = 0 ∨ (m10) = 2048) → ((m11) ≤ 16384) → ((m12) = (m13) ∧ (m14) = (m13) ∧ (m13) ≤ 65536 ∧ ((m13) = 0 ∨ 64 ≤ (m13)) ∧ lgq ((m13)) = 0) → (0 ≤ (y15_1) ∧ (y15_1) ≤ (m16) ∧ (m16) ≤ 65536) → (0 ≤ (y17_1) ∧ (y17_1) ≤ (m18) ∧ (m18) ≤ 65536) → ((m21) = 3 ∧ (m22) = (m23) ∧ (m24) = (m23) ∧ (m25) = (m23) ∧ lgq ((m23)) = 0 ∧ (m23) ≤ 16384) → (0 ≤ (y49_1) ∧ (y49_1) ≤ (m50) ∧ (m50) ≤ 65536) → (0 ≤ (y51_1) ∧ (y51_1) ≤ (m52) ∧ (m52) ≤ 65536) → (CEL ((w34))) → Q (some (I z)) σ cₚ sₚ) : Ew 17 (d + 6) 188 ls [.ref (D 5)] σE c s Q := by
  have O := OUT_refl (n := (V17_vd5).length) (D := D) (N := N) (σ := σE) (c := c) (s := s)
  have HE := H
  have r1 : HID ((-2147483648 : Int) ≤ u1_1 ∧ u1_1 ≤ 2147483647) := krg_e (show (-2147483648 : Int) ≤ F 1 1 ∧ F 1 1 ≤ 2147483647 from H.krg 1 1 (by decide)) (show F 1 1 = u1_1 from (eu1_1))
  have r2 : HID ((-2147483648 : Int) ≤ u2_1 ∧ u2_1 ≤ 2147483647) := krg_e (show (-2147483648 : Int) ≤ F 2 1 ∧ F 2 1 ≤ 2147483647 from H.krg 2 1 (by decide)) (show F 2 1 = u2_1 from (eu2_1))
  have r3 : HID ((-2147483648 : Int) ≤ u2_4 ∧ u2_4 ≤ 2147483647) := krg_e (show (-2147483648 : Int) ≤ F 2 4 ∧ F 2 4 ≤ 2147483647 from H.krg 2 4 (by decide)) (show F 2 4 = u2_4 from (eu2_4))
  have r4 : HID ((-2147483648 : Int) ≤ u8_1 ∧ u8_1 ≤ 2147483647) := krg_e (show (-2147483648 : Int) ≤ F 8 1 ∧ F 8 1 ≤ 2147483647 from H.krg 8 1 (by decide)) (show F 8 1 = u8_1 from (eu8_1))
  have r5 : HID ((-2147483648 : Int) ≤ u15_1 ∧ u15_1 ≤ 2147483647) := krg_e (show (-2147483648 : Int) ≤ F 15 1 ∧ F 15 1 ≤ 2147483647 from H.krg 15 1 (by decide)) (show F 15 1 = u15_1 from (eu15_1))
  have r6 : HID ((-2147483648 : Int) ≤ u17_1 ∧ u17_1 ≤ 2147483647) := krg_e (show (-2147483648 : Int) ≤ F 17 1 ∧ F 17 1 ≤ 2147483647 from H.krg 17 1 (by decide)) (show F 17 1 = u17_1 from (eu17_1))
  have r7 : HID ((-2147483648 : Int) ≤ u40_1 ∧ u40_1 ≤ 2147483647) := krg_e (show (-2147483648 : Int) ≤ F 40 1 ∧ F 40 1 ≤ 2147483647 from H.krg 40 1 (by decide)) (show F 40 1 = u40_1 from (eu40_1))
  have r8 : HID ((-2147483648 : Int) ≤ u49_1 ∧ u49_1 ≤ 2147483647) := krg_e (show (-2147483648 : Int) ≤ F 49 1 ∧ F 49 1 ≤ 2147483647 from H.krg 49 1 (by decide)) (show F 49 1 = u49_1 from (eu49_1))
  have r9 : HID ((-2147483648 : Int) ≤ u51_1 ∧ u51_1 ≤ 2147483647) := krg_e (show (-2147483648 : Int) ≤ F 51 1 ∧ F 51 1 ≤ 2147483647 from H.krg 51 1 (by decide)) (show F 51 1 = u51_1 from (eu51_1))
  have r10 : HID ((-2147483648 : Int) ≤ u53_1 ∧ u53_1 ≤ 2147483647) := krg_e (show (-2147483648 : Int) ≤ F 53 1 ∧ F 53 1 ≤ 2147483647 from H.krg 53 1 (by decide)) (show F 53 1 = u53_1 from (eu53_1))
  have r11 : HID ((-2147483648 : Int) ≤ u62_1 ∧ u62_1 ≤ 2147483647) := krg_e (show (-2147483648 : Int) ≤ F 62 1 ∧ F 62 1 ≤ 2147483647 from H.krg 62 1 (by decide)) (show F 62 1 = u62_1 from (eu62_1))
  have r12 : HID ((-2147483648 : Int) ≤ u71_1 ∧ u71_1 ≤ 2147483647) := krg_e (show (-2147483648 : Int) ≤ F 71 1 ∧ F 71 1 ≤ 2147483647 from H.krg 71 1 (by decide)) (show F 71 1 = u71_1 from (eu71_1))
  replace pf2 := HIDm pf2
  replace pf3 := HIDm pf3
  replace pf4 := HIDm pf4
  replace pf5 := HIDm pf5
  replace pf6 := HIDm pf6
  replace pf7 := HIDm pf7
  replace pf8 := HIDm pf8
  replace pf9 := HIDm pf9
  replace pf10 := HIDm pf10
  replace pf11 := HIDm pf11
  replace pf12 := HIDm pf12
  replace pf13 := HIDm pf13
  replace pf14 := HIDm pf14
  replace pf15 := HIDm pf15
  replace pf16 := HIDm pf16
  replace pf17 := HIDm pf17
  replace pf18 := HIDm pf18
  replace pf19 := HIDm pf19
  replace pf20 := HIDm pf20
  replace pf21 := HIDm pf21
  replace pf22 := HIDm pf22
  replace pf23 := HIDm pf23
  replace pf24 := HIDm pf24
  replace pf25 := HIDm pf25
  replace pf26 := HIDm pf26
  replace pf27 := HIDm pf27
  replace pf28 := HIDm pf28
  replace pf29 := HIDm pf29
  replace pf30 := HIDm pf30
  replace pf31 := HIDm pf31
  replace pf32 := HIDm pf32
  replace pf33 := HIDm pf33
  replace pf34 := HIDm pf34
  replace pf35 := HIDm pf35
  replace pf36 := HIDm pf36
  replace pf37 := HIDm pf37
  replace pf38 := HIDm pf38
  replace pf39 := HIDm pf39
  replace pf40 := HIDm pf40
  replace pf41 := HIDm pf41
  replace pf42 := HIDm pf42
  replace pf43 := HIDm pf43
  replace pf44 := HIDm pf44
  replace pf45 := HIDm pf45
  replace pf46 := HIDm pf46
  replace pf47 := HIDm pf47
  replace pf48 := HIDm pf48
  replace pf49 := HIDm pf49
  replace pf50 := HIDm pf50
  replace pf51 := HIDm pf51
  replace pf52 := HIDm pf52
  replace pf53 := HIDm pf53
  replace pf54 := HIDm pf54
  replace pf55 := HIDm pf55
  replace pf56 := HIDm pf56
  replace pf57 := HIDm pf57
  replace pf58 := HIDm pf58
  replace pf59 := HIDm pf59
  replace pf60 := HIDm pf60
  replace pf61 := HIDm pf61
  replace pf62 := HIDm pf62
  replace pf63 := HIDm pf63
  replace pf64 := HIDm pf64
  replace pf65 := HIDm pf65
  replace pf66 := HIDm pf66
  replace pf67 := HIDm pf67
  replace pf68 := HIDm pf68
  replace pf69 := HIDm pf69
  replace pf70 := HIDm pf70
  replace pf71 := HIDm pf71
  replace pf72 := HIDm pf72
  replace pf73 := HIDm pf73
  replace pf74 := HIDm pf74
  replace pf75 := HIDm pf75
  replace pf76 := HIDm pf76
  replace pf77 := HIDm pf77
  replace pf78 := HIDm pf78
  replace pf79 := HIDm pf79
  replace en3 := HIDm en3
  replace en4 := HIDm en4
  replace en6 := HIDm en6
  replace en9 := HIDm en9
  replace en10 := HIDm en10
  replace en11 := HIDm en11
  replace en12 := HIDm en12
  replace en13 := HIDm en13
  replace en14 := HIDm en14
  replace en16 := HIDm en16
  replace en18 := HIDm en18
  replace en19 := HIDm en19
  replace en20 := HIDm en20
  replace en21 := HIDm en21
  replace en22 := HIDm en22
  replace en23 := HIDm en23
  replace en24 := HIDm en24
  replace en25 := HIDm en25
  replace en26 := HIDm en26
  replace en27 := HIDm en27
  replace en29 := HIDm en29
  replace en30 := HIDm en30
  replace en32 := HIDm en32
  replace en33 := HIDm en33
  replace en34 := HIDm en34
  replace en35 := HIDm en35
  replace en36 := HIDm en36
  replace en37 := HIDm en37
  replace en38 := HIDm en38
  replace en39 := HIDm en39
  replace en41 := HIDm en41
  replace en42 := HIDm en42
  replace en43 := HIDm en43
  replace en44 := HIDm en44
  replace en45 := HIDm en45
  replace en46 := HIDm en46
  replace en47 := HIDm en47
  replace en48 := HIDm en48
  replace en50 := HIDm en50
  replace en52 := HIDm en52
  replace en54 := HIDm en54
  replace en55 := HIDm en55
  replace en56 := HIDm en56
  replace en57 := HIDm en57
  replace en58 := HIDm en58
  replace en59 := HIDm en59
  replace en60 := HIDm en60
  replace en61 := HIDm en61
  replace en63 := HIDm en63
  replace en64 := HIDm en64
  replace en65 := HIDm en65
  replace en66 := HIDm en66
  replace en67 := HIDm en67
  replace en68 := HIDm en68
  replace en69 := HIDm en69
  replace en70 := HIDm en70
  replace en72 := HIDm en72
  replace en73 := HIDm en73
  replace en74 := HIDm en74
  replace en75 := HIDm en75
  replace en76 := HIDm en76
  replace en77 := HIDm en77
  replace en78 := HIDm en78
  replace en79 := HIDm en79
  replace eu1_1 := HIDm eu1_1
  replace eu2_1 := HIDm eu2_1
  replace eu2_4 := HIDm eu2_4
  replace eu8_1 := HIDm eu8_1
  replace eu15_1 := HIDm eu15_1
  replace eu17_1 := HIDm eu17_1
  replace eu40_1 := HIDm eu40_1
  replace eu49_1 := HIDm eu49_1
  replace eu51_1 := HIDm eu51_1
  replace eu53_1 := HIDm eu53_1
  replace eu62_1 := HIDm eu62_1
  replace eu71_1 := HIDm eu71_1
  have r13 : HID ((0 : Int) ≤ n3 ∧ n3 ≤ 1000000) := nrng (H.nle 3 (by decide)) (show (N 3 : Int) = n3 from en3)
  have r14 : HID ((0 : Int) ≤ n4 ∧ n4 ≤ 1000000) := nrng (H.nle 4 (by decide)) (show (N 4 : Int) = n4 from en4)
  have r15 : HID ((0 : Int) ≤ n6 ∧ n6 ≤ 1000000) := nrng (H.nle 6 (by decide)) (show (N 6 : Int) = n6 from en6)
  have r16 : HID ((0 : Int) ≤ n9 ∧ n9 ≤ 1000000) := nrng (H.nle 9 (by decide)) (show (N 9 : Int) = n9 from en9)
  have r17 : HID ((0 : Int) ≤ n10 ∧ n10 ≤ 1000000) := nrng (H.nle 10 (by decide)) (show (N 10 : Int) = n10 from en10)
  have r18 : HID ((0 : Int) ≤ n11 ∧ n11 ≤ 1000000) := nrng (H.nle 11 (by decide)) (show (N 11 : Int) = n11 from en11)
  have r19 : HID ((0 : Int) ≤ n12 ∧ n12 ≤ 1000000) := nrng (H.nle 12 (by decide)) (show (N 12 : Int) = n12 from en12)
  have r20 : HID ((0 : Int) ≤ n13 ∧ n13 ≤ 1000000) := nrng (H.nle 13 (by decide)) (show (N 13 : Int) = n13 from en13)
  have r21 : HID ((0 : Int) ≤ n14 ∧ n14 ≤ 1000000) := nrng (H.nle 14 (by decide)) (show (N 14 : Int) = n14 from en14)
  have r22 : HID ((0 : Int) ≤ n16 ∧ n16 ≤ 1000000) := nrng (H.nle 16 (by decide)) (show (N 16 : Int) = n16 from en16)
  have r23 : HID ((0 : Int) ≤ n18 ∧ n18 ≤ 1000000) := nrng (H.nle 18 (by decide)) (show (N 18 : Int) = n18 from en18)
  have r24 : HID ((0 : Int) ≤ n19 ∧ n19 ≤ 1000000) := nrng (H.nle 19 (by decide)) (show (N 19 : Int) = n19 from en19)
  have r25 : HID ((0 : Int) ≤ n20 ∧ n20 ≤ 1000000) := nrng (H.nle 20 (by decide)) (show (N 20 : Int) = n20 from en20)
  have r26 : HID ((0 : Int) ≤ n21 ∧ n21 ≤ 1000000) := nrng (H.nle 21 (by decide)) (show (N 21 : Int) = n21 from en21)
  have r27 : HID ((0 : Int) ≤ n22 ∧ n22 ≤ 1000000) := nrng (H.nle 22 (by decide)) (show (N 22 : Int) = n22 from en22)
  have r28 : HID ((0 : Int) ≤ n23 ∧ n23 ≤ 1000000) := nrng (H.nle 23 (by decide)) (show (N 23 : Int) = n23 from en23)
  have r29 : HID ((0 : Int) ≤ n24 ∧ n24 ≤ 1000000) := nrng (H.nle 24 (by decide)) (show (N 24 : Int) = n24 from en24)
  have r30 : HID ((0 : Int) ≤ n25 ∧ n25 ≤ 1000000) := nrng (H.nle 25 (by decide)) (show (N 25 : Int) = n25 from en25)
  have r31 : HID ((0 : Int) ≤ n26 ∧ n26 ≤ 1000000) := nrng (H.nle 26 (by decide)) (show (N 26 : Int) = n26 from en26)
  have r32 : HID ((0 : Int) ≤ n27 ∧ n27 ≤ 1000000) := nrng (H.nle 27 (by decide)) (show (N 27 : Int) = n27 from en27)
  have r33 : HID ((0 : Int) ≤ n29 ∧ n29 ≤ 1000000) := nrng (H.nle 29 (by decide)) (show (N 29 : Int) = n29 from en29)
  have r34 : HID ((0 : Int) ≤ n30 ∧ n30 ≤ 1000000) := nrng (H.nle 30 (by decide)) (show (N 30 : Int) = n30 from en30)
  have r35 : HID ((0 : Int) ≤ n32 ∧ n32 ≤ 1000000) := nrng (H.nle 32 (by decide)) (show (N 32 : Int) = n32 from en32)
  have r36 : HID ((0 : Int) ≤ n33 ∧ n33 ≤ 1000000) := nrng (H.nle 33 (by decide)) (show (N 33 : Int) = n33 from en33)
  have r37 : HID ((0 : Int) ≤ n34 ∧ n34 ≤ 1000000) := nrng (H.nle 34 (by decide)) (show (N 34 : Int) = n34 from en34)
  have r38 : HID ((0 : Int) ≤ n35 ∧ n35 ≤ 1000000) := nrng (H.nle 35 (by decide)) (show (N 35 : Int) = n35 from en35)
  have r39 : HID ((0 : Int) ≤ n36 ∧ n36 ≤ 1000000) := nrng (H.nle 36 (by decide)) (show (N 36 : Int) = n36 from en36)
  have r40 : HID ((0 : Int) ≤ n37 ∧ n37 ≤ 1000000) := nrng (H.nle 37 (by decide)) (show (N 37 : Int) = n37 from en37)
  have r41 : HID ((0 : Int) ≤ n38 ∧ n38 ≤ 1000000) := nrng (H.nle 38 (by decide)) (show (N 38 : Int) = n38 from en38)
  have r42 : HID ((0 : Int) ≤ n39 ∧ n39 ≤ 1000000) := nrng (H.nle 39 (by decide)) (show (N 39 : Int) = n39 from en39)
  have r43 : HID ((0 : Int) ≤ n41 ∧ n41 ≤ 1000000) := nrng (H.nle 41 (by decide)) (show (N 41 : Int) = n41 from en41)
  have r44 : HID ((0 : Int) ≤ n42 ∧ n42 ≤ 1000000) := nrng (H.nle 42 (by decide)) (show (N 42 : Int) = n42 from en42)
  have r45 : HID ((0 : Int) ≤ n43 ∧ n43 ≤ 1000000) := nrng (H.nle 43 (by decide)) (show (N 43 : Int) = n43 from en43)
  have r46 : HID ((0 : Int) ≤ n44 ∧ n44 ≤ 1000000) := nrng (H.nle 44 (by decide)) (show (N 44 : Int) = n44 from en44)
  have r47 : HID ((0 : Int) ≤ n45 ∧ n45 ≤ 1000000) := nrng (H.nle 45 (by decide)) (show (N 45 : Int) = n45 from en45)
  have r48 : HID ((0 : Int) ≤ n46 ∧ n46 ≤ 1000000) := nrng (H.nle 46 (by decide)) (show (N 46 : Int) = n46 from en46)
  have r49 : HID ((0 : Int) ≤ n47 ∧ n47 ≤ 1000000) := nrng (H.nle 47 (by decide)) (show (N 47 : Int) = n47 from en47)
  have r50 : HID ((0 : Int) ≤ n48 ∧ n48 ≤ 1000000) := nrng (H.nle 48 (by decide)) (show (N 48 : Int) = n48 from en48)
  have r51 : HID ((0 : Int) ≤ n50 ∧ n50 ≤ 1000000) := nrng (H.nle 50 (by decide)) (show (N 50 : Int) = n50 from en50)
  have r52 : HID ((0 : Int) ≤ n52 ∧ n52 ≤ 1000000) := nrng (H.nle 52 (by decide)) (show (N 52 : Int) = n52 from en52)
  have r53 : HID ((0 : Int) ≤ n54 ∧ n54 ≤ 1000000) := nrng (H.nle 54 (by decide)) (show (N 54 : Int) = n54 from en54)
  have r54 : HID ((0 : Int) ≤ n55 ∧ n55 ≤ 1000000) := nrng (H.nle 55 (by decide)) (show (N 55 : Int) = n55 from en55)
  have r55 : HID ((0 : Int) ≤ n56 ∧ n56 ≤ 1000000) := nrng (H.nle 56 (by decide)) (show (N 56 : Int) = n56 from en56)
  have r56 : HID ((0 : Int) ≤ n57 ∧ n57 ≤ 1000000) := nrng (H.nle 57 (by decide)) (show (N 57 : Int) = n57 from en57)
  have r57 : HID ((0 : Int) ≤ n58 ∧ n58 ≤ 1000000) := nrng (H.nle 58 (by decide)) (show (N 58 : Int) = n58 from en58)
  have r58 : HID ((0 : Int) ≤ n59 ∧ n59 ≤ 1000000) := nrng (H.nle 59 (by decide)) (show (N 59 : Int) = n59 from en59)
  have r59 : HID ((0 : Int) ≤ n60 ∧ n60 ≤ 1000000) := nrng (H.nle 60 (by decide)) (show (N 60 : Int) = n60 from en60)
  have r60 : HID ((0 : Int) ≤ n61 ∧ n61 ≤ 1000000) := nrng (H.nle 61 (by decide)) (show (N 61 : Int) = n61 from en61)
  have r61 : HID ((0 : Int) ≤ n63 ∧ n63 ≤ 1000000) := nrng (H.nle 63 (by decide)) (show (N 63 : Int) = n63 from en63)
  have r62 : HID ((0 : Int) ≤ n64 ∧ n64 ≤ 1000000) := nrng (H.nle 64 (by decide)) (show (N 64 : Int) = n64 from en64)
  have r63 : HID ((0 : Int) ≤ n65 ∧ n65 ≤ 1000000) := nrng (H.nle 65 (by decide)) (show (N 65 : Int) = n65 from en65)
  have r64 : HID ((0 : Int) ≤ n66 ∧ n66 ≤ 1000000) := nrng (H.nle 66 (by decide)) (show (N 66 : Int) = n66 from en66)
  have r65 : HID ((0 : Int) ≤ n67 ∧ n67 ≤ 1000000) := nrng (H.nle 67 (by decide)) (show (N 67 : Int) = n67 from en67)
  have r66 : HID ((0 : Int) ≤ n68 ∧ n68 ≤ 1000000) := nrng (H.nle 68 (by decide)) (show (N 68 : Int) = n68 from en68)
  have r67 : HID ((0 : Int) ≤ n69 ∧ n69 ≤ 1000000) := nrng (H.nle 69 (by decide)) (show (N 69 : Int) = n69 from en69)
  have r68 : HID ((0 : Int) ≤ n70 ∧ n70 ≤ 1000000) := nrng (H.nle 70 (by decide)) (show (N 70 : Int) = n70 from en70)
  have r69 : HID ((0 : Int) ≤ n72 ∧ n72 ≤ 1000000) := nrng (H.nle 72 (by decide)) (show (N 72 : Int) = n72 from en72)
  have r70 : HID ((0 : Int) ≤ n73 ∧ n73 ≤ 1000000) := nrng (H.nle 73 (by decide)) (show (N 73 : Int) = n73 from en73)
  have r71 : HID ((0 : Int) ≤ n74 ∧ n74 ≤ 1000000) := nrng (H.nle 74 (by decide)) (show (N 74 : Int) = n74 from en74)
  have r72 : HID ((0 : Int) ≤ n75 ∧ n75 ≤ 1000000) := nrng (H.nle 75 (by decide)) (show (N 75 : Int) = n75 from en75)
  have r73 : HID ((0 : Int) ≤ n76 ∧ n76 ≤ 1000000) := nrng (H.nle 76 (by decide)) (show (N 76 : Int) = n76 from en76)
  have r74 : HID ((0 : Int) ≤ n77 ∧ n77 ≤ 1000000) := nrng (H.nle 77 (by decide)) (show (N 77 : Int) = n77 from en77)
  have r75 : HID ((0 : Int) ≤ n78 ∧ n78 ≤ 1000000) := nrng (H.nle 78 (by decide)) (show (N 78 : Int) = n78 from en78)
  have r76 : HID ((0 : Int) ≤ n79 ∧ n79 ≤ 1000000) := nrng (H.nle 79 (by decide)) (show (N 79 : Int) = n79 from en79)
  refine Ew_of (pcₚ := 189) (fun _ => x_aload_n rfl hl0) ?_
  refine v_g H (o := 0) (v := .ref (D 2)) rfl rfl rfl rfl rfl (vrf (pf2)) ?_
  refine Ew_of (pcₚ := 194) (fun _ => x_aload rfl hl4) ?_
  refine v_inv H (o := 5) rfl rfl rfl rfl rfl rfl (by rfl) (C153_Row_Row (D := pul [5, 2, 1, 3, 4, 6, 7, 8, 9, 10, 11, 12, 13, 14, 15, 16, 17, 18, 19, 20, 21, 22, 23, 24, 25, 26, 27, 28, 29, 30, 31, 32, 33, 34, 35, 36, 37, 38, 39, 40, 41, 42, 43, 44, 45, 46, 47, 48, 49, 50, 51, 52, 53, 54, 55, 56, 57, 58, 59, 60, 61, 62, 63, 64, 65, 66, 67, 68, 69, 70, 71, 72, 73, 74, 75, 76, 77, 78, 79] D) (N := pul [5, 2, 1, 3, 4, 6, 7, 8, 9, 10, 11, 12, 13, 14, 15, 16, 17, 18, 19, 20, 21, 22, 23, 24, 25, 26, 27, 28, 29, 30, 31, 32, 33, 34, 35, 36, 37, 38, 39, 40, 41, 42, 43, 44, 45, 46, 47, 48, 49, 50, 51, 52, 53, 54, 55, 56, 57, 58, 59, 60, 61, 62, 63, 64, 65, 66, 67, 68, 69, 70, 71, 72, 73, 74, 75, 76, 77, 78, 79] N) (HW_sub H (VS_of (show vsub V17_vd5 V153_Row_Row [5, 2, 1, 3, 4, 6, 7, 8, 9, 10, 11, 12, 13, 14, 15, 16, 17, 18, 19, 20, 21, 22, 23, 24, 25, 26, 27, 28, 29, 30, 31, 32, 33, 34, 35, 36, 37, 38, 39, 40, 41, 42, 43, 44, 45, 46, 47, 48, 49, 50, 51, 52, 53, 54, 55, 56, 57, 58, 59, 60, 61, 62, 63, 64, 65, 66, 67, 68, 69, 70, 71, 72, 73, 74, 75, 76, 77, 78, 79] = true by decide +kernel))) (STC_out HT HE O) (pf3) (pf4) (pf6) (pf7) (pf8) (pf9) (pf10) (pf11) (pf12) (pf13) (pf14) (pf15) (pf16) (pf17) (pf18) (pf19) (pf20) (pf21) (pf22) (pf23) (pf24) (pf25) (pf26) (pf27) (pf28) (pf29) (pf30) (pf31) (pf32) (pf33) (pf34) (pf35) (pf36) (pf37) (pf38) (pf39) (pf40) (pf41) (pf42) (pf43) (pf44) (pf45) (pf46) (pf47) (pf48) (pf49) (pf50) (pf51) (pf52) (pf53) (pf54) (pf55) (pf56) (pf57) (pf58) (pf59) (pf60) (pf61) (pf62) (pf63) (pf64) (pf65) (pf66) (pf67) (pf68) (pf69) (pf70) (pf71) (pf72) (pf73) (pf74) (pf75) (pf76) (pf77) (pf78) (pf79) (n3) (en3) (n4) (en4) (n6) (en6) (n9) (en9) (n10) (en10) (n11) (en11) (n12) (en12) (n13) (en13) (n14) (en14) (n16) (en16) (n18) (en18) (n19) (en19) (n20) (en20) (n21) (en21) (n22) (en22) (n23) (en23) (n24) (en24) (n25) (en25) (n26) (en26) (n27) (en27) (n29) (en29) (n30) (en30) (n32) (en32) (n33) (en33) (n34) (en34) (n35) (en35) (n36) (en36) (n37) (en37) (n38) (en38) (n39) (en39) (n41) (en41) (n42) (en42) (n43) (en43) (n44) (en44) (n45) (en45) (n46) (en46) (n47) (en47) (n48) (en48) (n50) (en50) (n52) (en52) (n54) (en54) (n55) (en55) (n56) (en56) (n57) (en57) (n58) (en58) (n59) (en59) (n60) (en60) (n61) (en61) (n63) (en63) (n64) (en64) (n65) (en65) (n66) (en66) (n67) (en67) (n68) (en68) (n69) (en69) (n70) (en70) (n72) (en72) (n73) (en73) (n74) (en74) (n75) (en75) (n76) (en76) (n77) (en77) (n78) (en78) (n79) (en79) (u2_1) ((eu2_1)) (u2_4) ((eu2_4)) (u1_1) ((eu1_1)) (u8_1) ((eu8_1)) (u15_1) ((eu15_1)) (u17_1) ((eu17_1)) (u40_1) ((eu40_1)) (u49_1) ((eu49_1)) (u51_1) ((eu51_1)) (u53_1) ((eu53_1)) (u62_1) ((eu62_1)) (u71_1) ((eu71_1)) (w6) (ew6) (w34) (ew34) (show 0 ≤ (u2_1) ∧ (u2_1) ≤ (n3) ∧ (n3) ≤ 65536 by have qh0 := HIDe r13; have qh1 := HIDe r2; omega) (show 0 ≤ (u2_4) ∧ (u2_4) ≤ 7 by have qh0 := HIDe r3; omega) (show 0 ≤ (u1_1) ∧ (u1_1) ≤ (n4) ∧ (n4) ≤ 65536 by have qh0 := HIDe r1; have qh1 := HIDe r14; omega) (show (u1_1) ≤ 16384 by have qh0 := HIDe r1; omega) (show 1 ≤ ((w6)) 1 ∧ ((w6)) 1 ≤ 8 by omega) (show 0 ≤ (u8_1) ∧ (u8_1) ≤ (n9) ∧ (n9) ≤ 65536 by have qh0 := HIDe r16; have qh1 := HIDe r4; omega) (show (n10) = 0 ∨ (n10) = 2048 by have qh0 := HIDe r17; omega) (show (n11) ≤ 16384 by have qh0 := HIDe r18; omega) (show (n12) = (n13) ∧ (n14) = (n13) ∧ (n13) ≤ 65536 ∧ ((n13) = 0 ∨ 64 ≤ (n13)) ∧ lgq ((n13)) = 0 by have qh0 := HIDe r19; have qh1 := HIDe r20; have qh2 := HIDe r21; omega) (show 0 ≤ (u15_1) ∧ (u15_1) ≤ (n16) ∧ (n16) ≤ 65536 by have qh0 := HIDe r22; have qh1 := HIDe r5; omega) (show 0 ≤ (u17_1) ∧ (u17_1) ≤ (n18) ∧ (n18) ≤ 65536 by have qh0 := HIDe r23; have qh1 := HIDe r6; omega) (show (n19) = 256 by have qh0 := HIDe r24; omega) (show (n20) = 53 by have qh0 := HIDe r25; omega) (show (n21) = 3 ∧ (n22) = (n23) ∧ (n24) = (n23) ∧ (n25) = (n23) ∧ lgq ((n23)) = 0 ∧ (n23) ≤ 16384 by have qh0 := HIDe r26; have qh1 := HIDe r27; have qh2 := HIDe r28; have qh3 := HIDe r29; have qh4 := HIDe r30; omega) (show (n6) = 10 ∧ (n26) = 2 ∧ (n27) = 3 ∧ (n29) = 3 ∧ (n30) = 3 by have qh0 := HIDe r15; have qh1 := HIDe r31; have qh2 := HIDe r32; have qh3 := HIDe r33; have qh4 := HIDe r34; omega) (by assumption) (by assumption) (show 0 ≤ (u49_1) ∧ (u49_1) ≤ (n50) ∧ (n50) ≤ 65536 by have qh0 := HIDe r51; have qh1 := HIDe r8; omega) (show 0 ≤ (u51_1) ∧ (u51_1) ≤ (n52) ∧ (n52) ≤ 65536 by have qh0 := HIDe r52; have qh1 := HIDe r9; omega) (show CEL ((w34)) by assumption) (by assumption) (by assumption) (by assumption) (fun z77 σ77 D77ₚ N77ₚ F77ₚ A77ₚ c77 s77 Hₚ Oₚ hD77 hN77 hS77 hA77 pm77_3 pm77_8 pm77_9 pm77_10 pm77_11 pm77_12 pm77_13 pm77_15 pm77_17 pm77_20 pm77_21 pm77_22 pm77_23 pm77_24 pm77_49 pm77_51 m77_3 em77_3 m77_8 em77_8 m77_9 em77_9 m77_10 em77_10 m77_11 em77_11 m77_12 em77_12 m77_13 em77_13 m77_15 em77_15 m77_17 em77_17 m77_20 em77_20 m77_21 em77_21 m77_22 em77_22 m77_23 em77_23 m77_24 em77_24 m77_49 em77_49 m77_51 em77_51 y77_1_1 ey77_1_1 y77_1_4 ey77_1_4 y77_7_1 ey77_7_1 y77_14_1 ey77_14_1 y77_16_1 ey77_16_1 y77_48_1 ey77_48_1 y77_50_1 ey77_50_1 pz77_0 pz77_1 pz77_2 pz77_3 pz77_4 pz77_5 pz77_6 pz77_7 pz77_8 pz77_9 pz77_10 pz77_11 pz77_12 => ⟨rretB rfl pz77_0, ?_⟩))
  replace pm77_3 := HIDm pm77_3
  replace pm77_8 := HIDm pm77_8
  replace pm77_9 := HIDm pm77_9
  replace pm77_10 := HIDm pm77_10
  replace pm77_11 := HIDm pm77_11
  replace pm77_12 := HIDm pm77_12
  replace pm77_13 := HIDm pm77_13
  replace pm77_15 := HIDm pm77_15
  replace pm77_17 := HIDm pm77_17
  replace pm77_20 := HIDm pm77_20
  replace pm77_21 := HIDm pm77_21
  replace pm77_22 := HIDm pm77_22
  replace pm77_23 := HIDm pm77_23
  replace pm77_24 := HIDm pm77_24
  replace pm77_49 := HIDm pm77_49
  replace pm77_51 := HIDm pm77_51
  replace em77_3 := HIDm em77_3
  replace em77_8 := HIDm em77_8
  replace em77_9 := HIDm em77_9
  replace em77_10 := HIDm em77_10
  replace em77_11 := HIDm em77_11
  replace em77_12 := HIDm em77_12
  replace em77_13 := HIDm em77_13
  replace em77_15 := HIDm em77_15
  replace em77_17 := HIDm em77_17
  replace em77_20 := HIDm em77_20
  replace em77_21 := HIDm em77_21
  replace em77_22 := HIDm em77_22
  replace em77_23 := HIDm em77_23
  replace em77_24 := HIDm em77_24
  replace em77_49 := HIDm em77_49
  replace em77_51 := HIDm em77_51
  replace ey77_1_1 := HIDm ey77_1_1
  replace ey77_1_4 := HIDm ey77_1_4
  replace ey77_7_1 := HIDm ey77_7_1
  replace ey77_14_1 := HIDm ey77_14_1
  replace ey77_16_1 := HIDm ey77_16_1
  replace ey77_48_1 := HIDm ey77_48_1
  replace ey77_50_1 := HIDm ey77_50_1
  refine v_backM (c := c) (s := s) H (show vsub V17_vd5 V153_Row_Row [5, 2, 1, 3, 4, 6, 7, 8, 9, 10, 11, 12, 13, 14, 15, 16, 17, 18, 19, 20, 21, 22, 23, 24, 25, 26, 27, 28, 29, 30, 31, 32, 33, 34, 35, 36, 37, 38, 39, 40, 41, 42, 43, 44, 45, 46, 47, 48, 49, 50, 51, 52, 53, 54, 55, 56, 57, 58, 59, 60, 61, 62, 63, 64, 65, 66, 67, 68, 69, 70, 71, 72, 73, 74, 75, 76, 77, 78, 79] = true by decide +kernel) Hₚ Oₚ hD77 (show vmov V17_vd5 [5, 2, 1, 3, 4, 6, 7, 8, 9, 10, 11, 12, 13, 14, 15, 16, 17, 18, 19, 20, 21, 22, 23, 24, 25, 26, 27, 28, 29, 30, 31, 32, 33, 34, 35, 36, 37, 38, 39, 40, 41, 42, 43, 44, 45, 46, 47, 48, 49, 50, 51, 52, 53, 54, 55, 56, 57, 58, 59, 60, 61, 62, 63, 64, 65, 66, 67, 68, 69, 70, 71, 72, 73, 74, 75, 76, 77, 78, 79] [3, 8, 9, 10, 11, 12, 13, 15, 17, 20, 21, 22, 23, 24, 49, 51] = true by decide +kernel) (fun D77 N77 F77 A77 H Oₚ eD77 eN77 eF77 eA77 => ?_)
  have O := OUT_trans O Oₚ
  -- Packer.packDictionary
  have pe77_21_0 : HID (A77 21 0 = (D77 22 : Int)) := (congrFun (eA77 21) 0).trans (pm77_21.trans (congrArg (fun q : Nat => (q : Int)) (eD77 22).symm))
  have pe77_21_1 : HID (A77 21 1 = (D77 24 : Int)) := (congrFun (eA77 21) 1).trans (pm77_23.trans (congrArg (fun q : Nat => (q : Int)) (eD77 24).symm))
  have pe77_21_2 : HID (A77 21 2 = (D77 25 : Int)) := (congrFun (eA77 21) 2).trans (pm77_24.trans (congrArg (fun q : Nat => (q : Int)) (eD77 25).symm))
  have pe77_26_0 : HID (A77 26 0 = (D77 31 : Int)) := (congrFun ((show A77 26 = A 26 from (eA77 26).trans (funext (hA77 25 rfl)))) 0).trans ((pf31).trans (congrArg (fun q : Nat => (q : Int)) ((show D77 31 = D 31 from (eD77 31).trans (hD77 30 rfl))).symm))
  have pe77_27_0 : HID (A77 27 0 = (D77 53 : Int)) := (congrFun ((show A77 27 = A 27 from (eA77 27).trans (funext (hA77 26 rfl)))) 0).trans ((pf53).trans (congrArg (fun q : Nat => (q : Int)) ((show D77 53 = D 53 from (eD77 53).trans (hD77 52 rfl))).symm))
  have pe77_27_1 : HID (A77 27 1 = (D77 62 : Int)) := (congrFun ((show A77 27 = A 27 from (eA77 27).trans (funext (hA77 26 rfl)))) 1).trans ((pf62).trans (congrArg (fun q : Nat => (q : Int)) ((show D77 62 = D 62 from (eD77 62).trans (hD77 61 rfl))).symm))
  have pe77_27_2 : HID (A77 27 2 = (D77 71 : Int)) := (congrFun ((show A77 27 = A 27 from (eA77 27).trans (funext (hA77 26 rfl)))) 2).trans ((pf71).trans (congrArg (fun q : Nat => (q : Int)) ((show D77 71 = D 71 from (eD77 71).trans (hD77 70 rfl))).symm))
  have pf77_0_11 : HID (F77 0 11 = (D77 5 : Int)) := ((show F77 0 11 = F 0 11 from (eF77 0 11))).trans ((pf5).trans (congrArg (fun q : Nat => (q : Int)) ((show D77 5 = D 5 from (eD77 5).trans (hD77 0 rfl))).symm))
  have pf77_0_5 : HID (F77 0 5 = (D77 2 : Int)) := ((show F77 0 5 = F 0 5 from (eF77 0 5))).trans ((pf2).trans (congrArg (fun q : Nat => (q : Int)) ((show D77 2 = D 2 from (eD77 2).trans (hD77 1 rfl))).symm))
  have pf77_1_0 : HID (F77 1 0 = (D77 4 : Int)) := ((show F77 1 0 = F 1 0 from (eF77 1 0).trans (hS77 2 0 rfl))).trans ((pf4).trans (congrArg (fun q : Nat => (q : Int)) ((show D77 4 = D 4 from (eD77 4).trans (hD77 4 rfl))).symm))
  have pf77_15_0 : HID (F77 15 0 = (D77 16 : Int)) := (eF77 15 0).trans (pm77_15.trans (congrArg (fun q : Nat => (q : Int)) (eD77 16).symm))
  have pf77_17_0 : HID (F77 17 0 = (D77 18 : Int)) := (eF77 17 0).trans (pm77_17.trans (congrArg (fun q : Nat => (q : Int)) (eD77 18).symm))
  have pf77_2_0 : HID (F77 2 0 = (D77 3 : Int)) := (eF77 2 0).trans (pm77_3.trans (congrArg (fun q : Nat => (q : Int)) (eD77 3).symm))
  have pf77_28_1 : HID (F77 28 1 = (D77 29 : Int)) := ((show F77 28 1 = F 28 1 from (eF77 28 1).trans (hS77 27 1 rfl))).trans ((pf29).trans (congrArg (fun q : Nat => (q : Int)) ((show D77 29 = D 29 from (eD77 29).trans (hD77 28 rfl))).symm))
  have pf77_28_2 : HID (F77 28 2 = (D77 30 : Int)) := ((show F77 28 2 = F 28 2 from (eF77 28 2).trans (hS77 27 2 rfl))).trans ((pf30).trans (congrArg (fun q : Nat => (q : Int)) ((show D77 30 = D 30 from (eD77 30).trans (hD77 29 rfl))).symm))
  have pf77_31_0 : HID (F77 31 0 = (D77 32 : Int)) := ((show F77 31 0 = F 31 0 from (eF77 31 0).trans (hS77 30 0 rfl))).trans ((pf32).trans (congrArg (fun q : Nat => (q : Int)) ((show D77 32 = D 32 from (eD77 32).trans (hD77 31 rfl))).symm))
  have pf77_31_1 : HID (F77 31 1 = (D77 33 : Int)) := ((show F77 31 1 = F 31 1 from (eF77 31 1).trans (hS77 30 1 rfl))).trans ((pf33).trans (congrArg (fun q : Nat => (q : Int)) ((show D77 33 = D 33 from (eD77 33).trans (hD77 32 rfl))).symm))
  have pf77_31_10 : HID (F77 31 10 = (D77 37 : Int)) := ((show F77 31 10 = F 31 10 from (eF77 31 10).trans (hS77 30 10 rfl))).trans ((pf37).trans (congrArg (fun q : Nat => (q : Int)) ((show D77 37 = D 37 from (eD77 37).trans (hD77 36 rfl))).symm))
  have pf77_31_11 : HID (F77 31 11 = (D77 38 : Int)) := ((show F77 31 11 = F 31 11 from (eF77 31 11).trans (hS77 30 11 rfl))).trans ((pf38).trans (congrArg (fun q : Nat => (q : Int)) ((show D77 38 = D 38 from (eD77 38).trans (hD77 37 rfl))).symm))
  have pf77_31_12 : HID (F77 31 12 = (D77 39 : Int)) := ((show F77 31 12 = F 31 12 from (eF77 31 12).trans (hS77 30 12 rfl))).trans ((pf39).trans (congrArg (fun q : Nat => (q : Int)) ((show D77 39 = D 39 from (eD77 39).trans (hD77 38 rfl))).symm))
  have pf77_31_2 : HID (F77 31 2 = (D77 34 : Int)) := ((show F77 31 2 = F 31 2 from (eF77 31 2).trans (hS77 30 2 rfl))).trans ((pf34).trans (congrArg (fun q : Nat => (q : Int)) ((show D77 34 = D 34 from (eD77 34).trans (hD77 33 rfl))).symm))
  have pf77_31_4 : HID (F77 31 4 = (D77 35 : Int)) := ((show F77 31 4 = F 31 4 from (eF77 31 4).trans (hS77 30 4 rfl))).trans ((pf35).trans (congrArg (fun q : Nat => (q : Int)) ((show D77 35 = D 35 from (eD77 35).trans (hD77 34 rfl))).symm))
  have pf77_31_5 : HID (F77 31 5 = (D77 36 : Int)) := ((show F77 31 5 = F 31 5 from (eF77 31 5).trans (hS77 30 5 rfl))).trans ((pf36).trans (congrArg (fun q : Nat => (q : Int)) ((show D77 36 = D 36 from (eD77 36).trans (hD77 35 rfl))).symm))
  have pf77_31_6 : HID (F77 31 6 = (D77 40 : Int)) := ((show F77 31 6 = F 31 6 from (eF77 31 6).trans (hS77 30 6 rfl))).trans ((pf40).trans (congrArg (fun q : Nat => (q : Int)) ((show D77 40 = D 40 from (eD77 40).trans (hD77 39 rfl))).symm))
  have pf77_31_7 : HID (F77 31 7 = (D77 49 : Int)) := ((show F77 31 7 = F 31 7 from (eF77 31 7).trans (hS77 30 7 rfl))).trans ((pf49).trans (congrArg (fun q : Nat => (q : Int)) ((show D77 49 = D 49 from (eD77 49).trans (hD77 48 rfl))).symm))
  have pf77_31_8 : HID (F77 31 8 = (D77 51 : Int)) := ((show F77 31 8 = F 31 8 from (eF77 31 8).trans (hS77 30 8 rfl))).trans ((pf51).trans (congrArg (fun q : Nat => (q : Int)) ((show D77 51 = D 51 from (eD77 51).trans (hD77 50 rfl))).symm))
  have pf77_40_2 : HID (F77 40 2 = (D77 41 : Int)) := ((show F77 40 2 = F 40 2 from (eF77 40 2).trans (hS77 39 2 rfl))).trans ((pf41).trans (congrArg (fun q : Nat => (q : Int)) ((show D77 41 = D 41 from (eD77 41).trans (hD77 40 rfl))).symm))
  have pf77_40_3 : HID (F77 40 3 = (D77 42 : Int)) := ((show F77 40 3 = F 40 3 from (eF77 40 3).trans (hS77 39 3 rfl))).trans ((pf42).trans (congrArg (fun q : Nat => (q : Int)) ((show D77 42 = D 42 from (eD77 42).trans (hD77 41 rfl))).symm))
  have pf77_40_4 : HID (F77 40 4 = (D77 43 : Int)) := ((show F77 40 4 = F 40 4 from (eF77 40 4).trans (hS77 39 4 rfl))).trans ((pf43).trans (congrArg (fun q : Nat => (q : Int)) ((show D77 43 = D 43 from (eD77 43).trans (hD77 42 rfl))).symm))
  have pf77_40_5 : HID (F77 40 5 = (D77 44 : Int)) := ((show F77 40 5 = F 40 5 from (eF77 40 5).trans (hS77 39 5 rfl))).trans ((pf44).trans (congrArg (fun q : Nat => (q : Int)) ((show D77 44 = D 44 from (eD77 44).trans (hD77 43 rfl))).symm))
  have pf77_40_6 : HID (F77 40 6 = (D77 45 : Int)) := ((show F77 40 6 = F 40 6 from (eF77 40 6).trans (hS77 39 6 rfl))).trans ((pf45).trans (congrArg (fun q : Nat => (q : Int)) ((show D77 45 = D 45 from (eD77 45).trans (hD77 44 rfl))).symm))
  have pf77_40_7 : HID (F77 40 7 = (D77 46 : Int)) := ((show F77 40 7 = F 40 7 from (eF77 40 7).trans (hS77 39 7 rfl))).trans ((pf46).trans (congrArg (fun q : Nat => (q : Int)) ((show D77 46 = D 46 from (eD77 46).trans (hD77 45 rfl))).symm))
  have pf77_40_8 : HID (F77 40 8 = (D77 47 : Int)) := ((show F77 40 8 = F 40 8 from (eF77 40 8).trans (hS77 39 8 rfl))).trans ((pf47).trans (congrArg (fun q : Nat => (q : Int)) ((show D77 47 = D 47 from (eD77 47).trans (hD77 46 rfl))).symm))
  have pf77_40_9 : HID (F77 40 9 = (D77 48 : Int)) := ((show F77 40 9 = F 40 9 from (eF77 40 9).trans (hS77 39 9 rfl))).trans ((pf48).trans (congrArg (fun q : Nat => (q : Int)) ((show D77 48 = D 48 from (eD77 48).trans (hD77 47 rfl))).symm))
  have pf77_49_0 : HID (F77 49 0 = (D77 50 : Int)) := (eF77 49 0).trans (pm77_49.trans (congrArg (fun q : Nat => (q : Int)) (eD77 50).symm))
  have pf77_5_0 : HID (F77 5 0 = (D77 6 : Int)) := ((show F77 5 0 = F 5 0 from (eF77 5 0).trans (hS77 0 0 rfl))).trans ((pf6).trans (congrArg (fun q : Nat => (q : Int)) ((show D77 6 = D 6 from (eD77 6).trans (hD77 5 rfl))).symm))
  have pf77_5_1 : HID (F77 5 1 = (D77 7 : Int)) := ((show F77 5 1 = F 5 1 from (eF77 5 1).trans (hS77 0 1 rfl))).trans ((pf7).trans (congrArg (fun q : Nat => (q : Int)) ((show D77 7 = D 7 from (eD77 7).trans (hD77 6 rfl))).symm))
  have pf77_5_10 : HID (F77 5 10 = (D77 17 : Int)) := ((show F77 5 10 = F 5 10 from (eF77 5 10).trans (hS77 0 10 rfl))).trans ((pf17).trans (congrArg (fun q : Nat => (q : Int)) ((show D77 17 = D 17 from (eD77 17).trans (hD77 16 rfl))).symm))
  have pf77_5_11 : HID (F77 5 11 = (D77 19 : Int)) := ((show F77 5 11 = F 5 11 from (eF77 5 11).trans (hS77 0 11 rfl))).trans ((pf19).trans (congrArg (fun q : Nat => (q : Int)) ((show D77 19 = D 19 from (eD77 19).trans (hD77 18 rfl))).symm))
  have pf77_5_12 : HID (F77 5 12 = (D77 20 : Int)) := ((show F77 5 12 = F 5 12 from (eF77 5 12).trans (hS77 0 12 rfl))).trans ((pf20).trans (congrArg (fun q : Nat => (q : Int)) ((show D77 20 = D 20 from (eD77 20).trans (hD77 19 rfl))).symm))
  have pf77_5_13 : HID (F77 5 13 = (D77 21 : Int)) := (eF77 5 13).trans (pm77_20.trans (congrArg (fun q : Nat => (q : Int)) (eD77 21).symm))
  have pf77_5_14 : HID (F77 5 14 = (D77 23 : Int)) := (eF77 5 14).trans (pm77_22.trans (congrArg (fun q : Nat => (q : Int)) (eD77 23).symm))
  have pf77_5_3 : HID (F77 5 3 = (D77 26 : Int)) := ((show F77 5 3 = F 5 3 from (eF77 5 3).trans (hS77 0 3 rfl))).trans ((pf26).trans (congrArg (fun q : Nat => (q : Int)) ((show D77 26 = D 26 from (eD77 26).trans (hD77 25 rfl))).symm))
  have pf77_5_4 : HID (F77 5 4 = (D77 27 : Int)) := ((show F77 5 4 = F 5 4 from (eF77 5 4).trans (hS77 0 4 rfl))).trans ((pf27).trans (congrArg (fun q : Nat => (q : Int)) ((show D77 27 = D 27 from (eD77 27).trans (hD77 26 rfl))).symm))
  have pf77_5_7 : HID (F77 5 7 = (D77 28 : Int)) := ((show F77 5 7 = F 5 7 from (eF77 5 7).trans (hS77 0 7 rfl))).trans ((pf28).trans (congrArg (fun q : Nat => (q : Int)) ((show D77 28 = D 28 from (eD77 28).trans (hD77 27 rfl))).symm))
  have pf77_5_9 : HID (F77 5 9 = (D77 15 : Int)) := ((show F77 5 9 = F 5 9 from (eF77 5 9).trans (hS77 0 9 rfl))).trans ((pf15).trans (congrArg (fun q : Nat => (q : Int)) ((show D77 15 = D 15 from (eD77 15).trans (hD77 14 rfl))).symm))
  have pf77_51_0 : HID (F77 51 0 = (D77 52 : Int)) := (eF77 51 0).trans (pm77_51.trans (congrArg (fun q : Nat => (q : Int)) (eD77 52).symm))
  have pf77_53_2 : HID (F77 53 2 = (D77 54 : Int)) := ((show F77 53 2 = F 53 2 from (eF77 53 2).trans (hS77 52 2 rfl))).trans ((pf54).trans (congrArg (fun q : Nat => (q : Int)) ((show D77 54 = D 54 from (eD77 54).trans (hD77 53 rfl))).symm))
  have pf77_53_3 : HID (F77 53 3 = (D77 55 : Int)) := ((show F77 53 3 = F 53 3 from (eF77 53 3).trans (hS77 52 3 rfl))).trans ((pf55).trans (congrArg (fun q : Nat => (q : Int)) ((show D77 55 = D 55 from (eD77 55).trans (hD77 54 rfl))).symm))
  have pf77_53_4 : HID (F77 53 4 = (D77 56 : Int)) := ((show F77 53 4 = F 53 4 from (eF77 53 4).trans (hS77 52 4 rfl))).trans ((pf56).trans (congrArg (fun q : Nat => (q : Int)) ((show D77 56 = D 56 from (eD77 56).trans (hD77 55 rfl))).symm))
  have pf77_53_5 : HID (F77 53 5 = (D77 57 : Int)) := ((show F77 53 5 = F 53 5 from (eF77 53 5).trans (hS77 52 5 rfl))).trans ((pf57).trans (congrArg (fun q : Nat => (q : Int)) ((show D77 57 = D 57 from (eD77 57).trans (hD77 56 rfl))).symm))
  have pf77_53_6 : HID (F77 53 6 = (D77 58 : Int)) := ((show F77 53 6 = F 53 6 from (eF77 53 6).trans (hS77 52 6 rfl))).trans ((pf58).trans (congrArg (fun q : Nat => (q : Int)) ((show D77 58 = D 58 from (eD77 58).trans (hD77 57 rfl))).symm))
  have pf77_53_7 : HID (F77 53 7 = (D77 59 : Int)) := ((show F77 53 7 = F 53 7 from (eF77 53 7).trans (hS77 52 7 rfl))).trans ((pf59).trans (congrArg (fun q : Nat => (q : Int)) ((show D77 59 = D 59 from (eD77 59).trans (hD77 58 rfl))).symm))
  have pf77_53_8 : HID (F77 53 8 = (D77 60 : Int)) := ((show F77 53 8 = F 53 8 from (eF77 53 8).trans (hS77 52 8 rfl))).trans ((pf60).trans (congrArg (fun q : Nat => (q : Int)) ((show D77 60 = D 60 from (eD77 60).trans (hD77 59 rfl))).symm))
  have pf77_53_9 : HID (F77 53 9 = (D77 61 : Int)) := ((show F77 53 9 = F 53 9 from (eF77 53 9).trans (hS77 52 9 rfl))).trans ((pf61).trans (congrArg (fun q : Nat => (q : Int)) ((show D77 61 = D 61 from (eD77 61).trans (hD77 60 rfl))).symm))
  have pf77_62_2 : HID (F77 62 2 = (D77 63 : Int)) := ((show F77 62 2 = F 62 2 from (eF77 62 2).trans (hS77 61 2 rfl))).trans ((pf63).trans (congrArg (fun q : Nat => (q : Int)) ((show D77 63 = D 63 from (eD77 63).trans (hD77 62 rfl))).symm))
  have pf77_62_3 : HID (F77 62 3 = (D77 64 : Int)) := ((show F77 62 3 = F 62 3 from (eF77 62 3).trans (hS77 61 3 rfl))).trans ((pf64).trans (congrArg (fun q : Nat => (q : Int)) ((show D77 64 = D 64 from (eD77 64).trans (hD77 63 rfl))).symm))
  have pf77_62_4 : HID (F77 62 4 = (D77 65 : Int)) := ((show F77 62 4 = F 62 4 from (eF77 62 4).trans (hS77 61 4 rfl))).trans ((pf65).trans (congrArg (fun q : Nat => (q : Int)) ((show D77 65 = D 65 from (eD77 65).trans (hD77 64 rfl))).symm))
  have pf77_62_5 : HID (F77 62 5 = (D77 66 : Int)) := ((show F77 62 5 = F 62 5 from (eF77 62 5).trans (hS77 61 5 rfl))).trans ((pf66).trans (congrArg (fun q : Nat => (q : Int)) ((show D77 66 = D 66 from (eD77 66).trans (hD77 65 rfl))).symm))
  have pf77_62_6 : HID (F77 62 6 = (D77 67 : Int)) := ((show F77 62 6 = F 62 6 from (eF77 62 6).trans (hS77 61 6 rfl))).trans ((pf67).trans (congrArg (fun q : Nat => (q : Int)) ((show D77 67 = D 67 from (eD77 67).trans (hD77 66 rfl))).symm))
  have pf77_62_7 : HID (F77 62 7 = (D77 68 : Int)) := ((show F77 62 7 = F 62 7 from (eF77 62 7).trans (hS77 61 7 rfl))).trans ((pf68).trans (congrArg (fun q : Nat => (q : Int)) ((show D77 68 = D 68 from (eD77 68).trans (hD77 67 rfl))).symm))
  have pf77_62_8 : HID (F77 62 8 = (D77 69 : Int)) := ((show F77 62 8 = F 62 8 from (eF77 62 8).trans (hS77 61 8 rfl))).trans ((pf69).trans (congrArg (fun q : Nat => (q : Int)) ((show D77 69 = D 69 from (eD77 69).trans (hD77 68 rfl))).symm))
  have pf77_62_9 : HID (F77 62 9 = (D77 70 : Int)) := ((show F77 62 9 = F 62 9 from (eF77 62 9).trans (hS77 61 9 rfl))).trans ((pf70).trans (congrArg (fun q : Nat => (q : Int)) ((show D77 70 = D 70 from (eD77 70).trans (hD77 69 rfl))).symm))
  have pf77_7_0 : HID (F77 7 0 = (D77 8 : Int)) := ((show F77 7 0 = F 7 0 from (eF77 7 0).trans (hS77 6 0 rfl))).trans ((pf8).trans (congrArg (fun q : Nat => (q : Int)) ((show D77 8 = D 8 from (eD77 8).trans (hD77 7 rfl))).symm))
  have pf77_7_1 : HID (F77 7 1 = (D77 12 : Int)) := (eF77 7 1).trans (pm77_11.trans (congrArg (fun q : Nat => (q : Int)) (eD77 12).symm))
  have pf77_7_2 : HID (F77 7 2 = (D77 13 : Int)) := (eF77 7 2).trans (pm77_12.trans (congrArg (fun q : Nat => (q : Int)) (eD77 13).symm))
  have pf77_7_3 : HID (F77 7 3 = (D77 14 : Int)) := (eF77 7 3).trans (pm77_13.trans (congrArg (fun q : Nat => (q : Int)) (eD77 14).symm))
  have pf77_7_7 : HID (F77 7 7 = (D77 10 : Int)) := (eF77 7 7).trans (pm77_9.trans (congrArg (fun q : Nat => (q : Int)) (eD77 10).symm))
  have pf77_7_8 : HID (F77 7 8 = (D77 11 : Int)) := (eF77 7 8).trans (pm77_10.trans (congrArg (fun q : Nat => (q : Int)) (eD77 11).symm))
  have pf77_71_2 : HID (F77 71 2 = (D77 72 : Int)) := ((show F77 71 2 = F 71 2 from (eF77 71 2).trans (hS77 70 2 rfl))).trans ((pf72).trans (congrArg (fun q : Nat => (q : Int)) ((show D77 72 = D 72 from (eD77 72).trans (hD77 71 rfl))).symm))
  have pf77_71_3 : HID (F77 71 3 = (D77 73 : Int)) := ((show F77 71 3 = F 71 3 from (eF77 71 3).trans (hS77 70 3 rfl))).trans ((pf73).trans (congrArg (fun q : Nat => (q : Int)) ((show D77 73 = D 73 from (eD77 73).trans (hD77 72 rfl))).symm))
  have pf77_71_4 : HID (F77 71 4 = (D77 74 : Int)) := ((show F77 71 4 = F 71 4 from (eF77 71 4).trans (hS77 70 4 rfl))).trans ((pf74).trans (congrArg (fun q : Nat => (q : Int)) ((show D77 74 = D 74 from (eD77 74).trans (hD77 73 rfl))).symm))
  have pf77_71_5 : HID (F77 71 5 = (D77 75 : Int)) := ((show F77 71 5 = F 71 5 from (eF77 71 5).trans (hS77 70 5 rfl))).trans ((pf75).trans (congrArg (fun q : Nat => (q : Int)) ((show D77 75 = D 75 from (eD77 75).trans (hD77 74 rfl))).symm))
  have pf77_71_6 : HID (F77 71 6 = (D77 76 : Int)) := ((show F77 71 6 = F 71 6 from (eF77 71 6).trans (hS77 70 6 rfl))).trans ((pf76).trans (congrArg (fun q : Nat => (q : Int)) ((show D77 76 = D 76 from (eD77 76).trans (hD77 75 rfl))).symm))
  have pf77_71_7 : HID (F77 71 7 = (D77 77 : Int)) := ((show F77 71 7 = F 71 7 from (eF77 71 7).trans (hS77 70 7 rfl))).trans ((pf77).trans (congrArg (fun q : Nat => (q : Int)) ((show D77 77 = D 77 from (eD77 77).trans (hD77 76 rfl))).symm))
  have pf77_71_8 : HID (F77 71 8 = (D77 78 : Int)) := ((show F77 71 8 = F 71 8 from (eF77 71 8).trans (hS77 70 8 rfl))).trans ((pf78).trans (congrArg (fun q : Nat => (q : Int)) ((show D77 78 = D 78 from (eD77 78).trans (hD77 77 rfl))).symm))
  have pf77_71_9 : HID (F77 71 9 = (D77 79 : Int)) := ((show F77 71 9 = F 71 9 from (eF77 71 9).trans (hS77 70 9 rfl))).trans ((pf79).trans (congrArg (fun q : Nat => (q : Int)) ((show D77 79 = D 79 from (eD77 79).trans (hD77 78 rfl))).symm))
  have pf77_8_0 : HID (F77 8 0 = (D77 9 : Int)) := (eF77 8 0).trans (pm77_8.trans (congrArg (fun q : Nat => (q : Int)) (eD77 9).symm))
  have r78 : HID ((0 : Int) ≤ m77_3 ∧ m77_3 ≤ 1000000) := nrng (H.nle 3 (by decide)) (show (N77 3 : Int) = m77_3 from (congrArg (fun q : Nat => (q : Int)) (eN77 3)).trans em77_3)
  have r79 : HID ((0 : Int) ≤ m77_8 ∧ m77_8 ≤ 1000000) := nrng (H.nle 9 (by decide)) (show (N77 9 : Int) = m77_8 from (congrArg (fun q : Nat => (q : Int)) (eN77 9)).trans em77_8)
  have r80 : HID ((0 : Int) ≤ m77_9 ∧ m77_9 ≤ 1000000) := nrng (H.nle 10 (by decide)) (show (N77 10 : Int) = m77_9 from (congrArg (fun q : Nat => (q : Int)) (eN77 10)).trans em77_9)
  have r81 : HID ((0 : Int) ≤ m77_10 ∧ m77_10 ≤ 1000000) := nrng (H.nle 11 (by decide)) (show (N77 11 : Int) = m77_10 from (congrArg (fun q : Nat => (q : Int)) (eN77 11)).trans em77_10)
  have r82 : HID ((0 : Int) ≤ m77_11 ∧ m77_11 ≤ 1000000) := nrng (H.nle 12 (by decide)) (show (N77 12 : Int) = m77_11 from (congrArg (fun q : Nat => (q : Int)) (eN77 12)).trans em77_11)
  have r83 : HID ((0 : Int) ≤ m77_12 ∧ m77_12 ≤ 1000000) := nrng (H.nle 13 (by decide)) (show (N77 13 : Int) = m77_12 from (congrArg (fun q : Nat => (q : Int)) (eN77 13)).trans em77_12)
  have r84 : HID ((0 : Int) ≤ m77_13 ∧ m77_13 ≤ 1000000) := nrng (H.nle 14 (by decide)) (show (N77 14 : Int) = m77_13 from (congrArg (fun q : Nat => (q : Int)) (eN77 14)).trans em77_13)
  have r85 : HID ((0 : Int) ≤ m77_15 ∧ m77_15 ≤ 1000000) := nrng (H.nle 16 (by decide)) (show (N77 16 : Int) = m77_15 from (congrArg (fun q : Nat => (q : Int)) (eN77 16)).trans em77_15)
  have r86 : HID ((0 : Int) ≤ m77_17 ∧ m77_17 ≤ 1000000) := nrng (H.nle 18 (by decide)) (show (N77 18 : Int) = m77_17 from (congrArg (fun q : Nat => (q : Int)) (eN77 18)).trans em77_17)
  have r87 : HID ((0 : Int) ≤ m77_20 ∧ m77_20 ≤ 1000000) := nrng (H.nle 21 (by decide)) (show (N77 21 : Int) = m77_20 from (congrArg (fun q : Nat => (q : Int)) (eN77 21)).trans em77_20)
  have r88 : HID ((0 : Int) ≤ m77_21 ∧ m77_21 ≤ 1000000) := nrng (H.nle 22 (by decide)) (show (N77 22 : Int) = m77_21 from (congrArg (fun q : Nat => (q : Int)) (eN77 22)).trans em77_21)
  have r89 : HID ((0 : Int) ≤ m77_22 ∧ m77_22 ≤ 1000000) := nrng (H.nle 23 (by decide)) (show (N77 23 : Int) = m77_22 from (congrArg (fun q : Nat => (q : Int)) (eN77 23)).trans em77_22)
  have r90 : HID ((0 : Int) ≤ m77_23 ∧ m77_23 ≤ 1000000) := nrng (H.nle 24 (by decide)) (show (N77 24 : Int) = m77_23 from (congrArg (fun q : Nat => (q : Int)) (eN77 24)).trans em77_23)
  have r91 : HID ((0 : Int) ≤ m77_24 ∧ m77_24 ≤ 1000000) := nrng (H.nle 25 (by decide)) (show (N77 25 : Int) = m77_24 from (congrArg (fun q : Nat => (q : Int)) (eN77 25)).trans em77_24)
  have r92 : HID ((0 : Int) ≤ m77_49 ∧ m77_49 ≤ 1000000) := nrng (H.nle 50 (by decide)) (show (N77 50 : Int) = m77_49 from (congrArg (fun q : Nat => (q : Int)) (eN77 50)).trans em77_49)
  have r93 : HID ((0 : Int) ≤ m77_51 ∧ m77_51 ≤ 1000000) := nrng (H.nle 52 (by decide)) (show (N77 52 : Int) = m77_51 from (congrArg (fun q : Nat => (q : Int)) (eN77 52)).trans em77_51)
  have r94 : HID ((-2147483648 : Int) ≤ y77_1_1 ∧ y77_1_1 ≤ 2147483647) := krg_e (show (-2147483648 : Int) ≤ F77 2 1 ∧ F77 2 1 ≤ 2147483647 from H.krg 2 1 (by decide)) (show F77 2 1 = y77_1_1 from ((eF77 2 1).trans ey77_1_1))
  have r95 : HID ((-2147483648 : Int) ≤ y77_1_4 ∧ y77_1_4 ≤ 2147483647) := krg_e (show (-2147483648 : Int) ≤ F77 2 4 ∧ F77 2 4 ≤ 2147483647 from H.krg 2 4 (by decide)) (show F77 2 4 = y77_1_4 from ((eF77 2 4).trans ey77_1_4))
  have r96 : HID ((-2147483648 : Int) ≤ y77_7_1 ∧ y77_7_1 ≤ 2147483647) := krg_e (show (-2147483648 : Int) ≤ F77 8 1 ∧ F77 8 1 ≤ 2147483647 from H.krg 8 1 (by decide)) (show F77 8 1 = y77_7_1 from ((eF77 8 1).trans ey77_7_1))
  have r97 : HID ((-2147483648 : Int) ≤ y77_14_1 ∧ y77_14_1 ≤ 2147483647) := krg_e (show (-2147483648 : Int) ≤ F77 15 1 ∧ F77 15 1 ≤ 2147483647 from H.krg 15 1 (by decide)) (show F77 15 1 = y77_14_1 from ((eF77 15 1).trans ey77_14_1))
  have r98 : HID ((-2147483648 : Int) ≤ y77_16_1 ∧ y77_16_1 ≤ 2147483647) := krg_e (show (-2147483648 : Int) ≤ F77 17 1 ∧ F77 17 1 ≤ 2147483647 from H.krg 17 1 (by decide)) (show F77 17 1 = y77_16_1 from ((eF77 17 1).trans ey77_16_1))
  have r99 : HID ((-2147483648 : Int) ≤ y77_48_1 ∧ y77_48_1 ≤ 2147483647) := krg_e (show (-2147483648 : Int) ≤ F77 49 1 ∧ F77 49 1 ≤ 2147483647 from H.krg 49 1 (by decide)) (show F77 49 1 = y77_48_1 from ((eF77 49 1).trans ey77_48_1))
  have r100 : HID ((-2147483648 : Int) ≤ y77_50_1 ∧ y77_50_1 ≤ 2147483647) := krg_e (show (-2147483648 : Int) ≤ F77 51 1 ∧ F77 51 1 ≤ 2147483647 from H.krg 51 1 (by decide)) (show F77 51 1 = y77_50_1 from ((eF77 51 1).trans ey77_50_1))
  refine Ew_of (pcₚ := 199) (fun _ => x_istore rfl) ?_
  refine Ew_of (pcₚ := 201) (fun _ => x_iload rfl rk_s) ?_
  refine w_ifeq (t := 214) rfl rfl (show inr (z77) by omega) (fun b101 => ?_) (fun b101 => ?_)
  · refine Ew_of (pcₚ := 215) (fun _ => x_iconst rfl) ?_
    exact w_ireturn rfl (k ((-1)) _ _ _ _ _ _ _ H O (SD_trans (SD_refl) (SD_glu (ι := [5, 2, 1, 3, 4, 6, 7, 8, 9, 10, 11, 12, 13, 14, 15, 16, 17, 18, 19, 20, 21, 22, 23, 24, 25, 26, 27, 28, 29, 30, 31, 32, 33, 34, 35, 36, 37, 38, 39, 40, 41, 42, 43, 44, 45, 46, 47, 48, 49, 50, 51, 52, 53, 54, 55, 56, 57, 58, 59, 60, 61, 62, 63, 64, 65, 66, 67, 68, 69, 70, 71, 72, 73, 74, 75, 76, 77, 78, 79]) hD77 eD77 (by decide +kernel)) (any_subA (lₚ := [3, 9, 10, 11, 12, 13, 14, 16, 18, 21, 22, 23, 24, 25, 50, 52]) rfl)) (SD_trans (SD_refl) (SD_glu (ι := [5, 2, 1, 3, 4, 6, 7, 8, 9, 10, 11, 12, 13, 14, 15, 16, 17, 18, 19, 20, 21, 22, 23, 24, 25, 26, 27, 28, 29, 30, 31, 32, 33, 34, 35, 36, 37, 38, 39, 40, 41, 42, 43, 44, 45, 46, 47, 48, 49, 50, 51, 52, 53, 54, 55, 56, 57, 58, 59, 60, 61, 62, 63, 64, 65, 66, 67, 68, 69, 70, 71, 72, 73, 74, 75, 76, 77, 78, 79]) hN77 eN77 (by decide +kernel)) (any_subA (lₚ := [3, 9, 10, 11, 12, 13, 14, 16, 18, 21, 22, 23, 24, 25, 50, 52]) rfl)) (SF_trans (SF_refl) (SF_glu (ι := [5, 2, 1, 3, 4, 6, 7, 8, 9, 10, 11, 12, 13, 14, 15, 16, 17, 18, 19, 20, 21, 22, 23, 24, 25, 26, 27, 28, 29, 30, 31, 32, 33, 34, 35, 36, 37, 38, 39, 40, 41, 42, 43, 44, 45, 46, 47, 48, 49, 50, 51, 52, 53, 54, 55, 56, 57, 58, 59, 60, 61, 62, 63, 64, 65, 66, 67, 68, 69, 70, 71, 72, 73, 74, 75, 76, 77, 78, 79]) hS77 eF77 (by decide +kernel)) (any_sub (lₚ := [(2, 0), (2, 1), (2, 2), (2, 3), (2, 4), (5, 13), (5, 14), (5, 15), (7, 1), (7, 2), (7, 3), (7, 4), (7, 5), (7, 6), (7, 7), (7, 8), (7, 9), (7, 10), (7, 11), (7, 12), (7, 13), (7, 14), (7, 15), (7, 16), (7, 17), (7, 18), (8, 0), (8, 1), (8, 2), (8, 3), (8, 4), (15, 0), (15, 1), (15, 2), (15, 3), (15, 4), (17, 0), (17, 1), (17, 2), (17, 3), (17, 4), (28, 0), (31, 3), (31, 13), (31, 14), (31, 15), (31, 16), (40, 0), (49, 0), (49, 1), (49, 2), (49, 3), (49, 4), (51, 0), (51, 1), (51, 2), (51, 3), (51, 4), (53, 0), (62, 0), (71, 0)]) rfl)) (SA_trans (SA_refl) (SA_glu (ι := [5, 2, 1, 3, 4, 6, 7, 8, 9, 10, 11, 12, 13, 14, 15, 16, 17, 18, 19, 20, 21, 22, 23, 24, 25, 26, 27, 28, 29, 30, 31, 32, 33, 34, 35, 36, 37, 38, 39, 40, 41, 42, 43, 44, 45, 46, 47, 48, 49, 50, 51, 52, 53, 54, 55, 56, 57, 58, 59, 60, 61, 62, 63, 64, 65, 66, 67, 68, 69, 70, 71, 72, 73, 74, 75, 76, 77, 78, 79]) hA77 eA77 (by decide +kernel)) (any_subA (lₚ := [3, 9, 10, 11, 12, 13, 14, 16, 18, 19, 20, 21, 22, 23, 24, 25, 29, 30, 32, 35, 36, 37, 38, 39, 41, 42, 43, 44, 45, 46, 47, 48, 50, 52, 54, 55, 56, 57, 58, 59, 60, 61, 63, 64, 65, 66, 67, 68, 69, 70, 72, 73, 74, 75, 76, 77, 78, 79]) rfl)) (pf77_2_0) (pf77_8_0) (pf77_7_7) (pf77_7_8) (pf77_7_1) (pf77_7_2) (pf77_7_3) (pf77_15_0) (pf77_17_0) (pf77_5_13) (pe77_21_0) (pf77_5_14) (pe77_21_1) (pe77_21_2) (pf77_49_0) (pf77_51_0) (m77_3) ((congrArg (fun q : Nat => (q : Int)) (eN77 3)).trans em77_3) (m77_8) ((congrArg (fun q : Nat => (q : Int)) (eN77 9)).trans em77_8) (m77_9) ((congrArg (fun q : Nat => (q : Int)) (eN77 10)).trans em77_9) (m77_10) ((congrArg (fun q : Nat => (q : Int)) (eN77 11)).trans em77_10) (m77_11) ((congrArg (fun q : Nat => (q : Int)) (eN77 12)).trans em77_11) (m77_12) ((congrArg (fun q : Nat => (q : Int)) (eN77 13)).trans em77_12) (m77_13) ((congrArg (fun q : Nat => (q : Int)) (eN77 14)).trans em77_13) (m77_15) ((congrArg (fun q : Nat => (q : Int)) (eN77 16)).trans em77_15) (m77_17) ((congrArg (fun q : Nat => (q : Int)) (eN77 18)).trans em77_17) (m77_20) ((congrArg (fun q : Nat => (q : Int)) (eN77 21)).trans em77_20) (m77_21) ((congrArg (fun q : Nat => (q : Int)) (eN77 22)).trans em77_21) (m77_22) ((congrArg (fun q : Nat => (q : Int)) (eN77 23)).trans em77_22) (m77_23) ((congrArg (fun q : Nat => (q : Int)) (eN77 24)).trans em77_23) (m77_24) ((congrArg (fun q : Nat => (q : Int)) (eN77 25)).trans em77_24) (m77_49) ((congrArg (fun q : Nat => (q : Int)) (eN77 50)).trans em77_49) (m77_51) ((congrArg (fun q : Nat => (q : Int)) (eN77 52)).trans em77_51) (y77_1_1) (((eF77 2 1).trans ey77_1_1)) (y77_7_1) (((eF77 8 1).trans ey77_7_1)) (y77_14_1) (((eF77 15 1).trans ey77_14_1)) (y77_16_1) (((eF77 17 1).trans ey77_16_1)) (y77_48_1) (((eF77 49 1).trans ey77_48_1)) (y77_50_1) (((eF77 51 1).trans ey77_50_1)) (show inr ((-1)) by omega) (show 0 ≤ (y77_1_1) ∧ (y77_1_1) ≤ (m77_3) ∧ (m77_3) ≤ 65536 by have qh0 := HIDe r78; have qh1 := HIDe r94; omega) (show 0 ≤ (y77_7_1) ∧ (y77_7_1) ≤ (m77_8) ∧ (m77_8) ≤ 65536 by have qh0 := HIDe r79; have qh1 := HIDe r96; omega) (show (m77_9) = 0 ∨ (m77_9) = 2048 by have qh0 := HIDe r80; omega) (show (m77_10) ≤ 16384 by have qh0 := HIDe r81; omega) (show (m77_11) = (m77_12) ∧ (m77_13) = (m77_12) ∧ (m77_12) ≤ 65536 ∧ ((m77_12) = 0 ∨ 64 ≤ (m77_12)) ∧ lgq ((m77_12)) = 0 by have qh0 := HIDe r82; have qh1 := HIDe r83; have qh2 := HIDe r84; omega) (show 0 ≤ (y77_14_1) ∧ (y77_14_1) ≤ (m77_15) ∧ (m77_15) ≤ 65536 by have qh0 := HIDe r85; have qh1 := HIDe r97; omega) (show 0 ≤ (y77_16_1) ∧ (y77_16_1) ≤ (m77_17) ∧ (m77_17) ≤ 65536 by have qh0 := HIDe r86; have qh1 := HIDe r98; omega) (show (m77_20) = 3 ∧ (m77_21) = (m77_22) ∧ (m77_23) = (m77_22) ∧ (m77_24) = (m77_22) ∧ lgq ((m77_22)) = 0 ∧ (m77_22) ≤ 16384 by have qh0 := HIDe r87; have qh1 := HIDe r88; have qh2 := HIDe r89; have qh3 := HIDe r90; have qh4 := HIDe r91; omega) (show 0 ≤ (y77_48_1) ∧ (y77_48_1) ≤ (m77_49) ∧ (m77_49) ≤ 65536 by have qh0 := HIDe r92; have qh1 := HIDe r99; omega) (show 0 ≤ (y77_50_1) ∧ (y77_50_1) ≤ (m77_51) ∧ (m77_51) ≤ 65536 by have qh0 := HIDe r100; have qh1 := HIDe r93; omega) (show CEL ((w34)) by assumption))
  · refine Ew_of (pcₚ := 205) (fun _ => x_aload_n rfl (rk_o (hl0) rfl rfl)) ?_
    refine Ew_stk (show ([.ref (D 0)] : List Value) = [.ref (D77 0)] by rw [show D77 0 = D 0 from ((show D77 0 = D 0 from (eD77 0)))]) ?_
    refine v_g H (o := 0) (v := .ref (D77 2)) rfl rfl rfl rfl rfl (vrf (pf77_0_5)) ?_
    have r102 : HID ((0 : Int) ≤ F77 2 2 ∧ F77 2 2 ≤ 1) := krg_e (show (0 : Int) ≤ F77 2 2 ∧ F77 2 2 ≤ 1 from H.krg 2 2 (by decide)) (show F77 2 2 = F77 2 2 from rfl)
    refine v_g H (o := 2) (v := I (F77 2 2)) rfl rfl rfl rfl rfl (congrArg (fun z : Int => I z) (rfl : F77 2 2 = F77 2 2)) ?_
    refine w_ifeq (t := 216) rfl rfl (show inr (F77 2 2) by have qh0 := HIDe r102; omega) (fun b103 => ?_) (fun b103 => ?_)
    · refine Ew_of (pcₚ := 217) (fun _ => x_iload_n rfl (rk_o (hl3) rfl rfl)) ?_
      refine Ew_of (pcₚ := 218) (fun _ => x_iconst rfl) ?_
      refine w_icmpeq (t := 277) rfl rfl (show inr (5) by omega) (show inr (5) by omega) (fun b104 => ?_) (fun b104 => ?_)
      · exact hc277  _ _ _ _ _ _ _ _  ((rk_o (hl0) rfl rfl).trans (congrArg (fun q : Nat => some (Value.ref q)) (((show D77 0 = D 0 from (eD77 0)))).symm)) (rk_o (hl1) rfl rfl) (rk_o (hl3) rfl rfl) ((rk_o (hl4) rfl rfl).trans (congrArg (fun q : Nat => some (Value.ref q)) (((show D77 1 = D 1 from (eD77 1).trans (hD77 2 rfl)))).symm)) H O (SD_trans (SD_refl) (SD_glu (ι := [5, 2, 1, 3, 4, 6, 7, 8, 9, 10, 11, 12, 13, 14, 15, 16, 17, 18, 19, 20, 21, 22, 23, 24, 25, 26, 27, 28, 29, 30, 31, 32, 33, 34, 35, 36, 37, 38, 39, 40, 41, 42, 43, 44, 45, 46, 47, 48, 49, 50, 51, 52, 53, 54, 55, 56, 57, 58, 59, 60, 61, 62, 63, 64, 65, 66, 67, 68, 69, 70, 71, 72, 73, 74, 75, 76, 77, 78, 79]) hD77 eD77 (by decide +kernel)) (any_subA (lₚ := [3, 9, 10, 11, 12, 13, 14, 16, 18, 21, 22, 23, 24, 25, 50, 52]) rfl)) (SD_trans (SD_refl) (SD_glu (ι := [5, 2, 1, 3, 4, 6, 7, 8, 9, 10, 11, 12, 13, 14, 15, 16, 17, 18, 19, 20, 21, 22, 23, 24, 25, 26, 27, 28, 29, 30, 31, 32, 33, 34, 35, 36, 37, 38, 39, 40, 41, 42, 43, 44, 45, 46, 47, 48, 49, 50, 51, 52, 53, 54, 55, 56, 57, 58, 59, 60, 61, 62, 63, 64, 65, 66, 67, 68, 69, 70, 71, 72, 73, 74, 75, 76, 77, 78, 79]) hN77 eN77 (by decide +kernel)) (any_subA (lₚ := [3, 9, 10, 11, 12, 13, 14, 16, 18, 21, 22, 23, 24, 25, 50, 52]) rfl)) (SF_trans (SF_refl) (SF_glu (ι := [5, 2, 1, 3, 4, 6, 7, 8, 9, 10, 11, 12, 13, 14, 15, 16, 17, 18, 19, 20, 21, 22, 23, 24, 25, 26, 27, 28, 29, 30, 31, 32, 33, 34, 35, 36, 37, 38, 39, 40, 41, 42, 43, 44, 45, 46, 47, 48, 49, 50, 51, 52, 53, 54, 55, 56, 57, 58, 59, 60, 61, 62, 63, 64, 65, 66, 67, 68, 69, 70, 71, 72, 73, 74, 75, 76, 77, 78, 79]) hS77 eF77 (by decide +kernel)) (any_sub (lₚ := [(2, 0), (2, 1), (2, 2), (2, 3), (2, 4), (5, 13), (5, 14), (5, 15), (7, 1), (7, 2), (7, 3), (7, 4), (7, 5), (7, 6), (7, 7), (7, 8), (7, 9), (7, 10), (7, 11), (7, 12), (7, 13), (7, 14), (7, 15), (7, 16), (7, 17), (7, 18), (8, 0), (8, 1), (8, 2), (8, 3), (8, 4), (15, 0), (15, 1), (15, 2), (15, 3), (15, 4), (17, 0), (17, 1), (17, 2), (17, 3), (17, 4), (28, 0), (31, 3), (31, 13), (31, 14), (31, 15), (31, 16), (40, 0), (49, 0), (49, 1), (49, 2), (49, 3), (49, 4), (51, 0), (51, 1), (51, 2), (51, 3), (51, 4), (53, 0), (62, 0), (71, 0)]) rfl)) (SA_trans (SA_refl) (SA_glu (ι := [5, 2, 1, 3, 4, 6, 7, 8, 9, 10, 11, 12, 13, 14, 15, 16, 17, 18, 19, 20, 21, 22, 23, 24, 25, 26, 27, 28, 29, 30, 31, 32, 33, 34, 35, 36, 37, 38, 39, 40, 41, 42, 43, 44, 45, 46, 47, 48, 49, 50, 51, 52, 53, 54, 55, 56, 57, 58, 59, 60, 61, 62, 63, 64, 65, 66, 67, 68, 69, 70, 71, 72, 73, 74, 75, 76, 77, 78, 79]) hA77 eA77 (by decide +kernel)) (any_subA (lₚ := [3, 9, 10, 11, 12, 13, 14, 16, 18, 19, 20, 21, 22, 23, 24, 25, 29, 30, 32, 35, 36, 37, 38, 39, 41, 42, 43, 44, 45, 46, 47, 48, 50, 52, 54, 55, 56, 57, 58, 59, 60, 61, 63, 64, 65, 66, 67, 68, 69, 70, 72, 73, 74, 75, 76, 77, 78, 79]) rfl)) (pf77_2_0) (pf77_8_0) (pf77_7_7) (pf77_7_8) (pf77_7_1) (pf77_7_2) (pf77_7_3) (pf77_15_0) (pf77_17_0) (pf77_5_13) (pe77_21_0) (pf77_5_14) (pe77_21_1) (pe77_21_2) (pf77_49_0) (pf77_51_0) (m77_3) ((congrArg (fun q : Nat => (q : Int)) (eN77 3)).trans em77_3) (m77_8) ((congrArg (fun q : Nat => (q : Int)) (eN77 9)).trans em77_8) (m77_9) ((congrArg (fun q : Nat => (q : Int)) (eN77 10)).trans em77_9) (m77_10) ((congrArg (fun q : Nat => (q : Int)) (eN77 11)).trans em77_10) (m77_11) ((congrArg (fun q : Nat => (q : Int)) (eN77 12)).trans em77_11) (m77_12) ((congrArg (fun q : Nat => (q : Int)) (eN77 13)).trans em77_12) (m77_13) ((congrArg (fun q : Nat => (q : Int)) (eN77 14)).trans em77_13) (m77_15) ((congrArg (fun q : Nat => (q : Int)) (eN77 16)).trans em77_15) (m77_17) ((congrArg (fun q : Nat => (q : Int)) (eN77 18)).trans em77_17) (m77_20) ((congrArg (fun q : Nat => (q : Int)) (eN77 21)).trans em77_20) (m77_21) ((congrArg (fun q : Nat => (q : Int)) (eN77 22)).trans em77_21) (m77_22) ((congrArg (fun q : Nat => (q : Int)) (eN77 23)).trans em77_22) (m77_23) ((congrArg (fun q : Nat => (q : Int)) (eN77 24)).trans em77_23) (m77_24) ((congrArg (fun q : Nat => (q : Int)) (eN77 25)).trans em77_24) (m77_49) ((congrArg (fun q : Nat => (q : Int)) (eN77 50)).trans em77_49) (m77_51) ((congrArg (fun q : Nat => (q : Int)) (eN77 52)).trans em77_51) (y77_1_1) (((eF77 2 1).trans ey77_1_1)) (y77_7_1) (((eF77 8 1).trans ey77_7_1)) (y77_14_1) (((eF77 15 1).trans ey77_14_1)) (y77_16_1) (((eF77 17 1).trans ey77_16_1)) (y77_48_1) (((eF77 49 1).trans ey77_48_1)) (y77_50_1) (((eF77 51 1).trans ey77_50_1))  (show 0 ≤ (y77_1_1) ∧ (y77_1_1) ≤ (m77_3) ∧ (m77_3) ≤ 65536 by have qh0 := HIDe r78; have qh1 := HIDe r94; omega) (show 0 ≤ (y77_7_1) ∧ (y77_7_1) ≤ (m77_8) ∧ (m77_8) ≤ 65536 by have qh0 := HIDe r79; have qh1 := HIDe r96; omega) (show (m77_9) = 0 ∨ (m77_9) = 2048 by have qh0 := HIDe r80; omega) (show (m77_10) ≤ 16384 by have qh0 := HIDe r81; omega) (show (m77_11) = (m77_12) ∧ (m77_13) = (m77_12) ∧ (m77_12) ≤ 65536 ∧ ((m77_12) = 0 ∨ 64 ≤ (m77_12)) ∧ lgq ((m77_12)) = 0 by have qh0 := HIDe r82; have qh1 := HIDe r83; have qh2 := HIDe r84; omega) (show 0 ≤ (y77_14_1) ∧ (y77_14_1) ≤ (m77_15) ∧ (m77_15) ≤ 65536 by have qh0 := HIDe r85; have qh1 := HIDe r97; omega) (show 0 ≤ (y77_16_1) ∧ (y77_16_1) ≤ (m77_17) ∧ (m77_17) ≤ 65536 by have qh0 := HIDe r86; have qh1 := HIDe r98; omega) (show (m77_20) = 3 ∧ (m77_21) = (m77_22) ∧ (m77_23) = (m77_22) ∧ (m77_24) = (m77_22) ∧ lgq ((m77_22)) = 0 ∧ (m77_22) ≤ 16384 by have qh0 := HIDe r87; have qh1 := HIDe r88; have qh2 := HIDe r89; have qh3 := HIDe r90; have qh4 := HIDe r91; omega) (show 0 ≤ (y77_48_1) ∧ (y77_48_1) ≤ (m77_49) ∧ (m77_49) ≤ 65536 by have qh0 := HIDe r92; have qh1 := HIDe r99; omega) (show 0 ≤ (y77_50_1) ∧ (y77_50_1) ≤ (m77_51) ∧ (m77_51) ≤ 65536 by have qh0 := HIDe r100; have qh1 := HIDe r93; omega) (show CEL ((w34)) by assumption)
      · exact absurd b104 (by omega)
    · refine Ew_of (pcₚ := 215) (fun _ => x_iconst rfl) ?_
      exact w_ireturn rfl (k ((-1)) _ _ _ _ _ _ _ H O (SD_trans (SD_refl) (SD_glu (ι := [5, 2, 1, 3, 4, 6, 7, 8, 9, 10, 11, 12, 13, 14, 15, 16, 17, 18, 19, 20, 21, 22, 23, 24, 25, 26, 27, 28, 29, 30, 31, 32, 33, 34, 35, 36, 37, 38, 39, 40, 41, 42, 43, 44, 45, 46, 47, 48, 49, 50, 51, 52, 53, 54, 55, 56, 57, 58, 59, 60, 61, 62, 63, 64, 65, 66, 67, 68, 69, 70, 71, 72, 73, 74, 75, 76, 77, 78, 79]) hD77 eD77 (by decide +kernel)) (any_subA (lₚ := [3, 9, 10, 11, 12, 13, 14, 16, 18, 21, 22, 23, 24, 25, 50, 52]) rfl)) (SD_trans (SD_refl) (SD_glu (ι := [5, 2, 1, 3, 4, 6, 7, 8, 9, 10, 11, 12, 13, 14, 15, 16, 17, 18, 19, 20, 21, 22, 23, 24, 25, 26, 27, 28, 29, 30, 31, 32, 33, 34, 35, 36, 37, 38, 39, 40, 41, 42, 43, 44, 45, 46, 47, 48, 49, 50, 51, 52, 53, 54, 55, 56, 57, 58, 59, 60, 61, 62, 63, 64, 65, 66, 67, 68, 69, 70, 71, 72, 73, 74, 75, 76, 77, 78, 79]) hN77 eN77 (by decide +kernel)) (any_subA (lₚ := [3, 9, 10, 11, 12, 13, 14, 16, 18, 21, 22, 23, 24, 25, 50, 52]) rfl)) (SF_trans (SF_refl) (SF_glu (ι := [5, 2, 1, 3, 4, 6, 7, 8, 9, 10, 11, 12, 13, 14, 15, 16, 17, 18, 19, 20, 21, 22, 23, 24, 25, 26, 27, 28, 29, 30, 31, 32, 33, 34, 35, 36, 37, 38, 39, 40, 41, 42, 43, 44, 45, 46, 47, 48, 49, 50, 51, 52, 53, 54, 55, 56, 57, 58, 59, 60, 61, 62, 63, 64, 65, 66, 67, 68, 69, 70, 71, 72, 73, 74, 75, 76, 77, 78, 79]) hS77 eF77 (by decide +kernel)) (any_sub (lₚ := [(2, 0), (2, 1), (2, 2), (2, 3), (2, 4), (5, 13), (5, 14), (5, 15), (7, 1), (7, 2), (7, 3), (7, 4), (7, 5), (7, 6), (7, 7), (7, 8), (7, 9), (7, 10), (7, 11), (7, 12), (7, 13), (7, 14), (7, 15), (7, 16), (7, 17), (7, 18), (8, 0), (8, 1), (8, 2), (8, 3), (8, 4), (15, 0), (15, 1), (15, 2), (15, 3), (15, 4), (17, 0), (17, 1), (17, 2), (17, 3), (17, 4), (28, 0), (31, 3), (31, 13), (31, 14), (31, 15), (31, 16), (40, 0), (49, 0), (49, 1), (49, 2), (49, 3), (49, 4), (51, 0), (51, 1), (51, 2), (51, 3), (51, 4), (53, 0), (62, 0), (71, 0)]) rfl)) (SA_trans (SA_refl) (SA_glu (ι := [5, 2, 1, 3, 4, 6, 7, 8, 9, 10, 11, 12, 13, 14, 15, 16, 17, 18, 19, 20, 21, 22, 23, 24, 25, 26, 27, 28, 29, 30, 31, 32, 33, 34, 35, 36, 37, 38, 39, 40, 41, 42, 43, 44, 45, 46, 47, 48, 49, 50, 51, 52, 53, 54, 55, 56, 57, 58, 59, 60, 61, 62, 63, 64, 65, 66, 67, 68, 69, 70, 71, 72, 73, 74, 75, 76, 77, 78, 79]) hA77 eA77 (by decide +kernel)) (any_subA (lₚ := [3, 9, 10, 11, 12, 13, 14, 16, 18, 19, 20, 21, 22, 23, 24, 25, 29, 30, 32, 35, 36, 37, 38, 39, 41, 42, 43, 44, 45, 46, 47, 48, 50, 52, 54, 55, 56, 57, 58, 59, 60, 61, 63, 64, 65, 66, 67, 68, 69, 70, 72, 73, 74, 75, 76, 77, 78, 79]) rfl)) (pf77_2_0) (pf77_8_0) (pf77_7_7) (pf77_7_8) (pf77_7_1) (pf77_7_2) (pf77_7_3) (pf77_15_0) (pf77_17_0) (pf77_5_13) (pe77_21_0) (pf77_5_14) (pe77_21_1) (pe77_21_2) (pf77_49_0) (pf77_51_0) (m77_3) ((congrArg (fun q : Nat => (q : Int)) (eN77 3)).trans em77_3) (m77_8) ((congrArg (fun q : Nat => (q : Int)) (eN77 9)).trans em77_8) (m77_9) ((congrArg (fun q : Nat => (q : Int)) (eN77 10)).trans em77_9) (m77_10) ((congrArg (fun q : Nat => (q : Int)) (eN77 11)).trans em77_10) (m77_11) ((congrArg (fun q : Nat => (q : Int)) (eN77 12)).trans em77_11) (m77_12) ((congrArg (fun q : Nat => (q : Int)) (eN77 13)).trans em77_12) (m77_13) ((congrArg (fun q : Nat => (q : Int)) (eN77 14)).trans em77_13) (m77_15) ((congrArg (fun q : Nat => (q : Int)) (eN77 16)).trans em77_15) (m77_17) ((congrArg (fun q : Nat => (q : Int)) (eN77 18)).trans em77_17) (m77_20) ((congrArg (fun q : Nat => (q : Int)) (eN77 21)).trans em77_20) (m77_21) ((congrArg (fun q : Nat => (q : Int)) (eN77 22)).trans em77_21) (m77_22) ((congrArg (fun q : Nat => (q : Int)) (eN77 23)).trans em77_22) (m77_23) ((congrArg (fun q : Nat => (q : Int)) (eN77 24)).trans em77_23) (m77_24) ((congrArg (fun q : Nat => (q : Int)) (eN77 25)).trans em77_24) (m77_49) ((congrArg (fun q : Nat => (q : Int)) (eN77 50)).trans em77_49) (m77_51) ((congrArg (fun q : Nat => (q : Int)) (eN77 52)).trans em77_51) (y77_1_1) (((eF77 2 1).trans ey77_1_1)) (y77_7_1) (((eF77 8 1).trans ey77_7_1)) (y77_14_1) (((eF77 15 1).trans ey77_14_1)) (y77_16_1) (((eF77 17 1).trans ey77_16_1)) (y77_48_1) (((eF77 49 1).trans ey77_48_1)) (y77_50_1) (((eF77 51 1).trans ey77_50_1)) (show inr ((-1)) by omega) (show 0 ≤ (y77_1_1) ∧ (y77_1_1) ≤ (m77_3) ∧ (m77_3) ≤ 65536 by have qh0 := HIDe r78; have qh1 := HIDe r94; omega) (show 0 ≤ (y77_7_1) ∧ (y77_7_1) ≤ (m77_8) ∧ (m77_8) ≤ 65536 by have qh0 := HIDe r79; have qh1 := HIDe r96; omega) (show (m77_9) = 0 ∨ (m77_9) = 2048 by have qh0 := HIDe r80; omega) (show (m77_10) ≤ 16384 by have qh0 := HIDe r81; omega) (show (m77_11) = (m77_12) ∧ (m77_13) = (m77_12) ∧ (m77_12) ≤ 65536 ∧ ((m77_12) = 0 ∨ 64 ≤ (m77_12)) ∧ lgq ((m77_12)) = 0 by have qh0 := HIDe r82; have qh1 := HIDe r83; have qh2 := HIDe r84; omega) (show 0 ≤ (y77_14_1) ∧ (y77_14_1) ≤ (m77_15) ∧ (m77_15) ≤ 65536 by have qh0 := HIDe r85; have qh1 := HIDe r97; omega) (show 0 ≤ (y77_16_1) ∧ (y77_16_1) ≤ (m77_17) ∧ (m77_17) ≤ 65536 by have qh0 := HIDe r86; have qh1 := HIDe r98; omega) (show (m77_20) = 3 ∧ (m77_21) = (m77_22) ∧ (m77_23) = (m77_22) ∧ (m77_24) = (m77_22) ∧ lgq ((m77_22)) = 0 ∧ (m77_22) ≤ 16384 by have qh0 := HIDe r87; have qh1 := HIDe r88; have qh2 := HIDe r89; have qh3 := HIDe r90; have qh4 := HIDe r91; omega) (show 0 ≤ (y77_48_1) ∧ (y77_48_1) ≤ (m77_49) ∧ (m77_49) ≤ 65536 by have qh0 := HIDe r92; have qh1 := HIDe r99; omega) (show 0 ≤ (y77_50_1) ∧ (y77_50_1) ≤ (m77_51) ∧ (m77_51) ≤ 65536 by have qh0 := HIDe r100; have qh1 := HIDe r93; omega) (show CEL ((w34)) by assumption))
