abbrev V32_Row_Ir_vb4d : vV := [(0, 0, [(4, 0), (4, 0), (4, 0), (4, 0), (4, 0), (4, 0), (4, 0), (4, 0), (4, 0), (4, 0), (4, 0), (4, 0), (4, 0), (4, 0), (4, 0), (4, 0), (4, 0), (0, 0), (0, 0)]), (0, 7, [(4, 0), (0, 0), (1, 0), (0, 0), (0, 0)]), (1, 1, []), (1, 0, []), (0, 7, [(4, 0), (0, 0), (1, 0), (0, 0), (0, 0)]), (1, 0, []), (0, 4, [(4, 0), (4, 0), (0, 0), (4, 0), (4, 0)]), (0, 7, [(4, 0), (0, 0), (1, 0), (0, 0), (0, 0)]), (1, 0, []), (0, 12, [(4, 0), (4, 0), (4, 0), (4, 0), (4, 0), (4, 0), (4, 0), (4, 0), (0, 0), (0, 0), (4, 0), (0, 0), (4, 0), (4, 0), (0, 0), (2, 0), (0, 0), (0, 0), (0, 0), (0, 0), (0, 0), (0, 0)]), (0, 7, [(4, 0), (0, 0), (1, 0), (0, 0), (0, 0)]), (1, 0, []), (0, 9, [(4, 0), (4, 0), (4, 0)]), (1, 2, []), (1, 1, []), (1, 5, []), (1, 5, []), (1, 5, []), (0, 9, [(4, 0), (4, 0), (4, 0)]), (1, 5, []), (1, 2, []), (0, 8, [(0, 0), (0, 0), (4, 0), (4, 0), (4, 0), (4, 0), (4, 0), (4, 0), (4, 0), (4, 0), (4, 0), (0, 0), (0, 0)]), (1, 1, []), (1, 1, []), (1, 1, []), (1, 1, []), (1, 1, []), (1, 1, []), (1, 1, []), (1, 1, []), (0, 8, [(0, 0), (0, 0), (4, 0), (4, 0), (4, 0), (4, 0), (4, 0), (4, 0), (4, 0), (4, 0), (4, 0), (0, 0), (0, 0)]), (1, 1, []), (1, 1, []), (1, 1, []), (1, 1, []), (1, 1, []), (1, 1, []), (1, 1, []), (1, 1, []), (0, 8, [(0, 0), (0, 0), (4, 0), (4, 0), (4, 0), (4, 0), (4, 0), (4, 0), (4, 0), (4, 0), (4, 0), (0, 0), (0, 0)]), (1, 1, []), (1, 1, []), (1, 1, []), (1, 1, []), (1, 1, []), (1, 1, []), (1, 1, []), (1, 1, []), (0, 8, [(0, 0), (0, 0), (4, 0), (4, 0), (4, 0), (4, 0), (4, 0), (4, 0), (4, 0), (4, 0), (4, 0), (0, 0), (0, 0)]), (1, 1, []), (1, 1, []), (1, 1, []), (1, 1, []), (1, 1, []), (1, 1, []), (1, 1, []), (1, 1, []), (0, 8, [(0, 0), (0, 0), (4, 0), (4, 0), (4, 0), (4, 0), (4, 0), (4, 0), (4, 0), (4, 0), (4, 0), (0, 0), (0, 0)]), (1, 1, []), (1, 1, []), (1, 1, []), (1, 1, []), (1, 1, []), (1, 1, []), (1, 1, []), (1, 1, []), (0, 8, [(0, 0), (0, 0), (4, 0), (4, 0), (4, 0), (4, 0), (4, 0), (4, 0), (4, 0), (4, 0), (4, 0), (0, 0), (0, 0)]), (1, 1, []), (1, 1, []), (1, 1, []), (1, 1, []), (1, 1, []), (1, 1, []), (1, 1, []), (1, 1, []), (1, 5, []), (0, 8, [(0, 0), (0, 0), (4, 0), (4, 0), (4, 0), (4, 0), (4, 0), (4, 0), (4, 0), (4, 0), (4, 0), (0, 0), (0, 0)]), (1, 1, []), (1, 1, []), (1, 1, []), (1, 1, []), (1, 1, []), (1, 1, []), (1, 1, []), (1, 1, []), (0, 8, [(0, 0), (0, 0), (4, 0), (4, 0), (4, 0), (4, 0), (4, 0), (4, 0), (4, 0), (4, 0), (4, 0), (0, 0), (0, 0)]), (1, 1, []), (1, 1, []), (1, 1, []), (1, 1, []), (1, 1, []), (1, 1, []), (1, 1, []), (1, 1, []), (0, 8, [(0, 0), (0, 0), (4, 0), (4, 0), (4, 0), (4, 0), (4, 0), (4, 0), (4, 0), (4, 0), (4, 0), (0, 0), (0, 0)]), (1, 1, []), (1, 1, []), (1, 1, []), (1, 1, []), (1, 1, []), (1, 1, []), (1, 1, []), (1, 1, []), (0, 3, [(4, 0), (4, 0), (4, 0), (0, 0), (4, 0), (4, 0), (4, 0), (4, 0), (4, 0), (4, 0), (4, 0), (4, 0), (4, 0), (0, 0), (0, 0), (0, 0), (0, 0)]), (1, 1, []), (1, 1, []), (1, 1, []), (1, 1, []), (1, 1, []), (1, 1, []), (1, 1, []), (1, 1, []), (0, 8, [(0, 0), (0, 0), (4, 0), (4, 0), (4, 0), (4, 0), (4, 0), (4, 0), (4, 0), (4, 0), (4, 0), (0, 0), (0, 0)]), (1, 1, []), (1, 1, []), (1, 1, []), (1, 1, []), (1, 1, []), (1, 1, []), (1, 1, []), (1, 1, []), (0, 3, [(4, 0), (4, 0), (4, 0), (0, 0), (4, 0), (4, 0), (4, 0), (4, 0), (4, 0), (4, 0), (4, 0), (4, 0), (4, 0), (0, 0), (0, 0), (0, 0), (0, 0)]), (1, 1, []), (1, 1, []), (0, 2, [(4, 0), (0, 0), (0, 0)]), (0, 2, [(4, 0), (0, 0), (0, 0)]), (0, 2, [(4, 0), (0, 0), (0, 0)])]
set_option maxRecDepth 20000 in
/-- PackHouse.unpackRow: this, #1, #2, #1.bytes, this.content, this.content.bytes, this.dictionary, this.dictionary.content, this.dictionary.content.bytes, this.unpacker, this.unpacker.literals, this.unpacker.literals.bytes, this.unpacker.now, this.unpacker.now.latest, this.unpacker.states, this.unpacker.now.tables, this.unpacker.known, this.unpacker.ownTables, this.dictionary.stand, this.dictionary.stand.tables, this.dictionary.stand.latest, this.unpacker.known.0, this.unpacker.known.0.points, this.unpacker.known.0.masses, this.unpacker.known.0.mostBits, this.unpacker.known.0.starts, this.unpacker.known.0.symbolAt, this.unpacker.known.0.numberAt, this.unpacker.known.0.placeOf, this.unpacker.known.0.used, this.unpacker.known.1, this.unpacker.known.1.points, this.unpacker.known.1.masses, this.unpacker.known.1.mostBits, this.unpacker.known.1.starts, this.unpacker.known.1.symbolAt, this.unpacker.known.1.numberAt, this.unpacker.known.1.placeOf, this.unpacker.known.1.used, this.unpacker.known.2, this.unpacker.known.2.points, this.unpacker.known.2.masses, this.unpacker.known.2.mostBits, this.unpacker.known.2.starts, this.unpacker.known.2.symbolAt, this.unpacker.known.2.numberAt, this.unpacker.known.2.placeOf, this.unpacker.known.2.used, this.unpacker.ownTables.0, this.unpacker.ownTables.0.points, this.unpacker.ownTables.0.masses, this.unpacker.ownTables.0.mostBits, this.unpacker.ownTables.0.starts, this.unpacker.ownTables.0.used, this.unpacker.ownTables.0.symbolAt, this.unpacker.ownTables.0.numberAt, this.unpacker.ownTables.0.placeOf, this.unpacker.ownTables.1, this.unpacker.ownTables.1.points, this.unpacker.ownTables.1.masses, this.unpacker.ownTables.1.mostBits, this.unpacker.ownTables.1.starts, this.unpacker.ownTables.1.used, this.unpacker.ownTables.1.symbolAt, this.unpacker.ownTables.1.numberAt, this.unpacker.ownTables.1.placeOf, this.unpacker.ownTables.2, this.unpacker.ownTables.2.points, this.unpacker.ownTables.2.masses, this.unpacker.ownTables.2.mostBits, this.unpacker.ownTables.2.starts, this.unpacker.ownTables.2.used, this.unpacker.ownTables.2.symbolAt, this.unpacker.ownTables.2.numberAt, this.unpacker.ownTables.2.placeOf, this.dictionary.tables, this.dictionary.tables.0, this.dictionary.tables.0.points, this.dictionary.tables.0.masses, this.dictionary.tables.0.mostBits, this.dictionary.tables.0.starts, this.dictionary.tables.0.used, this.dictionary.tables.0.symbolAt, this.dictionary.tables.0.numberAt, this.dictionary.tables.0.placeOf, this.dictionary.tables.1, this.dictionary.tables.1.points, this.dictionary.tables.1.masses, this.dictionary.tables.1.mostBits, this.dictionary.tables.1.starts, this.dictionary.tables.1.used, this.dictionary.tables.1.symbolAt, this.dictionary.tables.1.numberAt, this.dictionary.tables.1.placeOf, this.dictionary.tables.2, this.dictionary.tables.2.points, this.dictionary.tables.2.masses, this.dictionary.tables.2.mostBits, this.dictionary.tables.2.starts, this.dictionary.tables.2.used, this.dictionary.tables.2.symbolAt, this.dictionary.tables.2.numberAt, this.dictionary.tables.2.placeOf, this.unpacker.ownCodes, this.unpacker.ownCodes.lengths, this.unpacker.ownCodes.codes, this.unpacker.ownCodes.cells, this.unpacker.ownCodes.weights, this.unpacker.ownCodes.weightCounts, this.unpacker.ownCodes.order, this.unpacker.ownCodes.amounts, this.unpacker.ownCodes.parents, this.unpacker.ownCodes.weightShare, this.unpacker.ownCodes.weightShare.points, this.unpacker.ownCodes.weightShare.masses, this.unpacker.ownCodes.weightShare.mostBits, this.unpacker.ownCodes.weightShare.starts, this.unpacker.ownCodes.weightShare.used, this.unpacker.ownCodes.weightShare.symbolAt, this.unpacker.ownCodes.weightShare.numberAt, this.unpacker.ownCodes.weightShare.placeOf, this.dictionary.codes, this.dictionary.codes.cells, this.dictionary.codes.lengths, this.unpacker.ownCodes.source, this.dictionary.codes.source, this.unpacker.source -/
theorem C32_Row_Ir_vb4d {σE : rS} {D N : Nat → Nat} {F : hF} {A : hA} {d c s : Nat} {Q : wQ} (H : HW V32_Row_Ir_vb4d σE D N F A) (HT : STC σE) {x3 : Int} (pf3 : F 1 0 = (D 3 : Int)) (pf4 : F 0 6 = (D 4 : Int)) (pf5 : F 4 0 = (D 5 : Int)) (pf6 : F 0 3 = (D 6 : Int)) (pf7 : F 6 0 = (D 7 : Int)) (pf8 : F 7 0 = (D 8 : Int)) (pf9 : F 0 12 = (D 9 : Int)) (pf10 : F 9 4 = (D 10 : Int)) (pf11 : F 10 0 = (D 11 : Int)) (pf12 : F 9 3 = (D 12 : Int)) (pf13 : F 12 2 = (D 13 : Int)) (pf14 : F 9 6 = (D 14 : Int)) (pf15 : F 12 1 = (D 15 : Int)) (pf16 : F 9 0 = (D 16 : Int)) (pf17 : F 9 2 = (D 17 : Int)) (pf18 : F 6 1 = (D 18 : Int)) (pf19 : F 18 1 = (D 19 : Int)) (pf20 : F 18 2 = (D 20 : Int)) (pf21 : A 16 0 = (D 21 : Int)) (pf22 : F 21 2 = (D 22 : Int)) (pf23 : F 21 3 = (D 23 : Int)) (pf24 : F 21 4 = (D 24 : Int)) (pf25 : F 21 5 = (D 25 : Int)) (pf26 : F 21 7 = (D 26 : Int)) (pf27 : F 21 8 = (D 27 : Int)) (pf28 : F 21 9 = (D 28 : Int)) (pf29 : F 21 6 = (D 29 : Int)) (pf30 : A 16 1 = (D 30 : Int)) (pf31 : F 30 2 = (D 31 : Int)) (pf32 : F 30 3 = (D 32 : Int)) (pf33 : F 30 4 = (D 33 : Int)) (pf34 : F 30 5 = (D 34 : Int)) (pf35 : F 30 7 = (D 35 : Int)) (pf36 : F 30 8 = (D 36 : Int)) (pf37 : F 30 9 = (D 37 : Int)) (pf38 : F 30 6 = (D 38 : Int)) (pf39 : A 16 2 = (D 39 : Int)) (pf40 : F 39 2 = (D 40 : Int)) (pf41 : F 39 3 = (D 41 : Int)) (pf42 : F 39 4 = (D 42 : Int)) (pf43 : F 39 5 = (D 43 : Int)) (pf44 : F 39 7 = (D 44 : Int)) (pf45 : F 39 8 = (D 45 : Int)) (pf46 : F 39 9 = (D 46 : Int)) (pf47 : F 39 6 = (D 47 : Int)) (pf48 : A 17 0 = (D 48 : Int)) (pf49 : F 48 2 = (D 49 : Int)) (pf50 : F 48 3 = (D 50 : Int)) (pf51 : F 48 4 = (D 51 : Int)) (pf52 : F 48 5 = (D 52 : Int)) (pf53 : F 48 6 = (D 53 : Int)) (pf54 : F 48 7 = (D 54 : Int)) (pf55 : F 48 8 = (D 55 : Int)) (pf56 : F 48 9 = (D 56 : Int)) (pf57 : A 17 1 = (D 57 : Int)) (pf58 : F 57 2 = (D 58 : Int)) (pf59 : F 57 3 = (D 59 : Int)) (pf60 : F 57 4 = (D 60 : Int)) (pf61 : F 57 5 = (D 61 : Int)) (pf62 : F 57 6 = (D 62 : Int)) (pf63 : F 57 7 = (D 63 : Int)) (pf64 : F 57 8 = (D 64 : Int)) (pf65 : F 57 9 = (D 65 : Int)) (pf66 : A 17 2 = (D 66 : Int)) (pf67 : F 66 2 = (D 67 : Int)) (pf68 : F 66 3 = (D 68 : Int)) (pf69 : F 66 4 = (D 69 : Int)) (pf70 : F 66 5 = (D 70 : Int)) (pf71 : F 66 6 = (D 71 : Int)) (pf72 : F 66 7 = (D 72 : Int)) (pf73 : F 66 8 = (D 73 : Int)) (pf74 : F 66 9 = (D 74 : Int)) (pf75 : F 6 4 = (D 75 : Int)) (pf76 : A 75 0 = (D 76 : Int)) (pf77 : F 76 2 = (D 77 : Int)) (pf78 : F 76 3 = (D 78 : Int)) (pf79 : F 76 4 = (D 79 : Int)) (pf80 : F 76 5 = (D 80 : Int)) (pf81 : F 76 6 = (D 81 : Int)) (pf82 : F 76 7 = (D 82 : Int)) (pf83 : F 76 8 = (D 83 : Int)) (pf84 : F 76 9 = (D 84 : Int)) (pf85 : A 75 1 = (D 85 : Int)) (pf86 : F 85 2 = (D 86 : Int)) (pf87 : F 85 3 = (D 87 : Int)) (pf88 : F 85 4 = (D 88 : Int)) (pf89 : F 85 5 = (D 89 : Int)) (pf90 : F 85 6 = (D 90 : Int)) (pf91 : F 85 7 = (D 91 : Int)) (pf92 : F 85 8 = (D 92 : Int)) (pf93 : F 85 9 = (D 93 : Int)) (pf94 : A 75 2 = (D 94 : Int)) (pf95 : F 94 2 = (D 95 : Int)) (pf96 : F 94 3 = (D 96 : Int)) (pf97 : F 94 4 = (D 97 : Int)) (pf98 : F 94 5 = (D 98 : Int)) (pf99 : F 94 6 = (D 99 : Int)) (pf100 : F 94 7 = (D 100 : Int)) (pf101 : F 94 8 = (D 101 : Int)) (pf102 : F 94 9 = (D 102 : Int)) (pf103 : F 9 1 = (D 103 : Int)) (pf104 : F 103 0 = (D 104 : Int)) (pf105 : F 103 1 = (D 105 : Int)) (pf106 : F 103 2 = (D 106 : Int)) (pf107 : F 103 4 = (D 107 : Int)) (pf108 : F 103 5 = (D 108 : Int)) (pf109 : F 103 10 = (D 109 : Int)) (pf110 : F 103 11 = (D 110 : Int)) (pf111 : F 103 12 = (D 111 : Int)) (pf112 : F 103 6 = (D 112 : Int)) (pf113 : F 112 2 = (D 113 : Int)) (pf114 : F 112 3 = (D 114 : Int)) (pf115 : F 112 4 = (D 115 : Int)) (pf116 : F 112 5 = (D 116 : Int)) (pf117 : F 112 6 = (D 117 : Int)) (pf118 : F 112 7 = (D 118 : Int)) (pf119 : F 112 8 = (D 119 : Int)) (pf120 : F 112 9 = (D 120 : Int)) (pf121 : F 6 3 = (D 121 : Int)) (pf122 : F 121 2 = (D 122 : Int)) (pf123 : F 121 0 = (D 123 : Int)) (pf124 : F 103 9 = (D 124 : Int)) (pf125 : F 121 9 = (D 125 : Int)) (pf126 : F 9 5 = (D 126 : Int)) (n2 : Int) (en2 : (N 2 : Int) = n2) (n3 : Int) (en3 : (N 3 : Int) = n3) (n5 : Int) (en5 : (N 5 : Int) = n5) (n8 : Int) (en8 : (N 8 : Int) = n8) (n11 : Int) (en11 : (N 11 : Int) = n11) (n13 : Int) (en13 : (N 13 : Int) = n13) (n14 : Int) (en14 : (N 14 : Int) = n14) (n15 : Int) (en15 : (N 15 : Int) = n15) (n16 : Int) (en16 : (N 16 : Int) = n16) (n17 : Int) (en17 : (N 17 : Int) = n17) (n19 : Int) (en19 : (N 19 : Int) = n19) (n20 : Int) (en20 : (N 20 : Int) = n20) (n22 : Int) (en22 : (N 22 : Int) = n22) (n23 : Int) (en23 : (N 23 : Int) = n23) (n24 : Int) (en24 : (N 24 : Int) = n24) (n25 : Int) (en25 : (N 25 : Int) = n25) (n26 : Int) (en26 : (N 26 : Int) = n26) (n27 : Int) (en27 : (N 27 : Int) = n27) (n28 : Int) (en28 : (N 28 : Int) = n28) (n29 : Int) (en29 : (N 29 : Int) = n29) (n31 : Int) (en31 : (N 31 : Int) = n31) (n32 : Int) (en32 : (N 32 : Int) = n32) (n33 : Int) (en33 : (N 33 : Int) = n33) (n34 : Int) (en34 : (N 34 : Int) = n34) (n35 : Int) (en35 : (N 35 : Int) = n35) (n36 : Int) (en36 : (N 36 : Int) = n36) (n37 : Int) (en37 : (N 37 : Int) = n37) (n38 : Int) (en38 : (N 38 : Int) = n38) (n40 : Int) (en40 : (N 40 : Int) = n40) (n41 : Int) (en41 : (N 41 : Int) = n41) (n42 : Int) (en42 : (N 42 : Int) = n42) (n43 : Int) (en43 : (N 43 : Int) = n43) (n44 : Int) (en44 : (N 44 : Int) = n44) (n45 : Int) (en45 : (N 45 : Int) = n45) (n46 : Int) (en46 : (N 46 : Int) = n46) (n47 : Int) (en47 : (N 47 : Int) = n47) (n49 : Int) (en49 : (N 49 : Int) = n49) (n50 : Int) (en50 : (N 50 : Int) = n50) (n51 : Int) (en51 : (N 51 : Int) = n51) (n52 : Int) (en52 : (N 52 : Int) = n52) (n53 : Int) (en53 : (N 53 : Int) = n53) (n54 : Int) (en54 : (N 54 : Int) = n54) (n55 : Int) (en55 : (N 55 : Int) = n55) (n56 : Int) (en56 : (N 56 : Int) = n56) (n58 : Int) (en58 : (N 58 : Int) = n58) (n59 : Int) (en59 : (N 59 : Int) = n59) (n60 : Int) (en60 : (N 60 : Int) = n60) (n61 : Int) (en61 : (N 61 : Int) = n61) (n62 : Int) (en62 : (N 62 : Int) = n62) (n63 : Int) (en63 : (N 63 : Int) = n63) (n64 : Int) (en64 : (N 64 : Int) = n64) (n65 : Int) (en65 : (N 65 : Int) = n65) (n67 : Int) (en67 : (N 67 : Int) = n67) (n68 : Int) (en68 : (N 68 : Int) = n68) (n69 : Int) (en69 : (N 69 : Int) = n69) (n70 : Int) (en70 : (N 70 : Int) = n70) (n71 : Int) (en71 : (N 71 : Int) = n71) (n72 : Int) (en72 : (N 72 : Int) = n72) (n73 : Int) (en73 : (N 73 : Int) = n73) (n74 : Int) (en74 : (N 74 : Int) = n74) (n75 : Int) (en75 : (N 75 : Int) = n75) (n77 : Int) (en77 : (N 77 : Int) = n77) (n78 : Int) (en78 : (N 78 : Int) = n78) (n79 : Int) (en79 : (N 79 : Int) = n79) (n80 : Int) (en80 : (N 80 : Int) = n80) (n81 : Int) (en81 : (N 81 : Int) = n81) (n82 : Int) (en82 : (N 82 : Int) = n82) (n83 : Int) (en83 : (N 83 : Int) = n83) (n84 : Int) (en84 : (N 84 : Int) = n84) (n86 : Int) (en86 : (N 86 : Int) = n86) (n87 : Int) (en87 : (N 87 : Int) = n87) (n88 : Int) (en88 : (N 88 : Int) = n88) (n89 : Int) (en89 : (N 89 : Int) = n89) (n90 : Int) (en90 : (N 90 : Int) = n90) (n91 : Int) (en91 : (N 91 : Int) = n91) (n92 : Int) (en92 : (N 92 : Int) = n92) (n93 : Int) (en93 : (N 93 : Int) = n93) (n95 : Int) (en95 : (N 95 : Int) = n95) (n96 : Int) (en96 : (N 96 : Int) = n96) (n97 : Int) (en97 : (N 97 : Int) = n97) (n98 : Int) (en98 : (N 98 : Int) = n98) (n99 : Int) (en99 : (N 99 : Int) = n99) (n100 : Int) (en100 : (N 100 : Int) = n100) (n101 : Int) (en101 : (N 101 : Int) = n101) (n102 : Int) (en102 : (N 102 : Int) = n102) (n104 : Int) (en104 : (N 104 : Int) = n104) (n105 : Int) (en105 : (N 105 : Int) = n105) (n106 : Int) (en106 : (N 106 : Int) = n106) (n107 : Int) (en107 : (N 107 : Int) = n107) (n108 : Int) (en108 : (N 108 : Int) = n108) (n109 : Int) (en109 : (N 109 : Int) = n109) (n110 : Int) (en110 : (N 110 : Int) = n110) (n111 : Int) (en111 : (N 111 : Int) = n111) (n113 : Int) (en113 : (N 113 : Int) = n113) (n114 : Int) (en114 : (N 114 : Int) = n114) (n115 : Int) (en115 : (N 115 : Int) = n115) (n116 : Int) (en116 : (N 116 : Int) = n116) (n117 : Int) (en117 : (N 117 : Int) = n117) (n118 : Int) (en118 : (N 118 : Int) = n118) (n119 : Int) (en119 : (N 119 : Int) = n119) (n120 : Int) (en120 : (N 120 : Int) = n120) (n122 : Int) (en122 : (N 122 : Int) = n122) (n123 : Int) (en123 : (N 123 : Int) = n123) (u0_17 : Int) (eu0_17 : F 0 17 = u0_17) (u1_1 : Int) (eu1_1 : F 1 1 = u1_1) (u4_1 : Int) (eu4_1 : F 4 1 = u4_1) (u4_2 : Int) (eu4_2 : F 4 2 = u4_2) (u6_2 : Int) (eu6_2 : F 6 2 = u6_2) (u7_1 : Int) (eu7_1 : F 7 1 = u7_1) (u9_15 : Int) (eu9_15 : F 9 15 = u9_15) (u10_1 : Int) (eu10_1 : F 10 1 = u10_1) (u18_0 : Int) (eu18_0 : F 18 0 = u18_0) (u21_0 : Int) (eu21_0 : F 21 0 = u21_0) (u21_1 : Int) (eu21_1 : F 21 1 = u21_1) (u30_0 : Int) (eu30_0 : F 30 0 = u30_0) (u30_1 : Int) (eu30_1 : F 30 1 = u30_1) (u39_0 : Int) (eu39_0 : F 39 0 = u39_0) (u39_1 : Int) (eu39_1 : F 39 1 = u39_1) (u48_1 : Int) (eu48_1 : F 48 1 = u48_1) (u57_1 : Int) (eu57_1 : F 57 1 = u57_1) (u66_1 : Int) (eu66_1 : F 66 1 = u66_1) (u76_0 : Int) (eu76_0 : F 76 0 = u76_0) (u76_1 : Int) (eu76_1 : F 76 1 = u76_1) (u85_0 : Int) (eu85_0 : F 85 0 = u85_0) (u85_1 : Int) (eu85_1 : F 85 1 = u85_1) (u94_0 : Int) (eu94_0 : F 94 0 = u94_0) (u94_1 : Int) (eu94_1 : F 94 1 = u94_1) (u112_1 : Int) (eu112_1 : F 112 1 = u112_1) (u121_3 : Int) (eu121_3 : F 121 3 = u121_3) (w2 : Int → Int) (ew2 : A 2 = w2) (w3 : Int → Int) (ew3 : A 3 = w3) (w5 : Int → Int) (ew5 : A 5 = w5) (w8 : Int → Int) (ew8 : A 8 = w8) (w19 : Int → Int) (ew19 : A 19 = w19) (w20 : Int → Int) (ew20 : A 20 = w20) (w22 : Int → Int) (ew22 : A 22 = w22) (w23 : Int → Int) (ew23 : A 23 = w23) (w24 : Int → Int) (ew24 : A 24 = w24) (w25 : Int → Int) (ew25 : A 25 = w25) (w26 : Int → Int) (ew26 : A 26 = w26) (w27 : Int → Int) (ew27 : A 27 = w27) (w28 : Int → Int) (ew28 : A 28 = w28) (w31 : Int → Int) (ew31 : A 31 = w31) (w32 : Int → Int) (ew32 : A 32 = w32) (w33 : Int → Int) (ew33 : A 33 = w33) (w34 : Int → Int) (ew34 : A 34 = w34) (w35 : Int → Int) (ew35 : A 35 = w35) (w36 : Int → Int) (ew36 : A 36 = w36) (w37 : Int → Int) (ew37 : A 37 = w37) (w40 : Int → Int) (ew40 : A 40 = w40) (w41 : Int → Int) (ew41 : A 41 = w41) (w42 : Int → Int) (ew42 : A 42 = w42) (w43 : Int → Int) (ew43 : A 43 = w43) (w44 : Int → Int) (ew44 : A 44 = w44) (w45 : Int → Int) (ew45 : A 45 = w45) (w46 : Int → Int) (ew46 : A 46 = w46) (w77 : Int → Int) (ew77 : A 77 = w77) (w78 : Int → Int) (ew78 : A 78 = w78) (w79 : Int → Int) (ew79 : A 79 = w79) (w80 : Int → Int) (ew80 : A 80 = w80) (w82 : Int → Int) (ew82 : A 82 = w82) (w83 : Int → Int) (ew83 : A 83 = w83) (w84 : Int → Int) (ew84 : A 84 = w84) (w86 : Int → Int) (ew86 : A 86 = w86) (w87 : Int → Int) (ew87 : A 87 = w87) (w88 : Int → Int) (ew88 : A 88 = w88) (w89 : Int → Int) (ew89 : A 89 = w89) (w91 : Int → Int) (ew91 : A 91 = w91) (w92 : Int → Int) (ew92 : A 92 = w92) (w93 : Int → Int) (ew93 : A 93 = w93) (w95 : Int → Int) (ew95 : A 95 = w95) (w96 : Int → Int) (ew96 : A 96 = w96) (w97 : Int → Int) (ew97 : A 97 = w97) (w98 : Int → Int) (ew98 : A 98 = w98) (w100 : Int → Int) (ew100 : A 100 = w100) (w101 : Int → Int) (ew101 : A 101 = w101) (w102 : Int → Int) (ew102 : A 102 = w102) (w106 : Int → Int) (ew106 : A 106 = w106) (w122 : Int → Int) (ew122 : A 122 = w122) (w123 : Int → Int) (ew123 : A 123 = w123) (Dc : DcS) {ls : rO} (hl0 : rlook ls 0 = some (.ref (D 0))) (hl1 : rlook ls 1 = some (.ref (D 1))) (hl3 : rlook ls 3 = some (I (x3))) (hl4 : rlook ls 4 = some (.ref (D 2))) (h0 : inr (x3)) (h1 : 0 ≤ (u1_1) ∧ (u1_1) ≤ (n3) ∧ (n3) ≤ 65536) (h2 : 0 ≤ (u4_1) ∧ (u4_1) ≤ (n5) ∧ (n5) ≤ 65536) (h3 : 0 ≤ (u7_1) ∧ (u7_1) ≤ (n8) ∧ (n8) ≤ 65536) (h4 : 0 ≤ (x3) ∧ (x3) ≤ 65536) (h5 : 0 ≤ (u9_15)) (h6 : 0 ≤ (u10_1) ∧ (u10_1) ≤ (n11) ∧ (n11) ≤ 65536) (h7 : (n2) = 5 ∧ (n13) = 3 ∧ (n14) = 3 ∧ (n15) = 3 ∧ (n16) = 3 ∧ (n17) = 3 ∧ (n19) = 3 ∧ (n20) = 3) (h8 : SL ((w22)) ((u21_1)) ((u21_0)) ((w23)) ((w24)) ((w25)) ((w26)) ((w27)) ((w28))) (h9 : SZD ((n22)) ((n23)) ((n24)) ((n25)) ((n29)) ((n26)) ((n27)) ((n28)) ((u21_1)) ((u21_0))) (h10 : (u21_1) ≤ 36) (h11 : SL ((w31)) ((u30_1)) ((u30_0)) ((w32)) ((w33)) ((w34)) ((w35)) ((w36)) ((w37))) (h12 : SZD ((n31)) ((n32)) ((n33)) ((n34)) ((n38)) ((n35)) ((n36)) ((n37)) ((u30_1)) ((u30_0))) (h13 : (u30_1) ≤ 32) (h14 : SL ((w40)) ((u39_1)) ((u39_0)) ((w41)) ((w42)) ((w43)) ((w44)) ((w45)) ((w46))) (h15 : SZD ((n40)) ((n41)) ((n42)) ((n43)) ((n47)) ((n44)) ((n45)) ((n46)) ((u39_1)) ((u39_0))) (h16 : (u39_1) ≤ 53) (h17 : SHZD ((n49)) ((n50)) ((n51)) ((n52)) ((n53)) ((n54)) ((n55)) ((n56)) ((u48_1)) 36 512) (h18 : SHZD ((n58)) ((n59)) ((n60)) ((n61)) ((n62)) ((n63)) ((n64)) ((n65)) ((u57_1)) 32 256) (h19 : SHZD ((n67)) ((n68)) ((n69)) ((n70)) ((n71)) ((n72)) ((n73)) ((n74)) ((u66_1)) 53 512) (h20 : SHZD ((n77)) ((n78)) ((n79)) ((n80)) ((n81)) ((n82)) ((n83)) ((n84)) ((u76_1)) 36 512) (h21 : SHZD ((n86)) ((n87)) ((n88)) ((n89)) ((n90)) ((n91)) ((n92)) ((n93)) ((u85_1)) 32 256) (h22 : SHZD ((n95)) ((n96)) ((n97)) ((n98)) ((n99)) ((n100)) ((n101)) ((n102)) ((u94_1)) 53 512) (h23 : CDZD ((n104)) ((n105)) ((n106)) ((n107)) ((n108)) ((n109)) ((n110)) ((n111))) (h24 : SHZD ((n113)) ((n114)) ((n115)) ((n116)) ((n117)) ((n118)) ((n119)) ((n120)) ((u112_1)) 12 64) (h25 : (n122) = 2048) (h26 : CEL ((w106))) (h27 : CEL ((w122))) (h28 : HID ((u18_0) = -1 ∨ (u18_0) = (((D 121 : Nat) : Int)) ∧ 0 ≤ (u121_3) ∧ (u121_3) ≤ 11)) (h29 : HID ((u18_0) = -1 ∨ LNG ((w123)) ((u121_3)))) (h30 : HID (((w19)) 0 = -1 ∨ ((w19)) 0 = (((D 76 : Nat) : Int)))) (h31 : HID (((w19)) 1 = -1 ∨ ((w19)) 1 = (((D 85 : Nat) : Int)))) (h32 : HID (((w19)) 2 = -1 ∨ ((w19)) 2 = (((D 94 : Nat) : Int)))) (h33 : HID (((w19)) 0 = -1 ∨ SL ((w77)) ((u76_1)) ((u76_0)) ((w78)) ((w79)) ((w80)) ((w82)) ((w83)) ((w84)))) (h34 : HID (((w19)) 1 = -1 ∨ SL ((w86)) ((u85_1)) ((u85_0)) ((w87)) ((w88)) ((w89)) ((w91)) ((w92)) ((w93)))) (h35 : HID (((w19)) 2 = -1 ∨ SL ((w95)) ((u94_1)) ((u94_0)) ((w96)) ((w97)) ((w98)) ((w100)) ((w101)) ((w102)))) (h36 : HID (((w19)) 0 = -1 ∨ (u76_0) ≤ 9)) (h37 : HID (((w19)) 1 = -1 ∨ (u85_0) ≤ 8)) (h38 : HID (((w19)) 2 = -1 ∨ (u94_0) ≤ 9)) (h39 : (u4_1) = 0) (h40 : (u4_2) = 0) (h41 : 1 ≤ ((w20)) 0 ∧ 1 ≤ ((w20)) 1 ∧ 1 ≤ ((w20)) 2) (h42 : SHX (KNX 0) ((u21_0)) ((u21_1)) ((w22))) (h43 : SHX (KNX 1) ((u30_0)) ((u30_1)) ((w31))) (h44 : SHX (KNX 2) ((u39_0)) ((u39_1)) ((w40))) (h45 : DCK Dc (sc ((w8)) 0 ((u7_1))) ((u6_2)) ((w20))) (h46 : DCQ Dc.2.2.1 ((u18_0)) ((u121_3)) ((w122))) (h47 : DCT (Dc.2.2.2.1 0) (((w19)) 0) ((u76_0)) ((u76_1)) ((w77))) (h48 : DCT (Dc.2.2.2.1 1) (((w19)) 1) ((u85_0)) ((u85_1)) ((w86))) (h49 : DCT (Dc.2.2.2.1 2) (((w19)) 2) ((u94_0)) ((u94_1)) ((w95))) (h50 : (u4_1) = 0) (h51 : DCo Dc) (k : ∀ (z : Int) (σ : rS) (D' N' : Nat → Nat) (F' : hF) (A' : hA) (c' s' : Nat), HW V32_Row_Ir_vb4d σ D' N' F' A' → OUT (V32_Row_Ir_vb4d).length D N σE c s D' N' σ c' s' → SD [5, 11] D D' → SD [5, 11] N N' → SF [(0, 17), (4, 0), (4, 1), (4, 2), (9, 7), (9, 8), (9, 9), (9, 10), (9, 11), (9, 12), (9, 13), (9, 14), (9, 15), (9, 16), (9, 17), (9, 18), (9, 19), (9, 20), (9, 21), (10, 0), (10, 1), (10, 2), (10, 3), (10, 4), (12, 0), (48, 0), (48, 10), (48, 11), (48, 12), (57, 0), (57, 10), (57, 11), (57, 12), (66, 0), (66, 10), (66, 11), (66, 12), (103, 3), (112, 0), (112, 10), (112, 11), (112, 12), (124, 0), (124, 1), (124, 2), (125, 0), (125, 1), (125, 2), (126, 0), (126, 1), (126, 2)] F F' → SA [2, 5, 11, 13, 14, 15, 49, 50, 51, 52, 53, 54, 55, 56, 58, 59, 60, 61, 62, 63, 64, 65, 67, 68, 69, 70, 71, 72, 73, 74, 104, 105, 106, 107, 113, 114, 115, 116, 117, 118, 119, 120] A A' → F' 4 0 = (D' 5 : Int) → F' 10 0 = (D' 11 : Int) → ∀ m5 : Int, (N' 5 : Int) = m5 → ∀ m11 : Int, (N' 11 : Int) = m11 → ∀ y0_17 : Int, F' 0 17 = y0_17 → ∀ y4_1 : Int, F' 4 1 = y4_1 → ∀ y4_2 : Int, F' 4 2 = y4_2 → ∀ y9_15 : Int, F' 9 15 = y9_15 → ∀ y10_1 : Int, F' 10 1 = y10_1 → ∀ v2 : Int → Int, A' 2 = v2 → ∀ v5 : Int → Int, A' 5 = v5 → ∀ v106 : Int → Int, A' 106 = v106 → (inr (z)) → (0 ≤ (y4_1) ∧ (y4_1) ≤ (m5) ∧ (m5) ≤ 65536) → (0 ≤ (y10_1) ∧ (y10_1) ≤ (m11) ∧ (m11) ≤ 65536) → (0 ≤ (y9_15)) → (CEL ((v106))) → (CEL ((w122))) → (((v2)) 3 = (y4_1)) → ((y4_2) = 0) → ((y4_2) = 0) → (((v2)) 3 = (y4_1)) → (RDQ 4 (sc ((w3)) 0 ((u1_1))) [] Dc ((x3)) ((z)) ((y0_17)) (sc ((v5)) 0 ((y4_1)))) → (CN5 (RDS (ap (sc ((w3)) 0 ((u1_1)))) ((sc ((w3)) 0 ((u1_1))).length : Int) ((x3)) Dc) (((v2)) 0, ((v2)) 1, ((v2)) 2, (y4_1), ((v2)) 4)) → (0 ≤ (RDS (ap (sc ((w3)) 0 ((u1_1)))) ((sc ((w3)) 0 ((u1_1))).length : Int) ((x3)) Dc).1) → Q (some (I z)) σ c' s') : Ew 32 (d + 7) 160 ls [.ref (D 9)] σE c s Q := by
  have O := OUT_refl (n := (V32_Row_Ir_vb4d).length) (D := D) (N := N) (σ := σE) (c := c) (s := s)
  have HE := H
  have r1 : HID ((-2147483648 : Int) ≤ u0_17 ∧ u0_17 ≤ 2147483647) := krg_e (show (-2147483648 : Int) ≤ F 0 17 ∧ F 0 17 ≤ 2147483647 from H.krg 0 17 (by decide)) (show F 0 17 = u0_17 from (eu0_17))
  have r2 : HID ((-2147483648 : Int) ≤ u1_1 ∧ u1_1 ≤ 2147483647) := krg_e (show (-2147483648 : Int) ≤ F 1 1 ∧ F 1 1 ≤ 2147483647 from H.krg 1 1 (by decide)) (show F 1 1 = u1_1 from (eu1_1))
  have r3 : HID ((-2147483648 : Int) ≤ u4_1 ∧ u4_1 ≤ 2147483647) := krg_e (show (-2147483648 : Int) ≤ F 4 1 ∧ F 4 1 ≤ 2147483647 from H.krg 4 1 (by decide)) (show F 4 1 = u4_1 from (eu4_1))
  have r4 : HID ((0 : Int) ≤ u4_2 ∧ u4_2 ≤ 1) := krg_e (show (0 : Int) ≤ F 4 2 ∧ F 4 2 ≤ 1 from H.krg 4 2 (by decide)) (show F 4 2 = u4_2 from (eu4_2))
  have r5 : HID ((-2147483648 : Int) ≤ u6_2 ∧ u6_2 ≤ 2147483647) := krg_e (show (-2147483648 : Int) ≤ F 6 2 ∧ F 6 2 ≤ 2147483647 from H.krg 6 2 (by decide)) (show F 6 2 = u6_2 from (eu6_2))
  have r6 : HID ((-2147483648 : Int) ≤ u7_1 ∧ u7_1 ≤ 2147483647) := krg_e (show (-2147483648 : Int) ≤ F 7 1 ∧ F 7 1 ≤ 2147483647 from H.krg 7 1 (by decide)) (show F 7 1 = u7_1 from (eu7_1))
  have r7 : HID ((-9223372036854775808 : Int) ≤ u9_15 ∧ u9_15 ≤ 9223372036854775807) := krg_e (show (-9223372036854775808 : Int) ≤ F 9 15 ∧ F 9 15 ≤ 9223372036854775807 from H.krg 9 15 (by decide)) (show F 9 15 = u9_15 from (eu9_15))
  have r8 : HID ((-2147483648 : Int) ≤ u10_1 ∧ u10_1 ≤ 2147483647) := krg_e (show (-2147483648 : Int) ≤ F 10 1 ∧ F 10 1 ≤ 2147483647 from H.krg 10 1 (by decide)) (show F 10 1 = u10_1 from (eu10_1))
  have r9 : HID ((-2147483648 : Int) ≤ u21_0 ∧ u21_0 ≤ 2147483647) := krg_e (show (-2147483648 : Int) ≤ F 21 0 ∧ F 21 0 ≤ 2147483647 from H.krg 21 0 (by decide)) (show F 21 0 = u21_0 from (eu21_0))
  have r10 : HID ((-2147483648 : Int) ≤ u21_1 ∧ u21_1 ≤ 2147483647) := krg_e (show (-2147483648 : Int) ≤ F 21 1 ∧ F 21 1 ≤ 2147483647 from H.krg 21 1 (by decide)) (show F 21 1 = u21_1 from (eu21_1))
  have r11 : HID ((-2147483648 : Int) ≤ u30_0 ∧ u30_0 ≤ 2147483647) := krg_e (show (-2147483648 : Int) ≤ F 30 0 ∧ F 30 0 ≤ 2147483647 from H.krg 30 0 (by decide)) (show F 30 0 = u30_0 from (eu30_0))
  have r12 : HID ((-2147483648 : Int) ≤ u30_1 ∧ u30_1 ≤ 2147483647) := krg_e (show (-2147483648 : Int) ≤ F 30 1 ∧ F 30 1 ≤ 2147483647 from H.krg 30 1 (by decide)) (show F 30 1 = u30_1 from (eu30_1))
  have r13 : HID ((-2147483648 : Int) ≤ u39_0 ∧ u39_0 ≤ 2147483647) := krg_e (show (-2147483648 : Int) ≤ F 39 0 ∧ F 39 0 ≤ 2147483647 from H.krg 39 0 (by decide)) (show F 39 0 = u39_0 from (eu39_0))
  have r14 : HID ((-2147483648 : Int) ≤ u39_1 ∧ u39_1 ≤ 2147483647) := krg_e (show (-2147483648 : Int) ≤ F 39 1 ∧ F 39 1 ≤ 2147483647 from H.krg 39 1 (by decide)) (show F 39 1 = u39_1 from (eu39_1))
  have r15 : HID ((-2147483648 : Int) ≤ u48_1 ∧ u48_1 ≤ 2147483647) := krg_e (show (-2147483648 : Int) ≤ F 48 1 ∧ F 48 1 ≤ 2147483647 from H.krg 48 1 (by decide)) (show F 48 1 = u48_1 from (eu48_1))
  have r16 : HID ((-2147483648 : Int) ≤ u57_1 ∧ u57_1 ≤ 2147483647) := krg_e (show (-2147483648 : Int) ≤ F 57 1 ∧ F 57 1 ≤ 2147483647 from H.krg 57 1 (by decide)) (show F 57 1 = u57_1 from (eu57_1))
  have r17 : HID ((-2147483648 : Int) ≤ u66_1 ∧ u66_1 ≤ 2147483647) := krg_e (show (-2147483648 : Int) ≤ F 66 1 ∧ F 66 1 ≤ 2147483647 from H.krg 66 1 (by decide)) (show F 66 1 = u66_1 from (eu66_1))
  have r18 : HID ((-2147483648 : Int) ≤ u76_0 ∧ u76_0 ≤ 2147483647) := krg_e (show (-2147483648 : Int) ≤ F 76 0 ∧ F 76 0 ≤ 2147483647 from H.krg 76 0 (by decide)) (show F 76 0 = u76_0 from (eu76_0))
  have r19 : HID ((-2147483648 : Int) ≤ u76_1 ∧ u76_1 ≤ 2147483647) := krg_e (show (-2147483648 : Int) ≤ F 76 1 ∧ F 76 1 ≤ 2147483647 from H.krg 76 1 (by decide)) (show F 76 1 = u76_1 from (eu76_1))
  have r20 : HID ((-2147483648 : Int) ≤ u85_0 ∧ u85_0 ≤ 2147483647) := krg_e (show (-2147483648 : Int) ≤ F 85 0 ∧ F 85 0 ≤ 2147483647 from H.krg 85 0 (by decide)) (show F 85 0 = u85_0 from (eu85_0))
  have r21 : HID ((-2147483648 : Int) ≤ u85_1 ∧ u85_1 ≤ 2147483647) := krg_e (show (-2147483648 : Int) ≤ F 85 1 ∧ F 85 1 ≤ 2147483647 from H.krg 85 1 (by decide)) (show F 85 1 = u85_1 from (eu85_1))
  have r22 : HID ((-2147483648 : Int) ≤ u94_0 ∧ u94_0 ≤ 2147483647) := krg_e (show (-2147483648 : Int) ≤ F 94 0 ∧ F 94 0 ≤ 2147483647 from H.krg 94 0 (by decide)) (show F 94 0 = u94_0 from (eu94_0))
  have r23 : HID ((-2147483648 : Int) ≤ u94_1 ∧ u94_1 ≤ 2147483647) := krg_e (show (-2147483648 : Int) ≤ F 94 1 ∧ F 94 1 ≤ 2147483647 from H.krg 94 1 (by decide)) (show F 94 1 = u94_1 from (eu94_1))
  have r24 : HID ((-2147483648 : Int) ≤ u112_1 ∧ u112_1 ≤ 2147483647) := krg_e (show (-2147483648 : Int) ≤ F 112 1 ∧ F 112 1 ≤ 2147483647 from H.krg 112 1 (by decide)) (show F 112 1 = u112_1 from (eu112_1))
  have r25 : HID ((-2147483648 : Int) ≤ u121_3 ∧ u121_3 ≤ 2147483647) := krg_e (show (-2147483648 : Int) ≤ F 121 3 ∧ F 121 3 ≤ 2147483647 from H.krg 121 3 (by decide)) (show F 121 3 = u121_3 from (eu121_3))
  replace pf3 := HIDm pf3
  replace pf4 := HIDm pf4
  replace pf5 := HIDm pf5
  replace pf6 := HIDm pf6
  replace pf7 := HIDm pf7
  replace pf8 := HIDm pf8
  replace pf9 := HIDm pf9
  replace pf10 := HIDm pf10
  replace pf11 := HIDm pf11
  replace pf12 := HIDm pf12
  replace pf13 := HIDm pf13
  replace pf14 := HIDm pf14
  replace pf15 := HIDm pf15
  replace pf16 := HIDm pf16
  replace pf17 := HIDm pf17
  replace pf18 := HIDm pf18
  replace pf19 := HIDm pf19
  replace pf20 := HIDm pf20
  replace pf21 := HIDm pf21
  replace pf22 := HIDm pf22
  replace pf23 := HIDm pf23
  replace pf24 := HIDm pf24
  replace pf25 := HIDm pf25
  replace pf26 := HIDm pf26
  replace pf27 := HIDm pf27
  replace pf28 := HIDm pf28
  replace pf29 := HIDm pf29
  replace pf30 := HIDm pf30
  replace pf31 := HIDm pf31
  replace pf32 := HIDm pf32
  replace pf33 := HIDm pf33
  replace pf34 := HIDm pf34
  replace pf35 := HIDm pf35
  replace pf36 := HIDm pf36
  replace pf37 := HIDm pf37
  replace pf38 := HIDm pf38
  replace pf39 := HIDm pf39
  replace pf40 := HIDm pf40
  replace pf41 := HIDm pf41
  replace pf42 := HIDm pf42
  replace pf43 := HIDm pf43
  replace pf44 := HIDm pf44
  replace pf45 := HIDm pf45
  replace pf46 := HIDm pf46
  replace pf47 := HIDm pf47
  replace pf48 := HIDm pf48
  replace pf49 := HIDm pf49
  replace pf50 := HIDm pf50
  replace pf51 := HIDm pf51
  replace pf52 := HIDm pf52
  replace pf53 := HIDm pf53
  replace pf54 := HIDm pf54
  replace pf55 := HIDm pf55
  replace pf56 := HIDm pf56
  replace pf57 := HIDm pf57
  replace pf58 := HIDm pf58
  replace pf59 := HIDm pf59
  replace pf60 := HIDm pf60
  replace pf61 := HIDm pf61
  replace pf62 := HIDm pf62
  replace pf63 := HIDm pf63
  replace pf64 := HIDm pf64
  replace pf65 := HIDm pf65
  replace pf66 := HIDm pf66
  replace pf67 := HIDm pf67
  replace pf68 := HIDm pf68
  replace pf69 := HIDm pf69
  replace pf70 := HIDm pf70
  replace pf71 := HIDm pf71
  replace pf72 := HIDm pf72
  replace pf73 := HIDm pf73
  replace pf74 := HIDm pf74
  replace pf75 := HIDm pf75
  replace pf76 := HIDm pf76
  replace pf77 := HIDm pf77
  replace pf78 := HIDm pf78
  replace pf79 := HIDm pf79
  replace pf80 := HIDm pf80
  replace pf81 := HIDm pf81
  replace pf82 := HIDm pf82
  replace pf83 := HIDm pf83
  replace pf84 := HIDm pf84
  replace pf85 := HIDm pf85
  replace pf86 := HIDm pf86
  replace pf87 := HIDm pf87
  replace pf88 := HIDm pf88
  replace pf89 := HIDm pf89
  replace pf90 := HIDm pf90
  replace pf91 := HIDm pf91
  replace pf92 := HIDm pf92
  replace pf93 := HIDm pf93
  replace pf94 := HIDm pf94
  replace pf95 := HIDm pf95
  replace pf96 := HIDm pf96
  replace pf97 := HIDm pf97
  replace pf98 := HIDm pf98
  replace pf99 := HIDm pf99
  replace pf100 := HIDm pf100
  replace pf101 := HIDm pf101
  replace pf102 := HIDm pf102
  replace pf103 := HIDm pf103
  replace pf104 := HIDm pf104
  replace pf105 := HIDm pf105
  replace pf106 := HIDm pf106
  replace pf107 := HIDm pf107
  replace pf108 := HIDm pf108
  replace pf109 := HIDm pf109
  replace pf110 := HIDm pf110
  replace pf111 := HIDm pf111
  replace pf112 := HIDm pf112
  replace pf113 := HIDm pf113
  replace pf114 := HIDm pf114
  replace pf115 := HIDm pf115
  replace pf116 := HIDm pf116
  replace pf117 := HIDm pf117
  replace pf118 := HIDm pf118
  replace pf119 := HIDm pf119
  replace pf120 := HIDm pf120
  replace pf121 := HIDm pf121
  replace pf122 := HIDm pf122
  replace pf123 := HIDm pf123
  replace pf124 := HIDm pf124
  replace pf125 := HIDm pf125
  replace pf126 := HIDm pf126
  replace en2 := HIDm en2
  replace en3 := HIDm en3
  replace en5 := HIDm en5
  replace en8 := HIDm en8
  replace en11 := HIDm en11
  replace en13 := HIDm en13
  replace en14 := HIDm en14
  replace en15 := HIDm en15
  replace en16 := HIDm en16
  replace en17 := HIDm en17
  replace en19 := HIDm en19
  replace en20 := HIDm en20
  replace en22 := HIDm en22
  replace en23 := HIDm en23
  replace en24 := HIDm en24
  replace en25 := HIDm en25
  replace en26 := HIDm en26
  replace en27 := HIDm en27
  replace en28 := HIDm en28
  replace en29 := HIDm en29
  replace en31 := HIDm en31
  replace en32 := HIDm en32
  replace en33 := HIDm en33
  replace en34 := HIDm en34
  replace en35 := HIDm en35
  replace en36 := HIDm en36
  replace en37 := HIDm en37
  replace en38 := HIDm en38
  replace en40 := HIDm en40
  replace en41 := HIDm en41
  replace en42 := HIDm en42
  replace en43 := HIDm en43
  replace en44 := HIDm en44
  replace en45 := HIDm en45
  replace en46 := HIDm en46
  replace en47 := HIDm en47
  replace en49 := HIDm en49
  replace en50 := HIDm en50
  replace en51 := HIDm en51
  replace en52 := HIDm en52
  replace en53 := HIDm en53
  replace en54 := HIDm en54
  replace en55 := HIDm en55
  replace en56 := HIDm en56
  replace en58 := HIDm en58
  replace en59 := HIDm en59
  replace en60 := HIDm en60
  replace en61 := HIDm en61
  replace en62 := HIDm en62
  replace en63 := HIDm en63
  replace en64 := HIDm en64
  replace en65 := HIDm en65
  replace en67 := HIDm en67
  replace en68 := HIDm en68
  replace en69 := HIDm en69
  replace en70 := HIDm en70
  replace en71 := HIDm en71
  replace en72 := HIDm en72
  replace en73 := HIDm en73
  replace en74 := HIDm en74
  replace en75 := HIDm en75
  replace en77 := HIDm en77
  replace en78 := HIDm en78
  replace en79 := HIDm en79
  replace en80 := HIDm en80
  replace en81 := HIDm en81
  replace en82 := HIDm en82
  replace en83 := HIDm en83
  replace en84 := HIDm en84
  replace en86 := HIDm en86
  replace en87 := HIDm en87
  replace en88 := HIDm en88
  replace en89 := HIDm en89
  replace en90 := HIDm en90
  replace en91 := HIDm en91
  replace en92 := HIDm en92
  replace en93 := HIDm en93
  replace en95 := HIDm en95
  replace en96 := HIDm en96
  replace en97 := HIDm en97
  replace en98 := HIDm en98
  replace en99 := HIDm en99
  replace en100 := HIDm en100
  replace en101 := HIDm en101
  replace en102 := HIDm en102
  replace en104 := HIDm en104
  replace en105 := HIDm en105
  replace en106 := HIDm en106
  replace en107 := HIDm en107
  replace en108 := HIDm en108
  replace en109 := HIDm en109
  replace en110 := HIDm en110
  replace en111 := HIDm en111
  replace en113 := HIDm en113
  replace en114 := HIDm en114
  replace en115 := HIDm en115
  replace en116 := HIDm en116
  replace en117 := HIDm en117
  replace en118 := HIDm en118
  replace en119 := HIDm en119
  replace en120 := HIDm en120
  replace en122 := HIDm en122
  replace en123 := HIDm en123
  replace eu0_17 := HIDm eu0_17
  replace eu1_1 := HIDm eu1_1
  replace eu4_1 := HIDm eu4_1
  replace eu4_2 := HIDm eu4_2
  replace eu6_2 := HIDm eu6_2
  replace eu7_1 := HIDm eu7_1
  replace eu9_15 := HIDm eu9_15
  replace eu10_1 := HIDm eu10_1
  replace eu18_0 := HIDm eu18_0
  replace eu21_0 := HIDm eu21_0
  replace eu21_1 := HIDm eu21_1
  replace eu30_0 := HIDm eu30_0
  replace eu30_1 := HIDm eu30_1
  replace eu39_0 := HIDm eu39_0
  replace eu39_1 := HIDm eu39_1
  replace eu48_1 := HIDm eu48_1
  replace eu57_1 := HIDm eu57_1
  replace eu66_1 := HIDm eu66_1
  replace eu76_0 := HIDm eu76_0
  replace eu76_1 := HIDm eu76_1
  replace eu85_0 := HIDm eu85_0
  replace eu85_1 := HIDm eu85_1
  replace eu94_0 := HIDm eu94_0
  replace eu94_1 := HIDm eu94_1
  replace eu112_1 := HIDm eu112_1
  replace eu121_3 := HIDm eu121_3
  have r26 : HID ((0 : Int) ≤ n2 ∧ n2 ≤ 1000000) := nrng (H.nle 2 (by decide)) (show (N 2 : Int) = n2 from en2)
  have r27 : HID ((0 : Int) ≤ n3 ∧ n3 ≤ 1000000) := nrng (H.nle 3 (by decide)) (show (N 3 : Int) = n3 from en3)
  have r28 : HID ((0 : Int) ≤ n5 ∧ n5 ≤ 1000000) := nrng (H.nle 5 (by decide)) (show (N 5 : Int) = n5 from en5)
  have r29 : HID ((0 : Int) ≤ n8 ∧ n8 ≤ 1000000) := nrng (H.nle 8 (by decide)) (show (N 8 : Int) = n8 from en8)
  have r30 : HID ((0 : Int) ≤ n11 ∧ n11 ≤ 1000000) := nrng (H.nle 11 (by decide)) (show (N 11 : Int) = n11 from en11)
  have r31 : HID ((0 : Int) ≤ n13 ∧ n13 ≤ 1000000) := nrng (H.nle 13 (by decide)) (show (N 13 : Int) = n13 from en13)
  have r32 : HID ((0 : Int) ≤ n14 ∧ n14 ≤ 1000000) := nrng (H.nle 14 (by decide)) (show (N 14 : Int) = n14 from en14)
  have r33 : HID ((0 : Int) ≤ n15 ∧ n15 ≤ 1000000) := nrng (H.nle 15 (by decide)) (show (N 15 : Int) = n15 from en15)
  have r34 : HID ((0 : Int) ≤ n16 ∧ n16 ≤ 1000000) := nrng (H.nle 16 (by decide)) (show (N 16 : Int) = n16 from en16)
  have r35 : HID ((0 : Int) ≤ n17 ∧ n17 ≤ 1000000) := nrng (H.nle 17 (by decide)) (show (N 17 : Int) = n17 from en17)
  have r36 : HID ((0 : Int) ≤ n19 ∧ n19 ≤ 1000000) := nrng (H.nle 19 (by decide)) (show (N 19 : Int) = n19 from en19)
  have r37 : HID ((0 : Int) ≤ n20 ∧ n20 ≤ 1000000) := nrng (H.nle 20 (by decide)) (show (N 20 : Int) = n20 from en20)
  have r38 : HID ((0 : Int) ≤ n22 ∧ n22 ≤ 1000000) := nrng (H.nle 22 (by decide)) (show (N 22 : Int) = n22 from en22)
  have r39 : HID ((0 : Int) ≤ n23 ∧ n23 ≤ 1000000) := nrng (H.nle 23 (by decide)) (show (N 23 : Int) = n23 from en23)
  have r40 : HID ((0 : Int) ≤ n24 ∧ n24 ≤ 1000000) := nrng (H.nle 24 (by decide)) (show (N 24 : Int) = n24 from en24)
  have r41 : HID ((0 : Int) ≤ n25 ∧ n25 ≤ 1000000) := nrng (H.nle 25 (by decide)) (show (N 25 : Int) = n25 from en25)
  have r42 : HID ((0 : Int) ≤ n26 ∧ n26 ≤ 1000000) := nrng (H.nle 26 (by decide)) (show (N 26 : Int) = n26 from en26)
  have r43 : HID ((0 : Int) ≤ n27 ∧ n27 ≤ 1000000) := nrng (H.nle 27 (by decide)) (show (N 27 : Int) = n27 from en27)
  have r44 : HID ((0 : Int) ≤ n28 ∧ n28 ≤ 1000000) := nrng (H.nle 28 (by decide)) (show (N 28 : Int) = n28 from en28)
  have r45 : HID ((0 : Int) ≤ n29 ∧ n29 ≤ 1000000) := nrng (H.nle 29 (by decide)) (show (N 29 : Int) = n29 from en29)
  have r46 : HID ((0 : Int) ≤ n31 ∧ n31 ≤ 1000000) := nrng (H.nle 31 (by decide)) (show (N 31 : Int) = n31 from en31)
  have r47 : HID ((0 : Int) ≤ n32 ∧ n32 ≤ 1000000) := nrng (H.nle 32 (by decide)) (show (N 32 : Int) = n32 from en32)
  have r48 : HID ((0 : Int) ≤ n33 ∧ n33 ≤ 1000000) := nrng (H.nle 33 (by decide)) (show (N 33 : Int) = n33 from en33)
  have r49 : HID ((0 : Int) ≤ n34 ∧ n34 ≤ 1000000) := nrng (H.nle 34 (by decide)) (show (N 34 : Int) = n34 from en34)
  have r50 : HID ((0 : Int) ≤ n35 ∧ n35 ≤ 1000000) := nrng (H.nle 35 (by decide)) (show (N 35 : Int) = n35 from en35)
  have r51 : HID ((0 : Int) ≤ n36 ∧ n36 ≤ 1000000) := nrng (H.nle 36 (by decide)) (show (N 36 : Int) = n36 from en36)
  have r52 : HID ((0 : Int) ≤ n37 ∧ n37 ≤ 1000000) := nrng (H.nle 37 (by decide)) (show (N 37 : Int) = n37 from en37)
  have r53 : HID ((0 : Int) ≤ n38 ∧ n38 ≤ 1000000) := nrng (H.nle 38 (by decide)) (show (N 38 : Int) = n38 from en38)
  have r54 : HID ((0 : Int) ≤ n40 ∧ n40 ≤ 1000000) := nrng (H.nle 40 (by decide)) (show (N 40 : Int) = n40 from en40)
  have r55 : HID ((0 : Int) ≤ n41 ∧ n41 ≤ 1000000) := nrng (H.nle 41 (by decide)) (show (N 41 : Int) = n41 from en41)
  have r56 : HID ((0 : Int) ≤ n42 ∧ n42 ≤ 1000000) := nrng (H.nle 42 (by decide)) (show (N 42 : Int) = n42 from en42)
  have r57 : HID ((0 : Int) ≤ n43 ∧ n43 ≤ 1000000) := nrng (H.nle 43 (by decide)) (show (N 43 : Int) = n43 from en43)
  have r58 : HID ((0 : Int) ≤ n44 ∧ n44 ≤ 1000000) := nrng (H.nle 44 (by decide)) (show (N 44 : Int) = n44 from en44)
  have r59 : HID ((0 : Int) ≤ n45 ∧ n45 ≤ 1000000) := nrng (H.nle 45 (by decide)) (show (N 45 : Int) = n45 from en45)
  have r60 : HID ((0 : Int) ≤ n46 ∧ n46 ≤ 1000000) := nrng (H.nle 46 (by decide)) (show (N 46 : Int) = n46 from en46)
  have r61 : HID ((0 : Int) ≤ n47 ∧ n47 ≤ 1000000) := nrng (H.nle 47 (by decide)) (show (N 47 : Int) = n47 from en47)
  have r62 : HID ((0 : Int) ≤ n49 ∧ n49 ≤ 1000000) := nrng (H.nle 49 (by decide)) (show (N 49 : Int) = n49 from en49)
  have r63 : HID ((0 : Int) ≤ n50 ∧ n50 ≤ 1000000) := nrng (H.nle 50 (by decide)) (show (N 50 : Int) = n50 from en50)
  have r64 : HID ((0 : Int) ≤ n51 ∧ n51 ≤ 1000000) := nrng (H.nle 51 (by decide)) (show (N 51 : Int) = n51 from en51)
  have r65 : HID ((0 : Int) ≤ n52 ∧ n52 ≤ 1000000) := nrng (H.nle 52 (by decide)) (show (N 52 : Int) = n52 from en52)
  have r66 : HID ((0 : Int) ≤ n53 ∧ n53 ≤ 1000000) := nrng (H.nle 53 (by decide)) (show (N 53 : Int) = n53 from en53)
  have r67 : HID ((0 : Int) ≤ n54 ∧ n54 ≤ 1000000) := nrng (H.nle 54 (by decide)) (show (N 54 : Int) = n54 from en54)
  have r68 : HID ((0 : Int) ≤ n55 ∧ n55 ≤ 1000000) := nrng (H.nle 55 (by decide)) (show (N 55 : Int) = n55 from en55)
  have r69 : HID ((0 : Int) ≤ n56 ∧ n56 ≤ 1000000) := nrng (H.nle 56 (by decide)) (show (N 56 : Int) = n56 from en56)
  have r70 : HID ((0 : Int) ≤ n58 ∧ n58 ≤ 1000000) := nrng (H.nle 58 (by decide)) (show (N 58 : Int) = n58 from en58)
  have r71 : HID ((0 : Int) ≤ n59 ∧ n59 ≤ 1000000) := nrng (H.nle 59 (by decide)) (show (N 59 : Int) = n59 from en59)
  have r72 : HID ((0 : Int) ≤ n60 ∧ n60 ≤ 1000000) := nrng (H.nle 60 (by decide)) (show (N 60 : Int) = n60 from en60)
  have r73 : HID ((0 : Int) ≤ n61 ∧ n61 ≤ 1000000) := nrng (H.nle 61 (by decide)) (show (N 61 : Int) = n61 from en61)
  have r74 : HID ((0 : Int) ≤ n62 ∧ n62 ≤ 1000000) := nrng (H.nle 62 (by decide)) (show (N 62 : Int) = n62 from en62)
  have r75 : HID ((0 : Int) ≤ n63 ∧ n63 ≤ 1000000) := nrng (H.nle 63 (by decide)) (show (N 63 : Int) = n63 from en63)
  have r76 : HID ((0 : Int) ≤ n64 ∧ n64 ≤ 1000000) := nrng (H.nle 64 (by decide)) (show (N 64 : Int) = n64 from en64)
  have r77 : HID ((0 : Int) ≤ n65 ∧ n65 ≤ 1000000) := nrng (H.nle 65 (by decide)) (show (N 65 : Int) = n65 from en65)
  have r78 : HID ((0 : Int) ≤ n67 ∧ n67 ≤ 1000000) := nrng (H.nle 67 (by decide)) (show (N 67 : Int) = n67 from en67)
  have r79 : HID ((0 : Int) ≤ n68 ∧ n68 ≤ 1000000) := nrng (H.nle 68 (by decide)) (show (N 68 : Int) = n68 from en68)
  have r80 : HID ((0 : Int) ≤ n69 ∧ n69 ≤ 1000000) := nrng (H.nle 69 (by decide)) (show (N 69 : Int) = n69 from en69)
  have r81 : HID ((0 : Int) ≤ n70 ∧ n70 ≤ 1000000) := nrng (H.nle 70 (by decide)) (show (N 70 : Int) = n70 from en70)
  have r82 : HID ((0 : Int) ≤ n71 ∧ n71 ≤ 1000000) := nrng (H.nle 71 (by decide)) (show (N 71 : Int) = n71 from en71)
  have r83 : HID ((0 : Int) ≤ n72 ∧ n72 ≤ 1000000) := nrng (H.nle 72 (by decide)) (show (N 72 : Int) = n72 from en72)
  have r84 : HID ((0 : Int) ≤ n73 ∧ n73 ≤ 1000000) := nrng (H.nle 73 (by decide)) (show (N 73 : Int) = n73 from en73)
  have r85 : HID ((0 : Int) ≤ n74 ∧ n74 ≤ 1000000) := nrng (H.nle 74 (by decide)) (show (N 74 : Int) = n74 from en74)
  have r86 : HID ((0 : Int) ≤ n77 ∧ n77 ≤ 1000000) := nrng (H.nle 77 (by decide)) (show (N 77 : Int) = n77 from en77)
  have r87 : HID ((0 : Int) ≤ n78 ∧ n78 ≤ 1000000) := nrng (H.nle 78 (by decide)) (show (N 78 : Int) = n78 from en78)
  have r88 : HID ((0 : Int) ≤ n79 ∧ n79 ≤ 1000000) := nrng (H.nle 79 (by decide)) (show (N 79 : Int) = n79 from en79)
  have r89 : HID ((0 : Int) ≤ n80 ∧ n80 ≤ 1000000) := nrng (H.nle 80 (by decide)) (show (N 80 : Int) = n80 from en80)
  have r90 : HID ((0 : Int) ≤ n81 ∧ n81 ≤ 1000000) := nrng (H.nle 81 (by decide)) (show (N 81 : Int) = n81 from en81)
  have r91 : HID ((0 : Int) ≤ n82 ∧ n82 ≤ 1000000) := nrng (H.nle 82 (by decide)) (show (N 82 : Int) = n82 from en82)
  have r92 : HID ((0 : Int) ≤ n83 ∧ n83 ≤ 1000000) := nrng (H.nle 83 (by decide)) (show (N 83 : Int) = n83 from en83)
  have r93 : HID ((0 : Int) ≤ n84 ∧ n84 ≤ 1000000) := nrng (H.nle 84 (by decide)) (show (N 84 : Int) = n84 from en84)
  have r94 : HID ((0 : Int) ≤ n86 ∧ n86 ≤ 1000000) := nrng (H.nle 86 (by decide)) (show (N 86 : Int) = n86 from en86)
  have r95 : HID ((0 : Int) ≤ n87 ∧ n87 ≤ 1000000) := nrng (H.nle 87 (by decide)) (show (N 87 : Int) = n87 from en87)
  have r96 : HID ((0 : Int) ≤ n88 ∧ n88 ≤ 1000000) := nrng (H.nle 88 (by decide)) (show (N 88 : Int) = n88 from en88)
  have r97 : HID ((0 : Int) ≤ n89 ∧ n89 ≤ 1000000) := nrng (H.nle 89 (by decide)) (show (N 89 : Int) = n89 from en89)
  have r98 : HID ((0 : Int) ≤ n90 ∧ n90 ≤ 1000000) := nrng (H.nle 90 (by decide)) (show (N 90 : Int) = n90 from en90)
  have r99 : HID ((0 : Int) ≤ n91 ∧ n91 ≤ 1000000) := nrng (H.nle 91 (by decide)) (show (N 91 : Int) = n91 from en91)
  have r100 : HID ((0 : Int) ≤ n92 ∧ n92 ≤ 1000000) := nrng (H.nle 92 (by decide)) (show (N 92 : Int) = n92 from en92)
  have r101 : HID ((0 : Int) ≤ n93 ∧ n93 ≤ 1000000) := nrng (H.nle 93 (by decide)) (show (N 93 : Int) = n93 from en93)
  have r102 : HID ((0 : Int) ≤ n95 ∧ n95 ≤ 1000000) := nrng (H.nle 95 (by decide)) (show (N 95 : Int) = n95 from en95)
  have r103 : HID ((0 : Int) ≤ n96 ∧ n96 ≤ 1000000) := nrng (H.nle 96 (by decide)) (show (N 96 : Int) = n96 from en96)
  have r104 : HID ((0 : Int) ≤ n97 ∧ n97 ≤ 1000000) := nrng (H.nle 97 (by decide)) (show (N 97 : Int) = n97 from en97)
  have r105 : HID ((0 : Int) ≤ n98 ∧ n98 ≤ 1000000) := nrng (H.nle 98 (by decide)) (show (N 98 : Int) = n98 from en98)
  have r106 : HID ((0 : Int) ≤ n99 ∧ n99 ≤ 1000000) := nrng (H.nle 99 (by decide)) (show (N 99 : Int) = n99 from en99)
  have r107 : HID ((0 : Int) ≤ n100 ∧ n100 ≤ 1000000) := nrng (H.nle 100 (by decide)) (show (N 100 : Int) = n100 from en100)
  have r108 : HID ((0 : Int) ≤ n101 ∧ n101 ≤ 1000000) := nrng (H.nle 101 (by decide)) (show (N 101 : Int) = n101 from en101)
  have r109 : HID ((0 : Int) ≤ n102 ∧ n102 ≤ 1000000) := nrng (H.nle 102 (by decide)) (show (N 102 : Int) = n102 from en102)
  have r110 : HID ((0 : Int) ≤ n104 ∧ n104 ≤ 1000000) := nrng (H.nle 104 (by decide)) (show (N 104 : Int) = n104 from en104)
  have r111 : HID ((0 : Int) ≤ n105 ∧ n105 ≤ 1000000) := nrng (H.nle 105 (by decide)) (show (N 105 : Int) = n105 from en105)
  have r112 : HID ((0 : Int) ≤ n106 ∧ n106 ≤ 1000000) := nrng (H.nle 106 (by decide)) (show (N 106 : Int) = n106 from en106)
  have r113 : HID ((0 : Int) ≤ n107 ∧ n107 ≤ 1000000) := nrng (H.nle 107 (by decide)) (show (N 107 : Int) = n107 from en107)
  have r114 : HID ((0 : Int) ≤ n108 ∧ n108 ≤ 1000000) := nrng (H.nle 108 (by decide)) (show (N 108 : Int) = n108 from en108)
  have r115 : HID ((0 : Int) ≤ n109 ∧ n109 ≤ 1000000) := nrng (H.nle 109 (by decide)) (show (N 109 : Int) = n109 from en109)
  have r116 : HID ((0 : Int) ≤ n110 ∧ n110 ≤ 1000000) := nrng (H.nle 110 (by decide)) (show (N 110 : Int) = n110 from en110)
  have r117 : HID ((0 : Int) ≤ n111 ∧ n111 ≤ 1000000) := nrng (H.nle 111 (by decide)) (show (N 111 : Int) = n111 from en111)
  have r118 : HID ((0 : Int) ≤ n113 ∧ n113 ≤ 1000000) := nrng (H.nle 113 (by decide)) (show (N 113 : Int) = n113 from en113)
  have r119 : HID ((0 : Int) ≤ n114 ∧ n114 ≤ 1000000) := nrng (H.nle 114 (by decide)) (show (N 114 : Int) = n114 from en114)
  have r120 : HID ((0 : Int) ≤ n115 ∧ n115 ≤ 1000000) := nrng (H.nle 115 (by decide)) (show (N 115 : Int) = n115 from en115)
  have r121 : HID ((0 : Int) ≤ n116 ∧ n116 ≤ 1000000) := nrng (H.nle 116 (by decide)) (show (N 116 : Int) = n116 from en116)
  have r122 : HID ((0 : Int) ≤ n117 ∧ n117 ≤ 1000000) := nrng (H.nle 117 (by decide)) (show (N 117 : Int) = n117 from en117)
  have r123 : HID ((0 : Int) ≤ n118 ∧ n118 ≤ 1000000) := nrng (H.nle 118 (by decide)) (show (N 118 : Int) = n118 from en118)
  have r124 : HID ((0 : Int) ≤ n119 ∧ n119 ≤ 1000000) := nrng (H.nle 119 (by decide)) (show (N 119 : Int) = n119 from en119)
  have r125 : HID ((0 : Int) ≤ n120 ∧ n120 ≤ 1000000) := nrng (H.nle 120 (by decide)) (show (N 120 : Int) = n120 from en120)
  have r126 : HID ((0 : Int) ≤ n122 ∧ n122 ≤ 1000000) := nrng (H.nle 122 (by decide)) (show (N 122 : Int) = n122 from en122)
  refine Ew_of (pc' := 161) (fun _ => x_aload_n rfl hl1) ?_
  refine Ew_of (pc' := 162) (fun _ => x_aload_n rfl hl0) ?_
  refine v_g H (o := 0) (v := .ref (D 4)) rfl rfl rfl rfl rfl (vrf (pf4)) ?_
  refine Ew_of (pc' := 166) (fun _ => x_iload_n rfl hl3) ?_
  refine Ew_of (pc' := 167) (fun _ => x_aload_n rfl hl0) ?_
  refine v_g H (o := 0) (v := .ref (D 6)) rfl rfl rfl rfl rfl (vrf (pf6)) ?_
  refine Ew_of (pc' := 172) (fun _ => x_aload rfl hl4) ?_
  have r127 : HID ((-2147483648 : Int) ≤ F 9 21 ∧ F 9 21 ≤ 2147483647) := krg_e (show (-2147483648 : Int) ≤ F 9 21 ∧ F 9 21 ≤ 2147483647 from H.krg 9 21 (by decide)) (show F 9 21 = F 9 21 from rfl)
  have r128 : HID ((0 : Int) ≤ n75 ∧ n75 ≤ 1000000) := nrng (H.nle 75 (by decide)) (show (N 75 : Int) = n75 from en75)
  have r129 : HID ((0 : Int) ≤ n123 ∧ n123 ≤ 1000000) := nrng (H.nle 123 (by decide)) (show (N 123 : Int) = n123 from en123)
  refine v_inv H (o := 9) rfl rfl rfl rfl rfl rfl (by rfl) (C233_Row_Row_Dictionary_Ir_vd (D := pul [9, 1, 4, 6, 2, 3, 5, 7, 8, 10, 11, 12, 13, 14, 15, 16, 17, 18, 19, 20, 21, 22, 23, 24, 25, 26, 27, 28, 29, 30, 31, 32, 33, 34, 35, 36, 37, 38, 39, 40, 41, 42, 43, 44, 45, 46, 47, 48, 49, 50, 51, 52, 53, 54, 55, 56, 57, 58, 59, 60, 61, 62, 63, 64, 65, 66, 67, 68, 69, 70, 71, 72, 73, 74, 75, 76, 77, 78, 79, 80, 81, 82, 83, 84, 85, 86, 87, 88, 89, 90, 91, 92, 93, 94, 95, 96, 97, 98, 99, 100, 101, 102, 103, 104, 105, 106, 107, 108, 109, 110, 111, 112, 113, 114, 115, 116, 117, 118, 119, 120, 121, 122, 123, 124, 125, 126] D) (N := pul [9, 1, 4, 6, 2, 3, 5, 7, 8, 10, 11, 12, 13, 14, 15, 16, 17, 18, 19, 20, 21, 22, 23, 24, 25, 26, 27, 28, 29, 30, 31, 32, 33, 34, 35, 36, 37, 38, 39, 40, 41, 42, 43, 44, 45, 46, 47, 48, 49, 50, 51, 52, 53, 54, 55, 56, 57, 58, 59, 60, 61, 62, 63, 64, 65, 66, 67, 68, 69, 70, 71, 72, 73, 74, 75, 76, 77, 78, 79, 80, 81, 82, 83, 84, 85, 86, 87, 88, 89, 90, 91, 92, 93, 94, 95, 96, 97, 98, 99, 100, 101, 102, 103, 104, 105, 106, 107, 108, 109, 110, 111, 112, 113, 114, 115, 116, 117, 118, 119, 120, 121, 122, 123, 124, 125, 126] N) (HW_sub H (VS_of (show vsub V32_Row_Ir_vb4d V233_Row_Row_Dictionary_Ir_vd [9, 1, 4, 6, 2, 3, 5, 7, 8, 10, 11, 12, 13, 14, 15, 16, 17, 18, 19, 20, 21, 22, 23, 24, 25, 26, 27, 28, 29, 30, 31, 32, 33, 34, 35, 36, 37, 38, 39, 40, 41, 42, 43, 44, 45, 46, 47, 48, 49, 50, 51, 52, 53, 54, 55, 56, 57, 58, 59, 60, 61, 62, 63, 64, 65, 66, 67, 68, 69, 70, 71, 72, 73, 74, 75, 76, 77, 78, 79, 80, 81, 82, 83, 84, 85, 86, 87, 88, 89, 90, 91, 92, 93, 94, 95, 96, 97, 98, 99, 100, 101, 102, 103, 104, 105, 106, 107, 108, 109, 110, 111, 112, 113, 114, 115, 116, 117, 118, 119, 120, 121, 122, 123, 124, 125, 126] = true by decide +kernel))) (STC_out HT HE O) (pf3) (pf5) (pf7) (pf8) (pf10) (pf11) (pf12) (pf13) (pf14) (pf15) (pf16) (pf17) (pf18) (pf19) (pf20) (pf21) (pf22) (pf23) (pf24) (pf25) (pf26) (pf27) (pf28) (pf29) (pf30) (pf31) (pf32) (pf33) (pf34) (pf35) (pf36) (pf37) (pf38) (pf39) (pf40) (pf41) (pf42) (pf43) (pf44) (pf45) (pf46) (pf47) (pf48) (pf49) (pf50) (pf51) (pf52) (pf53) (pf54) (pf55) (pf56) (pf57) (pf58) (pf59) (pf60) (pf61) (pf62) (pf63) (pf64) (pf65) (pf66) (pf67) (pf68) (pf69) (pf70) (pf71) (pf72) (pf73) (pf74) (pf75) (pf76) (pf77) (pf78) (pf79) (pf80) (pf81) (pf82) (pf83) (pf84) (pf85) (pf86) (pf87) (pf88) (pf89) (pf90) (pf91) (pf92) (pf93) (pf94) (pf95) (pf96) (pf97) (pf98) (pf99) (pf100) (pf101) (pf102) (pf103) (pf104) (pf105) (pf106) (pf107) (pf108) (pf109) (pf110) (pf111) (pf112) (pf113) (pf114) (pf115) (pf116) (pf117) (pf118) (pf119) (pf120) (pf121) (pf122) (pf123) (pf124) (pf125) (pf126) (n2) (en2) (n3) (en3) (n5) (en5) (n8) (en8) (n11) (en11) (n13) (en13) (n14) (en14) (n15) (en15) (n16) (en16) (n17) (en17) (n19) (en19) (n20) (en20) (n22) (en22) (n23) (en23) (n24) (en24) (n25) (en25) (n26) (en26) (n27) (en27) (n28) (en28) (n29) (en29) (n31) (en31) (n32) (en32) (n33) (en33) (n34) (en34) (n35) (en35) (n36) (en36) (n37) (en37) (n38) (en38) (n40) (en40) (n41) (en41) (n42) (en42) (n43) (en43) (n44) (en44) (n45) (en45) (n46) (en46) (n47) (en47) (n49) (en49) (n50) (en50) (n51) (en51) (n52) (en52) (n53) (en53) (n54) (en54) (n55) (en55) (n56) (en56) (n58) (en58) (n59) (en59) (n60) (en60) (n61) (en61) (n62) (en62) (n63) (en63) (n64) (en64) (n65) (en65) (n67) (en67) (n68) (en68) (n69) (en69) (n70) (en70) (n71) (en71) (n72) (en72) (n73) (en73) (n74) (en74) (n75) (en75) (n77) (en77) (n78) (en78) (n79) (en79) (n80) (en80) (n81) (en81) (n82) (en82) (n83) (en83) (n84) (en84) (n86) (en86) (n87) (en87) (n88) (en88) (n89) (en89) (n90) (en90) (n91) (en91) (n92) (en92) (n93) (en93) (n95) (en95) (n96) (en96) (n97) (en97) (n98) (en98) (n99) (en99) (n100) (en100) (n101) (en101) (n102) (en102) (n104) (en104) (n105) (en105) (n106) (en106) (n107) (en107) (n108) (en108) (n109) (en109) (n110) (en110) (n111) (en111) (n113) (en113) (n114) (en114) (n115) (en115) (n116) (en116) (n117) (en117) (n118) (en118) (n119) (en119) (n120) (en120) (n122) (en122) (n123) (en123) (u9_15) ((eu9_15)) (F 9 21) (rfl) (u1_1) ((eu1_1)) (u4_1) ((eu4_1)) (u4_2) ((eu4_2)) (u6_2) ((eu6_2)) (u7_1) ((eu7_1)) (u10_1) ((eu10_1)) (u18_0) ((eu18_0)) (u21_0) ((eu21_0)) (u21_1) ((eu21_1)) (u30_0) ((eu30_0)) (u30_1) ((eu30_1)) (u39_0) ((eu39_0)) (u39_1) ((eu39_1)) (u48_1) ((eu48_1)) (u57_1) ((eu57_1)) (u66_1) ((eu66_1)) (u76_0) ((eu76_0)) (u76_1) ((eu76_1)) (u85_0) ((eu85_0)) (u85_1) ((eu85_1)) (u94_0) ((eu94_0)) (u94_1) ((eu94_1)) (u112_1) ((eu112_1)) (u121_3) ((eu121_3)) (w2) (ew2) (w3) (ew3) (w5) (ew5) (w8) (ew8) (w19) (ew19) (w20) (ew20) (w22) (ew22) (w23) (ew23) (w24) (ew24) (w25) (ew25) (w26) (ew26) (w27) (ew27) (w28) (ew28) (w31) (ew31) (w32) (ew32) (w33) (ew33) (w34) (ew34) (w35) (ew35) (w36) (ew36) (w37) (ew37) (w40) (ew40) (w41) (ew41) (w42) (ew42) (w43) (ew43) (w44) (ew44) (w45) (ew45) (w46) (ew46) (w77) (ew77) (w78) (ew78) (w79) (ew79) (w80) (ew80) (w82) (ew82) (w83) (ew83) (w84) (ew84) (w86) (ew86) (w87) (ew87) (w88) (ew88) (w89) (ew89) (w91) (ew91) (w92) (ew92) (w93) (ew93) (w95) (ew95) (w96) (ew96) (w97) (ew97) (w98) (ew98) (w100) (ew100) (w101) (ew101) (w102) (ew102) (w106) (ew106) (w122) (ew122) (w123) (ew123) (Dc) (show inr (x3) by omega) (show 0 ≤ (u1_1) ∧ (u1_1) ≤ (n3) ∧ (n3) ≤ 65536 by have qh0 := HIDe r2; have qh1 := HIDe r27; omega) (show 0 ≤ (u4_1) ∧ (u4_1) ≤ (n5) ∧ (n5) ≤ 65536 by have qh0 := HIDe r28; have qh1 := HIDe r3; omega) (show 0 ≤ (u7_1) ∧ (u7_1) ≤ (n8) ∧ (n8) ≤ 65536 by have qh0 := HIDe r29; have qh1 := HIDe r6; omega) (show 0 ≤ (x3) ∧ (x3) ≤ 65536 by omega) (show (u4_1) ≤ (x3) by have qh0 := HIDe r3; omega) (show 0 ≤ (u9_15) by have qh0 := HIDe r7; omega) (show 0 ≤ (u10_1) ∧ (u10_1) ≤ (n11) ∧ (n11) ≤ 65536 by have qh0 := HIDe r30; have qh1 := HIDe r8; omega) (show (n2) = 5 ∧ (n13) = 3 ∧ (n14) = 3 ∧ (n15) = 3 ∧ (n16) = 3 ∧ (n17) = 3 ∧ (n19) = 3 ∧ (n20) = 3 by have qh0 := HIDe r26; have qh1 := HIDe r31; have qh2 := HIDe r32; have qh3 := HIDe r33; have qh4 := HIDe r34; have qh5 := HIDe r35; have qh6 := HIDe r36; have qh7 := HIDe r37; omega) (by assumption) (by assumption) (show (u21_1) ≤ 36 by have qh0 := HIDe r10; omega) (by assumption) (by assumption) (show (u30_1) ≤ 32 by have qh0 := HIDe r12; omega) (by assumption) (by assumption) (show (u39_1) ≤ 53 by have qh0 := HIDe r14; omega) (by assumption) (by assumption) (by assumption) (by assumption) (by assumption) (by assumption) (by assumption) (by assumption) (show (n122) = 2048 by have qh0 := HIDe r126; omega) (show CEL ((w106)) by assumption) (show CEL ((w122)) by assumption) (by assumption) (show HID ((u18_0) = -1 ∨ LNG ((w123)) ((u121_3))) by assumption) (show HID (((w19)) 0 = -1 ∨ ((w19)) 0 = (((D 76 : Nat) : Int))) by assumption) (show HID (((w19)) 1 = -1 ∨ ((w19)) 1 = (((D 85 : Nat) : Int))) by assumption) (show HID (((w19)) 2 = -1 ∨ ((w19)) 2 = (((D 94 : Nat) : Int))) by assumption) (by assumption) (by assumption) (by assumption) (show HID (((w19)) 0 = -1 ∨ (u76_0) ≤ 9) by assumption) (show HID (((w19)) 1 = -1 ∨ (u85_0) ≤ 8) by assumption) (show HID (((w19)) 2 = -1 ∨ (u94_0) ≤ 9) by assumption) (show (u4_1) = 0 by have qh0 := HIDe r3; omega) (show (u4_2) = 0 by have qh0 := HIDe r4; omega) (show 1 ≤ ((w20)) 0 ∧ 1 ≤ ((w20)) 1 ∧ 1 ≤ ((w20)) 2 by omega) (show SHX (KNX 0) ((u21_0)) ((u21_1)) ((w22)) by assumption) (show SHX (KNX 1) ((u30_0)) ((u30_1)) ((w31)) by assumption) (show SHX (KNX 2) ((u39_0)) ((u39_1)) ((w40)) by assumption) (show DCK (Dc) (sc ((w8)) 0 ((u7_1))) ((u6_2)) ((w20)) by assumption) (show DCQ (Dc).2.2.1 ((u18_0)) ((u121_3)) ((w122)) by assumption) (by assumption) (by assumption) (by assumption) (fun z130 σ130 D130' N130' F130' A130' c130 s130 H' O' hD130 hN130 hS130 hA130 pm130_6 pm130_10 m130_6 em130_6 m130_10 em130_10 y130_0_15 ey130_0_15 y130_0_21 ey130_0_21 y130_2_1 ey130_2_1 y130_2_2 ey130_2_2 y130_9_1 ey130_9_1 w130_4 ew130_4 w130_6 ew130_6 w130_105 ew130_105 pz130_0 pz130_1 pz130_2 pz130_3 pz130_4 pz130_5 pz130_6 pz130_7 pz130_8 pz130_9 pz130_10 pz130_11 => ⟨rfl, ?_⟩))
  replace pm130_6 := HIDm pm130_6
  replace pm130_10 := HIDm pm130_10
  replace em130_6 := HIDm em130_6
  replace em130_10 := HIDm em130_10
  replace ey130_0_15 := HIDm ey130_0_15
  replace ey130_0_21 := HIDm ey130_0_21
  replace ey130_2_1 := HIDm ey130_2_1
  replace ey130_2_2 := HIDm ey130_2_2
  replace ey130_9_1 := HIDm ey130_9_1
  refine v_backM (c := c) (s := s) H (show vsub V32_Row_Ir_vb4d V233_Row_Row_Dictionary_Ir_vd [9, 1, 4, 6, 2, 3, 5, 7, 8, 10, 11, 12, 13, 14, 15, 16, 17, 18, 19, 20, 21, 22, 23, 24, 25, 26, 27, 28, 29, 30, 31, 32, 33, 34, 35, 36, 37, 38, 39, 40, 41, 42, 43, 44, 45, 46, 47, 48, 49, 50, 51, 52, 53, 54, 55, 56, 57, 58, 59, 60, 61, 62, 63, 64, 65, 66, 67, 68, 69, 70, 71, 72, 73, 74, 75, 76, 77, 78, 79, 80, 81, 82, 83, 84, 85, 86, 87, 88, 89, 90, 91, 92, 93, 94, 95, 96, 97, 98, 99, 100, 101, 102, 103, 104, 105, 106, 107, 108, 109, 110, 111, 112, 113, 114, 115, 116, 117, 118, 119, 120, 121, 122, 123, 124, 125, 126] = true by decide +kernel) H' O' hD130 (show vmov V32_Row_Ir_vb4d [9, 1, 4, 6, 2, 3, 5, 7, 8, 10, 11, 12, 13, 14, 15, 16, 17, 18, 19, 20, 21, 22, 23, 24, 25, 26, 27, 28, 29, 30, 31, 32, 33, 34, 35, 36, 37, 38, 39, 40, 41, 42, 43, 44, 45, 46, 47, 48, 49, 50, 51, 52, 53, 54, 55, 56, 57, 58, 59, 60, 61, 62, 63, 64, 65, 66, 67, 68, 69, 70, 71, 72, 73, 74, 75, 76, 77, 78, 79, 80, 81, 82, 83, 84, 85, 86, 87, 88, 89, 90, 91, 92, 93, 94, 95, 96, 97, 98, 99, 100, 101, 102, 103, 104, 105, 106, 107, 108, 109, 110, 111, 112, 113, 114, 115, 116, 117, 118, 119, 120, 121, 122, 123, 124, 125, 126] [6, 10] = true by decide +kernel) (fun D130 N130 F130 A130 H O' eD130 eN130 eF130 eA130 => ?_)
  have O := OUT_trans O O'
  -- Unpacker.unpackFrames
  have pe130_16_0 : HID (A130 16 0 = (D130 21 : Int)) := (congrFun ((show A130 16 = A 16 from (eA130 16).trans (funext (hA130 15 rfl)))) 0).trans ((pf21).trans (congrArg (fun q : Nat => (q : Int)) ((show D130 21 = D 21 from (eD130 21).trans (hD130 20 rfl))).symm))
  have pe130_16_1 : HID (A130 16 1 = (D130 30 : Int)) := (congrFun ((show A130 16 = A 16 from (eA130 16).trans (funext (hA130 15 rfl)))) 1).trans ((pf30).trans (congrArg (fun q : Nat => (q : Int)) ((show D130 30 = D 30 from (eD130 30).trans (hD130 29 rfl))).symm))
  have pe130_16_2 : HID (A130 16 2 = (D130 39 : Int)) := (congrFun ((show A130 16 = A 16 from (eA130 16).trans (funext (hA130 15 rfl)))) 2).trans ((pf39).trans (congrArg (fun q : Nat => (q : Int)) ((show D130 39 = D 39 from (eD130 39).trans (hD130 38 rfl))).symm))
  have pe130_17_0 : HID (A130 17 0 = (D130 48 : Int)) := (congrFun ((show A130 17 = A 17 from (eA130 17).trans (funext (hA130 16 rfl)))) 0).trans ((pf48).trans (congrArg (fun q : Nat => (q : Int)) ((show D130 48 = D 48 from (eD130 48).trans (hD130 47 rfl))).symm))
  have pe130_17_1 : HID (A130 17 1 = (D130 57 : Int)) := (congrFun ((show A130 17 = A 17 from (eA130 17).trans (funext (hA130 16 rfl)))) 1).trans ((pf57).trans (congrArg (fun q : Nat => (q : Int)) ((show D130 57 = D 57 from (eD130 57).trans (hD130 56 rfl))).symm))
  have pe130_17_2 : HID (A130 17 2 = (D130 66 : Int)) := (congrFun ((show A130 17 = A 17 from (eA130 17).trans (funext (hA130 16 rfl)))) 2).trans ((pf66).trans (congrArg (fun q : Nat => (q : Int)) ((show D130 66 = D 66 from (eD130 66).trans (hD130 65 rfl))).symm))
  have pe130_75_0 : HID (A130 75 0 = (D130 76 : Int)) := (congrFun ((show A130 75 = A 75 from (eA130 75).trans (funext (hA130 74 rfl)))) 0).trans ((pf76).trans (congrArg (fun q : Nat => (q : Int)) ((show D130 76 = D 76 from (eD130 76).trans (hD130 75 rfl))).symm))
  have pe130_75_1 : HID (A130 75 1 = (D130 85 : Int)) := (congrFun ((show A130 75 = A 75 from (eA130 75).trans (funext (hA130 74 rfl)))) 1).trans ((pf85).trans (congrArg (fun q : Nat => (q : Int)) ((show D130 85 = D 85 from (eD130 85).trans (hD130 84 rfl))).symm))
  have pe130_75_2 : HID (A130 75 2 = (D130 94 : Int)) := (congrFun ((show A130 75 = A 75 from (eA130 75).trans (funext (hA130 74 rfl)))) 2).trans ((pf94).trans (congrArg (fun q : Nat => (q : Int)) ((show D130 94 = D 94 from (eD130 94).trans (hD130 93 rfl))).symm))
  have pf130_0_12 : HID (F130 0 12 = (D130 9 : Int)) := ((show F130 0 12 = F 0 12 from (eF130 0 12))).trans ((pf9).trans (congrArg (fun q : Nat => (q : Int)) ((show D130 9 = D 9 from (eD130 9).trans (hD130 0 rfl))).symm))
  have pf130_0_3 : HID (F130 0 3 = (D130 6 : Int)) := ((show F130 0 3 = F 0 3 from (eF130 0 3))).trans ((pf6).trans (congrArg (fun q : Nat => (q : Int)) ((show D130 6 = D 6 from (eD130 6).trans (hD130 3 rfl))).symm))
  have pf130_0_6 : HID (F130 0 6 = (D130 4 : Int)) := ((show F130 0 6 = F 0 6 from (eF130 0 6))).trans ((pf4).trans (congrArg (fun q : Nat => (q : Int)) ((show D130 4 = D 4 from (eD130 4).trans (hD130 2 rfl))).symm))
  have pf130_1_0 : HID (F130 1 0 = (D130 3 : Int)) := ((show F130 1 0 = F 1 0 from (eF130 1 0).trans (hS130 1 0 rfl))).trans ((pf3).trans (congrArg (fun q : Nat => (q : Int)) ((show D130 3 = D 3 from (eD130 3).trans (hD130 5 rfl))).symm))
  have pf130_10_0 : HID (F130 10 0 = (D130 11 : Int)) := (eF130 10 0).trans (pm130_10.trans (congrArg (fun q : Nat => (q : Int)) (eD130 11).symm))
  have pf130_103_0 : HID (F130 103 0 = (D130 104 : Int)) := ((show F130 103 0 = F 103 0 from (eF130 103 0).trans (hS130 102 0 rfl))).trans ((pf104).trans (congrArg (fun q : Nat => (q : Int)) ((show D130 104 = D 104 from (eD130 104).trans (hD130 103 rfl))).symm))
  have pf130_103_1 : HID (F130 103 1 = (D130 105 : Int)) := ((show F130 103 1 = F 103 1 from (eF130 103 1).trans (hS130 102 1 rfl))).trans ((pf105).trans (congrArg (fun q : Nat => (q : Int)) ((show D130 105 = D 105 from (eD130 105).trans (hD130 104 rfl))).symm))
  have pf130_103_10 : HID (F130 103 10 = (D130 109 : Int)) := ((show F130 103 10 = F 103 10 from (eF130 103 10).trans (hS130 102 10 rfl))).trans ((pf109).trans (congrArg (fun q : Nat => (q : Int)) ((show D130 109 = D 109 from (eD130 109).trans (hD130 108 rfl))).symm))
  have pf130_103_11 : HID (F130 103 11 = (D130 110 : Int)) := ((show F130 103 11 = F 103 11 from (eF130 103 11).trans (hS130 102 11 rfl))).trans ((pf110).trans (congrArg (fun q : Nat => (q : Int)) ((show D130 110 = D 110 from (eD130 110).trans (hD130 109 rfl))).symm))
  have pf130_103_12 : HID (F130 103 12 = (D130 111 : Int)) := ((show F130 103 12 = F 103 12 from (eF130 103 12).trans (hS130 102 12 rfl))).trans ((pf111).trans (congrArg (fun q : Nat => (q : Int)) ((show D130 111 = D 111 from (eD130 111).trans (hD130 110 rfl))).symm))
  have pf130_103_2 : HID (F130 103 2 = (D130 106 : Int)) := ((show F130 103 2 = F 103 2 from (eF130 103 2).trans (hS130 102 2 rfl))).trans ((pf106).trans (congrArg (fun q : Nat => (q : Int)) ((show D130 106 = D 106 from (eD130 106).trans (hD130 105 rfl))).symm))
  have pf130_103_4 : HID (F130 103 4 = (D130 107 : Int)) := ((show F130 103 4 = F 103 4 from (eF130 103 4).trans (hS130 102 4 rfl))).trans ((pf107).trans (congrArg (fun q : Nat => (q : Int)) ((show D130 107 = D 107 from (eD130 107).trans (hD130 106 rfl))).symm))
  have pf130_103_5 : HID (F130 103 5 = (D130 108 : Int)) := ((show F130 103 5 = F 103 5 from (eF130 103 5).trans (hS130 102 5 rfl))).trans ((pf108).trans (congrArg (fun q : Nat => (q : Int)) ((show D130 108 = D 108 from (eD130 108).trans (hD130 107 rfl))).symm))
  have pf130_103_6 : HID (F130 103 6 = (D130 112 : Int)) := ((show F130 103 6 = F 103 6 from (eF130 103 6).trans (hS130 102 6 rfl))).trans ((pf112).trans (congrArg (fun q : Nat => (q : Int)) ((show D130 112 = D 112 from (eD130 112).trans (hD130 111 rfl))).symm))
  have pf130_103_9 : HID (F130 103 9 = (D130 124 : Int)) := ((show F130 103 9 = F 103 9 from (eF130 103 9).trans (hS130 102 9 rfl))).trans ((pf124).trans (congrArg (fun q : Nat => (q : Int)) ((show D130 124 = D 124 from (eD130 124).trans (hD130 123 rfl))).symm))
  have pf130_112_2 : HID (F130 112 2 = (D130 113 : Int)) := ((show F130 112 2 = F 112 2 from (eF130 112 2).trans (hS130 111 2 rfl))).trans ((pf113).trans (congrArg (fun q : Nat => (q : Int)) ((show D130 113 = D 113 from (eD130 113).trans (hD130 112 rfl))).symm))
  have pf130_112_3 : HID (F130 112 3 = (D130 114 : Int)) := ((show F130 112 3 = F 112 3 from (eF130 112 3).trans (hS130 111 3 rfl))).trans ((pf114).trans (congrArg (fun q : Nat => (q : Int)) ((show D130 114 = D 114 from (eD130 114).trans (hD130 113 rfl))).symm))
  have pf130_112_4 : HID (F130 112 4 = (D130 115 : Int)) := ((show F130 112 4 = F 112 4 from (eF130 112 4).trans (hS130 111 4 rfl))).trans ((pf115).trans (congrArg (fun q : Nat => (q : Int)) ((show D130 115 = D 115 from (eD130 115).trans (hD130 114 rfl))).symm))
  have pf130_112_5 : HID (F130 112 5 = (D130 116 : Int)) := ((show F130 112 5 = F 112 5 from (eF130 112 5).trans (hS130 111 5 rfl))).trans ((pf116).trans (congrArg (fun q : Nat => (q : Int)) ((show D130 116 = D 116 from (eD130 116).trans (hD130 115 rfl))).symm))
  have pf130_112_6 : HID (F130 112 6 = (D130 117 : Int)) := ((show F130 112 6 = F 112 6 from (eF130 112 6).trans (hS130 111 6 rfl))).trans ((pf117).trans (congrArg (fun q : Nat => (q : Int)) ((show D130 117 = D 117 from (eD130 117).trans (hD130 116 rfl))).symm))
  have pf130_112_7 : HID (F130 112 7 = (D130 118 : Int)) := ((show F130 112 7 = F 112 7 from (eF130 112 7).trans (hS130 111 7 rfl))).trans ((pf118).trans (congrArg (fun q : Nat => (q : Int)) ((show D130 118 = D 118 from (eD130 118).trans (hD130 117 rfl))).symm))
  have pf130_112_8 : HID (F130 112 8 = (D130 119 : Int)) := ((show F130 112 8 = F 112 8 from (eF130 112 8).trans (hS130 111 8 rfl))).trans ((pf119).trans (congrArg (fun q : Nat => (q : Int)) ((show D130 119 = D 119 from (eD130 119).trans (hD130 118 rfl))).symm))
  have pf130_112_9 : HID (F130 112 9 = (D130 120 : Int)) := ((show F130 112 9 = F 112 9 from (eF130 112 9).trans (hS130 111 9 rfl))).trans ((pf120).trans (congrArg (fun q : Nat => (q : Int)) ((show D130 120 = D 120 from (eD130 120).trans (hD130 119 rfl))).symm))
  have pf130_12_1 : HID (F130 12 1 = (D130 15 : Int)) := ((show F130 12 1 = F 12 1 from (eF130 12 1).trans (hS130 11 1 rfl))).trans ((pf15).trans (congrArg (fun q : Nat => (q : Int)) ((show D130 15 = D 15 from (eD130 15).trans (hD130 14 rfl))).symm))
  have pf130_12_2 : HID (F130 12 2 = (D130 13 : Int)) := ((show F130 12 2 = F 12 2 from (eF130 12 2).trans (hS130 11 2 rfl))).trans ((pf13).trans (congrArg (fun q : Nat => (q : Int)) ((show D130 13 = D 13 from (eD130 13).trans (hD130 12 rfl))).symm))
  have pf130_121_0 : HID (F130 121 0 = (D130 123 : Int)) := ((show F130 121 0 = F 121 0 from (eF130 121 0).trans (hS130 120 0 rfl))).trans ((pf123).trans (congrArg (fun q : Nat => (q : Int)) ((show D130 123 = D 123 from (eD130 123).trans (hD130 122 rfl))).symm))
  have pf130_121_2 : HID (F130 121 2 = (D130 122 : Int)) := ((show F130 121 2 = F 121 2 from (eF130 121 2).trans (hS130 120 2 rfl))).trans ((pf122).trans (congrArg (fun q : Nat => (q : Int)) ((show D130 122 = D 122 from (eD130 122).trans (hD130 121 rfl))).symm))
  have pf130_121_9 : HID (F130 121 9 = (D130 125 : Int)) := ((show F130 121 9 = F 121 9 from (eF130 121 9).trans (hS130 120 9 rfl))).trans ((pf125).trans (congrArg (fun q : Nat => (q : Int)) ((show D130 125 = D 125 from (eD130 125).trans (hD130 124 rfl))).symm))
  have pf130_18_1 : HID (F130 18 1 = (D130 19 : Int)) := ((show F130 18 1 = F 18 1 from (eF130 18 1).trans (hS130 17 1 rfl))).trans ((pf19).trans (congrArg (fun q : Nat => (q : Int)) ((show D130 19 = D 19 from (eD130 19).trans (hD130 18 rfl))).symm))
  have pf130_18_2 : HID (F130 18 2 = (D130 20 : Int)) := ((show F130 18 2 = F 18 2 from (eF130 18 2).trans (hS130 17 2 rfl))).trans ((pf20).trans (congrArg (fun q : Nat => (q : Int)) ((show D130 20 = D 20 from (eD130 20).trans (hD130 19 rfl))).symm))
  have pf130_21_2 : HID (F130 21 2 = (D130 22 : Int)) := ((show F130 21 2 = F 21 2 from (eF130 21 2).trans (hS130 20 2 rfl))).trans ((pf22).trans (congrArg (fun q : Nat => (q : Int)) ((show D130 22 = D 22 from (eD130 22).trans (hD130 21 rfl))).symm))
  have pf130_21_3 : HID (F130 21 3 = (D130 23 : Int)) := ((show F130 21 3 = F 21 3 from (eF130 21 3).trans (hS130 20 3 rfl))).trans ((pf23).trans (congrArg (fun q : Nat => (q : Int)) ((show D130 23 = D 23 from (eD130 23).trans (hD130 22 rfl))).symm))
  have pf130_21_4 : HID (F130 21 4 = (D130 24 : Int)) := ((show F130 21 4 = F 21 4 from (eF130 21 4).trans (hS130 20 4 rfl))).trans ((pf24).trans (congrArg (fun q : Nat => (q : Int)) ((show D130 24 = D 24 from (eD130 24).trans (hD130 23 rfl))).symm))
  have pf130_21_5 : HID (F130 21 5 = (D130 25 : Int)) := ((show F130 21 5 = F 21 5 from (eF130 21 5).trans (hS130 20 5 rfl))).trans ((pf25).trans (congrArg (fun q : Nat => (q : Int)) ((show D130 25 = D 25 from (eD130 25).trans (hD130 24 rfl))).symm))
  have pf130_21_6 : HID (F130 21 6 = (D130 29 : Int)) := ((show F130 21 6 = F 21 6 from (eF130 21 6).trans (hS130 20 6 rfl))).trans ((pf29).trans (congrArg (fun q : Nat => (q : Int)) ((show D130 29 = D 29 from (eD130 29).trans (hD130 28 rfl))).symm))
  have pf130_21_7 : HID (F130 21 7 = (D130 26 : Int)) := ((show F130 21 7 = F 21 7 from (eF130 21 7).trans (hS130 20 7 rfl))).trans ((pf26).trans (congrArg (fun q : Nat => (q : Int)) ((show D130 26 = D 26 from (eD130 26).trans (hD130 25 rfl))).symm))
  have pf130_21_8 : HID (F130 21 8 = (D130 27 : Int)) := ((show F130 21 8 = F 21 8 from (eF130 21 8).trans (hS130 20 8 rfl))).trans ((pf27).trans (congrArg (fun q : Nat => (q : Int)) ((show D130 27 = D 27 from (eD130 27).trans (hD130 26 rfl))).symm))
  have pf130_21_9 : HID (F130 21 9 = (D130 28 : Int)) := ((show F130 21 9 = F 21 9 from (eF130 21 9).trans (hS130 20 9 rfl))).trans ((pf28).trans (congrArg (fun q : Nat => (q : Int)) ((show D130 28 = D 28 from (eD130 28).trans (hD130 27 rfl))).symm))
  have pf130_30_2 : HID (F130 30 2 = (D130 31 : Int)) := ((show F130 30 2 = F 30 2 from (eF130 30 2).trans (hS130 29 2 rfl))).trans ((pf31).trans (congrArg (fun q : Nat => (q : Int)) ((show D130 31 = D 31 from (eD130 31).trans (hD130 30 rfl))).symm))
  have pf130_30_3 : HID (F130 30 3 = (D130 32 : Int)) := ((show F130 30 3 = F 30 3 from (eF130 30 3).trans (hS130 29 3 rfl))).trans ((pf32).trans (congrArg (fun q : Nat => (q : Int)) ((show D130 32 = D 32 from (eD130 32).trans (hD130 31 rfl))).symm))
  have pf130_30_4 : HID (F130 30 4 = (D130 33 : Int)) := ((show F130 30 4 = F 30 4 from (eF130 30 4).trans (hS130 29 4 rfl))).trans ((pf33).trans (congrArg (fun q : Nat => (q : Int)) ((show D130 33 = D 33 from (eD130 33).trans (hD130 32 rfl))).symm))
  have pf130_30_5 : HID (F130 30 5 = (D130 34 : Int)) := ((show F130 30 5 = F 30 5 from (eF130 30 5).trans (hS130 29 5 rfl))).trans ((pf34).trans (congrArg (fun q : Nat => (q : Int)) ((show D130 34 = D 34 from (eD130 34).trans (hD130 33 rfl))).symm))
  have pf130_30_6 : HID (F130 30 6 = (D130 38 : Int)) := ((show F130 30 6 = F 30 6 from (eF130 30 6).trans (hS130 29 6 rfl))).trans ((pf38).trans (congrArg (fun q : Nat => (q : Int)) ((show D130 38 = D 38 from (eD130 38).trans (hD130 37 rfl))).symm))
  have pf130_30_7 : HID (F130 30 7 = (D130 35 : Int)) := ((show F130 30 7 = F 30 7 from (eF130 30 7).trans (hS130 29 7 rfl))).trans ((pf35).trans (congrArg (fun q : Nat => (q : Int)) ((show D130 35 = D 35 from (eD130 35).trans (hD130 34 rfl))).symm))
  have pf130_30_8 : HID (F130 30 8 = (D130 36 : Int)) := ((show F130 30 8 = F 30 8 from (eF130 30 8).trans (hS130 29 8 rfl))).trans ((pf36).trans (congrArg (fun q : Nat => (q : Int)) ((show D130 36 = D 36 from (eD130 36).trans (hD130 35 rfl))).symm))
  have pf130_30_9 : HID (F130 30 9 = (D130 37 : Int)) := ((show F130 30 9 = F 30 9 from (eF130 30 9).trans (hS130 29 9 rfl))).trans ((pf37).trans (congrArg (fun q : Nat => (q : Int)) ((show D130 37 = D 37 from (eD130 37).trans (hD130 36 rfl))).symm))
  have pf130_39_2 : HID (F130 39 2 = (D130 40 : Int)) := ((show F130 39 2 = F 39 2 from (eF130 39 2).trans (hS130 38 2 rfl))).trans ((pf40).trans (congrArg (fun q : Nat => (q : Int)) ((show D130 40 = D 40 from (eD130 40).trans (hD130 39 rfl))).symm))
  have pf130_39_3 : HID (F130 39 3 = (D130 41 : Int)) := ((show F130 39 3 = F 39 3 from (eF130 39 3).trans (hS130 38 3 rfl))).trans ((pf41).trans (congrArg (fun q : Nat => (q : Int)) ((show D130 41 = D 41 from (eD130 41).trans (hD130 40 rfl))).symm))
  have pf130_39_4 : HID (F130 39 4 = (D130 42 : Int)) := ((show F130 39 4 = F 39 4 from (eF130 39 4).trans (hS130 38 4 rfl))).trans ((pf42).trans (congrArg (fun q : Nat => (q : Int)) ((show D130 42 = D 42 from (eD130 42).trans (hD130 41 rfl))).symm))
  have pf130_39_5 : HID (F130 39 5 = (D130 43 : Int)) := ((show F130 39 5 = F 39 5 from (eF130 39 5).trans (hS130 38 5 rfl))).trans ((pf43).trans (congrArg (fun q : Nat => (q : Int)) ((show D130 43 = D 43 from (eD130 43).trans (hD130 42 rfl))).symm))
  have pf130_39_6 : HID (F130 39 6 = (D130 47 : Int)) := ((show F130 39 6 = F 39 6 from (eF130 39 6).trans (hS130 38 6 rfl))).trans ((pf47).trans (congrArg (fun q : Nat => (q : Int)) ((show D130 47 = D 47 from (eD130 47).trans (hD130 46 rfl))).symm))
  have pf130_39_7 : HID (F130 39 7 = (D130 44 : Int)) := ((show F130 39 7 = F 39 7 from (eF130 39 7).trans (hS130 38 7 rfl))).trans ((pf44).trans (congrArg (fun q : Nat => (q : Int)) ((show D130 44 = D 44 from (eD130 44).trans (hD130 43 rfl))).symm))
  have pf130_39_8 : HID (F130 39 8 = (D130 45 : Int)) := ((show F130 39 8 = F 39 8 from (eF130 39 8).trans (hS130 38 8 rfl))).trans ((pf45).trans (congrArg (fun q : Nat => (q : Int)) ((show D130 45 = D 45 from (eD130 45).trans (hD130 44 rfl))).symm))
  have pf130_39_9 : HID (F130 39 9 = (D130 46 : Int)) := ((show F130 39 9 = F 39 9 from (eF130 39 9).trans (hS130 38 9 rfl))).trans ((pf46).trans (congrArg (fun q : Nat => (q : Int)) ((show D130 46 = D 46 from (eD130 46).trans (hD130 45 rfl))).symm))
  have pf130_4_0 : HID (F130 4 0 = (D130 5 : Int)) := (eF130 4 0).trans (pm130_6.trans (congrArg (fun q : Nat => (q : Int)) (eD130 5).symm))
  have pf130_48_2 : HID (F130 48 2 = (D130 49 : Int)) := ((show F130 48 2 = F 48 2 from (eF130 48 2).trans (hS130 47 2 rfl))).trans ((pf49).trans (congrArg (fun q : Nat => (q : Int)) ((show D130 49 = D 49 from (eD130 49).trans (hD130 48 rfl))).symm))
  have pf130_48_3 : HID (F130 48 3 = (D130 50 : Int)) := ((show F130 48 3 = F 48 3 from (eF130 48 3).trans (hS130 47 3 rfl))).trans ((pf50).trans (congrArg (fun q : Nat => (q : Int)) ((show D130 50 = D 50 from (eD130 50).trans (hD130 49 rfl))).symm))
  have pf130_48_4 : HID (F130 48 4 = (D130 51 : Int)) := ((show F130 48 4 = F 48 4 from (eF130 48 4).trans (hS130 47 4 rfl))).trans ((pf51).trans (congrArg (fun q : Nat => (q : Int)) ((show D130 51 = D 51 from (eD130 51).trans (hD130 50 rfl))).symm))
  have pf130_48_5 : HID (F130 48 5 = (D130 52 : Int)) := ((show F130 48 5 = F 48 5 from (eF130 48 5).trans (hS130 47 5 rfl))).trans ((pf52).trans (congrArg (fun q : Nat => (q : Int)) ((show D130 52 = D 52 from (eD130 52).trans (hD130 51 rfl))).symm))
  have pf130_48_6 : HID (F130 48 6 = (D130 53 : Int)) := ((show F130 48 6 = F 48 6 from (eF130 48 6).trans (hS130 47 6 rfl))).trans ((pf53).trans (congrArg (fun q : Nat => (q : Int)) ((show D130 53 = D 53 from (eD130 53).trans (hD130 52 rfl))).symm))
  have pf130_48_7 : HID (F130 48 7 = (D130 54 : Int)) := ((show F130 48 7 = F 48 7 from (eF130 48 7).trans (hS130 47 7 rfl))).trans ((pf54).trans (congrArg (fun q : Nat => (q : Int)) ((show D130 54 = D 54 from (eD130 54).trans (hD130 53 rfl))).symm))
  have pf130_48_8 : HID (F130 48 8 = (D130 55 : Int)) := ((show F130 48 8 = F 48 8 from (eF130 48 8).trans (hS130 47 8 rfl))).trans ((pf55).trans (congrArg (fun q : Nat => (q : Int)) ((show D130 55 = D 55 from (eD130 55).trans (hD130 54 rfl))).symm))
  have pf130_48_9 : HID (F130 48 9 = (D130 56 : Int)) := ((show F130 48 9 = F 48 9 from (eF130 48 9).trans (hS130 47 9 rfl))).trans ((pf56).trans (congrArg (fun q : Nat => (q : Int)) ((show D130 56 = D 56 from (eD130 56).trans (hD130 55 rfl))).symm))
  have pf130_57_2 : HID (F130 57 2 = (D130 58 : Int)) := ((show F130 57 2 = F 57 2 from (eF130 57 2).trans (hS130 56 2 rfl))).trans ((pf58).trans (congrArg (fun q : Nat => (q : Int)) ((show D130 58 = D 58 from (eD130 58).trans (hD130 57 rfl))).symm))
  have pf130_57_3 : HID (F130 57 3 = (D130 59 : Int)) := ((show F130 57 3 = F 57 3 from (eF130 57 3).trans (hS130 56 3 rfl))).trans ((pf59).trans (congrArg (fun q : Nat => (q : Int)) ((show D130 59 = D 59 from (eD130 59).trans (hD130 58 rfl))).symm))
  have pf130_57_4 : HID (F130 57 4 = (D130 60 : Int)) := ((show F130 57 4 = F 57 4 from (eF130 57 4).trans (hS130 56 4 rfl))).trans ((pf60).trans (congrArg (fun q : Nat => (q : Int)) ((show D130 60 = D 60 from (eD130 60).trans (hD130 59 rfl))).symm))
  have pf130_57_5 : HID (F130 57 5 = (D130 61 : Int)) := ((show F130 57 5 = F 57 5 from (eF130 57 5).trans (hS130 56 5 rfl))).trans ((pf61).trans (congrArg (fun q : Nat => (q : Int)) ((show D130 61 = D 61 from (eD130 61).trans (hD130 60 rfl))).symm))
  have pf130_57_6 : HID (F130 57 6 = (D130 62 : Int)) := ((show F130 57 6 = F 57 6 from (eF130 57 6).trans (hS130 56 6 rfl))).trans ((pf62).trans (congrArg (fun q : Nat => (q : Int)) ((show D130 62 = D 62 from (eD130 62).trans (hD130 61 rfl))).symm))
  have pf130_57_7 : HID (F130 57 7 = (D130 63 : Int)) := ((show F130 57 7 = F 57 7 from (eF130 57 7).trans (hS130 56 7 rfl))).trans ((pf63).trans (congrArg (fun q : Nat => (q : Int)) ((show D130 63 = D 63 from (eD130 63).trans (hD130 62 rfl))).symm))
  have pf130_57_8 : HID (F130 57 8 = (D130 64 : Int)) := ((show F130 57 8 = F 57 8 from (eF130 57 8).trans (hS130 56 8 rfl))).trans ((pf64).trans (congrArg (fun q : Nat => (q : Int)) ((show D130 64 = D 64 from (eD130 64).trans (hD130 63 rfl))).symm))
  have pf130_57_9 : HID (F130 57 9 = (D130 65 : Int)) := ((show F130 57 9 = F 57 9 from (eF130 57 9).trans (hS130 56 9 rfl))).trans ((pf65).trans (congrArg (fun q : Nat => (q : Int)) ((show D130 65 = D 65 from (eD130 65).trans (hD130 64 rfl))).symm))
  have pf130_6_0 : HID (F130 6 0 = (D130 7 : Int)) := ((show F130 6 0 = F 6 0 from (eF130 6 0).trans (hS130 3 0 rfl))).trans ((pf7).trans (congrArg (fun q : Nat => (q : Int)) ((show D130 7 = D 7 from (eD130 7).trans (hD130 7 rfl))).symm))
  have pf130_6_1 : HID (F130 6 1 = (D130 18 : Int)) := ((show F130 6 1 = F 6 1 from (eF130 6 1).trans (hS130 3 1 rfl))).trans ((pf18).trans (congrArg (fun q : Nat => (q : Int)) ((show D130 18 = D 18 from (eD130 18).trans (hD130 17 rfl))).symm))
  have pf130_6_3 : HID (F130 6 3 = (D130 121 : Int)) := ((show F130 6 3 = F 6 3 from (eF130 6 3).trans (hS130 3 3 rfl))).trans ((pf121).trans (congrArg (fun q : Nat => (q : Int)) ((show D130 121 = D 121 from (eD130 121).trans (hD130 120 rfl))).symm))
  have pf130_6_4 : HID (F130 6 4 = (D130 75 : Int)) := ((show F130 6 4 = F 6 4 from (eF130 6 4).trans (hS130 3 4 rfl))).trans ((pf75).trans (congrArg (fun q : Nat => (q : Int)) ((show D130 75 = D 75 from (eD130 75).trans (hD130 74 rfl))).symm))
  have pf130_66_2 : HID (F130 66 2 = (D130 67 : Int)) := ((show F130 66 2 = F 66 2 from (eF130 66 2).trans (hS130 65 2 rfl))).trans ((pf67).trans (congrArg (fun q : Nat => (q : Int)) ((show D130 67 = D 67 from (eD130 67).trans (hD130 66 rfl))).symm))
  have pf130_66_3 : HID (F130 66 3 = (D130 68 : Int)) := ((show F130 66 3 = F 66 3 from (eF130 66 3).trans (hS130 65 3 rfl))).trans ((pf68).trans (congrArg (fun q : Nat => (q : Int)) ((show D130 68 = D 68 from (eD130 68).trans (hD130 67 rfl))).symm))
  have pf130_66_4 : HID (F130 66 4 = (D130 69 : Int)) := ((show F130 66 4 = F 66 4 from (eF130 66 4).trans (hS130 65 4 rfl))).trans ((pf69).trans (congrArg (fun q : Nat => (q : Int)) ((show D130 69 = D 69 from (eD130 69).trans (hD130 68 rfl))).symm))
  have pf130_66_5 : HID (F130 66 5 = (D130 70 : Int)) := ((show F130 66 5 = F 66 5 from (eF130 66 5).trans (hS130 65 5 rfl))).trans ((pf70).trans (congrArg (fun q : Nat => (q : Int)) ((show D130 70 = D 70 from (eD130 70).trans (hD130 69 rfl))).symm))
  have pf130_66_6 : HID (F130 66 6 = (D130 71 : Int)) := ((show F130 66 6 = F 66 6 from (eF130 66 6).trans (hS130 65 6 rfl))).trans ((pf71).trans (congrArg (fun q : Nat => (q : Int)) ((show D130 71 = D 71 from (eD130 71).trans (hD130 70 rfl))).symm))
  have pf130_66_7 : HID (F130 66 7 = (D130 72 : Int)) := ((show F130 66 7 = F 66 7 from (eF130 66 7).trans (hS130 65 7 rfl))).trans ((pf72).trans (congrArg (fun q : Nat => (q : Int)) ((show D130 72 = D 72 from (eD130 72).trans (hD130 71 rfl))).symm))
  have pf130_66_8 : HID (F130 66 8 = (D130 73 : Int)) := ((show F130 66 8 = F 66 8 from (eF130 66 8).trans (hS130 65 8 rfl))).trans ((pf73).trans (congrArg (fun q : Nat => (q : Int)) ((show D130 73 = D 73 from (eD130 73).trans (hD130 72 rfl))).symm))
  have pf130_66_9 : HID (F130 66 9 = (D130 74 : Int)) := ((show F130 66 9 = F 66 9 from (eF130 66 9).trans (hS130 65 9 rfl))).trans ((pf74).trans (congrArg (fun q : Nat => (q : Int)) ((show D130 74 = D 74 from (eD130 74).trans (hD130 73 rfl))).symm))
  have pf130_7_0 : HID (F130 7 0 = (D130 8 : Int)) := ((show F130 7 0 = F 7 0 from (eF130 7 0).trans (hS130 7 0 rfl))).trans ((pf8).trans (congrArg (fun q : Nat => (q : Int)) ((show D130 8 = D 8 from (eD130 8).trans (hD130 8 rfl))).symm))
  have pf130_76_2 : HID (F130 76 2 = (D130 77 : Int)) := ((show F130 76 2 = F 76 2 from (eF130 76 2).trans (hS130 75 2 rfl))).trans ((pf77).trans (congrArg (fun q : Nat => (q : Int)) ((show D130 77 = D 77 from (eD130 77).trans (hD130 76 rfl))).symm))
  have pf130_76_3 : HID (F130 76 3 = (D130 78 : Int)) := ((show F130 76 3 = F 76 3 from (eF130 76 3).trans (hS130 75 3 rfl))).trans ((pf78).trans (congrArg (fun q : Nat => (q : Int)) ((show D130 78 = D 78 from (eD130 78).trans (hD130 77 rfl))).symm))
  have pf130_76_4 : HID (F130 76 4 = (D130 79 : Int)) := ((show F130 76 4 = F 76 4 from (eF130 76 4).trans (hS130 75 4 rfl))).trans ((pf79).trans (congrArg (fun q : Nat => (q : Int)) ((show D130 79 = D 79 from (eD130 79).trans (hD130 78 rfl))).symm))
  have pf130_76_5 : HID (F130 76 5 = (D130 80 : Int)) := ((show F130 76 5 = F 76 5 from (eF130 76 5).trans (hS130 75 5 rfl))).trans ((pf80).trans (congrArg (fun q : Nat => (q : Int)) ((show D130 80 = D 80 from (eD130 80).trans (hD130 79 rfl))).symm))
  have pf130_76_6 : HID (F130 76 6 = (D130 81 : Int)) := ((show F130 76 6 = F 76 6 from (eF130 76 6).trans (hS130 75 6 rfl))).trans ((pf81).trans (congrArg (fun q : Nat => (q : Int)) ((show D130 81 = D 81 from (eD130 81).trans (hD130 80 rfl))).symm))
  have pf130_76_7 : HID (F130 76 7 = (D130 82 : Int)) := ((show F130 76 7 = F 76 7 from (eF130 76 7).trans (hS130 75 7 rfl))).trans ((pf82).trans (congrArg (fun q : Nat => (q : Int)) ((show D130 82 = D 82 from (eD130 82).trans (hD130 81 rfl))).symm))
  have pf130_76_8 : HID (F130 76 8 = (D130 83 : Int)) := ((show F130 76 8 = F 76 8 from (eF130 76 8).trans (hS130 75 8 rfl))).trans ((pf83).trans (congrArg (fun q : Nat => (q : Int)) ((show D130 83 = D 83 from (eD130 83).trans (hD130 82 rfl))).symm))
  have pf130_76_9 : HID (F130 76 9 = (D130 84 : Int)) := ((show F130 76 9 = F 76 9 from (eF130 76 9).trans (hS130 75 9 rfl))).trans ((pf84).trans (congrArg (fun q : Nat => (q : Int)) ((show D130 84 = D 84 from (eD130 84).trans (hD130 83 rfl))).symm))
  have pf130_85_2 : HID (F130 85 2 = (D130 86 : Int)) := ((show F130 85 2 = F 85 2 from (eF130 85 2).trans (hS130 84 2 rfl))).trans ((pf86).trans (congrArg (fun q : Nat => (q : Int)) ((show D130 86 = D 86 from (eD130 86).trans (hD130 85 rfl))).symm))
  have pf130_85_3 : HID (F130 85 3 = (D130 87 : Int)) := ((show F130 85 3 = F 85 3 from (eF130 85 3).trans (hS130 84 3 rfl))).trans ((pf87).trans (congrArg (fun q : Nat => (q : Int)) ((show D130 87 = D 87 from (eD130 87).trans (hD130 86 rfl))).symm))
  have pf130_85_4 : HID (F130 85 4 = (D130 88 : Int)) := ((show F130 85 4 = F 85 4 from (eF130 85 4).trans (hS130 84 4 rfl))).trans ((pf88).trans (congrArg (fun q : Nat => (q : Int)) ((show D130 88 = D 88 from (eD130 88).trans (hD130 87 rfl))).symm))
  have pf130_85_5 : HID (F130 85 5 = (D130 89 : Int)) := ((show F130 85 5 = F 85 5 from (eF130 85 5).trans (hS130 84 5 rfl))).trans ((pf89).trans (congrArg (fun q : Nat => (q : Int)) ((show D130 89 = D 89 from (eD130 89).trans (hD130 88 rfl))).symm))
  have pf130_85_6 : HID (F130 85 6 = (D130 90 : Int)) := ((show F130 85 6 = F 85 6 from (eF130 85 6).trans (hS130 84 6 rfl))).trans ((pf90).trans (congrArg (fun q : Nat => (q : Int)) ((show D130 90 = D 90 from (eD130 90).trans (hD130 89 rfl))).symm))
  have pf130_85_7 : HID (F130 85 7 = (D130 91 : Int)) := ((show F130 85 7 = F 85 7 from (eF130 85 7).trans (hS130 84 7 rfl))).trans ((pf91).trans (congrArg (fun q : Nat => (q : Int)) ((show D130 91 = D 91 from (eD130 91).trans (hD130 90 rfl))).symm))
  have pf130_85_8 : HID (F130 85 8 = (D130 92 : Int)) := ((show F130 85 8 = F 85 8 from (eF130 85 8).trans (hS130 84 8 rfl))).trans ((pf92).trans (congrArg (fun q : Nat => (q : Int)) ((show D130 92 = D 92 from (eD130 92).trans (hD130 91 rfl))).symm))
  have pf130_85_9 : HID (F130 85 9 = (D130 93 : Int)) := ((show F130 85 9 = F 85 9 from (eF130 85 9).trans (hS130 84 9 rfl))).trans ((pf93).trans (congrArg (fun q : Nat => (q : Int)) ((show D130 93 = D 93 from (eD130 93).trans (hD130 92 rfl))).symm))
  have pf130_9_0 : HID (F130 9 0 = (D130 16 : Int)) := ((show F130 9 0 = F 9 0 from (eF130 9 0).trans (hS130 0 0 rfl))).trans ((pf16).trans (congrArg (fun q : Nat => (q : Int)) ((show D130 16 = D 16 from (eD130 16).trans (hD130 15 rfl))).symm))
  have pf130_9_1 : HID (F130 9 1 = (D130 103 : Int)) := ((show F130 9 1 = F 9 1 from (eF130 9 1).trans (hS130 0 1 rfl))).trans ((pf103).trans (congrArg (fun q : Nat => (q : Int)) ((show D130 103 = D 103 from (eD130 103).trans (hD130 102 rfl))).symm))
  have pf130_9_2 : HID (F130 9 2 = (D130 17 : Int)) := ((show F130 9 2 = F 9 2 from (eF130 9 2).trans (hS130 0 2 rfl))).trans ((pf17).trans (congrArg (fun q : Nat => (q : Int)) ((show D130 17 = D 17 from (eD130 17).trans (hD130 16 rfl))).symm))
  have pf130_9_3 : HID (F130 9 3 = (D130 12 : Int)) := ((show F130 9 3 = F 9 3 from (eF130 9 3).trans (hS130 0 3 rfl))).trans ((pf12).trans (congrArg (fun q : Nat => (q : Int)) ((show D130 12 = D 12 from (eD130 12).trans (hD130 11 rfl))).symm))
  have pf130_9_4 : HID (F130 9 4 = (D130 10 : Int)) := ((show F130 9 4 = F 9 4 from (eF130 9 4).trans (hS130 0 4 rfl))).trans ((pf10).trans (congrArg (fun q : Nat => (q : Int)) ((show D130 10 = D 10 from (eD130 10).trans (hD130 9 rfl))).symm))
  have pf130_9_5 : HID (F130 9 5 = (D130 126 : Int)) := ((show F130 9 5 = F 9 5 from (eF130 9 5).trans (hS130 0 5 rfl))).trans ((pf126).trans (congrArg (fun q : Nat => (q : Int)) ((show D130 126 = D 126 from (eD130 126).trans (hD130 125 rfl))).symm))
  have pf130_9_6 : HID (F130 9 6 = (D130 14 : Int)) := ((show F130 9 6 = F 9 6 from (eF130 9 6).trans (hS130 0 6 rfl))).trans ((pf14).trans (congrArg (fun q : Nat => (q : Int)) ((show D130 14 = D 14 from (eD130 14).trans (hD130 13 rfl))).symm))
  have pf130_94_2 : HID (F130 94 2 = (D130 95 : Int)) := ((show F130 94 2 = F 94 2 from (eF130 94 2).trans (hS130 93 2 rfl))).trans ((pf95).trans (congrArg (fun q : Nat => (q : Int)) ((show D130 95 = D 95 from (eD130 95).trans (hD130 94 rfl))).symm))
  have pf130_94_3 : HID (F130 94 3 = (D130 96 : Int)) := ((show F130 94 3 = F 94 3 from (eF130 94 3).trans (hS130 93 3 rfl))).trans ((pf96).trans (congrArg (fun q : Nat => (q : Int)) ((show D130 96 = D 96 from (eD130 96).trans (hD130 95 rfl))).symm))
  have pf130_94_4 : HID (F130 94 4 = (D130 97 : Int)) := ((show F130 94 4 = F 94 4 from (eF130 94 4).trans (hS130 93 4 rfl))).trans ((pf97).trans (congrArg (fun q : Nat => (q : Int)) ((show D130 97 = D 97 from (eD130 97).trans (hD130 96 rfl))).symm))
  have pf130_94_5 : HID (F130 94 5 = (D130 98 : Int)) := ((show F130 94 5 = F 94 5 from (eF130 94 5).trans (hS130 93 5 rfl))).trans ((pf98).trans (congrArg (fun q : Nat => (q : Int)) ((show D130 98 = D 98 from (eD130 98).trans (hD130 97 rfl))).symm))
  have pf130_94_6 : HID (F130 94 6 = (D130 99 : Int)) := ((show F130 94 6 = F 94 6 from (eF130 94 6).trans (hS130 93 6 rfl))).trans ((pf99).trans (congrArg (fun q : Nat => (q : Int)) ((show D130 99 = D 99 from (eD130 99).trans (hD130 98 rfl))).symm))
  have pf130_94_7 : HID (F130 94 7 = (D130 100 : Int)) := ((show F130 94 7 = F 94 7 from (eF130 94 7).trans (hS130 93 7 rfl))).trans ((pf100).trans (congrArg (fun q : Nat => (q : Int)) ((show D130 100 = D 100 from (eD130 100).trans (hD130 99 rfl))).symm))
  have pf130_94_8 : HID (F130 94 8 = (D130 101 : Int)) := ((show F130 94 8 = F 94 8 from (eF130 94 8).trans (hS130 93 8 rfl))).trans ((pf101).trans (congrArg (fun q : Nat => (q : Int)) ((show D130 101 = D 101 from (eD130 101).trans (hD130 100 rfl))).symm))
  have pf130_94_9 : HID (F130 94 9 = (D130 102 : Int)) := ((show F130 94 9 = F 94 9 from (eF130 94 9).trans (hS130 93 9 rfl))).trans ((pf102).trans (congrArg (fun q : Nat => (q : Int)) ((show D130 102 = D 102 from (eD130 102).trans (hD130 101 rfl))).symm))
  have r131 : HID ((0 : Int) ≤ m130_6 ∧ m130_6 ≤ 1000000) := nrng (H.nle 5 (by decide)) (show (N130 5 : Int) = m130_6 from (congrArg (fun q : Nat => (q : Int)) (eN130 5)).trans em130_6)
  have r132 : HID ((0 : Int) ≤ m130_10 ∧ m130_10 ≤ 1000000) := nrng (H.nle 11 (by decide)) (show (N130 11 : Int) = m130_10 from (congrArg (fun q : Nat => (q : Int)) (eN130 11)).trans em130_10)
  have hdd133 : HID (((D130 76 : Nat) : Int) = ((D 76 : Nat) : Int)) := congrArg (fun q : Nat => (q : Int)) (((show D130 76 = D 76 from (eD130 76).trans (hD130 75 rfl))))
  have hdd134 : HID (((D130 85 : Nat) : Int) = ((D 85 : Nat) : Int)) := congrArg (fun q : Nat => (q : Int)) (((show D130 85 = D 85 from (eD130 85).trans (hD130 84 rfl))))
  have hdd135 : HID (((D130 94 : Nat) : Int) = ((D 94 : Nat) : Int)) := congrArg (fun q : Nat => (q : Int)) (((show D130 94 = D 94 from (eD130 94).trans (hD130 93 rfl))))
  have hdd136 : HID (((D130 121 : Nat) : Int) = ((D 121 : Nat) : Int)) := congrArg (fun q : Nat => (q : Int)) (((show D130 121 = D 121 from (eD130 121).trans (hD130 120 rfl))))
  have hda137 : HID (((D130 76 : Nat) : Int) = ((D 76 : Nat) : Int) ∧ ((D130 85 : Nat) : Int) = ((D 85 : Nat) : Int) ∧ ((D130 94 : Nat) : Int) = ((D 94 : Nat) : Int) ∧ ((D130 121 : Nat) : Int) = ((D 121 : Nat) : Int)) := HIDm ⟨(HIDe hdd133), (HIDe hdd134), (HIDe hdd135), (HIDe hdd136)⟩
  have r138 : HID ((-9223372036854775808 : Int) ≤ y130_0_15 ∧ y130_0_15 ≤ 9223372036854775807) := krg_e (show (-9223372036854775808 : Int) ≤ F130 9 15 ∧ F130 9 15 ≤ 9223372036854775807 from H.krg 9 15 (by decide)) (show F130 9 15 = y130_0_15 from ((eF130 9 15).trans ey130_0_15))
  have r139 : HID ((-2147483648 : Int) ≤ y130_0_21 ∧ y130_0_21 ≤ 2147483647) := krg_e (show (-2147483648 : Int) ≤ F130 9 21 ∧ F130 9 21 ≤ 2147483647 from H.krg 9 21 (by decide)) (show F130 9 21 = y130_0_21 from ((eF130 9 21).trans ey130_0_21))
  have r140 : HID ((-2147483648 : Int) ≤ y130_2_1 ∧ y130_2_1 ≤ 2147483647) := krg_e (show (-2147483648 : Int) ≤ F130 4 1 ∧ F130 4 1 ≤ 2147483647 from H.krg 4 1 (by decide)) (show F130 4 1 = y130_2_1 from ((eF130 4 1).trans ey130_2_1))
  have r141 : HID ((0 : Int) ≤ y130_2_2 ∧ y130_2_2 ≤ 1) := krg_e (show (0 : Int) ≤ F130 4 2 ∧ F130 4 2 ≤ 1 from H.krg 4 2 (by decide)) (show F130 4 2 = y130_2_2 from ((eF130 4 2).trans ey130_2_2))
  have r142 : HID ((-2147483648 : Int) ≤ y130_9_1 ∧ y130_9_1 ≤ 2147483647) := krg_e (show (-2147483648 : Int) ≤ F130 10 1 ∧ F130 10 1 ≤ 2147483647 from H.krg 10 1 (by decide)) (show F130 10 1 = y130_9_1 from ((eF130 10 1).trans ey130_9_1))
  refine Ew_of (pc' := 177) (fun _ => x_istore rfl) ?_
  refine Ew_of (pc' := 178) (fun _ => x_aload_n rfl (rk_o (hl0) rfl rfl)) ?_
  refine Ew_of (pc' := 179) (fun _ => x_aload_n rfl (rk_o (hl0) rfl rfl)) ?_
  refine Ew_stk (show ([.ref (D 0), .ref (D 0)] : List Value) = [.ref (D130 0), .ref (D130 0)] by rw [show D130 0 = D 0 from ((show D130 0 = D 0 from (eD130 0)))]) ?_
  refine v_g H (o := 0) (v := .ref (D130 9)) rfl rfl rfl rfl rfl (vrf (pf130_0_12)) ?_
  refine v_g H (o := 9) (v := I (y130_0_21)) rfl rfl rfl rfl rfl (congrArg (fun z : Int => I z) (((eF130 9 21).trans ey130_0_21) : F130 9 21 = y130_0_21)) ?_
  refine v_p H (o := 0) (z := y130_0_21) (v := I (y130_0_21)) rfl rfl rfl rfl rfl rfl rfl rfl (show (-2147483648 : Int) ≤ y130_0_21 ∧ y130_0_21 ≤ 2147483647 by have qh0 := HIDe r139; omega) (fun σ H O' => ?_)
  have O := OUT_trans O O'
  refine Ew_of (pc' := 190) (fun _ => x_iload rfl rk_s) ?_
  refine w_ifne (t := 203) rfl rfl (show inr (z130) by omega) (fun b143 => ?_) (fun b143 => ?_)
  · refine Ew_of (pc' := 205) (fun _ => x_iload rfl rk_s) ?_
    refine w_ineg rfl ?_
    have h4 := RDQ_c4 (H := []) (ret := ((-z130))) (by assumption : DCo Dc) pz130_8 (by omega) (by omega) (by omega) (by omega)
    have : RDQ 4 (sc ((w3)) 0 ((u1_1))) [] Dc ((x3)) (((-z130))) ((y130_0_21)) (sc ((w130_6)) 0 ((y130_2_1))) := h4.1
    have : CN5 (RDS (ap (sc ((w3)) 0 ((u1_1)))) ((sc ((w3)) 0 ((u1_1))).length : Int) ((x3)) Dc) (((w130_4)) 0, ((w130_4)) 1, ((w130_4)) 2, (y130_2_1), ((w130_4)) 4) := h4.2.1
    have : 0 ≤ (RDS (ap (sc ((w3)) 0 ((u1_1)))) ((sc ((w3)) 0 ((u1_1))).length : Int) ((x3)) Dc).1 := h4.2.2
    exact w_ireturn rfl (k ((-z130)) _ _ _ _ _ _ _ H O (SD_trans (SD_refl) (SD_glu (ι := [9, 1, 4, 6, 2, 3, 5, 7, 8, 10, 11, 12, 13, 14, 15, 16, 17, 18, 19, 20, 21, 22, 23, 24, 25, 26, 27, 28, 29, 30, 31, 32, 33, 34, 35, 36, 37, 38, 39, 40, 41, 42, 43, 44, 45, 46, 47, 48, 49, 50, 51, 52, 53, 54, 55, 56, 57, 58, 59, 60, 61, 62, 63, 64, 65, 66, 67, 68, 69, 70, 71, 72, 73, 74, 75, 76, 77, 78, 79, 80, 81, 82, 83, 84, 85, 86, 87, 88, 89, 90, 91, 92, 93, 94, 95, 96, 97, 98, 99, 100, 101, 102, 103, 104, 105, 106, 107, 108, 109, 110, 111, 112, 113, 114, 115, 116, 117, 118, 119, 120, 121, 122, 123, 124, 125, 126]) hD130 eD130 (by decide +kernel)) (any_subA (l' := [5, 11]) rfl)) (SD_trans (SD_refl) (SD_glu (ι := [9, 1, 4, 6, 2, 3, 5, 7, 8, 10, 11, 12, 13, 14, 15, 16, 17, 18, 19, 20, 21, 22, 23, 24, 25, 26, 27, 28, 29, 30, 31, 32, 33, 34, 35, 36, 37, 38, 39, 40, 41, 42, 43, 44, 45, 46, 47, 48, 49, 50, 51, 52, 53, 54, 55, 56, 57, 58, 59, 60, 61, 62, 63, 64, 65, 66, 67, 68, 69, 70, 71, 72, 73, 74, 75, 76, 77, 78, 79, 80, 81, 82, 83, 84, 85, 86, 87, 88, 89, 90, 91, 92, 93, 94, 95, 96, 97, 98, 99, 100, 101, 102, 103, 104, 105, 106, 107, 108, 109, 110, 111, 112, 113, 114, 115, 116, 117, 118, 119, 120, 121, 122, 123, 124, 125, 126]) hN130 eN130 (by decide +kernel)) (any_subA (l' := [5, 11]) rfl)) (SF_upd (SF_trans (SF_refl) (SF_glu (ι := [9, 1, 4, 6, 2, 3, 5, 7, 8, 10, 11, 12, 13, 14, 15, 16, 17, 18, 19, 20, 21, 22, 23, 24, 25, 26, 27, 28, 29, 30, 31, 32, 33, 34, 35, 36, 37, 38, 39, 40, 41, 42, 43, 44, 45, 46, 47, 48, 49, 50, 51, 52, 53, 54, 55, 56, 57, 58, 59, 60, 61, 62, 63, 64, 65, 66, 67, 68, 69, 70, 71, 72, 73, 74, 75, 76, 77, 78, 79, 80, 81, 82, 83, 84, 85, 86, 87, 88, 89, 90, 91, 92, 93, 94, 95, 96, 97, 98, 99, 100, 101, 102, 103, 104, 105, 106, 107, 108, 109, 110, 111, 112, 113, 114, 115, 116, 117, 118, 119, 120, 121, 122, 123, 124, 125, 126]) hS130 eF130 (by decide +kernel)) (any_sub (l' := [(4, 0), (4, 1), (4, 2), (9, 7), (9, 8), (9, 9), (9, 10), (9, 11), (9, 12), (9, 13), (9, 14), (9, 15), (9, 16), (9, 17), (9, 18), (9, 19), (9, 20), (9, 21), (10, 0), (10, 1), (10, 2), (10, 3), (10, 4), (12, 0), (48, 0), (48, 10), (48, 11), (48, 12), (57, 0), (57, 10), (57, 11), (57, 12), (66, 0), (66, 10), (66, 11), (66, 12), (103, 3), (112, 0), (112, 10), (112, 11), (112, 12), (124, 0), (124, 1), (124, 2), (125, 0), (125, 1), (125, 2), (126, 0), (126, 1), (126, 2)]) rfl)) rfl) (SA_trans (SA_refl) (SA_glu (ι := [9, 1, 4, 6, 2, 3, 5, 7, 8, 10, 11, 12, 13, 14, 15, 16, 17, 18, 19, 20, 21, 22, 23, 24, 25, 26, 27, 28, 29, 30, 31, 32, 33, 34, 35, 36, 37, 38, 39, 40, 41, 42, 43, 44, 45, 46, 47, 48, 49, 50, 51, 52, 53, 54, 55, 56, 57, 58, 59, 60, 61, 62, 63, 64, 65, 66, 67, 68, 69, 70, 71, 72, 73, 74, 75, 76, 77, 78, 79, 80, 81, 82, 83, 84, 85, 86, 87, 88, 89, 90, 91, 92, 93, 94, 95, 96, 97, 98, 99, 100, 101, 102, 103, 104, 105, 106, 107, 108, 109, 110, 111, 112, 113, 114, 115, 116, 117, 118, 119, 120, 121, 122, 123, 124, 125, 126]) hA130 eA130 (by decide +kernel)) (any_subA (l' := [2, 5, 11, 13, 14, 15, 49, 50, 51, 52, 53, 54, 55, 56, 58, 59, 60, 61, 62, 63, 64, 65, 67, 68, 69, 70, 71, 72, 73, 74, 104, 105, 106, 107, 113, 114, 115, 116, 117, 118, 119, 120]) rfl)) (pf130_4_0) (pf130_10_0) (m130_6) ((congrArg (fun q : Nat => (q : Int)) (eN130 5)).trans em130_6) (m130_10) ((congrArg (fun q : Nat => (q : Int)) (eN130 11)).trans em130_10) (y130_0_21) (rfl) (y130_2_1) (((eF130 4 1).trans ey130_2_1)) (y130_2_2) (((eF130 4 2).trans ey130_2_2)) (y130_0_15) (((eF130 9 15).trans ey130_0_15)) (y130_9_1) (((eF130 10 1).trans ey130_9_1)) (w130_4) ((eA130 2).trans ew130_4) (w130_6) ((eA130 5).trans ew130_6) (w130_105) ((eA130 106).trans ew130_105) (show inr ((-z130)) by omega) (show 0 ≤ (y130_2_1) ∧ (y130_2_1) ≤ (m130_6) ∧ (m130_6) ≤ 65536 by have qh0 := HIDe r131; have qh1 := HIDe r140; omega) (show 0 ≤ (y130_9_1) ∧ (y130_9_1) ≤ (m130_10) ∧ (m130_10) ≤ 65536 by have qh0 := HIDe r132; have qh1 := HIDe r142; omega) (show 0 ≤ (y130_0_15) by have qh0 := HIDe r138; omega) (show CEL ((w130_105)) by assumption) (show CEL ((w122)) by assumption) (show ((w130_4)) 3 = (y130_2_1) by have qh0 := HIDe r140; omega) (show (y130_2_2) = 0 by have qh0 := HIDe r141; omega) (show (y130_2_2) = 0 by have qh0 := HIDe r141; omega) (show ((w130_4)) 3 = (y130_2_1) by have qh0 := HIDe r140; omega) (by assumption) (by assumption) (by assumption))
  · refine Ew_of (pc' := 194) (fun _ => x_aload_n rfl (rk_o (hl0) rfl rfl)) ?_
    refine Ew_stk (show ([.ref (D 0)] : List Value) = [.ref (D130 0)] by rw [show D130 0 = D 0 from ((show D130 0 = D 0 from (eD130 0)))]) ?_
    refine v_g H (o := 0) (v := .ref (D130 4)) rfl rfl rfl rfl rfl (vrf (pf130_0_6)) ?_
    refine v_g H (o := 4) (v := I (y130_2_1)) rfl rfl rfl rfl rfl (congrArg (fun z : Int => I z) (((eF130 4 1).trans ey130_2_1) : (updF F130 0 17 (y130_0_21)) 4 1 = y130_2_1)) ?_
    refine Ew_of (pc' := 206) (fun _ => x_goto rfl rfl) ?_
    have h4 := RDQ_c4 (H := []) (ret := (y130_2_1)) (by assumption : DCo Dc) pz130_8 (by (have qg0 := HIDe r140; omega)) (by (have qg0 := HIDe r140; omega)) (by (have qg0 := HIDe r140; omega)) (by (have qg0 := HIDe r140; omega))
    have : RDQ 4 (sc ((w3)) 0 ((u1_1))) [] Dc ((x3)) ((y130_2_1)) ((y130_0_21)) (sc ((w130_6)) 0 ((y130_2_1))) := h4.1
    have : CN5 (RDS (ap (sc ((w3)) 0 ((u1_1)))) ((sc ((w3)) 0 ((u1_1))).length : Int) ((x3)) Dc) (((w130_4)) 0, ((w130_4)) 1, ((w130_4)) 2, (y130_2_1), ((w130_4)) 4) := h4.2.1
    have : 0 ≤ (RDS (ap (sc ((w3)) 0 ((u1_1)))) ((sc ((w3)) 0 ((u1_1))).length : Int) ((x3)) Dc).1 := h4.2.2
    exact w_ireturn rfl (k (y130_2_1) _ _ _ _ _ _ _ H O (SD_trans (SD_refl) (SD_glu (ι := [9, 1, 4, 6, 2, 3, 5, 7, 8, 10, 11, 12, 13, 14, 15, 16, 17, 18, 19, 20, 21, 22, 23, 24, 25, 26, 27, 28, 29, 30, 31, 32, 33, 34, 35, 36, 37, 38, 39, 40, 41, 42, 43, 44, 45, 46, 47, 48, 49, 50, 51, 52, 53, 54, 55, 56, 57, 58, 59, 60, 61, 62, 63, 64, 65, 66, 67, 68, 69, 70, 71, 72, 73, 74, 75, 76, 77, 78, 79, 80, 81, 82, 83, 84, 85, 86, 87, 88, 89, 90, 91, 92, 93, 94, 95, 96, 97, 98, 99, 100, 101, 102, 103, 104, 105, 106, 107, 108, 109, 110, 111, 112, 113, 114, 115, 116, 117, 118, 119, 120, 121, 122, 123, 124, 125, 126]) hD130 eD130 (by decide +kernel)) (any_subA (l' := [5, 11]) rfl)) (SD_trans (SD_refl) (SD_glu (ι := [9, 1, 4, 6, 2, 3, 5, 7, 8, 10, 11, 12, 13, 14, 15, 16, 17, 18, 19, 20, 21, 22, 23, 24, 25, 26, 27, 28, 29, 30, 31, 32, 33, 34, 35, 36, 37, 38, 39, 40, 41, 42, 43, 44, 45, 46, 47, 48, 49, 50, 51, 52, 53, 54, 55, 56, 57, 58, 59, 60, 61, 62, 63, 64, 65, 66, 67, 68, 69, 70, 71, 72, 73, 74, 75, 76, 77, 78, 79, 80, 81, 82, 83, 84, 85, 86, 87, 88, 89, 90, 91, 92, 93, 94, 95, 96, 97, 98, 99, 100, 101, 102, 103, 104, 105, 106, 107, 108, 109, 110, 111, 112, 113, 114, 115, 116, 117, 118, 119, 120, 121, 122, 123, 124, 125, 126]) hN130 eN130 (by decide +kernel)) (any_subA (l' := [5, 11]) rfl)) (SF_upd (SF_trans (SF_refl) (SF_glu (ι := [9, 1, 4, 6, 2, 3, 5, 7, 8, 10, 11, 12, 13, 14, 15, 16, 17, 18, 19, 20, 21, 22, 23, 24, 25, 26, 27, 28, 29, 30, 31, 32, 33, 34, 35, 36, 37, 38, 39, 40, 41, 42, 43, 44, 45, 46, 47, 48, 49, 50, 51, 52, 53, 54, 55, 56, 57, 58, 59, 60, 61, 62, 63, 64, 65, 66, 67, 68, 69, 70, 71, 72, 73, 74, 75, 76, 77, 78, 79, 80, 81, 82, 83, 84, 85, 86, 87, 88, 89, 90, 91, 92, 93, 94, 95, 96, 97, 98, 99, 100, 101, 102, 103, 104, 105, 106, 107, 108, 109, 110, 111, 112, 113, 114, 115, 116, 117, 118, 119, 120, 121, 122, 123, 124, 125, 126]) hS130 eF130 (by decide +kernel)) (any_sub (l' := [(4, 0), (4, 1), (4, 2), (9, 7), (9, 8), (9, 9), (9, 10), (9, 11), (9, 12), (9, 13), (9, 14), (9, 15), (9, 16), (9, 17), (9, 18), (9, 19), (9, 20), (9, 21), (10, 0), (10, 1), (10, 2), (10, 3), (10, 4), (12, 0), (48, 0), (48, 10), (48, 11), (48, 12), (57, 0), (57, 10), (57, 11), (57, 12), (66, 0), (66, 10), (66, 11), (66, 12), (103, 3), (112, 0), (112, 10), (112, 11), (112, 12), (124, 0), (124, 1), (124, 2), (125, 0), (125, 1), (125, 2), (126, 0), (126, 1), (126, 2)]) rfl)) rfl) (SA_trans (SA_refl) (SA_glu (ι := [9, 1, 4, 6, 2, 3, 5, 7, 8, 10, 11, 12, 13, 14, 15, 16, 17, 18, 19, 20, 21, 22, 23, 24, 25, 26, 27, 28, 29, 30, 31, 32, 33, 34, 35, 36, 37, 38, 39, 40, 41, 42, 43, 44, 45, 46, 47, 48, 49, 50, 51, 52, 53, 54, 55, 56, 57, 58, 59, 60, 61, 62, 63, 64, 65, 66, 67, 68, 69, 70, 71, 72, 73, 74, 75, 76, 77, 78, 79, 80, 81, 82, 83, 84, 85, 86, 87, 88, 89, 90, 91, 92, 93, 94, 95, 96, 97, 98, 99, 100, 101, 102, 103, 104, 105, 106, 107, 108, 109, 110, 111, 112, 113, 114, 115, 116, 117, 118, 119, 120, 121, 122, 123, 124, 125, 126]) hA130 eA130 (by decide +kernel)) (any_subA (l' := [2, 5, 11, 13, 14, 15, 49, 50, 51, 52, 53, 54, 55, 56, 58, 59, 60, 61, 62, 63, 64, 65, 67, 68, 69, 70, 71, 72, 73, 74, 104, 105, 106, 107, 113, 114, 115, 116, 117, 118, 119, 120]) rfl)) (pf130_4_0) (pf130_10_0) (m130_6) ((congrArg (fun q : Nat => (q : Int)) (eN130 5)).trans em130_6) (m130_10) ((congrArg (fun q : Nat => (q : Int)) (eN130 11)).trans em130_10) (y130_0_21) (rfl) (y130_2_1) (((eF130 4 1).trans ey130_2_1)) (y130_2_2) (((eF130 4 2).trans ey130_2_2)) (y130_0_15) (((eF130 9 15).trans ey130_0_15)) (y130_9_1) (((eF130 10 1).trans ey130_9_1)) (w130_4) ((eA130 2).trans ew130_4) (w130_6) ((eA130 5).trans ew130_6) (w130_105) ((eA130 106).trans ew130_105) (show inr (y130_2_1) by have qh0 := HIDe r140; omega) (show 0 ≤ (y130_2_1) ∧ (y130_2_1) ≤ (m130_6) ∧ (m130_6) ≤ 65536 by have qh0 := HIDe r131; have qh1 := HIDe r140; omega) (show 0 ≤ (y130_9_1) ∧ (y130_9_1) ≤ (m130_10) ∧ (m130_10) ≤ 65536 by have qh0 := HIDe r132; have qh1 := HIDe r142; omega) (show 0 ≤ (y130_0_15) by have qh0 := HIDe r138; omega) (show CEL ((w130_105)) by assumption) (show CEL ((w122)) by assumption) (show ((w130_4)) 3 = (y130_2_1) by have qh0 := HIDe r140; omega) (show (y130_2_2) = 0 by have qh0 := HIDe r141; omega) (show (y130_2_2) = 0 by have qh0 := HIDe r141; omega) (show ((w130_4)) 3 = (y130_2_1) by have qh0 := HIDe r140; omega) (by assumption) (by assumption) (by assumption))
