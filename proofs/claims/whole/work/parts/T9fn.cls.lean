abbrev V17_vD4n : vV := [(0, 0, [(4, 0), (4, 0), (4, 0), (4, 0), (4, 0), (4, 0), (4, 0), (4, 0), (4, 0), (4, 0), (4, 0), (4, 0), (4, 0), (4, 0), (4, 0), (4, 0), (4, 0), (0, 0), (0, 0)]), (0, 7, [(4, 0), (0, 0), (1, 0), (0, 0), (0, 0)]), (0, 7, [(4, 0), (0, 0), (1, 0), (0, 0), (0, 0)]), (1, 0, []), (1, 0, []), (0, 4, [(4, 0), (4, 0), (0, 0), (4, 0), (4, 0)]), (0, 7, [(4, 0), (0, 0), (1, 0), (0, 0), (0, 0)]), (1, 0, []), (0, 6, [(4, 0), (4, 0), (4, 0), (4, 0), (4, 0), (4, 0), (4, 0), (4, 0), (4, 0), (4, 0), (4, 0), (4, 0), (4, 0), (4, 0), (4, 0), (0, 0), (0, 0), (4, 0), (4, 0)]), (1, 1, []), (0, 5, [(4, 0), (4, 0), (4, 0), (4, 0), (0, 0), (0, 0), (0, 0), (4, 0), (4, 0), (0, 0), (0, 0), (0, 0), (0, 0), (0, 0), (0, 0), (0, 0), (0, 0), (0, 0), (0, 0)]), (0, 7, [(4, 0), (0, 0), (1, 0), (0, 0), (0, 0)]), (1, 0, []), (1, 1, []), (1, 1, []), (1, 1, []), (1, 1, []), (1, 1, []), (0, 7, [(4, 0), (0, 0), (1, 0), (0, 0), (0, 0)]), (1, 0, []), (0, 7, [(4, 0), (0, 0), (1, 0), (0, 0), (0, 0)]), (1, 0, []), (0, 7, [(4, 0), (0, 0), (1, 0), (0, 0), (0, 0)]), (1, 0, []), (1, 1, []), (1, 1, []), (1, 1, []), (1, 1, []), (1, 6, []), (0, 9, [(4, 0), (4, 0), (4, 0)]), (1, 5, []), (1, 2, []), (0, 9, [(4, 0), (4, 0), (4, 0)]), (1, 5, []), (1, 2, []), (1, 5, []), (1, 5, []), (1, 5, []), (1, 7, []), (1, 1, []), (1, 1, []), (1, 1, []), (1, 1, []), (0, 9, [(4, 0), (4, 0), (4, 0)]), (1, 5, []), (1, 2, []), (0, 3, [(4, 0), (4, 0), (4, 0), (0, 0), (4, 0), (4, 0), (4, 0), (4, 0), (4, 0), (4, 0), (4, 0), (4, 0), (4, 0), (0, 0), (0, 0), (0, 0), (0, 0)]), (1, 1, []), (1, 1, []), (1, 1, []), (1, 1, []), (1, 1, []), (1, 1, []), (1, 1, []), (1, 1, []), (0, 8, [(0, 0), (0, 0), (4, 0), (4, 0), (4, 0), (4, 0), (4, 0), (4, 0), (4, 0), (4, 0), (4, 0), (0, 0), (0, 0)]), (1, 1, []), (1, 1, []), (1, 1, []), (1, 1, []), (1, 1, []), (1, 1, []), (1, 1, []), (1, 1, []), (0, 7, [(4, 0), (0, 0), (1, 0), (0, 0), (0, 0)]), (1, 0, []), (0, 7, [(4, 0), (0, 0), (1, 0), (0, 0), (0, 0)]), (1, 0, []), (0, 3, [(4, 0), (4, 0), (4, 0), (0, 0), (4, 0), (4, 0), (4, 0), (4, 0), (4, 0), (4, 0), (4, 0), (4, 0), (4, 0), (0, 0), (0, 0), (0, 0), (0, 0)]), (1, 1, []), (1, 1, []), (1, 1, []), (1, 1, []), (1, 1, []), (1, 1, []), (1, 1, []), (1, 1, []), (0, 8, [(0, 0), (0, 0), (4, 0), (4, 0), (4, 0), (4, 0), (4, 0), (4, 0), (4, 0), (4, 0), (4, 0), (0, 0), (0, 0)]), (1, 1, []), (1, 1, []), (1, 1, []), (1, 1, []), (1, 1, []), (1, 1, []), (1, 1, []), (1, 1, []), (0, 7, [(4, 0), (0, 0), (1, 0), (0, 0), (0, 0)]), (1, 0, []), (0, 7, [(4, 0), (0, 0), (1, 0), (0, 0), (0, 0)]), (1, 0, []), (0, 8, [(0, 0), (0, 0), (4, 0), (4, 0), (4, 0), (4, 0), (4, 0), (4, 0), (4, 0), (4, 0), (4, 0), (0, 0), (0, 0)]), (1, 1, []), (1, 1, []), (1, 1, []), (1, 1, []), (1, 1, []), (1, 1, []), (1, 1, []), (1, 1, []), (0, 8, [(0, 0), (0, 0), (4, 0), (4, 0), (4, 0), (4, 0), (4, 0), (4, 0), (4, 0), (4, 0), (4, 0), (0, 0), (0, 0)]), (1, 1, []), (1, 1, []), (1, 1, []), (1, 1, []), (1, 1, []), (1, 1, []), (1, 1, []), (1, 1, []), (0, 8, [(0, 0), (0, 0), (4, 0), (4, 0), (4, 0), (4, 0), (4, 0), (4, 0), (4, 0), (4, 0), (4, 0), (0, 0), (0, 0)]), (1, 1, []), (1, 1, []), (1, 1, []), (1, 1, []), (1, 1, []), (1, 1, []), (1, 1, []), (1, 1, []), (0, 8, [(0, 0), (0, 0), (4, 0), (4, 0), (4, 0), (4, 0), (4, 0), (4, 0), (4, 0), (4, 0), (4, 0), (0, 0), (0, 0)]), (1, 1, []), (1, 1, []), (1, 1, []), (1, 1, []), (1, 1, []), (1, 1, []), (1, 1, []), (1, 1, []), (0, 8, [(0, 0), (0, 0), (4, 0), (4, 0), (4, 0), (4, 0), (4, 0), (4, 0), (4, 0), (4, 0), (4, 0), (0, 0), (0, 0)]), (1, 1, []), (1, 1, []), (1, 1, []), (1, 1, []), (1, 1, []), (1, 1, []), (1, 1, []), (1, 1, []), (0, 8, [(0, 0), (0, 0), (4, 0), (4, 0), (4, 0), (4, 0), (4, 0), (4, 0), (4, 0), (4, 0), (4, 0), (0, 0), (0, 0)]), (1, 1, []), (1, 1, []), (1, 1, []), (1, 1, []), (1, 1, []), (1, 1, []), (1, 1, []), (1, 1, []), (0, 8, [(0, 0), (0, 0), (4, 0), (4, 0), (4, 0), (4, 0), (4, 0), (4, 0), (4, 0), (4, 0), (4, 0), (0, 0), (0, 0)]), (1, 1, []), (1, 1, []), (1, 1, []), (1, 1, []), (1, 1, []), (1, 1, []), (1, 1, []), (1, 1, []), (0, 8, [(0, 0), (0, 0), (4, 0), (4, 0), (4, 0), (4, 0), (4, 0), (4, 0), (4, 0), (4, 0), (4, 0), (0, 0), (0, 0)]), (1, 1, []), (1, 1, []), (1, 1, []), (1, 1, []), (1, 1, []), (1, 1, []), (1, 1, []), (1, 1, []), (0, 8, [(0, 0), (0, 0), (4, 0), (4, 0), (4, 0), (4, 0), (4, 0), (4, 0), (4, 0), (4, 0), (4, 0), (0, 0), (0, 0)]), (1, 1, []), (1, 1, []), (1, 1, []), (1, 1, []), (1, 1, []), (1, 1, []), (1, 1, []), (1, 1, []), (1, 1, [])]
set_option maxRecDepth 20000 in
/-- PackHouse.write: this, @F, this.written, this.written.bytes, @F.bytes, this.dictionary, this.dictionary.content, this.dictionary.content.bytes, this.packer, this.packer.settings, this.packer.finder, this.packer.finder.data, this.packer.finder.data.bytes, this.packer.finder.heads, this.packer.finder.back, this.packer.finder.literals, this.packer.finder.lengths, this.packer.finder.distances, this.packer.packed, this.packer.packed.bytes, this.packer.literals, this.packer.literals.bytes, this.packer.told, this.packer.told.bytes, this.packer.byteCounts, this.packer.symbolCounts, this.packer.counts, this.packer.modes, this.packer.ownCodes, this.packer.now, this.packer.now.tables, this.packer.now.latest, this.packer.next, this.packer.next.tables, this.packer.next.latest, this.packer.known, this.packer.ownTables, this.packer.otherTables, this.packer.symbols, this.packer.symbols.0, this.packer.numbers, this.packer.symbols.1, this.packer.symbols.2, this.dictionary.stand, this.dictionary.stand.tables, this.dictionary.stand.latest, this.packer.ownCodes.0, this.packer.ownCodes.0.lengths, this.packer.ownCodes.0.codes, this.packer.ownCodes.0.cells, this.packer.ownCodes.0.weights, this.packer.ownCodes.0.weightCounts, this.packer.ownCodes.0.order, this.packer.ownCodes.0.amounts, this.packer.ownCodes.0.parents, this.packer.ownCodes.0.weightShare, this.packer.ownCodes.0.weightShare.points, this.packer.ownCodes.0.weightShare.masses, this.packer.ownCodes.0.weightShare.mostBits, this.packer.ownCodes.0.weightShare.starts, this.packer.ownCodes.0.weightShare.used, this.packer.ownCodes.0.weightShare.symbolAt, this.packer.ownCodes.0.weightShare.numberAt, this.packer.ownCodes.0.weightShare.placeOf, this.packer.ownCodes.0.orderFive, this.packer.ownCodes.0.orderFive.bytes, this.packer.ownCodes.0.orderSix, this.packer.ownCodes.0.orderSix.bytes, this.packer.ownCodes.1, this.packer.ownCodes.1.lengths, this.packer.ownCodes.1.codes, this.packer.ownCodes.1.cells, this.packer.ownCodes.1.weights, this.packer.ownCodes.1.weightCounts, this.packer.ownCodes.1.order, this.packer.ownCodes.1.amounts, this.packer.ownCodes.1.parents, this.packer.ownCodes.1.weightShare, this.packer.ownCodes.1.weightShare.points, this.packer.ownCodes.1.weightShare.masses, this.packer.ownCodes.1.weightShare.mostBits, this.packer.ownCodes.1.weightShare.starts, this.packer.ownCodes.1.weightShare.used, this.packer.ownCodes.1.weightShare.symbolAt, this.packer.ownCodes.1.weightShare.numberAt, this.packer.ownCodes.1.weightShare.placeOf, this.packer.ownCodes.1.orderFive, this.packer.ownCodes.1.orderFive.bytes, this.packer.ownCodes.1.orderSix, this.packer.ownCodes.1.orderSix.bytes, this.packer.known.0, this.packer.known.0.points, this.packer.known.0.masses, this.packer.known.0.mostBits, this.packer.known.0.starts, this.packer.known.0.symbolAt, this.packer.known.0.numberAt, this.packer.known.0.placeOf, this.packer.known.0.used, this.packer.ownTables.0, this.packer.ownTables.0.points, this.packer.ownTables.0.masses, this.packer.ownTables.0.mostBits, this.packer.ownTables.0.starts, this.packer.ownTables.0.used, this.packer.ownTables.0.symbolAt, this.packer.ownTables.0.numberAt, this.packer.ownTables.0.placeOf, this.packer.otherTables.0, this.packer.otherTables.0.points, this.packer.otherTables.0.masses, this.packer.otherTables.0.mostBits, this.packer.otherTables.0.starts, this.packer.otherTables.0.used, this.packer.otherTables.0.symbolAt, this.packer.otherTables.0.numberAt, this.packer.otherTables.0.placeOf, this.packer.known.1, this.packer.known.1.points, this.packer.known.1.masses, this.packer.known.1.mostBits, this.packer.known.1.starts, this.packer.known.1.symbolAt, this.packer.known.1.numberAt, this.packer.known.1.placeOf, this.packer.known.1.used, this.packer.ownTables.1, this.packer.ownTables.1.points, this.packer.ownTables.1.masses, this.packer.ownTables.1.mostBits, this.packer.ownTables.1.starts, this.packer.ownTables.1.used, this.packer.ownTables.1.symbolAt, this.packer.ownTables.1.numberAt, this.packer.ownTables.1.placeOf, this.packer.otherTables.1, this.packer.otherTables.1.points, this.packer.otherTables.1.masses, this.packer.otherTables.1.mostBits, this.packer.otherTables.1.starts, this.packer.otherTables.1.used, this.packer.otherTables.1.symbolAt, this.packer.otherTables.1.numberAt, this.packer.otherTables.1.placeOf, this.packer.known.2, this.packer.known.2.points, this.packer.known.2.masses, this.packer.known.2.mostBits, this.packer.known.2.starts, this.packer.known.2.symbolAt, this.packer.known.2.numberAt, this.packer.known.2.placeOf, this.packer.known.2.used, this.packer.ownTables.2, this.packer.ownTables.2.points, this.packer.ownTables.2.masses, this.packer.ownTables.2.mostBits, this.packer.ownTables.2.starts, this.packer.ownTables.2.used, this.packer.ownTables.2.symbolAt, this.packer.ownTables.2.numberAt, this.packer.ownTables.2.placeOf, this.packer.otherTables.2, this.packer.otherTables.2.points, this.packer.otherTables.2.masses, this.packer.otherTables.2.mostBits, this.packer.otherTables.2.starts, this.packer.otherTables.2.used, this.packer.otherTables.2.symbolAt, this.packer.otherTables.2.numberAt, this.packer.otherTables.2.placeOf, this.checkCounts -/
theorem C17_vD4n {σE : rS} {D N : Nat → Nat} {F : hF} {A : hA} {d c s : Nat} {Q : wQ} (H : HW V17_vD4n σE D N F A) (HT : STC σE) {x1 : Int} (pf2 : F 0 5 = (D 2 : Int)) (pf3 : F 2 0 = (D 3 : Int)) (pf4 : F 1 0 = (D 4 : Int)) (pf5 : F 0 3 = (D 5 : Int)) (pf6 : F 5 0 = (D 6 : Int)) (pf7 : F 6 0 = (D 7 : Int)) (pf8 : F 0 11 = (D 8 : Int)) (pf9 : F 8 0 = (D 9 : Int)) (pf10 : F 8 1 = (D 10 : Int)) (pf11 : F 10 0 = (D 11 : Int)) (pf12 : F 11 0 = (D 12 : Int)) (pf13 : F 10 7 = (D 13 : Int)) (pf14 : F 10 8 = (D 14 : Int)) (pf15 : F 10 1 = (D 15 : Int)) (pf16 : F 10 2 = (D 16 : Int)) (pf17 : F 10 3 = (D 17 : Int)) (pf18 : F 8 8 = (D 18 : Int)) (pf19 : F 18 0 = (D 19 : Int)) (pf20 : F 8 9 = (D 20 : Int)) (pf21 : F 20 0 = (D 21 : Int)) (pf22 : F 8 10 = (D 22 : Int)) (pf23 : F 22 0 = (D 23 : Int)) (pf24 : F 8 11 = (D 24 : Int)) (pf25 : F 8 12 = (D 25 : Int)) (pf26 : F 8 18 = (D 26 : Int)) (pf27 : F 8 17 = (D 27 : Int)) (pf28 : F 8 3 = (D 28 : Int)) (pf29 : F 8 6 = (D 29 : Int)) (pf30 : F 29 1 = (D 30 : Int)) (pf31 : F 29 2 = (D 31 : Int)) (pf32 : F 8 7 = (D 32 : Int)) (pf33 : F 32 1 = (D 33 : Int)) (pf34 : F 32 2 = (D 34 : Int)) (pf35 : F 8 2 = (D 35 : Int)) (pf36 : F 8 4 = (D 36 : Int)) (pf37 : F 8 5 = (D 37 : Int)) (pf38 : F 8 13 = (D 38 : Int)) (pf39 : A 38 0 = (D 39 : Int)) (pf40 : F 8 14 = (D 40 : Int)) (pf41 : A 38 1 = (D 41 : Int)) (pf42 : A 38 2 = (D 42 : Int)) (pf43 : F 5 1 = (D 43 : Int)) (pf44 : F 43 1 = (D 44 : Int)) (pf45 : F 43 2 = (D 45 : Int)) (pf46 : A 28 0 = (D 46 : Int)) (pf47 : F 46 0 = (D 47 : Int)) (pf48 : F 46 1 = (D 48 : Int)) (pf49 : F 46 2 = (D 49 : Int)) (pf50 : F 46 4 = (D 50 : Int)) (pf51 : F 46 5 = (D 51 : Int)) (pf52 : F 46 10 = (D 52 : Int)) (pf53 : F 46 11 = (D 53 : Int)) (pf54 : F 46 12 = (D 54 : Int)) (pf55 : F 46 6 = (D 55 : Int)) (pf56 : F 55 2 = (D 56 : Int)) (pf57 : F 55 3 = (D 57 : Int)) (pf58 : F 55 4 = (D 58 : Int)) (pf59 : F 55 5 = (D 59 : Int)) (pf60 : F 55 6 = (D 60 : Int)) (pf61 : F 55 7 = (D 61 : Int)) (pf62 : F 55 8 = (D 62 : Int)) (pf63 : F 55 9 = (D 63 : Int)) (pf64 : F 46 7 = (D 64 : Int)) (pf65 : F 64 0 = (D 65 : Int)) (pf66 : F 46 8 = (D 66 : Int)) (pf67 : F 66 0 = (D 67 : Int)) (pf68 : A 28 1 = (D 68 : Int)) (pf69 : F 68 0 = (D 69 : Int)) (pf70 : F 68 1 = (D 70 : Int)) (pf71 : F 68 2 = (D 71 : Int)) (pf72 : F 68 4 = (D 72 : Int)) (pf73 : F 68 5 = (D 73 : Int)) (pf74 : F 68 10 = (D 74 : Int)) (pf75 : F 68 11 = (D 75 : Int)) (pf76 : F 68 12 = (D 76 : Int)) (pf77 : F 68 6 = (D 77 : Int)) (pf78 : F 77 2 = (D 78 : Int)) (pf79 : F 77 3 = (D 79 : Int)) (pf80 : F 77 4 = (D 80 : Int)) (pf81 : F 77 5 = (D 81 : Int)) (pf82 : F 77 6 = (D 82 : Int)) (pf83 : F 77 7 = (D 83 : Int)) (pf84 : F 77 8 = (D 84 : Int)) (pf85 : F 77 9 = (D 85 : Int)) (pf86 : F 68 7 = (D 86 : Int)) (pf87 : F 86 0 = (D 87 : Int)) (pf88 : F 68 8 = (D 88 : Int)) (pf89 : F 88 0 = (D 89 : Int)) (pf90 : A 35 0 = (D 90 : Int)) (pf91 : F 90 2 = (D 91 : Int)) (pf92 : F 90 3 = (D 92 : Int)) (pf93 : F 90 4 = (D 93 : Int)) (pf94 : F 90 5 = (D 94 : Int)) (pf95 : F 90 7 = (D 95 : Int)) (pf96 : F 90 8 = (D 96 : Int)) (pf97 : F 90 9 = (D 97 : Int)) (pf98 : F 90 6 = (D 98 : Int)) (pf99 : A 36 0 = (D 99 : Int)) (pf100 : F 99 2 = (D 100 : Int)) (pf101 : F 99 3 = (D 101 : Int)) (pf102 : F 99 4 = (D 102 : Int)) (pf103 : F 99 5 = (D 103 : Int)) (pf104 : F 99 6 = (D 104 : Int)) (pf105 : F 99 7 = (D 105 : Int)) (pf106 : F 99 8 = (D 106 : Int)) (pf107 : F 99 9 = (D 107 : Int)) (pf108 : A 37 0 = (D 108 : Int)) (pf109 : F 108 2 = (D 109 : Int)) (pf110 : F 108 3 = (D 110 : Int)) (pf111 : F 108 4 = (D 111 : Int)) (pf112 : F 108 5 = (D 112 : Int)) (pf113 : F 108 6 = (D 113 : Int)) (pf114 : F 108 7 = (D 114 : Int)) (pf115 : F 108 8 = (D 115 : Int)) (pf116 : F 108 9 = (D 116 : Int)) (pf117 : A 35 1 = (D 117 : Int)) (pf118 : F 117 2 = (D 118 : Int)) (pf119 : F 117 3 = (D 119 : Int)) (pf120 : F 117 4 = (D 120 : Int)) (pf121 : F 117 5 = (D 121 : Int)) (pf122 : F 117 7 = (D 122 : Int)) (pf123 : F 117 8 = (D 123 : Int)) (pf124 : F 117 9 = (D 124 : Int)) (pf125 : F 117 6 = (D 125 : Int)) (pf126 : A 36 1 = (D 126 : Int)) (pf127 : F 126 2 = (D 127 : Int)) (pf128 : F 126 3 = (D 128 : Int)) (pf129 : F 126 4 = (D 129 : Int)) (pf130 : F 126 5 = (D 130 : Int)) (pf131 : F 126 6 = (D 131 : Int)) (pf132 : F 126 7 = (D 132 : Int)) (pf133 : F 126 8 = (D 133 : Int)) (pf134 : F 126 9 = (D 134 : Int)) (pf135 : A 37 1 = (D 135 : Int)) (pf136 : F 135 2 = (D 136 : Int)) (pf137 : F 135 3 = (D 137 : Int)) (pf138 : F 135 4 = (D 138 : Int)) (pf139 : F 135 5 = (D 139 : Int)) (pf140 : F 135 6 = (D 140 : Int)) (pf141 : F 135 7 = (D 141 : Int)) (pf142 : F 135 8 = (D 142 : Int)) (pf143 : F 135 9 = (D 143 : Int)) (pf144 : A 35 2 = (D 144 : Int)) (pf145 : F 144 2 = (D 145 : Int)) (pf146 : F 144 3 = (D 146 : Int)) (pf147 : F 144 4 = (D 147 : Int)) (pf148 : F 144 5 = (D 148 : Int)) (pf149 : F 144 7 = (D 149 : Int)) (pf150 : F 144 8 = (D 150 : Int)) (pf151 : F 144 9 = (D 151 : Int)) (pf152 : F 144 6 = (D 152 : Int)) (pf153 : A 36 2 = (D 153 : Int)) (pf154 : F 153 2 = (D 154 : Int)) (pf155 : F 153 3 = (D 155 : Int)) (pf156 : F 153 4 = (D 156 : Int)) (pf157 : F 153 5 = (D 157 : Int)) (pf158 : F 153 6 = (D 158 : Int)) (pf159 : F 153 7 = (D 159 : Int)) (pf160 : F 153 8 = (D 160 : Int)) (pf161 : F 153 9 = (D 161 : Int)) (pf162 : A 37 2 = (D 162 : Int)) (pf163 : F 162 2 = (D 163 : Int)) (pf164 : F 162 3 = (D 164 : Int)) (pf165 : F 162 4 = (D 165 : Int)) (pf166 : F 162 5 = (D 166 : Int)) (pf167 : F 162 6 = (D 167 : Int)) (pf168 : F 162 7 = (D 168 : Int)) (pf169 : F 162 8 = (D 169 : Int)) (pf170 : F 162 9 = (D 170 : Int)) (pf171 : F 0 15 = (D 171 : Int)) (n3 : Int) (en3 : (N 3 : Int) = n3) (n4 : Int) (en4 : (N 4 : Int) = n4) (n7 : Int) (en7 : (N 7 : Int) = n7) (n9 : Int) (en9 : (N 9 : Int) = n9) (n12 : Int) (en12 : (N 12 : Int) = n12) (n13 : Int) (en13 : (N 13 : Int) = n13) (n14 : Int) (en14 : (N 14 : Int) = n14) (n15 : Int) (en15 : (N 15 : Int) = n15) (n16 : Int) (en16 : (N 16 : Int) = n16) (n17 : Int) (en17 : (N 17 : Int) = n17) (n19 : Int) (en19 : (N 19 : Int) = n19) (n21 : Int) (en21 : (N 21 : Int) = n21) (n23 : Int) (en23 : (N 23 : Int) = n23) (n24 : Int) (en24 : (N 24 : Int) = n24) (n25 : Int) (en25 : (N 25 : Int) = n25) (n26 : Int) (en26 : (N 26 : Int) = n26) (n27 : Int) (en27 : (N 27 : Int) = n27) (n28 : Int) (en28 : (N 28 : Int) = n28) (n30 : Int) (en30 : (N 30 : Int) = n30) (n31 : Int) (en31 : (N 31 : Int) = n31) (n33 : Int) (en33 : (N 33 : Int) = n33) (n34 : Int) (en34 : (N 34 : Int) = n34) (n35 : Int) (en35 : (N 35 : Int) = n35) (n36 : Int) (en36 : (N 36 : Int) = n36) (n37 : Int) (en37 : (N 37 : Int) = n37) (n38 : Int) (en38 : (N 38 : Int) = n38) (n39 : Int) (en39 : (N 39 : Int) = n39) (n40 : Int) (en40 : (N 40 : Int) = n40) (n41 : Int) (en41 : (N 41 : Int) = n41) (n42 : Int) (en42 : (N 42 : Int) = n42) (n44 : Int) (en44 : (N 44 : Int) = n44) (n45 : Int) (en45 : (N 45 : Int) = n45) (n47 : Int) (en47 : (N 47 : Int) = n47) (n48 : Int) (en48 : (N 48 : Int) = n48) (n49 : Int) (en49 : (N 49 : Int) = n49) (n50 : Int) (en50 : (N 50 : Int) = n50) (n51 : Int) (en51 : (N 51 : Int) = n51) (n52 : Int) (en52 : (N 52 : Int) = n52) (n53 : Int) (en53 : (N 53 : Int) = n53) (n54 : Int) (en54 : (N 54 : Int) = n54) (n56 : Int) (en56 : (N 56 : Int) = n56) (n57 : Int) (en57 : (N 57 : Int) = n57) (n58 : Int) (en58 : (N 58 : Int) = n58) (n59 : Int) (en59 : (N 59 : Int) = n59) (n60 : Int) (en60 : (N 60 : Int) = n60) (n61 : Int) (en61 : (N 61 : Int) = n61) (n62 : Int) (en62 : (N 62 : Int) = n62) (n63 : Int) (en63 : (N 63 : Int) = n63) (n65 : Int) (en65 : (N 65 : Int) = n65) (n67 : Int) (en67 : (N 67 : Int) = n67) (n69 : Int) (en69 : (N 69 : Int) = n69) (n70 : Int) (en70 : (N 70 : Int) = n70) (n71 : Int) (en71 : (N 71 : Int) = n71) (n72 : Int) (en72 : (N 72 : Int) = n72) (n73 : Int) (en73 : (N 73 : Int) = n73) (n74 : Int) (en74 : (N 74 : Int) = n74) (n75 : Int) (en75 : (N 75 : Int) = n75) (n76 : Int) (en76 : (N 76 : Int) = n76) (n78 : Int) (en78 : (N 78 : Int) = n78) (n79 : Int) (en79 : (N 79 : Int) = n79) (n80 : Int) (en80 : (N 80 : Int) = n80) (n81 : Int) (en81 : (N 81 : Int) = n81) (n82 : Int) (en82 : (N 82 : Int) = n82) (n83 : Int) (en83 : (N 83 : Int) = n83) (n84 : Int) (en84 : (N 84 : Int) = n84) (n85 : Int) (en85 : (N 85 : Int) = n85) (n87 : Int) (en87 : (N 87 : Int) = n87) (n89 : Int) (en89 : (N 89 : Int) = n89) (n91 : Int) (en91 : (N 91 : Int) = n91) (n92 : Int) (en92 : (N 92 : Int) = n92) (n93 : Int) (en93 : (N 93 : Int) = n93) (n94 : Int) (en94 : (N 94 : Int) = n94) (n95 : Int) (en95 : (N 95 : Int) = n95) (n96 : Int) (en96 : (N 96 : Int) = n96) (n97 : Int) (en97 : (N 97 : Int) = n97) (n98 : Int) (en98 : (N 98 : Int) = n98) (n100 : Int) (en100 : (N 100 : Int) = n100) (n101 : Int) (en101 : (N 101 : Int) = n101) (n102 : Int) (en102 : (N 102 : Int) = n102) (n103 : Int) (en103 : (N 103 : Int) = n103) (n104 : Int) (en104 : (N 104 : Int) = n104) (n105 : Int) (en105 : (N 105 : Int) = n105) (n106 : Int) (en106 : (N 106 : Int) = n106) (n107 : Int) (en107 : (N 107 : Int) = n107) (n109 : Int) (en109 : (N 109 : Int) = n109) (n110 : Int) (en110 : (N 110 : Int) = n110) (n111 : Int) (en111 : (N 111 : Int) = n111) (n112 : Int) (en112 : (N 112 : Int) = n112) (n113 : Int) (en113 : (N 113 : Int) = n113) (n114 : Int) (en114 : (N 114 : Int) = n114) (n115 : Int) (en115 : (N 115 : Int) = n115) (n116 : Int) (en116 : (N 116 : Int) = n116) (n118 : Int) (en118 : (N 118 : Int) = n118) (n119 : Int) (en119 : (N 119 : Int) = n119) (n120 : Int) (en120 : (N 120 : Int) = n120) (n121 : Int) (en121 : (N 121 : Int) = n121) (n122 : Int) (en122 : (N 122 : Int) = n122) (n123 : Int) (en123 : (N 123 : Int) = n123) (n124 : Int) (en124 : (N 124 : Int) = n124) (n125 : Int) (en125 : (N 125 : Int) = n125) (n127 : Int) (en127 : (N 127 : Int) = n127) (n128 : Int) (en128 : (N 128 : Int) = n128) (n129 : Int) (en129 : (N 129 : Int) = n129) (n130 : Int) (en130 : (N 130 : Int) = n130) (n131 : Int) (en131 : (N 131 : Int) = n131) (n132 : Int) (en132 : (N 132 : Int) = n132) (n133 : Int) (en133 : (N 133 : Int) = n133) (n134 : Int) (en134 : (N 134 : Int) = n134) (n136 : Int) (en136 : (N 136 : Int) = n136) (n137 : Int) (en137 : (N 137 : Int) = n137) (n138 : Int) (en138 : (N 138 : Int) = n138) (n139 : Int) (en139 : (N 139 : Int) = n139) (n140 : Int) (en140 : (N 140 : Int) = n140) (n141 : Int) (en141 : (N 141 : Int) = n141) (n142 : Int) (en142 : (N 142 : Int) = n142) (n143 : Int) (en143 : (N 143 : Int) = n143) (n145 : Int) (en145 : (N 145 : Int) = n145) (n146 : Int) (en146 : (N 146 : Int) = n146) (n147 : Int) (en147 : (N 147 : Int) = n147) (n148 : Int) (en148 : (N 148 : Int) = n148) (n149 : Int) (en149 : (N 149 : Int) = n149) (n150 : Int) (en150 : (N 150 : Int) = n150) (n151 : Int) (en151 : (N 151 : Int) = n151) (n152 : Int) (en152 : (N 152 : Int) = n152) (n154 : Int) (en154 : (N 154 : Int) = n154) (n155 : Int) (en155 : (N 155 : Int) = n155) (n156 : Int) (en156 : (N 156 : Int) = n156) (n157 : Int) (en157 : (N 157 : Int) = n157) (n158 : Int) (en158 : (N 158 : Int) = n158) (n159 : Int) (en159 : (N 159 : Int) = n159) (n160 : Int) (en160 : (N 160 : Int) = n160) (n161 : Int) (en161 : (N 161 : Int) = n161) (n163 : Int) (en163 : (N 163 : Int) = n163) (n164 : Int) (en164 : (N 164 : Int) = n164) (n165 : Int) (en165 : (N 165 : Int) = n165) (n166 : Int) (en166 : (N 166 : Int) = n166) (n167 : Int) (en167 : (N 167 : Int) = n167) (n168 : Int) (en168 : (N 168 : Int) = n168) (n169 : Int) (en169 : (N 169 : Int) = n169) (n170 : Int) (en170 : (N 170 : Int) = n170) (n171 : Int) (en171 : (N 171 : Int) = n171) (u1_1 : Int) (eu1_1 : F 1 1 = u1_1) (u2_1 : Int) (eu2_1 : F 2 1 = u2_1) (u2_2 : Int) (eu2_2 : F 2 2 = u2_2) (u5_2 : Int) (eu5_2 : F 5 2 = u5_2) (u6_1 : Int) (eu6_1 : F 6 1 = u6_1) (u11_1 : Int) (eu11_1 : F 11 1 = u11_1) (u18_1 : Int) (eu18_1 : F 18 1 = u18_1) (u20_1 : Int) (eu20_1 : F 20 1 = u20_1) (u22_1 : Int) (eu22_1 : F 22 1 = u22_1) (u43_0 : Int) (eu43_0 : F 43 0 = u43_0) (u55_1 : Int) (eu55_1 : F 55 1 = u55_1) (u64_1 : Int) (eu64_1 : F 64 1 = u64_1) (u66_1 : Int) (eu66_1 : F 66 1 = u66_1) (u77_1 : Int) (eu77_1 : F 77 1 = u77_1) (u86_1 : Int) (eu86_1 : F 86 1 = u86_1) (u88_1 : Int) (eu88_1 : F 88 1 = u88_1) (u90_0 : Int) (eu90_0 : F 90 0 = u90_0) (u90_1 : Int) (eu90_1 : F 90 1 = u90_1) (u99_1 : Int) (eu99_1 : F 99 1 = u99_1) (u108_1 : Int) (eu108_1 : F 108 1 = u108_1) (u117_0 : Int) (eu117_0 : F 117 0 = u117_0) (u117_1 : Int) (eu117_1 : F 117 1 = u117_1) (u126_1 : Int) (eu126_1 : F 126 1 = u126_1) (u135_1 : Int) (eu135_1 : F 135 1 = u135_1) (u144_0 : Int) (eu144_0 : F 144 0 = u144_0) (u144_1 : Int) (eu144_1 : F 144 1 = u144_1) (u153_1 : Int) (eu153_1 : F 153 1 = u153_1) (u162_1 : Int) (eu162_1 : F 162 1 = u162_1) (w3 : Int → Int) (ew3 : A 3 = w3) (w4 : Int → Int) (ew4 : A 4 = w4) (w7 : Int → Int) (ew7 : A 7 = w7) (w9 : Int → Int) (ew9 : A 9 = w9) (w27 : Int → Int) (ew27 : A 27 = w27) (w44 : Int → Int) (ew44 : A 44 = w44) (w45 : Int → Int) (ew45 : A 45 = w45) (w49 : Int → Int) (ew49 : A 49 = w49) (w71 : Int → Int) (ew71 : A 71 = w71) (w91 : Int → Int) (ew91 : A 91 = w91) (w92 : Int → Int) (ew92 : A 92 = w92) (w93 : Int → Int) (ew93 : A 93 = w93) (w94 : Int → Int) (ew94 : A 94 = w94) (w95 : Int → Int) (ew95 : A 95 = w95) (w96 : Int → Int) (ew96 : A 96 = w96) (w97 : Int → Int) (ew97 : A 97 = w97) (w118 : Int → Int) (ew118 : A 118 = w118) (w119 : Int → Int) (ew119 : A 119 = w119) (w120 : Int → Int) (ew120 : A 120 = w120) (w121 : Int → Int) (ew121 : A 121 = w121) (w122 : Int → Int) (ew122 : A 122 = w122) (w123 : Int → Int) (ew123 : A 123 = w123) (w124 : Int → Int) (ew124 : A 124 = w124) (w145 : Int → Int) (ew145 : A 145 = w145) (w146 : Int → Int) (ew146 : A 146 = w146) (w147 : Int → Int) (ew147 : A 147 = w147) (w148 : Int → Int) (ew148 : A 148 = w148) (w149 : Int → Int) (ew149 : A 149 = w149) (w150 : Int → Int) (ew150 : A 150 = w150) (w151 : Int → Int) (ew151 : A 151 = w151) (st0 : WSt) (Dc : DcS) {ls : rO} (hl0 : rlook ls 0 = some (.ref (D 0))) (hl1 : rlook ls 1 = some (I (x1))) (hl3 : rlook ls 3 = some (I (4))) (hl4 : rlook ls 4 = some (.ref (D 1))) (hl5 : rlook ls 5 = some (I (1))) (h0 : inr (x1)) (h1 : 0 ≤ (u2_1) ∧ (u2_1) ≤ (n3) ∧ (n3) ≤ 65536) (h2 : 0 ≤ (u1_1) ∧ (u1_1) ≤ (n4) ∧ (n4) ≤ 65536) (h3 : 0 ≤ (u6_1) ∧ (u6_1) ≤ (n7) ∧ (n7) ≤ 65536) (h4 : (u6_1) + (u1_1) ≤ 16384) (h5 : 1 ≤ ((w9)) 1 ∧ ((w9)) 1 ≤ 8) (h6 : 3 ≤ ((w9)) 1) (h7 : 0 ≤ ((w9)) 7 ∧ ((w9)) 7 ≤ 15) (h8 : 0 ≤ ((w9)) 8 ∧ ((w9)) 8 ≤ 11) (h9 : 1 ≤ ((w9)) 2 ∧ ((w9)) 2 ≤ 65536) (h10 : 0 ≤ (u11_1) ∧ (u11_1) ≤ (n12) ∧ (n12) ≤ 65536) (h11 : (n13) = 0 ∨ (n13) = 2048) (h12 : (n14) ≤ 16384) (h13 : (n15) = (n16) ∧ (n17) = (n16) ∧ (n16) ≤ 65536 ∧ ((n16) = 0 ∨ 64 ≤ (n16)) ∧ lgq ((n16)) = 0) (h14 : 0 ≤ (u18_1) ∧ (u18_1) ≤ (n19) ∧ (n19) ≤ 65536) (h15 : 0 ≤ (u20_1) ∧ (u20_1) ≤ (n21) ∧ (n21) ≤ 65536) (h16 : 0 ≤ (u22_1) ∧ (u22_1) ≤ (n23) ∧ (n23) ≤ 65536) (h17 : (n9) = 10 ∧ (n24) = 256 ∧ (n25) = 53 ∧ (n26) = 13 ∧ (n27) = 3 ∧ (n28) = 2 ∧ (n30) = 3 ∧ (n31) = 3 ∧ (n33) = 3 ∧ (n34) = 3 ∧ (n35) = 3 ∧ (n36) = 3 ∧ (n37) = 3) (h18 : (n38) = 3 ∧ (n39) = (n40) ∧ (n41) = (n40) ∧ (n42) = (n40) ∧ lgq ((n40)) = 0 ∧ (n40) ≤ 16384) (h19 : (n44) = 3 ∧ (n45) = 3) (h20 : CDZD ((n47)) ((n48)) ((n49)) ((n50)) ((n51)) ((n52)) ((n53)) ((n54))) (h21 : SHZD ((n56)) ((n57)) ((n58)) ((n59)) ((n60)) ((n61)) ((n62)) ((n63)) ((u55_1)) 12 64) (h22 : 0 ≤ (u64_1) ∧ (u64_1) ≤ (n65) ∧ (n65) ≤ 65536) (h23 : 0 ≤ (u66_1) ∧ (u66_1) ≤ (n67) ∧ (n67) ≤ 65536) (h24 : CEL ((w49))) (h25 : CDZD ((n69)) ((n70)) ((n71)) ((n72)) ((n73)) ((n74)) ((n75)) ((n76))) (h26 : SHZD ((n78)) ((n79)) ((n80)) ((n81)) ((n82)) ((n83)) ((n84)) ((n85)) ((u77_1)) 12 64) (h27 : 0 ≤ (u86_1) ∧ (u86_1) ≤ (n87) ∧ (n87) ≤ 65536) (h28 : 0 ≤ (u88_1) ∧ (u88_1) ≤ (n89) ∧ (n89) ≤ 65536) (h29 : CEL ((w71))) (h30 : SL ((w91)) ((u90_1)) ((u90_0)) ((w92)) ((w93)) ((w94)) ((w95)) ((w96)) ((w97))) (h31 : SZD ((n91)) ((n92)) ((n93)) ((n94)) ((n98)) ((n95)) ((n96)) ((n97)) ((u90_1)) ((u90_0))) (h32 : SHZD ((n100)) ((n101)) ((n102)) ((n103)) ((n104)) ((n105)) ((n106)) ((n107)) ((u99_1)) 36 512) (h33 : SHZD ((n109)) ((n110)) ((n111)) ((n112)) ((n113)) ((n114)) ((n115)) ((n116)) ((u108_1)) 36 512) (h34 : SL ((w118)) ((u117_1)) ((u117_0)) ((w119)) ((w120)) ((w121)) ((w122)) ((w123)) ((w124))) (h35 : SZD ((n118)) ((n119)) ((n120)) ((n121)) ((n125)) ((n122)) ((n123)) ((n124)) ((u117_1)) ((u117_0))) (h36 : SHZD ((n127)) ((n128)) ((n129)) ((n130)) ((n131)) ((n132)) ((n133)) ((n134)) ((u126_1)) 32 256) (h37 : SHZD ((n136)) ((n137)) ((n138)) ((n139)) ((n140)) ((n141)) ((n142)) ((n143)) ((u135_1)) 32 256) (h38 : SL ((w145)) ((u144_1)) ((u144_0)) ((w146)) ((w147)) ((w148)) ((w149)) ((w150)) ((w151))) (h39 : SZD ((n145)) ((n146)) ((n147)) ((n148)) ((n152)) ((n149)) ((n150)) ((n151)) ((u144_1)) ((u144_0))) (h40 : SHZD ((n154)) ((n155)) ((n156)) ((n157)) ((n158)) ((n159)) ((n160)) ((n161)) ((u153_1)) 53 512) (h41 : SHZD ((n163)) ((n164)) ((n165)) ((n166)) ((n167)) ((n168)) ((n169)) ((n170)) ((u162_1)) 53 512) (h42 : 0 ≤ ((w27)) 0 ∧ ((w27)) 0 ≤ 3 ∧ 0 ≤ ((w27)) 1 ∧ ((w27)) 1 ≤ 3 ∧ 0 ≤ ((w27)) 2 ∧ ((w27)) 2 ≤ 3) (h43 : (u43_0) = -1) (h44 : ((w44)) 0 = -1) (h45 : ((w44)) 1 = -1) (h46 : ((w44)) 2 = -1) (h47 : IMP ((u43_0) = -1) (st0.1 = none)) (h48 : IMP (((w44)) 0 = -1) ((st0.2.1 0).1 < 0)) (h49 : IMP (((w44)) 1 = -1) ((st0.2.1 1).1 < 0)) (h50 : IMP (((w44)) 2 = -1) ((st0.2.1 2).1 < 0)) (h51 : TOK (st0.2.1 0)) (h52 : TOK (st0.2.1 1)) (h53 : TOK (st0.2.1 2)) (h54 : st0.2.2.1 = (((w45)) 0, ((w45)) 1, ((w45)) 2)) (h55 : 1 ≤ ((w45)) 0 ∧ 1 ≤ ((w45)) 1 ∧ 1 ≤ ((w45)) 2) (h56 : ∀ i, 0 ≤ i → i < 12 → st0.2.2.2 i = 0) (h57 : SHX (KNX 0) ((u90_0)) ((u90_1)) ((w91))) (h58 : SHX (KNX 1) ((u117_0)) ((u117_1)) ((w118))) (h59 : SHX (KNX 2) ((u144_0)) ((u144_1)) ((w145))) (h60 : (u2_1) = 0) (h61 : (u2_2) = 0) (h62 : Dc.1 = sc ((w7)) 0 ((u6_1))) (h63 : Dc.2.1 = (u5_2) % 4294967296) (hc236 : ∀ (tc236_2 : Int), ∀ (tc236_3 : Int), ∀ (ls : rO) (σ : rS) (D_c236 N_c236 : Nat → Nat) (c_c236 s_c236 : Nat) (F_c236 : hF) (A_c236 : hA) , rlook ls 0 = some (.ref (D_c236 0)) → rlook ls 1 = some (I (x1)) → rlook ls 3 = some (I (4)) → rlook ls 4 = some (.ref (D_c236 1)) → HW V17_vD4n σ D_c236 N_c236 F_c236 A_c236 → OUT (V17_vD4n).length D N σE c s D_c236 N_c236 σ c_c236 s_c236 → SD [3, 12, 13, 14, 15, 16, 17, 19, 21, 23, 38, 39, 40, 41, 42, 65, 67, 87, 89] D D_c236 → SD [3, 12, 13, 14, 15, 16, 17, 19, 21, 23, 38, 39, 40, 41, 42, 65, 67, 87, 89] N N_c236 → SF [(2, 0), (2, 1), (2, 2), (8, 13), (8, 14), (8, 15), (8, 16), (10, 1), (10, 2), (10, 3), (10, 4), (10, 5), (10, 6), (10, 7), (10, 8), (10, 9), (10, 10), (10, 11), (10, 12), (10, 13), (10, 14), (10, 15), (10, 16), (10, 17), (10, 18), (11, 0), (11, 1), (11, 2), (11, 3), (11, 4), (18, 0), (18, 1), (18, 2), (18, 3), (18, 4), (20, 0), (20, 1), (20, 2), (20, 3), (20, 4), (22, 0), (22, 1), (22, 2), (22, 3), (22, 4), (29, 0), (32, 0), (46, 3), (46, 13), (46, 14), (46, 15), (46, 16), (55, 0), (64, 0), (64, 1), (64, 2), (64, 3), (64, 4), (66, 0), (66, 1), (66, 2), (66, 3), (66, 4), (68, 3), (68, 13), (68, 14), (68, 15), (68, 16), (77, 0), (86, 0), (86, 1), (86, 2), (86, 3), (86, 4), (88, 0), (88, 1), (88, 2), (88, 3), (88, 4), (99, 0), (108, 0), (126, 0), (135, 0), (153, 0), (162, 0)] F F_c236 → SA [3, 12, 13, 14, 15, 16, 17, 19, 21, 23, 24, 25, 26, 27, 30, 31, 33, 34, 38, 39, 40, 41, 42, 47, 48, 49, 50, 51, 52, 53, 54, 56, 57, 58, 59, 60, 61, 62, 63, 65, 67, 69, 70, 71, 72, 73, 74, 75, 76, 78, 79, 80, 81, 82, 83, 84, 85, 87, 89, 100, 101, 102, 103, 104, 105, 106, 107, 109, 110, 111, 112, 113, 114, 115, 116, 127, 128, 129, 130, 131, 132, 133, 134, 136, 137, 138, 139, 140, 141, 142, 143, 154, 155, 156, 157, 158, 159, 160, 161, 163, 164, 165, 166, 167, 168, 169, 170] A A_c236 → F_c236 2 0 = (D_c236 3 : Int) → F_c236 11 0 = (D_c236 12 : Int) → F_c236 10 7 = (D_c236 13 : Int) → F_c236 10 8 = (D_c236 14 : Int) → F_c236 10 1 = (D_c236 15 : Int) → F_c236 10 2 = (D_c236 16 : Int) → F_c236 10 3 = (D_c236 17 : Int) → F_c236 18 0 = (D_c236 19 : Int) → F_c236 20 0 = (D_c236 21 : Int) → F_c236 22 0 = (D_c236 23 : Int) → F_c236 8 13 = (D_c236 38 : Int) → A_c236 38 0 = (D_c236 39 : Int) → F_c236 8 14 = (D_c236 40 : Int) → A_c236 38 1 = (D_c236 41 : Int) → A_c236 38 2 = (D_c236 42 : Int) → F_c236 64 0 = (D_c236 65 : Int) → F_c236 66 0 = (D_c236 67 : Int) → F_c236 86 0 = (D_c236 87 : Int) → F_c236 88 0 = (D_c236 89 : Int) → ∀ mc236_3 : Int, (N_c236 3 : Int) = mc236_3 → ∀ mc236_12 : Int, (N_c236 12 : Int) = mc236_12 → ∀ mc236_13 : Int, (N_c236 13 : Int) = mc236_13 → ∀ mc236_14 : Int, (N_c236 14 : Int) = mc236_14 → ∀ mc236_15 : Int, (N_c236 15 : Int) = mc236_15 → ∀ mc236_16 : Int, (N_c236 16 : Int) = mc236_16 → ∀ mc236_17 : Int, (N_c236 17 : Int) = mc236_17 → ∀ mc236_19 : Int, (N_c236 19 : Int) = mc236_19 → ∀ mc236_21 : Int, (N_c236 21 : Int) = mc236_21 → ∀ mc236_23 : Int, (N_c236 23 : Int) = mc236_23 → ∀ mc236_38 : Int, (N_c236 38 : Int) = mc236_38 → ∀ mc236_39 : Int, (N_c236 39 : Int) = mc236_39 → ∀ mc236_40 : Int, (N_c236 40 : Int) = mc236_40 → ∀ mc236_41 : Int, (N_c236 41 : Int) = mc236_41 → ∀ mc236_42 : Int, (N_c236 42 : Int) = mc236_42 → ∀ mc236_65 : Int, (N_c236 65 : Int) = mc236_65 → ∀ mc236_67 : Int, (N_c236 67 : Int) = mc236_67 → ∀ mc236_87 : Int, (N_c236 87 : Int) = mc236_87 → ∀ mc236_89 : Int, (N_c236 89 : Int) = mc236_89 → ∀ yc236_2_1 : Int, F_c236 2 1 = yc236_2_1 → ∀ yc236_2_2 : Int, F_c236 2 2 = yc236_2_2 → ∀ yc236_11_1 : Int, F_c236 11 1 = yc236_11_1 → ∀ yc236_18_1 : Int, F_c236 18 1 = yc236_18_1 → ∀ yc236_20_1 : Int, F_c236 20 1 = yc236_20_1 → ∀ yc236_22_1 : Int, F_c236 22 1 = yc236_22_1 → ∀ yc236_64_1 : Int, F_c236 64 1 = yc236_64_1 → ∀ yc236_66_1 : Int, F_c236 66 1 = yc236_66_1 → ∀ yc236_86_1 : Int, F_c236 86 1 = yc236_86_1 → ∀ yc236_88_1 : Int, F_c236 88 1 = yc236_88_1 → ∀ wc236_3 : Int → Int, A_c236 3 = wc236_3 → ∀ wc236_26 : Int → Int, A_c236 26 = wc236_26 → ∀ wc236_27 : Int → Int, A_c236 27 = wc236_27 → ∀ wc236_49 : Int → Int, A_c236 49 = wc236_49 → ∀ wc236_71 : Int → Int, A_c236 71 = wc236_71 → (inr (tc236_2)) → (inr (tc236_3)) → (0 ≤ (yc236_2_1) ∧ (yc236_2_1) ≤ (mc236_3) ∧ (mc236_3) ≤ 65536) → (0 ≤ (yc236_11_1) ∧ (yc236_11_1) ≤ (mc236_12) ∧ (mc236_12) ≤ 65536) → ((mc236_13) = 0 ∨ (mc236_13) = 2048) → ((mc236_14) ≤ 16384) → ((mc236_15) = (mc236_16) ∧ (mc236_17) = (mc236_16) ∧ (mc236_16) ≤ 65536 ∧ ((mc236_16) = 0 ∨ 64 ≤ (mc236_16)) ∧ lgq ((mc236_16)) = 0) → (0 ≤ (yc236_18_1) ∧ (yc236_18_1) ≤ (mc236_19) ∧ (mc236_19) ≤ 65536) → (0 ≤ (yc236_20_1) ∧ (yc236_20_1) ≤ (mc236_21) ∧ (mc236_21) ≤ 65536) → (0 ≤ (yc236_22_1) ∧ (yc236_22_1) ≤ (mc236_23) ∧ (mc236_23) ≤ 65536) → ((mc236_38) = 3 ∧ (mc236_39) = (mc236_40) ∧ (mc236_41) = (mc236_40) ∧ (mc236_42) = (mc236_40) ∧ lgq ((mc236_40)) = 0 ∧ (mc236_40) ≤ 16384) → (0 ≤ (yc236_64_1) ∧ (yc236_64_1) ≤ (mc236_65) ∧ (mc236_65) ≤ 65536) → (0 ≤ (yc236_66_1) ∧ (yc236_66_1) ≤ (mc236_67) ∧ (mc236_67) ≤ 65536) → (CEL ((wc236_49))) → (0 ≤ (yc236_86_1) ∧ (yc236_86_1) ≤ (mc236_87) ∧ (mc236_87) ≤ 65536) → (0 ≤ (yc236_88_1) ∧ (yc236_88_1) ≤ (mc236_89) ∧ (mc236_89) ≤ 65536) → (CEL ((wc236_71))) → (0 ≤ ((wc236_27)) 0 ∧ ((wc236_27)) 0 ≤ 3 ∧ 0 ≤ ((wc236_27)) 1 ∧ ((wc236_27)) 1 ≤ 3 ∧ 0 ≤ ((wc236_27)) 2 ∧ ((wc236_27)) 2 ≤ 3) → ((tc236_2) = 4) → ((tc236_3) = (u1_1)) → ((yc236_2_2) = 0) → (WRY 4 ((w9)) (sc ((w4)) 0 ((u1_1))) [] Dc st0 ((yc236_2_1)) (sc ((wc236_3)) 0 ((yc236_2_1)))) → (CNR ((wc236_26)) (frD ((w9)) (sc ((w4)) 0 ((u1_1))) Dc st0).2) → Ew 17 (d + 7) 236 ls [.ref (D_c236 171), I (tc236_3), I (tc236_2), .ref (D_c236 2), .ref (D_c236 0)] σ c_c236 s_c236 Q) (k : ∀ (z : Int) (σ : rS) (D' N' : Nat → Nat) (F' : hF) (A' : hA) (c' s' : Nat), HW V17_vD4n σ D' N' F' A' → OUT (V17_vD4n).length D N σE c s D' N' σ c' s' → SD [3, 12, 13, 14, 15, 16, 17, 19, 21, 23, 38, 39, 40, 41, 42, 65, 67, 87, 89] D D' → SD [3, 12, 13, 14, 15, 16, 17, 19, 21, 23, 38, 39, 40, 41, 42, 65, 67, 87, 89] N N' → SF [(2, 0), (2, 1), (2, 2), (8, 13), (8, 14), (8, 15), (8, 16), (10, 1), (10, 2), (10, 3), (10, 4), (10, 5), (10, 6), (10, 7), (10, 8), (10, 9), (10, 10), (10, 11), (10, 12), (10, 13), (10, 14), (10, 15), (10, 16), (10, 17), (10, 18), (11, 0), (11, 1), (11, 2), (11, 3), (11, 4), (18, 0), (18, 1), (18, 2), (18, 3), (18, 4), (20, 0), (20, 1), (20, 2), (20, 3), (20, 4), (22, 0), (22, 1), (22, 2), (22, 3), (22, 4), (29, 0), (32, 0), (46, 3), (46, 13), (46, 14), (46, 15), (46, 16), (55, 0), (64, 0), (64, 1), (64, 2), (64, 3), (64, 4), (66, 0), (66, 1), (66, 2), (66, 3), (66, 4), (68, 3), (68, 13), (68, 14), (68, 15), (68, 16), (77, 0), (86, 0), (86, 1), (86, 2), (86, 3), (86, 4), (88, 0), (88, 1), (88, 2), (88, 3), (88, 4), (99, 0), (108, 0), (126, 0), (135, 0), (153, 0), (162, 0)] F F' → SA [3, 12, 13, 14, 15, 16, 17, 19, 21, 23, 24, 25, 26, 27, 30, 31, 33, 34, 38, 39, 40, 41, 42, 47, 48, 49, 50, 51, 52, 53, 54, 56, 57, 58, 59, 60, 61, 62, 63, 65, 67, 69, 70, 71, 72, 73, 74, 75, 76, 78, 79, 80, 81, 82, 83, 84, 85, 87, 89, 100, 101, 102, 103, 104, 105, 106, 107, 109, 110, 111, 112, 113, 114, 115, 116, 127, 128, 129, 130, 131, 132, 133, 134, 136, 137, 138, 139, 140, 141, 142, 143, 154, 155, 156, 157, 158, 159, 160, 161, 163, 164, 165, 166, 167, 168, 169, 170] A A' → F' 2 0 = (D' 3 : Int) → F' 11 0 = (D' 12 : Int) → F' 10 7 = (D' 13 : Int) → F' 10 8 = (D' 14 : Int) → F' 10 1 = (D' 15 : Int) → F' 10 2 = (D' 16 : Int) → F' 10 3 = (D' 17 : Int) → F' 18 0 = (D' 19 : Int) → F' 20 0 = (D' 21 : Int) → F' 22 0 = (D' 23 : Int) → F' 8 13 = (D' 38 : Int) → A' 38 0 = (D' 39 : Int) → F' 8 14 = (D' 40 : Int) → A' 38 1 = (D' 41 : Int) → A' 38 2 = (D' 42 : Int) → F' 64 0 = (D' 65 : Int) → F' 66 0 = (D' 67 : Int) → F' 86 0 = (D' 87 : Int) → F' 88 0 = (D' 89 : Int) → ∀ m3 : Int, (N' 3 : Int) = m3 → ∀ m12 : Int, (N' 12 : Int) = m12 → ∀ m13 : Int, (N' 13 : Int) = m13 → ∀ m14 : Int, (N' 14 : Int) = m14 → ∀ m15 : Int, (N' 15 : Int) = m15 → ∀ m16 : Int, (N' 16 : Int) = m16 → ∀ m17 : Int, (N' 17 : Int) = m17 → ∀ m19 : Int, (N' 19 : Int) = m19 → ∀ m21 : Int, (N' 21 : Int) = m21 → ∀ m23 : Int, (N' 23 : Int) = m23 → ∀ m38 : Int, (N' 38 : Int) = m38 → ∀ m39 : Int, (N' 39 : Int) = m39 → ∀ m40 : Int, (N' 40 : Int) = m40 → ∀ m41 : Int, (N' 41 : Int) = m41 → ∀ m42 : Int, (N' 42 : Int) = m42 → ∀ m65 : Int, (N' 65 : Int) = m65 → ∀ m67 : Int, (N' 67 : Int) = m67 → ∀ m87 : Int, (N' 87 : Int) = m87 → ∀ m89 : Int, (N' 89 : Int) = m89 → ∀ y2_1 : Int, F' 2 1 = y2_1 → ∀ y11_1 : Int, F' 11 1 = y11_1 → ∀ y18_1 : Int, F' 18 1 = y18_1 → ∀ y20_1 : Int, F' 20 1 = y20_1 → ∀ y22_1 : Int, F' 22 1 = y22_1 → ∀ y64_1 : Int, F' 64 1 = y64_1 → ∀ y66_1 : Int, F' 66 1 = y66_1 → ∀ y86_1 : Int, F' 86 1 = y86_1 → ∀ y88_1 : Int, F' 88 1 = y88_1 → ∀ v3 : Int → Int, A' 3 = v3 → ∀ v27 : Int → Int, A' 27 = v27 → ∀ v49 : Int → Int, A' 49 = v49 → ∀ v71 : Int → Int, A' 71 = v71 → (inr (z)) → (0 ≤ (y2_1) ∧ (y2_1) ≤ (m3) ∧ (m3) ≤ 65536) → (0 ≤ (y11_1) ∧ (y11_1) ≤ (m12) ∧ (m12) ≤ 65536) → ((m13) = 0 ∨ (m13) = 2048) → ((m14) ≤ 16384) → ((m15) = (m16) ∧ (m17) = (m16) ∧ (m16) ≤ 65536 ∧ ((m16) = 0 ∨ 64 ≤ (m16)) ∧ lgq ((m16)) = 0) → (0 ≤ (y18_1) ∧ (y18_1) ≤ (m19) ∧ (m19) ≤ 65536) → (0 ≤ (y20_1) ∧ (y20_1) ≤ (m21) ∧ (m21) ≤ 65536) → (0 ≤ (y22_1) ∧ (y22_1) ≤ (m23) ∧ (m23) ≤ 65536) → ((m38) = 3 ∧ (m39) = (m40) ∧ (m41) = (m40) ∧ (m42) = (m40) ∧ lgq ((m40)) = 0 ∧ (m40) ≤ 16384) → (0 ≤ (y64_1) ∧ (y64_1) ≤ (m65) ∧ (m65) ≤ 65536) → (0 ≤ (y66_1) ∧ (y66_1) ≤ (m67) ∧ (m67) ≤ 65536) → (CEL ((v49))) → (0 ≤ (y86_1) ∧ (y86_1) ≤ (m87) ∧ (m87) ≤ 65536) → (0 ≤ (y88_1) ∧ (y88_1) ≤ (m89) ∧ (m89) ≤ 65536) → (CEL ((v71))) → (0 ≤ ((v27)) 0 ∧ ((v27)) 0 ≤ 3 ∧ 0 ≤ ((v27)) 1 ∧ ((v27)) 1 ≤ 3 ∧ 0 ≤ ((v27)) 2 ∧ ((v27)) 2 ≤ 3) → ((z) = -1) → (WRY 4 ((w9)) (sc ((w4)) 0 ((u1_1))) [] Dc st0 ((z)) (sc ((v3)) 0 ((y2_1)))) → Q (some (I z)) σ c' s') : Ew 17 (d + 7) 168 ls [.ref (D 8)] σE c s Q := by
  have O := OUT_refl (n := (V17_vD4n).length) (D := D) (N := N) (σ := σE) (c := c) (s := s)
  have HE := H
  have r1 : HID ((-2147483648 : Int) ≤ u1_1 ∧ u1_1 ≤ 2147483647) := krg_e (show (-2147483648 : Int) ≤ F 1 1 ∧ F 1 1 ≤ 2147483647 from H.krg 1 1 (by decide)) (show F 1 1 = u1_1 from (eu1_1))
  have r2 : HID ((-2147483648 : Int) ≤ u2_1 ∧ u2_1 ≤ 2147483647) := krg_e (show (-2147483648 : Int) ≤ F 2 1 ∧ F 2 1 ≤ 2147483647 from H.krg 2 1 (by decide)) (show F 2 1 = u2_1 from (eu2_1))
  have r3 : HID ((0 : Int) ≤ u2_2 ∧ u2_2 ≤ 1) := krg_e (show (0 : Int) ≤ F 2 2 ∧ F 2 2 ≤ 1 from H.krg 2 2 (by decide)) (show F 2 2 = u2_2 from (eu2_2))
  have r4 : HID ((-2147483648 : Int) ≤ u5_2 ∧ u5_2 ≤ 2147483647) := krg_e (show (-2147483648 : Int) ≤ F 5 2 ∧ F 5 2 ≤ 2147483647 from H.krg 5 2 (by decide)) (show F 5 2 = u5_2 from (eu5_2))
  have r5 : HID ((-2147483648 : Int) ≤ u6_1 ∧ u6_1 ≤ 2147483647) := krg_e (show (-2147483648 : Int) ≤ F 6 1 ∧ F 6 1 ≤ 2147483647 from H.krg 6 1 (by decide)) (show F 6 1 = u6_1 from (eu6_1))
  have r6 : HID ((-2147483648 : Int) ≤ u11_1 ∧ u11_1 ≤ 2147483647) := krg_e (show (-2147483648 : Int) ≤ F 11 1 ∧ F 11 1 ≤ 2147483647 from H.krg 11 1 (by decide)) (show F 11 1 = u11_1 from (eu11_1))
  have r7 : HID ((-2147483648 : Int) ≤ u18_1 ∧ u18_1 ≤ 2147483647) := krg_e (show (-2147483648 : Int) ≤ F 18 1 ∧ F 18 1 ≤ 2147483647 from H.krg 18 1 (by decide)) (show F 18 1 = u18_1 from (eu18_1))
  have r8 : HID ((-2147483648 : Int) ≤ u20_1 ∧ u20_1 ≤ 2147483647) := krg_e (show (-2147483648 : Int) ≤ F 20 1 ∧ F 20 1 ≤ 2147483647 from H.krg 20 1 (by decide)) (show F 20 1 = u20_1 from (eu20_1))
  have r9 : HID ((-2147483648 : Int) ≤ u22_1 ∧ u22_1 ≤ 2147483647) := krg_e (show (-2147483648 : Int) ≤ F 22 1 ∧ F 22 1 ≤ 2147483647 from H.krg 22 1 (by decide)) (show F 22 1 = u22_1 from (eu22_1))
  have r10 : HID ((-2147483648 : Int) ≤ u55_1 ∧ u55_1 ≤ 2147483647) := krg_e (show (-2147483648 : Int) ≤ F 55 1 ∧ F 55 1 ≤ 2147483647 from H.krg 55 1 (by decide)) (show F 55 1 = u55_1 from (eu55_1))
  have r11 : HID ((-2147483648 : Int) ≤ u64_1 ∧ u64_1 ≤ 2147483647) := krg_e (show (-2147483648 : Int) ≤ F 64 1 ∧ F 64 1 ≤ 2147483647 from H.krg 64 1 (by decide)) (show F 64 1 = u64_1 from (eu64_1))
  have r12 : HID ((-2147483648 : Int) ≤ u66_1 ∧ u66_1 ≤ 2147483647) := krg_e (show (-2147483648 : Int) ≤ F 66 1 ∧ F 66 1 ≤ 2147483647 from H.krg 66 1 (by decide)) (show F 66 1 = u66_1 from (eu66_1))
  have r13 : HID ((-2147483648 : Int) ≤ u77_1 ∧ u77_1 ≤ 2147483647) := krg_e (show (-2147483648 : Int) ≤ F 77 1 ∧ F 77 1 ≤ 2147483647 from H.krg 77 1 (by decide)) (show F 77 1 = u77_1 from (eu77_1))
  have r14 : HID ((-2147483648 : Int) ≤ u86_1 ∧ u86_1 ≤ 2147483647) := krg_e (show (-2147483648 : Int) ≤ F 86 1 ∧ F 86 1 ≤ 2147483647 from H.krg 86 1 (by decide)) (show F 86 1 = u86_1 from (eu86_1))
  have r15 : HID ((-2147483648 : Int) ≤ u88_1 ∧ u88_1 ≤ 2147483647) := krg_e (show (-2147483648 : Int) ≤ F 88 1 ∧ F 88 1 ≤ 2147483647 from H.krg 88 1 (by decide)) (show F 88 1 = u88_1 from (eu88_1))
  have r16 : HID ((-2147483648 : Int) ≤ u90_0 ∧ u90_0 ≤ 2147483647) := krg_e (show (-2147483648 : Int) ≤ F 90 0 ∧ F 90 0 ≤ 2147483647 from H.krg 90 0 (by decide)) (show F 90 0 = u90_0 from (eu90_0))
  have r17 : HID ((-2147483648 : Int) ≤ u90_1 ∧ u90_1 ≤ 2147483647) := krg_e (show (-2147483648 : Int) ≤ F 90 1 ∧ F 90 1 ≤ 2147483647 from H.krg 90 1 (by decide)) (show F 90 1 = u90_1 from (eu90_1))
  have r18 : HID ((-2147483648 : Int) ≤ u99_1 ∧ u99_1 ≤ 2147483647) := krg_e (show (-2147483648 : Int) ≤ F 99 1 ∧ F 99 1 ≤ 2147483647 from H.krg 99 1 (by decide)) (show F 99 1 = u99_1 from (eu99_1))
  have r19 : HID ((-2147483648 : Int) ≤ u108_1 ∧ u108_1 ≤ 2147483647) := krg_e (show (-2147483648 : Int) ≤ F 108 1 ∧ F 108 1 ≤ 2147483647 from H.krg 108 1 (by decide)) (show F 108 1 = u108_1 from (eu108_1))
  have r20 : HID ((-2147483648 : Int) ≤ u117_0 ∧ u117_0 ≤ 2147483647) := krg_e (show (-2147483648 : Int) ≤ F 117 0 ∧ F 117 0 ≤ 2147483647 from H.krg 117 0 (by decide)) (show F 117 0 = u117_0 from (eu117_0))
  have r21 : HID ((-2147483648 : Int) ≤ u117_1 ∧ u117_1 ≤ 2147483647) := krg_e (show (-2147483648 : Int) ≤ F 117 1 ∧ F 117 1 ≤ 2147483647 from H.krg 117 1 (by decide)) (show F 117 1 = u117_1 from (eu117_1))
  have r22 : HID ((-2147483648 : Int) ≤ u126_1 ∧ u126_1 ≤ 2147483647) := krg_e (show (-2147483648 : Int) ≤ F 126 1 ∧ F 126 1 ≤ 2147483647 from H.krg 126 1 (by decide)) (show F 126 1 = u126_1 from (eu126_1))
  have r23 : HID ((-2147483648 : Int) ≤ u135_1 ∧ u135_1 ≤ 2147483647) := krg_e (show (-2147483648 : Int) ≤ F 135 1 ∧ F 135 1 ≤ 2147483647 from H.krg 135 1 (by decide)) (show F 135 1 = u135_1 from (eu135_1))
  have r24 : HID ((-2147483648 : Int) ≤ u144_0 ∧ u144_0 ≤ 2147483647) := krg_e (show (-2147483648 : Int) ≤ F 144 0 ∧ F 144 0 ≤ 2147483647 from H.krg 144 0 (by decide)) (show F 144 0 = u144_0 from (eu144_0))
  have r25 : HID ((-2147483648 : Int) ≤ u144_1 ∧ u144_1 ≤ 2147483647) := krg_e (show (-2147483648 : Int) ≤ F 144 1 ∧ F 144 1 ≤ 2147483647 from H.krg 144 1 (by decide)) (show F 144 1 = u144_1 from (eu144_1))
  have r26 : HID ((-2147483648 : Int) ≤ u153_1 ∧ u153_1 ≤ 2147483647) := krg_e (show (-2147483648 : Int) ≤ F 153 1 ∧ F 153 1 ≤ 2147483647 from H.krg 153 1 (by decide)) (show F 153 1 = u153_1 from (eu153_1))
  have r27 : HID ((-2147483648 : Int) ≤ u162_1 ∧ u162_1 ≤ 2147483647) := krg_e (show (-2147483648 : Int) ≤ F 162 1 ∧ F 162 1 ≤ 2147483647 from H.krg 162 1 (by decide)) (show F 162 1 = u162_1 from (eu162_1))
  replace pf2 := HIDm pf2
  replace pf3 := HIDm pf3
  replace pf4 := HIDm pf4
  replace pf5 := HIDm pf5
  replace pf6 := HIDm pf6
  replace pf7 := HIDm pf7
  replace pf8 := HIDm pf8
  replace pf9 := HIDm pf9
  replace pf10 := HIDm pf10
  replace pf11 := HIDm pf11
  replace pf12 := HIDm pf12
  replace pf13 := HIDm pf13
  replace pf14 := HIDm pf14
  replace pf15 := HIDm pf15
  replace pf16 := HIDm pf16
  replace pf17 := HIDm pf17
  replace pf18 := HIDm pf18
  replace pf19 := HIDm pf19
  replace pf20 := HIDm pf20
  replace pf21 := HIDm pf21
  replace pf22 := HIDm pf22
  replace pf23 := HIDm pf23
  replace pf24 := HIDm pf24
  replace pf25 := HIDm pf25
  replace pf26 := HIDm pf26
  replace pf27 := HIDm pf27
  replace pf28 := HIDm pf28
  replace pf29 := HIDm pf29
  replace pf30 := HIDm pf30
  replace pf31 := HIDm pf31
  replace pf32 := HIDm pf32
  replace pf33 := HIDm pf33
  replace pf34 := HIDm pf34
  replace pf35 := HIDm pf35
  replace pf36 := HIDm pf36
  replace pf37 := HIDm pf37
  replace pf38 := HIDm pf38
  replace pf39 := HIDm pf39
  replace pf40 := HIDm pf40
  replace pf41 := HIDm pf41
  replace pf42 := HIDm pf42
  replace pf43 := HIDm pf43
  replace pf44 := HIDm pf44
  replace pf45 := HIDm pf45
  replace pf46 := HIDm pf46
  replace pf47 := HIDm pf47
  replace pf48 := HIDm pf48
  replace pf49 := HIDm pf49
  replace pf50 := HIDm pf50
  replace pf51 := HIDm pf51
  replace pf52 := HIDm pf52
  replace pf53 := HIDm pf53
  replace pf54 := HIDm pf54
  replace pf55 := HIDm pf55
  replace pf56 := HIDm pf56
  replace pf57 := HIDm pf57
  replace pf58 := HIDm pf58
  replace pf59 := HIDm pf59
  replace pf60 := HIDm pf60
  replace pf61 := HIDm pf61
  replace pf62 := HIDm pf62
  replace pf63 := HIDm pf63
  replace pf64 := HIDm pf64
  replace pf65 := HIDm pf65
  replace pf66 := HIDm pf66
  replace pf67 := HIDm pf67
  replace pf68 := HIDm pf68
  replace pf69 := HIDm pf69
  replace pf70 := HIDm pf70
  replace pf71 := HIDm pf71
  replace pf72 := HIDm pf72
  replace pf73 := HIDm pf73
  replace pf74 := HIDm pf74
  replace pf75 := HIDm pf75
  replace pf76 := HIDm pf76
  replace pf77 := HIDm pf77
  replace pf78 := HIDm pf78
  replace pf79 := HIDm pf79
  replace pf80 := HIDm pf80
  replace pf81 := HIDm pf81
  replace pf82 := HIDm pf82
  replace pf83 := HIDm pf83
  replace pf84 := HIDm pf84
  replace pf85 := HIDm pf85
  replace pf86 := HIDm pf86
  replace pf87 := HIDm pf87
  replace pf88 := HIDm pf88
  replace pf89 := HIDm pf89
  replace pf90 := HIDm pf90
  replace pf91 := HIDm pf91
  replace pf92 := HIDm pf92
  replace pf93 := HIDm pf93
  replace pf94 := HIDm pf94
  replace pf95 := HIDm pf95
  replace pf96 := HIDm pf96
  replace pf97 := HIDm pf97
  replace pf98 := HIDm pf98
  replace pf99 := HIDm pf99
  replace pf100 := HIDm pf100
  replace pf101 := HIDm pf101
  replace pf102 := HIDm pf102
  replace pf103 := HIDm pf103
  replace pf104 := HIDm pf104
  replace pf105 := HIDm pf105
  replace pf106 := HIDm pf106
  replace pf107 := HIDm pf107
  replace pf108 := HIDm pf108
  replace pf109 := HIDm pf109
  replace pf110 := HIDm pf110
  replace pf111 := HIDm pf111
  replace pf112 := HIDm pf112
  replace pf113 := HIDm pf113
  replace pf114 := HIDm pf114
  replace pf115 := HIDm pf115
  replace pf116 := HIDm pf116
  replace pf117 := HIDm pf117
  replace pf118 := HIDm pf118
  replace pf119 := HIDm pf119
  replace pf120 := HIDm pf120
  replace pf121 := HIDm pf121
  replace pf122 := HIDm pf122
  replace pf123 := HIDm pf123
  replace pf124 := HIDm pf124
  replace pf125 := HIDm pf125
  replace pf126 := HIDm pf126
  replace pf127 := HIDm pf127
  replace pf128 := HIDm pf128
  replace pf129 := HIDm pf129
  replace pf130 := HIDm pf130
  replace pf131 := HIDm pf131
  replace pf132 := HIDm pf132
  replace pf133 := HIDm pf133
  replace pf134 := HIDm pf134
  replace pf135 := HIDm pf135
  replace pf136 := HIDm pf136
  replace pf137 := HIDm pf137
  replace pf138 := HIDm pf138
  replace pf139 := HIDm pf139
  replace pf140 := HIDm pf140
  replace pf141 := HIDm pf141
  replace pf142 := HIDm pf142
  replace pf143 := HIDm pf143
  replace pf144 := HIDm pf144
  replace pf145 := HIDm pf145
  replace pf146 := HIDm pf146
  replace pf147 := HIDm pf147
  replace pf148 := HIDm pf148
  replace pf149 := HIDm pf149
  replace pf150 := HIDm pf150
  replace pf151 := HIDm pf151
  replace pf152 := HIDm pf152
  replace pf153 := HIDm pf153
  replace pf154 := HIDm pf154
  replace pf155 := HIDm pf155
  replace pf156 := HIDm pf156
  replace pf157 := HIDm pf157
  replace pf158 := HIDm pf158
  replace pf159 := HIDm pf159
  replace pf160 := HIDm pf160
  replace pf161 := HIDm pf161
  replace pf162 := HIDm pf162
  replace pf163 := HIDm pf163
  replace pf164 := HIDm pf164
  replace pf165 := HIDm pf165
  replace pf166 := HIDm pf166
  replace pf167 := HIDm pf167
  replace pf168 := HIDm pf168
  replace pf169 := HIDm pf169
  replace pf170 := HIDm pf170
  replace pf171 := HIDm pf171
  replace en3 := HIDm en3
  replace en4 := HIDm en4
  replace en7 := HIDm en7
  replace en9 := HIDm en9
  replace en12 := HIDm en12
  replace en13 := HIDm en13
  replace en14 := HIDm en14
  replace en15 := HIDm en15
  replace en16 := HIDm en16
  replace en17 := HIDm en17
  replace en19 := HIDm en19
  replace en21 := HIDm en21
  replace en23 := HIDm en23
  replace en24 := HIDm en24
  replace en25 := HIDm en25
  replace en26 := HIDm en26
  replace en27 := HIDm en27
  replace en28 := HIDm en28
  replace en30 := HIDm en30
  replace en31 := HIDm en31
  replace en33 := HIDm en33
  replace en34 := HIDm en34
  replace en35 := HIDm en35
  replace en36 := HIDm en36
  replace en37 := HIDm en37
  replace en38 := HIDm en38
  replace en39 := HIDm en39
  replace en40 := HIDm en40
  replace en41 := HIDm en41
  replace en42 := HIDm en42
  replace en44 := HIDm en44
  replace en45 := HIDm en45
  replace en47 := HIDm en47
  replace en48 := HIDm en48
  replace en49 := HIDm en49
  replace en50 := HIDm en50
  replace en51 := HIDm en51
  replace en52 := HIDm en52
  replace en53 := HIDm en53
  replace en54 := HIDm en54
  replace en56 := HIDm en56
  replace en57 := HIDm en57
  replace en58 := HIDm en58
  replace en59 := HIDm en59
  replace en60 := HIDm en60
  replace en61 := HIDm en61
  replace en62 := HIDm en62
  replace en63 := HIDm en63
  replace en65 := HIDm en65
  replace en67 := HIDm en67
  replace en69 := HIDm en69
  replace en70 := HIDm en70
  replace en71 := HIDm en71
  replace en72 := HIDm en72
  replace en73 := HIDm en73
  replace en74 := HIDm en74
  replace en75 := HIDm en75
  replace en76 := HIDm en76
  replace en78 := HIDm en78
  replace en79 := HIDm en79
  replace en80 := HIDm en80
  replace en81 := HIDm en81
  replace en82 := HIDm en82
  replace en83 := HIDm en83
  replace en84 := HIDm en84
  replace en85 := HIDm en85
  replace en87 := HIDm en87
  replace en89 := HIDm en89
  replace en91 := HIDm en91
  replace en92 := HIDm en92
  replace en93 := HIDm en93
  replace en94 := HIDm en94
  replace en95 := HIDm en95
  replace en96 := HIDm en96
  replace en97 := HIDm en97
  replace en98 := HIDm en98
  replace en100 := HIDm en100
  replace en101 := HIDm en101
  replace en102 := HIDm en102
  replace en103 := HIDm en103
  replace en104 := HIDm en104
  replace en105 := HIDm en105
  replace en106 := HIDm en106
  replace en107 := HIDm en107
  replace en109 := HIDm en109
  replace en110 := HIDm en110
  replace en111 := HIDm en111
  replace en112 := HIDm en112
  replace en113 := HIDm en113
  replace en114 := HIDm en114
  replace en115 := HIDm en115
  replace en116 := HIDm en116
  replace en118 := HIDm en118
  replace en119 := HIDm en119
  replace en120 := HIDm en120
  replace en121 := HIDm en121
  replace en122 := HIDm en122
  replace en123 := HIDm en123
  replace en124 := HIDm en124
  replace en125 := HIDm en125
  replace en127 := HIDm en127
  replace en128 := HIDm en128
  replace en129 := HIDm en129
  replace en130 := HIDm en130
  replace en131 := HIDm en131
  replace en132 := HIDm en132
  replace en133 := HIDm en133
  replace en134 := HIDm en134
  replace en136 := HIDm en136
  replace en137 := HIDm en137
  replace en138 := HIDm en138
  replace en139 := HIDm en139
  replace en140 := HIDm en140
  replace en141 := HIDm en141
  replace en142 := HIDm en142
  replace en143 := HIDm en143
  replace en145 := HIDm en145
  replace en146 := HIDm en146
  replace en147 := HIDm en147
  replace en148 := HIDm en148
  replace en149 := HIDm en149
  replace en150 := HIDm en150
  replace en151 := HIDm en151
  replace en152 := HIDm en152
  replace en154 := HIDm en154
  replace en155 := HIDm en155
  replace en156 := HIDm en156
  replace en157 := HIDm en157
  replace en158 := HIDm en158
  replace en159 := HIDm en159
  replace en160 := HIDm en160
  replace en161 := HIDm en161
  replace en163 := HIDm en163
  replace en164 := HIDm en164
  replace en165 := HIDm en165
  replace en166 := HIDm en166
  replace en167 := HIDm en167
  replace en168 := HIDm en168
  replace en169 := HIDm en169
  replace en170 := HIDm en170
  replace en171 := HIDm en171
  replace eu1_1 := HIDm eu1_1
  replace eu2_1 := HIDm eu2_1
  replace eu2_2 := HIDm eu2_2
  replace eu5_2 := HIDm eu5_2
  replace eu6_1 := HIDm eu6_1
  replace eu11_1 := HIDm eu11_1
  replace eu18_1 := HIDm eu18_1
  replace eu20_1 := HIDm eu20_1
  replace eu22_1 := HIDm eu22_1
  replace eu43_0 := HIDm eu43_0
  replace eu55_1 := HIDm eu55_1
  replace eu64_1 := HIDm eu64_1
  replace eu66_1 := HIDm eu66_1
  replace eu77_1 := HIDm eu77_1
  replace eu86_1 := HIDm eu86_1
  replace eu88_1 := HIDm eu88_1
  replace eu90_0 := HIDm eu90_0
  replace eu90_1 := HIDm eu90_1
  replace eu99_1 := HIDm eu99_1
  replace eu108_1 := HIDm eu108_1
  replace eu117_0 := HIDm eu117_0
  replace eu117_1 := HIDm eu117_1
  replace eu126_1 := HIDm eu126_1
  replace eu135_1 := HIDm eu135_1
  replace eu144_0 := HIDm eu144_0
  replace eu144_1 := HIDm eu144_1
  replace eu153_1 := HIDm eu153_1
  replace eu162_1 := HIDm eu162_1
  have r28 : HID ((0 : Int) ≤ n3 ∧ n3 ≤ 1000000) := nrng (H.nle 3 (by decide)) (show (N 3 : Int) = n3 from en3)
  have r29 : HID ((0 : Int) ≤ n4 ∧ n4 ≤ 1000000) := nrng (H.nle 4 (by decide)) (show (N 4 : Int) = n4 from en4)
  have r30 : HID ((0 : Int) ≤ n7 ∧ n7 ≤ 1000000) := nrng (H.nle 7 (by decide)) (show (N 7 : Int) = n7 from en7)
  have r31 : HID ((0 : Int) ≤ n9 ∧ n9 ≤ 1000000) := nrng (H.nle 9 (by decide)) (show (N 9 : Int) = n9 from en9)
  have r32 : HID ((0 : Int) ≤ n12 ∧ n12 ≤ 1000000) := nrng (H.nle 12 (by decide)) (show (N 12 : Int) = n12 from en12)
  have r33 : HID ((0 : Int) ≤ n13 ∧ n13 ≤ 1000000) := nrng (H.nle 13 (by decide)) (show (N 13 : Int) = n13 from en13)
  have r34 : HID ((0 : Int) ≤ n14 ∧ n14 ≤ 1000000) := nrng (H.nle 14 (by decide)) (show (N 14 : Int) = n14 from en14)
  have r35 : HID ((0 : Int) ≤ n15 ∧ n15 ≤ 1000000) := nrng (H.nle 15 (by decide)) (show (N 15 : Int) = n15 from en15)
  have r36 : HID ((0 : Int) ≤ n16 ∧ n16 ≤ 1000000) := nrng (H.nle 16 (by decide)) (show (N 16 : Int) = n16 from en16)
  have r37 : HID ((0 : Int) ≤ n17 ∧ n17 ≤ 1000000) := nrng (H.nle 17 (by decide)) (show (N 17 : Int) = n17 from en17)
  have r38 : HID ((0 : Int) ≤ n19 ∧ n19 ≤ 1000000) := nrng (H.nle 19 (by decide)) (show (N 19 : Int) = n19 from en19)
  have r39 : HID ((0 : Int) ≤ n21 ∧ n21 ≤ 1000000) := nrng (H.nle 21 (by decide)) (show (N 21 : Int) = n21 from en21)
  have r40 : HID ((0 : Int) ≤ n23 ∧ n23 ≤ 1000000) := nrng (H.nle 23 (by decide)) (show (N 23 : Int) = n23 from en23)
  have r41 : HID ((0 : Int) ≤ n24 ∧ n24 ≤ 1000000) := nrng (H.nle 24 (by decide)) (show (N 24 : Int) = n24 from en24)
  have r42 : HID ((0 : Int) ≤ n25 ∧ n25 ≤ 1000000) := nrng (H.nle 25 (by decide)) (show (N 25 : Int) = n25 from en25)
  have r43 : HID ((0 : Int) ≤ n26 ∧ n26 ≤ 1000000) := nrng (H.nle 26 (by decide)) (show (N 26 : Int) = n26 from en26)
  have r44 : HID ((0 : Int) ≤ n27 ∧ n27 ≤ 1000000) := nrng (H.nle 27 (by decide)) (show (N 27 : Int) = n27 from en27)
  have r45 : HID ((0 : Int) ≤ n28 ∧ n28 ≤ 1000000) := nrng (H.nle 28 (by decide)) (show (N 28 : Int) = n28 from en28)
  have r46 : HID ((0 : Int) ≤ n30 ∧ n30 ≤ 1000000) := nrng (H.nle 30 (by decide)) (show (N 30 : Int) = n30 from en30)
  have r47 : HID ((0 : Int) ≤ n31 ∧ n31 ≤ 1000000) := nrng (H.nle 31 (by decide)) (show (N 31 : Int) = n31 from en31)
  have r48 : HID ((0 : Int) ≤ n33 ∧ n33 ≤ 1000000) := nrng (H.nle 33 (by decide)) (show (N 33 : Int) = n33 from en33)
  have r49 : HID ((0 : Int) ≤ n34 ∧ n34 ≤ 1000000) := nrng (H.nle 34 (by decide)) (show (N 34 : Int) = n34 from en34)
  have r50 : HID ((0 : Int) ≤ n35 ∧ n35 ≤ 1000000) := nrng (H.nle 35 (by decide)) (show (N 35 : Int) = n35 from en35)
  have r51 : HID ((0 : Int) ≤ n36 ∧ n36 ≤ 1000000) := nrng (H.nle 36 (by decide)) (show (N 36 : Int) = n36 from en36)
  have r52 : HID ((0 : Int) ≤ n37 ∧ n37 ≤ 1000000) := nrng (H.nle 37 (by decide)) (show (N 37 : Int) = n37 from en37)
  have r53 : HID ((0 : Int) ≤ n38 ∧ n38 ≤ 1000000) := nrng (H.nle 38 (by decide)) (show (N 38 : Int) = n38 from en38)
  have r54 : HID ((0 : Int) ≤ n39 ∧ n39 ≤ 1000000) := nrng (H.nle 39 (by decide)) (show (N 39 : Int) = n39 from en39)
  have r55 : HID ((0 : Int) ≤ n40 ∧ n40 ≤ 1000000) := nrng (H.nle 40 (by decide)) (show (N 40 : Int) = n40 from en40)
  have r56 : HID ((0 : Int) ≤ n41 ∧ n41 ≤ 1000000) := nrng (H.nle 41 (by decide)) (show (N 41 : Int) = n41 from en41)
  have r57 : HID ((0 : Int) ≤ n42 ∧ n42 ≤ 1000000) := nrng (H.nle 42 (by decide)) (show (N 42 : Int) = n42 from en42)
  have r58 : HID ((0 : Int) ≤ n44 ∧ n44 ≤ 1000000) := nrng (H.nle 44 (by decide)) (show (N 44 : Int) = n44 from en44)
  have r59 : HID ((0 : Int) ≤ n45 ∧ n45 ≤ 1000000) := nrng (H.nle 45 (by decide)) (show (N 45 : Int) = n45 from en45)
  have r60 : HID ((0 : Int) ≤ n47 ∧ n47 ≤ 1000000) := nrng (H.nle 47 (by decide)) (show (N 47 : Int) = n47 from en47)
  have r61 : HID ((0 : Int) ≤ n48 ∧ n48 ≤ 1000000) := nrng (H.nle 48 (by decide)) (show (N 48 : Int) = n48 from en48)
  have r62 : HID ((0 : Int) ≤ n49 ∧ n49 ≤ 1000000) := nrng (H.nle 49 (by decide)) (show (N 49 : Int) = n49 from en49)
  have r63 : HID ((0 : Int) ≤ n50 ∧ n50 ≤ 1000000) := nrng (H.nle 50 (by decide)) (show (N 50 : Int) = n50 from en50)
  have r64 : HID ((0 : Int) ≤ n51 ∧ n51 ≤ 1000000) := nrng (H.nle 51 (by decide)) (show (N 51 : Int) = n51 from en51)
  have r65 : HID ((0 : Int) ≤ n52 ∧ n52 ≤ 1000000) := nrng (H.nle 52 (by decide)) (show (N 52 : Int) = n52 from en52)
  have r66 : HID ((0 : Int) ≤ n53 ∧ n53 ≤ 1000000) := nrng (H.nle 53 (by decide)) (show (N 53 : Int) = n53 from en53)
  have r67 : HID ((0 : Int) ≤ n54 ∧ n54 ≤ 1000000) := nrng (H.nle 54 (by decide)) (show (N 54 : Int) = n54 from en54)
  have r68 : HID ((0 : Int) ≤ n56 ∧ n56 ≤ 1000000) := nrng (H.nle 56 (by decide)) (show (N 56 : Int) = n56 from en56)
  have r69 : HID ((0 : Int) ≤ n57 ∧ n57 ≤ 1000000) := nrng (H.nle 57 (by decide)) (show (N 57 : Int) = n57 from en57)
  have r70 : HID ((0 : Int) ≤ n58 ∧ n58 ≤ 1000000) := nrng (H.nle 58 (by decide)) (show (N 58 : Int) = n58 from en58)
  have r71 : HID ((0 : Int) ≤ n59 ∧ n59 ≤ 1000000) := nrng (H.nle 59 (by decide)) (show (N 59 : Int) = n59 from en59)
  have r72 : HID ((0 : Int) ≤ n60 ∧ n60 ≤ 1000000) := nrng (H.nle 60 (by decide)) (show (N 60 : Int) = n60 from en60)
  have r73 : HID ((0 : Int) ≤ n61 ∧ n61 ≤ 1000000) := nrng (H.nle 61 (by decide)) (show (N 61 : Int) = n61 from en61)
  have r74 : HID ((0 : Int) ≤ n62 ∧ n62 ≤ 1000000) := nrng (H.nle 62 (by decide)) (show (N 62 : Int) = n62 from en62)
  have r75 : HID ((0 : Int) ≤ n63 ∧ n63 ≤ 1000000) := nrng (H.nle 63 (by decide)) (show (N 63 : Int) = n63 from en63)
  have r76 : HID ((0 : Int) ≤ n65 ∧ n65 ≤ 1000000) := nrng (H.nle 65 (by decide)) (show (N 65 : Int) = n65 from en65)
  have r77 : HID ((0 : Int) ≤ n67 ∧ n67 ≤ 1000000) := nrng (H.nle 67 (by decide)) (show (N 67 : Int) = n67 from en67)
  have r78 : HID ((0 : Int) ≤ n69 ∧ n69 ≤ 1000000) := nrng (H.nle 69 (by decide)) (show (N 69 : Int) = n69 from en69)
  have r79 : HID ((0 : Int) ≤ n70 ∧ n70 ≤ 1000000) := nrng (H.nle 70 (by decide)) (show (N 70 : Int) = n70 from en70)
  have r80 : HID ((0 : Int) ≤ n71 ∧ n71 ≤ 1000000) := nrng (H.nle 71 (by decide)) (show (N 71 : Int) = n71 from en71)
  have r81 : HID ((0 : Int) ≤ n72 ∧ n72 ≤ 1000000) := nrng (H.nle 72 (by decide)) (show (N 72 : Int) = n72 from en72)
  have r82 : HID ((0 : Int) ≤ n73 ∧ n73 ≤ 1000000) := nrng (H.nle 73 (by decide)) (show (N 73 : Int) = n73 from en73)
  have r83 : HID ((0 : Int) ≤ n74 ∧ n74 ≤ 1000000) := nrng (H.nle 74 (by decide)) (show (N 74 : Int) = n74 from en74)
  have r84 : HID ((0 : Int) ≤ n75 ∧ n75 ≤ 1000000) := nrng (H.nle 75 (by decide)) (show (N 75 : Int) = n75 from en75)
  have r85 : HID ((0 : Int) ≤ n76 ∧ n76 ≤ 1000000) := nrng (H.nle 76 (by decide)) (show (N 76 : Int) = n76 from en76)
  have r86 : HID ((0 : Int) ≤ n78 ∧ n78 ≤ 1000000) := nrng (H.nle 78 (by decide)) (show (N 78 : Int) = n78 from en78)
  have r87 : HID ((0 : Int) ≤ n79 ∧ n79 ≤ 1000000) := nrng (H.nle 79 (by decide)) (show (N 79 : Int) = n79 from en79)
  have r88 : HID ((0 : Int) ≤ n80 ∧ n80 ≤ 1000000) := nrng (H.nle 80 (by decide)) (show (N 80 : Int) = n80 from en80)
  have r89 : HID ((0 : Int) ≤ n81 ∧ n81 ≤ 1000000) := nrng (H.nle 81 (by decide)) (show (N 81 : Int) = n81 from en81)
  have r90 : HID ((0 : Int) ≤ n82 ∧ n82 ≤ 1000000) := nrng (H.nle 82 (by decide)) (show (N 82 : Int) = n82 from en82)
  have r91 : HID ((0 : Int) ≤ n83 ∧ n83 ≤ 1000000) := nrng (H.nle 83 (by decide)) (show (N 83 : Int) = n83 from en83)
  have r92 : HID ((0 : Int) ≤ n84 ∧ n84 ≤ 1000000) := nrng (H.nle 84 (by decide)) (show (N 84 : Int) = n84 from en84)
  have r93 : HID ((0 : Int) ≤ n85 ∧ n85 ≤ 1000000) := nrng (H.nle 85 (by decide)) (show (N 85 : Int) = n85 from en85)
  have r94 : HID ((0 : Int) ≤ n87 ∧ n87 ≤ 1000000) := nrng (H.nle 87 (by decide)) (show (N 87 : Int) = n87 from en87)
  have r95 : HID ((0 : Int) ≤ n89 ∧ n89 ≤ 1000000) := nrng (H.nle 89 (by decide)) (show (N 89 : Int) = n89 from en89)
  have r96 : HID ((0 : Int) ≤ n91 ∧ n91 ≤ 1000000) := nrng (H.nle 91 (by decide)) (show (N 91 : Int) = n91 from en91)
  have r97 : HID ((0 : Int) ≤ n92 ∧ n92 ≤ 1000000) := nrng (H.nle 92 (by decide)) (show (N 92 : Int) = n92 from en92)
  have r98 : HID ((0 : Int) ≤ n93 ∧ n93 ≤ 1000000) := nrng (H.nle 93 (by decide)) (show (N 93 : Int) = n93 from en93)
  have r99 : HID ((0 : Int) ≤ n94 ∧ n94 ≤ 1000000) := nrng (H.nle 94 (by decide)) (show (N 94 : Int) = n94 from en94)
  have r100 : HID ((0 : Int) ≤ n95 ∧ n95 ≤ 1000000) := nrng (H.nle 95 (by decide)) (show (N 95 : Int) = n95 from en95)
  have r101 : HID ((0 : Int) ≤ n96 ∧ n96 ≤ 1000000) := nrng (H.nle 96 (by decide)) (show (N 96 : Int) = n96 from en96)
  have r102 : HID ((0 : Int) ≤ n97 ∧ n97 ≤ 1000000) := nrng (H.nle 97 (by decide)) (show (N 97 : Int) = n97 from en97)
  have r103 : HID ((0 : Int) ≤ n98 ∧ n98 ≤ 1000000) := nrng (H.nle 98 (by decide)) (show (N 98 : Int) = n98 from en98)
  have r104 : HID ((0 : Int) ≤ n100 ∧ n100 ≤ 1000000) := nrng (H.nle 100 (by decide)) (show (N 100 : Int) = n100 from en100)
  have r105 : HID ((0 : Int) ≤ n101 ∧ n101 ≤ 1000000) := nrng (H.nle 101 (by decide)) (show (N 101 : Int) = n101 from en101)
  have r106 : HID ((0 : Int) ≤ n102 ∧ n102 ≤ 1000000) := nrng (H.nle 102 (by decide)) (show (N 102 : Int) = n102 from en102)
  have r107 : HID ((0 : Int) ≤ n103 ∧ n103 ≤ 1000000) := nrng (H.nle 103 (by decide)) (show (N 103 : Int) = n103 from en103)
  have r108 : HID ((0 : Int) ≤ n104 ∧ n104 ≤ 1000000) := nrng (H.nle 104 (by decide)) (show (N 104 : Int) = n104 from en104)
  have r109 : HID ((0 : Int) ≤ n105 ∧ n105 ≤ 1000000) := nrng (H.nle 105 (by decide)) (show (N 105 : Int) = n105 from en105)
  have r110 : HID ((0 : Int) ≤ n106 ∧ n106 ≤ 1000000) := nrng (H.nle 106 (by decide)) (show (N 106 : Int) = n106 from en106)
  have r111 : HID ((0 : Int) ≤ n107 ∧ n107 ≤ 1000000) := nrng (H.nle 107 (by decide)) (show (N 107 : Int) = n107 from en107)
  have r112 : HID ((0 : Int) ≤ n109 ∧ n109 ≤ 1000000) := nrng (H.nle 109 (by decide)) (show (N 109 : Int) = n109 from en109)
  have r113 : HID ((0 : Int) ≤ n110 ∧ n110 ≤ 1000000) := nrng (H.nle 110 (by decide)) (show (N 110 : Int) = n110 from en110)
  have r114 : HID ((0 : Int) ≤ n111 ∧ n111 ≤ 1000000) := nrng (H.nle 111 (by decide)) (show (N 111 : Int) = n111 from en111)
  have r115 : HID ((0 : Int) ≤ n112 ∧ n112 ≤ 1000000) := nrng (H.nle 112 (by decide)) (show (N 112 : Int) = n112 from en112)
  have r116 : HID ((0 : Int) ≤ n113 ∧ n113 ≤ 1000000) := nrng (H.nle 113 (by decide)) (show (N 113 : Int) = n113 from en113)
  have r117 : HID ((0 : Int) ≤ n114 ∧ n114 ≤ 1000000) := nrng (H.nle 114 (by decide)) (show (N 114 : Int) = n114 from en114)
  have r118 : HID ((0 : Int) ≤ n115 ∧ n115 ≤ 1000000) := nrng (H.nle 115 (by decide)) (show (N 115 : Int) = n115 from en115)
  have r119 : HID ((0 : Int) ≤ n116 ∧ n116 ≤ 1000000) := nrng (H.nle 116 (by decide)) (show (N 116 : Int) = n116 from en116)
  have r120 : HID ((0 : Int) ≤ n118 ∧ n118 ≤ 1000000) := nrng (H.nle 118 (by decide)) (show (N 118 : Int) = n118 from en118)
  have r121 : HID ((0 : Int) ≤ n119 ∧ n119 ≤ 1000000) := nrng (H.nle 119 (by decide)) (show (N 119 : Int) = n119 from en119)
  have r122 : HID ((0 : Int) ≤ n120 ∧ n120 ≤ 1000000) := nrng (H.nle 120 (by decide)) (show (N 120 : Int) = n120 from en120)
  have r123 : HID ((0 : Int) ≤ n121 ∧ n121 ≤ 1000000) := nrng (H.nle 121 (by decide)) (show (N 121 : Int) = n121 from en121)
  have r124 : HID ((0 : Int) ≤ n122 ∧ n122 ≤ 1000000) := nrng (H.nle 122 (by decide)) (show (N 122 : Int) = n122 from en122)
  have r125 : HID ((0 : Int) ≤ n123 ∧ n123 ≤ 1000000) := nrng (H.nle 123 (by decide)) (show (N 123 : Int) = n123 from en123)
  have r126 : HID ((0 : Int) ≤ n124 ∧ n124 ≤ 1000000) := nrng (H.nle 124 (by decide)) (show (N 124 : Int) = n124 from en124)
  have r127 : HID ((0 : Int) ≤ n125 ∧ n125 ≤ 1000000) := nrng (H.nle 125 (by decide)) (show (N 125 : Int) = n125 from en125)
  have r128 : HID ((0 : Int) ≤ n127 ∧ n127 ≤ 1000000) := nrng (H.nle 127 (by decide)) (show (N 127 : Int) = n127 from en127)
  have r129 : HID ((0 : Int) ≤ n128 ∧ n128 ≤ 1000000) := nrng (H.nle 128 (by decide)) (show (N 128 : Int) = n128 from en128)
  have r130 : HID ((0 : Int) ≤ n129 ∧ n129 ≤ 1000000) := nrng (H.nle 129 (by decide)) (show (N 129 : Int) = n129 from en129)
  have r131 : HID ((0 : Int) ≤ n130 ∧ n130 ≤ 1000000) := nrng (H.nle 130 (by decide)) (show (N 130 : Int) = n130 from en130)
  have r132 : HID ((0 : Int) ≤ n131 ∧ n131 ≤ 1000000) := nrng (H.nle 131 (by decide)) (show (N 131 : Int) = n131 from en131)
  have r133 : HID ((0 : Int) ≤ n132 ∧ n132 ≤ 1000000) := nrng (H.nle 132 (by decide)) (show (N 132 : Int) = n132 from en132)
  have r134 : HID ((0 : Int) ≤ n133 ∧ n133 ≤ 1000000) := nrng (H.nle 133 (by decide)) (show (N 133 : Int) = n133 from en133)
  have r135 : HID ((0 : Int) ≤ n134 ∧ n134 ≤ 1000000) := nrng (H.nle 134 (by decide)) (show (N 134 : Int) = n134 from en134)
  have r136 : HID ((0 : Int) ≤ n136 ∧ n136 ≤ 1000000) := nrng (H.nle 136 (by decide)) (show (N 136 : Int) = n136 from en136)
  have r137 : HID ((0 : Int) ≤ n137 ∧ n137 ≤ 1000000) := nrng (H.nle 137 (by decide)) (show (N 137 : Int) = n137 from en137)
  have r138 : HID ((0 : Int) ≤ n138 ∧ n138 ≤ 1000000) := nrng (H.nle 138 (by decide)) (show (N 138 : Int) = n138 from en138)
  have r139 : HID ((0 : Int) ≤ n139 ∧ n139 ≤ 1000000) := nrng (H.nle 139 (by decide)) (show (N 139 : Int) = n139 from en139)
  have r140 : HID ((0 : Int) ≤ n140 ∧ n140 ≤ 1000000) := nrng (H.nle 140 (by decide)) (show (N 140 : Int) = n140 from en140)
  have r141 : HID ((0 : Int) ≤ n141 ∧ n141 ≤ 1000000) := nrng (H.nle 141 (by decide)) (show (N 141 : Int) = n141 from en141)
  have r142 : HID ((0 : Int) ≤ n142 ∧ n142 ≤ 1000000) := nrng (H.nle 142 (by decide)) (show (N 142 : Int) = n142 from en142)
  have r143 : HID ((0 : Int) ≤ n143 ∧ n143 ≤ 1000000) := nrng (H.nle 143 (by decide)) (show (N 143 : Int) = n143 from en143)
  have r144 : HID ((0 : Int) ≤ n145 ∧ n145 ≤ 1000000) := nrng (H.nle 145 (by decide)) (show (N 145 : Int) = n145 from en145)
  have r145 : HID ((0 : Int) ≤ n146 ∧ n146 ≤ 1000000) := nrng (H.nle 146 (by decide)) (show (N 146 : Int) = n146 from en146)
  have r146 : HID ((0 : Int) ≤ n147 ∧ n147 ≤ 1000000) := nrng (H.nle 147 (by decide)) (show (N 147 : Int) = n147 from en147)
  have r147 : HID ((0 : Int) ≤ n148 ∧ n148 ≤ 1000000) := nrng (H.nle 148 (by decide)) (show (N 148 : Int) = n148 from en148)
  have r148 : HID ((0 : Int) ≤ n149 ∧ n149 ≤ 1000000) := nrng (H.nle 149 (by decide)) (show (N 149 : Int) = n149 from en149)
  have r149 : HID ((0 : Int) ≤ n150 ∧ n150 ≤ 1000000) := nrng (H.nle 150 (by decide)) (show (N 150 : Int) = n150 from en150)
  have r150 : HID ((0 : Int) ≤ n151 ∧ n151 ≤ 1000000) := nrng (H.nle 151 (by decide)) (show (N 151 : Int) = n151 from en151)
  have r151 : HID ((0 : Int) ≤ n152 ∧ n152 ≤ 1000000) := nrng (H.nle 152 (by decide)) (show (N 152 : Int) = n152 from en152)
  have r152 : HID ((0 : Int) ≤ n154 ∧ n154 ≤ 1000000) := nrng (H.nle 154 (by decide)) (show (N 154 : Int) = n154 from en154)
  have r153 : HID ((0 : Int) ≤ n155 ∧ n155 ≤ 1000000) := nrng (H.nle 155 (by decide)) (show (N 155 : Int) = n155 from en155)
  have r154 : HID ((0 : Int) ≤ n156 ∧ n156 ≤ 1000000) := nrng (H.nle 156 (by decide)) (show (N 156 : Int) = n156 from en156)
  have r155 : HID ((0 : Int) ≤ n157 ∧ n157 ≤ 1000000) := nrng (H.nle 157 (by decide)) (show (N 157 : Int) = n157 from en157)
  have r156 : HID ((0 : Int) ≤ n158 ∧ n158 ≤ 1000000) := nrng (H.nle 158 (by decide)) (show (N 158 : Int) = n158 from en158)
  have r157 : HID ((0 : Int) ≤ n159 ∧ n159 ≤ 1000000) := nrng (H.nle 159 (by decide)) (show (N 159 : Int) = n159 from en159)
  have r158 : HID ((0 : Int) ≤ n160 ∧ n160 ≤ 1000000) := nrng (H.nle 160 (by decide)) (show (N 160 : Int) = n160 from en160)
  have r159 : HID ((0 : Int) ≤ n161 ∧ n161 ≤ 1000000) := nrng (H.nle 161 (by decide)) (show (N 161 : Int) = n161 from en161)
  have r160 : HID ((0 : Int) ≤ n163 ∧ n163 ≤ 1000000) := nrng (H.nle 163 (by decide)) (show (N 163 : Int) = n163 from en163)
  have r161 : HID ((0 : Int) ≤ n164 ∧ n164 ≤ 1000000) := nrng (H.nle 164 (by decide)) (show (N 164 : Int) = n164 from en164)
  have r162 : HID ((0 : Int) ≤ n165 ∧ n165 ≤ 1000000) := nrng (H.nle 165 (by decide)) (show (N 165 : Int) = n165 from en165)
  have r163 : HID ((0 : Int) ≤ n166 ∧ n166 ≤ 1000000) := nrng (H.nle 166 (by decide)) (show (N 166 : Int) = n166 from en166)
  have r164 : HID ((0 : Int) ≤ n167 ∧ n167 ≤ 1000000) := nrng (H.nle 167 (by decide)) (show (N 167 : Int) = n167 from en167)
  have r165 : HID ((0 : Int) ≤ n168 ∧ n168 ≤ 1000000) := nrng (H.nle 168 (by decide)) (show (N 168 : Int) = n168 from en168)
  have r166 : HID ((0 : Int) ≤ n169 ∧ n169 ≤ 1000000) := nrng (H.nle 169 (by decide)) (show (N 169 : Int) = n169 from en169)
  have r167 : HID ((0 : Int) ≤ n170 ∧ n170 ≤ 1000000) := nrng (H.nle 170 (by decide)) (show (N 170 : Int) = n170 from en170)
  have hD1 : Dc.1 = sc ((w7)) 0 ((u6_1)) := by assumption
  have hD2 : Dc.2.1 = (u5_2) % 4294967296 := by assumption
  refine Ew_of (pc' := 169) (fun _ => x_aload_n rfl hl0) ?_
  refine v_g H (o := 0) (v := .ref (D 2)) rfl rfl rfl rfl rfl (vrf (pf2)) ?_
  refine Ew_of (pc' := 174) (fun _ => x_aload rfl hl4) ?_
  refine Ew_of (pc' := 175) (fun _ => x_aload_n rfl hl0) ?_
  refine v_g H (o := 0) (v := .ref (D 5)) rfl rfl rfl rfl rfl (vrf (pf5)) ?_
  refine v_inv H (o := 8) rfl rfl rfl rfl rfl rfl (by rfl) (C134_Row_Row_Dictionary_vn (D := pul [8, 2, 1, 5, 3, 4, 6, 7, 9, 10, 11, 12, 13, 14, 15, 16, 17, 18, 19, 20, 21, 22, 23, 24, 25, 26, 27, 28, 29, 30, 31, 32, 33, 34, 35, 36, 37, 38, 39, 40, 41, 42, 43, 44, 45, 46, 47, 48, 49, 50, 51, 52, 53, 54, 55, 56, 57, 58, 59, 60, 61, 62, 63, 64, 65, 66, 67, 68, 69, 70, 71, 72, 73, 74, 75, 76, 77, 78, 79, 80, 81, 82, 83, 84, 85, 86, 87, 88, 89, 90, 91, 92, 93, 94, 95, 96, 97, 98, 99, 100, 101, 102, 103, 104, 105, 106, 107, 108, 109, 110, 111, 112, 113, 114, 115, 116, 117, 118, 119, 120, 121, 122, 123, 124, 125, 126, 127, 128, 129, 130, 131, 132, 133, 134, 135, 136, 137, 138, 139, 140, 141, 142, 143, 144, 145, 146, 147, 148, 149, 150, 151, 152, 153, 154, 155, 156, 157, 158, 159, 160, 161, 162, 163, 164, 165, 166, 167, 168, 169, 170] D) (N := pul [8, 2, 1, 5, 3, 4, 6, 7, 9, 10, 11, 12, 13, 14, 15, 16, 17, 18, 19, 20, 21, 22, 23, 24, 25, 26, 27, 28, 29, 30, 31, 32, 33, 34, 35, 36, 37, 38, 39, 40, 41, 42, 43, 44, 45, 46, 47, 48, 49, 50, 51, 52, 53, 54, 55, 56, 57, 58, 59, 60, 61, 62, 63, 64, 65, 66, 67, 68, 69, 70, 71, 72, 73, 74, 75, 76, 77, 78, 79, 80, 81, 82, 83, 84, 85, 86, 87, 88, 89, 90, 91, 92, 93, 94, 95, 96, 97, 98, 99, 100, 101, 102, 103, 104, 105, 106, 107, 108, 109, 110, 111, 112, 113, 114, 115, 116, 117, 118, 119, 120, 121, 122, 123, 124, 125, 126, 127, 128, 129, 130, 131, 132, 133, 134, 135, 136, 137, 138, 139, 140, 141, 142, 143, 144, 145, 146, 147, 148, 149, 150, 151, 152, 153, 154, 155, 156, 157, 158, 159, 160, 161, 162, 163, 164, 165, 166, 167, 168, 169, 170] N) (HW_sub H (VS_of (show vsub V17_vD4n V134_Row_Row_Dictionary_vn [8, 2, 1, 5, 3, 4, 6, 7, 9, 10, 11, 12, 13, 14, 15, 16, 17, 18, 19, 20, 21, 22, 23, 24, 25, 26, 27, 28, 29, 30, 31, 32, 33, 34, 35, 36, 37, 38, 39, 40, 41, 42, 43, 44, 45, 46, 47, 48, 49, 50, 51, 52, 53, 54, 55, 56, 57, 58, 59, 60, 61, 62, 63, 64, 65, 66, 67, 68, 69, 70, 71, 72, 73, 74, 75, 76, 77, 78, 79, 80, 81, 82, 83, 84, 85, 86, 87, 88, 89, 90, 91, 92, 93, 94, 95, 96, 97, 98, 99, 100, 101, 102, 103, 104, 105, 106, 107, 108, 109, 110, 111, 112, 113, 114, 115, 116, 117, 118, 119, 120, 121, 122, 123, 124, 125, 126, 127, 128, 129, 130, 131, 132, 133, 134, 135, 136, 137, 138, 139, 140, 141, 142, 143, 144, 145, 146, 147, 148, 149, 150, 151, 152, 153, 154, 155, 156, 157, 158, 159, 160, 161, 162, 163, 164, 165, 166, 167, 168, 169, 170] = true by decide +kernel))) (STC_out HT HE O) (pf3) (pf4) (pf6) (pf7) (pf9) (pf10) (pf11) (pf12) (pf13) (pf14) (pf15) (pf16) (pf17) (pf18) (pf19) (pf20) (pf21) (pf22) (pf23) (pf24) (pf25) (pf26) (pf27) (pf28) (pf29) (pf30) (pf31) (pf32) (pf33) (pf34) (pf35) (pf36) (pf37) (pf38) (pf39) (pf40) (pf41) (pf42) (pf43) (pf44) (pf45) (pf46) (pf47) (pf48) (pf49) (pf50) (pf51) (pf52) (pf53) (pf54) (pf55) (pf56) (pf57) (pf58) (pf59) (pf60) (pf61) (pf62) (pf63) (pf64) (pf65) (pf66) (pf67) (pf68) (pf69) (pf70) (pf71) (pf72) (pf73) (pf74) (pf75) (pf76) (pf77) (pf78) (pf79) (pf80) (pf81) (pf82) (pf83) (pf84) (pf85) (pf86) (pf87) (pf88) (pf89) (pf90) (pf91) (pf92) (pf93) (pf94) (pf95) (pf96) (pf97) (pf98) (pf99) (pf100) (pf101) (pf102) (pf103) (pf104) (pf105) (pf106) (pf107) (pf108) (pf109) (pf110) (pf111) (pf112) (pf113) (pf114) (pf115) (pf116) (pf117) (pf118) (pf119) (pf120) (pf121) (pf122) (pf123) (pf124) (pf125) (pf126) (pf127) (pf128) (pf129) (pf130) (pf131) (pf132) (pf133) (pf134) (pf135) (pf136) (pf137) (pf138) (pf139) (pf140) (pf141) (pf142) (pf143) (pf144) (pf145) (pf146) (pf147) (pf148) (pf149) (pf150) (pf151) (pf152) (pf153) (pf154) (pf155) (pf156) (pf157) (pf158) (pf159) (pf160) (pf161) (pf162) (pf163) (pf164) (pf165) (pf166) (pf167) (pf168) (pf169) (pf170) (n3) (en3) (n4) (en4) (n7) (en7) (n9) (en9) (n12) (en12) (n13) (en13) (n14) (en14) (n15) (en15) (n16) (en16) (n17) (en17) (n19) (en19) (n21) (en21) (n23) (en23) (n24) (en24) (n25) (en25) (n26) (en26) (n27) (en27) (n28) (en28) (n30) (en30) (n31) (en31) (n33) (en33) (n34) (en34) (n35) (en35) (n36) (en36) (n37) (en37) (n38) (en38) (n39) (en39) (n40) (en40) (n41) (en41) (n42) (en42) (n44) (en44) (n45) (en45) (n47) (en47) (n48) (en48) (n49) (en49) (n50) (en50) (n51) (en51) (n52) (en52) (n53) (en53) (n54) (en54) (n56) (en56) (n57) (en57) (n58) (en58) (n59) (en59) (n60) (en60) (n61) (en61) (n62) (en62) (n63) (en63) (n65) (en65) (n67) (en67) (n69) (en69) (n70) (en70) (n71) (en71) (n72) (en72) (n73) (en73) (n74) (en74) (n75) (en75) (n76) (en76) (n78) (en78) (n79) (en79) (n80) (en80) (n81) (en81) (n82) (en82) (n83) (en83) (n84) (en84) (n85) (en85) (n87) (en87) (n89) (en89) (n91) (en91) (n92) (en92) (n93) (en93) (n94) (en94) (n95) (en95) (n96) (en96) (n97) (en97) (n98) (en98) (n100) (en100) (n101) (en101) (n102) (en102) (n103) (en103) (n104) (en104) (n105) (en105) (n106) (en106) (n107) (en107) (n109) (en109) (n110) (en110) (n111) (en111) (n112) (en112) (n113) (en113) (n114) (en114) (n115) (en115) (n116) (en116) (n118) (en118) (n119) (en119) (n120) (en120) (n121) (en121) (n122) (en122) (n123) (en123) (n124) (en124) (n125) (en125) (n127) (en127) (n128) (en128) (n129) (en129) (n130) (en130) (n131) (en131) (n132) (en132) (n133) (en133) (n134) (en134) (n136) (en136) (n137) (en137) (n138) (en138) (n139) (en139) (n140) (en140) (n141) (en141) (n142) (en142) (n143) (en143) (n145) (en145) (n146) (en146) (n147) (en147) (n148) (en148) (n149) (en149) (n150) (en150) (n151) (en151) (n152) (en152) (n154) (en154) (n155) (en155) (n156) (en156) (n157) (en157) (n158) (en158) (n159) (en159) (n160) (en160) (n161) (en161) (n163) (en163) (n164) (en164) (n165) (en165) (n166) (en166) (n167) (en167) (n168) (en168) (n169) (en169) (n170) (en170) (u2_1) ((eu2_1)) (u2_2) ((eu2_2)) (u1_1) ((eu1_1)) (u5_2) ((eu5_2)) (u6_1) ((eu6_1)) (u11_1) ((eu11_1)) (u18_1) ((eu18_1)) (u20_1) ((eu20_1)) (u22_1) ((eu22_1)) (u43_0) ((eu43_0)) (u55_1) ((eu55_1)) (u64_1) ((eu64_1)) (u66_1) ((eu66_1)) (u77_1) ((eu77_1)) (u86_1) ((eu86_1)) (u88_1) ((eu88_1)) (u90_0) ((eu90_0)) (u90_1) ((eu90_1)) (u99_1) ((eu99_1)) (u108_1) ((eu108_1)) (u117_0) ((eu117_0)) (u117_1) ((eu117_1)) (u126_1) ((eu126_1)) (u135_1) ((eu135_1)) (u144_0) ((eu144_0)) (u144_1) ((eu144_1)) (u153_1) ((eu153_1)) (u162_1) ((eu162_1)) (w3) (ew3) (w4) (ew4) (w7) (ew7) (w9) (ew9) (A 26) (rfl) (w27) (ew27) (w44) (ew44) (w45) (ew45) (w49) (ew49) (w71) (ew71) (w91) (ew91) (w92) (ew92) (w93) (ew93) (w94) (ew94) (w95) (ew95) (w96) (ew96) (w97) (ew97) (w118) (ew118) (w119) (ew119) (w120) (ew120) (w121) (ew121) (w122) (ew122) (w123) (ew123) (w124) (ew124) (w145) (ew145) (w146) (ew146) (w147) (ew147) (w148) (ew148) (w149) (ew149) (w150) (ew150) (w151) (ew151) (st0) (show 0 ≤ (u2_1) ∧ (u2_1) ≤ (n3) ∧ (n3) ≤ 65536 by have qh0 := HIDe r2; have qh1 := HIDe r28; omega) (show 0 ≤ (u1_1) ∧ (u1_1) ≤ (n4) ∧ (n4) ≤ 65536 by have qh0 := HIDe r1; have qh1 := HIDe r29; omega) (show 0 ≤ (u6_1) ∧ (u6_1) ≤ (n7) ∧ (n7) ≤ 65536 by have qh0 := HIDe r30; have qh1 := HIDe r5; omega) (show (u6_1) + (u1_1) ≤ 16384 by have qh0 := HIDe r1; have qh1 := HIDe r5; omega) (show 1 ≤ ((w9)) 1 ∧ ((w9)) 1 ≤ 8 by omega) (show 3 ≤ ((w9)) 1 by omega) (show 0 ≤ ((w9)) 7 ∧ ((w9)) 7 ≤ 15 by omega) (show 0 ≤ ((w9)) 8 ∧ ((w9)) 8 ≤ 11 by omega) (show 1 ≤ ((w9)) 2 ∧ ((w9)) 2 ≤ 65536 by omega) (show 0 ≤ (u11_1) ∧ (u11_1) ≤ (n12) ∧ (n12) ≤ 65536 by have qh0 := HIDe r32; have qh1 := HIDe r6; omega) (show (n13) = 0 ∨ (n13) = 2048 by have qh0 := HIDe r33; omega) (show (n14) ≤ 16384 by have qh0 := HIDe r34; omega) (show (n15) = (n16) ∧ (n17) = (n16) ∧ (n16) ≤ 65536 ∧ ((n16) = 0 ∨ 64 ≤ (n16)) ∧ lgq ((n16)) = 0 by have qh0 := HIDe r35; have qh1 := HIDe r36; have qh2 := HIDe r37; omega) (show 0 ≤ (u18_1) ∧ (u18_1) ≤ (n19) ∧ (n19) ≤ 65536 by have qh0 := HIDe r38; have qh1 := HIDe r7; omega) (show 0 ≤ (u20_1) ∧ (u20_1) ≤ (n21) ∧ (n21) ≤ 65536 by have qh0 := HIDe r39; have qh1 := HIDe r8; omega) (show 0 ≤ (u22_1) ∧ (u22_1) ≤ (n23) ∧ (n23) ≤ 65536 by have qh0 := HIDe r40; have qh1 := HIDe r9; omega) (show (n9) = 10 ∧ (n24) = 256 ∧ (n25) = 53 ∧ (n26) = 13 ∧ (n27) = 3 ∧ (n28) = 2 ∧ (n30) = 3 ∧ (n31) = 3 ∧ (n33) = 3 ∧ (n34) = 3 ∧ (n35) = 3 ∧ (n36) = 3 ∧ (n37) = 3 by have qh0 := HIDe r31; have qh1 := HIDe r41; have qh2 := HIDe r42; have qh3 := HIDe r43; have qh4 := HIDe r44; have qh5 := HIDe r45; have qh6 := HIDe r46; have qh7 := HIDe r47; have qh8 := HIDe r48; have qh9 := HIDe r49; have qh10 := HIDe r50; have qh11 := HIDe r51; have qh12 := HIDe r52; omega) (show (n38) = 3 ∧ (n39) = (n40) ∧ (n41) = (n40) ∧ (n42) = (n40) ∧ lgq ((n40)) = 0 ∧ (n40) ≤ 16384 by have qh0 := HIDe r53; have qh1 := HIDe r54; have qh2 := HIDe r55; have qh3 := HIDe r56; have qh4 := HIDe r57; omega) (show (n44) = 3 ∧ (n45) = 3 by have qh0 := HIDe r58; have qh1 := HIDe r59; omega) (by assumption) (by assumption) (show 0 ≤ (u64_1) ∧ (u64_1) ≤ (n65) ∧ (n65) ≤ 65536 by have qh0 := HIDe r11; have qh1 := HIDe r76; omega) (show 0 ≤ (u66_1) ∧ (u66_1) ≤ (n67) ∧ (n67) ≤ 65536 by have qh0 := HIDe r12; have qh1 := HIDe r77; omega) (show CEL ((w49)) by assumption) (by assumption) (by assumption) (show 0 ≤ (u86_1) ∧ (u86_1) ≤ (n87) ∧ (n87) ≤ 65536 by have qh0 := HIDe r14; have qh1 := HIDe r94; omega) (show 0 ≤ (u88_1) ∧ (u88_1) ≤ (n89) ∧ (n89) ≤ 65536 by have qh0 := HIDe r15; have qh1 := HIDe r95; omega) (show CEL ((w71)) by assumption) (by assumption) (by assumption) (by assumption) (by assumption) (by assumption) (by assumption) (by assumption) (by assumption) (by assumption) (by assumption) (by assumption) (by assumption) (show 0 ≤ ((w27)) 0 ∧ ((w27)) 0 ≤ 3 ∧ 0 ≤ ((w27)) 1 ∧ ((w27)) 1 ≤ 3 ∧ 0 ≤ ((w27)) 2 ∧ ((w27)) 2 ≤ 3 by omega) (show (u43_0) = -1 by omega) (show ((w44)) 0 = -1 by omega) (show ((w44)) 1 = -1 by omega) (show ((w44)) 2 = -1 by omega) (show IMP ((u43_0) = -1) ((st0).1 = none) by assumption) (show IMP (((w44)) 0 = -1) (((st0).2.1 0).1 < 0) by assumption) (show IMP (((w44)) 1 = -1) (((st0).2.1 1).1 < 0) by assumption) (show IMP (((w44)) 2 = -1) (((st0).2.1 2).1 < 0) by assumption) (show TOK ((st0).2.1 0) by assumption) (show TOK ((st0).2.1 1) by assumption) (show TOK ((st0).2.1 2) by assumption) (show (st0).2.2.1 = (((w45)) 0, ((w45)) 1, ((w45)) 2) by assumption) (show 1 ≤ ((w45)) 0 ∧ 1 ≤ ((w45)) 1 ∧ 1 ≤ ((w45)) 2 by assumption) (show ∀ i, 0 ≤ i → i < 12 → (st0).2.2.2 i = 0 by assumption) (show SHX (KNX 0) ((u90_0)) ((u90_1)) ((w91)) by assumption) (show SHX (KNX 1) ((u117_0)) ((u117_1)) ((w118)) by assumption) (show SHX (KNX 2) ((u144_0)) ((u144_1)) ((w145)) by assumption) (fun σ168 D168' N168' F168' A168' c168 s168 H' O' hD168 hN168 hS168 hA168 pm168_4 pm168_11 pm168_12 pm168_13 pm168_14 pm168_15 pm168_16 pm168_18 pm168_20 pm168_22 pm168_37 pm168_38 pm168_39 pm168_40 pm168_41 pm168_64 pm168_66 pm168_86 pm168_88 m168_4 em168_4 m168_11 em168_11 m168_12 em168_12 m168_13 em168_13 m168_14 em168_14 m168_15 em168_15 m168_16 em168_16 m168_18 em168_18 m168_20 em168_20 m168_22 em168_22 m168_37 em168_37 m168_38 em168_38 m168_39 em168_39 m168_40 em168_40 m168_41 em168_41 m168_64 em168_64 m168_66 em168_66 m168_86 em168_86 m168_88 em168_88 y168_1_1 ey168_1_1 y168_1_2 ey168_1_2 y168_10_1 ey168_10_1 y168_17_1 ey168_17_1 y168_19_1 ey168_19_1 y168_21_1 ey168_21_1 y168_63_1 ey168_63_1 y168_65_1 ey168_65_1 y168_85_1 ey168_85_1 y168_87_1 ey168_87_1 w168_4 ew168_4 w168_25 ew168_25 w168_26 ew168_26 w168_48 ew168_48 w168_70 ew168_70 pz168_0 pz168_1 pz168_2 pz168_3 pz168_4 pz168_5 pz168_6 pz168_7 pz168_8 pz168_9 pz168_10 pz168_11 pz168_12 pz168_13 pz168_14 pz168_15 pz168_16 pz168_17 => ⟨rfl, ?_⟩))
  replace pm168_4 := HIDm pm168_4
  replace pm168_11 := HIDm pm168_11
  replace pm168_12 := HIDm pm168_12
  replace pm168_13 := HIDm pm168_13
  replace pm168_14 := HIDm pm168_14
  replace pm168_15 := HIDm pm168_15
  replace pm168_16 := HIDm pm168_16
  replace pm168_18 := HIDm pm168_18
  replace pm168_20 := HIDm pm168_20
  replace pm168_22 := HIDm pm168_22
  replace pm168_37 := HIDm pm168_37
  replace pm168_38 := HIDm pm168_38
  replace pm168_39 := HIDm pm168_39
  replace pm168_40 := HIDm pm168_40
  replace pm168_41 := HIDm pm168_41
  replace pm168_64 := HIDm pm168_64
  replace pm168_66 := HIDm pm168_66
  replace pm168_86 := HIDm pm168_86
  replace pm168_88 := HIDm pm168_88
  replace em168_4 := HIDm em168_4
  replace em168_11 := HIDm em168_11
  replace em168_12 := HIDm em168_12
  replace em168_13 := HIDm em168_13
  replace em168_14 := HIDm em168_14
  replace em168_15 := HIDm em168_15
  replace em168_16 := HIDm em168_16
  replace em168_18 := HIDm em168_18
  replace em168_20 := HIDm em168_20
  replace em168_22 := HIDm em168_22
  replace em168_37 := HIDm em168_37
  replace em168_38 := HIDm em168_38
  replace em168_39 := HIDm em168_39
  replace em168_40 := HIDm em168_40
  replace em168_41 := HIDm em168_41
  replace em168_64 := HIDm em168_64
  replace em168_66 := HIDm em168_66
  replace em168_86 := HIDm em168_86
  replace em168_88 := HIDm em168_88
  replace ey168_1_1 := HIDm ey168_1_1
  replace ey168_1_2 := HIDm ey168_1_2
  replace ey168_10_1 := HIDm ey168_10_1
  replace ey168_17_1 := HIDm ey168_17_1
  replace ey168_19_1 := HIDm ey168_19_1
  replace ey168_21_1 := HIDm ey168_21_1
  replace ey168_63_1 := HIDm ey168_63_1
  replace ey168_65_1 := HIDm ey168_65_1
  replace ey168_85_1 := HIDm ey168_85_1
  replace ey168_87_1 := HIDm ey168_87_1
  refine v_backM (c := c) (s := s) H (show vsub V17_vD4n V134_Row_Row_Dictionary_vn [8, 2, 1, 5, 3, 4, 6, 7, 9, 10, 11, 12, 13, 14, 15, 16, 17, 18, 19, 20, 21, 22, 23, 24, 25, 26, 27, 28, 29, 30, 31, 32, 33, 34, 35, 36, 37, 38, 39, 40, 41, 42, 43, 44, 45, 46, 47, 48, 49, 50, 51, 52, 53, 54, 55, 56, 57, 58, 59, 60, 61, 62, 63, 64, 65, 66, 67, 68, 69, 70, 71, 72, 73, 74, 75, 76, 77, 78, 79, 80, 81, 82, 83, 84, 85, 86, 87, 88, 89, 90, 91, 92, 93, 94, 95, 96, 97, 98, 99, 100, 101, 102, 103, 104, 105, 106, 107, 108, 109, 110, 111, 112, 113, 114, 115, 116, 117, 118, 119, 120, 121, 122, 123, 124, 125, 126, 127, 128, 129, 130, 131, 132, 133, 134, 135, 136, 137, 138, 139, 140, 141, 142, 143, 144, 145, 146, 147, 148, 149, 150, 151, 152, 153, 154, 155, 156, 157, 158, 159, 160, 161, 162, 163, 164, 165, 166, 167, 168, 169, 170] = true by decide +kernel) H' O' hD168 (show vmov V17_vD4n [8, 2, 1, 5, 3, 4, 6, 7, 9, 10, 11, 12, 13, 14, 15, 16, 17, 18, 19, 20, 21, 22, 23, 24, 25, 26, 27, 28, 29, 30, 31, 32, 33, 34, 35, 36, 37, 38, 39, 40, 41, 42, 43, 44, 45, 46, 47, 48, 49, 50, 51, 52, 53, 54, 55, 56, 57, 58, 59, 60, 61, 62, 63, 64, 65, 66, 67, 68, 69, 70, 71, 72, 73, 74, 75, 76, 77, 78, 79, 80, 81, 82, 83, 84, 85, 86, 87, 88, 89, 90, 91, 92, 93, 94, 95, 96, 97, 98, 99, 100, 101, 102, 103, 104, 105, 106, 107, 108, 109, 110, 111, 112, 113, 114, 115, 116, 117, 118, 119, 120, 121, 122, 123, 124, 125, 126, 127, 128, 129, 130, 131, 132, 133, 134, 135, 136, 137, 138, 139, 140, 141, 142, 143, 144, 145, 146, 147, 148, 149, 150, 151, 152, 153, 154, 155, 156, 157, 158, 159, 160, 161, 162, 163, 164, 165, 166, 167, 168, 169, 170] [4, 11, 12, 13, 14, 15, 16, 18, 20, 22, 37, 38, 39, 40, 41, 64, 66, 86, 88] = true by decide +kernel) (fun D168 N168 F168 A168 H O' eD168 eN168 eF168 eA168 => ?_)
  have O := OUT_trans O O'
  -- Packer.packFrame
  have pe168_28_0 : HID (A168 28 0 = (D168 46 : Int)) := (congrFun ((show A168 28 = A 28 from (eA168 28).trans (funext (hA168 27 rfl)))) 0).trans ((pf46).trans (congrArg (fun q : Nat => (q : Int)) ((show D168 46 = D 46 from (eD168 46).trans (hD168 45 rfl))).symm))
  have pe168_28_1 : HID (A168 28 1 = (D168 68 : Int)) := (congrFun ((show A168 28 = A 28 from (eA168 28).trans (funext (hA168 27 rfl)))) 1).trans ((pf68).trans (congrArg (fun q : Nat => (q : Int)) ((show D168 68 = D 68 from (eD168 68).trans (hD168 67 rfl))).symm))
  have pe168_35_0 : HID (A168 35 0 = (D168 90 : Int)) := (congrFun ((show A168 35 = A 35 from (eA168 35).trans (funext (hA168 34 rfl)))) 0).trans ((pf90).trans (congrArg (fun q : Nat => (q : Int)) ((show D168 90 = D 90 from (eD168 90).trans (hD168 89 rfl))).symm))
  have pe168_35_1 : HID (A168 35 1 = (D168 117 : Int)) := (congrFun ((show A168 35 = A 35 from (eA168 35).trans (funext (hA168 34 rfl)))) 1).trans ((pf117).trans (congrArg (fun q : Nat => (q : Int)) ((show D168 117 = D 117 from (eD168 117).trans (hD168 116 rfl))).symm))
  have pe168_35_2 : HID (A168 35 2 = (D168 144 : Int)) := (congrFun ((show A168 35 = A 35 from (eA168 35).trans (funext (hA168 34 rfl)))) 2).trans ((pf144).trans (congrArg (fun q : Nat => (q : Int)) ((show D168 144 = D 144 from (eD168 144).trans (hD168 143 rfl))).symm))
  have pe168_36_0 : HID (A168 36 0 = (D168 99 : Int)) := (congrFun ((show A168 36 = A 36 from (eA168 36).trans (funext (hA168 35 rfl)))) 0).trans ((pf99).trans (congrArg (fun q : Nat => (q : Int)) ((show D168 99 = D 99 from (eD168 99).trans (hD168 98 rfl))).symm))
  have pe168_36_1 : HID (A168 36 1 = (D168 126 : Int)) := (congrFun ((show A168 36 = A 36 from (eA168 36).trans (funext (hA168 35 rfl)))) 1).trans ((pf126).trans (congrArg (fun q : Nat => (q : Int)) ((show D168 126 = D 126 from (eD168 126).trans (hD168 125 rfl))).symm))
  have pe168_36_2 : HID (A168 36 2 = (D168 153 : Int)) := (congrFun ((show A168 36 = A 36 from (eA168 36).trans (funext (hA168 35 rfl)))) 2).trans ((pf153).trans (congrArg (fun q : Nat => (q : Int)) ((show D168 153 = D 153 from (eD168 153).trans (hD168 152 rfl))).symm))
  have pe168_37_0 : HID (A168 37 0 = (D168 108 : Int)) := (congrFun ((show A168 37 = A 37 from (eA168 37).trans (funext (hA168 36 rfl)))) 0).trans ((pf108).trans (congrArg (fun q : Nat => (q : Int)) ((show D168 108 = D 108 from (eD168 108).trans (hD168 107 rfl))).symm))
  have pe168_37_1 : HID (A168 37 1 = (D168 135 : Int)) := (congrFun ((show A168 37 = A 37 from (eA168 37).trans (funext (hA168 36 rfl)))) 1).trans ((pf135).trans (congrArg (fun q : Nat => (q : Int)) ((show D168 135 = D 135 from (eD168 135).trans (hD168 134 rfl))).symm))
  have pe168_37_2 : HID (A168 37 2 = (D168 162 : Int)) := (congrFun ((show A168 37 = A 37 from (eA168 37).trans (funext (hA168 36 rfl)))) 2).trans ((pf162).trans (congrArg (fun q : Nat => (q : Int)) ((show D168 162 = D 162 from (eD168 162).trans (hD168 161 rfl))).symm))
  have pe168_38_0 : HID (A168 38 0 = (D168 39 : Int)) := (congrFun (eA168 38) 0).trans (pm168_38.trans (congrArg (fun q : Nat => (q : Int)) (eD168 39).symm))
  have pe168_38_1 : HID (A168 38 1 = (D168 41 : Int)) := (congrFun (eA168 38) 1).trans (pm168_40.trans (congrArg (fun q : Nat => (q : Int)) (eD168 41).symm))
  have pe168_38_2 : HID (A168 38 2 = (D168 42 : Int)) := (congrFun (eA168 38) 2).trans (pm168_41.trans (congrArg (fun q : Nat => (q : Int)) (eD168 42).symm))
  have pf168_0_11 : HID (F168 0 11 = (D168 8 : Int)) := ((show F168 0 11 = F 0 11 from (eF168 0 11))).trans ((pf8).trans (congrArg (fun q : Nat => (q : Int)) ((show D168 8 = D 8 from (eD168 8).trans (hD168 0 rfl))).symm))
  have pf168_0_15 : HID (F168 0 15 = (D168 171 : Int)) := ((show F168 0 15 = F 0 15 from (eF168 0 15))).trans ((pf171).trans (congrArg (fun q : Nat => (q : Int)) ((show D168 171 = D 171 from (eD168 171))).symm))
  have pf168_0_3 : HID (F168 0 3 = (D168 5 : Int)) := ((show F168 0 3 = F 0 3 from (eF168 0 3))).trans ((pf5).trans (congrArg (fun q : Nat => (q : Int)) ((show D168 5 = D 5 from (eD168 5).trans (hD168 3 rfl))).symm))
  have pf168_0_5 : HID (F168 0 5 = (D168 2 : Int)) := ((show F168 0 5 = F 0 5 from (eF168 0 5))).trans ((pf2).trans (congrArg (fun q : Nat => (q : Int)) ((show D168 2 = D 2 from (eD168 2).trans (hD168 1 rfl))).symm))
  have pf168_1_0 : HID (F168 1 0 = (D168 4 : Int)) := ((show F168 1 0 = F 1 0 from (eF168 1 0).trans (hS168 2 0 rfl))).trans ((pf4).trans (congrArg (fun q : Nat => (q : Int)) ((show D168 4 = D 4 from (eD168 4).trans (hD168 5 rfl))).symm))
  have pf168_10_0 : HID (F168 10 0 = (D168 11 : Int)) := ((show F168 10 0 = F 10 0 from (eF168 10 0).trans (hS168 9 0 rfl))).trans ((pf11).trans (congrArg (fun q : Nat => (q : Int)) ((show D168 11 = D 11 from (eD168 11).trans (hD168 10 rfl))).symm))
  have pf168_10_1 : HID (F168 10 1 = (D168 15 : Int)) := (eF168 10 1).trans (pm168_14.trans (congrArg (fun q : Nat => (q : Int)) (eD168 15).symm))
  have pf168_10_2 : HID (F168 10 2 = (D168 16 : Int)) := (eF168 10 2).trans (pm168_15.trans (congrArg (fun q : Nat => (q : Int)) (eD168 16).symm))
  have pf168_10_3 : HID (F168 10 3 = (D168 17 : Int)) := (eF168 10 3).trans (pm168_16.trans (congrArg (fun q : Nat => (q : Int)) (eD168 17).symm))
  have pf168_10_7 : HID (F168 10 7 = (D168 13 : Int)) := (eF168 10 7).trans (pm168_12.trans (congrArg (fun q : Nat => (q : Int)) (eD168 13).symm))
  have pf168_10_8 : HID (F168 10 8 = (D168 14 : Int)) := (eF168 10 8).trans (pm168_13.trans (congrArg (fun q : Nat => (q : Int)) (eD168 14).symm))
  have pf168_108_2 : HID (F168 108 2 = (D168 109 : Int)) := ((show F168 108 2 = F 108 2 from (eF168 108 2).trans (hS168 107 2 rfl))).trans ((pf109).trans (congrArg (fun q : Nat => (q : Int)) ((show D168 109 = D 109 from (eD168 109).trans (hD168 108 rfl))).symm))
  have pf168_108_3 : HID (F168 108 3 = (D168 110 : Int)) := ((show F168 108 3 = F 108 3 from (eF168 108 3).trans (hS168 107 3 rfl))).trans ((pf110).trans (congrArg (fun q : Nat => (q : Int)) ((show D168 110 = D 110 from (eD168 110).trans (hD168 109 rfl))).symm))
  have pf168_108_4 : HID (F168 108 4 = (D168 111 : Int)) := ((show F168 108 4 = F 108 4 from (eF168 108 4).trans (hS168 107 4 rfl))).trans ((pf111).trans (congrArg (fun q : Nat => (q : Int)) ((show D168 111 = D 111 from (eD168 111).trans (hD168 110 rfl))).symm))
  have pf168_108_5 : HID (F168 108 5 = (D168 112 : Int)) := ((show F168 108 5 = F 108 5 from (eF168 108 5).trans (hS168 107 5 rfl))).trans ((pf112).trans (congrArg (fun q : Nat => (q : Int)) ((show D168 112 = D 112 from (eD168 112).trans (hD168 111 rfl))).symm))
  have pf168_108_6 : HID (F168 108 6 = (D168 113 : Int)) := ((show F168 108 6 = F 108 6 from (eF168 108 6).trans (hS168 107 6 rfl))).trans ((pf113).trans (congrArg (fun q : Nat => (q : Int)) ((show D168 113 = D 113 from (eD168 113).trans (hD168 112 rfl))).symm))
  have pf168_108_7 : HID (F168 108 7 = (D168 114 : Int)) := ((show F168 108 7 = F 108 7 from (eF168 108 7).trans (hS168 107 7 rfl))).trans ((pf114).trans (congrArg (fun q : Nat => (q : Int)) ((show D168 114 = D 114 from (eD168 114).trans (hD168 113 rfl))).symm))
  have pf168_108_8 : HID (F168 108 8 = (D168 115 : Int)) := ((show F168 108 8 = F 108 8 from (eF168 108 8).trans (hS168 107 8 rfl))).trans ((pf115).trans (congrArg (fun q : Nat => (q : Int)) ((show D168 115 = D 115 from (eD168 115).trans (hD168 114 rfl))).symm))
  have pf168_108_9 : HID (F168 108 9 = (D168 116 : Int)) := ((show F168 108 9 = F 108 9 from (eF168 108 9).trans (hS168 107 9 rfl))).trans ((pf116).trans (congrArg (fun q : Nat => (q : Int)) ((show D168 116 = D 116 from (eD168 116).trans (hD168 115 rfl))).symm))
  have pf168_11_0 : HID (F168 11 0 = (D168 12 : Int)) := (eF168 11 0).trans (pm168_11.trans (congrArg (fun q : Nat => (q : Int)) (eD168 12).symm))
  have pf168_117_2 : HID (F168 117 2 = (D168 118 : Int)) := ((show F168 117 2 = F 117 2 from (eF168 117 2).trans (hS168 116 2 rfl))).trans ((pf118).trans (congrArg (fun q : Nat => (q : Int)) ((show D168 118 = D 118 from (eD168 118).trans (hD168 117 rfl))).symm))
  have pf168_117_3 : HID (F168 117 3 = (D168 119 : Int)) := ((show F168 117 3 = F 117 3 from (eF168 117 3).trans (hS168 116 3 rfl))).trans ((pf119).trans (congrArg (fun q : Nat => (q : Int)) ((show D168 119 = D 119 from (eD168 119).trans (hD168 118 rfl))).symm))
  have pf168_117_4 : HID (F168 117 4 = (D168 120 : Int)) := ((show F168 117 4 = F 117 4 from (eF168 117 4).trans (hS168 116 4 rfl))).trans ((pf120).trans (congrArg (fun q : Nat => (q : Int)) ((show D168 120 = D 120 from (eD168 120).trans (hD168 119 rfl))).symm))
  have pf168_117_5 : HID (F168 117 5 = (D168 121 : Int)) := ((show F168 117 5 = F 117 5 from (eF168 117 5).trans (hS168 116 5 rfl))).trans ((pf121).trans (congrArg (fun q : Nat => (q : Int)) ((show D168 121 = D 121 from (eD168 121).trans (hD168 120 rfl))).symm))
  have pf168_117_6 : HID (F168 117 6 = (D168 125 : Int)) := ((show F168 117 6 = F 117 6 from (eF168 117 6).trans (hS168 116 6 rfl))).trans ((pf125).trans (congrArg (fun q : Nat => (q : Int)) ((show D168 125 = D 125 from (eD168 125).trans (hD168 124 rfl))).symm))
  have pf168_117_7 : HID (F168 117 7 = (D168 122 : Int)) := ((show F168 117 7 = F 117 7 from (eF168 117 7).trans (hS168 116 7 rfl))).trans ((pf122).trans (congrArg (fun q : Nat => (q : Int)) ((show D168 122 = D 122 from (eD168 122).trans (hD168 121 rfl))).symm))
  have pf168_117_8 : HID (F168 117 8 = (D168 123 : Int)) := ((show F168 117 8 = F 117 8 from (eF168 117 8).trans (hS168 116 8 rfl))).trans ((pf123).trans (congrArg (fun q : Nat => (q : Int)) ((show D168 123 = D 123 from (eD168 123).trans (hD168 122 rfl))).symm))
  have pf168_117_9 : HID (F168 117 9 = (D168 124 : Int)) := ((show F168 117 9 = F 117 9 from (eF168 117 9).trans (hS168 116 9 rfl))).trans ((pf124).trans (congrArg (fun q : Nat => (q : Int)) ((show D168 124 = D 124 from (eD168 124).trans (hD168 123 rfl))).symm))
  have pf168_126_2 : HID (F168 126 2 = (D168 127 : Int)) := ((show F168 126 2 = F 126 2 from (eF168 126 2).trans (hS168 125 2 rfl))).trans ((pf127).trans (congrArg (fun q : Nat => (q : Int)) ((show D168 127 = D 127 from (eD168 127).trans (hD168 126 rfl))).symm))
  have pf168_126_3 : HID (F168 126 3 = (D168 128 : Int)) := ((show F168 126 3 = F 126 3 from (eF168 126 3).trans (hS168 125 3 rfl))).trans ((pf128).trans (congrArg (fun q : Nat => (q : Int)) ((show D168 128 = D 128 from (eD168 128).trans (hD168 127 rfl))).symm))
  have pf168_126_4 : HID (F168 126 4 = (D168 129 : Int)) := ((show F168 126 4 = F 126 4 from (eF168 126 4).trans (hS168 125 4 rfl))).trans ((pf129).trans (congrArg (fun q : Nat => (q : Int)) ((show D168 129 = D 129 from (eD168 129).trans (hD168 128 rfl))).symm))
  have pf168_126_5 : HID (F168 126 5 = (D168 130 : Int)) := ((show F168 126 5 = F 126 5 from (eF168 126 5).trans (hS168 125 5 rfl))).trans ((pf130).trans (congrArg (fun q : Nat => (q : Int)) ((show D168 130 = D 130 from (eD168 130).trans (hD168 129 rfl))).symm))
  have pf168_126_6 : HID (F168 126 6 = (D168 131 : Int)) := ((show F168 126 6 = F 126 6 from (eF168 126 6).trans (hS168 125 6 rfl))).trans ((pf131).trans (congrArg (fun q : Nat => (q : Int)) ((show D168 131 = D 131 from (eD168 131).trans (hD168 130 rfl))).symm))
  have pf168_126_7 : HID (F168 126 7 = (D168 132 : Int)) := ((show F168 126 7 = F 126 7 from (eF168 126 7).trans (hS168 125 7 rfl))).trans ((pf132).trans (congrArg (fun q : Nat => (q : Int)) ((show D168 132 = D 132 from (eD168 132).trans (hD168 131 rfl))).symm))
  have pf168_126_8 : HID (F168 126 8 = (D168 133 : Int)) := ((show F168 126 8 = F 126 8 from (eF168 126 8).trans (hS168 125 8 rfl))).trans ((pf133).trans (congrArg (fun q : Nat => (q : Int)) ((show D168 133 = D 133 from (eD168 133).trans (hD168 132 rfl))).symm))
  have pf168_126_9 : HID (F168 126 9 = (D168 134 : Int)) := ((show F168 126 9 = F 126 9 from (eF168 126 9).trans (hS168 125 9 rfl))).trans ((pf134).trans (congrArg (fun q : Nat => (q : Int)) ((show D168 134 = D 134 from (eD168 134).trans (hD168 133 rfl))).symm))
  have pf168_135_2 : HID (F168 135 2 = (D168 136 : Int)) := ((show F168 135 2 = F 135 2 from (eF168 135 2).trans (hS168 134 2 rfl))).trans ((pf136).trans (congrArg (fun q : Nat => (q : Int)) ((show D168 136 = D 136 from (eD168 136).trans (hD168 135 rfl))).symm))
  have pf168_135_3 : HID (F168 135 3 = (D168 137 : Int)) := ((show F168 135 3 = F 135 3 from (eF168 135 3).trans (hS168 134 3 rfl))).trans ((pf137).trans (congrArg (fun q : Nat => (q : Int)) ((show D168 137 = D 137 from (eD168 137).trans (hD168 136 rfl))).symm))
  have pf168_135_4 : HID (F168 135 4 = (D168 138 : Int)) := ((show F168 135 4 = F 135 4 from (eF168 135 4).trans (hS168 134 4 rfl))).trans ((pf138).trans (congrArg (fun q : Nat => (q : Int)) ((show D168 138 = D 138 from (eD168 138).trans (hD168 137 rfl))).symm))
  have pf168_135_5 : HID (F168 135 5 = (D168 139 : Int)) := ((show F168 135 5 = F 135 5 from (eF168 135 5).trans (hS168 134 5 rfl))).trans ((pf139).trans (congrArg (fun q : Nat => (q : Int)) ((show D168 139 = D 139 from (eD168 139).trans (hD168 138 rfl))).symm))
  have pf168_135_6 : HID (F168 135 6 = (D168 140 : Int)) := ((show F168 135 6 = F 135 6 from (eF168 135 6).trans (hS168 134 6 rfl))).trans ((pf140).trans (congrArg (fun q : Nat => (q : Int)) ((show D168 140 = D 140 from (eD168 140).trans (hD168 139 rfl))).symm))
  have pf168_135_7 : HID (F168 135 7 = (D168 141 : Int)) := ((show F168 135 7 = F 135 7 from (eF168 135 7).trans (hS168 134 7 rfl))).trans ((pf141).trans (congrArg (fun q : Nat => (q : Int)) ((show D168 141 = D 141 from (eD168 141).trans (hD168 140 rfl))).symm))
  have pf168_135_8 : HID (F168 135 8 = (D168 142 : Int)) := ((show F168 135 8 = F 135 8 from (eF168 135 8).trans (hS168 134 8 rfl))).trans ((pf142).trans (congrArg (fun q : Nat => (q : Int)) ((show D168 142 = D 142 from (eD168 142).trans (hD168 141 rfl))).symm))
  have pf168_135_9 : HID (F168 135 9 = (D168 143 : Int)) := ((show F168 135 9 = F 135 9 from (eF168 135 9).trans (hS168 134 9 rfl))).trans ((pf143).trans (congrArg (fun q : Nat => (q : Int)) ((show D168 143 = D 143 from (eD168 143).trans (hD168 142 rfl))).symm))
  have pf168_144_2 : HID (F168 144 2 = (D168 145 : Int)) := ((show F168 144 2 = F 144 2 from (eF168 144 2).trans (hS168 143 2 rfl))).trans ((pf145).trans (congrArg (fun q : Nat => (q : Int)) ((show D168 145 = D 145 from (eD168 145).trans (hD168 144 rfl))).symm))
  have pf168_144_3 : HID (F168 144 3 = (D168 146 : Int)) := ((show F168 144 3 = F 144 3 from (eF168 144 3).trans (hS168 143 3 rfl))).trans ((pf146).trans (congrArg (fun q : Nat => (q : Int)) ((show D168 146 = D 146 from (eD168 146).trans (hD168 145 rfl))).symm))
  have pf168_144_4 : HID (F168 144 4 = (D168 147 : Int)) := ((show F168 144 4 = F 144 4 from (eF168 144 4).trans (hS168 143 4 rfl))).trans ((pf147).trans (congrArg (fun q : Nat => (q : Int)) ((show D168 147 = D 147 from (eD168 147).trans (hD168 146 rfl))).symm))
  have pf168_144_5 : HID (F168 144 5 = (D168 148 : Int)) := ((show F168 144 5 = F 144 5 from (eF168 144 5).trans (hS168 143 5 rfl))).trans ((pf148).trans (congrArg (fun q : Nat => (q : Int)) ((show D168 148 = D 148 from (eD168 148).trans (hD168 147 rfl))).symm))
  have pf168_144_6 : HID (F168 144 6 = (D168 152 : Int)) := ((show F168 144 6 = F 144 6 from (eF168 144 6).trans (hS168 143 6 rfl))).trans ((pf152).trans (congrArg (fun q : Nat => (q : Int)) ((show D168 152 = D 152 from (eD168 152).trans (hD168 151 rfl))).symm))
  have pf168_144_7 : HID (F168 144 7 = (D168 149 : Int)) := ((show F168 144 7 = F 144 7 from (eF168 144 7).trans (hS168 143 7 rfl))).trans ((pf149).trans (congrArg (fun q : Nat => (q : Int)) ((show D168 149 = D 149 from (eD168 149).trans (hD168 148 rfl))).symm))
  have pf168_144_8 : HID (F168 144 8 = (D168 150 : Int)) := ((show F168 144 8 = F 144 8 from (eF168 144 8).trans (hS168 143 8 rfl))).trans ((pf150).trans (congrArg (fun q : Nat => (q : Int)) ((show D168 150 = D 150 from (eD168 150).trans (hD168 149 rfl))).symm))
  have pf168_144_9 : HID (F168 144 9 = (D168 151 : Int)) := ((show F168 144 9 = F 144 9 from (eF168 144 9).trans (hS168 143 9 rfl))).trans ((pf151).trans (congrArg (fun q : Nat => (q : Int)) ((show D168 151 = D 151 from (eD168 151).trans (hD168 150 rfl))).symm))
  have pf168_153_2 : HID (F168 153 2 = (D168 154 : Int)) := ((show F168 153 2 = F 153 2 from (eF168 153 2).trans (hS168 152 2 rfl))).trans ((pf154).trans (congrArg (fun q : Nat => (q : Int)) ((show D168 154 = D 154 from (eD168 154).trans (hD168 153 rfl))).symm))
  have pf168_153_3 : HID (F168 153 3 = (D168 155 : Int)) := ((show F168 153 3 = F 153 3 from (eF168 153 3).trans (hS168 152 3 rfl))).trans ((pf155).trans (congrArg (fun q : Nat => (q : Int)) ((show D168 155 = D 155 from (eD168 155).trans (hD168 154 rfl))).symm))
  have pf168_153_4 : HID (F168 153 4 = (D168 156 : Int)) := ((show F168 153 4 = F 153 4 from (eF168 153 4).trans (hS168 152 4 rfl))).trans ((pf156).trans (congrArg (fun q : Nat => (q : Int)) ((show D168 156 = D 156 from (eD168 156).trans (hD168 155 rfl))).symm))
  have pf168_153_5 : HID (F168 153 5 = (D168 157 : Int)) := ((show F168 153 5 = F 153 5 from (eF168 153 5).trans (hS168 152 5 rfl))).trans ((pf157).trans (congrArg (fun q : Nat => (q : Int)) ((show D168 157 = D 157 from (eD168 157).trans (hD168 156 rfl))).symm))
  have pf168_153_6 : HID (F168 153 6 = (D168 158 : Int)) := ((show F168 153 6 = F 153 6 from (eF168 153 6).trans (hS168 152 6 rfl))).trans ((pf158).trans (congrArg (fun q : Nat => (q : Int)) ((show D168 158 = D 158 from (eD168 158).trans (hD168 157 rfl))).symm))
  have pf168_153_7 : HID (F168 153 7 = (D168 159 : Int)) := ((show F168 153 7 = F 153 7 from (eF168 153 7).trans (hS168 152 7 rfl))).trans ((pf159).trans (congrArg (fun q : Nat => (q : Int)) ((show D168 159 = D 159 from (eD168 159).trans (hD168 158 rfl))).symm))
  have pf168_153_8 : HID (F168 153 8 = (D168 160 : Int)) := ((show F168 153 8 = F 153 8 from (eF168 153 8).trans (hS168 152 8 rfl))).trans ((pf160).trans (congrArg (fun q : Nat => (q : Int)) ((show D168 160 = D 160 from (eD168 160).trans (hD168 159 rfl))).symm))
  have pf168_153_9 : HID (F168 153 9 = (D168 161 : Int)) := ((show F168 153 9 = F 153 9 from (eF168 153 9).trans (hS168 152 9 rfl))).trans ((pf161).trans (congrArg (fun q : Nat => (q : Int)) ((show D168 161 = D 161 from (eD168 161).trans (hD168 160 rfl))).symm))
  have pf168_162_2 : HID (F168 162 2 = (D168 163 : Int)) := ((show F168 162 2 = F 162 2 from (eF168 162 2).trans (hS168 161 2 rfl))).trans ((pf163).trans (congrArg (fun q : Nat => (q : Int)) ((show D168 163 = D 163 from (eD168 163).trans (hD168 162 rfl))).symm))
  have pf168_162_3 : HID (F168 162 3 = (D168 164 : Int)) := ((show F168 162 3 = F 162 3 from (eF168 162 3).trans (hS168 161 3 rfl))).trans ((pf164).trans (congrArg (fun q : Nat => (q : Int)) ((show D168 164 = D 164 from (eD168 164).trans (hD168 163 rfl))).symm))
  have pf168_162_4 : HID (F168 162 4 = (D168 165 : Int)) := ((show F168 162 4 = F 162 4 from (eF168 162 4).trans (hS168 161 4 rfl))).trans ((pf165).trans (congrArg (fun q : Nat => (q : Int)) ((show D168 165 = D 165 from (eD168 165).trans (hD168 164 rfl))).symm))
  have pf168_162_5 : HID (F168 162 5 = (D168 166 : Int)) := ((show F168 162 5 = F 162 5 from (eF168 162 5).trans (hS168 161 5 rfl))).trans ((pf166).trans (congrArg (fun q : Nat => (q : Int)) ((show D168 166 = D 166 from (eD168 166).trans (hD168 165 rfl))).symm))
  have pf168_162_6 : HID (F168 162 6 = (D168 167 : Int)) := ((show F168 162 6 = F 162 6 from (eF168 162 6).trans (hS168 161 6 rfl))).trans ((pf167).trans (congrArg (fun q : Nat => (q : Int)) ((show D168 167 = D 167 from (eD168 167).trans (hD168 166 rfl))).symm))
  have pf168_162_7 : HID (F168 162 7 = (D168 168 : Int)) := ((show F168 162 7 = F 162 7 from (eF168 162 7).trans (hS168 161 7 rfl))).trans ((pf168).trans (congrArg (fun q : Nat => (q : Int)) ((show D168 168 = D 168 from (eD168 168).trans (hD168 167 rfl))).symm))
  have pf168_162_8 : HID (F168 162 8 = (D168 169 : Int)) := ((show F168 162 8 = F 162 8 from (eF168 162 8).trans (hS168 161 8 rfl))).trans ((pf169).trans (congrArg (fun q : Nat => (q : Int)) ((show D168 169 = D 169 from (eD168 169).trans (hD168 168 rfl))).symm))
  have pf168_162_9 : HID (F168 162 9 = (D168 170 : Int)) := ((show F168 162 9 = F 162 9 from (eF168 162 9).trans (hS168 161 9 rfl))).trans ((pf170).trans (congrArg (fun q : Nat => (q : Int)) ((show D168 170 = D 170 from (eD168 170).trans (hD168 169 rfl))).symm))
  have pf168_18_0 : HID (F168 18 0 = (D168 19 : Int)) := (eF168 18 0).trans (pm168_18.trans (congrArg (fun q : Nat => (q : Int)) (eD168 19).symm))
  have pf168_2_0 : HID (F168 2 0 = (D168 3 : Int)) := (eF168 2 0).trans (pm168_4.trans (congrArg (fun q : Nat => (q : Int)) (eD168 3).symm))
  have pf168_20_0 : HID (F168 20 0 = (D168 21 : Int)) := (eF168 20 0).trans (pm168_20.trans (congrArg (fun q : Nat => (q : Int)) (eD168 21).symm))
  have pf168_22_0 : HID (F168 22 0 = (D168 23 : Int)) := (eF168 22 0).trans (pm168_22.trans (congrArg (fun q : Nat => (q : Int)) (eD168 23).symm))
  have pf168_29_1 : HID (F168 29 1 = (D168 30 : Int)) := ((show F168 29 1 = F 29 1 from (eF168 29 1).trans (hS168 28 1 rfl))).trans ((pf30).trans (congrArg (fun q : Nat => (q : Int)) ((show D168 30 = D 30 from (eD168 30).trans (hD168 29 rfl))).symm))
  have pf168_29_2 : HID (F168 29 2 = (D168 31 : Int)) := ((show F168 29 2 = F 29 2 from (eF168 29 2).trans (hS168 28 2 rfl))).trans ((pf31).trans (congrArg (fun q : Nat => (q : Int)) ((show D168 31 = D 31 from (eD168 31).trans (hD168 30 rfl))).symm))
  have pf168_32_1 : HID (F168 32 1 = (D168 33 : Int)) := ((show F168 32 1 = F 32 1 from (eF168 32 1).trans (hS168 31 1 rfl))).trans ((pf33).trans (congrArg (fun q : Nat => (q : Int)) ((show D168 33 = D 33 from (eD168 33).trans (hD168 32 rfl))).symm))
  have pf168_32_2 : HID (F168 32 2 = (D168 34 : Int)) := ((show F168 32 2 = F 32 2 from (eF168 32 2).trans (hS168 31 2 rfl))).trans ((pf34).trans (congrArg (fun q : Nat => (q : Int)) ((show D168 34 = D 34 from (eD168 34).trans (hD168 33 rfl))).symm))
  have pf168_43_1 : HID (F168 43 1 = (D168 44 : Int)) := ((show F168 43 1 = F 43 1 from (eF168 43 1).trans (hS168 42 1 rfl))).trans ((pf44).trans (congrArg (fun q : Nat => (q : Int)) ((show D168 44 = D 44 from (eD168 44).trans (hD168 43 rfl))).symm))
  have pf168_43_2 : HID (F168 43 2 = (D168 45 : Int)) := ((show F168 43 2 = F 43 2 from (eF168 43 2).trans (hS168 42 2 rfl))).trans ((pf45).trans (congrArg (fun q : Nat => (q : Int)) ((show D168 45 = D 45 from (eD168 45).trans (hD168 44 rfl))).symm))
  have pf168_46_0 : HID (F168 46 0 = (D168 47 : Int)) := ((show F168 46 0 = F 46 0 from (eF168 46 0).trans (hS168 45 0 rfl))).trans ((pf47).trans (congrArg (fun q : Nat => (q : Int)) ((show D168 47 = D 47 from (eD168 47).trans (hD168 46 rfl))).symm))
  have pf168_46_1 : HID (F168 46 1 = (D168 48 : Int)) := ((show F168 46 1 = F 46 1 from (eF168 46 1).trans (hS168 45 1 rfl))).trans ((pf48).trans (congrArg (fun q : Nat => (q : Int)) ((show D168 48 = D 48 from (eD168 48).trans (hD168 47 rfl))).symm))
  have pf168_46_10 : HID (F168 46 10 = (D168 52 : Int)) := ((show F168 46 10 = F 46 10 from (eF168 46 10).trans (hS168 45 10 rfl))).trans ((pf52).trans (congrArg (fun q : Nat => (q : Int)) ((show D168 52 = D 52 from (eD168 52).trans (hD168 51 rfl))).symm))
  have pf168_46_11 : HID (F168 46 11 = (D168 53 : Int)) := ((show F168 46 11 = F 46 11 from (eF168 46 11).trans (hS168 45 11 rfl))).trans ((pf53).trans (congrArg (fun q : Nat => (q : Int)) ((show D168 53 = D 53 from (eD168 53).trans (hD168 52 rfl))).symm))
  have pf168_46_12 : HID (F168 46 12 = (D168 54 : Int)) := ((show F168 46 12 = F 46 12 from (eF168 46 12).trans (hS168 45 12 rfl))).trans ((pf54).trans (congrArg (fun q : Nat => (q : Int)) ((show D168 54 = D 54 from (eD168 54).trans (hD168 53 rfl))).symm))
  have pf168_46_2 : HID (F168 46 2 = (D168 49 : Int)) := ((show F168 46 2 = F 46 2 from (eF168 46 2).trans (hS168 45 2 rfl))).trans ((pf49).trans (congrArg (fun q : Nat => (q : Int)) ((show D168 49 = D 49 from (eD168 49).trans (hD168 48 rfl))).symm))
  have pf168_46_4 : HID (F168 46 4 = (D168 50 : Int)) := ((show F168 46 4 = F 46 4 from (eF168 46 4).trans (hS168 45 4 rfl))).trans ((pf50).trans (congrArg (fun q : Nat => (q : Int)) ((show D168 50 = D 50 from (eD168 50).trans (hD168 49 rfl))).symm))
  have pf168_46_5 : HID (F168 46 5 = (D168 51 : Int)) := ((show F168 46 5 = F 46 5 from (eF168 46 5).trans (hS168 45 5 rfl))).trans ((pf51).trans (congrArg (fun q : Nat => (q : Int)) ((show D168 51 = D 51 from (eD168 51).trans (hD168 50 rfl))).symm))
  have pf168_46_6 : HID (F168 46 6 = (D168 55 : Int)) := ((show F168 46 6 = F 46 6 from (eF168 46 6).trans (hS168 45 6 rfl))).trans ((pf55).trans (congrArg (fun q : Nat => (q : Int)) ((show D168 55 = D 55 from (eD168 55).trans (hD168 54 rfl))).symm))
  have pf168_46_7 : HID (F168 46 7 = (D168 64 : Int)) := ((show F168 46 7 = F 46 7 from (eF168 46 7).trans (hS168 45 7 rfl))).trans ((pf64).trans (congrArg (fun q : Nat => (q : Int)) ((show D168 64 = D 64 from (eD168 64).trans (hD168 63 rfl))).symm))
  have pf168_46_8 : HID (F168 46 8 = (D168 66 : Int)) := ((show F168 46 8 = F 46 8 from (eF168 46 8).trans (hS168 45 8 rfl))).trans ((pf66).trans (congrArg (fun q : Nat => (q : Int)) ((show D168 66 = D 66 from (eD168 66).trans (hD168 65 rfl))).symm))
  have pf168_5_0 : HID (F168 5 0 = (D168 6 : Int)) := ((show F168 5 0 = F 5 0 from (eF168 5 0).trans (hS168 3 0 rfl))).trans ((pf6).trans (congrArg (fun q : Nat => (q : Int)) ((show D168 6 = D 6 from (eD168 6).trans (hD168 6 rfl))).symm))
  have pf168_5_1 : HID (F168 5 1 = (D168 43 : Int)) := ((show F168 5 1 = F 5 1 from (eF168 5 1).trans (hS168 3 1 rfl))).trans ((pf43).trans (congrArg (fun q : Nat => (q : Int)) ((show D168 43 = D 43 from (eD168 43).trans (hD168 42 rfl))).symm))
  have pf168_55_2 : HID (F168 55 2 = (D168 56 : Int)) := ((show F168 55 2 = F 55 2 from (eF168 55 2).trans (hS168 54 2 rfl))).trans ((pf56).trans (congrArg (fun q : Nat => (q : Int)) ((show D168 56 = D 56 from (eD168 56).trans (hD168 55 rfl))).symm))
  have pf168_55_3 : HID (F168 55 3 = (D168 57 : Int)) := ((show F168 55 3 = F 55 3 from (eF168 55 3).trans (hS168 54 3 rfl))).trans ((pf57).trans (congrArg (fun q : Nat => (q : Int)) ((show D168 57 = D 57 from (eD168 57).trans (hD168 56 rfl))).symm))
  have pf168_55_4 : HID (F168 55 4 = (D168 58 : Int)) := ((show F168 55 4 = F 55 4 from (eF168 55 4).trans (hS168 54 4 rfl))).trans ((pf58).trans (congrArg (fun q : Nat => (q : Int)) ((show D168 58 = D 58 from (eD168 58).trans (hD168 57 rfl))).symm))
  have pf168_55_5 : HID (F168 55 5 = (D168 59 : Int)) := ((show F168 55 5 = F 55 5 from (eF168 55 5).trans (hS168 54 5 rfl))).trans ((pf59).trans (congrArg (fun q : Nat => (q : Int)) ((show D168 59 = D 59 from (eD168 59).trans (hD168 58 rfl))).symm))
  have pf168_55_6 : HID (F168 55 6 = (D168 60 : Int)) := ((show F168 55 6 = F 55 6 from (eF168 55 6).trans (hS168 54 6 rfl))).trans ((pf60).trans (congrArg (fun q : Nat => (q : Int)) ((show D168 60 = D 60 from (eD168 60).trans (hD168 59 rfl))).symm))
  have pf168_55_7 : HID (F168 55 7 = (D168 61 : Int)) := ((show F168 55 7 = F 55 7 from (eF168 55 7).trans (hS168 54 7 rfl))).trans ((pf61).trans (congrArg (fun q : Nat => (q : Int)) ((show D168 61 = D 61 from (eD168 61).trans (hD168 60 rfl))).symm))
  have pf168_55_8 : HID (F168 55 8 = (D168 62 : Int)) := ((show F168 55 8 = F 55 8 from (eF168 55 8).trans (hS168 54 8 rfl))).trans ((pf62).trans (congrArg (fun q : Nat => (q : Int)) ((show D168 62 = D 62 from (eD168 62).trans (hD168 61 rfl))).symm))
  have pf168_55_9 : HID (F168 55 9 = (D168 63 : Int)) := ((show F168 55 9 = F 55 9 from (eF168 55 9).trans (hS168 54 9 rfl))).trans ((pf63).trans (congrArg (fun q : Nat => (q : Int)) ((show D168 63 = D 63 from (eD168 63).trans (hD168 62 rfl))).symm))
  have pf168_6_0 : HID (F168 6 0 = (D168 7 : Int)) := ((show F168 6 0 = F 6 0 from (eF168 6 0).trans (hS168 6 0 rfl))).trans ((pf7).trans (congrArg (fun q : Nat => (q : Int)) ((show D168 7 = D 7 from (eD168 7).trans (hD168 7 rfl))).symm))
  have pf168_64_0 : HID (F168 64 0 = (D168 65 : Int)) := (eF168 64 0).trans (pm168_64.trans (congrArg (fun q : Nat => (q : Int)) (eD168 65).symm))
  have pf168_66_0 : HID (F168 66 0 = (D168 67 : Int)) := (eF168 66 0).trans (pm168_66.trans (congrArg (fun q : Nat => (q : Int)) (eD168 67).symm))
  have pf168_68_0 : HID (F168 68 0 = (D168 69 : Int)) := ((show F168 68 0 = F 68 0 from (eF168 68 0).trans (hS168 67 0 rfl))).trans ((pf69).trans (congrArg (fun q : Nat => (q : Int)) ((show D168 69 = D 69 from (eD168 69).trans (hD168 68 rfl))).symm))
  have pf168_68_1 : HID (F168 68 1 = (D168 70 : Int)) := ((show F168 68 1 = F 68 1 from (eF168 68 1).trans (hS168 67 1 rfl))).trans ((pf70).trans (congrArg (fun q : Nat => (q : Int)) ((show D168 70 = D 70 from (eD168 70).trans (hD168 69 rfl))).symm))
  have pf168_68_10 : HID (F168 68 10 = (D168 74 : Int)) := ((show F168 68 10 = F 68 10 from (eF168 68 10).trans (hS168 67 10 rfl))).trans ((pf74).trans (congrArg (fun q : Nat => (q : Int)) ((show D168 74 = D 74 from (eD168 74).trans (hD168 73 rfl))).symm))
  have pf168_68_11 : HID (F168 68 11 = (D168 75 : Int)) := ((show F168 68 11 = F 68 11 from (eF168 68 11).trans (hS168 67 11 rfl))).trans ((pf75).trans (congrArg (fun q : Nat => (q : Int)) ((show D168 75 = D 75 from (eD168 75).trans (hD168 74 rfl))).symm))
  have pf168_68_12 : HID (F168 68 12 = (D168 76 : Int)) := ((show F168 68 12 = F 68 12 from (eF168 68 12).trans (hS168 67 12 rfl))).trans ((pf76).trans (congrArg (fun q : Nat => (q : Int)) ((show D168 76 = D 76 from (eD168 76).trans (hD168 75 rfl))).symm))
  have pf168_68_2 : HID (F168 68 2 = (D168 71 : Int)) := ((show F168 68 2 = F 68 2 from (eF168 68 2).trans (hS168 67 2 rfl))).trans ((pf71).trans (congrArg (fun q : Nat => (q : Int)) ((show D168 71 = D 71 from (eD168 71).trans (hD168 70 rfl))).symm))
  have pf168_68_4 : HID (F168 68 4 = (D168 72 : Int)) := ((show F168 68 4 = F 68 4 from (eF168 68 4).trans (hS168 67 4 rfl))).trans ((pf72).trans (congrArg (fun q : Nat => (q : Int)) ((show D168 72 = D 72 from (eD168 72).trans (hD168 71 rfl))).symm))
  have pf168_68_5 : HID (F168 68 5 = (D168 73 : Int)) := ((show F168 68 5 = F 68 5 from (eF168 68 5).trans (hS168 67 5 rfl))).trans ((pf73).trans (congrArg (fun q : Nat => (q : Int)) ((show D168 73 = D 73 from (eD168 73).trans (hD168 72 rfl))).symm))
  have pf168_68_6 : HID (F168 68 6 = (D168 77 : Int)) := ((show F168 68 6 = F 68 6 from (eF168 68 6).trans (hS168 67 6 rfl))).trans ((pf77).trans (congrArg (fun q : Nat => (q : Int)) ((show D168 77 = D 77 from (eD168 77).trans (hD168 76 rfl))).symm))
  have pf168_68_7 : HID (F168 68 7 = (D168 86 : Int)) := ((show F168 68 7 = F 68 7 from (eF168 68 7).trans (hS168 67 7 rfl))).trans ((pf86).trans (congrArg (fun q : Nat => (q : Int)) ((show D168 86 = D 86 from (eD168 86).trans (hD168 85 rfl))).symm))
  have pf168_68_8 : HID (F168 68 8 = (D168 88 : Int)) := ((show F168 68 8 = F 68 8 from (eF168 68 8).trans (hS168 67 8 rfl))).trans ((pf88).trans (congrArg (fun q : Nat => (q : Int)) ((show D168 88 = D 88 from (eD168 88).trans (hD168 87 rfl))).symm))
  have pf168_77_2 : HID (F168 77 2 = (D168 78 : Int)) := ((show F168 77 2 = F 77 2 from (eF168 77 2).trans (hS168 76 2 rfl))).trans ((pf78).trans (congrArg (fun q : Nat => (q : Int)) ((show D168 78 = D 78 from (eD168 78).trans (hD168 77 rfl))).symm))
  have pf168_77_3 : HID (F168 77 3 = (D168 79 : Int)) := ((show F168 77 3 = F 77 3 from (eF168 77 3).trans (hS168 76 3 rfl))).trans ((pf79).trans (congrArg (fun q : Nat => (q : Int)) ((show D168 79 = D 79 from (eD168 79).trans (hD168 78 rfl))).symm))
  have pf168_77_4 : HID (F168 77 4 = (D168 80 : Int)) := ((show F168 77 4 = F 77 4 from (eF168 77 4).trans (hS168 76 4 rfl))).trans ((pf80).trans (congrArg (fun q : Nat => (q : Int)) ((show D168 80 = D 80 from (eD168 80).trans (hD168 79 rfl))).symm))
  have pf168_77_5 : HID (F168 77 5 = (D168 81 : Int)) := ((show F168 77 5 = F 77 5 from (eF168 77 5).trans (hS168 76 5 rfl))).trans ((pf81).trans (congrArg (fun q : Nat => (q : Int)) ((show D168 81 = D 81 from (eD168 81).trans (hD168 80 rfl))).symm))
  have pf168_77_6 : HID (F168 77 6 = (D168 82 : Int)) := ((show F168 77 6 = F 77 6 from (eF168 77 6).trans (hS168 76 6 rfl))).trans ((pf82).trans (congrArg (fun q : Nat => (q : Int)) ((show D168 82 = D 82 from (eD168 82).trans (hD168 81 rfl))).symm))
  have pf168_77_7 : HID (F168 77 7 = (D168 83 : Int)) := ((show F168 77 7 = F 77 7 from (eF168 77 7).trans (hS168 76 7 rfl))).trans ((pf83).trans (congrArg (fun q : Nat => (q : Int)) ((show D168 83 = D 83 from (eD168 83).trans (hD168 82 rfl))).symm))
  have pf168_77_8 : HID (F168 77 8 = (D168 84 : Int)) := ((show F168 77 8 = F 77 8 from (eF168 77 8).trans (hS168 76 8 rfl))).trans ((pf84).trans (congrArg (fun q : Nat => (q : Int)) ((show D168 84 = D 84 from (eD168 84).trans (hD168 83 rfl))).symm))
  have pf168_77_9 : HID (F168 77 9 = (D168 85 : Int)) := ((show F168 77 9 = F 77 9 from (eF168 77 9).trans (hS168 76 9 rfl))).trans ((pf85).trans (congrArg (fun q : Nat => (q : Int)) ((show D168 85 = D 85 from (eD168 85).trans (hD168 84 rfl))).symm))
  have pf168_8_0 : HID (F168 8 0 = (D168 9 : Int)) := ((show F168 8 0 = F 8 0 from (eF168 8 0).trans (hS168 0 0 rfl))).trans ((pf9).trans (congrArg (fun q : Nat => (q : Int)) ((show D168 9 = D 9 from (eD168 9).trans (hD168 8 rfl))).symm))
  have pf168_8_1 : HID (F168 8 1 = (D168 10 : Int)) := ((show F168 8 1 = F 8 1 from (eF168 8 1).trans (hS168 0 1 rfl))).trans ((pf10).trans (congrArg (fun q : Nat => (q : Int)) ((show D168 10 = D 10 from (eD168 10).trans (hD168 9 rfl))).symm))
  have pf168_8_10 : HID (F168 8 10 = (D168 22 : Int)) := ((show F168 8 10 = F 8 10 from (eF168 8 10).trans (hS168 0 10 rfl))).trans ((pf22).trans (congrArg (fun q : Nat => (q : Int)) ((show D168 22 = D 22 from (eD168 22).trans (hD168 21 rfl))).symm))
  have pf168_8_11 : HID (F168 8 11 = (D168 24 : Int)) := ((show F168 8 11 = F 8 11 from (eF168 8 11).trans (hS168 0 11 rfl))).trans ((pf24).trans (congrArg (fun q : Nat => (q : Int)) ((show D168 24 = D 24 from (eD168 24).trans (hD168 23 rfl))).symm))
  have pf168_8_12 : HID (F168 8 12 = (D168 25 : Int)) := ((show F168 8 12 = F 8 12 from (eF168 8 12).trans (hS168 0 12 rfl))).trans ((pf25).trans (congrArg (fun q : Nat => (q : Int)) ((show D168 25 = D 25 from (eD168 25).trans (hD168 24 rfl))).symm))
  have pf168_8_13 : HID (F168 8 13 = (D168 38 : Int)) := (eF168 8 13).trans (pm168_37.trans (congrArg (fun q : Nat => (q : Int)) (eD168 38).symm))
  have pf168_8_14 : HID (F168 8 14 = (D168 40 : Int)) := (eF168 8 14).trans (pm168_39.trans (congrArg (fun q : Nat => (q : Int)) (eD168 40).symm))
  have pf168_8_17 : HID (F168 8 17 = (D168 27 : Int)) := ((show F168 8 17 = F 8 17 from (eF168 8 17).trans (hS168 0 17 rfl))).trans ((pf27).trans (congrArg (fun q : Nat => (q : Int)) ((show D168 27 = D 27 from (eD168 27).trans (hD168 26 rfl))).symm))
  have pf168_8_18 : HID (F168 8 18 = (D168 26 : Int)) := ((show F168 8 18 = F 8 18 from (eF168 8 18).trans (hS168 0 18 rfl))).trans ((pf26).trans (congrArg (fun q : Nat => (q : Int)) ((show D168 26 = D 26 from (eD168 26).trans (hD168 25 rfl))).symm))
  have pf168_8_2 : HID (F168 8 2 = (D168 35 : Int)) := ((show F168 8 2 = F 8 2 from (eF168 8 2).trans (hS168 0 2 rfl))).trans ((pf35).trans (congrArg (fun q : Nat => (q : Int)) ((show D168 35 = D 35 from (eD168 35).trans (hD168 34 rfl))).symm))
  have pf168_8_3 : HID (F168 8 3 = (D168 28 : Int)) := ((show F168 8 3 = F 8 3 from (eF168 8 3).trans (hS168 0 3 rfl))).trans ((pf28).trans (congrArg (fun q : Nat => (q : Int)) ((show D168 28 = D 28 from (eD168 28).trans (hD168 27 rfl))).symm))
  have pf168_8_4 : HID (F168 8 4 = (D168 36 : Int)) := ((show F168 8 4 = F 8 4 from (eF168 8 4).trans (hS168 0 4 rfl))).trans ((pf36).trans (congrArg (fun q : Nat => (q : Int)) ((show D168 36 = D 36 from (eD168 36).trans (hD168 35 rfl))).symm))
  have pf168_8_5 : HID (F168 8 5 = (D168 37 : Int)) := ((show F168 8 5 = F 8 5 from (eF168 8 5).trans (hS168 0 5 rfl))).trans ((pf37).trans (congrArg (fun q : Nat => (q : Int)) ((show D168 37 = D 37 from (eD168 37).trans (hD168 36 rfl))).symm))
  have pf168_8_6 : HID (F168 8 6 = (D168 29 : Int)) := ((show F168 8 6 = F 8 6 from (eF168 8 6).trans (hS168 0 6 rfl))).trans ((pf29).trans (congrArg (fun q : Nat => (q : Int)) ((show D168 29 = D 29 from (eD168 29).trans (hD168 28 rfl))).symm))
  have pf168_8_7 : HID (F168 8 7 = (D168 32 : Int)) := ((show F168 8 7 = F 8 7 from (eF168 8 7).trans (hS168 0 7 rfl))).trans ((pf32).trans (congrArg (fun q : Nat => (q : Int)) ((show D168 32 = D 32 from (eD168 32).trans (hD168 31 rfl))).symm))
  have pf168_8_8 : HID (F168 8 8 = (D168 18 : Int)) := ((show F168 8 8 = F 8 8 from (eF168 8 8).trans (hS168 0 8 rfl))).trans ((pf18).trans (congrArg (fun q : Nat => (q : Int)) ((show D168 18 = D 18 from (eD168 18).trans (hD168 17 rfl))).symm))
  have pf168_8_9 : HID (F168 8 9 = (D168 20 : Int)) := ((show F168 8 9 = F 8 9 from (eF168 8 9).trans (hS168 0 9 rfl))).trans ((pf20).trans (congrArg (fun q : Nat => (q : Int)) ((show D168 20 = D 20 from (eD168 20).trans (hD168 19 rfl))).symm))
  have pf168_86_0 : HID (F168 86 0 = (D168 87 : Int)) := (eF168 86 0).trans (pm168_86.trans (congrArg (fun q : Nat => (q : Int)) (eD168 87).symm))
  have pf168_88_0 : HID (F168 88 0 = (D168 89 : Int)) := (eF168 88 0).trans (pm168_88.trans (congrArg (fun q : Nat => (q : Int)) (eD168 89).symm))
  have pf168_90_2 : HID (F168 90 2 = (D168 91 : Int)) := ((show F168 90 2 = F 90 2 from (eF168 90 2).trans (hS168 89 2 rfl))).trans ((pf91).trans (congrArg (fun q : Nat => (q : Int)) ((show D168 91 = D 91 from (eD168 91).trans (hD168 90 rfl))).symm))
  have pf168_90_3 : HID (F168 90 3 = (D168 92 : Int)) := ((show F168 90 3 = F 90 3 from (eF168 90 3).trans (hS168 89 3 rfl))).trans ((pf92).trans (congrArg (fun q : Nat => (q : Int)) ((show D168 92 = D 92 from (eD168 92).trans (hD168 91 rfl))).symm))
  have pf168_90_4 : HID (F168 90 4 = (D168 93 : Int)) := ((show F168 90 4 = F 90 4 from (eF168 90 4).trans (hS168 89 4 rfl))).trans ((pf93).trans (congrArg (fun q : Nat => (q : Int)) ((show D168 93 = D 93 from (eD168 93).trans (hD168 92 rfl))).symm))
  have pf168_90_5 : HID (F168 90 5 = (D168 94 : Int)) := ((show F168 90 5 = F 90 5 from (eF168 90 5).trans (hS168 89 5 rfl))).trans ((pf94).trans (congrArg (fun q : Nat => (q : Int)) ((show D168 94 = D 94 from (eD168 94).trans (hD168 93 rfl))).symm))
  have pf168_90_6 : HID (F168 90 6 = (D168 98 : Int)) := ((show F168 90 6 = F 90 6 from (eF168 90 6).trans (hS168 89 6 rfl))).trans ((pf98).trans (congrArg (fun q : Nat => (q : Int)) ((show D168 98 = D 98 from (eD168 98).trans (hD168 97 rfl))).symm))
  have pf168_90_7 : HID (F168 90 7 = (D168 95 : Int)) := ((show F168 90 7 = F 90 7 from (eF168 90 7).trans (hS168 89 7 rfl))).trans ((pf95).trans (congrArg (fun q : Nat => (q : Int)) ((show D168 95 = D 95 from (eD168 95).trans (hD168 94 rfl))).symm))
  have pf168_90_8 : HID (F168 90 8 = (D168 96 : Int)) := ((show F168 90 8 = F 90 8 from (eF168 90 8).trans (hS168 89 8 rfl))).trans ((pf96).trans (congrArg (fun q : Nat => (q : Int)) ((show D168 96 = D 96 from (eD168 96).trans (hD168 95 rfl))).symm))
  have pf168_90_9 : HID (F168 90 9 = (D168 97 : Int)) := ((show F168 90 9 = F 90 9 from (eF168 90 9).trans (hS168 89 9 rfl))).trans ((pf97).trans (congrArg (fun q : Nat => (q : Int)) ((show D168 97 = D 97 from (eD168 97).trans (hD168 96 rfl))).symm))
  have pf168_99_2 : HID (F168 99 2 = (D168 100 : Int)) := ((show F168 99 2 = F 99 2 from (eF168 99 2).trans (hS168 98 2 rfl))).trans ((pf100).trans (congrArg (fun q : Nat => (q : Int)) ((show D168 100 = D 100 from (eD168 100).trans (hD168 99 rfl))).symm))
  have pf168_99_3 : HID (F168 99 3 = (D168 101 : Int)) := ((show F168 99 3 = F 99 3 from (eF168 99 3).trans (hS168 98 3 rfl))).trans ((pf101).trans (congrArg (fun q : Nat => (q : Int)) ((show D168 101 = D 101 from (eD168 101).trans (hD168 100 rfl))).symm))
  have pf168_99_4 : HID (F168 99 4 = (D168 102 : Int)) := ((show F168 99 4 = F 99 4 from (eF168 99 4).trans (hS168 98 4 rfl))).trans ((pf102).trans (congrArg (fun q : Nat => (q : Int)) ((show D168 102 = D 102 from (eD168 102).trans (hD168 101 rfl))).symm))
  have pf168_99_5 : HID (F168 99 5 = (D168 103 : Int)) := ((show F168 99 5 = F 99 5 from (eF168 99 5).trans (hS168 98 5 rfl))).trans ((pf103).trans (congrArg (fun q : Nat => (q : Int)) ((show D168 103 = D 103 from (eD168 103).trans (hD168 102 rfl))).symm))
  have pf168_99_6 : HID (F168 99 6 = (D168 104 : Int)) := ((show F168 99 6 = F 99 6 from (eF168 99 6).trans (hS168 98 6 rfl))).trans ((pf104).trans (congrArg (fun q : Nat => (q : Int)) ((show D168 104 = D 104 from (eD168 104).trans (hD168 103 rfl))).symm))
  have pf168_99_7 : HID (F168 99 7 = (D168 105 : Int)) := ((show F168 99 7 = F 99 7 from (eF168 99 7).trans (hS168 98 7 rfl))).trans ((pf105).trans (congrArg (fun q : Nat => (q : Int)) ((show D168 105 = D 105 from (eD168 105).trans (hD168 104 rfl))).symm))
  have pf168_99_8 : HID (F168 99 8 = (D168 106 : Int)) := ((show F168 99 8 = F 99 8 from (eF168 99 8).trans (hS168 98 8 rfl))).trans ((pf106).trans (congrArg (fun q : Nat => (q : Int)) ((show D168 106 = D 106 from (eD168 106).trans (hD168 105 rfl))).symm))
  have pf168_99_9 : HID (F168 99 9 = (D168 107 : Int)) := ((show F168 99 9 = F 99 9 from (eF168 99 9).trans (hS168 98 9 rfl))).trans ((pf107).trans (congrArg (fun q : Nat => (q : Int)) ((show D168 107 = D 107 from (eD168 107).trans (hD168 106 rfl))).symm))
  have r169 : HID ((0 : Int) ≤ m168_4 ∧ m168_4 ≤ 1000000) := nrng (H.nle 3 (by decide)) (show (N168 3 : Int) = m168_4 from (congrArg (fun q : Nat => (q : Int)) (eN168 3)).trans em168_4)
  have r170 : HID ((0 : Int) ≤ m168_11 ∧ m168_11 ≤ 1000000) := nrng (H.nle 12 (by decide)) (show (N168 12 : Int) = m168_11 from (congrArg (fun q : Nat => (q : Int)) (eN168 12)).trans em168_11)
  have r171 : HID ((0 : Int) ≤ m168_12 ∧ m168_12 ≤ 1000000) := nrng (H.nle 13 (by decide)) (show (N168 13 : Int) = m168_12 from (congrArg (fun q : Nat => (q : Int)) (eN168 13)).trans em168_12)
  have r172 : HID ((0 : Int) ≤ m168_13 ∧ m168_13 ≤ 1000000) := nrng (H.nle 14 (by decide)) (show (N168 14 : Int) = m168_13 from (congrArg (fun q : Nat => (q : Int)) (eN168 14)).trans em168_13)
  have r173 : HID ((0 : Int) ≤ m168_14 ∧ m168_14 ≤ 1000000) := nrng (H.nle 15 (by decide)) (show (N168 15 : Int) = m168_14 from (congrArg (fun q : Nat => (q : Int)) (eN168 15)).trans em168_14)
  have r174 : HID ((0 : Int) ≤ m168_15 ∧ m168_15 ≤ 1000000) := nrng (H.nle 16 (by decide)) (show (N168 16 : Int) = m168_15 from (congrArg (fun q : Nat => (q : Int)) (eN168 16)).trans em168_15)
  have r175 : HID ((0 : Int) ≤ m168_16 ∧ m168_16 ≤ 1000000) := nrng (H.nle 17 (by decide)) (show (N168 17 : Int) = m168_16 from (congrArg (fun q : Nat => (q : Int)) (eN168 17)).trans em168_16)
  have r176 : HID ((0 : Int) ≤ m168_18 ∧ m168_18 ≤ 1000000) := nrng (H.nle 19 (by decide)) (show (N168 19 : Int) = m168_18 from (congrArg (fun q : Nat => (q : Int)) (eN168 19)).trans em168_18)
  have r177 : HID ((0 : Int) ≤ m168_20 ∧ m168_20 ≤ 1000000) := nrng (H.nle 21 (by decide)) (show (N168 21 : Int) = m168_20 from (congrArg (fun q : Nat => (q : Int)) (eN168 21)).trans em168_20)
  have r178 : HID ((0 : Int) ≤ m168_22 ∧ m168_22 ≤ 1000000) := nrng (H.nle 23 (by decide)) (show (N168 23 : Int) = m168_22 from (congrArg (fun q : Nat => (q : Int)) (eN168 23)).trans em168_22)
  have r179 : HID ((0 : Int) ≤ m168_37 ∧ m168_37 ≤ 1000000) := nrng (H.nle 38 (by decide)) (show (N168 38 : Int) = m168_37 from (congrArg (fun q : Nat => (q : Int)) (eN168 38)).trans em168_37)
  have r180 : HID ((0 : Int) ≤ m168_38 ∧ m168_38 ≤ 1000000) := nrng (H.nle 39 (by decide)) (show (N168 39 : Int) = m168_38 from (congrArg (fun q : Nat => (q : Int)) (eN168 39)).trans em168_38)
  have r181 : HID ((0 : Int) ≤ m168_39 ∧ m168_39 ≤ 1000000) := nrng (H.nle 40 (by decide)) (show (N168 40 : Int) = m168_39 from (congrArg (fun q : Nat => (q : Int)) (eN168 40)).trans em168_39)
  have r182 : HID ((0 : Int) ≤ m168_40 ∧ m168_40 ≤ 1000000) := nrng (H.nle 41 (by decide)) (show (N168 41 : Int) = m168_40 from (congrArg (fun q : Nat => (q : Int)) (eN168 41)).trans em168_40)
  have r183 : HID ((0 : Int) ≤ m168_41 ∧ m168_41 ≤ 1000000) := nrng (H.nle 42 (by decide)) (show (N168 42 : Int) = m168_41 from (congrArg (fun q : Nat => (q : Int)) (eN168 42)).trans em168_41)
  have r184 : HID ((0 : Int) ≤ m168_64 ∧ m168_64 ≤ 1000000) := nrng (H.nle 65 (by decide)) (show (N168 65 : Int) = m168_64 from (congrArg (fun q : Nat => (q : Int)) (eN168 65)).trans em168_64)
  have r185 : HID ((0 : Int) ≤ m168_66 ∧ m168_66 ≤ 1000000) := nrng (H.nle 67 (by decide)) (show (N168 67 : Int) = m168_66 from (congrArg (fun q : Nat => (q : Int)) (eN168 67)).trans em168_66)
  have r186 : HID ((0 : Int) ≤ m168_86 ∧ m168_86 ≤ 1000000) := nrng (H.nle 87 (by decide)) (show (N168 87 : Int) = m168_86 from (congrArg (fun q : Nat => (q : Int)) (eN168 87)).trans em168_86)
  have r187 : HID ((0 : Int) ≤ m168_88 ∧ m168_88 ≤ 1000000) := nrng (H.nle 89 (by decide)) (show (N168 89 : Int) = m168_88 from (congrArg (fun q : Nat => (q : Int)) (eN168 89)).trans em168_88)
  have r188 : HID ((-2147483648 : Int) ≤ y168_1_1 ∧ y168_1_1 ≤ 2147483647) := krg_e (show (-2147483648 : Int) ≤ F168 2 1 ∧ F168 2 1 ≤ 2147483647 from H.krg 2 1 (by decide)) (show F168 2 1 = y168_1_1 from ((eF168 2 1).trans ey168_1_1))
  have r189 : HID ((0 : Int) ≤ y168_1_2 ∧ y168_1_2 ≤ 1) := krg_e (show (0 : Int) ≤ F168 2 2 ∧ F168 2 2 ≤ 1 from H.krg 2 2 (by decide)) (show F168 2 2 = y168_1_2 from ((eF168 2 2).trans ey168_1_2))
  have r190 : HID ((-2147483648 : Int) ≤ y168_10_1 ∧ y168_10_1 ≤ 2147483647) := krg_e (show (-2147483648 : Int) ≤ F168 11 1 ∧ F168 11 1 ≤ 2147483647 from H.krg 11 1 (by decide)) (show F168 11 1 = y168_10_1 from ((eF168 11 1).trans ey168_10_1))
  have r191 : HID ((-2147483648 : Int) ≤ y168_17_1 ∧ y168_17_1 ≤ 2147483647) := krg_e (show (-2147483648 : Int) ≤ F168 18 1 ∧ F168 18 1 ≤ 2147483647 from H.krg 18 1 (by decide)) (show F168 18 1 = y168_17_1 from ((eF168 18 1).trans ey168_17_1))
  have r192 : HID ((-2147483648 : Int) ≤ y168_19_1 ∧ y168_19_1 ≤ 2147483647) := krg_e (show (-2147483648 : Int) ≤ F168 20 1 ∧ F168 20 1 ≤ 2147483647 from H.krg 20 1 (by decide)) (show F168 20 1 = y168_19_1 from ((eF168 20 1).trans ey168_19_1))
  have r193 : HID ((-2147483648 : Int) ≤ y168_21_1 ∧ y168_21_1 ≤ 2147483647) := krg_e (show (-2147483648 : Int) ≤ F168 22 1 ∧ F168 22 1 ≤ 2147483647 from H.krg 22 1 (by decide)) (show F168 22 1 = y168_21_1 from ((eF168 22 1).trans ey168_21_1))
  have r194 : HID ((-2147483648 : Int) ≤ y168_63_1 ∧ y168_63_1 ≤ 2147483647) := krg_e (show (-2147483648 : Int) ≤ F168 64 1 ∧ F168 64 1 ≤ 2147483647 from H.krg 64 1 (by decide)) (show F168 64 1 = y168_63_1 from ((eF168 64 1).trans ey168_63_1))
  have r195 : HID ((-2147483648 : Int) ≤ y168_65_1 ∧ y168_65_1 ≤ 2147483647) := krg_e (show (-2147483648 : Int) ≤ F168 66 1 ∧ F168 66 1 ≤ 2147483647 from H.krg 66 1 (by decide)) (show F168 66 1 = y168_65_1 from ((eF168 66 1).trans ey168_65_1))
  have r196 : HID ((-2147483648 : Int) ≤ y168_85_1 ∧ y168_85_1 ≤ 2147483647) := krg_e (show (-2147483648 : Int) ≤ F168 86 1 ∧ F168 86 1 ≤ 2147483647 from H.krg 86 1 (by decide)) (show F168 86 1 = y168_85_1 from ((eF168 86 1).trans ey168_85_1))
  have r197 : HID ((-2147483648 : Int) ≤ y168_87_1 ∧ y168_87_1 ≤ 2147483647) := krg_e (show (-2147483648 : Int) ≤ F168 88 1 ∧ F168 88 1 ≤ 2147483647 from H.krg 88 1 (by decide)) (show F168 88 1 = y168_87_1 from ((eF168 88 1).trans ey168_87_1))
  refine Ew_of (pc' := 199) (fun _ => x_goto rfl rfl) ?_
  refine Ew_of (pc' := 201) (fun _ => x_iload rfl hl5) ?_
  refine w_ifeq (t := 214) rfl rfl (show inr (1) by omega) (fun b198 => ?_) (fun b198 => ?_)
  · exact absurd b198 (by omega)
  · refine Ew_of (pc' := 205) (fun _ => x_aload_n rfl hl0) ?_
    refine Ew_stk (show ([.ref (D 0)] : List Value) = [.ref (D168 0)] by rw [show D168 0 = D 0 from ((show D168 0 = D 0 from (eD168 0)))]) ?_
    refine v_g H (o := 0) (v := .ref (D168 2)) rfl rfl rfl rfl rfl (vrf (pf168_0_5)) ?_
    refine v_g H (o := 2) (v := I (y168_1_2)) rfl rfl rfl rfl rfl (congrArg (fun z : Int => I z) (((eF168 2 2).trans ey168_1_2) : F168 2 2 = y168_1_2)) ?_
    refine w_ifeq (t := 216) rfl rfl (show inr (y168_1_2) by have qh0 := HIDe r189; omega) (fun b199 => ?_) (fun b199 => ?_)
    · have : WRY 4 ((w9)) (sc ((w4)) 0 ((u1_1))) [] Dc st0 ((y168_1_1)) (sc ((w168_4)) 0 ((y168_1_1))) := WRY_4 (WRC_4 (by have h := pz168_16; rw [show (u2_2) = 0 by (have qg0 := HIDe r1; have qg1 := HIDe r188; have qg2 := HIDe r2; have qg3 := HIDe r3; omega), show (u2_1) = 0 by (have qg0 := HIDe r1; have qg1 := HIDe r188; have qg2 := HIDe r2; have qg3 := HIDe r3; omega)] at h; unfold frD; rw [hD2, hD1]; exact h) (by (have qg0 := HIDe r1; have qg1 := HIDe r188; have qg2 := HIDe r2; have qg3 := HIDe r3; omega)) (by (have qg0 := HIDe r1; have qg1 := HIDe r188; have qg2 := HIDe r2; have qg3 := HIDe r3; omega)))
      have : CNR ((w168_25)) (frD ((w9)) (sc ((w4)) 0 ((u1_1))) Dc st0).2 := by unfold frD; rw [hD2, hD1]; exact pz168_17 (by (have qg0 := HIDe r1; omega))
      refine Ew_of (pc' := 217) (fun _ => x_iload_n rfl hl3) ?_
      refine Ew_of (pc' := 218) (fun _ => x_iconst rfl) ?_
      refine w_icmpeq (t := 277) rfl rfl (show inr (4) by omega) (show inr (5) by omega) (fun b200 => ?_) (fun b200 => ?_)
      · exact absurd b200 (by omega)
      · refine Ew_of (pc' := 222) (fun _ => x_aload_n rfl hl0) ?_
        refine Ew_of (pc' := 223) (fun _ => x_aload_n rfl hl0) ?_
        refine Ew_stk (show ([.ref (D 0), .ref (D 0)] : List Value) = [.ref (D168 0), .ref (D168 0)] by rw [show D168 0 = D 0 from ((show D168 0 = D 0 from (eD168 0)))]) ?_
        refine v_g H (o := 0) (v := .ref (D168 2)) rfl rfl rfl rfl rfl (vrf (pf168_0_5)) ?_
        refine Ew_of (pc' := 227) (fun _ => x_iload_n rfl hl3) ?_
        refine Ew_of (pc' := 229) (fun _ => x_aload rfl hl4) ?_
        refine Ew_stk (show ([.ref (D 1), I (4), .ref (D168 2), .ref (D168 0)] : List Value) = [.ref (D168 1), I (4), .ref (D168 2), .ref (D168 0)] by rw [show D168 1 = D 1 from ((show D168 1 = D 1 from (eD168 1).trans (hD168 2 rfl)))]) ?_
        refine v_g H (o := 1) (v := I (u1_1)) rfl rfl rfl rfl rfl (congrArg (fun z : Int => I z) ((((show F168 1 1 = F 1 1 from (eF168 1 1).trans (hS168 2 1 rfl))).trans (eu1_1)) : F168 1 1 = u1_1)) ?_
        refine Ew_of (pc' := 233) (fun _ => x_aload_n rfl hl0) ?_
        refine Ew_stk (show ([.ref (D 0), I (u1_1), I (4), .ref (D168 2), .ref (D168 0)] : List Value) = [.ref (D168 0), I (u1_1), I (4), .ref (D168 2), .ref (D168 0)] by rw [show D168 0 = D 0 from ((show D168 0 = D 0 from (eD168 0)))]) ?_
        refine v_g H (o := 0) (v := .ref (D168 171)) rfl rfl rfl rfl rfl (vrf (pf168_0_15)) ?_
        exact hc236 (4) (u1_1) _ _ _ _ _ _ _ _  ((hl0).trans (congrArg (fun q : Nat => some (Value.ref q)) (((show D168 0 = D 0 from (eD168 0)))).symm)) (hl1) (hl3) ((hl4).trans (congrArg (fun q : Nat => some (Value.ref q)) (((show D168 1 = D 1 from (eD168 1).trans (hD168 2 rfl)))).symm)) H O (SD_trans (SD_refl) (SD_glu (ι := [8, 2, 1, 5, 3, 4, 6, 7, 9, 10, 11, 12, 13, 14, 15, 16, 17, 18, 19, 20, 21, 22, 23, 24, 25, 26, 27, 28, 29, 30, 31, 32, 33, 34, 35, 36, 37, 38, 39, 40, 41, 42, 43, 44, 45, 46, 47, 48, 49, 50, 51, 52, 53, 54, 55, 56, 57, 58, 59, 60, 61, 62, 63, 64, 65, 66, 67, 68, 69, 70, 71, 72, 73, 74, 75, 76, 77, 78, 79, 80, 81, 82, 83, 84, 85, 86, 87, 88, 89, 90, 91, 92, 93, 94, 95, 96, 97, 98, 99, 100, 101, 102, 103, 104, 105, 106, 107, 108, 109, 110, 111, 112, 113, 114, 115, 116, 117, 118, 119, 120, 121, 122, 123, 124, 125, 126, 127, 128, 129, 130, 131, 132, 133, 134, 135, 136, 137, 138, 139, 140, 141, 142, 143, 144, 145, 146, 147, 148, 149, 150, 151, 152, 153, 154, 155, 156, 157, 158, 159, 160, 161, 162, 163, 164, 165, 166, 167, 168, 169, 170]) hD168 eD168 (by decide +kernel)) (any_subA (l' := [3, 12, 13, 14, 15, 16, 17, 19, 21, 23, 38, 39, 40, 41, 42, 65, 67, 87, 89]) rfl)) (SD_trans (SD_refl) (SD_glu (ι := [8, 2, 1, 5, 3, 4, 6, 7, 9, 10, 11, 12, 13, 14, 15, 16, 17, 18, 19, 20, 21, 22, 23, 24, 25, 26, 27, 28, 29, 30, 31, 32, 33, 34, 35, 36, 37, 38, 39, 40, 41, 42, 43, 44, 45, 46, 47, 48, 49, 50, 51, 52, 53, 54, 55, 56, 57, 58, 59, 60, 61, 62, 63, 64, 65, 66, 67, 68, 69, 70, 71, 72, 73, 74, 75, 76, 77, 78, 79, 80, 81, 82, 83, 84, 85, 86, 87, 88, 89, 90, 91, 92, 93, 94, 95, 96, 97, 98, 99, 100, 101, 102, 103, 104, 105, 106, 107, 108, 109, 110, 111, 112, 113, 114, 115, 116, 117, 118, 119, 120, 121, 122, 123, 124, 125, 126, 127, 128, 129, 130, 131, 132, 133, 134, 135, 136, 137, 138, 139, 140, 141, 142, 143, 144, 145, 146, 147, 148, 149, 150, 151, 152, 153, 154, 155, 156, 157, 158, 159, 160, 161, 162, 163, 164, 165, 166, 167, 168, 169, 170]) hN168 eN168 (by decide +kernel)) (any_subA (l' := [3, 12, 13, 14, 15, 16, 17, 19, 21, 23, 38, 39, 40, 41, 42, 65, 67, 87, 89]) rfl)) (SF_trans (SF_refl) (SF_glu (ι := [8, 2, 1, 5, 3, 4, 6, 7, 9, 10, 11, 12, 13, 14, 15, 16, 17, 18, 19, 20, 21, 22, 23, 24, 25, 26, 27, 28, 29, 30, 31, 32, 33, 34, 35, 36, 37, 38, 39, 40, 41, 42, 43, 44, 45, 46, 47, 48, 49, 50, 51, 52, 53, 54, 55, 56, 57, 58, 59, 60, 61, 62, 63, 64, 65, 66, 67, 68, 69, 70, 71, 72, 73, 74, 75, 76, 77, 78, 79, 80, 81, 82, 83, 84, 85, 86, 87, 88, 89, 90, 91, 92, 93, 94, 95, 96, 97, 98, 99, 100, 101, 102, 103, 104, 105, 106, 107, 108, 109, 110, 111, 112, 113, 114, 115, 116, 117, 118, 119, 120, 121, 122, 123, 124, 125, 126, 127, 128, 129, 130, 131, 132, 133, 134, 135, 136, 137, 138, 139, 140, 141, 142, 143, 144, 145, 146, 147, 148, 149, 150, 151, 152, 153, 154, 155, 156, 157, 158, 159, 160, 161, 162, 163, 164, 165, 166, 167, 168, 169, 170]) hS168 eF168 (by decide +kernel)) (any_sub (l' := [(2, 0), (2, 1), (2, 2), (8, 13), (8, 14), (8, 15), (8, 16), (10, 1), (10, 2), (10, 3), (10, 4), (10, 5), (10, 6), (10, 7), (10, 8), (10, 9), (10, 10), (10, 11), (10, 12), (10, 13), (10, 14), (10, 15), (10, 16), (10, 17), (10, 18), (11, 0), (11, 1), (11, 2), (11, 3), (11, 4), (18, 0), (18, 1), (18, 2), (18, 3), (18, 4), (20, 0), (20, 1), (20, 2), (20, 3), (20, 4), (22, 0), (22, 1), (22, 2), (22, 3), (22, 4), (29, 0), (32, 0), (46, 3), (46, 13), (46, 14), (46, 15), (46, 16), (55, 0), (64, 0), (64, 1), (64, 2), (64, 3), (64, 4), (66, 0), (66, 1), (66, 2), (66, 3), (66, 4), (68, 3), (68, 13), (68, 14), (68, 15), (68, 16), (77, 0), (86, 0), (86, 1), (86, 2), (86, 3), (86, 4), (88, 0), (88, 1), (88, 2), (88, 3), (88, 4), (99, 0), (108, 0), (126, 0), (135, 0), (153, 0), (162, 0)]) rfl)) (SA_trans (SA_refl) (SA_glu (ι := [8, 2, 1, 5, 3, 4, 6, 7, 9, 10, 11, 12, 13, 14, 15, 16, 17, 18, 19, 20, 21, 22, 23, 24, 25, 26, 27, 28, 29, 30, 31, 32, 33, 34, 35, 36, 37, 38, 39, 40, 41, 42, 43, 44, 45, 46, 47, 48, 49, 50, 51, 52, 53, 54, 55, 56, 57, 58, 59, 60, 61, 62, 63, 64, 65, 66, 67, 68, 69, 70, 71, 72, 73, 74, 75, 76, 77, 78, 79, 80, 81, 82, 83, 84, 85, 86, 87, 88, 89, 90, 91, 92, 93, 94, 95, 96, 97, 98, 99, 100, 101, 102, 103, 104, 105, 106, 107, 108, 109, 110, 111, 112, 113, 114, 115, 116, 117, 118, 119, 120, 121, 122, 123, 124, 125, 126, 127, 128, 129, 130, 131, 132, 133, 134, 135, 136, 137, 138, 139, 140, 141, 142, 143, 144, 145, 146, 147, 148, 149, 150, 151, 152, 153, 154, 155, 156, 157, 158, 159, 160, 161, 162, 163, 164, 165, 166, 167, 168, 169, 170]) hA168 eA168 (by decide +kernel)) (any_subA (l' := [3, 12, 13, 14, 15, 16, 17, 19, 21, 23, 24, 25, 26, 27, 30, 31, 33, 34, 38, 39, 40, 41, 42, 47, 48, 49, 50, 51, 52, 53, 54, 56, 57, 58, 59, 60, 61, 62, 63, 65, 67, 69, 70, 71, 72, 73, 74, 75, 76, 78, 79, 80, 81, 82, 83, 84, 85, 87, 89, 100, 101, 102, 103, 104, 105, 106, 107, 109, 110, 111, 112, 113, 114, 115, 116, 127, 128, 129, 130, 131, 132, 133, 134, 136, 137, 138, 139, 140, 141, 142, 143, 154, 155, 156, 157, 158, 159, 160, 161, 163, 164, 165, 166, 167, 168, 169, 170]) rfl)) (pf168_2_0) (pf168_11_0) (pf168_10_7) (pf168_10_8) (pf168_10_1) (pf168_10_2) (pf168_10_3) (pf168_18_0) (pf168_20_0) (pf168_22_0) (pf168_8_13) (pe168_38_0) (pf168_8_14) (pe168_38_1) (pe168_38_2) (pf168_64_0) (pf168_66_0) (pf168_86_0) (pf168_88_0) (m168_4) ((congrArg (fun q : Nat => (q : Int)) (eN168 3)).trans em168_4) (m168_11) ((congrArg (fun q : Nat => (q : Int)) (eN168 12)).trans em168_11) (m168_12) ((congrArg (fun q : Nat => (q : Int)) (eN168 13)).trans em168_12) (m168_13) ((congrArg (fun q : Nat => (q : Int)) (eN168 14)).trans em168_13) (m168_14) ((congrArg (fun q : Nat => (q : Int)) (eN168 15)).trans em168_14) (m168_15) ((congrArg (fun q : Nat => (q : Int)) (eN168 16)).trans em168_15) (m168_16) ((congrArg (fun q : Nat => (q : Int)) (eN168 17)).trans em168_16) (m168_18) ((congrArg (fun q : Nat => (q : Int)) (eN168 19)).trans em168_18) (m168_20) ((congrArg (fun q : Nat => (q : Int)) (eN168 21)).trans em168_20) (m168_22) ((congrArg (fun q : Nat => (q : Int)) (eN168 23)).trans em168_22) (m168_37) ((congrArg (fun q : Nat => (q : Int)) (eN168 38)).trans em168_37) (m168_38) ((congrArg (fun q : Nat => (q : Int)) (eN168 39)).trans em168_38) (m168_39) ((congrArg (fun q : Nat => (q : Int)) (eN168 40)).trans em168_39) (m168_40) ((congrArg (fun q : Nat => (q : Int)) (eN168 41)).trans em168_40) (m168_41) ((congrArg (fun q : Nat => (q : Int)) (eN168 42)).trans em168_41) (m168_64) ((congrArg (fun q : Nat => (q : Int)) (eN168 65)).trans em168_64) (m168_66) ((congrArg (fun q : Nat => (q : Int)) (eN168 67)).trans em168_66) (m168_86) ((congrArg (fun q : Nat => (q : Int)) (eN168 87)).trans em168_86) (m168_88) ((congrArg (fun q : Nat => (q : Int)) (eN168 89)).trans em168_88) (y168_1_1) (((eF168 2 1).trans ey168_1_1)) (y168_1_2) (((eF168 2 2).trans ey168_1_2)) (y168_10_1) (((eF168 11 1).trans ey168_10_1)) (y168_17_1) (((eF168 18 1).trans ey168_17_1)) (y168_19_1) (((eF168 20 1).trans ey168_19_1)) (y168_21_1) (((eF168 22 1).trans ey168_21_1)) (y168_63_1) (((eF168 64 1).trans ey168_63_1)) (y168_65_1) (((eF168 66 1).trans ey168_65_1)) (y168_85_1) (((eF168 86 1).trans ey168_85_1)) (y168_87_1) (((eF168 88 1).trans ey168_87_1)) (w168_4) ((eA168 3).trans ew168_4) (w168_25) ((eA168 26).trans ew168_25) (w168_26) ((eA168 27).trans ew168_26) (w168_48) ((eA168 49).trans ew168_48) (w168_70) ((eA168 71).trans ew168_70) (show inr (4) by omega) (show inr (u1_1) by have qh0 := HIDe r1; omega) (show 0 ≤ (y168_1_1) ∧ (y168_1_1) ≤ (m168_4) ∧ (m168_4) ≤ 65536 by have qh0 := HIDe r169; have qh1 := HIDe r188; omega) (show 0 ≤ (y168_10_1) ∧ (y168_10_1) ≤ (m168_11) ∧ (m168_11) ≤ 65536 by have qh0 := HIDe r170; have qh1 := HIDe r190; omega) (show (m168_12) = 0 ∨ (m168_12) = 2048 by have qh0 := HIDe r171; omega) (show (m168_13) ≤ 16384 by have qh0 := HIDe r172; omega) (show (m168_14) = (m168_15) ∧ (m168_16) = (m168_15) ∧ (m168_15) ≤ 65536 ∧ ((m168_15) = 0 ∨ 64 ≤ (m168_15)) ∧ lgq ((m168_15)) = 0 by have qh0 := HIDe r173; have qh1 := HIDe r174; have qh2 := HIDe r175; omega) (show 0 ≤ (y168_17_1) ∧ (y168_17_1) ≤ (m168_18) ∧ (m168_18) ≤ 65536 by have qh0 := HIDe r176; have qh1 := HIDe r191; omega) (show 0 ≤ (y168_19_1) ∧ (y168_19_1) ≤ (m168_20) ∧ (m168_20) ≤ 65536 by have qh0 := HIDe r177; have qh1 := HIDe r192; omega) (show 0 ≤ (y168_21_1) ∧ (y168_21_1) ≤ (m168_22) ∧ (m168_22) ≤ 65536 by have qh0 := HIDe r178; have qh1 := HIDe r193; omega) (show (m168_37) = 3 ∧ (m168_38) = (m168_39) ∧ (m168_40) = (m168_39) ∧ (m168_41) = (m168_39) ∧ lgq ((m168_39)) = 0 ∧ (m168_39) ≤ 16384 by have qh0 := HIDe r179; have qh1 := HIDe r180; have qh2 := HIDe r181; have qh3 := HIDe r182; have qh4 := HIDe r183; omega) (show 0 ≤ (y168_63_1) ∧ (y168_63_1) ≤ (m168_64) ∧ (m168_64) ≤ 65536 by have qh0 := HIDe r184; have qh1 := HIDe r194; omega) (show 0 ≤ (y168_65_1) ∧ (y168_65_1) ≤ (m168_66) ∧ (m168_66) ≤ 65536 by have qh0 := HIDe r185; have qh1 := HIDe r195; omega) (show CEL ((w168_48)) by assumption) (show 0 ≤ (y168_85_1) ∧ (y168_85_1) ≤ (m168_86) ∧ (m168_86) ≤ 65536 by have qh0 := HIDe r186; have qh1 := HIDe r196; omega) (show 0 ≤ (y168_87_1) ∧ (y168_87_1) ≤ (m168_88) ∧ (m168_88) ≤ 65536 by have qh0 := HIDe r187; have qh1 := HIDe r197; omega) (show CEL ((w168_70)) by assumption) (show 0 ≤ ((w168_26)) 0 ∧ ((w168_26)) 0 ≤ 3 ∧ 0 ≤ ((w168_26)) 1 ∧ ((w168_26)) 1 ≤ 3 ∧ 0 ≤ ((w168_26)) 2 ∧ ((w168_26)) 2 ≤ 3 by omega) (show (4) = 4 by omega) (show (u1_1) = (u1_1) by have qh0 := HIDe r1; omega) (show (y168_1_2) = 0 by have qh0 := HIDe r189; omega) (by assumption) (by assumption)
    · refine Ew_of (pc' := 215) (fun _ => x_iconst rfl) ?_
      have : WRY 4 ((w9)) (sc ((w4)) 0 ((u1_1))) [] Dc st0 (((-1))) (sc ((w168_4)) 0 ((y168_1_1))) := WRY_4 (WRC_4 (by have h := pz168_16; rw [show (u2_2) = 0 by (have qg0 := HIDe r1; have qg1 := HIDe r188; have qg2 := HIDe r2; have qg3 := HIDe r3; omega), show (u2_1) = 0 by (have qg0 := HIDe r1; have qg1 := HIDe r188; have qg2 := HIDe r2; have qg3 := HIDe r3; omega)] at h; unfold frD; rw [hD2, hD1]; exact h) (by (have qg0 := HIDe r1; have qg1 := HIDe r188; have qg2 := HIDe r2; have qg3 := HIDe r3; omega)) (by (have qg0 := HIDe r1; have qg1 := HIDe r188; have qg2 := HIDe r2; have qg3 := HIDe r3; omega)))
      exact w_ireturn rfl (k ((-1)) _ _ _ _ _ _ _ H O (SD_trans (SD_refl) (SD_glu (ι := [8, 2, 1, 5, 3, 4, 6, 7, 9, 10, 11, 12, 13, 14, 15, 16, 17, 18, 19, 20, 21, 22, 23, 24, 25, 26, 27, 28, 29, 30, 31, 32, 33, 34, 35, 36, 37, 38, 39, 40, 41, 42, 43, 44, 45, 46, 47, 48, 49, 50, 51, 52, 53, 54, 55, 56, 57, 58, 59, 60, 61, 62, 63, 64, 65, 66, 67, 68, 69, 70, 71, 72, 73, 74, 75, 76, 77, 78, 79, 80, 81, 82, 83, 84, 85, 86, 87, 88, 89, 90, 91, 92, 93, 94, 95, 96, 97, 98, 99, 100, 101, 102, 103, 104, 105, 106, 107, 108, 109, 110, 111, 112, 113, 114, 115, 116, 117, 118, 119, 120, 121, 122, 123, 124, 125, 126, 127, 128, 129, 130, 131, 132, 133, 134, 135, 136, 137, 138, 139, 140, 141, 142, 143, 144, 145, 146, 147, 148, 149, 150, 151, 152, 153, 154, 155, 156, 157, 158, 159, 160, 161, 162, 163, 164, 165, 166, 167, 168, 169, 170]) hD168 eD168 (by decide +kernel)) (any_subA (l' := [3, 12, 13, 14, 15, 16, 17, 19, 21, 23, 38, 39, 40, 41, 42, 65, 67, 87, 89]) rfl)) (SD_trans (SD_refl) (SD_glu (ι := [8, 2, 1, 5, 3, 4, 6, 7, 9, 10, 11, 12, 13, 14, 15, 16, 17, 18, 19, 20, 21, 22, 23, 24, 25, 26, 27, 28, 29, 30, 31, 32, 33, 34, 35, 36, 37, 38, 39, 40, 41, 42, 43, 44, 45, 46, 47, 48, 49, 50, 51, 52, 53, 54, 55, 56, 57, 58, 59, 60, 61, 62, 63, 64, 65, 66, 67, 68, 69, 70, 71, 72, 73, 74, 75, 76, 77, 78, 79, 80, 81, 82, 83, 84, 85, 86, 87, 88, 89, 90, 91, 92, 93, 94, 95, 96, 97, 98, 99, 100, 101, 102, 103, 104, 105, 106, 107, 108, 109, 110, 111, 112, 113, 114, 115, 116, 117, 118, 119, 120, 121, 122, 123, 124, 125, 126, 127, 128, 129, 130, 131, 132, 133, 134, 135, 136, 137, 138, 139, 140, 141, 142, 143, 144, 145, 146, 147, 148, 149, 150, 151, 152, 153, 154, 155, 156, 157, 158, 159, 160, 161, 162, 163, 164, 165, 166, 167, 168, 169, 170]) hN168 eN168 (by decide +kernel)) (any_subA (l' := [3, 12, 13, 14, 15, 16, 17, 19, 21, 23, 38, 39, 40, 41, 42, 65, 67, 87, 89]) rfl)) (SF_trans (SF_refl) (SF_glu (ι := [8, 2, 1, 5, 3, 4, 6, 7, 9, 10, 11, 12, 13, 14, 15, 16, 17, 18, 19, 20, 21, 22, 23, 24, 25, 26, 27, 28, 29, 30, 31, 32, 33, 34, 35, 36, 37, 38, 39, 40, 41, 42, 43, 44, 45, 46, 47, 48, 49, 50, 51, 52, 53, 54, 55, 56, 57, 58, 59, 60, 61, 62, 63, 64, 65, 66, 67, 68, 69, 70, 71, 72, 73, 74, 75, 76, 77, 78, 79, 80, 81, 82, 83, 84, 85, 86, 87, 88, 89, 90, 91, 92, 93, 94, 95, 96, 97, 98, 99, 100, 101, 102, 103, 104, 105, 106, 107, 108, 109, 110, 111, 112, 113, 114, 115, 116, 117, 118, 119, 120, 121, 122, 123, 124, 125, 126, 127, 128, 129, 130, 131, 132, 133, 134, 135, 136, 137, 138, 139, 140, 141, 142, 143, 144, 145, 146, 147, 148, 149, 150, 151, 152, 153, 154, 155, 156, 157, 158, 159, 160, 161, 162, 163, 164, 165, 166, 167, 168, 169, 170]) hS168 eF168 (by decide +kernel)) (any_sub (l' := [(2, 0), (2, 1), (2, 2), (8, 13), (8, 14), (8, 15), (8, 16), (10, 1), (10, 2), (10, 3), (10, 4), (10, 5), (10, 6), (10, 7), (10, 8), (10, 9), (10, 10), (10, 11), (10, 12), (10, 13), (10, 14), (10, 15), (10, 16), (10, 17), (10, 18), (11, 0), (11, 1), (11, 2), (11, 3), (11, 4), (18, 0), (18, 1), (18, 2), (18, 3), (18, 4), (20, 0), (20, 1), (20, 2), (20, 3), (20, 4), (22, 0), (22, 1), (22, 2), (22, 3), (22, 4), (29, 0), (32, 0), (46, 3), (46, 13), (46, 14), (46, 15), (46, 16), (55, 0), (64, 0), (64, 1), (64, 2), (64, 3), (64, 4), (66, 0), (66, 1), (66, 2), (66, 3), (66, 4), (68, 3), (68, 13), (68, 14), (68, 15), (68, 16), (77, 0), (86, 0), (86, 1), (86, 2), (86, 3), (86, 4), (88, 0), (88, 1), (88, 2), (88, 3), (88, 4), (99, 0), (108, 0), (126, 0), (135, 0), (153, 0), (162, 0)]) rfl)) (SA_trans (SA_refl) (SA_glu (ι := [8, 2, 1, 5, 3, 4, 6, 7, 9, 10, 11, 12, 13, 14, 15, 16, 17, 18, 19, 20, 21, 22, 23, 24, 25, 26, 27, 28, 29, 30, 31, 32, 33, 34, 35, 36, 37, 38, 39, 40, 41, 42, 43, 44, 45, 46, 47, 48, 49, 50, 51, 52, 53, 54, 55, 56, 57, 58, 59, 60, 61, 62, 63, 64, 65, 66, 67, 68, 69, 70, 71, 72, 73, 74, 75, 76, 77, 78, 79, 80, 81, 82, 83, 84, 85, 86, 87, 88, 89, 90, 91, 92, 93, 94, 95, 96, 97, 98, 99, 100, 101, 102, 103, 104, 105, 106, 107, 108, 109, 110, 111, 112, 113, 114, 115, 116, 117, 118, 119, 120, 121, 122, 123, 124, 125, 126, 127, 128, 129, 130, 131, 132, 133, 134, 135, 136, 137, 138, 139, 140, 141, 142, 143, 144, 145, 146, 147, 148, 149, 150, 151, 152, 153, 154, 155, 156, 157, 158, 159, 160, 161, 162, 163, 164, 165, 166, 167, 168, 169, 170]) hA168 eA168 (by decide +kernel)) (any_subA (l' := [3, 12, 13, 14, 15, 16, 17, 19, 21, 23, 24, 25, 26, 27, 30, 31, 33, 34, 38, 39, 40, 41, 42, 47, 48, 49, 50, 51, 52, 53, 54, 56, 57, 58, 59, 60, 61, 62, 63, 65, 67, 69, 70, 71, 72, 73, 74, 75, 76, 78, 79, 80, 81, 82, 83, 84, 85, 87, 89, 100, 101, 102, 103, 104, 105, 106, 107, 109, 110, 111, 112, 113, 114, 115, 116, 127, 128, 129, 130, 131, 132, 133, 134, 136, 137, 138, 139, 140, 141, 142, 143, 154, 155, 156, 157, 158, 159, 160, 161, 163, 164, 165, 166, 167, 168, 169, 170]) rfl)) (pf168_2_0) (pf168_11_0) (pf168_10_7) (pf168_10_8) (pf168_10_1) (pf168_10_2) (pf168_10_3) (pf168_18_0) (pf168_20_0) (pf168_22_0) (pf168_8_13) (pe168_38_0) (pf168_8_14) (pe168_38_1) (pe168_38_2) (pf168_64_0) (pf168_66_0) (pf168_86_0) (pf168_88_0) (m168_4) ((congrArg (fun q : Nat => (q : Int)) (eN168 3)).trans em168_4) (m168_11) ((congrArg (fun q : Nat => (q : Int)) (eN168 12)).trans em168_11) (m168_12) ((congrArg (fun q : Nat => (q : Int)) (eN168 13)).trans em168_12) (m168_13) ((congrArg (fun q : Nat => (q : Int)) (eN168 14)).trans em168_13) (m168_14) ((congrArg (fun q : Nat => (q : Int)) (eN168 15)).trans em168_14) (m168_15) ((congrArg (fun q : Nat => (q : Int)) (eN168 16)).trans em168_15) (m168_16) ((congrArg (fun q : Nat => (q : Int)) (eN168 17)).trans em168_16) (m168_18) ((congrArg (fun q : Nat => (q : Int)) (eN168 19)).trans em168_18) (m168_20) ((congrArg (fun q : Nat => (q : Int)) (eN168 21)).trans em168_20) (m168_22) ((congrArg (fun q : Nat => (q : Int)) (eN168 23)).trans em168_22) (m168_37) ((congrArg (fun q : Nat => (q : Int)) (eN168 38)).trans em168_37) (m168_38) ((congrArg (fun q : Nat => (q : Int)) (eN168 39)).trans em168_38) (m168_39) ((congrArg (fun q : Nat => (q : Int)) (eN168 40)).trans em168_39) (m168_40) ((congrArg (fun q : Nat => (q : Int)) (eN168 41)).trans em168_40) (m168_41) ((congrArg (fun q : Nat => (q : Int)) (eN168 42)).trans em168_41) (m168_64) ((congrArg (fun q : Nat => (q : Int)) (eN168 65)).trans em168_64) (m168_66) ((congrArg (fun q : Nat => (q : Int)) (eN168 67)).trans em168_66) (m168_86) ((congrArg (fun q : Nat => (q : Int)) (eN168 87)).trans em168_86) (m168_88) ((congrArg (fun q : Nat => (q : Int)) (eN168 89)).trans em168_88) (y168_1_1) (((eF168 2 1).trans ey168_1_1)) (y168_10_1) (((eF168 11 1).trans ey168_10_1)) (y168_17_1) (((eF168 18 1).trans ey168_17_1)) (y168_19_1) (((eF168 20 1).trans ey168_19_1)) (y168_21_1) (((eF168 22 1).trans ey168_21_1)) (y168_63_1) (((eF168 64 1).trans ey168_63_1)) (y168_65_1) (((eF168 66 1).trans ey168_65_1)) (y168_85_1) (((eF168 86 1).trans ey168_85_1)) (y168_87_1) (((eF168 88 1).trans ey168_87_1)) (w168_4) ((eA168 3).trans ew168_4) (w168_26) ((eA168 27).trans ew168_26) (w168_48) ((eA168 49).trans ew168_48) (w168_70) ((eA168 71).trans ew168_70) (show inr ((-1)) by omega) (show 0 ≤ (y168_1_1) ∧ (y168_1_1) ≤ (m168_4) ∧ (m168_4) ≤ 65536 by have qh0 := HIDe r169; have qh1 := HIDe r188; omega) (show 0 ≤ (y168_10_1) ∧ (y168_10_1) ≤ (m168_11) ∧ (m168_11) ≤ 65536 by have qh0 := HIDe r170; have qh1 := HIDe r190; omega) (show (m168_12) = 0 ∨ (m168_12) = 2048 by have qh0 := HIDe r171; omega) (show (m168_13) ≤ 16384 by have qh0 := HIDe r172; omega) (show (m168_14) = (m168_15) ∧ (m168_16) = (m168_15) ∧ (m168_15) ≤ 65536 ∧ ((m168_15) = 0 ∨ 64 ≤ (m168_15)) ∧ lgq ((m168_15)) = 0 by have qh0 := HIDe r173; have qh1 := HIDe r174; have qh2 := HIDe r175; omega) (show 0 ≤ (y168_17_1) ∧ (y168_17_1) ≤ (m168_18) ∧ (m168_18) ≤ 65536 by have qh0 := HIDe r176; have qh1 := HIDe r191; omega) (show 0 ≤ (y168_19_1) ∧ (y168_19_1) ≤ (m168_20) ∧ (m168_20) ≤ 65536 by have qh0 := HIDe r177; have qh1 := HIDe r192; omega) (show 0 ≤ (y168_21_1) ∧ (y168_21_1) ≤ (m168_22) ∧ (m168_22) ≤ 65536 by have qh0 := HIDe r178; have qh1 := HIDe r193; omega) (show (m168_37) = 3 ∧ (m168_38) = (m168_39) ∧ (m168_40) = (m168_39) ∧ (m168_41) = (m168_39) ∧ lgq ((m168_39)) = 0 ∧ (m168_39) ≤ 16384 by have qh0 := HIDe r179; have qh1 := HIDe r180; have qh2 := HIDe r181; have qh3 := HIDe r182; have qh4 := HIDe r183; omega) (show 0 ≤ (y168_63_1) ∧ (y168_63_1) ≤ (m168_64) ∧ (m168_64) ≤ 65536 by have qh0 := HIDe r184; have qh1 := HIDe r194; omega) (show 0 ≤ (y168_65_1) ∧ (y168_65_1) ≤ (m168_66) ∧ (m168_66) ≤ 65536 by have qh0 := HIDe r185; have qh1 := HIDe r195; omega) (show CEL ((w168_48)) by assumption) (show 0 ≤ (y168_85_1) ∧ (y168_85_1) ≤ (m168_86) ∧ (m168_86) ≤ 65536 by have qh0 := HIDe r186; have qh1 := HIDe r196; omega) (show 0 ≤ (y168_87_1) ∧ (y168_87_1) ≤ (m168_88) ∧ (m168_88) ≤ 65536 by have qh0 := HIDe r187; have qh1 := HIDe r197; omega) (show CEL ((w168_70)) by assumption) (show 0 ≤ ((w168_26)) 0 ∧ ((w168_26)) 0 ≤ 3 ∧ 0 ≤ ((w168_26)) 1 ∧ ((w168_26)) 1 ≤ 3 ∧ 0 ≤ ((w168_26)) 2 ∧ ((w168_26)) 2 ≤ 3 by omega) (show ((-1)) = -1 by omega) (by assumption))
