abbrev V17_vd4n : vV := [(0, 0, [(4, 0), (4, 0), (4, 0), (4, 0), (4, 0), (4, 0), (4, 0), (4, 0), (4, 0), (4, 0), (4, 0), (4, 0), (4, 0), (4, 0), (4, 0), (4, 0), (4, 0), (0, 0), (0, 0)]), (0, 7, [(4, 0), (0, 0), (1, 0), (0, 0), (0, 0)]), (0, 7, [(4, 0), (0, 0), (1, 0), (0, 0), (0, 0)]), (1, 0, []), (1, 0, []), (0, 4, [(4, 0), (4, 0), (0, 0), (4, 0), (4, 0)]), (0, 7, [(4, 0), (0, 0), (1, 0), (0, 0), (0, 0)]), (1, 0, []), (0, 6, [(4, 0), (4, 0), (4, 0), (4, 0), (4, 0), (4, 0), (4, 0), (4, 0), (4, 0), (4, 0), (4, 0), (4, 0), (4, 0), (4, 0), (4, 0), (0, 0), (0, 0), (4, 0), (4, 0)]), (1, 1, []), (0, 5, [(4, 0), (4, 0), (4, 0), (4, 0), (0, 0), (0, 0), (0, 0), (4, 0), (4, 0), (0, 0), (0, 0), (0, 0), (0, 0), (0, 0), (0, 0), (0, 0), (0, 0), (0, 0), (0, 0)]), (0, 7, [(4, 0), (0, 0), (1, 0), (0, 0), (0, 0)]), (1, 0, []), (1, 1, []), (1, 1, []), (1, 1, []), (1, 1, []), (1, 1, []), (0, 7, [(4, 0), (0, 0), (1, 0), (0, 0), (0, 0)]), (1, 0, []), (0, 7, [(4, 0), (0, 0), (1, 0), (0, 0), (0, 0)]), (1, 0, []), (0, 7, [(4, 0), (0, 0), (1, 0), (0, 0), (0, 0)]), (1, 0, []), (1, 1, []), (1, 1, []), (1, 1, []), (1, 1, []), (1, 6, []), (0, 9, [(4, 0), (4, 0), (4, 0)]), (1, 5, []), (1, 2, []), (0, 9, [(4, 0), (4, 0), (4, 0)]), (1, 5, []), (1, 2, []), (1, 5, []), (1, 5, []), (1, 5, []), (1, 7, []), (1, 1, []), (1, 1, []), (1, 1, []), (1, 1, []), (0, 9, [(4, 0), (4, 0), (4, 0)]), (1, 5, []), (1, 2, []), (0, 3, [(4, 0), (4, 0), (4, 0), (0, 0), (4, 0), (4, 0), (4, 0), (4, 0), (4, 0), (4, 0), (4, 0), (4, 0), (4, 0), (0, 0), (0, 0), (0, 0), (0, 0)]), (1, 1, []), (1, 1, []), (1, 1, []), (1, 1, []), (1, 1, []), (1, 1, []), (1, 1, []), (1, 1, []), (0, 8, [(0, 0), (0, 0), (4, 0), (4, 0), (4, 0), (4, 0), (4, 0), (4, 0), (4, 0), (4, 0), (4, 0), (0, 0), (0, 0)]), (1, 1, []), (1, 1, []), (1, 1, []), (1, 1, []), (1, 1, []), (1, 1, []), (1, 1, []), (1, 1, []), (0, 7, [(4, 0), (0, 0), (1, 0), (0, 0), (0, 0)]), (1, 0, []), (0, 7, [(4, 0), (0, 0), (1, 0), (0, 0), (0, 0)]), (1, 0, []), (0, 3, [(4, 0), (4, 0), (4, 0), (0, 0), (4, 0), (4, 0), (4, 0), (4, 0), (4, 0), (4, 0), (4, 0), (4, 0), (4, 0), (0, 0), (0, 0), (0, 0), (0, 0)]), (1, 1, []), (1, 1, []), (1, 1, []), (1, 1, []), (1, 1, []), (1, 1, []), (1, 1, []), (1, 1, []), (0, 8, [(0, 0), (0, 0), (4, 0), (4, 0), (4, 0), (4, 0), (4, 0), (4, 0), (4, 0), (4, 0), (4, 0), (0, 0), (0, 0)]), (1, 1, []), (1, 1, []), (1, 1, []), (1, 1, []), (1, 1, []), (1, 1, []), (1, 1, []), (1, 1, []), (0, 7, [(4, 0), (0, 0), (1, 0), (0, 0), (0, 0)]), (1, 0, []), (0, 7, [(4, 0), (0, 0), (1, 0), (0, 0), (0, 0)]), (1, 0, []), (0, 8, [(0, 0), (0, 0), (4, 0), (4, 0), (4, 0), (4, 0), (4, 0), (4, 0), (4, 0), (4, 0), (4, 0), (0, 0), (0, 0)]), (1, 1, []), (1, 1, []), (1, 1, []), (1, 1, []), (1, 1, []), (1, 1, []), (1, 1, []), (1, 1, []), (0, 8, [(0, 0), (0, 0), (4, 0), (4, 0), (4, 0), (4, 0), (4, 0), (4, 0), (4, 0), (4, 0), (4, 0), (0, 0), (0, 0)]), (1, 1, []), (1, 1, []), (1, 1, []), (1, 1, []), (1, 1, []), (1, 1, []), (1, 1, []), (1, 1, []), (0, 8, [(0, 0), (0, 0), (4, 0), (4, 0), (4, 0), (4, 0), (4, 0), (4, 0), (4, 0), (4, 0), (4, 0), (0, 0), (0, 0)]), (1, 1, []), (1, 1, []), (1, 1, []), (1, 1, []), (1, 1, []), (1, 1, []), (1, 1, []), (1, 1, []), (0, 8, [(0, 0), (0, 0), (4, 0), (4, 0), (4, 0), (4, 0), (4, 0), (4, 0), (4, 0), (4, 0), (4, 0), (0, 0), (0, 0)]), (1, 1, []), (1, 1, []), (1, 1, []), (1, 1, []), (1, 1, []), (1, 1, []), (1, 1, []), (1, 1, []), (0, 8, [(0, 0), (0, 0), (4, 0), (4, 0), (4, 0), (4, 0), (4, 0), (4, 0), (4, 0), (4, 0), (4, 0), (0, 0), (0, 0)]), (1, 1, []), (1, 1, []), (1, 1, []), (1, 1, []), (1, 1, []), (1, 1, []), (1, 1, []), (1, 1, []), (0, 8, [(0, 0), (0, 0), (4, 0), (4, 0), (4, 0), (4, 0), (4, 0), (4, 0), (4, 0), (4, 0), (4, 0), (0, 0), (0, 0)]), (1, 1, []), (1, 1, []), (1, 1, []), (1, 1, []), (1, 1, []), (1, 1, []), (1, 1, []), (1, 1, []), (0, 8, [(0, 0), (0, 0), (4, 0), (4, 0), (4, 0), (4, 0), (4, 0), (4, 0), (4, 0), (4, 0), (4, 0), (0, 0), (0, 0)]), (1, 1, []), (1, 1, []), (1, 1, []), (1, 1, []), (1, 1, []), (1, 1, []), (1, 1, []), (1, 1, []), (0, 8, [(0, 0), (0, 0), (4, 0), (4, 0), (4, 0), (4, 0), (4, 0), (4, 0), (4, 0), (4, 0), (4, 0), (0, 0), (0, 0)]), (1, 1, []), (1, 1, []), (1, 1, []), (1, 1, []), (1, 1, []), (1, 1, []), (1, 1, []), (1, 1, []), (0, 8, [(0, 0), (0, 0), (4, 0), (4, 0), (4, 0), (4, 0), (4, 0), (4, 0), (4, 0), (4, 0), (4, 0), (0, 0), (0, 0)]), (1, 1, []), (1, 1, []), (1, 1, []), (1, 1, []), (1, 1, []), (1, 1, []), (1, 1, []), (1, 1, []), (1, 1, [])]
set_option maxRecDepth 20000 in
/-- PackHouse.write: this, @F, this.written, this.written.bytes, @F.bytes, this.dictionary, this.dictionary.content, this.dictionary.content.bytes, this.packer, this.packer.settings, this.packer.finder, this.packer.finder.data, this.packer.finder.data.bytes, this.packer.finder.heads, this.packer.finder.back, this.packer.finder.literals, this.packer.finder.lengths, this.packer.finder.distances, this.packer.packed, this.packer.packed.bytes, this.packer.literals, this.packer.literals.bytes, this.packer.told, this.packer.told.bytes, this.packer.byteCounts, this.packer.symbolCounts, this.packer.counts, this.packer.modes, this.packer.ownCodes, this.packer.now, this.packer.now.tables, this.packer.now.latest, this.packer.next, this.packer.next.tables, this.packer.next.latest, this.packer.known, this.packer.ownTables, this.packer.otherTables, this.packer.symbols, this.packer.symbols.0, this.packer.numbers, this.packer.symbols.1, this.packer.symbols.2, this.dictionary.stand, this.dictionary.stand.tables, this.dictionary.stand.latest, this.packer.ownCodes.0, this.packer.ownCodes.0.lengths, this.packer.ownCodes.0.codes, this.packer.ownCodes.0.cells, this.packer.ownCodes.0.weights, this.packer.ownCodes.0.weightCounts, this.packer.ownCodes.0.order, this.packer.ownCodes.0.amounts, this.packer.ownCodes.0.parents, this.packer.ownCodes.0.weightShare, this.packer.ownCodes.0.weightShare.points, this.packer.ownCodes.0.weightShare.masses, this.packer.ownCodes.0.weightShare.mostBits, this.packer.ownCodes.0.weightShare.starts, this.packer.ownCodes.0.weightShare.used, this.packer.ownCodes.0.weightShare.symbolAt, this.packer.ownCodes.0.weightShare.numberAt, this.packer.ownCodes.0.weightShare.placeOf, this.packer.ownCodes.0.orderFive, this.packer.ownCodes.0.orderFive.bytes, this.packer.ownCodes.0.orderSix, this.packer.ownCodes.0.orderSix.bytes, this.packer.ownCodes.1, this.packer.ownCodes.1.lengths, this.packer.ownCodes.1.codes, this.packer.ownCodes.1.cells, this.packer.ownCodes.1.weights, this.packer.ownCodes.1.weightCounts, this.packer.ownCodes.1.order, this.packer.ownCodes.1.amounts, this.packer.ownCodes.1.parents, this.packer.ownCodes.1.weightShare, this.packer.ownCodes.1.weightShare.points, this.packer.ownCodes.1.weightShare.masses, this.packer.ownCodes.1.weightShare.mostBits, this.packer.ownCodes.1.weightShare.starts, this.packer.ownCodes.1.weightShare.used, this.packer.ownCodes.1.weightShare.symbolAt, this.packer.ownCodes.1.weightShare.numberAt, this.packer.ownCodes.1.weightShare.placeOf, this.packer.ownCodes.1.orderFive, this.packer.ownCodes.1.orderFive.bytes, this.packer.ownCodes.1.orderSix, this.packer.ownCodes.1.orderSix.bytes, this.packer.known.0, this.packer.known.0.points, this.packer.known.0.masses, this.packer.known.0.mostBits, this.packer.known.0.starts, this.packer.known.0.symbolAt, this.packer.known.0.numberAt, this.packer.known.0.placeOf, this.packer.known.0.used, this.packer.ownTables.0, this.packer.ownTables.0.points, this.packer.ownTables.0.masses, this.packer.ownTables.0.mostBits, this.packer.ownTables.0.starts, this.packer.ownTables.0.used, this.packer.ownTables.0.symbolAt, this.packer.ownTables.0.numberAt, this.packer.ownTables.0.placeOf, this.packer.otherTables.0, this.packer.otherTables.0.points, this.packer.otherTables.0.masses, this.packer.otherTables.0.mostBits, this.packer.otherTables.0.starts, this.packer.otherTables.0.used, this.packer.otherTables.0.symbolAt, this.packer.otherTables.0.numberAt, this.packer.otherTables.0.placeOf, this.packer.known.1, this.packer.known.1.points, this.packer.known.1.masses, this.packer.known.1.mostBits, this.packer.known.1.starts, this.packer.known.1.symbolAt, this.packer.known.1.numberAt, this.packer.known.1.placeOf, this.packer.known.1.used, this.packer.ownTables.1, this.packer.ownTables.1.points, this.packer.ownTables.1.masses, this.packer.ownTables.1.mostBits, this.packer.ownTables.1.starts, this.packer.ownTables.1.used, this.packer.ownTables.1.symbolAt, this.packer.ownTables.1.numberAt, this.packer.ownTables.1.placeOf, this.packer.otherTables.1, this.packer.otherTables.1.points, this.packer.otherTables.1.masses, this.packer.otherTables.1.mostBits, this.packer.otherTables.1.starts, this.packer.otherTables.1.used, this.packer.otherTables.1.symbolAt, this.packer.otherTables.1.numberAt, this.packer.otherTables.1.placeOf, this.packer.known.2, this.packer.known.2.points, this.packer.known.2.masses, this.packer.known.2.mostBits, this.packer.known.2.starts, this.packer.known.2.symbolAt, this.packer.known.2.numberAt, this.packer.known.2.placeOf, this.packer.known.2.used, this.packer.ownTables.2, this.packer.ownTables.2.points, this.packer.ownTables.2.masses, this.packer.ownTables.2.mostBits, this.packer.ownTables.2.starts, this.packer.ownTables.2.used, this.packer.ownTables.2.symbolAt, this.packer.ownTables.2.numberAt, this.packer.ownTables.2.placeOf, this.packer.otherTables.2, this.packer.otherTables.2.points, this.packer.otherTables.2.masses, this.packer.otherTables.2.mostBits, this.packer.otherTables.2.starts, this.packer.otherTables.2.used, this.packer.otherTables.2.symbolAt, this.packer.otherTables.2.numberAt, this.packer.otherTables.2.placeOf, this.checkCounts -/
theorem C17_vd4n {σE : rS} {D N : Nat → Nat} {F : hF} {A : hA} {d c s : Nat} {Q : wQ} (H : HW V17_vd4n σE D N F A) (HT : STC σE) {x1 : Int} (pf2 : F 0 5 = (D 2 : Int)) (pf3 : F 2 0 = (D 3 : Int)) (pf4 : F 1 0 = (D 4 : Int)) (pf5 : F 0 3 = (D 5 : Int)) (pf6 : F 5 0 = (D 6 : Int)) (pf7 : F 6 0 = (D 7 : Int)) (pf8 : F 0 11 = (D 8 : Int)) (pf9 : F 8 0 = (D 9 : Int)) (pf10 : F 8 1 = (D 10 : Int)) (pf11 : F 10 0 = (D 11 : Int)) (pf12 : F 11 0 = (D 12 : Int)) (pf13 : F 10 7 = (D 13 : Int)) (pf14 : F 10 8 = (D 14 : Int)) (pf15 : F 10 1 = (D 15 : Int)) (pf16 : F 10 2 = (D 16 : Int)) (pf17 : F 10 3 = (D 17 : Int)) (pf18 : F 8 8 = (D 18 : Int)) (pf19 : F 18 0 = (D 19 : Int)) (pf20 : F 8 9 = (D 20 : Int)) (pf21 : F 20 0 = (D 21 : Int)) (pf22 : F 8 10 = (D 22 : Int)) (pf23 : F 22 0 = (D 23 : Int)) (pf24 : F 8 11 = (D 24 : Int)) (pf25 : F 8 12 = (D 25 : Int)) (pf26 : F 8 18 = (D 26 : Int)) (pf27 : F 8 17 = (D 27 : Int)) (pf28 : F 8 3 = (D 28 : Int)) (pf29 : F 8 6 = (D 29 : Int)) (pf30 : F 29 1 = (D 30 : Int)) (pf31 : F 29 2 = (D 31 : Int)) (pf32 : F 8 7 = (D 32 : Int)) (pf33 : F 32 1 = (D 33 : Int)) (pf34 : F 32 2 = (D 34 : Int)) (pf35 : F 8 2 = (D 35 : Int)) (pf36 : F 8 4 = (D 36 : Int)) (pf37 : F 8 5 = (D 37 : Int)) (pf38 : F 8 13 = (D 38 : Int)) (pf39 : A 38 0 = (D 39 : Int)) (pf40 : F 8 14 = (D 40 : Int)) (pf41 : A 38 1 = (D 41 : Int)) (pf42 : A 38 2 = (D 42 : Int)) (pf43 : F 5 1 = (D 43 : Int)) (pf44 : F 43 1 = (D 44 : Int)) (pf45 : F 43 2 = (D 45 : Int)) (pf46 : A 28 0 = (D 46 : Int)) (pf47 : F 46 0 = (D 47 : Int)) (pf48 : F 46 1 = (D 48 : Int)) (pf49 : F 46 2 = (D 49 : Int)) (pf50 : F 46 4 = (D 50 : Int)) (pf51 : F 46 5 = (D 51 : Int)) (pf52 : F 46 10 = (D 52 : Int)) (pf53 : F 46 11 = (D 53 : Int)) (pf54 : F 46 12 = (D 54 : Int)) (pf55 : F 46 6 = (D 55 : Int)) (pf56 : F 55 2 = (D 56 : Int)) (pf57 : F 55 3 = (D 57 : Int)) (pf58 : F 55 4 = (D 58 : Int)) (pf59 : F 55 5 = (D 59 : Int)) (pf60 : F 55 6 = (D 60 : Int)) (pf61 : F 55 7 = (D 61 : Int)) (pf62 : F 55 8 = (D 62 : Int)) (pf63 : F 55 9 = (D 63 : Int)) (pf64 : F 46 7 = (D 64 : Int)) (pf65 : F 64 0 = (D 65 : Int)) (pf66 : F 46 8 = (D 66 : Int)) (pf67 : F 66 0 = (D 67 : Int)) (pf68 : A 28 1 = (D 68 : Int)) (pf69 : F 68 0 = (D 69 : Int)) (pf70 : F 68 1 = (D 70 : Int)) (pf71 : F 68 2 = (D 71 : Int)) (pf72 : F 68 4 = (D 72 : Int)) (pf73 : F 68 5 = (D 73 : Int)) (pf74 : F 68 10 = (D 74 : Int)) (pf75 : F 68 11 = (D 75 : Int)) (pf76 : F 68 12 = (D 76 : Int)) (pf77 : F 68 6 = (D 77 : Int)) (pf78 : F 77 2 = (D 78 : Int)) (pf79 : F 77 3 = (D 79 : Int)) (pf80 : F 77 4 = (D 80 : Int)) (pf81 : F 77 5 = (D 81 : Int)) (pf82 : F 77 6 = (D 82 : Int)) (pf83 : F 77 7 = (D 83 : Int)) (pf84 : F 77 8 = (D 84 : Int)) (pf85 : F 77 9 = (D 85 : Int)) (pf86 : F 68 7 = (D 86 : Int)) (pf87 : F 86 0 = (D 87 : Int)) (pf88 : F 68 8 = (D 88 : Int)) (pf89 : F 88 0 = (D 89 : Int)) (pf90 : A 35 0 = (D 90 : Int)) (pf91 : F 90 2 = (D 91 : Int)) (pf92 : F 90 3 = (D 92 : Int)) (pf93 : F 90 4 = (D 93 : Int)) (pf94 : F 90 5 = (D 94 : Int)) (pf95 : F 90 7 = (D 95 : Int)) (pf96 : F 90 8 = (D 96 : Int)) (pf97 : F 90 9 = (D 97 : Int)) (pf98 : F 90 6 = (D 98 : Int)) (pf99 : A 36 0 = (D 99 : Int)) (pf100 : F 99 2 = (D 100 : Int)) (pf101 : F 99 3 = (D 101 : Int)) (pf102 : F 99 4 = (D 102 : Int)) (pf103 : F 99 5 = (D 103 : Int)) (pf104 : F 99 6 = (D 104 : Int)) (pf105 : F 99 7 = (D 105 : Int)) (pf106 : F 99 8 = (D 106 : Int)) (pf107 : F 99 9 = (D 107 : Int)) (pf108 : A 37 0 = (D 108 : Int)) (pf109 : F 108 2 = (D 109 : Int)) (pf110 : F 108 3 = (D 110 : Int)) (pf111 : F 108 4 = (D 111 : Int)) (pf112 : F 108 5 = (D 112 : Int)) (pf113 : F 108 6 = (D 113 : Int)) (pf114 : F 108 7 = (D 114 : Int)) (pf115 : F 108 8 = (D 115 : Int)) (pf116 : F 108 9 = (D 116 : Int)) (pf117 : A 35 1 = (D 117 : Int)) (pf118 : F 117 2 = (D 118 : Int)) (pf119 : F 117 3 = (D 119 : Int)) (pf120 : F 117 4 = (D 120 : Int)) (pf121 : F 117 5 = (D 121 : Int)) (pf122 : F 117 7 = (D 122 : Int)) (pf123 : F 117 8 = (D 123 : Int)) (pf124 : F 117 9 = (D 124 : Int)) (pf125 : F 117 6 = (D 125 : Int)) (pf126 : A 36 1 = (D 126 : Int)) (pf127 : F 126 2 = (D 127 : Int)) (pf128 : F 126 3 = (D 128 : Int)) (pf129 : F 126 4 = (D 129 : Int)) (pf130 : F 126 5 = (D 130 : Int)) (pf131 : F 126 6 = (D 131 : Int)) (pf132 : F 126 7 = (D 132 : Int)) (pf133 : F 126 8 = (D 133 : Int)) (pf134 : F 126 9 = (D 134 : Int)) (pf135 : A 37 1 = (D 135 : Int)) (pf136 : F 135 2 = (D 136 : Int)) (pf137 : F 135 3 = (D 137 : Int)) (pf138 : F 135 4 = (D 138 : Int)) (pf139 : F 135 5 = (D 139 : Int)) (pf140 : F 135 6 = (D 140 : Int)) (pf141 : F 135 7 = (D 141 : Int)) (pf142 : F 135 8 = (D 142 : Int)) (pf143 : F 135 9 = (D 143 : Int)) (pf144 : A 35 2 = (D 144 : Int)) (pf145 : F 144 2 = (D 145 : Int)) (pf146 : F 144 3 = (D 146 : Int)) (pf147 : F 144 4 = (D 147 : Int)) (pf148 : F 144 5 = (D 148 : Int)) (pf149 : F 144 7 = (D 149 : Int)) (pf150 : F 144 8 = (D 150 : Int)) (pf151 : F 144 9 = (D 151 : Int)) (pf152 : F 144 6 = (D 152 : Int)) (pf153 : A 36 2 = (D 153 : Int)) (pf154 : F 153 2 = (D 154 : Int)) (pf155 : F 153 3 = (D 155 : Int)) (pf156 : F 153 4 = (D 156 : Int)) (pf157 : F 153 5 = (D 157 : Int)) (pf158 : F 153 6 = (D 158 : Int)) (pf159 : F 153 7 = (D 159 : Int)) (pf160 : F 153 8 = (D 160 : Int)) (pf161 : F 153 9 = (D 161 : Int)) (pf162 : A 37 2 = (D 162 : Int)) (pf163 : F 162 2 = (D 163 : Int)) (pf164 : F 162 3 = (D 164 : Int)) (pf165 : F 162 4 = (D 165 : Int)) (pf166 : F 162 5 = (D 166 : Int)) (pf167 : F 162 6 = (D 167 : Int)) (pf168 : F 162 7 = (D 168 : Int)) (pf169 : F 162 8 = (D 169 : Int)) (pf170 : F 162 9 = (D 170 : Int)) (pf171 : F 0 15 = (D 171 : Int)) (n3 : Int) (en3 : (N 3 : Int) = n3) (n4 : Int) (en4 : (N 4 : Int) = n4) (n7 : Int) (en7 : (N 7 : Int) = n7) (n9 : Int) (en9 : (N 9 : Int) = n9) (n12 : Int) (en12 : (N 12 : Int) = n12) (n13 : Int) (en13 : (N 13 : Int) = n13) (n14 : Int) (en14 : (N 14 : Int) = n14) (n15 : Int) (en15 : (N 15 : Int) = n15) (n16 : Int) (en16 : (N 16 : Int) = n16) (n17 : Int) (en17 : (N 17 : Int) = n17) (n19 : Int) (en19 : (N 19 : Int) = n19) (n21 : Int) (en21 : (N 21 : Int) = n21) (n23 : Int) (en23 : (N 23 : Int) = n23) (n24 : Int) (en24 : (N 24 : Int) = n24) (n25 : Int) (en25 : (N 25 : Int) = n25) (n26 : Int) (en26 : (N 26 : Int) = n26) (n27 : Int) (en27 : (N 27 : Int) = n27) (n28 : Int) (en28 : (N 28 : Int) = n28) (n30 : Int) (en30 : (N 30 : Int) = n30) (n31 : Int) (en31 : (N 31 : Int) = n31) (n33 : Int) (en33 : (N 33 : Int) = n33) (n34 : Int) (en34 : (N 34 : Int) = n34) (n35 : Int) (en35 : (N 35 : Int) = n35) (n36 : Int) (en36 : (N 36 : Int) = n36) (n37 : Int) (en37 : (N 37 : Int) = n37) (n38 : Int) (en38 : (N 38 : Int) = n38) (n39 : Int) (en39 : (N 39 : Int) = n39) (n40 : Int) (en40 : (N 40 : Int) = n40) (n41 : Int) (en41 : (N 41 : Int) = n41) (n42 : Int) (en42 : (N 42 : Int) = n42) (n44 : Int) (en44 : (N 44 : Int) = n44) (n45 : Int) (en45 : (N 45 : Int) = n45) (n47 : Int) (en47 : (N 47 : Int) = n47) (n48 : Int) (en48 : (N 48 : Int) = n48) (n49 : Int) (en49 : (N 49 : Int) = n49) (n50 : Int) (en50 : (N 50 : Int) = n50) (n51 : Int) (en51 : (N 51 : Int) = n51) (n52 : Int) (en52 : (N 52 : Int) = n52) (n53 : Int) (en53 : (N 53 : Int) = n53) (n54 : Int) (en54 : (N 54 : Int) = n54) (n56 : Int) (en56 : (N 56 : Int) = n56) (n57 : Int) (en57 : (N 57 : Int) = n57) (n58 : Int) (en58 : (N 58 : Int) = n58) (n59 : Int) (en59 : (N 59 : Int) = n59) (n60 : Int) (en60 : (N 60 : Int) = n60) (n61 : Int) (en61 : (N 61 : Int) = n61) (n62 : Int) (en62 : (N 62 : Int) = n62) (n63 : Int) (en63 : (N 63 : Int) = n63) (n65 : Int) (en65 : (N 65 : Int) = n65) (n67 : Int) (en67 : (N 67 : Int) = n67) (n69 : Int) (en69 : (N 69 : Int) = n69) (n70 : Int) (en70 : (N 70 : Int) = n70) (n71 : Int) (en71 : (N 71 : Int) = n71) (n72 : Int) (en72 : (N 72 : Int) = n72) (n73 : Int) (en73 : (N 73 : Int) = n73) (n74 : Int) (en74 : (N 74 : Int) = n74) (n75 : Int) (en75 : (N 75 : Int) = n75) (n76 : Int) (en76 : (N 76 : Int) = n76) (n78 : Int) (en78 : (N 78 : Int) = n78) (n79 : Int) (en79 : (N 79 : Int) = n79) (n80 : Int) (en80 : (N 80 : Int) = n80) (n81 : Int) (en81 : (N 81 : Int) = n81) (n82 : Int) (en82 : (N 82 : Int) = n82) (n83 : Int) (en83 : (N 83 : Int) = n83) (n84 : Int) (en84 : (N 84 : Int) = n84) (n85 : Int) (en85 : (N 85 : Int) = n85) (n87 : Int) (en87 : (N 87 : Int) = n87) (n89 : Int) (en89 : (N 89 : Int) = n89) (n91 : Int) (en91 : (N 91 : Int) = n91) (n92 : Int) (en92 : (N 92 : Int) = n92) (n93 : Int) (en93 : (N 93 : Int) = n93) (n94 : Int) (en94 : (N 94 : Int) = n94) (n95 : Int) (en95 : (N 95 : Int) = n95) (n96 : Int) (en96 : (N 96 : Int) = n96) (n97 : Int) (en97 : (N 97 : Int) = n97) (n98 : Int) (en98 : (N 98 : Int) = n98) (n100 : Int) (en100 : (N 100 : Int) = n100) (n101 : Int) (en101 : (N 101 : Int) = n101) (n102 : Int) (en102 : (N 102 : Int) = n102) (n103 : Int) (en103 : (N 103 : Int) = n103) (n104 : Int) (en104 : (N 104 : Int) = n104) (n105 : Int) (en105 : (N 105 : Int) = n105) (n106 : Int) (en106 : (N 106 : Int) = n106) (n107 : Int) (en107 : (N 107 : Int) = n107) (n109 : Int) (en109 : (N 109 : Int) = n109) (n110 : Int) (en110 : (N 110 : Int) = n110) (n111 : Int) (en111 : (N 111 : Int) = n111) (n112 : Int) (en112 : (N 112 : Int) = n112) (n113 : Int) (en113 : (N 113 : Int) = n113) (n114 : Int) (en114 : (N 114 : Int) = n114) (n115 : Int) (en115 : (N 115 : Int) = n115) (n116 : Int) (en116 : (N 116 : Int) = n116) (n118 : Int) (en118 : (N 118 : Int) = n118) (n119 : Int) (en119 : (N 119 : Int) = n119) (n120 : Int) (en120 : (N 120 : Int) = n120) (n121 : Int) (en121 : (N 121 : Int) = n121) (n122 : Int) (en122 : (N 122 : Int) = n122) (n123 : Int) (en123 : (N 123 : Int) = n123) (n124 : Int) (en124 : (N 124 : Int) = n124) (n125 : Int) (en125 : (N 125 : Int) = n125) (n127 : Int) (en127 : (N 127 : Int) = n127) (n128 : Int) (en128 : (N 128 : Int) = n128) (n129 : Int) (en129 : (N 129 : Int) = n129) (n130 : Int) (en130 : (N 130 : Int) = n130) (n131 : Int) (en131 : (N 131 : Int) = n131) (n132 : Int) (en132 : (N 132 : Int) = n132) (n133 : Int) (en133 : (N 133 : Int) = n133) (n134 : Int) (en134 : (N 134 : Int) = n134) (n136 : Int) (en136 : (N 136 : Int) = n136) (n137 : Int) (en137 : (N 137 : Int) = n137) (n138 : Int) (en138 : (N 138 : Int) = n138) (n139 : Int) (en139 : (N 139 : Int) = n139) (n140 : Int) (en140 : (N 140 : Int) = n140) (n141 : Int) (en141 : (N 141 : Int) = n141) (n142 : Int) (en142 : (N 142 : Int) = n142) (n143 : Int) (en143 : (N 143 : Int) = n143) (n145 : Int) (en145 : (N 145 : Int) = n145) (n146 : Int) (en146 : (N 146 : Int) = n146) (n147 : Int) (en147 : (N 147 : Int) = n147) (n148 : Int) (en148 : (N 148 : Int) = n148) (n149 : Int) (en149 : (N 149 : Int) = n149) (n150 : Int) (en150 : (N 150 : Int) = n150) (n151 : Int) (en151 : (N 151 : Int) = n151) (n152 : Int) (en152 : (N 152 : Int) = n152) (n154 : Int) (en154 : (N 154 : Int) = n154) (n155 : Int) (en155 : (N 155 : Int) = n155) (n156 : Int) (en156 : (N 156 : Int) = n156) (n157 : Int) (en157 : (N 157 : Int) = n157) (n158 : Int) (en158 : (N 158 : Int) = n158) (n159 : Int) (en159 : (N 159 : Int) = n159) (n160 : Int) (en160 : (N 160 : Int) = n160) (n161 : Int) (en161 : (N 161 : Int) = n161) (n163 : Int) (en163 : (N 163 : Int) = n163) (n164 : Int) (en164 : (N 164 : Int) = n164) (n165 : Int) (en165 : (N 165 : Int) = n165) (n166 : Int) (en166 : (N 166 : Int) = n166) (n167 : Int) (en167 : (N 167 : Int) = n167) (n168 : Int) (en168 : (N 168 : Int) = n168) (n169 : Int) (en169 : (N 169 : Int) = n169) (n170 : Int) (en170 : (N 170 : Int) = n170) (n171 : Int) (en171 : (N 171 : Int) = n171) (u1_1 : Int) (eu1_1 : F 1 1 = u1_1) (u2_1 : Int) (eu2_1 : F 2 1 = u2_1) (u6_1 : Int) (eu6_1 : F 6 1 = u6_1) (u11_1 : Int) (eu11_1 : F 11 1 = u11_1) (u18_1 : Int) (eu18_1 : F 18 1 = u18_1) (u20_1 : Int) (eu20_1 : F 20 1 = u20_1) (u22_1 : Int) (eu22_1 : F 22 1 = u22_1) (u43_0 : Int) (eu43_0 : F 43 0 = u43_0) (u55_1 : Int) (eu55_1 : F 55 1 = u55_1) (u64_1 : Int) (eu64_1 : F 64 1 = u64_1) (u66_1 : Int) (eu66_1 : F 66 1 = u66_1) (u77_1 : Int) (eu77_1 : F 77 1 = u77_1) (u86_1 : Int) (eu86_1 : F 86 1 = u86_1) (u88_1 : Int) (eu88_1 : F 88 1 = u88_1) (u90_0 : Int) (eu90_0 : F 90 0 = u90_0) (u90_1 : Int) (eu90_1 : F 90 1 = u90_1) (u99_1 : Int) (eu99_1 : F 99 1 = u99_1) (u108_1 : Int) (eu108_1 : F 108 1 = u108_1) (u117_0 : Int) (eu117_0 : F 117 0 = u117_0) (u117_1 : Int) (eu117_1 : F 117 1 = u117_1) (u126_1 : Int) (eu126_1 : F 126 1 = u126_1) (u135_1 : Int) (eu135_1 : F 135 1 = u135_1) (u144_0 : Int) (eu144_0 : F 144 0 = u144_0) (u144_1 : Int) (eu144_1 : F 144 1 = u144_1) (u153_1 : Int) (eu153_1 : F 153 1 = u153_1) (u162_1 : Int) (eu162_1 : F 162 1 = u162_1) (w9 : Int → Int) (ew9 : A 9 = w9) (w27 : Int → Int) (ew27 : A 27 = w27) (w44 : Int → Int) (ew44 : A 44 = w44) (w49 : Int → Int) (ew49 : A 49 = w49) (w71 : Int → Int) (ew71 : A 71 = w71) (w91 : Int → Int) (ew91 : A 91 = w91) (w92 : Int → Int) (ew92 : A 92 = w92) (w93 : Int → Int) (ew93 : A 93 = w93) (w94 : Int → Int) (ew94 : A 94 = w94) (w95 : Int → Int) (ew95 : A 95 = w95) (w96 : Int → Int) (ew96 : A 96 = w96) (w97 : Int → Int) (ew97 : A 97 = w97) (w118 : Int → Int) (ew118 : A 118 = w118) (w119 : Int → Int) (ew119 : A 119 = w119) (w120 : Int → Int) (ew120 : A 120 = w120) (w121 : Int → Int) (ew121 : A 121 = w121) (w122 : Int → Int) (ew122 : A 122 = w122) (w123 : Int → Int) (ew123 : A 123 = w123) (w124 : Int → Int) (ew124 : A 124 = w124) (w145 : Int → Int) (ew145 : A 145 = w145) (w146 : Int → Int) (ew146 : A 146 = w146) (w147 : Int → Int) (ew147 : A 147 = w147) (w148 : Int → Int) (ew148 : A 148 = w148) (w149 : Int → Int) (ew149 : A 149 = w149) (w150 : Int → Int) (ew150 : A 150 = w150) (w151 : Int → Int) (ew151 : A 151 = w151) {ls : rO} (hl0 : rlook ls 0 = some (.ref (D 0))) (hl1 : rlook ls 1 = some (I (x1))) (hl3 : rlook ls 3 = some (I (4))) (hl4 : rlook ls 4 = some (.ref (D 1))) (hl5 : rlook ls 5 = some (I (1))) (h0 : inr (x1)) (h1 : 0 ≤ (u2_1) ∧ (u2_1) ≤ (n3) ∧ (n3) ≤ 65536) (h2 : 0 ≤ (u1_1) ∧ (u1_1) ≤ (n4) ∧ (n4) ≤ 65536) (h3 : 0 ≤ (u6_1) ∧ (u6_1) ≤ (n7) ∧ (n7) ≤ 65536) (h4 : (u6_1) + (u1_1) ≤ 16384) (h5 : 1 ≤ ((w9)) 1 ∧ ((w9)) 1 ≤ 8) (h6 : 0 ≤ ((w9)) 8 ∧ ((w9)) 8 ≤ 11) (h7 : 1 ≤ ((w9)) 2 ∧ ((w9)) 2 ≤ 65536) (h8 : 0 ≤ (u11_1) ∧ (u11_1) ≤ (n12) ∧ (n12) ≤ 65536) (h9 : (n13) = 0 ∨ (n13) = 2048) (h10 : (n14) ≤ 16384) (h11 : (n15) = (n16) ∧ (n17) = (n16) ∧ (n16) ≤ 65536 ∧ ((n16) = 0 ∨ 64 ≤ (n16)) ∧ lgq ((n16)) = 0) (h12 : 0 ≤ (u18_1) ∧ (u18_1) ≤ (n19) ∧ (n19) ≤ 65536) (h13 : 0 ≤ (u20_1) ∧ (u20_1) ≤ (n21) ∧ (n21) ≤ 65536) (h14 : 0 ≤ (u22_1) ∧ (u22_1) ≤ (n23) ∧ (n23) ≤ 65536) (h15 : (n9) = 10 ∧ (n24) = 256 ∧ (n25) = 53 ∧ (n26) = 13 ∧ (n27) = 3 ∧ (n28) = 2 ∧ (n30) = 3 ∧ (n31) = 3 ∧ (n33) = 3 ∧ (n34) = 3 ∧ (n35) = 3 ∧ (n36) = 3 ∧ (n37) = 3) (h16 : (n38) = 3 ∧ (n39) = (n40) ∧ (n41) = (n40) ∧ (n42) = (n40) ∧ lgq ((n40)) = 0 ∧ (n40) ≤ 16384) (h17 : (n44) = 3 ∧ (n45) = 3) (h18 : CDZD ((n47)) ((n48)) ((n49)) ((n50)) ((n51)) ((n52)) ((n53)) ((n54))) (h19 : SHZD ((n56)) ((n57)) ((n58)) ((n59)) ((n60)) ((n61)) ((n62)) ((n63)) ((u55_1)) 12 64) (h20 : 0 ≤ (u64_1) ∧ (u64_1) ≤ (n65) ∧ (n65) ≤ 65536) (h21 : 0 ≤ (u66_1) ∧ (u66_1) ≤ (n67) ∧ (n67) ≤ 65536) (h22 : CEL ((w49))) (h23 : CDZD ((n69)) ((n70)) ((n71)) ((n72)) ((n73)) ((n74)) ((n75)) ((n76))) (h24 : SHZD ((n78)) ((n79)) ((n80)) ((n81)) ((n82)) ((n83)) ((n84)) ((n85)) ((u77_1)) 12 64) (h25 : 0 ≤ (u86_1) ∧ (u86_1) ≤ (n87) ∧ (n87) ≤ 65536) (h26 : 0 ≤ (u88_1) ∧ (u88_1) ≤ (n89) ∧ (n89) ≤ 65536) (h27 : CEL ((w71))) (h28 : SL ((w91)) ((u90_1)) ((u90_0)) ((w92)) ((w93)) ((w94)) ((w95)) ((w96)) ((w97))) (h29 : SZD ((n91)) ((n92)) ((n93)) ((n94)) ((n98)) ((n95)) ((n96)) ((n97)) ((u90_1)) ((u90_0))) (h30 : SHZD ((n100)) ((n101)) ((n102)) ((n103)) ((n104)) ((n105)) ((n106)) ((n107)) ((u99_1)) 36 512) (h31 : SHZD ((n109)) ((n110)) ((n111)) ((n112)) ((n113)) ((n114)) ((n115)) ((n116)) ((u108_1)) 36 512) (h32 : SL ((w118)) ((u117_1)) ((u117_0)) ((w119)) ((w120)) ((w121)) ((w122)) ((w123)) ((w124))) (h33 : SZD ((n118)) ((n119)) ((n120)) ((n121)) ((n125)) ((n122)) ((n123)) ((n124)) ((u117_1)) ((u117_0))) (h34 : SHZD ((n127)) ((n128)) ((n129)) ((n130)) ((n131)) ((n132)) ((n133)) ((n134)) ((u126_1)) 32 256) (h35 : SHZD ((n136)) ((n137)) ((n138)) ((n139)) ((n140)) ((n141)) ((n142)) ((n143)) ((u135_1)) 32 256) (h36 : SL ((w145)) ((u144_1)) ((u144_0)) ((w146)) ((w147)) ((w148)) ((w149)) ((w150)) ((w151))) (h37 : SZD ((n145)) ((n146)) ((n147)) ((n148)) ((n152)) ((n149)) ((n150)) ((n151)) ((u144_1)) ((u144_0))) (h38 : SHZD ((n154)) ((n155)) ((n156)) ((n157)) ((n158)) ((n159)) ((n160)) ((n161)) ((u153_1)) 53 512) (h39 : SHZD ((n163)) ((n164)) ((n165)) ((n166)) ((n167)) ((n168)) ((n169)) ((n170)) ((u162_1)) 53 512) (h40 : 0 ≤ ((w27)) 0 ∧ ((w27)) 0 ≤ 3 ∧ 0 ≤ ((w27)) 1 ∧ ((w27)) 1 ≤ 3 ∧ 0 ≤ ((w27)) 2 ∧ ((w27)) 2 ≤ 3) (h41 : (u43_0) = -1) (h42 : ((w44)) 0 = -1) (h43 : ((w44)) 1 = -1) (h44 : ((w44)) 2 = -1) (h45 : (u2_1) = 0) (hc236 : ∀ (tc236_2 : Int), ∀ (tc236_3 : Int), ∀ (ls : rO) (σ : rS) (D_c236 N_c236 : Nat → Nat) (c_c236 s_c236 : Nat) (F_c236 : hF) (A_c236 : hA) , rlook ls 0 = some (.ref (D_c236 0)) → rlook ls 1 = some (I (x1)) → rlook ls 3 = some (I (4)) → rlook ls 4 = some (.ref (D_c236 1)) → HW V17_vd4n σ D_c236 N_c236 F_c236 A_c236 → OUT (V17_vd4n).length D N σE c s D_c236 N_c236 σ c_c236 s_c236 → SD [3, 12, 13, 14, 15, 16, 17, 19, 21, 23, 38, 39, 40, 41, 42, 65, 67, 87, 89] D D_c236 → SD [3, 12, 13, 14, 15, 16, 17, 19, 21, 23, 38, 39, 40, 41, 42, 65, 67, 87, 89] N N_c236 → SF [(2, 0), (2, 1), (2, 2), (8, 13), (8, 14), (8, 15), (8, 16), (10, 1), (10, 2), (10, 3), (10, 4), (10, 5), (10, 6), (10, 7), (10, 8), (10, 9), (10, 10), (10, 11), (10, 12), (10, 13), (10, 14), (10, 15), (10, 16), (10, 17), (10, 18), (11, 0), (11, 1), (11, 2), (11, 3), (11, 4), (18, 0), (18, 1), (18, 2), (18, 3), (18, 4), (20, 0), (20, 1), (20, 2), (20, 3), (20, 4), (22, 0), (22, 1), (22, 2), (22, 3), (22, 4), (29, 0), (32, 0), (46, 3), (46, 13), (46, 14), (46, 15), (46, 16), (55, 0), (64, 0), (64, 1), (64, 2), (64, 3), (64, 4), (66, 0), (66, 1), (66, 2), (66, 3), (66, 4), (68, 3), (68, 13), (68, 14), (68, 15), (68, 16), (77, 0), (86, 0), (86, 1), (86, 2), (86, 3), (86, 4), (88, 0), (88, 1), (88, 2), (88, 3), (88, 4), (99, 0), (108, 0), (126, 0), (135, 0), (153, 0), (162, 0)] F F_c236 → SA [3, 12, 13, 14, 15, 16, 17, 19, 21, 23, 24, 25, 26, 27, 30, 31, 33, 34, 38, 39, 40, 41, 42, 47, 48, 49, 50, 51, 52, 53, 54, 56, 57, 58, 59, 60, 61, 62, 63, 65, 67, 69, 70, 71, 72, 73, 74, 75, 76, 78, 79, 80, 81, 82, 83, 84, 85, 87, 89, 100, 101, 102, 103, 104, 105, 106, 107, 109, 110, 111, 112, 113, 114, 115, 116, 127, 128, 129, 130, 131, 132, 133, 134, 136, 137, 138, 139, 140, 141, 142, 143, 154, 155, 156, 157, 158, 159, 160, 161, 163, 164, 165, 166, 167, 168, 169, 170] A A_c236 → F_c236 2 0 = (D_c236 3 : Int) → F_c236 11 0 = (D_c236 12 : Int) → F_c236 10 7 = (D_c236 13 : Int) → F_c236 10 8 = (D_c236 14 : Int) → F_c236 10 1 = (D_c236 15 : Int) → F_c236 10 2 = (D_c236 16 : Int) → F_c236 10 3 = (D_c236 17 : Int) → F_c236 18 0 = (D_c236 19 : Int) → F_c236 20 0 = (D_c236 21 : Int) → F_c236 22 0 = (D_c236 23 : Int) → F_c236 8 13 = (D_c236 38 : Int) → A_c236 38 0 = (D_c236 39 : Int) → F_c236 8 14 = (D_c236 40 : Int) → A_c236 38 1 = (D_c236 41 : Int) → A_c236 38 2 = (D_c236 42 : Int) → F_c236 64 0 = (D_c236 65 : Int) → F_c236 66 0 = (D_c236 67 : Int) → F_c236 86 0 = (D_c236 87 : Int) → F_c236 88 0 = (D_c236 89 : Int) → ∀ mc236_3 : Int, (N_c236 3 : Int) = mc236_3 → ∀ mc236_12 : Int, (N_c236 12 : Int) = mc236_12 → ∀ mc236_13 : Int, (N_c236 13 : Int) = mc236_13 → ∀ mc236_14 : Int, (N_c236 14 : Int) = mc236_14 → ∀ mc236_15 : Int, (N_c236 15 : Int) = mc236_15 → ∀ mc236_16 : Int, (N_c236 16 : Int) = mc236_16 → ∀ mc236_17 : Int, (N_c236 17 : Int) = mc236_17 → ∀ mc236_19 : Int, (N_c236 19 : Int) = mc236_19 → ∀ mc236_21 : Int, (N_c236 21 : Int) = mc236_21 → ∀ mc236_23 : Int, (N_c236 23 : Int) = mc236_23 → ∀ mc236_38 : Int, (N_c236 38 : Int) = mc236_38 → ∀ mc236_39 : Int, (N_c236 39 : Int) = mc236_39 → ∀ mc236_40 : Int, (N_c236 40 : Int) = mc236_40 → ∀ mc236_41 : Int, (N_c236 41 : Int) = mc236_41 → ∀ mc236_42 : Int, (N_c236 42 : Int) = mc236_42 → ∀ mc236_65 : Int, (N_c236 65 : Int) = mc236_65 → ∀ mc236_67 : Int, (N_c236 67 : Int) = mc236_67 → ∀ mc236_87 : Int, (N_c236 87 : Int) = mc236_87 → ∀ mc236_89 : Int, (N_c236 89 : Int) = mc236_89 → ∀ yc236_2_1 : Int, F_c236 2 1 = yc236_2_1 → ∀ yc236_11_1 : Int, F_c236 11 1 = yc236_11_1 → ∀ yc236_18_1 : Int, F_c236 18 1 = yc236_18_1 → ∀ yc236_20_1 : Int, F_c236 20 1 = yc236_20_1 → ∀ yc236_22_1 : Int, F_c236 22 1 = yc236_22_1 → ∀ yc236_64_1 : Int, F_c236 64 1 = yc236_64_1 → ∀ yc236_66_1 : Int, F_c236 66 1 = yc236_66_1 → ∀ yc236_86_1 : Int, F_c236 86 1 = yc236_86_1 → ∀ yc236_88_1 : Int, F_c236 88 1 = yc236_88_1 → ∀ wc236_27 : Int → Int, A_c236 27 = wc236_27 → ∀ wc236_49 : Int → Int, A_c236 49 = wc236_49 → ∀ wc236_71 : Int → Int, A_c236 71 = wc236_71 → (inr (tc236_2)) → (inr (tc236_3)) → (0 ≤ (yc236_2_1) ∧ (yc236_2_1) ≤ (mc236_3) ∧ (mc236_3) ≤ 65536) → (0 ≤ (yc236_11_1) ∧ (yc236_11_1) ≤ (mc236_12) ∧ (mc236_12) ≤ 65536) → ((mc236_13) = 0 ∨ (mc236_13) = 2048) → ((mc236_14) ≤ 16384) → ((mc236_15) = (mc236_16) ∧ (mc236_17) = (mc236_16) ∧ (mc236_16) ≤ 65536 ∧ ((mc236_16) = 0 ∨ 64 ≤ (mc236_16)) ∧ lgq ((mc236_16)) = 0) → (0 ≤ (yc236_18_1) ∧ (yc236_18_1) ≤ (mc236_19) ∧ (mc236_19) ≤ 65536) → (0 ≤ (yc236_20_1) ∧ (yc236_20_1) ≤ (mc236_21) ∧ (mc236_21) ≤ 65536) → (0 ≤ (yc236_22_1) ∧ (yc236_22_1) ≤ (mc236_23) ∧ (mc236_23) ≤ 65536) → ((mc236_38) = 3 ∧ (mc236_39) = (mc236_40) ∧ (mc236_41) = (mc236_40) ∧ (mc236_42) = (mc236_40) ∧ lgq ((mc236_40)) = 0 ∧ (mc236_40) ≤ 16384) → (0 ≤ (yc236_64_1) ∧ (yc236_64_1) ≤ (mc236_65) ∧ (mc236_65) ≤ 65536) → (0 ≤ (yc236_66_1) ∧ (yc236_66_1) ≤ (mc236_67) ∧ (mc236_67) ≤ 65536) → (CEL ((wc236_49))) → (0 ≤ (yc236_86_1) ∧ (yc236_86_1) ≤ (mc236_87) ∧ (mc236_87) ≤ 65536) → (0 ≤ (yc236_88_1) ∧ (yc236_88_1) ≤ (mc236_89) ∧ (mc236_89) ≤ 65536) → (CEL ((wc236_71))) → (0 ≤ ((wc236_27)) 0 ∧ ((wc236_27)) 0 ≤ 3 ∧ 0 ≤ ((wc236_27)) 1 ∧ ((wc236_27)) 1 ≤ 3 ∧ 0 ≤ ((wc236_27)) 2 ∧ ((wc236_27)) 2 ≤ 3) → ((tc236_2) = 4) → ((tc236_3) = (u1_1)) → Ew 17 (d + 7) 236 ls [.ref (D_c236 171), I (tc236_3), I (tc236_2), .ref (D_c236 2), .ref (D_c236 0)] σ c_c236 s_c236 Q) (k : ∀ (z : Int) (σ : rS) (Dₚ Nₚ : Nat → Nat) (Fₚ : hF) (Aₚ : hA) (cₚ sₚ : Nat), HW V17_vd4n σ Dₚ Nₚ Fₚ Aₚ → OUT (V17_vd4n).length D N σE c s Dₚ Nₚ σ cₚ sₚ → SD [3, 12, 13, 14, 15, 16, 17, 19, 21, 23, 38, 39, 40, 41, 42, 65, 67, 87, 89] D Dₚ → SD [3, 12, 13, 14, 15, 16, 17, 19, 21, 23, 38, 39, 40, 41, 42, 65, 67, 87, 89] N Nₚ → SF [(2, 0), (2, 1), (2, 2), (8, 13), (8, 14), (8, 15), (8, 16), (10, 1), (10, 2), (10, 3), (10, 4), (10, 5), (10, 6), (10, 7), (10, 8), (10, 9), (10, 10), (10, 11), (10, 12), (10, 13), (10, 14), (10, 15), (10, 16), (10, 17), (10, 18), (11, 0), (11, 1), (11, 2), (11, 3), (11, 4), (18, 0), (18, 1), (18, 2), (18, 3), (18, 4), (20, 0), (20, 1), (20, 2), (20, 3), (20, 4), (22, 0), (22, 1), (22, 2), (22, 3), (22, 4), (29, 0), (32, 0), (46, 3), (46, 13), (46, 14), (46, 15), (46, 16), (55, 0), (64, 0), (64, 1), (64, 2), (64, 3), (64, 4), (66, 0), (66, 1), (66, 2), (66, 3), (66, 4), (68, 3), (68, 13), (68, 14), (68, 15), (68, 16), (77, 0), (86, 0), (86, 1), (86, 2), (86, 3), (86, 4), (88, 0), (88, 1), (88, 2), (88, 3), (88, 4), (99, 0), (108, 0), (126, 0), (135, 0), (153, 0), (162, 0)] F Fₚ → SA [3, 12, 13, 14, 15, 16, 17, 19, 21, 23, 24, 25, 26, 27, 30, 31, 33, 34, 38, 39, 40, 41, 42, 47, 48, 49, 50, 51, 52, 53, 54, 56, 57, 58, 59, 60, 61, 62, 63, 65, 67, 69, 70, 71, 72, 73, 74, 75, 76, 78, 79, 80, 81, 82, 83, 84, 85, 87, 89, 100, 101, 102, 103, 104, 105, 106, 107, 109, 110, 111, 112, 113, 114, 115, 116, 127, 128, 129, 130, 131, 132, 133, 134, 136, 137, 138, 139, 140, 141, 142, 143, 154, 155, 156, 157, 158, 159, 160, 161, 163, 164, 165, 166, 167, 168, 169, 170] A Aₚ → Fₚ 2 0 = (Dₚ 3 : Int) → Fₚ 11 0 = (Dₚ 12 : Int) → Fₚ 10 7 = (Dₚ 13 : Int) → Fₚ 10 8 = (Dₚ 14 : Int) → Fₚ 10 1 = (Dₚ 15 : Int) → Fₚ 10 2 = (Dₚ 16 : Int) → Fₚ 10 3 = (Dₚ 17 : Int) → Fₚ 18 0 = (Dₚ 19 : Int) → Fₚ 20 0 = (Dₚ 21 : Int) → Fₚ 22 0 = (Dₚ 23 : Int) → Fₚ 8 13 = (Dₚ 38 : Int) → Aₚ 38 0 = (Dₚ 39 : Int) → Fₚ 8 14 = (Dₚ 40 : Int) → Aₚ 38 1 = (Dₚ 41 : Int) → Aₚ 38 2 = (Dₚ 42 : Int) → Fₚ 64 0 = (Dₚ 65 : Int) → Fₚ 66 0 = (Dₚ 67 : Int) → Fₚ 86 0 = (Dₚ 87 : Int) → Fₚ 88 0 = (Dₚ 89 : Int) → ∀ m3 : Int, (Nₚ 3 : Int) = m3 → ∀ m12 : Int, (Nₚ 12 : Int) = m12 → ∀ m13 : Int, (Nₚ 13 : Int) = m13 → ∀ m14 : Int, (Nₚ 14 : Int) = m14 → ∀ m15 : Int, (Nₚ 15 : Int) = m15 → ∀ m16 : Int, (Nₚ 16 : Int) = m16 → ∀ m17 : Int, (Nₚ 17 : Int) = m17 → ∀ m19 : Int, (Nₚ 19 : Int) = m19 → ∀ m21 : Int, (Nₚ 21 : Int) = m21 → ∀ m23 : Int, (Nₚ 23 : Int) = m23 → ∀ m38 : Int, (Nₚ 38 : Int) = m38 → ∀ m39 : Int, (Nₚ 39 : Int) = m39 → ∀ m40 : Int, (Nₚ 40 : Int) = m40 → ∀ m41 : Int, (Nₚ 41 : Int) = m41 → ∀ m42 : Int, (Nₚ 42 : Int) = m42 → ∀ m65 : Int, (Nₚ 65 : Int) = m65 → ∀ m67 : Int, (Nₚ 67 : Int) = m67 → ∀ m87 : Int, (Nₚ 87 : Int) = m87 → ∀ m89 : Int, (Nₚ 89 : Int) = m89 → ∀ y2_1 : Int, Fₚ 2 1 = y2_1 → ∀ y11_1 : Int, Fₚ 11 1 = y11_1 → ∀ y18_1 : Int, Fₚ 18 1 = y18_1 → ∀ y20_1 : Int, Fₚ 20 1 = y20_1 → ∀ y22_1 : Int, Fₚ 22 1 = y22_1 → ∀ y64_1 : Int, Fₚ 64 1 = y64_1 → ∀ y66_1 : Int, Fₚ 66 1 = y66_1 → ∀ y86_1 : Int, Fₚ 86 1 = y86_1 → ∀ y88_1 : Int, Fₚ 88 1 = y88_1 → ∀ v27 : Int → Int, Aₚ 27 = v27 → ∀ v49 : Int → Int, Aₚ 49 = v49 → ∀ v71 : Int → Int, Aₚ 71 = v71 → (inr (z)) → (0 ≤ (y2_1) ∧ (y2_1) ≤ (m3) ∧ (m3) ≤ 65536) → (0 ≤ (y11_1) ∧ (y11_1) ≤ (m12) ∧ (m12) ≤ 65536) → ((m13) = 0 ∨ (m13) = 2048) → ((m14) ≤ 16384) → ((m15) = (m16) ∧ (m17) = (m16) ∧ (m16) ≤ 65536 ∧ ((m16) = 0 ∨ 64 ≤ (m16)) ∧ lgq ((m16)) = 0) → (0 ≤ (y18_1) ∧ (y18_1) ≤ (m19) ∧ (m19) ≤ 65536) → (0 ≤ (y20_1) ∧ (y20_1) ≤ (m21) ∧ (m21) ≤ 65536) → (0 ≤ (y22_1) ∧ (y22_1) ≤ (m23) ∧ (m23) ≤ 65536) → ((m38) = 3 ∧ (m39) = (m40) ∧ (m41) = (m40) ∧ (m42) = (m40) ∧ lgq ((m40)) = 0 ∧ (m40) ≤ 16384) → (0 ≤ (y64_1) ∧ (y64_1) ≤ (m65) ∧ (m65) ≤ 65536) → (0 ≤ (y66_1) ∧ (y66_1) ≤ (m67) ∧ (m67) ≤ 65536) → (CEL ((v49))) → (0 ≤ (y86_1) ∧ (y86_1) ≤ (m87) ∧ (m87) ≤ 65536) → (0 ≤ (y88_1) ∧ (y88_1) ≤ (m89) ∧ (m89) ≤ 65536) → (CEL ((v71))) → (0 ≤ ((v27)) 0 ∧ ((v27)) 0 ≤ 3 ∧ 0 ≤ ((v27)) 1 ∧ ((v27)) 1 ≤ 3 ∧ 0 ≤ ((v27)) 2 ∧ ((v27)) 2 ≤ 3) → Q (some (I z)) σ cₚ sₚ) : Ew 17 (d + 7) 168 ls [.ref (D 8)] σE c s Q := by
  have O := OUT_refl (n := (V17_vd4n).length) (D := D) (N := N) (σ := σE) (c := c) (s := s)
  have HE := H
  have r1 : HID ((-2147483648 : Int) ≤ u1_1 ∧ u1_1 ≤ 2147483647) := krg_e (show (-2147483648 : Int) ≤ F 1 1 ∧ F 1 1 ≤ 2147483647 from H.krg 1 1 (by decide)) (show F 1 1 = u1_1 from (eu1_1))
  have r2 : HID ((-2147483648 : Int) ≤ u2_1 ∧ u2_1 ≤ 2147483647) := krg_e (show (-2147483648 : Int) ≤ F 2 1 ∧ F 2 1 ≤ 2147483647 from H.krg 2 1 (by decide)) (show F 2 1 = u2_1 from (eu2_1))
  have r3 : HID ((-2147483648 : Int) ≤ u6_1 ∧ u6_1 ≤ 2147483647) := krg_e (show (-2147483648 : Int) ≤ F 6 1 ∧ F 6 1 ≤ 2147483647 from H.krg 6 1 (by decide)) (show F 6 1 = u6_1 from (eu6_1))
  have r4 : HID ((-2147483648 : Int) ≤ u11_1 ∧ u11_1 ≤ 2147483647) := krg_e (show (-2147483648 : Int) ≤ F 11 1 ∧ F 11 1 ≤ 2147483647 from H.krg 11 1 (by decide)) (show F 11 1 = u11_1 from (eu11_1))
  have r5 : HID ((-2147483648 : Int) ≤ u18_1 ∧ u18_1 ≤ 2147483647) := krg_e (show (-2147483648 : Int) ≤ F 18 1 ∧ F 18 1 ≤ 2147483647 from H.krg 18 1 (by decide)) (show F 18 1 = u18_1 from (eu18_1))
  have r6 : HID ((-2147483648 : Int) ≤ u20_1 ∧ u20_1 ≤ 2147483647) := krg_e (show (-2147483648 : Int) ≤ F 20 1 ∧ F 20 1 ≤ 2147483647 from H.krg 20 1 (by decide)) (show F 20 1 = u20_1 from (eu20_1))
  have r7 : HID ((-2147483648 : Int) ≤ u22_1 ∧ u22_1 ≤ 2147483647) := krg_e (show (-2147483648 : Int) ≤ F 22 1 ∧ F 22 1 ≤ 2147483647 from H.krg 22 1 (by decide)) (show F 22 1 = u22_1 from (eu22_1))
  have r8 : HID ((-2147483648 : Int) ≤ u55_1 ∧ u55_1 ≤ 2147483647) := krg_e (show (-2147483648 : Int) ≤ F 55 1 ∧ F 55 1 ≤ 2147483647 from H.krg 55 1 (by decide)) (show F 55 1 = u55_1 from (eu55_1))
  have r9 : HID ((-2147483648 : Int) ≤ u64_1 ∧ u64_1 ≤ 2147483647) := krg_e (show (-2147483648 : Int) ≤ F 64 1 ∧ F 64 1 ≤ 2147483647 from H.krg 64 1 (by decide)) (show F 64 1 = u64_1 from (eu64_1))
  have r10 : HID ((-2147483648 : Int) ≤ u66_1 ∧ u66_1 ≤ 2147483647) := krg_e (show (-2147483648 : Int) ≤ F 66 1 ∧ F 66 1 ≤ 2147483647 from H.krg 66 1 (by decide)) (show F 66 1 = u66_1 from (eu66_1))
  have r11 : HID ((-2147483648 : Int) ≤ u77_1 ∧ u77_1 ≤ 2147483647) := krg_e (show (-2147483648 : Int) ≤ F 77 1 ∧ F 77 1 ≤ 2147483647 from H.krg 77 1 (by decide)) (show F 77 1 = u77_1 from (eu77_1))
  have r12 : HID ((-2147483648 : Int) ≤ u86_1 ∧ u86_1 ≤ 2147483647) := krg_e (show (-2147483648 : Int) ≤ F 86 1 ∧ F 86 1 ≤ 2147483647 from H.krg 86 1 (by decide)) (show F 86 1 = u86_1 from (eu86_1))
  have r13 : HID ((-2147483648 : Int) ≤ u88_1 ∧ u88_1 ≤ 2147483647) := krg_e (show (-2147483648 : Int) ≤ F 88 1 ∧ F 88 1 ≤ 2147483647 from H.krg 88 1 (by decide)) (show F 88 1 = u88_1 from (eu88_1))
  have r14 : HID ((-2147483648 : Int) ≤ u90_0 ∧ u90_0 ≤ 2147483647) := krg_e (show (-2147483648 : Int) ≤ F 90 0 ∧ F 90 0 ≤ 2147483647 from H.krg 90 0 (by decide)) (show F 90 0 = u90_0 from (eu90_0))
  have r15 : HID ((-2147483648 : Int) ≤ u90_1 ∧ u90_1 ≤ 2147483647) := krg_e (show (-2147483648 : Int) ≤ F 90 1 ∧ F 90 1 ≤ 2147483647 from H.krg 90 1 (by decide)) (show F 90 1 = u90_1 from (eu90_1))
  have r16 : HID ((-2147483648 : Int) ≤ u99_1 ∧ u99_1 ≤ 2147483647) := krg_e (show (-2147483648 : Int) ≤ F 99 1 ∧ F 99 1 ≤ 2147483647 from H.krg 99 1 (by decide)) (show F 99 1 = u99_1 from (eu99_1))
  have r17 : HID ((-2147483648 : Int) ≤ u108_1 ∧ u108_1 ≤ 2147483647) := krg_e (show (-2147483648 : Int) ≤ F 108 1 ∧ F 108 1 ≤ 2147483647 from H.krg 108 1 (by decide)) (show F 108 1 = u108_1 from (eu108_1))
  have r18 : HID ((-2147483648 : Int) ≤ u117_0 ∧ u117_0 ≤ 2147483647) := krg_e (show (-2147483648 : Int) ≤ F 117 0 ∧ F 117 0 ≤ 2147483647 from H.krg 117 0 (by decide)) (show F 117 0 = u117_0 from (eu117_0))
  have r19 : HID ((-2147483648 : Int) ≤ u117_1 ∧ u117_1 ≤ 2147483647) := krg_e (show (-2147483648 : Int) ≤ F 117 1 ∧ F 117 1 ≤ 2147483647 from H.krg 117 1 (by decide)) (show F 117 1 = u117_1 from (eu117_1))
  have r20 : HID ((-2147483648 : Int) ≤ u126_1 ∧ u126_1 ≤ 2147483647) := krg_e (show (-2147483648 : Int) ≤ F 126 1 ∧ F 126 1 ≤ 2147483647 from H.krg 126 1 (by decide)) (show F 126 1 = u126_1 from (eu126_1))
  have r21 : HID ((-2147483648 : Int) ≤ u135_1 ∧ u135_1 ≤ 2147483647) := krg_e (show (-2147483648 : Int) ≤ F 135 1 ∧ F 135 1 ≤ 2147483647 from H.krg 135 1 (by decide)) (show F 135 1 = u135_1 from (eu135_1))
  have r22 : HID ((-2147483648 : Int) ≤ u144_0 ∧ u144_0 ≤ 2147483647) := krg_e (show (-2147483648 : Int) ≤ F 144 0 ∧ F 144 0 ≤ 2147483647 from H.krg 144 0 (by decide)) (show F 144 0 = u144_0 from (eu144_0))
  have r23 : HID ((-2147483648 : Int) ≤ u144_1 ∧ u144_1 ≤ 2147483647) := krg_e (show (-2147483648 : Int) ≤ F 144 1 ∧ F 144 1 ≤ 2147483647 from H.krg 144 1 (by decide)) (show F 144 1 = u144_1 from (eu144_1))
  have r24 : HID ((-2147483648 : Int) ≤ u153_1 ∧ u153_1 ≤ 2147483647) := krg_e (show (-2147483648 : Int) ≤ F 153 1 ∧ F 153 1 ≤ 2147483647 from H.krg 153 1 (by decide)) (show F 153 1 = u153_1 from (eu153_1))
  have r25 : HID ((-2147483648 : Int) ≤ u162_1 ∧ u162_1 ≤ 2147483647) := krg_e (show (-2147483648 : Int) ≤ F 162 1 ∧ F 162 1 ≤ 2147483647 from H.krg 162 1 (by decide)) (show F 162 1 = u162_1 from (eu162_1))
  replace pf2 := HIDm pf2
  replace pf3 := HIDm pf3
  replace pf4 := HIDm pf4
  replace pf5 := HIDm pf5
  replace pf6 := HIDm pf6
  replace pf7 := HIDm pf7
  replace pf8 := HIDm pf8
  replace pf9 := HIDm pf9
  replace pf10 := HIDm pf10
  replace pf11 := HIDm pf11
  replace pf12 := HIDm pf12
  replace pf13 := HIDm pf13
  replace pf14 := HIDm pf14
  replace pf15 := HIDm pf15
  replace pf16 := HIDm pf16
  replace pf17 := HIDm pf17
  replace pf18 := HIDm pf18
  replace pf19 := HIDm pf19
  replace pf20 := HIDm pf20
  replace pf21 := HIDm pf21
  replace pf22 := HIDm pf22
  replace pf23 := HIDm pf23
  replace pf24 := HIDm pf24
  replace pf25 := HIDm pf25
  replace pf26 := HIDm pf26
  replace pf27 := HIDm pf27
  replace pf28 := HIDm pf28
  replace pf29 := HIDm pf29
  replace pf30 := HIDm pf30
  replace pf31 := HIDm pf31
  replace pf32 := HIDm pf32
  replace pf33 := HIDm pf33
  replace pf34 := HIDm pf34
  replace pf35 := HIDm pf35
  replace pf36 := HIDm pf36
  replace pf37 := HIDm pf37
  replace pf38 := HIDm pf38
  replace pf39 := HIDm pf39
  replace pf40 := HIDm pf40
  replace pf41 := HIDm pf41
  replace pf42 := HIDm pf42
  replace pf43 := HIDm pf43
  replace pf44 := HIDm pf44
  replace pf45 := HIDm pf45
  replace pf46 := HIDm pf46
  replace pf47 := HIDm pf47
  replace pf48 := HIDm pf48
  replace pf49 := HIDm pf49
  replace pf50 := HIDm pf50
  replace pf51 := HIDm pf51
  replace pf52 := HIDm pf52
  replace pf53 := HIDm pf53
  replace pf54 := HIDm pf54
  replace pf55 := HIDm pf55
  replace pf56 := HIDm pf56
  replace pf57 := HIDm pf57
  replace pf58 := HIDm pf58
  replace pf59 := HIDm pf59
  replace pf60 := HIDm pf60
  replace pf61 := HIDm pf61
  replace pf62 := HIDm pf62
  replace pf63 := HIDm pf63
  replace pf64 := HIDm pf64
  replace pf65 := HIDm pf65
  replace pf66 := HIDm pf66
  replace pf67 := HIDm pf67
  replace pf68 := HIDm pf68
  replace pf69 := HIDm pf69
  replace pf70 := HIDm pf70
  replace pf71 := HIDm pf71
  replace pf72 := HIDm pf72
  replace pf73 := HIDm pf73
  replace pf74 := HIDm pf74
  replace pf75 := HIDm pf75
  replace pf76 := HIDm pf76
  replace pf77 := HIDm pf77
  replace pf78 := HIDm pf78
  replace pf79 := HIDm pf79
  replace pf80 := HIDm pf80
  replace pf81 := HIDm pf81
  replace pf82 := HIDm pf82
  replace pf83 := HIDm pf83
  replace pf84 := HIDm pf84
  replace pf85 := HIDm pf85
  replace pf86 := HIDm pf86
  replace pf87 := HIDm pf87
  replace pf88 := HIDm pf88
  replace pf89 := HIDm pf89
  replace pf90 := HIDm pf90
  replace pf91 := HIDm pf91
  replace pf92 := HIDm pf92
  replace pf93 := HIDm pf93
  replace pf94 := HIDm pf94
  replace pf95 := HIDm pf95
  replace pf96 := HIDm pf96
  replace pf97 := HIDm pf97
  replace pf98 := HIDm pf98
  replace pf99 := HIDm pf99
  replace pf100 := HIDm pf100
  replace pf101 := HIDm pf101
  replace pf102 := HIDm pf102
  replace pf103 := HIDm pf103
  replace pf104 := HIDm pf104
  replace pf105 := HIDm pf105
  replace pf106 := HIDm pf106
  replace pf107 := HIDm pf107
  replace pf108 := HIDm pf108
  replace pf109 := HIDm pf109
  replace pf110 := HIDm pf110
  replace pf111 := HIDm pf111
  replace pf112 := HIDm pf112
  replace pf113 := HIDm pf113
  replace pf114 := HIDm pf114
  replace pf115 := HIDm pf115
  replace pf116 := HIDm pf116
  replace pf117 := HIDm pf117
  replace pf118 := HIDm pf118
  replace pf119 := HIDm pf119
  replace pf120 := HIDm pf120
  replace pf121 := HIDm pf121
  replace pf122 := HIDm pf122
  replace pf123 := HIDm pf123
  replace pf124 := HIDm pf124
  replace pf125 := HIDm pf125
  replace pf126 := HIDm pf126
  replace pf127 := HIDm pf127
  replace pf128 := HIDm pf128
  replace pf129 := HIDm pf129
  replace pf130 := HIDm pf130
  replace pf131 := HIDm pf131
  replace pf132 := HIDm pf132
  replace pf133 := HIDm pf133
  replace pf134 := HIDm pf134
  replace pf135 := HIDm pf135
  replace pf136 := HIDm pf136
  replace pf137 := HIDm pf137
  replace pf138 := HIDm pf138
  replace pf139 := HIDm pf139
  replace pf140 := HIDm pf140
  replace pf141 := HIDm pf141
  replace pf142 := HIDm pf142
  replace pf143 := HIDm pf143
  replace pf144 := HIDm pf144
  replace pf145 := HIDm pf145
  replace pf146 := HIDm pf146
  replace pf147 := HIDm pf147
  replace pf148 := HIDm pf148
  replace pf149 := HIDm pf149
  replace pf150 := HIDm pf150
  replace pf151 := HIDm pf151
  replace pf152 := HIDm pf152
  replace pf153 := HIDm pf153
  replace pf154 := HIDm pf154
  replace pf155 := HIDm pf155
  replace pf156 := HIDm pf156
  replace pf157 := HIDm pf157
  replace pf158 := HIDm pf158
  replace pf159 := HIDm pf159
  replace pf160 := HIDm pf160
  replace pf161 := HIDm pf161
  replace pf162 := HIDm pf162
  replace pf163 := HIDm pf163
  replace pf164 := HIDm pf164
  replace pf165 := HIDm pf165
  replace pf166 := HIDm pf166
  replace pf167 := HIDm pf167
  replace pf168 := HIDm pf168
  replace pf169 := HIDm pf169
  replace pf170 := HIDm pf170
  replace pf171 := HIDm pf171
  replace en3 := HIDm en3
  replace en4 := HIDm en4
  replace en7 := HIDm en7
  replace en9 := HIDm en9
  replace en12 := HIDm en12
  replace en13 := HIDm en13
  replace en14 := HIDm en14
  replace en15 := HIDm en15
  replace en16 := HIDm en16
  replace en17 := HIDm en17
  replace en19 := HIDm en19
  replace en21 := HIDm en21
  replace en23 := HIDm en23
  replace en24 := HIDm en24
  replace en25 := HIDm en25
  replace en26 := HIDm en26
  replace en27 := HIDm en27
  replace en28 := HIDm en28
  replace en30 := HIDm en30
  replace en31 := HIDm en31
  replace en33 := HIDm en33
  replace en34 := HIDm en34
  replace en35 := HIDm en35
  replace en36 := HIDm en36
  replace en37 := HIDm en37
  replace en38 := HIDm en38
  replace en39 := HIDm en39
  replace en40 := HIDm en40
  replace en41 := HIDm en41
  replace en42 := HIDm en42
  replace en44 := HIDm en44
  replace en45 := HIDm en45
  replace en47 := HIDm en47
  replace en48 := HIDm en48
  replace en49 := HIDm en49
  replace en50 := HIDm en50
  replace en51 := HIDm en51
  replace en52 := HIDm en52
  replace en53 := HIDm en53
  replace en54 := HIDm en54
  replace en56 := HIDm en56
  replace en57 := HIDm en57
  replace en58 := HIDm en58
  replace en59 := HIDm en59
  replace en60 := HIDm en60
  replace en61 := HIDm en61
  replace en62 := HIDm en62
  replace en63 := HIDm en63
  replace en65 := HIDm en65
  replace en67 := HIDm en67
  replace en69 := HIDm en69
  replace en70 := HIDm en70
  replace en71 := HIDm en71
  replace en72 := HIDm en72
  replace en73 := HIDm en73
  replace en74 := HIDm en74
  replace en75 := HIDm en75
  replace en76 := HIDm en76
  replace en78 := HIDm en78
  replace en79 := HIDm en79
  replace en80 := HIDm en80
  replace en81 := HIDm en81
  replace en82 := HIDm en82
  replace en83 := HIDm en83
  replace en84 := HIDm en84
  replace en85 := HIDm en85
  replace en87 := HIDm en87
  replace en89 := HIDm en89
  replace en91 := HIDm en91
  replace en92 := HIDm en92
  replace en93 := HIDm en93
  replace en94 := HIDm en94
  replace en95 := HIDm en95
  replace en96 := HIDm en96
  replace en97 := HIDm en97
  replace en98 := HIDm en98
  replace en100 := HIDm en100
  replace en101 := HIDm en101
  replace en102 := HIDm en102
  replace en103 := HIDm en103
  replace en104 := HIDm en104
  replace en105 := HIDm en105
  replace en106 := HIDm en106
  replace en107 := HIDm en107
  replace en109 := HIDm en109
  replace en110 := HIDm en110
  replace en111 := HIDm en111
  replace en112 := HIDm en112
  replace en113 := HIDm en113
  replace en114 := HIDm en114
  replace en115 := HIDm en115
  replace en116 := HIDm en116
  replace en118 := HIDm en118
  replace en119 := HIDm en119
  replace en120 := HIDm en120
  replace en121 := HIDm en121
  replace en122 := HIDm en122
  replace en123 := HIDm en123
  replace en124 := HIDm en124
  replace en125 := HIDm en125
  replace en127 := HIDm en127
  replace en128 := HIDm en128
  replace en129 := HIDm en129
  replace en130 := HIDm en130
  replace en131 := HIDm en131
  replace en132 := HIDm en132
  replace en133 := HIDm en133
  replace en134 := HIDm en134
  replace en136 := HIDm en136
  replace en137 := HIDm en137
  replace en138 := HIDm en138
  replace en139 := HIDm en139
  replace en140 := HIDm en140
  replace en141 := HIDm en141
  replace en142 := HIDm en142
  replace en143 := HIDm en143
  replace en145 := HIDm en145
  replace en146 := HIDm en146
  replace en147 := HIDm en147
  replace en148 := HIDm en148
  replace en149 := HIDm en149
  replace en150 := HIDm en150
  replace en151 := HIDm en151
  replace en152 := HIDm en152
  replace en154 := HIDm en154
  replace en155 := HIDm en155
  replace en156 := HIDm en156
  replace en157 := HIDm en157
  replace en158 := HIDm en158
  replace en159 := HIDm en159
  replace en160 := HIDm en160
  replace en161 := HIDm en161
  replace en163 := HIDm en163
  replace en164 := HIDm en164
  replace en165 := HIDm en165
  replace en166 := HIDm en166
  replace en167 := HIDm en167
  replace en168 := HIDm en168
  replace en169 := HIDm en169
  replace en170 := HIDm en170
  replace en171 := HIDm en171
  replace eu1_1 := HIDm eu1_1
  replace eu2_1 := HIDm eu2_1
  replace eu6_1 := HIDm eu6_1
  replace eu11_1 := HIDm eu11_1
  replace eu18_1 := HIDm eu18_1
  replace eu20_1 := HIDm eu20_1
  replace eu22_1 := HIDm eu22_1
  replace eu43_0 := HIDm eu43_0
  replace eu55_1 := HIDm eu55_1
  replace eu64_1 := HIDm eu64_1
  replace eu66_1 := HIDm eu66_1
  replace eu77_1 := HIDm eu77_1
  replace eu86_1 := HIDm eu86_1
  replace eu88_1 := HIDm eu88_1
  replace eu90_0 := HIDm eu90_0
  replace eu90_1 := HIDm eu90_1
  replace eu99_1 := HIDm eu99_1
  replace eu108_1 := HIDm eu108_1
  replace eu117_0 := HIDm eu117_0
  replace eu117_1 := HIDm eu117_1
  replace eu126_1 := HIDm eu126_1
  replace eu135_1 := HIDm eu135_1
  replace eu144_0 := HIDm eu144_0
  replace eu144_1 := HIDm eu144_1
  replace eu153_1 := HIDm eu153_1
  replace eu162_1 := HIDm eu162_1
  have r26 : HID ((0 : Int) ≤ n3 ∧ n3 ≤ 1000000) := nrng (H.nle 3 (by decide)) (show (N 3 : Int) = n3 from en3)
  have r27 : HID ((0 : Int) ≤ n4 ∧ n4 ≤ 1000000) := nrng (H.nle 4 (by decide)) (show (N 4 : Int) = n4 from en4)
  have r28 : HID ((0 : Int) ≤ n7 ∧ n7 ≤ 1000000) := nrng (H.nle 7 (by decide)) (show (N 7 : Int) = n7 from en7)
  have r29 : HID ((0 : Int) ≤ n9 ∧ n9 ≤ 1000000) := nrng (H.nle 9 (by decide)) (show (N 9 : Int) = n9 from en9)
  have r30 : HID ((0 : Int) ≤ n12 ∧ n12 ≤ 1000000) := nrng (H.nle 12 (by decide)) (show (N 12 : Int) = n12 from en12)
  have r31 : HID ((0 : Int) ≤ n13 ∧ n13 ≤ 1000000) := nrng (H.nle 13 (by decide)) (show (N 13 : Int) = n13 from en13)
  have r32 : HID ((0 : Int) ≤ n14 ∧ n14 ≤ 1000000) := nrng (H.nle 14 (by decide)) (show (N 14 : Int) = n14 from en14)
  have r33 : HID ((0 : Int) ≤ n15 ∧ n15 ≤ 1000000) := nrng (H.nle 15 (by decide)) (show (N 15 : Int) = n15 from en15)
  have r34 : HID ((0 : Int) ≤ n16 ∧ n16 ≤ 1000000) := nrng (H.nle 16 (by decide)) (show (N 16 : Int) = n16 from en16)
  have r35 : HID ((0 : Int) ≤ n17 ∧ n17 ≤ 1000000) := nrng (H.nle 17 (by decide)) (show (N 17 : Int) = n17 from en17)
  have r36 : HID ((0 : Int) ≤ n19 ∧ n19 ≤ 1000000) := nrng (H.nle 19 (by decide)) (show (N 19 : Int) = n19 from en19)
  have r37 : HID ((0 : Int) ≤ n21 ∧ n21 ≤ 1000000) := nrng (H.nle 21 (by decide)) (show (N 21 : Int) = n21 from en21)
  have r38 : HID ((0 : Int) ≤ n23 ∧ n23 ≤ 1000000) := nrng (H.nle 23 (by decide)) (show (N 23 : Int) = n23 from en23)
  have r39 : HID ((0 : Int) ≤ n24 ∧ n24 ≤ 1000000) := nrng (H.nle 24 (by decide)) (show (N 24 : Int) = n24 from en24)
  have r40 : HID ((0 : Int) ≤ n25 ∧ n25 ≤ 1000000) := nrng (H.nle 25 (by decide)) (show (N 25 : Int) = n25 from en25)
  have r41 : HID ((0 : Int) ≤ n26 ∧ n26 ≤ 1000000) := nrng (H.nle 26 (by decide)) (show (N 26 : Int) = n26 from en26)
  have r42 : HID ((0 : Int) ≤ n27 ∧ n27 ≤ 1000000) := nrng (H.nle 27 (by decide)) (show (N 27 : Int) = n27 from en27)
  have r43 : HID ((0 : Int) ≤ n28 ∧ n28 ≤ 1000000) := nrng (H.nle 28 (by decide)) (show (N 28 : Int) = n28 from en28)
  have r44 : HID ((0 : Int) ≤ n30 ∧ n30 ≤ 1000000) := nrng (H.nle 30 (by decide)) (show (N 30 : Int) = n30 from en30)
  have r45 : HID ((0 : Int) ≤ n31 ∧ n31 ≤ 1000000) := nrng (H.nle 31 (by decide)) (show (N 31 : Int) = n31 from en31)
  have r46 : HID ((0 : Int) ≤ n33 ∧ n33 ≤ 1000000) := nrng (H.nle 33 (by decide)) (show (N 33 : Int) = n33 from en33)
  have r47 : HID ((0 : Int) ≤ n34 ∧ n34 ≤ 1000000) := nrng (H.nle 34 (by decide)) (show (N 34 : Int) = n34 from en34)
  have r48 : HID ((0 : Int) ≤ n35 ∧ n35 ≤ 1000000) := nrng (H.nle 35 (by decide)) (show (N 35 : Int) = n35 from en35)
  have r49 : HID ((0 : Int) ≤ n36 ∧ n36 ≤ 1000000) := nrng (H.nle 36 (by decide)) (show (N 36 : Int) = n36 from en36)
  have r50 : HID ((0 : Int) ≤ n37 ∧ n37 ≤ 1000000) := nrng (H.nle 37 (by decide)) (show (N 37 : Int) = n37 from en37)
  have r51 : HID ((0 : Int) ≤ n38 ∧ n38 ≤ 1000000) := nrng (H.nle 38 (by decide)) (show (N 38 : Int) = n38 from en38)
  have r52 : HID ((0 : Int) ≤ n39 ∧ n39 ≤ 1000000) := nrng (H.nle 39 (by decide)) (show (N 39 : Int) = n39 from en39)
  have r53 : HID ((0 : Int) ≤ n40 ∧ n40 ≤ 1000000) := nrng (H.nle 40 (by decide)) (show (N 40 : Int) = n40 from en40)
  have r54 : HID ((0 : Int) ≤ n41 ∧ n41 ≤ 1000000) := nrng (H.nle 41 (by decide)) (show (N 41 : Int) = n41 from en41)
  have r55 : HID ((0 : Int) ≤ n42 ∧ n42 ≤ 1000000) := nrng (H.nle 42 (by decide)) (show (N 42 : Int) = n42 from en42)
  have r56 : HID ((0 : Int) ≤ n44 ∧ n44 ≤ 1000000) := nrng (H.nle 44 (by decide)) (show (N 44 : Int) = n44 from en44)
  have r57 : HID ((0 : Int) ≤ n45 ∧ n45 ≤ 1000000) := nrng (H.nle 45 (by decide)) (show (N 45 : Int) = n45 from en45)
  have r58 : HID ((0 : Int) ≤ n47 ∧ n47 ≤ 1000000) := nrng (H.nle 47 (by decide)) (show (N 47 : Int) = n47 from en47)
  have r59 : HID ((0 : Int) ≤ n48 ∧ n48 ≤ 1000000) := nrng (H.nle 48 (by decide)) (show (N 48 : Int) = n48 from en48)
  have r60 : HID ((0 : Int) ≤ n49 ∧ n49 ≤ 1000000) := nrng (H.nle 49 (by decide)) (show (N 49 : Int) = n49 from en49)
  have r61 : HID ((0 : Int) ≤ n50 ∧ n50 ≤ 1000000) := nrng (H.nle 50 (by decide)) (show (N 50 : Int) = n50 from en50)
  have r62 : HID ((0 : Int) ≤ n51 ∧ n51 ≤ 1000000) := nrng (H.nle 51 (by decide)) (show (N 51 : Int) = n51 from en51)
  have r63 : HID ((0 : Int) ≤ n52 ∧ n52 ≤ 1000000) := nrng (H.nle 52 (by decide)) (show (N 52 : Int) = n52 from en52)
  have r64 : HID ((0 : Int) ≤ n53 ∧ n53 ≤ 1000000) := nrng (H.nle 53 (by decide)) (show (N 53 : Int) = n53 from en53)
  have r65 : HID ((0 : Int) ≤ n54 ∧ n54 ≤ 1000000) := nrng (H.nle 54 (by decide)) (show (N 54 : Int) = n54 from en54)
  have r66 : HID ((0 : Int) ≤ n56 ∧ n56 ≤ 1000000) := nrng (H.nle 56 (by decide)) (show (N 56 : Int) = n56 from en56)
  have r67 : HID ((0 : Int) ≤ n57 ∧ n57 ≤ 1000000) := nrng (H.nle 57 (by decide)) (show (N 57 : Int) = n57 from en57)
  have r68 : HID ((0 : Int) ≤ n58 ∧ n58 ≤ 1000000) := nrng (H.nle 58 (by decide)) (show (N 58 : Int) = n58 from en58)
  have r69 : HID ((0 : Int) ≤ n59 ∧ n59 ≤ 1000000) := nrng (H.nle 59 (by decide)) (show (N 59 : Int) = n59 from en59)
  have r70 : HID ((0 : Int) ≤ n60 ∧ n60 ≤ 1000000) := nrng (H.nle 60 (by decide)) (show (N 60 : Int) = n60 from en60)
  have r71 : HID ((0 : Int) ≤ n61 ∧ n61 ≤ 1000000) := nrng (H.nle 61 (by decide)) (show (N 61 : Int) = n61 from en61)
  have r72 : HID ((0 : Int) ≤ n62 ∧ n62 ≤ 1000000) := nrng (H.nle 62 (by decide)) (show (N 62 : Int) = n62 from en62)
  have r73 : HID ((0 : Int) ≤ n63 ∧ n63 ≤ 1000000) := nrng (H.nle 63 (by decide)) (show (N 63 : Int) = n63 from en63)
  have r74 : HID ((0 : Int) ≤ n65 ∧ n65 ≤ 1000000) := nrng (H.nle 65 (by decide)) (show (N 65 : Int) = n65 from en65)
  have r75 : HID ((0 : Int) ≤ n67 ∧ n67 ≤ 1000000) := nrng (H.nle 67 (by decide)) (show (N 67 : Int) = n67 from en67)
  have r76 : HID ((0 : Int) ≤ n69 ∧ n69 ≤ 1000000) := nrng (H.nle 69 (by decide)) (show (N 69 : Int) = n69 from en69)
  have r77 : HID ((0 : Int) ≤ n70 ∧ n70 ≤ 1000000) := nrng (H.nle 70 (by decide)) (show (N 70 : Int) = n70 from en70)
  have r78 : HID ((0 : Int) ≤ n71 ∧ n71 ≤ 1000000) := nrng (H.nle 71 (by decide)) (show (N 71 : Int) = n71 from en71)
  have r79 : HID ((0 : Int) ≤ n72 ∧ n72 ≤ 1000000) := nrng (H.nle 72 (by decide)) (show (N 72 : Int) = n72 from en72)
  have r80 : HID ((0 : Int) ≤ n73 ∧ n73 ≤ 1000000) := nrng (H.nle 73 (by decide)) (show (N 73 : Int) = n73 from en73)
  have r81 : HID ((0 : Int) ≤ n74 ∧ n74 ≤ 1000000) := nrng (H.nle 74 (by decide)) (show (N 74 : Int) = n74 from en74)
  have r82 : HID ((0 : Int) ≤ n75 ∧ n75 ≤ 1000000) := nrng (H.nle 75 (by decide)) (show (N 75 : Int) = n75 from en75)
  have r83 : HID ((0 : Int) ≤ n76 ∧ n76 ≤ 1000000) := nrng (H.nle 76 (by decide)) (show (N 76 : Int) = n76 from en76)
  have r84 : HID ((0 : Int) ≤ n78 ∧ n78 ≤ 1000000) := nrng (H.nle 78 (by decide)) (show (N 78 : Int) = n78 from en78)
  have r85 : HID ((0 : Int) ≤ n79 ∧ n79 ≤ 1000000) := nrng (H.nle 79 (by decide)) (show (N 79 : Int) = n79 from en79)
  have r86 : HID ((0 : Int) ≤ n80 ∧ n80 ≤ 1000000) := nrng (H.nle 80 (by decide)) (show (N 80 : Int) = n80 from en80)
  have r87 : HID ((0 : Int) ≤ n81 ∧ n81 ≤ 1000000) := nrng (H.nle 81 (by decide)) (show (N 81 : Int) = n81 from en81)
  have r88 : HID ((0 : Int) ≤ n82 ∧ n82 ≤ 1000000) := nrng (H.nle 82 (by decide)) (show (N 82 : Int) = n82 from en82)
  have r89 : HID ((0 : Int) ≤ n83 ∧ n83 ≤ 1000000) := nrng (H.nle 83 (by decide)) (show (N 83 : Int) = n83 from en83)
  have r90 : HID ((0 : Int) ≤ n84 ∧ n84 ≤ 1000000) := nrng (H.nle 84 (by decide)) (show (N 84 : Int) = n84 from en84)
  have r91 : HID ((0 : Int) ≤ n85 ∧ n85 ≤ 1000000) := nrng (H.nle 85 (by decide)) (show (N 85 : Int) = n85 from en85)
  have r92 : HID ((0 : Int) ≤ n87 ∧ n87 ≤ 1000000) := nrng (H.nle 87 (by decide)) (show (N 87 : Int) = n87 from en87)
  have r93 : HID ((0 : Int) ≤ n89 ∧ n89 ≤ 1000000) := nrng (H.nle 89 (by decide)) (show (N 89 : Int) = n89 from en89)
  have r94 : HID ((0 : Int) ≤ n91 ∧ n91 ≤ 1000000) := nrng (H.nle 91 (by decide)) (show (N 91 : Int) = n91 from en91)
  have r95 : HID ((0 : Int) ≤ n92 ∧ n92 ≤ 1000000) := nrng (H.nle 92 (by decide)) (show (N 92 : Int) = n92 from en92)
  have r96 : HID ((0 : Int) ≤ n93 ∧ n93 ≤ 1000000) := nrng (H.nle 93 (by decide)) (show (N 93 : Int) = n93 from en93)
  have r97 : HID ((0 : Int) ≤ n94 ∧ n94 ≤ 1000000) := nrng (H.nle 94 (by decide)) (show (N 94 : Int) = n94 from en94)
  have r98 : HID ((0 : Int) ≤ n95 ∧ n95 ≤ 1000000) := nrng (H.nle 95 (by decide)) (show (N 95 : Int) = n95 from en95)
  have r99 : HID ((0 : Int) ≤ n96 ∧ n96 ≤ 1000000) := nrng (H.nle 96 (by decide)) (show (N 96 : Int) = n96 from en96)
  have r100 : HID ((0 : Int) ≤ n97 ∧ n97 ≤ 1000000) := nrng (H.nle 97 (by decide)) (show (N 97 : Int) = n97 from en97)
  have r101 : HID ((0 : Int) ≤ n98 ∧ n98 ≤ 1000000) := nrng (H.nle 98 (by decide)) (show (N 98 : Int) = n98 from en98)
  have r102 : HID ((0 : Int) ≤ n100 ∧ n100 ≤ 1000000) := nrng (H.nle 100 (by decide)) (show (N 100 : Int) = n100 from en100)
  have r103 : HID ((0 : Int) ≤ n101 ∧ n101 ≤ 1000000) := nrng (H.nle 101 (by decide)) (show (N 101 : Int) = n101 from en101)
  have r104 : HID ((0 : Int) ≤ n102 ∧ n102 ≤ 1000000) := nrng (H.nle 102 (by decide)) (show (N 102 : Int) = n102 from en102)
  have r105 : HID ((0 : Int) ≤ n103 ∧ n103 ≤ 1000000) := nrng (H.nle 103 (by decide)) (show (N 103 : Int) = n103 from en103)
  have r106 : HID ((0 : Int) ≤ n104 ∧ n104 ≤ 1000000) := nrng (H.nle 104 (by decide)) (show (N 104 : Int) = n104 from en104)
  have r107 : HID ((0 : Int) ≤ n105 ∧ n105 ≤ 1000000) := nrng (H.nle 105 (by decide)) (show (N 105 : Int) = n105 from en105)
  have r108 : HID ((0 : Int) ≤ n106 ∧ n106 ≤ 1000000) := nrng (H.nle 106 (by decide)) (show (N 106 : Int) = n106 from en106)
  have r109 : HID ((0 : Int) ≤ n107 ∧ n107 ≤ 1000000) := nrng (H.nle 107 (by decide)) (show (N 107 : Int) = n107 from en107)
  have r110 : HID ((0 : Int) ≤ n109 ∧ n109 ≤ 1000000) := nrng (H.nle 109 (by decide)) (show (N 109 : Int) = n109 from en109)
  have r111 : HID ((0 : Int) ≤ n110 ∧ n110 ≤ 1000000) := nrng (H.nle 110 (by decide)) (show (N 110 : Int) = n110 from en110)
  have r112 : HID ((0 : Int) ≤ n111 ∧ n111 ≤ 1000000) := nrng (H.nle 111 (by decide)) (show (N 111 : Int) = n111 from en111)
  have r113 : HID ((0 : Int) ≤ n112 ∧ n112 ≤ 1000000) := nrng (H.nle 112 (by decide)) (show (N 112 : Int) = n112 from en112)
  have r114 : HID ((0 : Int) ≤ n113 ∧ n113 ≤ 1000000) := nrng (H.nle 113 (by decide)) (show (N 113 : Int) = n113 from en113)
  have r115 : HID ((0 : Int) ≤ n114 ∧ n114 ≤ 1000000) := nrng (H.nle 114 (by decide)) (show (N 114 : Int) = n114 from en114)
  have r116 : HID ((0 : Int) ≤ n115 ∧ n115 ≤ 1000000) := nrng (H.nle 115 (by decide)) (show (N 115 : Int) = n115 from en115)
  have r117 : HID ((0 : Int) ≤ n116 ∧ n116 ≤ 1000000) := nrng (H.nle 116 (by decide)) (show (N 116 : Int) = n116 from en116)
  have r118 : HID ((0 : Int) ≤ n118 ∧ n118 ≤ 1000000) := nrng (H.nle 118 (by decide)) (show (N 118 : Int) = n118 from en118)
  have r119 : HID ((0 : Int) ≤ n119 ∧ n119 ≤ 1000000) := nrng (H.nle 119 (by decide)) (show (N 119 : Int) = n119 from en119)
  have r120 : HID ((0 : Int) ≤ n120 ∧ n120 ≤ 1000000) := nrng (H.nle 120 (by decide)) (show (N 120 : Int) = n120 from en120)
  have r121 : HID ((0 : Int) ≤ n121 ∧ n121 ≤ 1000000) := nrng (H.nle 121 (by decide)) (show (N 121 : Int) = n121 from en121)
  have r122 : HID ((0 : Int) ≤ n122 ∧ n122 ≤ 1000000) := nrng (H.nle 122 (by decide)) (show (N 122 : Int) = n122 from en122)
  have r123 : HID ((0 : Int) ≤ n123 ∧ n123 ≤ 1000000) := nrng (H.nle 123 (by decide)) (show (N 123 : Int) = n123 from en123)
  have r124 : HID ((0 : Int) ≤ n124 ∧ n124 ≤ 1000000) := nrng (H.nle 124 (by decide)) (show (N 124 : Int) = n124 from en124)
  have r125 : HID ((0 : Int) ≤ n125 ∧ n125 ≤ 1000000) := nrng (H.nle 125 (by decide)) (show (N 125 : Int) = n125 from en125)
  have r126 : HID ((0 : Int) ≤ n127 ∧ n127 ≤ 1000000) := nrng (H.nle 127 (by decide)) (show (N 127 : Int) = n127 from en127)
  have r127 : HID ((0 : Int) ≤ n128 ∧ n128 ≤ 1000000) := nrng (H.nle 128 (by decide)) (show (N 128 : Int) = n128 from en128)
  have r128 : HID ((0 : Int) ≤ n129 ∧ n129 ≤ 1000000) := nrng (H.nle 129 (by decide)) (show (N 129 : Int) = n129 from en129)
  have r129 : HID ((0 : Int) ≤ n130 ∧ n130 ≤ 1000000) := nrng (H.nle 130 (by decide)) (show (N 130 : Int) = n130 from en130)
  have r130 : HID ((0 : Int) ≤ n131 ∧ n131 ≤ 1000000) := nrng (H.nle 131 (by decide)) (show (N 131 : Int) = n131 from en131)
  have r131 : HID ((0 : Int) ≤ n132 ∧ n132 ≤ 1000000) := nrng (H.nle 132 (by decide)) (show (N 132 : Int) = n132 from en132)
  have r132 : HID ((0 : Int) ≤ n133 ∧ n133 ≤ 1000000) := nrng (H.nle 133 (by decide)) (show (N 133 : Int) = n133 from en133)
  have r133 : HID ((0 : Int) ≤ n134 ∧ n134 ≤ 1000000) := nrng (H.nle 134 (by decide)) (show (N 134 : Int) = n134 from en134)
  have r134 : HID ((0 : Int) ≤ n136 ∧ n136 ≤ 1000000) := nrng (H.nle 136 (by decide)) (show (N 136 : Int) = n136 from en136)
  have r135 : HID ((0 : Int) ≤ n137 ∧ n137 ≤ 1000000) := nrng (H.nle 137 (by decide)) (show (N 137 : Int) = n137 from en137)
  have r136 : HID ((0 : Int) ≤ n138 ∧ n138 ≤ 1000000) := nrng (H.nle 138 (by decide)) (show (N 138 : Int) = n138 from en138)
  have r137 : HID ((0 : Int) ≤ n139 ∧ n139 ≤ 1000000) := nrng (H.nle 139 (by decide)) (show (N 139 : Int) = n139 from en139)
  have r138 : HID ((0 : Int) ≤ n140 ∧ n140 ≤ 1000000) := nrng (H.nle 140 (by decide)) (show (N 140 : Int) = n140 from en140)
  have r139 : HID ((0 : Int) ≤ n141 ∧ n141 ≤ 1000000) := nrng (H.nle 141 (by decide)) (show (N 141 : Int) = n141 from en141)
  have r140 : HID ((0 : Int) ≤ n142 ∧ n142 ≤ 1000000) := nrng (H.nle 142 (by decide)) (show (N 142 : Int) = n142 from en142)
  have r141 : HID ((0 : Int) ≤ n143 ∧ n143 ≤ 1000000) := nrng (H.nle 143 (by decide)) (show (N 143 : Int) = n143 from en143)
  have r142 : HID ((0 : Int) ≤ n145 ∧ n145 ≤ 1000000) := nrng (H.nle 145 (by decide)) (show (N 145 : Int) = n145 from en145)
  have r143 : HID ((0 : Int) ≤ n146 ∧ n146 ≤ 1000000) := nrng (H.nle 146 (by decide)) (show (N 146 : Int) = n146 from en146)
  have r144 : HID ((0 : Int) ≤ n147 ∧ n147 ≤ 1000000) := nrng (H.nle 147 (by decide)) (show (N 147 : Int) = n147 from en147)
  have r145 : HID ((0 : Int) ≤ n148 ∧ n148 ≤ 1000000) := nrng (H.nle 148 (by decide)) (show (N 148 : Int) = n148 from en148)
  have r146 : HID ((0 : Int) ≤ n149 ∧ n149 ≤ 1000000) := nrng (H.nle 149 (by decide)) (show (N 149 : Int) = n149 from en149)
  have r147 : HID ((0 : Int) ≤ n150 ∧ n150 ≤ 1000000) := nrng (H.nle 150 (by decide)) (show (N 150 : Int) = n150 from en150)
  have r148 : HID ((0 : Int) ≤ n151 ∧ n151 ≤ 1000000) := nrng (H.nle 151 (by decide)) (show (N 151 : Int) = n151 from en151)
  have r149 : HID ((0 : Int) ≤ n152 ∧ n152 ≤ 1000000) := nrng (H.nle 152 (by decide)) (show (N 152 : Int) = n152 from en152)
  have r150 : HID ((0 : Int) ≤ n154 ∧ n154 ≤ 1000000) := nrng (H.nle 154 (by decide)) (show (N 154 : Int) = n154 from en154)
  have r151 : HID ((0 : Int) ≤ n155 ∧ n155 ≤ 1000000) := nrng (H.nle 155 (by decide)) (show (N 155 : Int) = n155 from en155)
  have r152 : HID ((0 : Int) ≤ n156 ∧ n156 ≤ 1000000) := nrng (H.nle 156 (by decide)) (show (N 156 : Int) = n156 from en156)
  have r153 : HID ((0 : Int) ≤ n157 ∧ n157 ≤ 1000000) := nrng (H.nle 157 (by decide)) (show (N 157 : Int) = n157 from en157)
  have r154 : HID ((0 : Int) ≤ n158 ∧ n158 ≤ 1000000) := nrng (H.nle 158 (by decide)) (show (N 158 : Int) = n158 from en158)
  have r155 : HID ((0 : Int) ≤ n159 ∧ n159 ≤ 1000000) := nrng (H.nle 159 (by decide)) (show (N 159 : Int) = n159 from en159)
  have r156 : HID ((0 : Int) ≤ n160 ∧ n160 ≤ 1000000) := nrng (H.nle 160 (by decide)) (show (N 160 : Int) = n160 from en160)
  have r157 : HID ((0 : Int) ≤ n161 ∧ n161 ≤ 1000000) := nrng (H.nle 161 (by decide)) (show (N 161 : Int) = n161 from en161)
  have r158 : HID ((0 : Int) ≤ n163 ∧ n163 ≤ 1000000) := nrng (H.nle 163 (by decide)) (show (N 163 : Int) = n163 from en163)
  have r159 : HID ((0 : Int) ≤ n164 ∧ n164 ≤ 1000000) := nrng (H.nle 164 (by decide)) (show (N 164 : Int) = n164 from en164)
  have r160 : HID ((0 : Int) ≤ n165 ∧ n165 ≤ 1000000) := nrng (H.nle 165 (by decide)) (show (N 165 : Int) = n165 from en165)
  have r161 : HID ((0 : Int) ≤ n166 ∧ n166 ≤ 1000000) := nrng (H.nle 166 (by decide)) (show (N 166 : Int) = n166 from en166)
  have r162 : HID ((0 : Int) ≤ n167 ∧ n167 ≤ 1000000) := nrng (H.nle 167 (by decide)) (show (N 167 : Int) = n167 from en167)
  have r163 : HID ((0 : Int) ≤ n168 ∧ n168 ≤ 1000000) := nrng (H.nle 168 (by decide)) (show (N 168 : Int) = n168 from en168)
  have r164 : HID ((0 : Int) ≤ n169 ∧ n169 ≤ 1000000) := nrng (H.nle 169 (by decide)) (show (N 169 : Int) = n169 from en169)
  have r165 : HID ((0 : Int) ≤ n170 ∧ n170 ≤ 1000000) := nrng (H.nle 170 (by decide)) (show (N 170 : Int) = n170 from en170)
  refine Ew_of (pcₚ := 169) (fun _ => x_aload_n rfl hl0) ?_
  refine v_g H (o := 0) (v := .ref (D 2)) rfl rfl rfl rfl rfl (vrf (pf2)) ?_
  refine Ew_of (pcₚ := 174) (fun _ => x_aload rfl hl4) ?_
  refine Ew_of (pcₚ := 175) (fun _ => x_aload_n rfl hl0) ?_
  refine v_g H (o := 0) (v := .ref (D 5)) rfl rfl rfl rfl rfl (vrf (pf5)) ?_
  refine v_inv H (o := 8) rfl rfl rfl rfl rfl rfl (by rfl) (C134_Row_Row_Dictionary_vn (D := pul [8, 2, 1, 5, 3, 4, 6, 7, 9, 10, 11, 12, 13, 14, 15, 16, 17, 18, 19, 20, 21, 22, 23, 24, 25, 26, 27, 28, 29, 30, 31, 32, 33, 34, 35, 36, 37, 38, 39, 40, 41, 42, 43, 44, 45, 46, 47, 48, 49, 50, 51, 52, 53, 54, 55, 56, 57, 58, 59, 60, 61, 62, 63, 64, 65, 66, 67, 68, 69, 70, 71, 72, 73, 74, 75, 76, 77, 78, 79, 80, 81, 82, 83, 84, 85, 86, 87, 88, 89, 90, 91, 92, 93, 94, 95, 96, 97, 98, 99, 100, 101, 102, 103, 104, 105, 106, 107, 108, 109, 110, 111, 112, 113, 114, 115, 116, 117, 118, 119, 120, 121, 122, 123, 124, 125, 126, 127, 128, 129, 130, 131, 132, 133, 134, 135, 136, 137, 138, 139, 140, 141, 142, 143, 144, 145, 146, 147, 148, 149, 150, 151, 152, 153, 154, 155, 156, 157, 158, 159, 160, 161, 162, 163, 164, 165, 166, 167, 168, 169, 170] D) (N := pul [8, 2, 1, 5, 3, 4, 6, 7, 9, 10, 11, 12, 13, 14, 15, 16, 17, 18, 19, 20, 21, 22, 23, 24, 25, 26, 27, 28, 29, 30, 31, 32, 33, 34, 35, 36, 37, 38, 39, 40, 41, 42, 43, 44, 45, 46, 47, 48, 49, 50, 51, 52, 53, 54, 55, 56, 57, 58, 59, 60, 61, 62, 63, 64, 65, 66, 67, 68, 69, 70, 71, 72, 73, 74, 75, 76, 77, 78, 79, 80, 81, 82, 83, 84, 85, 86, 87, 88, 89, 90, 91, 92, 93, 94, 95, 96, 97, 98, 99, 100, 101, 102, 103, 104, 105, 106, 107, 108, 109, 110, 111, 112, 113, 114, 115, 116, 117, 118, 119, 120, 121, 122, 123, 124, 125, 126, 127, 128, 129, 130, 131, 132, 133, 134, 135, 136, 137, 138, 139, 140, 141, 142, 143, 144, 145, 146, 147, 148, 149, 150, 151, 152, 153, 154, 155, 156, 157, 158, 159, 160, 161, 162, 163, 164, 165, 166, 167, 168, 169, 170] N) (HW_sub H (VS_of (show vsub V17_vd4n V134_Row_Row_Dictionary_vn [8, 2, 1, 5, 3, 4, 6, 7, 9, 10, 11, 12, 13, 14, 15, 16, 17, 18, 19, 20, 21, 22, 23, 24, 25, 26, 27, 28, 29, 30, 31, 32, 33, 34, 35, 36, 37, 38, 39, 40, 41, 42, 43, 44, 45, 46, 47, 48, 49, 50, 51, 52, 53, 54, 55, 56, 57, 58, 59, 60, 61, 62, 63, 64, 65, 66, 67, 68, 69, 70, 71, 72, 73, 74, 75, 76, 77, 78, 79, 80, 81, 82, 83, 84, 85, 86, 87, 88, 89, 90, 91, 92, 93, 94, 95, 96, 97, 98, 99, 100, 101, 102, 103, 104, 105, 106, 107, 108, 109, 110, 111, 112, 113, 114, 115, 116, 117, 118, 119, 120, 121, 122, 123, 124, 125, 126, 127, 128, 129, 130, 131, 132, 133, 134, 135, 136, 137, 138, 139, 140, 141, 142, 143, 144, 145, 146, 147, 148, 149, 150, 151, 152, 153, 154, 155, 156, 157, 158, 159, 160, 161, 162, 163, 164, 165, 166, 167, 168, 169, 170] = true by decide +kernel))) (STC_out HT HE O) (pf3) (pf4) (pf6) (pf7) (pf9) (pf10) (pf11) (pf12) (pf13) (pf14) (pf15) (pf16) (pf17) (pf18) (pf19) (pf20) (pf21) (pf22) (pf23) (pf24) (pf25) (pf26) (pf27) (pf28) (pf29) (pf30) (pf31) (pf32) (pf33) (pf34) (pf35) (pf36) (pf37) (pf38) (pf39) (pf40) (pf41) (pf42) (pf43) (pf44) (pf45) (pf46) (pf47) (pf48) (pf49) (pf50) (pf51) (pf52) (pf53) (pf54) (pf55) (pf56) (pf57) (pf58) (pf59) (pf60) (pf61) (pf62) (pf63) (pf64) (pf65) (pf66) (pf67) (pf68) (pf69) (pf70) (pf71) (pf72) (pf73) (pf74) (pf75) (pf76) (pf77) (pf78) (pf79) (pf80) (pf81) (pf82) (pf83) (pf84) (pf85) (pf86) (pf87) (pf88) (pf89) (pf90) (pf91) (pf92) (pf93) (pf94) (pf95) (pf96) (pf97) (pf98) (pf99) (pf100) (pf101) (pf102) (pf103) (pf104) (pf105) (pf106) (pf107) (pf108) (pf109) (pf110) (pf111) (pf112) (pf113) (pf114) (pf115) (pf116) (pf117) (pf118) (pf119) (pf120) (pf121) (pf122) (pf123) (pf124) (pf125) (pf126) (pf127) (pf128) (pf129) (pf130) (pf131) (pf132) (pf133) (pf134) (pf135) (pf136) (pf137) (pf138) (pf139) (pf140) (pf141) (pf142) (pf143) (pf144) (pf145) (pf146) (pf147) (pf148) (pf149) (pf150) (pf151) (pf152) (pf153) (pf154) (pf155) (pf156) (pf157) (pf158) (pf159) (pf160) (pf161) (pf162) (pf163) (pf164) (pf165) (pf166) (pf167) (pf168) (pf169) (pf170) (n3) (en3) (n4) (en4) (n7) (en7) (n9) (en9) (n12) (en12) (n13) (en13) (n14) (en14) (n15) (en15) (n16) (en16) (n17) (en17) (n19) (en19) (n21) (en21) (n23) (en23) (n24) (en24) (n25) (en25) (n26) (en26) (n27) (en27) (n28) (en28) (n30) (en30) (n31) (en31) (n33) (en33) (n34) (en34) (n35) (en35) (n36) (en36) (n37) (en37) (n38) (en38) (n39) (en39) (n40) (en40) (n41) (en41) (n42) (en42) (n44) (en44) (n45) (en45) (n47) (en47) (n48) (en48) (n49) (en49) (n50) (en50) (n51) (en51) (n52) (en52) (n53) (en53) (n54) (en54) (n56) (en56) (n57) (en57) (n58) (en58) (n59) (en59) (n60) (en60) (n61) (en61) (n62) (en62) (n63) (en63) (n65) (en65) (n67) (en67) (n69) (en69) (n70) (en70) (n71) (en71) (n72) (en72) (n73) (en73) (n74) (en74) (n75) (en75) (n76) (en76) (n78) (en78) (n79) (en79) (n80) (en80) (n81) (en81) (n82) (en82) (n83) (en83) (n84) (en84) (n85) (en85) (n87) (en87) (n89) (en89) (n91) (en91) (n92) (en92) (n93) (en93) (n94) (en94) (n95) (en95) (n96) (en96) (n97) (en97) (n98) (en98) (n100) (en100) (n101) (en101) (n102) (en102) (n103) (en103) (n104) (en104) (n105) (en105) (n106) (en106) (n107) (en107) (n109) (en109) (n110) (en110) (n111) (en111) (n112) (en112) (n113) (en113) (n114) (en114) (n115) (en115) (n116) (en116) (n118) (en118) (n119) (en119) (n120) (en120) (n121) (en121) (n122) (en122) (n123) (en123) (n124) (en124) (n125) (en125) (n127) (en127) (n128) (en128) (n129) (en129) (n130) (en130) (n131) (en131) (n132) (en132) (n133) (en133) (n134) (en134) (n136) (en136) (n137) (en137) (n138) (en138) (n139) (en139) (n140) (en140) (n141) (en141) (n142) (en142) (n143) (en143) (n145) (en145) (n146) (en146) (n147) (en147) (n148) (en148) (n149) (en149) (n150) (en150) (n151) (en151) (n152) (en152) (n154) (en154) (n155) (en155) (n156) (en156) (n157) (en157) (n158) (en158) (n159) (en159) (n160) (en160) (n161) (en161) (n163) (en163) (n164) (en164) (n165) (en165) (n166) (en166) (n167) (en167) (n168) (en168) (n169) (en169) (n170) (en170) (u2_1) ((eu2_1)) (u1_1) ((eu1_1)) (u6_1) ((eu6_1)) (u11_1) ((eu11_1)) (u18_1) ((eu18_1)) (u20_1) ((eu20_1)) (u22_1) ((eu22_1)) (u43_0) ((eu43_0)) (u55_1) ((eu55_1)) (u64_1) ((eu64_1)) (u66_1) ((eu66_1)) (u77_1) ((eu77_1)) (u86_1) ((eu86_1)) (u88_1) ((eu88_1)) (u90_0) ((eu90_0)) (u90_1) ((eu90_1)) (u99_1) ((eu99_1)) (u108_1) ((eu108_1)) (u117_0) ((eu117_0)) (u117_1) ((eu117_1)) (u126_1) ((eu126_1)) (u135_1) ((eu135_1)) (u144_0) ((eu144_0)) (u144_1) ((eu144_1)) (u153_1) ((eu153_1)) (u162_1) ((eu162_1)) (w9) (ew9) (w27) (ew27) (w44) (ew44) (w49) (ew49) (w71) (ew71) (w91) (ew91) (w92) (ew92) (w93) (ew93) (w94) (ew94) (w95) (ew95) (w96) (ew96) (w97) (ew97) (w118) (ew118) (w119) (ew119) (w120) (ew120) (w121) (ew121) (w122) (ew122) (w123) (ew123) (w124) (ew124) (w145) (ew145) (w146) (ew146) (w147) (ew147) (w148) (ew148) (w149) (ew149) (w150) (ew150) (w151) (ew151) (show 0 ≤ (u2_1) ∧ (u2_1) ≤ (n3) ∧ (n3) ≤ 65536 by have qh0 := HIDe r2; have qh1 := HIDe r26; omega) (show 0 ≤ (u1_1) ∧ (u1_1) ≤ (n4) ∧ (n4) ≤ 65536 by have qh0 := HIDe r1; have qh1 := HIDe r27; omega) (show 0 ≤ (u6_1) ∧ (u6_1) ≤ (n7) ∧ (n7) ≤ 65536 by have qh0 := HIDe r28; have qh1 := HIDe r3; omega) (show (u6_1) + (u1_1) ≤ 16384 by have qh0 := HIDe r1; have qh1 := HIDe r3; omega) (show 1 ≤ ((w9)) 1 ∧ ((w9)) 1 ≤ 8 by omega) (show 0 ≤ ((w9)) 8 ∧ ((w9)) 8 ≤ 11 by omega) (show 1 ≤ ((w9)) 2 ∧ ((w9)) 2 ≤ 65536 by omega) (show 0 ≤ (u11_1) ∧ (u11_1) ≤ (n12) ∧ (n12) ≤ 65536 by have qh0 := HIDe r30; have qh1 := HIDe r4; omega) (show (n13) = 0 ∨ (n13) = 2048 by have qh0 := HIDe r31; omega) (show (n14) ≤ 16384 by have qh0 := HIDe r32; omega) (show (n15) = (n16) ∧ (n17) = (n16) ∧ (n16) ≤ 65536 ∧ ((n16) = 0 ∨ 64 ≤ (n16)) ∧ lgq ((n16)) = 0 by have qh0 := HIDe r33; have qh1 := HIDe r34; have qh2 := HIDe r35; omega) (show 0 ≤ (u18_1) ∧ (u18_1) ≤ (n19) ∧ (n19) ≤ 65536 by have qh0 := HIDe r36; have qh1 := HIDe r5; omega) (show 0 ≤ (u20_1) ∧ (u20_1) ≤ (n21) ∧ (n21) ≤ 65536 by have qh0 := HIDe r37; have qh1 := HIDe r6; omega) (show 0 ≤ (u22_1) ∧ (u22_1) ≤ (n23) ∧ (n23) ≤ 65536 by have qh0 := HIDe r38; have qh1 := HIDe r7; omega) (show (n9) = 10 ∧ (n24) = 256 ∧ (n25) = 53 ∧ (n26) = 13 ∧ (n27) = 3 ∧ (n28) = 2 ∧ (n30) = 3 ∧ (n31) = 3 ∧ (n33) = 3 ∧ (n34) = 3 ∧ (n35) = 3 ∧ (n36) = 3 ∧ (n37) = 3 by have qh0 := HIDe r29; have qh1 := HIDe r39; have qh2 := HIDe r40; have qh3 := HIDe r41; have qh4 := HIDe r42; have qh5 := HIDe r43; have qh6 := HIDe r44; have qh7 := HIDe r45; have qh8 := HIDe r46; have qh9 := HIDe r47; have qh10 := HIDe r48; have qh11 := HIDe r49; have qh12 := HIDe r50; omega) (show (n38) = 3 ∧ (n39) = (n40) ∧ (n41) = (n40) ∧ (n42) = (n40) ∧ lgq ((n40)) = 0 ∧ (n40) ≤ 16384 by have qh0 := HIDe r51; have qh1 := HIDe r52; have qh2 := HIDe r53; have qh3 := HIDe r54; have qh4 := HIDe r55; omega) (show (n44) = 3 ∧ (n45) = 3 by have qh0 := HIDe r56; have qh1 := HIDe r57; omega) (by assumption) (by assumption) (show 0 ≤ (u64_1) ∧ (u64_1) ≤ (n65) ∧ (n65) ≤ 65536 by have qh0 := HIDe r74; have qh1 := HIDe r9; omega) (show 0 ≤ (u66_1) ∧ (u66_1) ≤ (n67) ∧ (n67) ≤ 65536 by have qh0 := HIDe r10; have qh1 := HIDe r75; omega) (show CEL ((w49)) by assumption) (by assumption) (by assumption) (show 0 ≤ (u86_1) ∧ (u86_1) ≤ (n87) ∧ (n87) ≤ 65536 by have qh0 := HIDe r12; have qh1 := HIDe r92; omega) (show 0 ≤ (u88_1) ∧ (u88_1) ≤ (n89) ∧ (n89) ≤ 65536 by have qh0 := HIDe r13; have qh1 := HIDe r93; omega) (show CEL ((w71)) by assumption) (by assumption) (by assumption) (by assumption) (by assumption) (by assumption) (by assumption) (by assumption) (by assumption) (by assumption) (by assumption) (by assumption) (by assumption) (show 0 ≤ ((w27)) 0 ∧ ((w27)) 0 ≤ 3 ∧ 0 ≤ ((w27)) 1 ∧ ((w27)) 1 ≤ 3 ∧ 0 ≤ ((w27)) 2 ∧ ((w27)) 2 ≤ 3 by omega) (show (u43_0) = -1 by omega) (show ((w44)) 0 = -1 by omega) (show ((w44)) 1 = -1 by omega) (show ((w44)) 2 = -1 by omega) (fun σ166 D166ₚ N166ₚ F166ₚ A166ₚ c166 s166 Hₚ Oₚ hD166 hN166 hS166 hA166 pm166_4 pm166_11 pm166_12 pm166_13 pm166_14 pm166_15 pm166_16 pm166_18 pm166_20 pm166_22 pm166_37 pm166_38 pm166_39 pm166_40 pm166_41 pm166_64 pm166_66 pm166_86 pm166_88 m166_4 em166_4 m166_11 em166_11 m166_12 em166_12 m166_13 em166_13 m166_14 em166_14 m166_15 em166_15 m166_16 em166_16 m166_18 em166_18 m166_20 em166_20 m166_22 em166_22 m166_37 em166_37 m166_38 em166_38 m166_39 em166_39 m166_40 em166_40 m166_41 em166_41 m166_64 em166_64 m166_66 em166_66 m166_86 em166_86 m166_88 em166_88 y166_1_1 ey166_1_1 y166_10_1 ey166_10_1 y166_17_1 ey166_17_1 y166_19_1 ey166_19_1 y166_21_1 ey166_21_1 y166_63_1 ey166_63_1 y166_65_1 ey166_65_1 y166_85_1 ey166_85_1 y166_87_1 ey166_87_1 w166_26 ew166_26 w166_48 ew166_48 w166_70 ew166_70 pz166_0 pz166_1 pz166_2 pz166_3 pz166_4 pz166_5 pz166_6 pz166_7 pz166_8 pz166_9 pz166_10 pz166_11 pz166_12 pz166_13 pz166_14 pz166_15 => ⟨rfl, ?_⟩))
  replace pm166_4 := HIDm pm166_4
  replace pm166_11 := HIDm pm166_11
  replace pm166_12 := HIDm pm166_12
  replace pm166_13 := HIDm pm166_13
  replace pm166_14 := HIDm pm166_14
  replace pm166_15 := HIDm pm166_15
  replace pm166_16 := HIDm pm166_16
  replace pm166_18 := HIDm pm166_18
  replace pm166_20 := HIDm pm166_20
  replace pm166_22 := HIDm pm166_22
  replace pm166_37 := HIDm pm166_37
  replace pm166_38 := HIDm pm166_38
  replace pm166_39 := HIDm pm166_39
  replace pm166_40 := HIDm pm166_40
  replace pm166_41 := HIDm pm166_41
  replace pm166_64 := HIDm pm166_64
  replace pm166_66 := HIDm pm166_66
  replace pm166_86 := HIDm pm166_86
  replace pm166_88 := HIDm pm166_88
  replace em166_4 := HIDm em166_4
  replace em166_11 := HIDm em166_11
  replace em166_12 := HIDm em166_12
  replace em166_13 := HIDm em166_13
  replace em166_14 := HIDm em166_14
  replace em166_15 := HIDm em166_15
  replace em166_16 := HIDm em166_16
  replace em166_18 := HIDm em166_18
  replace em166_20 := HIDm em166_20
  replace em166_22 := HIDm em166_22
  replace em166_37 := HIDm em166_37
  replace em166_38 := HIDm em166_38
  replace em166_39 := HIDm em166_39
  replace em166_40 := HIDm em166_40
  replace em166_41 := HIDm em166_41
  replace em166_64 := HIDm em166_64
  replace em166_66 := HIDm em166_66
  replace em166_86 := HIDm em166_86
  replace em166_88 := HIDm em166_88
  replace ey166_1_1 := HIDm ey166_1_1
  replace ey166_10_1 := HIDm ey166_10_1
  replace ey166_17_1 := HIDm ey166_17_1
  replace ey166_19_1 := HIDm ey166_19_1
  replace ey166_21_1 := HIDm ey166_21_1
  replace ey166_63_1 := HIDm ey166_63_1
  replace ey166_65_1 := HIDm ey166_65_1
  replace ey166_85_1 := HIDm ey166_85_1
  replace ey166_87_1 := HIDm ey166_87_1
  refine v_backM (c := c) (s := s) H (show vsub V17_vd4n V134_Row_Row_Dictionary_vn [8, 2, 1, 5, 3, 4, 6, 7, 9, 10, 11, 12, 13, 14, 15, 16, 17, 18, 19, 20, 21, 22, 23, 24, 25, 26, 27, 28, 29, 30, 31, 32, 33, 34, 35, 36, 37, 38, 39, 40, 41, 42, 43, 44, 45, 46, 47, 48, 49, 50, 51, 52, 53, 54, 55, 56, 57, 58, 59, 60, 61, 62, 63, 64, 65, 66, 67, 68, 69, 70, 71, 72, 73, 74, 75, 76, 77, 78, 79, 80, 81, 82, 83, 84, 85, 86, 87, 88, 89, 90, 91, 92, 93, 94, 95, 96, 97, 98, 99, 100, 101, 102, 103, 104, 105, 106, 107, 108, 109, 110, 111, 112, 113, 114, 115, 116, 117, 118, 119, 120, 121, 122, 123, 124, 125, 126, 127, 128, 129, 130, 131, 132, 133, 134, 135, 136, 137, 138, 139, 140, 141, 142, 143, 144, 145, 146, 147, 148, 149, 150, 151, 152, 153, 154, 155, 156, 157, 158, 159, 160, 161, 162, 163, 164, 165, 166, 167, 168, 169, 170] = true by decide +kernel) Hₚ Oₚ hD166 (show vmov V17_vd4n [8, 2, 1, 5, 3, 4, 6, 7, 9, 10, 11, 12, 13, 14, 15, 16, 17, 18, 19, 20, 21, 22, 23, 24, 25, 26, 27, 28, 29, 30, 31, 32, 33, 34, 35, 36, 37, 38, 39, 40, 41, 42, 43, 44, 45, 46, 47, 48, 49, 50, 51, 52, 53, 54, 55, 56, 57, 58, 59, 60, 61, 62, 63, 64, 65, 66, 67, 68, 69, 70, 71, 72, 73, 74, 75, 76, 77, 78, 79, 80, 81, 82, 83, 84, 85, 86, 87, 88, 89, 90, 91, 92, 93, 94, 95, 96, 97, 98, 99, 100, 101, 102, 103, 104, 105, 106, 107, 108, 109, 110, 111, 112, 113, 114, 115, 116, 117, 118, 119, 120, 121, 122, 123, 124, 125, 126, 127, 128, 129, 130, 131, 132, 133, 134, 135, 136, 137, 138, 139, 140, 141, 142, 143, 144, 145, 146, 147, 148, 149, 150, 151, 152, 153, 154, 155, 156, 157, 158, 159, 160, 161, 162, 163, 164, 165, 166, 167, 168, 169, 170] [4, 11, 12, 13, 14, 15, 16, 18, 20, 22, 37, 38, 39, 40, 41, 64, 66, 86, 88] = true by decide +kernel) (fun D166 N166 F166 A166 H Oₚ eD166 eN166 eF166 eA166 => ?_)
  have O := OUT_trans O Oₚ
  -- Packer.packFrame
  have pe166_28_0 : HID (A166 28 0 = (D166 46 : Int)) := (congrFun ((show A166 28 = A 28 from (eA166 28).trans (funext (hA166 27 rfl)))) 0).trans ((pf46).trans (congrArg (fun q : Nat => (q : Int)) ((show D166 46 = D 46 from (eD166 46).trans (hD166 45 rfl))).symm))
  have pe166_28_1 : HID (A166 28 1 = (D166 68 : Int)) := (congrFun ((show A166 28 = A 28 from (eA166 28).trans (funext (hA166 27 rfl)))) 1).trans ((pf68).trans (congrArg (fun q : Nat => (q : Int)) ((show D166 68 = D 68 from (eD166 68).trans (hD166 67 rfl))).symm))
  have pe166_35_0 : HID (A166 35 0 = (D166 90 : Int)) := (congrFun ((show A166 35 = A 35 from (eA166 35).trans (funext (hA166 34 rfl)))) 0).trans ((pf90).trans (congrArg (fun q : Nat => (q : Int)) ((show D166 90 = D 90 from (eD166 90).trans (hD166 89 rfl))).symm))
  have pe166_35_1 : HID (A166 35 1 = (D166 117 : Int)) := (congrFun ((show A166 35 = A 35 from (eA166 35).trans (funext (hA166 34 rfl)))) 1).trans ((pf117).trans (congrArg (fun q : Nat => (q : Int)) ((show D166 117 = D 117 from (eD166 117).trans (hD166 116 rfl))).symm))
  have pe166_35_2 : HID (A166 35 2 = (D166 144 : Int)) := (congrFun ((show A166 35 = A 35 from (eA166 35).trans (funext (hA166 34 rfl)))) 2).trans ((pf144).trans (congrArg (fun q : Nat => (q : Int)) ((show D166 144 = D 144 from (eD166 144).trans (hD166 143 rfl))).symm))
  have pe166_36_0 : HID (A166 36 0 = (D166 99 : Int)) := (congrFun ((show A166 36 = A 36 from (eA166 36).trans (funext (hA166 35 rfl)))) 0).trans ((pf99).trans (congrArg (fun q : Nat => (q : Int)) ((show D166 99 = D 99 from (eD166 99).trans (hD166 98 rfl))).symm))
  have pe166_36_1 : HID (A166 36 1 = (D166 126 : Int)) := (congrFun ((show A166 36 = A 36 from (eA166 36).trans (funext (hA166 35 rfl)))) 1).trans ((pf126).trans (congrArg (fun q : Nat => (q : Int)) ((show D166 126 = D 126 from (eD166 126).trans (hD166 125 rfl))).symm))
  have pe166_36_2 : HID (A166 36 2 = (D166 153 : Int)) := (congrFun ((show A166 36 = A 36 from (eA166 36).trans (funext (hA166 35 rfl)))) 2).trans ((pf153).trans (congrArg (fun q : Nat => (q : Int)) ((show D166 153 = D 153 from (eD166 153).trans (hD166 152 rfl))).symm))
  have pe166_37_0 : HID (A166 37 0 = (D166 108 : Int)) := (congrFun ((show A166 37 = A 37 from (eA166 37).trans (funext (hA166 36 rfl)))) 0).trans ((pf108).trans (congrArg (fun q : Nat => (q : Int)) ((show D166 108 = D 108 from (eD166 108).trans (hD166 107 rfl))).symm))
  have pe166_37_1 : HID (A166 37 1 = (D166 135 : Int)) := (congrFun ((show A166 37 = A 37 from (eA166 37).trans (funext (hA166 36 rfl)))) 1).trans ((pf135).trans (congrArg (fun q : Nat => (q : Int)) ((show D166 135 = D 135 from (eD166 135).trans (hD166 134 rfl))).symm))
  have pe166_37_2 : HID (A166 37 2 = (D166 162 : Int)) := (congrFun ((show A166 37 = A 37 from (eA166 37).trans (funext (hA166 36 rfl)))) 2).trans ((pf162).trans (congrArg (fun q : Nat => (q : Int)) ((show D166 162 = D 162 from (eD166 162).trans (hD166 161 rfl))).symm))
  have pe166_38_0 : HID (A166 38 0 = (D166 39 : Int)) := (congrFun (eA166 38) 0).trans (pm166_38.trans (congrArg (fun q : Nat => (q : Int)) (eD166 39).symm))
  have pe166_38_1 : HID (A166 38 1 = (D166 41 : Int)) := (congrFun (eA166 38) 1).trans (pm166_40.trans (congrArg (fun q : Nat => (q : Int)) (eD166 41).symm))
  have pe166_38_2 : HID (A166 38 2 = (D166 42 : Int)) := (congrFun (eA166 38) 2).trans (pm166_41.trans (congrArg (fun q : Nat => (q : Int)) (eD166 42).symm))
  have pf166_0_11 : HID (F166 0 11 = (D166 8 : Int)) := ((show F166 0 11 = F 0 11 from (eF166 0 11))).trans ((pf8).trans (congrArg (fun q : Nat => (q : Int)) ((show D166 8 = D 8 from (eD166 8).trans (hD166 0 rfl))).symm))
  have pf166_0_15 : HID (F166 0 15 = (D166 171 : Int)) := ((show F166 0 15 = F 0 15 from (eF166 0 15))).trans ((pf171).trans (congrArg (fun q : Nat => (q : Int)) ((show D166 171 = D 171 from (eD166 171))).symm))
  have pf166_0_3 : HID (F166 0 3 = (D166 5 : Int)) := ((show F166 0 3 = F 0 3 from (eF166 0 3))).trans ((pf5).trans (congrArg (fun q : Nat => (q : Int)) ((show D166 5 = D 5 from (eD166 5).trans (hD166 3 rfl))).symm))
  have pf166_0_5 : HID (F166 0 5 = (D166 2 : Int)) := ((show F166 0 5 = F 0 5 from (eF166 0 5))).trans ((pf2).trans (congrArg (fun q : Nat => (q : Int)) ((show D166 2 = D 2 from (eD166 2).trans (hD166 1 rfl))).symm))
  have pf166_1_0 : HID (F166 1 0 = (D166 4 : Int)) := ((show F166 1 0 = F 1 0 from (eF166 1 0).trans (hS166 2 0 rfl))).trans ((pf4).trans (congrArg (fun q : Nat => (q : Int)) ((show D166 4 = D 4 from (eD166 4).trans (hD166 5 rfl))).symm))
  have pf166_10_0 : HID (F166 10 0 = (D166 11 : Int)) := ((show F166 10 0 = F 10 0 from (eF166 10 0).trans (hS166 9 0 rfl))).trans ((pf11).trans (congrArg (fun q : Nat => (q : Int)) ((show D166 11 = D 11 from (eD166 11).trans (hD166 10 rfl))).symm))
  have pf166_10_1 : HID (F166 10 1 = (D166 15 : Int)) := (eF166 10 1).trans (pm166_14.trans (congrArg (fun q : Nat => (q : Int)) (eD166 15).symm))
  have pf166_10_2 : HID (F166 10 2 = (D166 16 : Int)) := (eF166 10 2).trans (pm166_15.trans (congrArg (fun q : Nat => (q : Int)) (eD166 16).symm))
  have pf166_10_3 : HID (F166 10 3 = (D166 17 : Int)) := (eF166 10 3).trans (pm166_16.trans (congrArg (fun q : Nat => (q : Int)) (eD166 17).symm))
  have pf166_10_7 : HID (F166 10 7 = (D166 13 : Int)) := (eF166 10 7).trans (pm166_12.trans (congrArg (fun q : Nat => (q : Int)) (eD166 13).symm))
  have pf166_10_8 : HID (F166 10 8 = (D166 14 : Int)) := (eF166 10 8).trans (pm166_13.trans (congrArg (fun q : Nat => (q : Int)) (eD166 14).symm))
  have pf166_108_2 : HID (F166 108 2 = (D166 109 : Int)) := ((show F166 108 2 = F 108 2 from (eF166 108 2).trans (hS166 107 2 rfl))).trans ((pf109).trans (congrArg (fun q : Nat => (q : Int)) ((show D166 109 = D 109 from (eD166 109).trans (hD166 108 rfl))).symm))
  have pf166_108_3 : HID (F166 108 3 = (D166 110 : Int)) := ((show F166 108 3 = F 108 3 from (eF166 108 3).trans (hS166 107 3 rfl))).trans ((pf110).trans (congrArg (fun q : Nat => (q : Int)) ((show D166 110 = D 110 from (eD166 110).trans (hD166 109 rfl))).symm))
  have pf166_108_4 : HID (F166 108 4 = (D166 111 : Int)) := ((show F166 108 4 = F 108 4 from (eF166 108 4).trans (hS166 107 4 rfl))).trans ((pf111).trans (congrArg (fun q : Nat => (q : Int)) ((show D166 111 = D 111 from (eD166 111).trans (hD166 110 rfl))).symm))
  have pf166_108_5 : HID (F166 108 5 = (D166 112 : Int)) := ((show F166 108 5 = F 108 5 from (eF166 108 5).trans (hS166 107 5 rfl))).trans ((pf112).trans (congrArg (fun q : Nat => (q : Int)) ((show D166 112 = D 112 from (eD166 112).trans (hD166 111 rfl))).symm))
  have pf166_108_6 : HID (F166 108 6 = (D166 113 : Int)) := ((show F166 108 6 = F 108 6 from (eF166 108 6).trans (hS166 107 6 rfl))).trans ((pf113).trans (congrArg (fun q : Nat => (q : Int)) ((show D166 113 = D 113 from (eD166 113).trans (hD166 112 rfl))).symm))
  have pf166_108_7 : HID (F166 108 7 = (D166 114 : Int)) := ((show F166 108 7 = F 108 7 from (eF166 108 7).trans (hS166 107 7 rfl))).trans ((pf114).trans (congrArg (fun q : Nat => (q : Int)) ((show D166 114 = D 114 from (eD166 114).trans (hD166 113 rfl))).symm))
  have pf166_108_8 : HID (F166 108 8 = (D166 115 : Int)) := ((show F166 108 8 = F 108 8 from (eF166 108 8).trans (hS166 107 8 rfl))).trans ((pf115).trans (congrArg (fun q : Nat => (q : Int)) ((show D166 115 = D 115 from (eD166 115).trans (hD166 114 rfl))).symm))
  have pf166_108_9 : HID (F166 108 9 = (D166 116 : Int)) := ((show F166 108 9 = F 108 9 from (eF166 108 9).trans (hS166 107 9 rfl))).trans ((pf116).trans (congrArg (fun q : Nat => (q : Int)) ((show D166 116 = D 116 from (eD166 116).trans (hD166 115 rfl))).symm))
  have pf166_11_0 : HID (F166 11 0 = (D166 12 : Int)) := (eF166 11 0).trans (pm166_11.trans (congrArg (fun q : Nat => (q : Int)) (eD166 12).symm))
  have pf166_117_2 : HID (F166 117 2 = (D166 118 : Int)) := ((show F166 117 2 = F 117 2 from (eF166 117 2).trans (hS166 116 2 rfl))).trans ((pf118).trans (congrArg (fun q : Nat => (q : Int)) ((show D166 118 = D 118 from (eD166 118).trans (hD166 117 rfl))).symm))
  have pf166_117_3 : HID (F166 117 3 = (D166 119 : Int)) := ((show F166 117 3 = F 117 3 from (eF166 117 3).trans (hS166 116 3 rfl))).trans ((pf119).trans (congrArg (fun q : Nat => (q : Int)) ((show D166 119 = D 119 from (eD166 119).trans (hD166 118 rfl))).symm))
  have pf166_117_4 : HID (F166 117 4 = (D166 120 : Int)) := ((show F166 117 4 = F 117 4 from (eF166 117 4).trans (hS166 116 4 rfl))).trans ((pf120).trans (congrArg (fun q : Nat => (q : Int)) ((show D166 120 = D 120 from (eD166 120).trans (hD166 119 rfl))).symm))
  have pf166_117_5 : HID (F166 117 5 = (D166 121 : Int)) := ((show F166 117 5 = F 117 5 from (eF166 117 5).trans (hS166 116 5 rfl))).trans ((pf121).trans (congrArg (fun q : Nat => (q : Int)) ((show D166 121 = D 121 from (eD166 121).trans (hD166 120 rfl))).symm))
  have pf166_117_6 : HID (F166 117 6 = (D166 125 : Int)) := ((show F166 117 6 = F 117 6 from (eF166 117 6).trans (hS166 116 6 rfl))).trans ((pf125).trans (congrArg (fun q : Nat => (q : Int)) ((show D166 125 = D 125 from (eD166 125).trans (hD166 124 rfl))).symm))
  have pf166_117_7 : HID (F166 117 7 = (D166 122 : Int)) := ((show F166 117 7 = F 117 7 from (eF166 117 7).trans (hS166 116 7 rfl))).trans ((pf122).trans (congrArg (fun q : Nat => (q : Int)) ((show D166 122 = D 122 from (eD166 122).trans (hD166 121 rfl))).symm))
  have pf166_117_8 : HID (F166 117 8 = (D166 123 : Int)) := ((show F166 117 8 = F 117 8 from (eF166 117 8).trans (hS166 116 8 rfl))).trans ((pf123).trans (congrArg (fun q : Nat => (q : Int)) ((show D166 123 = D 123 from (eD166 123).trans (hD166 122 rfl))).symm))
  have pf166_117_9 : HID (F166 117 9 = (D166 124 : Int)) := ((show F166 117 9 = F 117 9 from (eF166 117 9).trans (hS166 116 9 rfl))).trans ((pf124).trans (congrArg (fun q : Nat => (q : Int)) ((show D166 124 = D 124 from (eD166 124).trans (hD166 123 rfl))).symm))
  have pf166_126_2 : HID (F166 126 2 = (D166 127 : Int)) := ((show F166 126 2 = F 126 2 from (eF166 126 2).trans (hS166 125 2 rfl))).trans ((pf127).trans (congrArg (fun q : Nat => (q : Int)) ((show D166 127 = D 127 from (eD166 127).trans (hD166 126 rfl))).symm))
  have pf166_126_3 : HID (F166 126 3 = (D166 128 : Int)) := ((show F166 126 3 = F 126 3 from (eF166 126 3).trans (hS166 125 3 rfl))).trans ((pf128).trans (congrArg (fun q : Nat => (q : Int)) ((show D166 128 = D 128 from (eD166 128).trans (hD166 127 rfl))).symm))
  have pf166_126_4 : HID (F166 126 4 = (D166 129 : Int)) := ((show F166 126 4 = F 126 4 from (eF166 126 4).trans (hS166 125 4 rfl))).trans ((pf129).trans (congrArg (fun q : Nat => (q : Int)) ((show D166 129 = D 129 from (eD166 129).trans (hD166 128 rfl))).symm))
  have pf166_126_5 : HID (F166 126 5 = (D166 130 : Int)) := ((show F166 126 5 = F 126 5 from (eF166 126 5).trans (hS166 125 5 rfl))).trans ((pf130).trans (congrArg (fun q : Nat => (q : Int)) ((show D166 130 = D 130 from (eD166 130).trans (hD166 129 rfl))).symm))
  have pf166_126_6 : HID (F166 126 6 = (D166 131 : Int)) := ((show F166 126 6 = F 126 6 from (eF166 126 6).trans (hS166 125 6 rfl))).trans ((pf131).trans (congrArg (fun q : Nat => (q : Int)) ((show D166 131 = D 131 from (eD166 131).trans (hD166 130 rfl))).symm))
  have pf166_126_7 : HID (F166 126 7 = (D166 132 : Int)) := ((show F166 126 7 = F 126 7 from (eF166 126 7).trans (hS166 125 7 rfl))).trans ((pf132).trans (congrArg (fun q : Nat => (q : Int)) ((show D166 132 = D 132 from (eD166 132).trans (hD166 131 rfl))).symm))
  have pf166_126_8 : HID (F166 126 8 = (D166 133 : Int)) := ((show F166 126 8 = F 126 8 from (eF166 126 8).trans (hS166 125 8 rfl))).trans ((pf133).trans (congrArg (fun q : Nat => (q : Int)) ((show D166 133 = D 133 from (eD166 133).trans (hD166 132 rfl))).symm))
  have pf166_126_9 : HID (F166 126 9 = (D166 134 : Int)) := ((show F166 126 9 = F 126 9 from (eF166 126 9).trans (hS166 125 9 rfl))).trans ((pf134).trans (congrArg (fun q : Nat => (q : Int)) ((show D166 134 = D 134 from (eD166 134).trans (hD166 133 rfl))).symm))
  have pf166_135_2 : HID (F166 135 2 = (D166 136 : Int)) := ((show F166 135 2 = F 135 2 from (eF166 135 2).trans (hS166 134 2 rfl))).trans ((pf136).trans (congrArg (fun q : Nat => (q : Int)) ((show D166 136 = D 136 from (eD166 136).trans (hD166 135 rfl))).symm))
  have pf166_135_3 : HID (F166 135 3 = (D166 137 : Int)) := ((show F166 135 3 = F 135 3 from (eF166 135 3).trans (hS166 134 3 rfl))).trans ((pf137).trans (congrArg (fun q : Nat => (q : Int)) ((show D166 137 = D 137 from (eD166 137).trans (hD166 136 rfl))).symm))
  have pf166_135_4 : HID (F166 135 4 = (D166 138 : Int)) := ((show F166 135 4 = F 135 4 from (eF166 135 4).trans (hS166 134 4 rfl))).trans ((pf138).trans (congrArg (fun q : Nat => (q : Int)) ((show D166 138 = D 138 from (eD166 138).trans (hD166 137 rfl))).symm))
  have pf166_135_5 : HID (F166 135 5 = (D166 139 : Int)) := ((show F166 135 5 = F 135 5 from (eF166 135 5).trans (hS166 134 5 rfl))).trans ((pf139).trans (congrArg (fun q : Nat => (q : Int)) ((show D166 139 = D 139 from (eD166 139).trans (hD166 138 rfl))).symm))
  have pf166_135_6 : HID (F166 135 6 = (D166 140 : Int)) := ((show F166 135 6 = F 135 6 from (eF166 135 6).trans (hS166 134 6 rfl))).trans ((pf140).trans (congrArg (fun q : Nat => (q : Int)) ((show D166 140 = D 140 from (eD166 140).trans (hD166 139 rfl))).symm))
  have pf166_135_7 : HID (F166 135 7 = (D166 141 : Int)) := ((show F166 135 7 = F 135 7 from (eF166 135 7).trans (hS166 134 7 rfl))).trans ((pf141).trans (congrArg (fun q : Nat => (q : Int)) ((show D166 141 = D 141 from (eD166 141).trans (hD166 140 rfl))).symm))
  have pf166_135_8 : HID (F166 135 8 = (D166 142 : Int)) := ((show F166 135 8 = F 135 8 from (eF166 135 8).trans (hS166 134 8 rfl))).trans ((pf142).trans (congrArg (fun q : Nat => (q : Int)) ((show D166 142 = D 142 from (eD166 142).trans (hD166 141 rfl))).symm))
  have pf166_135_9 : HID (F166 135 9 = (D166 143 : Int)) := ((show F166 135 9 = F 135 9 from (eF166 135 9).trans (hS166 134 9 rfl))).trans ((pf143).trans (congrArg (fun q : Nat => (q : Int)) ((show D166 143 = D 143 from (eD166 143).trans (hD166 142 rfl))).symm))
  have pf166_144_2 : HID (F166 144 2 = (D166 145 : Int)) := ((show F166 144 2 = F 144 2 from (eF166 144 2).trans (hS166 143 2 rfl))).trans ((pf145).trans (congrArg (fun q : Nat => (q : Int)) ((show D166 145 = D 145 from (eD166 145).trans (hD166 144 rfl))).symm))
  have pf166_144_3 : HID (F166 144 3 = (D166 146 : Int)) := ((show F166 144 3 = F 144 3 from (eF166 144 3).trans (hS166 143 3 rfl))).trans ((pf146).trans (congrArg (fun q : Nat => (q : Int)) ((show D166 146 = D 146 from (eD166 146).trans (hD166 145 rfl))).symm))
  have pf166_144_4 : HID (F166 144 4 = (D166 147 : Int)) := ((show F166 144 4 = F 144 4 from (eF166 144 4).trans (hS166 143 4 rfl))).trans ((pf147).trans (congrArg (fun q : Nat => (q : Int)) ((show D166 147 = D 147 from (eD166 147).trans (hD166 146 rfl))).symm))
  have pf166_144_5 : HID (F166 144 5 = (D166 148 : Int)) := ((show F166 144 5 = F 144 5 from (eF166 144 5).trans (hS166 143 5 rfl))).trans ((pf148).trans (congrArg (fun q : Nat => (q : Int)) ((show D166 148 = D 148 from (eD166 148).trans (hD166 147 rfl))).symm))
  have pf166_144_6 : HID (F166 144 6 = (D166 152 : Int)) := ((show F166 144 6 = F 144 6 from (eF166 144 6).trans (hS166 143 6 rfl))).trans ((pf152).trans (congrArg (fun q : Nat => (q : Int)) ((show D166 152 = D 152 from (eD166 152).trans (hD166 151 rfl))).symm))
  have pf166_144_7 : HID (F166 144 7 = (D166 149 : Int)) := ((show F166 144 7 = F 144 7 from (eF166 144 7).trans (hS166 143 7 rfl))).trans ((pf149).trans (congrArg (fun q : Nat => (q : Int)) ((show D166 149 = D 149 from (eD166 149).trans (hD166 148 rfl))).symm))
  have pf166_144_8 : HID (F166 144 8 = (D166 150 : Int)) := ((show F166 144 8 = F 144 8 from (eF166 144 8).trans (hS166 143 8 rfl))).trans ((pf150).trans (congrArg (fun q : Nat => (q : Int)) ((show D166 150 = D 150 from (eD166 150).trans (hD166 149 rfl))).symm))
  have pf166_144_9 : HID (F166 144 9 = (D166 151 : Int)) := ((show F166 144 9 = F 144 9 from (eF166 144 9).trans (hS166 143 9 rfl))).trans ((pf151).trans (congrArg (fun q : Nat => (q : Int)) ((show D166 151 = D 151 from (eD166 151).trans (hD166 150 rfl))).symm))
  have pf166_153_2 : HID (F166 153 2 = (D166 154 : Int)) := ((show F166 153 2 = F 153 2 from (eF166 153 2).trans (hS166 152 2 rfl))).trans ((pf154).trans (congrArg (fun q : Nat => (q : Int)) ((show D166 154 = D 154 from (eD166 154).trans (hD166 153 rfl))).symm))
  have pf166_153_3 : HID (F166 153 3 = (D166 155 : Int)) := ((show F166 153 3 = F 153 3 from (eF166 153 3).trans (hS166 152 3 rfl))).trans ((pf155).trans (congrArg (fun q : Nat => (q : Int)) ((show D166 155 = D 155 from (eD166 155).trans (hD166 154 rfl))).symm))
  have pf166_153_4 : HID (F166 153 4 = (D166 156 : Int)) := ((show F166 153 4 = F 153 4 from (eF166 153 4).trans (hS166 152 4 rfl))).trans ((pf156).trans (congrArg (fun q : Nat => (q : Int)) ((show D166 156 = D 156 from (eD166 156).trans (hD166 155 rfl))).symm))
  have pf166_153_5 : HID (F166 153 5 = (D166 157 : Int)) := ((show F166 153 5 = F 153 5 from (eF166 153 5).trans (hS166 152 5 rfl))).trans ((pf157).trans (congrArg (fun q : Nat => (q : Int)) ((show D166 157 = D 157 from (eD166 157).trans (hD166 156 rfl))).symm))
  have pf166_153_6 : HID (F166 153 6 = (D166 158 : Int)) := ((show F166 153 6 = F 153 6 from (eF166 153 6).trans (hS166 152 6 rfl))).trans ((pf158).trans (congrArg (fun q : Nat => (q : Int)) ((show D166 158 = D 158 from (eD166 158).trans (hD166 157 rfl))).symm))
  have pf166_153_7 : HID (F166 153 7 = (D166 159 : Int)) := ((show F166 153 7 = F 153 7 from (eF166 153 7).trans (hS166 152 7 rfl))).trans ((pf159).trans (congrArg (fun q : Nat => (q : Int)) ((show D166 159 = D 159 from (eD166 159).trans (hD166 158 rfl))).symm))
  have pf166_153_8 : HID (F166 153 8 = (D166 160 : Int)) := ((show F166 153 8 = F 153 8 from (eF166 153 8).trans (hS166 152 8 rfl))).trans ((pf160).trans (congrArg (fun q : Nat => (q : Int)) ((show D166 160 = D 160 from (eD166 160).trans (hD166 159 rfl))).symm))
  have pf166_153_9 : HID (F166 153 9 = (D166 161 : Int)) := ((show F166 153 9 = F 153 9 from (eF166 153 9).trans (hS166 152 9 rfl))).trans ((pf161).trans (congrArg (fun q : Nat => (q : Int)) ((show D166 161 = D 161 from (eD166 161).trans (hD166 160 rfl))).symm))
  have pf166_162_2 : HID (F166 162 2 = (D166 163 : Int)) := ((show F166 162 2 = F 162 2 from (eF166 162 2).trans (hS166 161 2 rfl))).trans ((pf163).trans (congrArg (fun q : Nat => (q : Int)) ((show D166 163 = D 163 from (eD166 163).trans (hD166 162 rfl))).symm))
  have pf166_162_3 : HID (F166 162 3 = (D166 164 : Int)) := ((show F166 162 3 = F 162 3 from (eF166 162 3).trans (hS166 161 3 rfl))).trans ((pf164).trans (congrArg (fun q : Nat => (q : Int)) ((show D166 164 = D 164 from (eD166 164).trans (hD166 163 rfl))).symm))
  have pf166_162_4 : HID (F166 162 4 = (D166 165 : Int)) := ((show F166 162 4 = F 162 4 from (eF166 162 4).trans (hS166 161 4 rfl))).trans ((pf165).trans (congrArg (fun q : Nat => (q : Int)) ((show D166 165 = D 165 from (eD166 165).trans (hD166 164 rfl))).symm))
  have pf166_162_5 : HID (F166 162 5 = (D166 166 : Int)) := ((show F166 162 5 = F 162 5 from (eF166 162 5).trans (hS166 161 5 rfl))).trans ((pf166).trans (congrArg (fun q : Nat => (q : Int)) ((show D166 166 = D 166 from (eD166 166).trans (hD166 165 rfl))).symm))
  have pf166_162_6 : HID (F166 162 6 = (D166 167 : Int)) := ((show F166 162 6 = F 162 6 from (eF166 162 6).trans (hS166 161 6 rfl))).trans ((pf167).trans (congrArg (fun q : Nat => (q : Int)) ((show D166 167 = D 167 from (eD166 167).trans (hD166 166 rfl))).symm))
  have pf166_162_7 : HID (F166 162 7 = (D166 168 : Int)) := ((show F166 162 7 = F 162 7 from (eF166 162 7).trans (hS166 161 7 rfl))).trans ((pf168).trans (congrArg (fun q : Nat => (q : Int)) ((show D166 168 = D 168 from (eD166 168).trans (hD166 167 rfl))).symm))
  have pf166_162_8 : HID (F166 162 8 = (D166 169 : Int)) := ((show F166 162 8 = F 162 8 from (eF166 162 8).trans (hS166 161 8 rfl))).trans ((pf169).trans (congrArg (fun q : Nat => (q : Int)) ((show D166 169 = D 169 from (eD166 169).trans (hD166 168 rfl))).symm))
  have pf166_162_9 : HID (F166 162 9 = (D166 170 : Int)) := ((show F166 162 9 = F 162 9 from (eF166 162 9).trans (hS166 161 9 rfl))).trans ((pf170).trans (congrArg (fun q : Nat => (q : Int)) ((show D166 170 = D 170 from (eD166 170).trans (hD166 169 rfl))).symm))
  have pf166_18_0 : HID (F166 18 0 = (D166 19 : Int)) := (eF166 18 0).trans (pm166_18.trans (congrArg (fun q : Nat => (q : Int)) (eD166 19).symm))
  have pf166_2_0 : HID (F166 2 0 = (D166 3 : Int)) := (eF166 2 0).trans (pm166_4.trans (congrArg (fun q : Nat => (q : Int)) (eD166 3).symm))
  have pf166_20_0 : HID (F166 20 0 = (D166 21 : Int)) := (eF166 20 0).trans (pm166_20.trans (congrArg (fun q : Nat => (q : Int)) (eD166 21).symm))
  have pf166_22_0 : HID (F166 22 0 = (D166 23 : Int)) := (eF166 22 0).trans (pm166_22.trans (congrArg (fun q : Nat => (q : Int)) (eD166 23).symm))
  have pf166_29_1 : HID (F166 29 1 = (D166 30 : Int)) := ((show F166 29 1 = F 29 1 from (eF166 29 1).trans (hS166 28 1 rfl))).trans ((pf30).trans (congrArg (fun q : Nat => (q : Int)) ((show D166 30 = D 30 from (eD166 30).trans (hD166 29 rfl))).symm))
  have pf166_29_2 : HID (F166 29 2 = (D166 31 : Int)) := ((show F166 29 2 = F 29 2 from (eF166 29 2).trans (hS166 28 2 rfl))).trans ((pf31).trans (congrArg (fun q : Nat => (q : Int)) ((show D166 31 = D 31 from (eD166 31).trans (hD166 30 rfl))).symm))
  have pf166_32_1 : HID (F166 32 1 = (D166 33 : Int)) := ((show F166 32 1 = F 32 1 from (eF166 32 1).trans (hS166 31 1 rfl))).trans ((pf33).trans (congrArg (fun q : Nat => (q : Int)) ((show D166 33 = D 33 from (eD166 33).trans (hD166 32 rfl))).symm))
  have pf166_32_2 : HID (F166 32 2 = (D166 34 : Int)) := ((show F166 32 2 = F 32 2 from (eF166 32 2).trans (hS166 31 2 rfl))).trans ((pf34).trans (congrArg (fun q : Nat => (q : Int)) ((show D166 34 = D 34 from (eD166 34).trans (hD166 33 rfl))).symm))
  have pf166_43_1 : HID (F166 43 1 = (D166 44 : Int)) := ((show F166 43 1 = F 43 1 from (eF166 43 1).trans (hS166 42 1 rfl))).trans ((pf44).trans (congrArg (fun q : Nat => (q : Int)) ((show D166 44 = D 44 from (eD166 44).trans (hD166 43 rfl))).symm))
  have pf166_43_2 : HID (F166 43 2 = (D166 45 : Int)) := ((show F166 43 2 = F 43 2 from (eF166 43 2).trans (hS166 42 2 rfl))).trans ((pf45).trans (congrArg (fun q : Nat => (q : Int)) ((show D166 45 = D 45 from (eD166 45).trans (hD166 44 rfl))).symm))
  have pf166_46_0 : HID (F166 46 0 = (D166 47 : Int)) := ((show F166 46 0 = F 46 0 from (eF166 46 0).trans (hS166 45 0 rfl))).trans ((pf47).trans (congrArg (fun q : Nat => (q : Int)) ((show D166 47 = D 47 from (eD166 47).trans (hD166 46 rfl))).symm))
  have pf166_46_1 : HID (F166 46 1 = (D166 48 : Int)) := ((show F166 46 1 = F 46 1 from (eF166 46 1).trans (hS166 45 1 rfl))).trans ((pf48).trans (congrArg (fun q : Nat => (q : Int)) ((show D166 48 = D 48 from (eD166 48).trans (hD166 47 rfl))).symm))
  have pf166_46_10 : HID (F166 46 10 = (D166 52 : Int)) := ((show F166 46 10 = F 46 10 from (eF166 46 10).trans (hS166 45 10 rfl))).trans ((pf52).trans (congrArg (fun q : Nat => (q : Int)) ((show D166 52 = D 52 from (eD166 52).trans (hD166 51 rfl))).symm))
  have pf166_46_11 : HID (F166 46 11 = (D166 53 : Int)) := ((show F166 46 11 = F 46 11 from (eF166 46 11).trans (hS166 45 11 rfl))).trans ((pf53).trans (congrArg (fun q : Nat => (q : Int)) ((show D166 53 = D 53 from (eD166 53).trans (hD166 52 rfl))).symm))
  have pf166_46_12 : HID (F166 46 12 = (D166 54 : Int)) := ((show F166 46 12 = F 46 12 from (eF166 46 12).trans (hS166 45 12 rfl))).trans ((pf54).trans (congrArg (fun q : Nat => (q : Int)) ((show D166 54 = D 54 from (eD166 54).trans (hD166 53 rfl))).symm))
  have pf166_46_2 : HID (F166 46 2 = (D166 49 : Int)) := ((show F166 46 2 = F 46 2 from (eF166 46 2).trans (hS166 45 2 rfl))).trans ((pf49).trans (congrArg (fun q : Nat => (q : Int)) ((show D166 49 = D 49 from (eD166 49).trans (hD166 48 rfl))).symm))
  have pf166_46_4 : HID (F166 46 4 = (D166 50 : Int)) := ((show F166 46 4 = F 46 4 from (eF166 46 4).trans (hS166 45 4 rfl))).trans ((pf50).trans (congrArg (fun q : Nat => (q : Int)) ((show D166 50 = D 50 from (eD166 50).trans (hD166 49 rfl))).symm))
  have pf166_46_5 : HID (F166 46 5 = (D166 51 : Int)) := ((show F166 46 5 = F 46 5 from (eF166 46 5).trans (hS166 45 5 rfl))).trans ((pf51).trans (congrArg (fun q : Nat => (q : Int)) ((show D166 51 = D 51 from (eD166 51).trans (hD166 50 rfl))).symm))
  have pf166_46_6 : HID (F166 46 6 = (D166 55 : Int)) := ((show F166 46 6 = F 46 6 from (eF166 46 6).trans (hS166 45 6 rfl))).trans ((pf55).trans (congrArg (fun q : Nat => (q : Int)) ((show D166 55 = D 55 from (eD166 55).trans (hD166 54 rfl))).symm))
  have pf166_46_7 : HID (F166 46 7 = (D166 64 : Int)) := ((show F166 46 7 = F 46 7 from (eF166 46 7).trans (hS166 45 7 rfl))).trans ((pf64).trans (congrArg (fun q : Nat => (q : Int)) ((show D166 64 = D 64 from (eD166 64).trans (hD166 63 rfl))).symm))
  have pf166_46_8 : HID (F166 46 8 = (D166 66 : Int)) := ((show F166 46 8 = F 46 8 from (eF166 46 8).trans (hS166 45 8 rfl))).trans ((pf66).trans (congrArg (fun q : Nat => (q : Int)) ((show D166 66 = D 66 from (eD166 66).trans (hD166 65 rfl))).symm))
  have pf166_5_0 : HID (F166 5 0 = (D166 6 : Int)) := ((show F166 5 0 = F 5 0 from (eF166 5 0).trans (hS166 3 0 rfl))).trans ((pf6).trans (congrArg (fun q : Nat => (q : Int)) ((show D166 6 = D 6 from (eD166 6).trans (hD166 6 rfl))).symm))
  have pf166_5_1 : HID (F166 5 1 = (D166 43 : Int)) := ((show F166 5 1 = F 5 1 from (eF166 5 1).trans (hS166 3 1 rfl))).trans ((pf43).trans (congrArg (fun q : Nat => (q : Int)) ((show D166 43 = D 43 from (eD166 43).trans (hD166 42 rfl))).symm))
  have pf166_55_2 : HID (F166 55 2 = (D166 56 : Int)) := ((show F166 55 2 = F 55 2 from (eF166 55 2).trans (hS166 54 2 rfl))).trans ((pf56).trans (congrArg (fun q : Nat => (q : Int)) ((show D166 56 = D 56 from (eD166 56).trans (hD166 55 rfl))).symm))
  have pf166_55_3 : HID (F166 55 3 = (D166 57 : Int)) := ((show F166 55 3 = F 55 3 from (eF166 55 3).trans (hS166 54 3 rfl))).trans ((pf57).trans (congrArg (fun q : Nat => (q : Int)) ((show D166 57 = D 57 from (eD166 57).trans (hD166 56 rfl))).symm))
  have pf166_55_4 : HID (F166 55 4 = (D166 58 : Int)) := ((show F166 55 4 = F 55 4 from (eF166 55 4).trans (hS166 54 4 rfl))).trans ((pf58).trans (congrArg (fun q : Nat => (q : Int)) ((show D166 58 = D 58 from (eD166 58).trans (hD166 57 rfl))).symm))
  have pf166_55_5 : HID (F166 55 5 = (D166 59 : Int)) := ((show F166 55 5 = F 55 5 from (eF166 55 5).trans (hS166 54 5 rfl))).trans ((pf59).trans (congrArg (fun q : Nat => (q : Int)) ((show D166 59 = D 59 from (eD166 59).trans (hD166 58 rfl))).symm))
  have pf166_55_6 : HID (F166 55 6 = (D166 60 : Int)) := ((show F166 55 6 = F 55 6 from (eF166 55 6).trans (hS166 54 6 rfl))).trans ((pf60).trans (congrArg (fun q : Nat => (q : Int)) ((show D166 60 = D 60 from (eD166 60).trans (hD166 59 rfl))).symm))
  have pf166_55_7 : HID (F166 55 7 = (D166 61 : Int)) := ((show F166 55 7 = F 55 7 from (eF166 55 7).trans (hS166 54 7 rfl))).trans ((pf61).trans (congrArg (fun q : Nat => (q : Int)) ((show D166 61 = D 61 from (eD166 61).trans (hD166 60 rfl))).symm))
  have pf166_55_8 : HID (F166 55 8 = (D166 62 : Int)) := ((show F166 55 8 = F 55 8 from (eF166 55 8).trans (hS166 54 8 rfl))).trans ((pf62).trans (congrArg (fun q : Nat => (q : Int)) ((show D166 62 = D 62 from (eD166 62).trans (hD166 61 rfl))).symm))
  have pf166_55_9 : HID (F166 55 9 = (D166 63 : Int)) := ((show F166 55 9 = F 55 9 from (eF166 55 9).trans (hS166 54 9 rfl))).trans ((pf63).trans (congrArg (fun q : Nat => (q : Int)) ((show D166 63 = D 63 from (eD166 63).trans (hD166 62 rfl))).symm))
  have pf166_6_0 : HID (F166 6 0 = (D166 7 : Int)) := ((show F166 6 0 = F 6 0 from (eF166 6 0).trans (hS166 6 0 rfl))).trans ((pf7).trans (congrArg (fun q : Nat => (q : Int)) ((show D166 7 = D 7 from (eD166 7).trans (hD166 7 rfl))).symm))
  have pf166_64_0 : HID (F166 64 0 = (D166 65 : Int)) := (eF166 64 0).trans (pm166_64.trans (congrArg (fun q : Nat => (q : Int)) (eD166 65).symm))
  have pf166_66_0 : HID (F166 66 0 = (D166 67 : Int)) := (eF166 66 0).trans (pm166_66.trans (congrArg (fun q : Nat => (q : Int)) (eD166 67).symm))
  have pf166_68_0 : HID (F166 68 0 = (D166 69 : Int)) := ((show F166 68 0 = F 68 0 from (eF166 68 0).trans (hS166 67 0 rfl))).trans ((pf69).trans (congrArg (fun q : Nat => (q : Int)) ((show D166 69 = D 69 from (eD166 69).trans (hD166 68 rfl))).symm))
  have pf166_68_1 : HID (F166 68 1 = (D166 70 : Int)) := ((show F166 68 1 = F 68 1 from (eF166 68 1).trans (hS166 67 1 rfl))).trans ((pf70).trans (congrArg (fun q : Nat => (q : Int)) ((show D166 70 = D 70 from (eD166 70).trans (hD166 69 rfl))).symm))
  have pf166_68_10 : HID (F166 68 10 = (D166 74 : Int)) := ((show F166 68 10 = F 68 10 from (eF166 68 10).trans (hS166 67 10 rfl))).trans ((pf74).trans (congrArg (fun q : Nat => (q : Int)) ((show D166 74 = D 74 from (eD166 74).trans (hD166 73 rfl))).symm))
  have pf166_68_11 : HID (F166 68 11 = (D166 75 : Int)) := ((show F166 68 11 = F 68 11 from (eF166 68 11).trans (hS166 67 11 rfl))).trans ((pf75).trans (congrArg (fun q : Nat => (q : Int)) ((show D166 75 = D 75 from (eD166 75).trans (hD166 74 rfl))).symm))
  have pf166_68_12 : HID (F166 68 12 = (D166 76 : Int)) := ((show F166 68 12 = F 68 12 from (eF166 68 12).trans (hS166 67 12 rfl))).trans ((pf76).trans (congrArg (fun q : Nat => (q : Int)) ((show D166 76 = D 76 from (eD166 76).trans (hD166 75 rfl))).symm))
  have pf166_68_2 : HID (F166 68 2 = (D166 71 : Int)) := ((show F166 68 2 = F 68 2 from (eF166 68 2).trans (hS166 67 2 rfl))).trans ((pf71).trans (congrArg (fun q : Nat => (q : Int)) ((show D166 71 = D 71 from (eD166 71).trans (hD166 70 rfl))).symm))
  have pf166_68_4 : HID (F166 68 4 = (D166 72 : Int)) := ((show F166 68 4 = F 68 4 from (eF166 68 4).trans (hS166 67 4 rfl))).trans ((pf72).trans (congrArg (fun q : Nat => (q : Int)) ((show D166 72 = D 72 from (eD166 72).trans (hD166 71 rfl))).symm))
  have pf166_68_5 : HID (F166 68 5 = (D166 73 : Int)) := ((show F166 68 5 = F 68 5 from (eF166 68 5).trans (hS166 67 5 rfl))).trans ((pf73).trans (congrArg (fun q : Nat => (q : Int)) ((show D166 73 = D 73 from (eD166 73).trans (hD166 72 rfl))).symm))
  have pf166_68_6 : HID (F166 68 6 = (D166 77 : Int)) := ((show F166 68 6 = F 68 6 from (eF166 68 6).trans (hS166 67 6 rfl))).trans ((pf77).trans (congrArg (fun q : Nat => (q : Int)) ((show D166 77 = D 77 from (eD166 77).trans (hD166 76 rfl))).symm))
  have pf166_68_7 : HID (F166 68 7 = (D166 86 : Int)) := ((show F166 68 7 = F 68 7 from (eF166 68 7).trans (hS166 67 7 rfl))).trans ((pf86).trans (congrArg (fun q : Nat => (q : Int)) ((show D166 86 = D 86 from (eD166 86).trans (hD166 85 rfl))).symm))
  have pf166_68_8 : HID (F166 68 8 = (D166 88 : Int)) := ((show F166 68 8 = F 68 8 from (eF166 68 8).trans (hS166 67 8 rfl))).trans ((pf88).trans (congrArg (fun q : Nat => (q : Int)) ((show D166 88 = D 88 from (eD166 88).trans (hD166 87 rfl))).symm))
  have pf166_77_2 : HID (F166 77 2 = (D166 78 : Int)) := ((show F166 77 2 = F 77 2 from (eF166 77 2).trans (hS166 76 2 rfl))).trans ((pf78).trans (congrArg (fun q : Nat => (q : Int)) ((show D166 78 = D 78 from (eD166 78).trans (hD166 77 rfl))).symm))
  have pf166_77_3 : HID (F166 77 3 = (D166 79 : Int)) := ((show F166 77 3 = F 77 3 from (eF166 77 3).trans (hS166 76 3 rfl))).trans ((pf79).trans (congrArg (fun q : Nat => (q : Int)) ((show D166 79 = D 79 from (eD166 79).trans (hD166 78 rfl))).symm))
  have pf166_77_4 : HID (F166 77 4 = (D166 80 : Int)) := ((show F166 77 4 = F 77 4 from (eF166 77 4).trans (hS166 76 4 rfl))).trans ((pf80).trans (congrArg (fun q : Nat => (q : Int)) ((show D166 80 = D 80 from (eD166 80).trans (hD166 79 rfl))).symm))
  have pf166_77_5 : HID (F166 77 5 = (D166 81 : Int)) := ((show F166 77 5 = F 77 5 from (eF166 77 5).trans (hS166 76 5 rfl))).trans ((pf81).trans (congrArg (fun q : Nat => (q : Int)) ((show D166 81 = D 81 from (eD166 81).trans (hD166 80 rfl))).symm))
  have pf166_77_6 : HID (F166 77 6 = (D166 82 : Int)) := ((show F166 77 6 = F 77 6 from (eF166 77 6).trans (hS166 76 6 rfl))).trans ((pf82).trans (congrArg (fun q : Nat => (q : Int)) ((show D166 82 = D 82 from (eD166 82).trans (hD166 81 rfl))).symm))
  have pf166_77_7 : HID (F166 77 7 = (D166 83 : Int)) := ((show F166 77 7 = F 77 7 from (eF166 77 7).trans (hS166 76 7 rfl))).trans ((pf83).trans (congrArg (fun q : Nat => (q : Int)) ((show D166 83 = D 83 from (eD166 83).trans (hD166 82 rfl))).symm))
  have pf166_77_8 : HID (F166 77 8 = (D166 84 : Int)) := ((show F166 77 8 = F 77 8 from (eF166 77 8).trans (hS166 76 8 rfl))).trans ((pf84).trans (congrArg (fun q : Nat => (q : Int)) ((show D166 84 = D 84 from (eD166 84).trans (hD166 83 rfl))).symm))
  have pf166_77_9 : HID (F166 77 9 = (D166 85 : Int)) := ((show F166 77 9 = F 77 9 from (eF166 77 9).trans (hS166 76 9 rfl))).trans ((pf85).trans (congrArg (fun q : Nat => (q : Int)) ((show D166 85 = D 85 from (eD166 85).trans (hD166 84 rfl))).symm))
  have pf166_8_0 : HID (F166 8 0 = (D166 9 : Int)) := ((show F166 8 0 = F 8 0 from (eF166 8 0).trans (hS166 0 0 rfl))).trans ((pf9).trans (congrArg (fun q : Nat => (q : Int)) ((show D166 9 = D 9 from (eD166 9).trans (hD166 8 rfl))).symm))
  have pf166_8_1 : HID (F166 8 1 = (D166 10 : Int)) := ((show F166 8 1 = F 8 1 from (eF166 8 1).trans (hS166 0 1 rfl))).trans ((pf10).trans (congrArg (fun q : Nat => (q : Int)) ((show D166 10 = D 10 from (eD166 10).trans (hD166 9 rfl))).symm))
  have pf166_8_10 : HID (F166 8 10 = (D166 22 : Int)) := ((show F166 8 10 = F 8 10 from (eF166 8 10).trans (hS166 0 10 rfl))).trans ((pf22).trans (congrArg (fun q : Nat => (q : Int)) ((show D166 22 = D 22 from (eD166 22).trans (hD166 21 rfl))).symm))
  have pf166_8_11 : HID (F166 8 11 = (D166 24 : Int)) := ((show F166 8 11 = F 8 11 from (eF166 8 11).trans (hS166 0 11 rfl))).trans ((pf24).trans (congrArg (fun q : Nat => (q : Int)) ((show D166 24 = D 24 from (eD166 24).trans (hD166 23 rfl))).symm))
  have pf166_8_12 : HID (F166 8 12 = (D166 25 : Int)) := ((show F166 8 12 = F 8 12 from (eF166 8 12).trans (hS166 0 12 rfl))).trans ((pf25).trans (congrArg (fun q : Nat => (q : Int)) ((show D166 25 = D 25 from (eD166 25).trans (hD166 24 rfl))).symm))
  have pf166_8_13 : HID (F166 8 13 = (D166 38 : Int)) := (eF166 8 13).trans (pm166_37.trans (congrArg (fun q : Nat => (q : Int)) (eD166 38).symm))
  have pf166_8_14 : HID (F166 8 14 = (D166 40 : Int)) := (eF166 8 14).trans (pm166_39.trans (congrArg (fun q : Nat => (q : Int)) (eD166 40).symm))
  have pf166_8_17 : HID (F166 8 17 = (D166 27 : Int)) := ((show F166 8 17 = F 8 17 from (eF166 8 17).trans (hS166 0 17 rfl))).trans ((pf27).trans (congrArg (fun q : Nat => (q : Int)) ((show D166 27 = D 27 from (eD166 27).trans (hD166 26 rfl))).symm))
  have pf166_8_18 : HID (F166 8 18 = (D166 26 : Int)) := ((show F166 8 18 = F 8 18 from (eF166 8 18).trans (hS166 0 18 rfl))).trans ((pf26).trans (congrArg (fun q : Nat => (q : Int)) ((show D166 26 = D 26 from (eD166 26).trans (hD166 25 rfl))).symm))
  have pf166_8_2 : HID (F166 8 2 = (D166 35 : Int)) := ((show F166 8 2 = F 8 2 from (eF166 8 2).trans (hS166 0 2 rfl))).trans ((pf35).trans (congrArg (fun q : Nat => (q : Int)) ((show D166 35 = D 35 from (eD166 35).trans (hD166 34 rfl))).symm))
  have pf166_8_3 : HID (F166 8 3 = (D166 28 : Int)) := ((show F166 8 3 = F 8 3 from (eF166 8 3).trans (hS166 0 3 rfl))).trans ((pf28).trans (congrArg (fun q : Nat => (q : Int)) ((show D166 28 = D 28 from (eD166 28).trans (hD166 27 rfl))).symm))
  have pf166_8_4 : HID (F166 8 4 = (D166 36 : Int)) := ((show F166 8 4 = F 8 4 from (eF166 8 4).trans (hS166 0 4 rfl))).trans ((pf36).trans (congrArg (fun q : Nat => (q : Int)) ((show D166 36 = D 36 from (eD166 36).trans (hD166 35 rfl))).symm))
  have pf166_8_5 : HID (F166 8 5 = (D166 37 : Int)) := ((show F166 8 5 = F 8 5 from (eF166 8 5).trans (hS166 0 5 rfl))).trans ((pf37).trans (congrArg (fun q : Nat => (q : Int)) ((show D166 37 = D 37 from (eD166 37).trans (hD166 36 rfl))).symm))
  have pf166_8_6 : HID (F166 8 6 = (D166 29 : Int)) := ((show F166 8 6 = F 8 6 from (eF166 8 6).trans (hS166 0 6 rfl))).trans ((pf29).trans (congrArg (fun q : Nat => (q : Int)) ((show D166 29 = D 29 from (eD166 29).trans (hD166 28 rfl))).symm))
  have pf166_8_7 : HID (F166 8 7 = (D166 32 : Int)) := ((show F166 8 7 = F 8 7 from (eF166 8 7).trans (hS166 0 7 rfl))).trans ((pf32).trans (congrArg (fun q : Nat => (q : Int)) ((show D166 32 = D 32 from (eD166 32).trans (hD166 31 rfl))).symm))
  have pf166_8_8 : HID (F166 8 8 = (D166 18 : Int)) := ((show F166 8 8 = F 8 8 from (eF166 8 8).trans (hS166 0 8 rfl))).trans ((pf18).trans (congrArg (fun q : Nat => (q : Int)) ((show D166 18 = D 18 from (eD166 18).trans (hD166 17 rfl))).symm))
  have pf166_8_9 : HID (F166 8 9 = (D166 20 : Int)) := ((show F166 8 9 = F 8 9 from (eF166 8 9).trans (hS166 0 9 rfl))).trans ((pf20).trans (congrArg (fun q : Nat => (q : Int)) ((show D166 20 = D 20 from (eD166 20).trans (hD166 19 rfl))).symm))
  have pf166_86_0 : HID (F166 86 0 = (D166 87 : Int)) := (eF166 86 0).trans (pm166_86.trans (congrArg (fun q : Nat => (q : Int)) (eD166 87).symm))
  have pf166_88_0 : HID (F166 88 0 = (D166 89 : Int)) := (eF166 88 0).trans (pm166_88.trans (congrArg (fun q : Nat => (q : Int)) (eD166 89).symm))
  have pf166_90_2 : HID (F166 90 2 = (D166 91 : Int)) := ((show F166 90 2 = F 90 2 from (eF166 90 2).trans (hS166 89 2 rfl))).trans ((pf91).trans (congrArg (fun q : Nat => (q : Int)) ((show D166 91 = D 91 from (eD166 91).trans (hD166 90 rfl))).symm))
  have pf166_90_3 : HID (F166 90 3 = (D166 92 : Int)) := ((show F166 90 3 = F 90 3 from (eF166 90 3).trans (hS166 89 3 rfl))).trans ((pf92).trans (congrArg (fun q : Nat => (q : Int)) ((show D166 92 = D 92 from (eD166 92).trans (hD166 91 rfl))).symm))
  have pf166_90_4 : HID (F166 90 4 = (D166 93 : Int)) := ((show F166 90 4 = F 90 4 from (eF166 90 4).trans (hS166 89 4 rfl))).trans ((pf93).trans (congrArg (fun q : Nat => (q : Int)) ((show D166 93 = D 93 from (eD166 93).trans (hD166 92 rfl))).symm))
  have pf166_90_5 : HID (F166 90 5 = (D166 94 : Int)) := ((show F166 90 5 = F 90 5 from (eF166 90 5).trans (hS166 89 5 rfl))).trans ((pf94).trans (congrArg (fun q : Nat => (q : Int)) ((show D166 94 = D 94 from (eD166 94).trans (hD166 93 rfl))).symm))
  have pf166_90_6 : HID (F166 90 6 = (D166 98 : Int)) := ((show F166 90 6 = F 90 6 from (eF166 90 6).trans (hS166 89 6 rfl))).trans ((pf98).trans (congrArg (fun q : Nat => (q : Int)) ((show D166 98 = D 98 from (eD166 98).trans (hD166 97 rfl))).symm))
  have pf166_90_7 : HID (F166 90 7 = (D166 95 : Int)) := ((show F166 90 7 = F 90 7 from (eF166 90 7).trans (hS166 89 7 rfl))).trans ((pf95).trans (congrArg (fun q : Nat => (q : Int)) ((show D166 95 = D 95 from (eD166 95).trans (hD166 94 rfl))).symm))
  have pf166_90_8 : HID (F166 90 8 = (D166 96 : Int)) := ((show F166 90 8 = F 90 8 from (eF166 90 8).trans (hS166 89 8 rfl))).trans ((pf96).trans (congrArg (fun q : Nat => (q : Int)) ((show D166 96 = D 96 from (eD166 96).trans (hD166 95 rfl))).symm))
  have pf166_90_9 : HID (F166 90 9 = (D166 97 : Int)) := ((show F166 90 9 = F 90 9 from (eF166 90 9).trans (hS166 89 9 rfl))).trans ((pf97).trans (congrArg (fun q : Nat => (q : Int)) ((show D166 97 = D 97 from (eD166 97).trans (hD166 96 rfl))).symm))
  have pf166_99_2 : HID (F166 99 2 = (D166 100 : Int)) := ((show F166 99 2 = F 99 2 from (eF166 99 2).trans (hS166 98 2 rfl))).trans ((pf100).trans (congrArg (fun q : Nat => (q : Int)) ((show D166 100 = D 100 from (eD166 100).trans (hD166 99 rfl))).symm))
  have pf166_99_3 : HID (F166 99 3 = (D166 101 : Int)) := ((show F166 99 3 = F 99 3 from (eF166 99 3).trans (hS166 98 3 rfl))).trans ((pf101).trans (congrArg (fun q : Nat => (q : Int)) ((show D166 101 = D 101 from (eD166 101).trans (hD166 100 rfl))).symm))
  have pf166_99_4 : HID (F166 99 4 = (D166 102 : Int)) := ((show F166 99 4 = F 99 4 from (eF166 99 4).trans (hS166 98 4 rfl))).trans ((pf102).trans (congrArg (fun q : Nat => (q : Int)) ((show D166 102 = D 102 from (eD166 102).trans (hD166 101 rfl))).symm))
  have pf166_99_5 : HID (F166 99 5 = (D166 103 : Int)) := ((show F166 99 5 = F 99 5 from (eF166 99 5).trans (hS166 98 5 rfl))).trans ((pf103).trans (congrArg (fun q : Nat => (q : Int)) ((show D166 103 = D 103 from (eD166 103).trans (hD166 102 rfl))).symm))
  have pf166_99_6 : HID (F166 99 6 = (D166 104 : Int)) := ((show F166 99 6 = F 99 6 from (eF166 99 6).trans (hS166 98 6 rfl))).trans ((pf104).trans (congrArg (fun q : Nat => (q : Int)) ((show D166 104 = D 104 from (eD166 104).trans (hD166 103 rfl))).symm))
  have pf166_99_7 : HID (F166 99 7 = (D166 105 : Int)) := ((show F166 99 7 = F 99 7 from (eF166 99 7).trans (hS166 98 7 rfl))).trans ((pf105).trans (congrArg (fun q : Nat => (q : Int)) ((show D166 105 = D 105 from (eD166 105).trans (hD166 104 rfl))).symm))
  have pf166_99_8 : HID (F166 99 8 = (D166 106 : Int)) := ((show F166 99 8 = F 99 8 from (eF166 99 8).trans (hS166 98 8 rfl))).trans ((pf106).trans (congrArg (fun q : Nat => (q : Int)) ((show D166 106 = D 106 from (eD166 106).trans (hD166 105 rfl))).symm))
  have pf166_99_9 : HID (F166 99 9 = (D166 107 : Int)) := ((show F166 99 9 = F 99 9 from (eF166 99 9).trans (hS166 98 9 rfl))).trans ((pf107).trans (congrArg (fun q : Nat => (q : Int)) ((show D166 107 = D 107 from (eD166 107).trans (hD166 106 rfl))).symm))
  have r167 : HID ((0 : Int) ≤ m166_4 ∧ m166_4 ≤ 1000000) := nrng (H.nle 3 (by decide)) (show (N166 3 : Int) = m166_4 from (congrArg (fun q : Nat => (q : Int)) (eN166 3)).trans em166_4)
  have r168 : HID ((0 : Int) ≤ m166_11 ∧ m166_11 ≤ 1000000) := nrng (H.nle 12 (by decide)) (show (N166 12 : Int) = m166_11 from (congrArg (fun q : Nat => (q : Int)) (eN166 12)).trans em166_11)
  have r169 : HID ((0 : Int) ≤ m166_12 ∧ m166_12 ≤ 1000000) := nrng (H.nle 13 (by decide)) (show (N166 13 : Int) = m166_12 from (congrArg (fun q : Nat => (q : Int)) (eN166 13)).trans em166_12)
  have r170 : HID ((0 : Int) ≤ m166_13 ∧ m166_13 ≤ 1000000) := nrng (H.nle 14 (by decide)) (show (N166 14 : Int) = m166_13 from (congrArg (fun q : Nat => (q : Int)) (eN166 14)).trans em166_13)
  have r171 : HID ((0 : Int) ≤ m166_14 ∧ m166_14 ≤ 1000000) := nrng (H.nle 15 (by decide)) (show (N166 15 : Int) = m166_14 from (congrArg (fun q : Nat => (q : Int)) (eN166 15)).trans em166_14)
  have r172 : HID ((0 : Int) ≤ m166_15 ∧ m166_15 ≤ 1000000) := nrng (H.nle 16 (by decide)) (show (N166 16 : Int) = m166_15 from (congrArg (fun q : Nat => (q : Int)) (eN166 16)).trans em166_15)
  have r173 : HID ((0 : Int) ≤ m166_16 ∧ m166_16 ≤ 1000000) := nrng (H.nle 17 (by decide)) (show (N166 17 : Int) = m166_16 from (congrArg (fun q : Nat => (q : Int)) (eN166 17)).trans em166_16)
  have r174 : HID ((0 : Int) ≤ m166_18 ∧ m166_18 ≤ 1000000) := nrng (H.nle 19 (by decide)) (show (N166 19 : Int) = m166_18 from (congrArg (fun q : Nat => (q : Int)) (eN166 19)).trans em166_18)
  have r175 : HID ((0 : Int) ≤ m166_20 ∧ m166_20 ≤ 1000000) := nrng (H.nle 21 (by decide)) (show (N166 21 : Int) = m166_20 from (congrArg (fun q : Nat => (q : Int)) (eN166 21)).trans em166_20)
  have r176 : HID ((0 : Int) ≤ m166_22 ∧ m166_22 ≤ 1000000) := nrng (H.nle 23 (by decide)) (show (N166 23 : Int) = m166_22 from (congrArg (fun q : Nat => (q : Int)) (eN166 23)).trans em166_22)
  have r177 : HID ((0 : Int) ≤ m166_37 ∧ m166_37 ≤ 1000000) := nrng (H.nle 38 (by decide)) (show (N166 38 : Int) = m166_37 from (congrArg (fun q : Nat => (q : Int)) (eN166 38)).trans em166_37)
  have r178 : HID ((0 : Int) ≤ m166_38 ∧ m166_38 ≤ 1000000) := nrng (H.nle 39 (by decide)) (show (N166 39 : Int) = m166_38 from (congrArg (fun q : Nat => (q : Int)) (eN166 39)).trans em166_38)
  have r179 : HID ((0 : Int) ≤ m166_39 ∧ m166_39 ≤ 1000000) := nrng (H.nle 40 (by decide)) (show (N166 40 : Int) = m166_39 from (congrArg (fun q : Nat => (q : Int)) (eN166 40)).trans em166_39)
  have r180 : HID ((0 : Int) ≤ m166_40 ∧ m166_40 ≤ 1000000) := nrng (H.nle 41 (by decide)) (show (N166 41 : Int) = m166_40 from (congrArg (fun q : Nat => (q : Int)) (eN166 41)).trans em166_40)
  have r181 : HID ((0 : Int) ≤ m166_41 ∧ m166_41 ≤ 1000000) := nrng (H.nle 42 (by decide)) (show (N166 42 : Int) = m166_41 from (congrArg (fun q : Nat => (q : Int)) (eN166 42)).trans em166_41)
  have r182 : HID ((0 : Int) ≤ m166_64 ∧ m166_64 ≤ 1000000) := nrng (H.nle 65 (by decide)) (show (N166 65 : Int) = m166_64 from (congrArg (fun q : Nat => (q : Int)) (eN166 65)).trans em166_64)
  have r183 : HID ((0 : Int) ≤ m166_66 ∧ m166_66 ≤ 1000000) := nrng (H.nle 67 (by decide)) (show (N166 67 : Int) = m166_66 from (congrArg (fun q : Nat => (q : Int)) (eN166 67)).trans em166_66)
  have r184 : HID ((0 : Int) ≤ m166_86 ∧ m166_86 ≤ 1000000) := nrng (H.nle 87 (by decide)) (show (N166 87 : Int) = m166_86 from (congrArg (fun q : Nat => (q : Int)) (eN166 87)).trans em166_86)
  have r185 : HID ((0 : Int) ≤ m166_88 ∧ m166_88 ≤ 1000000) := nrng (H.nle 89 (by decide)) (show (N166 89 : Int) = m166_88 from (congrArg (fun q : Nat => (q : Int)) (eN166 89)).trans em166_88)
  have r186 : HID ((-2147483648 : Int) ≤ y166_1_1 ∧ y166_1_1 ≤ 2147483647) := krg_e (show (-2147483648 : Int) ≤ F166 2 1 ∧ F166 2 1 ≤ 2147483647 from H.krg 2 1 (by decide)) (show F166 2 1 = y166_1_1 from ((eF166 2 1).trans ey166_1_1))
  have r187 : HID ((-2147483648 : Int) ≤ y166_10_1 ∧ y166_10_1 ≤ 2147483647) := krg_e (show (-2147483648 : Int) ≤ F166 11 1 ∧ F166 11 1 ≤ 2147483647 from H.krg 11 1 (by decide)) (show F166 11 1 = y166_10_1 from ((eF166 11 1).trans ey166_10_1))
  have r188 : HID ((-2147483648 : Int) ≤ y166_17_1 ∧ y166_17_1 ≤ 2147483647) := krg_e (show (-2147483648 : Int) ≤ F166 18 1 ∧ F166 18 1 ≤ 2147483647 from H.krg 18 1 (by decide)) (show F166 18 1 = y166_17_1 from ((eF166 18 1).trans ey166_17_1))
  have r189 : HID ((-2147483648 : Int) ≤ y166_19_1 ∧ y166_19_1 ≤ 2147483647) := krg_e (show (-2147483648 : Int) ≤ F166 20 1 ∧ F166 20 1 ≤ 2147483647 from H.krg 20 1 (by decide)) (show F166 20 1 = y166_19_1 from ((eF166 20 1).trans ey166_19_1))
  have r190 : HID ((-2147483648 : Int) ≤ y166_21_1 ∧ y166_21_1 ≤ 2147483647) := krg_e (show (-2147483648 : Int) ≤ F166 22 1 ∧ F166 22 1 ≤ 2147483647 from H.krg 22 1 (by decide)) (show F166 22 1 = y166_21_1 from ((eF166 22 1).trans ey166_21_1))
  have r191 : HID ((-2147483648 : Int) ≤ y166_63_1 ∧ y166_63_1 ≤ 2147483647) := krg_e (show (-2147483648 : Int) ≤ F166 64 1 ∧ F166 64 1 ≤ 2147483647 from H.krg 64 1 (by decide)) (show F166 64 1 = y166_63_1 from ((eF166 64 1).trans ey166_63_1))
  have r192 : HID ((-2147483648 : Int) ≤ y166_65_1 ∧ y166_65_1 ≤ 2147483647) := krg_e (show (-2147483648 : Int) ≤ F166 66 1 ∧ F166 66 1 ≤ 2147483647 from H.krg 66 1 (by decide)) (show F166 66 1 = y166_65_1 from ((eF166 66 1).trans ey166_65_1))
  have r193 : HID ((-2147483648 : Int) ≤ y166_85_1 ∧ y166_85_1 ≤ 2147483647) := krg_e (show (-2147483648 : Int) ≤ F166 86 1 ∧ F166 86 1 ≤ 2147483647 from H.krg 86 1 (by decide)) (show F166 86 1 = y166_85_1 from ((eF166 86 1).trans ey166_85_1))
  have r194 : HID ((-2147483648 : Int) ≤ y166_87_1 ∧ y166_87_1 ≤ 2147483647) := krg_e (show (-2147483648 : Int) ≤ F166 88 1 ∧ F166 88 1 ≤ 2147483647 from H.krg 88 1 (by decide)) (show F166 88 1 = y166_87_1 from ((eF166 88 1).trans ey166_87_1))
  refine Ew_of (pcₚ := 199) (fun _ => x_goto rfl rfl) ?_
  refine Ew_of (pcₚ := 201) (fun _ => x_iload rfl hl5) ?_
  refine w_ifeq (t := 214) rfl rfl (show inr (1) by omega) (fun b195 => ?_) (fun b195 => ?_)
  · exact absurd b195 (by omega)
  · refine Ew_of (pcₚ := 205) (fun _ => x_aload_n rfl hl0) ?_
    refine Ew_stk (show ([.ref (D 0)] : List Value) = [.ref (D166 0)] by rw [show D166 0 = D 0 from ((show D166 0 = D 0 from (eD166 0)))]) ?_
    refine v_g H (o := 0) (v := .ref (D166 2)) rfl rfl rfl rfl rfl (vrf (pf166_0_5)) ?_
    have r196 : HID ((0 : Int) ≤ F166 2 2 ∧ F166 2 2 ≤ 1) := krg_e (show (0 : Int) ≤ F166 2 2 ∧ F166 2 2 ≤ 1 from H.krg 2 2 (by decide)) (show F166 2 2 = F166 2 2 from rfl)
    refine v_g H (o := 2) (v := I (F166 2 2)) rfl rfl rfl rfl rfl (congrArg (fun z : Int => I z) (rfl : F166 2 2 = F166 2 2)) ?_
    refine w_ifeq (t := 216) rfl rfl (show inr (F166 2 2) by have qh0 := HIDe r196; omega) (fun b197 => ?_) (fun b197 => ?_)
    · refine Ew_of (pcₚ := 217) (fun _ => x_iload_n rfl hl3) ?_
      refine Ew_of (pcₚ := 218) (fun _ => x_iconst rfl) ?_
      refine w_icmpeq (t := 277) rfl rfl (show inr (4) by omega) (show inr (5) by omega) (fun b198 => ?_) (fun b198 => ?_)
      · exact absurd b198 (by omega)
      · refine Ew_of (pcₚ := 222) (fun _ => x_aload_n rfl hl0) ?_
        refine Ew_of (pcₚ := 223) (fun _ => x_aload_n rfl hl0) ?_
        refine Ew_stk (show ([.ref (D 0), .ref (D 0)] : List Value) = [.ref (D166 0), .ref (D166 0)] by rw [show D166 0 = D 0 from ((show D166 0 = D 0 from (eD166 0)))]) ?_
        refine v_g H (o := 0) (v := .ref (D166 2)) rfl rfl rfl rfl rfl (vrf (pf166_0_5)) ?_
        refine Ew_of (pcₚ := 227) (fun _ => x_iload_n rfl hl3) ?_
        refine Ew_of (pcₚ := 229) (fun _ => x_aload rfl hl4) ?_
        refine Ew_stk (show ([.ref (D 1), I (4), .ref (D166 2), .ref (D166 0)] : List Value) = [.ref (D166 1), I (4), .ref (D166 2), .ref (D166 0)] by rw [show D166 1 = D 1 from ((show D166 1 = D 1 from (eD166 1).trans (hD166 2 rfl)))]) ?_
        refine v_g H (o := 1) (v := I (u1_1)) rfl rfl rfl rfl rfl (congrArg (fun z : Int => I z) ((((show F166 1 1 = F 1 1 from (eF166 1 1).trans (hS166 2 1 rfl))).trans (eu1_1)) : F166 1 1 = u1_1)) ?_
        refine Ew_of (pcₚ := 233) (fun _ => x_aload_n rfl hl0) ?_
        refine Ew_stk (show ([.ref (D 0), I (u1_1), I (4), .ref (D166 2), .ref (D166 0)] : List Value) = [.ref (D166 0), I (u1_1), I (4), .ref (D166 2), .ref (D166 0)] by rw [show D166 0 = D 0 from ((show D166 0 = D 0 from (eD166 0)))]) ?_
        refine v_g H (o := 0) (v := .ref (D166 171)) rfl rfl rfl rfl rfl (vrf (pf166_0_15)) ?_
        exact hc236 (4) (u1_1) _ _ _ _ _ _ _ _  ((hl0).trans (congrArg (fun q : Nat => some (Value.ref q)) (((show D166 0 = D 0 from (eD166 0)))).symm)) (hl1) (hl3) ((hl4).trans (congrArg (fun q : Nat => some (Value.ref q)) (((show D166 1 = D 1 from (eD166 1).trans (hD166 2 rfl)))).symm)) H O (SD_trans (SD_refl) (SD_glu (ι := [8, 2, 1, 5, 3, 4, 6, 7, 9, 10, 11, 12, 13, 14, 15, 16, 17, 18, 19, 20, 21, 22, 23, 24, 25, 26, 27, 28, 29, 30, 31, 32, 33, 34, 35, 36, 37, 38, 39, 40, 41, 42, 43, 44, 45, 46, 47, 48, 49, 50, 51, 52, 53, 54, 55, 56, 57, 58, 59, 60, 61, 62, 63, 64, 65, 66, 67, 68, 69, 70, 71, 72, 73, 74, 75, 76, 77, 78, 79, 80, 81, 82, 83, 84, 85, 86, 87, 88, 89, 90, 91, 92, 93, 94, 95, 96, 97, 98, 99, 100, 101, 102, 103, 104, 105, 106, 107, 108, 109, 110, 111, 112, 113, 114, 115, 116, 117, 118, 119, 120, 121, 122, 123, 124, 125, 126, 127, 128, 129, 130, 131, 132, 133, 134, 135, 136, 137, 138, 139, 140, 141, 142, 143, 144, 145, 146, 147, 148, 149, 150, 151, 152, 153, 154, 155, 156, 157, 158, 159, 160, 161, 162, 163, 164, 165, 166, 167, 168, 169, 170]) hD166 eD166 (by decide +kernel)) (any_subA (lₚ := [3, 12, 13, 14, 15, 16, 17, 19, 21, 23, 38, 39, 40, 41, 42, 65, 67, 87, 89]) rfl)) (SD_trans (SD_refl) (SD_glu (ι := [8, 2, 1, 5, 3, 4, 6, 7, 9, 10, 11, 12, 13, 14, 15, 16, 17, 18, 19, 20, 21, 22, 23, 24, 25, 26, 27, 28, 29, 30, 31, 32, 33, 34, 35, 36, 37, 38, 39, 40, 41, 42, 43, 44, 45, 46, 47, 48, 49, 50, 51, 52, 53, 54, 55, 56, 57, 58, 59, 60, 61, 62, 63, 64, 65, 66, 67, 68, 69, 70, 71, 72, 73, 74, 75, 76, 77, 78, 79, 80, 81, 82, 83, 84, 85, 86, 87, 88, 89, 90, 91, 92, 93, 94, 95, 96, 97, 98, 99, 100, 101, 102, 103, 104, 105, 106, 107, 108, 109, 110, 111, 112, 113, 114, 115, 116, 117, 118, 119, 120, 121, 122, 123, 124, 125, 126, 127, 128, 129, 130, 131, 132, 133, 134, 135, 136, 137, 138, 139, 140, 141, 142, 143, 144, 145, 146, 147, 148, 149, 150, 151, 152, 153, 154, 155, 156, 157, 158, 159, 160, 161, 162, 163, 164, 165, 166, 167, 168, 169, 170]) hN166 eN166 (by decide +kernel)) (any_subA (lₚ := [3, 12, 13, 14, 15, 16, 17, 19, 21, 23, 38, 39, 40, 41, 42, 65, 67, 87, 89]) rfl)) (SF_trans (SF_refl) (SF_glu (ι := [8, 2, 1, 5, 3, 4, 6, 7, 9, 10, 11, 12, 13, 14, 15, 16, 17, 18, 19, 20, 21, 22, 23, 24, 25, 26, 27, 28, 29, 30, 31, 32, 33, 34, 35, 36, 37, 38, 39, 40, 41, 42, 43, 44, 45, 46, 47, 48, 49, 50, 51, 52, 53, 54, 55, 56, 57, 58, 59, 60, 61, 62, 63, 64, 65, 66, 67, 68, 69, 70, 71, 72, 73, 74, 75, 76, 77, 78, 79, 80, 81, 82, 83, 84, 85, 86, 87, 88, 89, 90, 91, 92, 93, 94, 95, 96, 97, 98, 99, 100, 101, 102, 103, 104, 105, 106, 107, 108, 109, 110, 111, 112, 113, 114, 115, 116, 117, 118, 119, 120, 121, 122, 123, 124, 125, 126, 127, 128, 129, 130, 131, 132, 133, 134, 135, 136, 137, 138, 139, 140, 141, 142, 143, 144, 145, 146, 147, 148, 149, 150, 151, 152, 153, 154, 155, 156, 157, 158, 159, 160, 161, 162, 163, 164, 165, 166, 167, 168, 169, 170]) hS166 eF166 (by decide +kernel)) (any_sub (lₚ := [(2, 0), (2, 1), (2, 2), (8, 13), (8, 14), (8, 15), (8, 16), (10, 1), (10, 2), (10, 3), (10, 4), (10, 5), (10, 6), (10, 7), (10, 8), (10, 9), (10, 10), (10, 11), (10, 12), (10, 13), (10, 14), (10, 15), (10, 16), (10, 17), (10, 18), (11, 0), (11, 1), (11, 2), (11, 3), (11, 4), (18, 0), (18, 1), (18, 2), (18, 3), (18, 4), (20, 0), (20, 1), (20, 2), (20, 3), (20, 4), (22, 0), (22, 1), (22, 2), (22, 3), (22, 4), (29, 0), (32, 0), (46, 3), (46, 13), (46, 14), (46, 15), (46, 16), (55, 0), (64, 0), (64, 1), (64, 2), (64, 3), (64, 4), (66, 0), (66, 1), (66, 2), (66, 3), (66, 4), (68, 3), (68, 13), (68, 14), (68, 15), (68, 16), (77, 0), (86, 0), (86, 1), (86, 2), (86, 3), (86, 4), (88, 0), (88, 1), (88, 2), (88, 3), (88, 4), (99, 0), (108, 0), (126, 0), (135, 0), (153, 0), (162, 0)]) rfl)) (SA_trans (SA_refl) (SA_glu (ι := [8, 2, 1, 5, 3, 4, 6, 7, 9, 10, 11, 12, 13, 14, 15, 16, 17, 18, 19, 20, 21, 22, 23, 24, 25, 26, 27, 28, 29, 30, 31, 32, 33, 34, 35, 36, 37, 38, 39, 40, 41, 42, 43, 44, 45, 46, 47, 48, 49, 50, 51, 52, 53, 54, 55, 56, 57, 58, 59, 60, 61, 62, 63, 64, 65, 66, 67, 68, 69, 70, 71, 72, 73, 74, 75, 76, 77, 78, 79, 80, 81, 82, 83, 84, 85, 86, 87, 88, 89, 90, 91, 92, 93, 94, 95, 96, 97, 98, 99, 100, 101, 102, 103, 104, 105, 106, 107, 108, 109, 110, 111, 112, 113, 114, 115, 116, 117, 118, 119, 120, 121, 122, 123, 124, 125, 126, 127, 128, 129, 130, 131, 132, 133, 134, 135, 136, 137, 138, 139, 140, 141, 142, 143, 144, 145, 146, 147, 148, 149, 150, 151, 152, 153, 154, 155, 156, 157, 158, 159, 160, 161, 162, 163, 164, 165, 166, 167, 168, 169, 170]) hA166 eA166 (by decide +kernel)) (any_subA (lₚ := [3, 12, 13, 14, 15, 16, 17, 19, 21, 23, 24, 25, 26, 27, 30, 31, 33, 34, 38, 39, 40, 41, 42, 47, 48, 49, 50, 51, 52, 53, 54, 56, 57, 58, 59, 60, 61, 62, 63, 65, 67, 69, 70, 71, 72, 73, 74, 75, 76, 78, 79, 80, 81, 82, 83, 84, 85, 87, 89, 100, 101, 102, 103, 104, 105, 106, 107, 109, 110, 111, 112, 113, 114, 115, 116, 127, 128, 129, 130, 131, 132, 133, 134, 136, 137, 138, 139, 140, 141, 142, 143, 154, 155, 156, 157, 158, 159, 160, 161, 163, 164, 165, 166, 167, 168, 169, 170]) rfl)) (pf166_2_0) (pf166_11_0) (pf166_10_7) (pf166_10_8) (pf166_10_1) (pf166_10_2) (pf166_10_3) (pf166_18_0) (pf166_20_0) (pf166_22_0) (pf166_8_13) (pe166_38_0) (pf166_8_14) (pe166_38_1) (pe166_38_2) (pf166_64_0) (pf166_66_0) (pf166_86_0) (pf166_88_0) (m166_4) ((congrArg (fun q : Nat => (q : Int)) (eN166 3)).trans em166_4) (m166_11) ((congrArg (fun q : Nat => (q : Int)) (eN166 12)).trans em166_11) (m166_12) ((congrArg (fun q : Nat => (q : Int)) (eN166 13)).trans em166_12) (m166_13) ((congrArg (fun q : Nat => (q : Int)) (eN166 14)).trans em166_13) (m166_14) ((congrArg (fun q : Nat => (q : Int)) (eN166 15)).trans em166_14) (m166_15) ((congrArg (fun q : Nat => (q : Int)) (eN166 16)).trans em166_15) (m166_16) ((congrArg (fun q : Nat => (q : Int)) (eN166 17)).trans em166_16) (m166_18) ((congrArg (fun q : Nat => (q : Int)) (eN166 19)).trans em166_18) (m166_20) ((congrArg (fun q : Nat => (q : Int)) (eN166 21)).trans em166_20) (m166_22) ((congrArg (fun q : Nat => (q : Int)) (eN166 23)).trans em166_22) (m166_37) ((congrArg (fun q : Nat => (q : Int)) (eN166 38)).trans em166_37) (m166_38) ((congrArg (fun q : Nat => (q : Int)) (eN166 39)).trans em166_38) (m166_39) ((congrArg (fun q : Nat => (q : Int)) (eN166 40)).trans em166_39) (m166_40) ((congrArg (fun q : Nat => (q : Int)) (eN166 41)).trans em166_40) (m166_41) ((congrArg (fun q : Nat => (q : Int)) (eN166 42)).trans em166_41) (m166_64) ((congrArg (fun q : Nat => (q : Int)) (eN166 65)).trans em166_64) (m166_66) ((congrArg (fun q : Nat => (q : Int)) (eN166 67)).trans em166_66) (m166_86) ((congrArg (fun q : Nat => (q : Int)) (eN166 87)).trans em166_86) (m166_88) ((congrArg (fun q : Nat => (q : Int)) (eN166 89)).trans em166_88) (y166_1_1) (((eF166 2 1).trans ey166_1_1)) (y166_10_1) (((eF166 11 1).trans ey166_10_1)) (y166_17_1) (((eF166 18 1).trans ey166_17_1)) (y166_19_1) (((eF166 20 1).trans ey166_19_1)) (y166_21_1) (((eF166 22 1).trans ey166_21_1)) (y166_63_1) (((eF166 64 1).trans ey166_63_1)) (y166_65_1) (((eF166 66 1).trans ey166_65_1)) (y166_85_1) (((eF166 86 1).trans ey166_85_1)) (y166_87_1) (((eF166 88 1).trans ey166_87_1)) (w166_26) ((eA166 27).trans ew166_26) (w166_48) ((eA166 49).trans ew166_48) (w166_70) ((eA166 71).trans ew166_70) (show inr (4) by omega) (show inr (u1_1) by have qh0 := HIDe r1; omega) (show 0 ≤ (y166_1_1) ∧ (y166_1_1) ≤ (m166_4) ∧ (m166_4) ≤ 65536 by have qh0 := HIDe r167; have qh1 := HIDe r186; omega) (show 0 ≤ (y166_10_1) ∧ (y166_10_1) ≤ (m166_11) ∧ (m166_11) ≤ 65536 by have qh0 := HIDe r168; have qh1 := HIDe r187; omega) (show (m166_12) = 0 ∨ (m166_12) = 2048 by have qh0 := HIDe r169; omega) (show (m166_13) ≤ 16384 by have qh0 := HIDe r170; omega) (show (m166_14) = (m166_15) ∧ (m166_16) = (m166_15) ∧ (m166_15) ≤ 65536 ∧ ((m166_15) = 0 ∨ 64 ≤ (m166_15)) ∧ lgq ((m166_15)) = 0 by have qh0 := HIDe r171; have qh1 := HIDe r172; have qh2 := HIDe r173; omega) (show 0 ≤ (y166_17_1) ∧ (y166_17_1) ≤ (m166_18) ∧ (m166_18) ≤ 65536 by have qh0 := HIDe r174; have qh1 := HIDe r188; omega) (show 0 ≤ (y166_19_1) ∧ (y166_19_1) ≤ (m166_20) ∧ (m166_20) ≤ 65536 by have qh0 := HIDe r175; have qh1 := HIDe r189; omega) (show 0 ≤ (y166_21_1) ∧ (y166_21_1) ≤ (m166_22) ∧ (m166_22) ≤ 65536 by have qh0 := HIDe r176; have qh1 := HIDe r190; omega) (show (m166_37) = 3 ∧ (m166_38) = (m166_39) ∧ (m166_40) = (m166_39) ∧ (m166_41) = (m166_39) ∧ lgq ((m166_39)) = 0 ∧ (m166_39) ≤ 16384 by have qh0 := HIDe r177; have qh1 := HIDe r178; have qh2 := HIDe r179; have qh3 := HIDe r180; have qh4 := HIDe r181; omega) (show 0 ≤ (y166_63_1) ∧ (y166_63_1) ≤ (m166_64) ∧ (m166_64) ≤ 65536 by have qh0 := HIDe r182; have qh1 := HIDe r191; omega) (show 0 ≤ (y166_65_1) ∧ (y166_65_1) ≤ (m166_66) ∧ (m166_66) ≤ 65536 by have qh0 := HIDe r183; have qh1 := HIDe r192; omega) (show CEL ((w166_48)) by assumption) (show 0 ≤ (y166_85_1) ∧ (y166_85_1) ≤ (m166_86) ∧ (m166_86) ≤ 65536 by have qh0 := HIDe r184; have qh1 := HIDe r193; omega) (show 0 ≤ (y166_87_1) ∧ (y166_87_1) ≤ (m166_88) ∧ (m166_88) ≤ 65536 by have qh0 := HIDe r185; have qh1 := HIDe r194; omega) (show CEL ((w166_70)) by assumption) (show 0 ≤ ((w166_26)) 0 ∧ ((w166_26)) 0 ≤ 3 ∧ 0 ≤ ((w166_26)) 1 ∧ ((w166_26)) 1 ≤ 3 ∧ 0 ≤ ((w166_26)) 2 ∧ ((w166_26)) 2 ≤ 3 by omega) (show (4) = 4 by omega) (show (u1_1) = (u1_1) by have qh0 := HIDe r1; omega)
    · refine Ew_of (pcₚ := 215) (fun _ => x_iconst rfl) ?_
      exact w_ireturn rfl (k ((-1)) _ _ _ _ _ _ _ H O (SD_trans (SD_refl) (SD_glu (ι := [8, 2, 1, 5, 3, 4, 6, 7, 9, 10, 11, 12, 13, 14, 15, 16, 17, 18, 19, 20, 21, 22, 23, 24, 25, 26, 27, 28, 29, 30, 31, 32, 33, 34, 35, 36, 37, 38, 39, 40, 41, 42, 43, 44, 45, 46, 47, 48, 49, 50, 51, 52, 53, 54, 55, 56, 57, 58, 59, 60, 61, 62, 63, 64, 65, 66, 67, 68, 69, 70, 71, 72, 73, 74, 75, 76, 77, 78, 79, 80, 81, 82, 83, 84, 85, 86, 87, 88, 89, 90, 91, 92, 93, 94, 95, 96, 97, 98, 99, 100, 101, 102, 103, 104, 105, 106, 107, 108, 109, 110, 111, 112, 113, 114, 115, 116, 117, 118, 119, 120, 121, 122, 123, 124, 125, 126, 127, 128, 129, 130, 131, 132, 133, 134, 135, 136, 137, 138, 139, 140, 141, 142, 143, 144, 145, 146, 147, 148, 149, 150, 151, 152, 153, 154, 155, 156, 157, 158, 159, 160, 161, 162, 163, 164, 165, 166, 167, 168, 169, 170]) hD166 eD166 (by decide +kernel)) (any_subA (lₚ := [3, 12, 13, 14, 15, 16, 17, 19, 21, 23, 38, 39, 40, 41, 42, 65, 67, 87, 89]) rfl)) (SD_trans (SD_refl) (SD_glu (ι := [8, 2, 1, 5, 3, 4, 6, 7, 9, 10, 11, 12, 13, 14, 15, 16, 17, 18, 19, 20, 21, 22, 23, 24, 25, 26, 27, 28, 29, 30, 31, 32, 33, 34, 35, 36, 37, 38, 39, 40, 41, 42, 43, 44, 45, 46, 47, 48, 49, 50, 51, 52, 53, 54, 55, 56, 57, 58, 59, 60, 61, 62, 63, 64, 65, 66, 67, 68, 69, 70, 71, 72, 73, 74, 75, 76, 77, 78, 79, 80, 81, 82, 83, 84, 85, 86, 87, 88, 89, 90, 91, 92, 93, 94, 95, 96, 97, 98, 99, 100, 101, 102, 103, 104, 105, 106, 107, 108, 109, 110, 111, 112, 113, 114, 115, 116, 117, 118, 119, 120, 121, 122, 123, 124, 125, 126, 127, 128, 129, 130, 131, 132, 133, 134, 135, 136, 137, 138, 139, 140, 141, 142, 143, 144, 145, 146, 147, 148, 149, 150, 151, 152, 153, 154, 155, 156, 157, 158, 159, 160, 161, 162, 163, 164, 165, 166, 167, 168, 169, 170]) hN166 eN166 (by decide +kernel)) (any_subA (lₚ := [3, 12, 13, 14, 15, 16, 17, 19, 21, 23, 38, 39, 40, 41, 42, 65, 67, 87, 89]) rfl)) (SF_trans (SF_refl) (SF_glu (ι := [8, 2, 1, 5, 3, 4, 6, 7, 9, 10, 11, 12, 13, 14, 15, 16, 17, 18, 19, 20, 21, 22, 23, 24, 25, 26, 27, 28, 29, 30, 31, 32, 33, 34, 35, 36, 37, 38, 39, 40, 41, 42, 43, 44, 45, 46, 47, 48, 49, 50, 51, 52, 53, 54, 55, 56, 57, 58, 59, 60, 61, 62, 63, 64, 65, 66, 67, 68, 69, 70, 71, 72, 73, 74, 75, 76, 77, 78, 79, 80, 81, 82, 83, 84, 85, 86, 87, 88, 89, 90, 91, 92, 93, 94, 95, 96, 97, 98, 99, 100, 101, 102, 103, 104, 105, 106, 107, 108, 109, 110, 111, 112, 113, 114, 115, 116, 117, 118, 119, 120, 121, 122, 123, 124, 125, 126, 127, 128, 129, 130, 131, 132, 133, 134, 135, 136, 137, 138, 139, 140, 141, 142, 143, 144, 145, 146, 147, 148, 149, 150, 151, 152, 153, 154, 155, 156, 157, 158, 159, 160, 161, 162, 163, 164, 165, 166, 167, 168, 169, 170]) hS166 eF166 (by decide +kernel)) (any_sub (lₚ := [(2, 0), (2, 1), (2, 2), (8, 13), (8, 14), (8, 15), (8, 16), (10, 1), (10, 2), (10, 3), (10, 4), (10, 5), (10, 6), (10, 7), (10, 8), (10, 9), (10, 10), (10, 11), (10, 12), (10, 13), (10, 14), (10, 15), (10, 16), (10, 17), (10, 18), (11, 0), (11, 1), (11, 2), (11, 3), (11, 4), (18, 0), (18, 1), (18, 2), (18, 3), (18, 4), (20, 0), (20, 1), (20, 2), (20, 3), (20, 4), (22, 0), (22, 1), (22, 2), (22, 3), (22, 4), (29, 0), (32, 0), (46, 3), (46, 13), (46, 14), (46, 15), (46, 16), (55, 0), (64, 0), (64, 1), (64, 2), (64, 3), (64, 4), (66, 0), (66, 1), (66, 2), (66, 3), (66, 4), (68, 3), (68, 13), (68, 14), (68, 15), (68, 16), (77, 0), (86, 0), (86, 1), (86, 2), (86, 3), (86, 4), (88, 0), (88, 1), (88, 2), (88, 3), (88, 4), (99, 0), (108, 0), (126, 0), (135, 0), (153, 0), (162, 0)]) rfl)) (SA_trans (SA_refl) (SA_glu (ι := [8, 2, 1, 5, 3, 4, 6, 7, 9, 10, 11, 12, 13, 14, 15, 16, 17, 18, 19, 20, 21, 22, 23, 24, 25, 26, 27, 28, 29, 30, 31, 32, 33, 34, 35, 36, 37, 38, 39, 40, 41, 42, 43, 44, 45, 46, 47, 48, 49, 50, 51, 52, 53, 54, 55, 56, 57, 58, 59, 60, 61, 62, 63, 64, 65, 66, 67, 68, 69, 70, 71, 72, 73, 74, 75, 76, 77, 78, 79, 80, 81, 82, 83, 84, 85, 86, 87, 88, 89, 90, 91, 92, 93, 94, 95, 96, 97, 98, 99, 100, 101, 102, 103, 104, 105, 106, 107, 108, 109, 110, 111, 112, 113, 114, 115, 116, 117, 118, 119, 120, 121, 122, 123, 124, 125, 126, 127, 128, 129, 130, 131, 132, 133, 134, 135, 136, 137, 138, 139, 140, 141, 142, 143, 144, 145, 146, 147, 148, 149, 150, 151, 152, 153, 154, 155, 156, 157, 158, 159, 160, 161, 162, 163, 164, 165, 166, 167, 168, 169, 170]) hA166 eA166 (by decide +kernel)) (any_subA (lₚ := [3, 12, 13, 14, 15, 16, 17, 19, 21, 23, 24, 25, 26, 27, 30, 31, 33, 34, 38, 39, 40, 41, 42, 47, 48, 49, 50, 51, 52, 53, 54, 56, 57, 58, 59, 60, 61, 62, 63, 65, 67, 69, 70, 71, 72, 73, 74, 75, 76, 78, 79, 80, 81, 82, 83, 84, 85, 87, 89, 100, 101, 102, 103, 104, 105, 106, 107, 109, 110, 111, 112, 113, 114, 115, 116, 127, 128, 129, 130, 131, 132, 133, 134, 136, 137, 138, 139, 140, 141, 142, 143, 154, 155, 156, 157, 158, 159, 160, 161, 163, 164, 165, 166, 167, 168, 169, 170]) rfl)) (pf166_2_0) (pf166_11_0) (pf166_10_7) (pf166_10_8) (pf166_10_1) (pf166_10_2) (pf166_10_3) (pf166_18_0) (pf166_20_0) (pf166_22_0) (pf166_8_13) (pe166_38_0) (pf166_8_14) (pe166_38_1) (pe166_38_2) (pf166_64_0) (pf166_66_0) (pf166_86_0) (pf166_88_0) (m166_4) ((congrArg (fun q : Nat => (q : Int)) (eN166 3)).trans em166_4) (m166_11) ((congrArg (fun q : Nat => (q : Int)) (eN166 12)).trans em166_11) (m166_12) ((congrArg (fun q : Nat => (q : Int)) (eN166 13)).trans em166_12) (m166_13) ((congrArg (fun q : Nat => (q : Int)) (eN166 14)).trans em166_13) (m166_14) ((congrArg (fun q : Nat => (q : Int)) (eN166 15)).trans em166_14) (m166_15) ((congrArg (fun q : Nat => (q : Int)) (eN166 16)).trans em166_15) (m166_16) ((congrArg (fun q : Nat => (q : Int)) (eN166 17)).trans em166_16) (m166_18) ((congrArg (fun q : Nat => (q : Int)) (eN166 19)).trans em166_18) (m166_20) ((congrArg (fun q : Nat => (q : Int)) (eN166 21)).trans em166_20) (m166_22) ((congrArg (fun q : Nat => (q : Int)) (eN166 23)).trans em166_22) (m166_37) ((congrArg (fun q : Nat => (q : Int)) (eN166 38)).trans em166_37) (m166_38) ((congrArg (fun q : Nat => (q : Int)) (eN166 39)).trans em166_38) (m166_39) ((congrArg (fun q : Nat => (q : Int)) (eN166 40)).trans em166_39) (m166_40) ((congrArg (fun q : Nat => (q : Int)) (eN166 41)).trans em166_40) (m166_41) ((congrArg (fun q : Nat => (q : Int)) (eN166 42)).trans em166_41) (m166_64) ((congrArg (fun q : Nat => (q : Int)) (eN166 65)).trans em166_64) (m166_66) ((congrArg (fun q : Nat => (q : Int)) (eN166 67)).trans em166_66) (m166_86) ((congrArg (fun q : Nat => (q : Int)) (eN166 87)).trans em166_86) (m166_88) ((congrArg (fun q : Nat => (q : Int)) (eN166 89)).trans em166_88) (y166_1_1) (((eF166 2 1).trans ey166_1_1)) (y166_10_1) (((eF166 11 1).trans ey166_10_1)) (y166_17_1) (((eF166 18 1).trans ey166_17_1)) (y166_19_1) (((eF166 20 1).trans ey166_19_1)) (y166_21_1) (((eF166 22 1).trans ey166_21_1)) (y166_63_1) (((eF166 64 1).trans ey166_63_1)) (y166_65_1) (((eF166 66 1).trans ey166_65_1)) (y166_85_1) (((eF166 86 1).trans ey166_85_1)) (y166_87_1) (((eF166 88 1).trans ey166_87_1)) (w166_26) ((eA166 27).trans ew166_26) (w166_48) ((eA166 49).trans ew166_48) (w166_70) ((eA166 71).trans ew166_70) (show inr ((-1)) by omega) (show 0 ≤ (y166_1_1) ∧ (y166_1_1) ≤ (m166_4) ∧ (m166_4) ≤ 65536 by have qh0 := HIDe r167; have qh1 := HIDe r186; omega) (show 0 ≤ (y166_10_1) ∧ (y166_10_1) ≤ (m166_11) ∧ (m166_11) ≤ 65536 by have qh0 := HIDe r168; have qh1 := HIDe r187; omega) (show (m166_12) = 0 ∨ (m166_12) = 2048 by have qh0 := HIDe r169; omega) (show (m166_13) ≤ 16384 by have qh0 := HIDe r170; omega) (show (m166_14) = (m166_15) ∧ (m166_16) = (m166_15) ∧ (m166_15) ≤ 65536 ∧ ((m166_15) = 0 ∨ 64 ≤ (m166_15)) ∧ lgq ((m166_15)) = 0 by have qh0 := HIDe r171; have qh1 := HIDe r172; have qh2 := HIDe r173; omega) (show 0 ≤ (y166_17_1) ∧ (y166_17_1) ≤ (m166_18) ∧ (m166_18) ≤ 65536 by have qh0 := HIDe r174; have qh1 := HIDe r188; omega) (show 0 ≤ (y166_19_1) ∧ (y166_19_1) ≤ (m166_20) ∧ (m166_20) ≤ 65536 by have qh0 := HIDe r175; have qh1 := HIDe r189; omega) (show 0 ≤ (y166_21_1) ∧ (y166_21_1) ≤ (m166_22) ∧ (m166_22) ≤ 65536 by have qh0 := HIDe r176; have qh1 := HIDe r190; omega) (show (m166_37) = 3 ∧ (m166_38) = (m166_39) ∧ (m166_40) = (m166_39) ∧ (m166_41) = (m166_39) ∧ lgq ((m166_39)) = 0 ∧ (m166_39) ≤ 16384 by have qh0 := HIDe r177; have qh1 := HIDe r178; have qh2 := HIDe r179; have qh3 := HIDe r180; have qh4 := HIDe r181; omega) (show 0 ≤ (y166_63_1) ∧ (y166_63_1) ≤ (m166_64) ∧ (m166_64) ≤ 65536 by have qh0 := HIDe r182; have qh1 := HIDe r191; omega) (show 0 ≤ (y166_65_1) ∧ (y166_65_1) ≤ (m166_66) ∧ (m166_66) ≤ 65536 by have qh0 := HIDe r183; have qh1 := HIDe r192; omega) (show CEL ((w166_48)) by assumption) (show 0 ≤ (y166_85_1) ∧ (y166_85_1) ≤ (m166_86) ∧ (m166_86) ≤ 65536 by have qh0 := HIDe r184; have qh1 := HIDe r193; omega) (show 0 ≤ (y166_87_1) ∧ (y166_87_1) ≤ (m166_88) ∧ (m166_88) ≤ 65536 by have qh0 := HIDe r185; have qh1 := HIDe r194; omega) (show CEL ((w166_70)) by assumption) (show 0 ≤ ((w166_26)) 0 ∧ ((w166_26)) 0 ≤ 3 ∧ 0 ≤ ((w166_26)) 1 ∧ ((w166_26)) 1 ≤ 3 ∧ 0 ≤ ((w166_26)) 2 ∧ ((w166_26)) 2 ≤ 3 by omega))
