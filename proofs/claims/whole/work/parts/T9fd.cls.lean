abbrev V17_vD4d : vV := [(0, 0, [(4, 0), (4, 0), (4, 0), (4, 0), (4, 0), (4, 0), (4, 0), (4, 0), (4, 0), (4, 0), (4, 0), (4, 0), (4, 0), (4, 0), (4, 0), (4, 0), (4, 0), (0, 0), (0, 0)]), (0, 7, [(4, 0), (0, 0), (1, 0), (0, 0), (0, 0)]), (0, 7, [(4, 0), (0, 0), (1, 0), (0, 0), (0, 0)]), (1, 0, []), (1, 0, []), (0, 4, [(4, 0), (4, 0), (0, 0), (4, 0), (4, 0)]), (0, 7, [(4, 0), (0, 0), (1, 0), (0, 0), (0, 0)]), (1, 0, []), (0, 6, [(4, 0), (4, 0), (4, 0), (4, 0), (4, 0), (4, 0), (4, 0), (4, 0), (4, 0), (4, 0), (4, 0), (4, 0), (4, 0), (4, 0), (4, 0), (0, 0), (0, 0), (4, 0), (4, 0)]), (1, 1, []), (0, 5, [(4, 0), (4, 0), (4, 0), (4, 0), (0, 0), (0, 0), (0, 0), (4, 0), (4, 0), (0, 0), (0, 0), (0, 0), (0, 0), (0, 0), (0, 0), (0, 0), (0, 0), (0, 0), (0, 0)]), (0, 7, [(4, 0), (0, 0), (1, 0), (0, 0), (0, 0)]), (1, 0, []), (1, 1, []), (1, 1, []), (1, 1, []), (1, 1, []), (1, 1, []), (0, 7, [(4, 0), (0, 0), (1, 0), (0, 0), (0, 0)]), (1, 0, []), (0, 7, [(4, 0), (0, 0), (1, 0), (0, 0), (0, 0)]), (1, 0, []), (0, 7, [(4, 0), (0, 0), (1, 0), (0, 0), (0, 0)]), (1, 0, []), (1, 1, []), (1, 1, []), (1, 1, []), (1, 1, []), (1, 6, []), (0, 9, [(4, 0), (4, 0), (4, 0)]), (1, 5, []), (1, 2, []), (0, 9, [(4, 0), (4, 0), (4, 0)]), (1, 5, []), (1, 2, []), (1, 5, []), (1, 5, []), (1, 5, []), (1, 7, []), (1, 1, []), (1, 1, []), (1, 1, []), (1, 1, []), (0, 9, [(4, 0), (4, 0), (4, 0)]), (1, 5, []), (1, 2, []), (0, 3, [(4, 0), (4, 0), (4, 0), (0, 0), (4, 0), (4, 0), (4, 0), (4, 0), (4, 0), (4, 0), (4, 0), (4, 0), (4, 0), (0, 0), (0, 0), (0, 0), (0, 0)]), (1, 1, []), (1, 1, []), (1, 1, []), (1, 1, []), (1, 1, []), (1, 1, []), (1, 1, []), (1, 1, []), (0, 8, [(0, 0), (0, 0), (4, 0), (4, 0), (4, 0), (4, 0), (4, 0), (4, 0), (4, 0), (4, 0), (4, 0), (0, 0), (0, 0)]), (1, 1, []), (1, 1, []), (1, 1, []), (1, 1, []), (1, 1, []), (1, 1, []), (1, 1, []), (1, 1, []), (0, 7, [(4, 0), (0, 0), (1, 0), (0, 0), (0, 0)]), (1, 0, []), (0, 7, [(4, 0), (0, 0), (1, 0), (0, 0), (0, 0)]), (1, 0, []), (0, 3, [(4, 0), (4, 0), (4, 0), (0, 0), (4, 0), (4, 0), (4, 0), (4, 0), (4, 0), (4, 0), (4, 0), (4, 0), (4, 0), (0, 0), (0, 0), (0, 0), (0, 0)]), (1, 1, []), (1, 1, []), (1, 1, []), (1, 1, []), (1, 1, []), (1, 1, []), (1, 1, []), (1, 1, []), (0, 8, [(0, 0), (0, 0), (4, 0), (4, 0), (4, 0), (4, 0), (4, 0), (4, 0), (4, 0), (4, 0), (4, 0), (0, 0), (0, 0)]), (1, 1, []), (1, 1, []), (1, 1, []), (1, 1, []), (1, 1, []), (1, 1, []), (1, 1, []), (1, 1, []), (0, 7, [(4, 0), (0, 0), (1, 0), (0, 0), (0, 0)]), (1, 0, []), (0, 7, [(4, 0), (0, 0), (1, 0), (0, 0), (0, 0)]), (1, 0, []), (0, 3, [(4, 0), (4, 0), (4, 0), (0, 0), (4, 0), (4, 0), (4, 0), (4, 0), (4, 0), (4, 0), (4, 0), (4, 0), (4, 0), (0, 0), (0, 0), (0, 0), (0, 0)]), (1, 1, []), (1, 1, []), (0, 8, [(0, 0), (0, 0), (4, 0), (4, 0), (4, 0), (4, 0), (4, 0), (4, 0), (4, 0), (4, 0), (4, 0), (0, 0), (0, 0)]), (1, 1, []), (1, 1, []), (1, 1, []), (1, 1, []), (1, 1, []), (1, 1, []), (1, 1, []), (1, 1, []), (0, 8, [(0, 0), (0, 0), (4, 0), (4, 0), (4, 0), (4, 0), (4, 0), (4, 0), (4, 0), (4, 0), (4, 0), (0, 0), (0, 0)]), (1, 1, []), (1, 1, []), (1, 1, []), (1, 1, []), (1, 1, []), (1, 1, []), (1, 1, []), (1, 1, []), (0, 8, [(0, 0), (0, 0), (4, 0), (4, 0), (4, 0), (4, 0), (4, 0), (4, 0), (4, 0), (4, 0), (4, 0), (0, 0), (0, 0)]), (1, 1, []), (1, 1, []), (1, 1, []), (1, 1, []), (1, 1, []), (1, 1, []), (1, 1, []), (1, 1, []), (1, 5, []), (0, 8, [(0, 0), (0, 0), (4, 0), (4, 0), (4, 0), (4, 0), (4, 0), (4, 0), (4, 0), (4, 0), (4, 0), (0, 0), (0, 0)]), (1, 1, []), (1, 1, []), (1, 1, []), (1, 1, []), (1, 1, []), (1, 1, []), (1, 1, []), (1, 1, []), (0, 8, [(0, 0), (0, 0), (4, 0), (4, 0), (4, 0), (4, 0), (4, 0), (4, 0), (4, 0), (4, 0), (4, 0), (0, 0), (0, 0)]), (1, 1, []), (1, 1, []), (1, 1, []), (1, 1, []), (1, 1, []), (1, 1, []), (1, 1, []), (1, 1, []), (0, 8, [(0, 0), (0, 0), (4, 0), (4, 0), (4, 0), (4, 0), (4, 0), (4, 0), (4, 0), (4, 0), (4, 0), (0, 0), (0, 0)]), (1, 1, []), (1, 1, []), (1, 1, []), (1, 1, []), (1, 1, []), (1, 1, []), (1, 1, []), (1, 1, []), (0, 8, [(0, 0), (0, 0), (4, 0), (4, 0), (4, 0), (4, 0), (4, 0), (4, 0), (4, 0), (4, 0), (4, 0), (0, 0), (0, 0)]), (1, 1, []), (1, 1, []), (1, 1, []), (1, 1, []), (1, 1, []), (1, 1, []), (1, 1, []), (1, 1, []), (0, 8, [(0, 0), (0, 0), (4, 0), (4, 0), (4, 0), (4, 0), (4, 0), (4, 0), (4, 0), (4, 0), (4, 0), (0, 0), (0, 0)]), (1, 1, []), (1, 1, []), (1, 1, []), (1, 1, []), (1, 1, []), (1, 1, []), (1, 1, []), (1, 1, []), (0, 8, [(0, 0), (0, 0), (4, 0), (4, 0), (4, 0), (4, 0), (4, 0), (4, 0), (4, 0), (4, 0), (4, 0), (0, 0), (0, 0)]), (1, 1, []), (1, 1, []), (1, 1, []), (1, 1, []), (1, 1, []), (1, 1, []), (1, 1, []), (1, 1, []), (0, 8, [(0, 0), (0, 0), (4, 0), (4, 0), (4, 0), (4, 0), (4, 0), (4, 0), (4, 0), (4, 0), (4, 0), (0, 0), (0, 0)]), (1, 1, []), (1, 1, []), (1, 1, []), (1, 1, []), (1, 1, []), (1, 1, []), (1, 1, []), (1, 1, []), (0, 8, [(0, 0), (0, 0), (4, 0), (4, 0), (4, 0), (4, 0), (4, 0), (4, 0), (4, 0), (4, 0), (4, 0), (0, 0), (0, 0)]), (1, 1, []), (1, 1, []), (1, 1, []), (1, 1, []), (1, 1, []), (1, 1, []), (1, 1, []), (1, 1, []), (0, 8, [(0, 0), (0, 0), (4, 0), (4, 0), (4, 0), (4, 0), (4, 0), (4, 0), (4, 0), (4, 0), (4, 0), (0, 0), (0, 0)]), (1, 1, []), (1, 1, []), (1, 1, []), (1, 1, []), (1, 1, []), (1, 1, []), (1, 1, []), (1, 1, []), (1, 1, []), (1, 1, [])]
set_option maxRecDepth 20000 in
/-- PackHouse.write: this, @F, this.written, this.written.bytes, @F.bytes, this.dictionary, this.dictionary.content, this.dictionary.content.bytes, this.packer, this.packer.settings, this.packer.finder, this.packer.finder.data, this.packer.finder.data.bytes, this.packer.finder.heads, this.packer.finder.back, this.packer.finder.literals, this.packer.finder.lengths, this.packer.finder.distances, this.packer.packed, this.packer.packed.bytes, this.packer.literals, this.packer.literals.bytes, this.packer.told, this.packer.told.bytes, this.packer.byteCounts, this.packer.symbolCounts, this.packer.counts, this.packer.modes, this.packer.ownCodes, this.packer.now, this.packer.now.tables, this.packer.now.latest, this.packer.next, this.packer.next.tables, this.packer.next.latest, this.packer.known, this.packer.ownTables, this.packer.otherTables, this.packer.symbols, this.packer.symbols.0, this.packer.numbers, this.packer.symbols.1, this.packer.symbols.2, this.dictionary.stand, this.dictionary.stand.tables, this.dictionary.stand.latest, this.packer.ownCodes.0, this.packer.ownCodes.0.lengths, this.packer.ownCodes.0.codes, this.packer.ownCodes.0.cells, this.packer.ownCodes.0.weights, this.packer.ownCodes.0.weightCounts, this.packer.ownCodes.0.order, this.packer.ownCodes.0.amounts, this.packer.ownCodes.0.parents, this.packer.ownCodes.0.weightShare, this.packer.ownCodes.0.weightShare.points, this.packer.ownCodes.0.weightShare.masses, this.packer.ownCodes.0.weightShare.mostBits, this.packer.ownCodes.0.weightShare.starts, this.packer.ownCodes.0.weightShare.used, this.packer.ownCodes.0.weightShare.symbolAt, this.packer.ownCodes.0.weightShare.numberAt, this.packer.ownCodes.0.weightShare.placeOf, this.packer.ownCodes.0.orderFive, this.packer.ownCodes.0.orderFive.bytes, this.packer.ownCodes.0.orderSix, this.packer.ownCodes.0.orderSix.bytes, this.packer.ownCodes.1, this.packer.ownCodes.1.lengths, this.packer.ownCodes.1.codes, this.packer.ownCodes.1.cells, this.packer.ownCodes.1.weights, this.packer.ownCodes.1.weightCounts, this.packer.ownCodes.1.order, this.packer.ownCodes.1.amounts, this.packer.ownCodes.1.parents, this.packer.ownCodes.1.weightShare, this.packer.ownCodes.1.weightShare.points, this.packer.ownCodes.1.weightShare.masses, this.packer.ownCodes.1.weightShare.mostBits, this.packer.ownCodes.1.weightShare.starts, this.packer.ownCodes.1.weightShare.used, this.packer.ownCodes.1.weightShare.symbolAt, this.packer.ownCodes.1.weightShare.numberAt, this.packer.ownCodes.1.weightShare.placeOf, this.packer.ownCodes.1.orderFive, this.packer.ownCodes.1.orderFive.bytes, this.packer.ownCodes.1.orderSix, this.packer.ownCodes.1.orderSix.bytes, this.dictionary.codes, this.dictionary.codes.lengths, this.dictionary.codes.codes, this.packer.known.0, this.packer.known.0.points, this.packer.known.0.masses, this.packer.known.0.mostBits, this.packer.known.0.starts, this.packer.known.0.symbolAt, this.packer.known.0.numberAt, this.packer.known.0.placeOf, this.packer.known.0.used, this.packer.ownTables.0, this.packer.ownTables.0.points, this.packer.ownTables.0.masses, this.packer.ownTables.0.mostBits, this.packer.ownTables.0.starts, this.packer.ownTables.0.used, this.packer.ownTables.0.symbolAt, this.packer.ownTables.0.numberAt, this.packer.ownTables.0.placeOf, this.packer.otherTables.0, this.packer.otherTables.0.points, this.packer.otherTables.0.masses, this.packer.otherTables.0.mostBits, this.packer.otherTables.0.starts, this.packer.otherTables.0.used, this.packer.otherTables.0.symbolAt, this.packer.otherTables.0.numberAt, this.packer.otherTables.0.placeOf, this.dictionary.tables, this.dictionary.tables.0, this.dictionary.tables.0.points, this.dictionary.tables.0.masses, this.dictionary.tables.0.mostBits, this.dictionary.tables.0.starts, this.dictionary.tables.0.used, this.dictionary.tables.0.symbolAt, this.dictionary.tables.0.numberAt, this.dictionary.tables.0.placeOf, this.packer.known.1, this.packer.known.1.points, this.packer.known.1.masses, this.packer.known.1.mostBits, this.packer.known.1.starts, this.packer.known.1.symbolAt, this.packer.known.1.numberAt, this.packer.known.1.placeOf, this.packer.known.1.used, this.packer.ownTables.1, this.packer.ownTables.1.points, this.packer.ownTables.1.masses, this.packer.ownTables.1.mostBits, this.packer.ownTables.1.starts, this.packer.ownTables.1.used, this.packer.ownTables.1.symbolAt, this.packer.ownTables.1.numberAt, this.packer.ownTables.1.placeOf, this.packer.otherTables.1, this.packer.otherTables.1.points, this.packer.otherTables.1.masses, this.packer.otherTables.1.mostBits, this.packer.otherTables.1.starts, this.packer.otherTables.1.used, this.packer.otherTables.1.symbolAt, this.packer.otherTables.1.numberAt, this.packer.otherTables.1.placeOf, this.dictionary.tables.1, this.dictionary.tables.1.points, this.dictionary.tables.1.masses, this.dictionary.tables.1.mostBits, this.dictionary.tables.1.starts, this.dictionary.tables.1.used, this.dictionary.tables.1.symbolAt, this.dictionary.tables.1.numberAt, this.dictionary.tables.1.placeOf, this.packer.known.2, this.packer.known.2.points, this.packer.known.2.masses, this.packer.known.2.mostBits, this.packer.known.2.starts, this.packer.known.2.symbolAt, this.packer.known.2.numberAt, this.packer.known.2.placeOf, this.packer.known.2.used, this.packer.ownTables.2, this.packer.ownTables.2.points, this.packer.ownTables.2.masses, this.packer.ownTables.2.mostBits, this.packer.ownTables.2.starts, this.packer.ownTables.2.used, this.packer.ownTables.2.symbolAt, this.packer.ownTables.2.numberAt, this.packer.ownTables.2.placeOf, this.packer.otherTables.2, this.packer.otherTables.2.points, this.packer.otherTables.2.masses, this.packer.otherTables.2.mostBits, this.packer.otherTables.2.starts, this.packer.otherTables.2.used, this.packer.otherTables.2.symbolAt, this.packer.otherTables.2.numberAt, this.packer.otherTables.2.placeOf, this.dictionary.tables.2, this.dictionary.tables.2.points, this.dictionary.tables.2.masses, this.dictionary.tables.2.mostBits, this.dictionary.tables.2.starts, this.dictionary.tables.2.used, this.dictionary.tables.2.symbolAt, this.dictionary.tables.2.numberAt, this.dictionary.tables.2.placeOf, this.dictionary.codes.cells, this.checkCounts -/
theorem C17_vD4d {σE : rS} {D N : Nat → Nat} {F : hF} {A : hA} {d c s : Nat} {Q : wQ} (H : HW V17_vD4d σE D N F A) (HT : STC σE) {x1 : Int} (pf2 : F 0 5 = (D 2 : Int)) (pf3 : F 2 0 = (D 3 : Int)) (pf4 : F 1 0 = (D 4 : Int)) (pf5 : F 0 3 = (D 5 : Int)) (pf6 : F 5 0 = (D 6 : Int)) (pf7 : F 6 0 = (D 7 : Int)) (pf8 : F 0 11 = (D 8 : Int)) (pf9 : F 8 0 = (D 9 : Int)) (pf10 : F 8 1 = (D 10 : Int)) (pf11 : F 10 0 = (D 11 : Int)) (pf12 : F 11 0 = (D 12 : Int)) (pf13 : F 10 7 = (D 13 : Int)) (pf14 : F 10 8 = (D 14 : Int)) (pf15 : F 10 1 = (D 15 : Int)) (pf16 : F 10 2 = (D 16 : Int)) (pf17 : F 10 3 = (D 17 : Int)) (pf18 : F 8 8 = (D 18 : Int)) (pf19 : F 18 0 = (D 19 : Int)) (pf20 : F 8 9 = (D 20 : Int)) (pf21 : F 20 0 = (D 21 : Int)) (pf22 : F 8 10 = (D 22 : Int)) (pf23 : F 22 0 = (D 23 : Int)) (pf24 : F 8 11 = (D 24 : Int)) (pf25 : F 8 12 = (D 25 : Int)) (pf26 : F 8 18 = (D 26 : Int)) (pf27 : F 8 17 = (D 27 : Int)) (pf28 : F 8 3 = (D 28 : Int)) (pf29 : F 8 6 = (D 29 : Int)) (pf30 : F 29 1 = (D 30 : Int)) (pf31 : F 29 2 = (D 31 : Int)) (pf32 : F 8 7 = (D 32 : Int)) (pf33 : F 32 1 = (D 33 : Int)) (pf34 : F 32 2 = (D 34 : Int)) (pf35 : F 8 2 = (D 35 : Int)) (pf36 : F 8 4 = (D 36 : Int)) (pf37 : F 8 5 = (D 37 : Int)) (pf38 : F 8 13 = (D 38 : Int)) (pf39 : A 38 0 = (D 39 : Int)) (pf40 : F 8 14 = (D 40 : Int)) (pf41 : A 38 1 = (D 41 : Int)) (pf42 : A 38 2 = (D 42 : Int)) (pf43 : F 5 1 = (D 43 : Int)) (pf44 : F 43 1 = (D 44 : Int)) (pf45 : F 43 2 = (D 45 : Int)) (pf46 : A 28 0 = (D 46 : Int)) (pf47 : F 46 0 = (D 47 : Int)) (pf48 : F 46 1 = (D 48 : Int)) (pf49 : F 46 2 = (D 49 : Int)) (pf50 : F 46 4 = (D 50 : Int)) (pf51 : F 46 5 = (D 51 : Int)) (pf52 : F 46 10 = (D 52 : Int)) (pf53 : F 46 11 = (D 53 : Int)) (pf54 : F 46 12 = (D 54 : Int)) (pf55 : F 46 6 = (D 55 : Int)) (pf56 : F 55 2 = (D 56 : Int)) (pf57 : F 55 3 = (D 57 : Int)) (pf58 : F 55 4 = (D 58 : Int)) (pf59 : F 55 5 = (D 59 : Int)) (pf60 : F 55 6 = (D 60 : Int)) (pf61 : F 55 7 = (D 61 : Int)) (pf62 : F 55 8 = (D 62 : Int)) (pf63 : F 55 9 = (D 63 : Int)) (pf64 : F 46 7 = (D 64 : Int)) (pf65 : F 64 0 = (D 65 : Int)) (pf66 : F 46 8 = (D 66 : Int)) (pf67 : F 66 0 = (D 67 : Int)) (pf68 : A 28 1 = (D 68 : Int)) (pf69 : F 68 0 = (D 69 : Int)) (pf70 : F 68 1 = (D 70 : Int)) (pf71 : F 68 2 = (D 71 : Int)) (pf72 : F 68 4 = (D 72 : Int)) (pf73 : F 68 5 = (D 73 : Int)) (pf74 : F 68 10 = (D 74 : Int)) (pf75 : F 68 11 = (D 75 : Int)) (pf76 : F 68 12 = (D 76 : Int)) (pf77 : F 68 6 = (D 77 : Int)) (pf78 : F 77 2 = (D 78 : Int)) (pf79 : F 77 3 = (D 79 : Int)) (pf80 : F 77 4 = (D 80 : Int)) (pf81 : F 77 5 = (D 81 : Int)) (pf82 : F 77 6 = (D 82 : Int)) (pf83 : F 77 7 = (D 83 : Int)) (pf84 : F 77 8 = (D 84 : Int)) (pf85 : F 77 9 = (D 85 : Int)) (pf86 : F 68 7 = (D 86 : Int)) (pf87 : F 86 0 = (D 87 : Int)) (pf88 : F 68 8 = (D 88 : Int)) (pf89 : F 88 0 = (D 89 : Int)) (pf90 : F 5 3 = (D 90 : Int)) (pf91 : F 90 0 = (D 91 : Int)) (pf92 : F 90 1 = (D 92 : Int)) (pf93 : A 35 0 = (D 93 : Int)) (pf94 : F 93 2 = (D 94 : Int)) (pf95 : F 93 3 = (D 95 : Int)) (pf96 : F 93 4 = (D 96 : Int)) (pf97 : F 93 5 = (D 97 : Int)) (pf98 : F 93 7 = (D 98 : Int)) (pf99 : F 93 8 = (D 99 : Int)) (pf100 : F 93 9 = (D 100 : Int)) (pf101 : F 93 6 = (D 101 : Int)) (pf102 : A 36 0 = (D 102 : Int)) (pf103 : F 102 2 = (D 103 : Int)) (pf104 : F 102 3 = (D 104 : Int)) (pf105 : F 102 4 = (D 105 : Int)) (pf106 : F 102 5 = (D 106 : Int)) (pf107 : F 102 6 = (D 107 : Int)) (pf108 : F 102 7 = (D 108 : Int)) (pf109 : F 102 8 = (D 109 : Int)) (pf110 : F 102 9 = (D 110 : Int)) (pf111 : A 37 0 = (D 111 : Int)) (pf112 : F 111 2 = (D 112 : Int)) (pf113 : F 111 3 = (D 113 : Int)) (pf114 : F 111 4 = (D 114 : Int)) (pf115 : F 111 5 = (D 115 : Int)) (pf116 : F 111 6 = (D 116 : Int)) (pf117 : F 111 7 = (D 117 : Int)) (pf118 : F 111 8 = (D 118 : Int)) (pf119 : F 111 9 = (D 119 : Int)) (pf120 : F 5 4 = (D 120 : Int)) (pf121 : A 120 0 = (D 121 : Int)) (pf122 : F 121 2 = (D 122 : Int)) (pf123 : F 121 3 = (D 123 : Int)) (pf124 : F 121 4 = (D 124 : Int)) (pf125 : F 121 5 = (D 125 : Int)) (pf126 : F 121 6 = (D 126 : Int)) (pf127 : F 121 7 = (D 127 : Int)) (pf128 : F 121 8 = (D 128 : Int)) (pf129 : F 121 9 = (D 129 : Int)) (pf130 : A 35 1 = (D 130 : Int)) (pf131 : F 130 2 = (D 131 : Int)) (pf132 : F 130 3 = (D 132 : Int)) (pf133 : F 130 4 = (D 133 : Int)) (pf134 : F 130 5 = (D 134 : Int)) (pf135 : F 130 7 = (D 135 : Int)) (pf136 : F 130 8 = (D 136 : Int)) (pf137 : F 130 9 = (D 137 : Int)) (pf138 : F 130 6 = (D 138 : Int)) (pf139 : A 36 1 = (D 139 : Int)) (pf140 : F 139 2 = (D 140 : Int)) (pf141 : F 139 3 = (D 141 : Int)) (pf142 : F 139 4 = (D 142 : Int)) (pf143 : F 139 5 = (D 143 : Int)) (pf144 : F 139 6 = (D 144 : Int)) (pf145 : F 139 7 = (D 145 : Int)) (pf146 : F 139 8 = (D 146 : Int)) (pf147 : F 139 9 = (D 147 : Int)) (pf148 : A 37 1 = (D 148 : Int)) (pf149 : F 148 2 = (D 149 : Int)) (pf150 : F 148 3 = (D 150 : Int)) (pf151 : F 148 4 = (D 151 : Int)) (pf152 : F 148 5 = (D 152 : Int)) (pf153 : F 148 6 = (D 153 : Int)) (pf154 : F 148 7 = (D 154 : Int)) (pf155 : F 148 8 = (D 155 : Int)) (pf156 : F 148 9 = (D 156 : Int)) (pf157 : A 120 1 = (D 157 : Int)) (pf158 : F 157 2 = (D 158 : Int)) (pf159 : F 157 3 = (D 159 : Int)) (pf160 : F 157 4 = (D 160 : Int)) (pf161 : F 157 5 = (D 161 : Int)) (pf162 : F 157 6 = (D 162 : Int)) (pf163 : F 157 7 = (D 163 : Int)) (pf164 : F 157 8 = (D 164 : Int)) (pf165 : F 157 9 = (D 165 : Int)) (pf166 : A 35 2 = (D 166 : Int)) (pf167 : F 166 2 = (D 167 : Int)) (pf168 : F 166 3 = (D 168 : Int)) (pf169 : F 166 4 = (D 169 : Int)) (pf170 : F 166 5 = (D 170 : Int)) (pf171 : F 166 7 = (D 171 : Int)) (pf172 : F 166 8 = (D 172 : Int)) (pf173 : F 166 9 = (D 173 : Int)) (pf174 : F 166 6 = (D 174 : Int)) (pf175 : A 36 2 = (D 175 : Int)) (pf176 : F 175 2 = (D 176 : Int)) (pf177 : F 175 3 = (D 177 : Int)) (pf178 : F 175 4 = (D 178 : Int)) (pf179 : F 175 5 = (D 179 : Int)) (pf180 : F 175 6 = (D 180 : Int)) (pf181 : F 175 7 = (D 181 : Int)) (pf182 : F 175 8 = (D 182 : Int)) (pf183 : F 175 9 = (D 183 : Int)) (pf184 : A 37 2 = (D 184 : Int)) (pf185 : F 184 2 = (D 185 : Int)) (pf186 : F 184 3 = (D 186 : Int)) (pf187 : F 184 4 = (D 187 : Int)) (pf188 : F 184 5 = (D 188 : Int)) (pf189 : F 184 6 = (D 189 : Int)) (pf190 : F 184 7 = (D 190 : Int)) (pf191 : F 184 8 = (D 191 : Int)) (pf192 : F 184 9 = (D 192 : Int)) (pf193 : A 120 2 = (D 193 : Int)) (pf194 : F 193 2 = (D 194 : Int)) (pf195 : F 193 3 = (D 195 : Int)) (pf196 : F 193 4 = (D 196 : Int)) (pf197 : F 193 5 = (D 197 : Int)) (pf198 : F 193 6 = (D 198 : Int)) (pf199 : F 193 7 = (D 199 : Int)) (pf200 : F 193 8 = (D 200 : Int)) (pf201 : F 193 9 = (D 201 : Int)) (pf202 : F 90 2 = (D 202 : Int)) (pf203 : F 0 15 = (D 203 : Int)) (n3 : Int) (en3 : (N 3 : Int) = n3) (n4 : Int) (en4 : (N 4 : Int) = n4) (n7 : Int) (en7 : (N 7 : Int) = n7) (n9 : Int) (en9 : (N 9 : Int) = n9) (n12 : Int) (en12 : (N 12 : Int) = n12) (n13 : Int) (en13 : (N 13 : Int) = n13) (n14 : Int) (en14 : (N 14 : Int) = n14) (n15 : Int) (en15 : (N 15 : Int) = n15) (n16 : Int) (en16 : (N 16 : Int) = n16) (n17 : Int) (en17 : (N 17 : Int) = n17) (n19 : Int) (en19 : (N 19 : Int) = n19) (n21 : Int) (en21 : (N 21 : Int) = n21) (n23 : Int) (en23 : (N 23 : Int) = n23) (n24 : Int) (en24 : (N 24 : Int) = n24) (n25 : Int) (en25 : (N 25 : Int) = n25) (n26 : Int) (en26 : (N 26 : Int) = n26) (n27 : Int) (en27 : (N 27 : Int) = n27) (n28 : Int) (en28 : (N 28 : Int) = n28) (n30 : Int) (en30 : (N 30 : Int) = n30) (n31 : Int) (en31 : (N 31 : Int) = n31) (n33 : Int) (en33 : (N 33 : Int) = n33) (n34 : Int) (en34 : (N 34 : Int) = n34) (n35 : Int) (en35 : (N 35 : Int) = n35) (n36 : Int) (en36 : (N 36 : Int) = n36) (n37 : Int) (en37 : (N 37 : Int) = n37) (n38 : Int) (en38 : (N 38 : Int) = n38) (n39 : Int) (en39 : (N 39 : Int) = n39) (n40 : Int) (en40 : (N 40 : Int) = n40) (n41 : Int) (en41 : (N 41 : Int) = n41) (n42 : Int) (en42 : (N 42 : Int) = n42) (n44 : Int) (en44 : (N 44 : Int) = n44) (n45 : Int) (en45 : (N 45 : Int) = n45) (n47 : Int) (en47 : (N 47 : Int) = n47) (n48 : Int) (en48 : (N 48 : Int) = n48) (n49 : Int) (en49 : (N 49 : Int) = n49) (n50 : Int) (en50 : (N 50 : Int) = n50) (n51 : Int) (en51 : (N 51 : Int) = n51) (n52 : Int) (en52 : (N 52 : Int) = n52) (n53 : Int) (en53 : (N 53 : Int) = n53) (n54 : Int) (en54 : (N 54 : Int) = n54) (n56 : Int) (en56 : (N 56 : Int) = n56) (n57 : Int) (en57 : (N 57 : Int) = n57) (n58 : Int) (en58 : (N 58 : Int) = n58) (n59 : Int) (en59 : (N 59 : Int) = n59) (n60 : Int) (en60 : (N 60 : Int) = n60) (n61 : Int) (en61 : (N 61 : Int) = n61) (n62 : Int) (en62 : (N 62 : Int) = n62) (n63 : Int) (en63 : (N 63 : Int) = n63) (n65 : Int) (en65 : (N 65 : Int) = n65) (n67 : Int) (en67 : (N 67 : Int) = n67) (n69 : Int) (en69 : (N 69 : Int) = n69) (n70 : Int) (en70 : (N 70 : Int) = n70) (n71 : Int) (en71 : (N 71 : Int) = n71) (n72 : Int) (en72 : (N 72 : Int) = n72) (n73 : Int) (en73 : (N 73 : Int) = n73) (n74 : Int) (en74 : (N 74 : Int) = n74) (n75 : Int) (en75 : (N 75 : Int) = n75) (n76 : Int) (en76 : (N 76 : Int) = n76) (n78 : Int) (en78 : (N 78 : Int) = n78) (n79 : Int) (en79 : (N 79 : Int) = n79) (n80 : Int) (en80 : (N 80 : Int) = n80) (n81 : Int) (en81 : (N 81 : Int) = n81) (n82 : Int) (en82 : (N 82 : Int) = n82) (n83 : Int) (en83 : (N 83 : Int) = n83) (n84 : Int) (en84 : (N 84 : Int) = n84) (n85 : Int) (en85 : (N 85 : Int) = n85) (n87 : Int) (en87 : (N 87 : Int) = n87) (n89 : Int) (en89 : (N 89 : Int) = n89) (n91 : Int) (en91 : (N 91 : Int) = n91) (n92 : Int) (en92 : (N 92 : Int) = n92) (n94 : Int) (en94 : (N 94 : Int) = n94) (n95 : Int) (en95 : (N 95 : Int) = n95) (n96 : Int) (en96 : (N 96 : Int) = n96) (n97 : Int) (en97 : (N 97 : Int) = n97) (n98 : Int) (en98 : (N 98 : Int) = n98) (n99 : Int) (en99 : (N 99 : Int) = n99) (n100 : Int) (en100 : (N 100 : Int) = n100) (n101 : Int) (en101 : (N 101 : Int) = n101) (n103 : Int) (en103 : (N 103 : Int) = n103) (n104 : Int) (en104 : (N 104 : Int) = n104) (n105 : Int) (en105 : (N 105 : Int) = n105) (n106 : Int) (en106 : (N 106 : Int) = n106) (n107 : Int) (en107 : (N 107 : Int) = n107) (n108 : Int) (en108 : (N 108 : Int) = n108) (n109 : Int) (en109 : (N 109 : Int) = n109) (n110 : Int) (en110 : (N 110 : Int) = n110) (n112 : Int) (en112 : (N 112 : Int) = n112) (n113 : Int) (en113 : (N 113 : Int) = n113) (n114 : Int) (en114 : (N 114 : Int) = n114) (n115 : Int) (en115 : (N 115 : Int) = n115) (n116 : Int) (en116 : (N 116 : Int) = n116) (n117 : Int) (en117 : (N 117 : Int) = n117) (n118 : Int) (en118 : (N 118 : Int) = n118) (n119 : Int) (en119 : (N 119 : Int) = n119) (n120 : Int) (en120 : (N 120 : Int) = n120) (n122 : Int) (en122 : (N 122 : Int) = n122) (n123 : Int) (en123 : (N 123 : Int) = n123) (n124 : Int) (en124 : (N 124 : Int) = n124) (n125 : Int) (en125 : (N 125 : Int) = n125) (n126 : Int) (en126 : (N 126 : Int) = n126) (n127 : Int) (en127 : (N 127 : Int) = n127) (n128 : Int) (en128 : (N 128 : Int) = n128) (n129 : Int) (en129 : (N 129 : Int) = n129) (n131 : Int) (en131 : (N 131 : Int) = n131) (n132 : Int) (en132 : (N 132 : Int) = n132) (n133 : Int) (en133 : (N 133 : Int) = n133) (n134 : Int) (en134 : (N 134 : Int) = n134) (n135 : Int) (en135 : (N 135 : Int) = n135) (n136 : Int) (en136 : (N 136 : Int) = n136) (n137 : Int) (en137 : (N 137 : Int) = n137) (n138 : Int) (en138 : (N 138 : Int) = n138) (n140 : Int) (en140 : (N 140 : Int) = n140) (n141 : Int) (en141 : (N 141 : Int) = n141) (n142 : Int) (en142 : (N 142 : Int) = n142) (n143 : Int) (en143 : (N 143 : Int) = n143) (n144 : Int) (en144 : (N 144 : Int) = n144) (n145 : Int) (en145 : (N 145 : Int) = n145) (n146 : Int) (en146 : (N 146 : Int) = n146) (n147 : Int) (en147 : (N 147 : Int) = n147) (n149 : Int) (en149 : (N 149 : Int) = n149) (n150 : Int) (en150 : (N 150 : Int) = n150) (n151 : Int) (en151 : (N 151 : Int) = n151) (n152 : Int) (en152 : (N 152 : Int) = n152) (n153 : Int) (en153 : (N 153 : Int) = n153) (n154 : Int) (en154 : (N 154 : Int) = n154) (n155 : Int) (en155 : (N 155 : Int) = n155) (n156 : Int) (en156 : (N 156 : Int) = n156) (n158 : Int) (en158 : (N 158 : Int) = n158) (n159 : Int) (en159 : (N 159 : Int) = n159) (n160 : Int) (en160 : (N 160 : Int) = n160) (n161 : Int) (en161 : (N 161 : Int) = n161) (n162 : Int) (en162 : (N 162 : Int) = n162) (n163 : Int) (en163 : (N 163 : Int) = n163) (n164 : Int) (en164 : (N 164 : Int) = n164) (n165 : Int) (en165 : (N 165 : Int) = n165) (n167 : Int) (en167 : (N 167 : Int) = n167) (n168 : Int) (en168 : (N 168 : Int) = n168) (n169 : Int) (en169 : (N 169 : Int) = n169) (n170 : Int) (en170 : (N 170 : Int) = n170) (n171 : Int) (en171 : (N 171 : Int) = n171) (n172 : Int) (en172 : (N 172 : Int) = n172) (n173 : Int) (en173 : (N 173 : Int) = n173) (n174 : Int) (en174 : (N 174 : Int) = n174) (n176 : Int) (en176 : (N 176 : Int) = n176) (n177 : Int) (en177 : (N 177 : Int) = n177) (n178 : Int) (en178 : (N 178 : Int) = n178) (n179 : Int) (en179 : (N 179 : Int) = n179) (n180 : Int) (en180 : (N 180 : Int) = n180) (n181 : Int) (en181 : (N 181 : Int) = n181) (n182 : Int) (en182 : (N 182 : Int) = n182) (n183 : Int) (en183 : (N 183 : Int) = n183) (n185 : Int) (en185 : (N 185 : Int) = n185) (n186 : Int) (en186 : (N 186 : Int) = n186) (n187 : Int) (en187 : (N 187 : Int) = n187) (n188 : Int) (en188 : (N 188 : Int) = n188) (n189 : Int) (en189 : (N 189 : Int) = n189) (n190 : Int) (en190 : (N 190 : Int) = n190) (n191 : Int) (en191 : (N 191 : Int) = n191) (n192 : Int) (en192 : (N 192 : Int) = n192) (n194 : Int) (en194 : (N 194 : Int) = n194) (n195 : Int) (en195 : (N 195 : Int) = n195) (n196 : Int) (en196 : (N 196 : Int) = n196) (n197 : Int) (en197 : (N 197 : Int) = n197) (n198 : Int) (en198 : (N 198 : Int) = n198) (n199 : Int) (en199 : (N 199 : Int) = n199) (n200 : Int) (en200 : (N 200 : Int) = n200) (n201 : Int) (en201 : (N 201 : Int) = n201) (n202 : Int) (en202 : (N 202 : Int) = n202) (n203 : Int) (en203 : (N 203 : Int) = n203) (u1_1 : Int) (eu1_1 : F 1 1 = u1_1) (u2_1 : Int) (eu2_1 : F 2 1 = u2_1) (u2_2 : Int) (eu2_2 : F 2 2 = u2_2) (u5_2 : Int) (eu5_2 : F 5 2 = u5_2) (u6_1 : Int) (eu6_1 : F 6 1 = u6_1) (u11_1 : Int) (eu11_1 : F 11 1 = u11_1) (u18_1 : Int) (eu18_1 : F 18 1 = u18_1) (u20_1 : Int) (eu20_1 : F 20 1 = u20_1) (u22_1 : Int) (eu22_1 : F 22 1 = u22_1) (u43_0 : Int) (eu43_0 : F 43 0 = u43_0) (u55_1 : Int) (eu55_1 : F 55 1 = u55_1) (u64_1 : Int) (eu64_1 : F 64 1 = u64_1) (u66_1 : Int) (eu66_1 : F 66 1 = u66_1) (u77_1 : Int) (eu77_1 : F 77 1 = u77_1) (u86_1 : Int) (eu86_1 : F 86 1 = u86_1) (u88_1 : Int) (eu88_1 : F 88 1 = u88_1) (u90_3 : Int) (eu90_3 : F 90 3 = u90_3) (u93_0 : Int) (eu93_0 : F 93 0 = u93_0) (u93_1 : Int) (eu93_1 : F 93 1 = u93_1) (u102_1 : Int) (eu102_1 : F 102 1 = u102_1) (u111_1 : Int) (eu111_1 : F 111 1 = u111_1) (u121_0 : Int) (eu121_0 : F 121 0 = u121_0) (u121_1 : Int) (eu121_1 : F 121 1 = u121_1) (u130_0 : Int) (eu130_0 : F 130 0 = u130_0) (u130_1 : Int) (eu130_1 : F 130 1 = u130_1) (u139_1 : Int) (eu139_1 : F 139 1 = u139_1) (u148_1 : Int) (eu148_1 : F 148 1 = u148_1) (u157_0 : Int) (eu157_0 : F 157 0 = u157_0) (u157_1 : Int) (eu157_1 : F 157 1 = u157_1) (u166_0 : Int) (eu166_0 : F 166 0 = u166_0) (u166_1 : Int) (eu166_1 : F 166 1 = u166_1) (u175_1 : Int) (eu175_1 : F 175 1 = u175_1) (u184_1 : Int) (eu184_1 : F 184 1 = u184_1) (u193_0 : Int) (eu193_0 : F 193 0 = u193_0) (u193_1 : Int) (eu193_1 : F 193 1 = u193_1) (w3 : Int → Int) (ew3 : A 3 = w3) (w4 : Int → Int) (ew4 : A 4 = w4) (w7 : Int → Int) (ew7 : A 7 = w7) (w9 : Int → Int) (ew9 : A 9 = w9) (w27 : Int → Int) (ew27 : A 27 = w27) (w44 : Int → Int) (ew44 : A 44 = w44) (w45 : Int → Int) (ew45 : A 45 = w45) (w49 : Int → Int) (ew49 : A 49 = w49) (w71 : Int → Int) (ew71 : A 71 = w71) (w91 : Int → Int) (ew91 : A 91 = w91) (w92 : Int → Int) (ew92 : A 92 = w92) (w94 : Int → Int) (ew94 : A 94 = w94) (w95 : Int → Int) (ew95 : A 95 = w95) (w96 : Int → Int) (ew96 : A 96 = w96) (w97 : Int → Int) (ew97 : A 97 = w97) (w98 : Int → Int) (ew98 : A 98 = w98) (w99 : Int → Int) (ew99 : A 99 = w99) (w100 : Int → Int) (ew100 : A 100 = w100) (w122 : Int → Int) (ew122 : A 122 = w122) (w123 : Int → Int) (ew123 : A 123 = w123) (w124 : Int → Int) (ew124 : A 124 = w124) (w125 : Int → Int) (ew125 : A 125 = w125) (w127 : Int → Int) (ew127 : A 127 = w127) (w128 : Int → Int) (ew128 : A 128 = w128) (w129 : Int → Int) (ew129 : A 129 = w129) (w131 : Int → Int) (ew131 : A 131 = w131) (w132 : Int → Int) (ew132 : A 132 = w132) (w133 : Int → Int) (ew133 : A 133 = w133) (w134 : Int → Int) (ew134 : A 134 = w134) (w135 : Int → Int) (ew135 : A 135 = w135) (w136 : Int → Int) (ew136 : A 136 = w136) (w137 : Int → Int) (ew137 : A 137 = w137) (w158 : Int → Int) (ew158 : A 158 = w158) (w159 : Int → Int) (ew159 : A 159 = w159) (w160 : Int → Int) (ew160 : A 160 = w160) (w161 : Int → Int) (ew161 : A 161 = w161) (w163 : Int → Int) (ew163 : A 163 = w163) (w164 : Int → Int) (ew164 : A 164 = w164) (w165 : Int → Int) (ew165 : A 165 = w165) (w167 : Int → Int) (ew167 : A 167 = w167) (w168 : Int → Int) (ew168 : A 168 = w168) (w169 : Int → Int) (ew169 : A 169 = w169) (w170 : Int → Int) (ew170 : A 170 = w170) (w171 : Int → Int) (ew171 : A 171 = w171) (w172 : Int → Int) (ew172 : A 172 = w172) (w173 : Int → Int) (ew173 : A 173 = w173) (w194 : Int → Int) (ew194 : A 194 = w194) (w195 : Int → Int) (ew195 : A 195 = w195) (w196 : Int → Int) (ew196 : A 196 = w196) (w197 : Int → Int) (ew197 : A 197 = w197) (w199 : Int → Int) (ew199 : A 199 = w199) (w200 : Int → Int) (ew200 : A 200 = w200) (w201 : Int → Int) (ew201 : A 201 = w201) (w202 : Int → Int) (ew202 : A 202 = w202) (st0 : WSt) (Dc : DcS) {ls : rO} (hl0 : rlook ls 0 = some (.ref (D 0))) (hl1 : rlook ls 1 = some (I (x1))) (hl3 : rlook ls 3 = some (I (4))) (hl4 : rlook ls 4 = some (.ref (D 1))) (hl5 : rlook ls 5 = some (I (1))) (h0 : inr (x1)) (h1 : 0 ≤ (u2_1) ∧ (u2_1) ≤ (n3) ∧ (n3) ≤ 65536) (h2 : 0 ≤ (u1_1) ∧ (u1_1) ≤ (n4) ∧ (n4) ≤ 65536) (h3 : 0 ≤ (u6_1) ∧ (u6_1) ≤ (n7) ∧ (n7) ≤ 65536) (h4 : (u6_1) + (u1_1) ≤ 16384) (h5 : 1 ≤ ((w9)) 1 ∧ ((w9)) 1 ≤ 8) (h6 : 3 ≤ ((w9)) 1) (h7 : 0 ≤ ((w9)) 7 ∧ ((w9)) 7 ≤ 15) (h8 : 0 ≤ ((w9)) 8 ∧ ((w9)) 8 ≤ 11) (h9 : 1 ≤ ((w9)) 2 ∧ ((w9)) 2 ≤ 65536) (h10 : 0 ≤ (u11_1) ∧ (u11_1) ≤ (n12) ∧ (n12) ≤ 65536) (h11 : (n13) = 0 ∨ (n13) = 2048) (h12 : (n14) ≤ 16384) (h13 : (n15) = (n16) ∧ (n17) = (n16) ∧ (n16) ≤ 65536 ∧ ((n16) = 0 ∨ 64 ≤ (n16)) ∧ lgq ((n16)) = 0) (h14 : 0 ≤ (u18_1) ∧ (u18_1) ≤ (n19) ∧ (n19) ≤ 65536) (h15 : 0 ≤ (u20_1) ∧ (u20_1) ≤ (n21) ∧ (n21) ≤ 65536) (h16 : 0 ≤ (u22_1) ∧ (u22_1) ≤ (n23) ∧ (n23) ≤ 65536) (h17 : (n9) = 10 ∧ (n24) = 256 ∧ (n25) = 53 ∧ (n26) = 13 ∧ (n27) = 3 ∧ (n28) = 2 ∧ (n30) = 3 ∧ (n31) = 3 ∧ (n33) = 3 ∧ (n34) = 3 ∧ (n35) = 3 ∧ (n36) = 3 ∧ (n37) = 3) (h18 : (n38) = 3 ∧ (n39) = (n40) ∧ (n41) = (n40) ∧ (n42) = (n40) ∧ lgq ((n40)) = 0 ∧ (n40) ≤ 16384) (h19 : (n44) = 3 ∧ (n45) = 3) (h20 : CDZD ((n47)) ((n48)) ((n49)) ((n50)) ((n51)) ((n52)) ((n53)) ((n54))) (h21 : SHZD ((n56)) ((n57)) ((n58)) ((n59)) ((n60)) ((n61)) ((n62)) ((n63)) ((u55_1)) 12 64) (h22 : 0 ≤ (u64_1) ∧ (u64_1) ≤ (n65) ∧ (n65) ≤ 65536) (h23 : 0 ≤ (u66_1) ∧ (u66_1) ≤ (n67) ∧ (n67) ≤ 65536) (h24 : CEL ((w49))) (h25 : CDZD ((n69)) ((n70)) ((n71)) ((n72)) ((n73)) ((n74)) ((n75)) ((n76))) (h26 : SHZD ((n78)) ((n79)) ((n80)) ((n81)) ((n82)) ((n83)) ((n84)) ((n85)) ((u77_1)) 12 64) (h27 : 0 ≤ (u86_1) ∧ (u86_1) ≤ (n87) ∧ (n87) ≤ 65536) (h28 : 0 ≤ (u88_1) ∧ (u88_1) ≤ (n89) ∧ (n89) ≤ 65536) (h29 : CEL ((w71))) (h30 : (n91) = 256 ∧ (n92) = 256) (h31 : SL ((w94)) ((u93_1)) ((u93_0)) ((w95)) ((w96)) ((w97)) ((w98)) ((w99)) ((w100))) (h32 : SZD ((n94)) ((n95)) ((n96)) ((n97)) ((n101)) ((n98)) ((n99)) ((n100)) ((u93_1)) ((u93_0))) (h33 : SHZD ((n103)) ((n104)) ((n105)) ((n106)) ((n107)) ((n108)) ((n109)) ((n110)) ((u102_1)) 36 512) (h34 : SHZD ((n112)) ((n113)) ((n114)) ((n115)) ((n116)) ((n117)) ((n118)) ((n119)) ((u111_1)) 36 512) (h35 : SHZD ((n122)) ((n123)) ((n124)) ((n125)) ((n126)) ((n127)) ((n128)) ((n129)) ((u121_1)) 36 512) (h36 : SL ((w131)) ((u130_1)) ((u130_0)) ((w132)) ((w133)) ((w134)) ((w135)) ((w136)) ((w137))) (h37 : SZD ((n131)) ((n132)) ((n133)) ((n134)) ((n138)) ((n135)) ((n136)) ((n137)) ((u130_1)) ((u130_0))) (h38 : SHZD ((n140)) ((n141)) ((n142)) ((n143)) ((n144)) ((n145)) ((n146)) ((n147)) ((u139_1)) 32 256) (h39 : SHZD ((n149)) ((n150)) ((n151)) ((n152)) ((n153)) ((n154)) ((n155)) ((n156)) ((u148_1)) 32 256) (h40 : SHZD ((n158)) ((n159)) ((n160)) ((n161)) ((n162)) ((n163)) ((n164)) ((n165)) ((u157_1)) 32 256) (h41 : SL ((w167)) ((u166_1)) ((u166_0)) ((w168)) ((w169)) ((w170)) ((w171)) ((w172)) ((w173))) (h42 : SZD ((n167)) ((n168)) ((n169)) ((n170)) ((n174)) ((n171)) ((n172)) ((n173)) ((u166_1)) ((u166_0))) (h43 : SHZD ((n176)) ((n177)) ((n178)) ((n179)) ((n180)) ((n181)) ((n182)) ((n183)) ((u175_1)) 53 512) (h44 : SHZD ((n185)) ((n186)) ((n187)) ((n188)) ((n189)) ((n190)) ((n191)) ((n192)) ((u184_1)) 53 512) (h45 : SHZD ((n194)) ((n195)) ((n196)) ((n197)) ((n198)) ((n199)) ((n200)) ((n201)) ((u193_1)) 53 512) (h46 : 0 ≤ ((w27)) 0 ∧ ((w27)) 0 ≤ 3 ∧ 0 ≤ ((w27)) 1 ∧ ((w27)) 1 ≤ 3 ∧ 0 ≤ ((w27)) 2 ∧ ((w27)) 2 ≤ 3) (h47 : HID ((u43_0) = -1 ∨ (u43_0) = (((D 90 : Nat) : Int)) ∧ 0 ≤ (u90_3) ∧ (u90_3) ≤ 11)) (h48 : HID ((u43_0) = -1 ∨ LNG ((w91)) ((u90_3)))) (h49 : HID (((w44)) 0 = -1 ∨ ((w44)) 0 = (((D 121 : Nat) : Int)))) (h50 : HID (((w44)) 1 = -1 ∨ ((w44)) 1 = (((D 157 : Nat) : Int)))) (h51 : HID (((w44)) 2 = -1 ∨ ((w44)) 2 = (((D 193 : Nat) : Int)))) (h52 : HID (((w44)) 0 = -1 ∨ SL ((w122)) ((u121_1)) ((u121_0)) ((w123)) ((w124)) ((w125)) ((w127)) ((w128)) ((w129)))) (h53 : HID (((w44)) 1 = -1 ∨ SL ((w158)) ((u157_1)) ((u157_0)) ((w159)) ((w160)) ((w161)) ((w163)) ((w164)) ((w165)))) (h54 : HID (((w44)) 2 = -1 ∨ SL ((w194)) ((u193_1)) ((u193_0)) ((w195)) ((w196)) ((w197)) ((w199)) ((w200)) ((w201)))) (h55 : HID (((w44)) 0 = -1 ∨ (u121_0) ≤ 9)) (h56 : HID (((w44)) 1 = -1 ∨ (u157_0) ≤ 8)) (h57 : HID (((w44)) 2 = -1 ∨ (u193_0) ≤ 9)) (h58 : IMP ((u43_0) = -1) (st0.1 = none)) (h59 : SLB ((u43_0)) ((((D 90 : Nat) : Int))) (CWO (st0.1) ((u90_3)) ((w91)) ((w202)) ((w92)))) (h60 : IMP (((w44)) 0 = -1) ((st0.2.1 0).1 < 0)) (h61 : SLB (((w44)) 0) ((((D 121 : Nat) : Int))) (st0.2.1 0 = (((u121_0), cutP ((u121_1)) ((w122))) : TSt))) (h62 : IMP (((w44)) 1 = -1) ((st0.2.1 1).1 < 0)) (h63 : SLB (((w44)) 1) ((((D 157 : Nat) : Int))) (st0.2.1 1 = (((u157_0), cutP ((u157_1)) ((w158))) : TSt))) (h64 : IMP (((w44)) 2 = -1) ((st0.2.1 2).1 < 0)) (h65 : SLB (((w44)) 2) ((((D 193 : Nat) : Int))) (st0.2.1 2 = (((u193_0), cutP ((u193_1)) ((w194))) : TSt))) (h66 : TOK (st0.2.1 0)) (h67 : TOK (st0.2.1 1)) (h68 : TOK (st0.2.1 2)) (h69 : st0.2.2.1 = (((w45)) 0, ((w45)) 1, ((w45)) 2)) (h70 : 1 ≤ ((w45)) 0 ∧ 1 ≤ ((w45)) 1 ∧ 1 ≤ ((w45)) 2) (h71 : ∀ i, 0 ≤ i → i < 12 → st0.2.2.2 i = 0) (h72 : SHX (KNX 0) ((u93_0)) ((u93_1)) ((w94))) (h73 : SHX (KNX 1) ((u130_0)) ((u130_1)) ((w131))) (h74 : SHX (KNX 2) ((u166_0)) ((u166_1)) ((w167))) (h75 : (u2_1) = 0) (h76 : (u2_2) = 0) (h77 : Dc.1 = sc ((w7)) 0 ((u6_1))) (h78 : Dc.2.1 = (u5_2) % 4294967296) (hc236 : ∀ (tc236_2 : Int), ∀ (tc236_3 : Int), ∀ (ls : rO) (σ : rS) (D_c236 N_c236 : Nat → Nat) (c_c236 s_c236 : Nat) (F_c236 : hF) (A_c236 : hA) , rlook ls 0 = some (.ref (D_c236 0)) → rlook ls 1 = some (I (x1)) → rlook ls 3 = some (I (4)) → rlook ls 4 = some (.ref (D_c236 1)) → HW V17_vD4d σ D_c236 N_c236 F_c236 A_c236 → OUT (V17_vD4d).length D N σE c s D_c236 N_c236 σ c_c236 s_c236 → SD [3, 12, 13, 14, 15, 16, 17, 19, 21, 23, 38, 39, 40, 41, 42, 65, 67, 87, 89] D D_c236 → SD [3, 12, 13, 14, 15, 16, 17, 19, 21, 23, 38, 39, 40, 41, 42, 65, 67, 87, 89] N N_c236 → SF [(2, 0), (2, 1), (2, 2), (8, 13), (8, 14), (8, 15), (8, 16), (10, 1), (10, 2), (10, 3), (10, 4), (10, 5), (10, 6), (10, 7), (10, 8), (10, 9), (10, 10), (10, 11), (10, 12), (10, 13), (10, 14), (10, 15), (10, 16), (10, 17), (10, 18), (11, 0), (11, 1), (11, 2), (11, 3), (11, 4), (18, 0), (18, 1), (18, 2), (18, 3), (18, 4), (20, 0), (20, 1), (20, 2), (20, 3), (20, 4), (22, 0), (22, 1), (22, 2), (22, 3), (22, 4), (29, 0), (32, 0), (46, 3), (46, 13), (46, 14), (46, 15), (46, 16), (55, 0), (64, 0), (64, 1), (64, 2), (64, 3), (64, 4), (66, 0), (66, 1), (66, 2), (66, 3), (66, 4), (68, 3), (68, 13), (68, 14), (68, 15), (68, 16), (77, 0), (86, 0), (86, 1), (86, 2), (86, 3), (86, 4), (88, 0), (88, 1), (88, 2), (88, 3), (88, 4), (102, 0), (111, 0), (139, 0), (148, 0), (175, 0), (184, 0)] F F_c236 → SA [3, 12, 13, 14, 15, 16, 17, 19, 21, 23, 24, 25, 26, 27, 30, 31, 33, 34, 38, 39, 40, 41, 42, 47, 48, 49, 50, 51, 52, 53, 54, 56, 57, 58, 59, 60, 61, 62, 63, 65, 67, 69, 70, 71, 72, 73, 74, 75, 76, 78, 79, 80, 81, 82, 83, 84, 85, 87, 89, 103, 104, 105, 106, 107, 108, 109, 110, 112, 113, 114, 115, 116, 117, 118, 119, 140, 141, 142, 143, 144, 145, 146, 147, 149, 150, 151, 152, 153, 154, 155, 156, 176, 177, 178, 179, 180, 181, 182, 183, 185, 186, 187, 188, 189, 190, 191, 192] A A_c236 → F_c236 2 0 = (D_c236 3 : Int) → F_c236 11 0 = (D_c236 12 : Int) → F_c236 10 7 = (D_c236 13 : Int) → F_c236 10 8 = (D_c236 14 : Int) → F_c236 10 1 = (D_c236 15 : Int) → F_c236 10 2 = (D_c236 16 : Int) → F_c236 10 3 = (D_c236 17 : Int) → F_c236 18 0 = (D_c236 19 : Int) → F_c236 20 0 = (D_c236 21 : Int) → F_c236 22 0 = (D_c236 23 : Int) → F_c236 8 13 = (D_c236 38 : Int) → A_c236 38 0 = (D_c236 39 : Int) → F_c236 8 14 = (D_c236 40 : Int) → A_c236 38 1 = (D_c236 41 : Int) → A_c236 38 2 = (D_c236 42 : Int) → F_c236 64 0 = (D_c236 65 : Int) → F_c236 66 0 = (D_c236 67 : Int) → F_c236 86 0 = (D_c236 87 : Int) → F_c236 88 0 = (D_c236 89 : Int) → ∀ mc236_3 : Int, (N_c236 3 : Int) = mc236_3 → ∀ mc236_12 : Int, (N_c236 12 : Int) = mc236_12 → ∀ mc236_13 : Int, (N_c236 13 : Int) = mc236_13 → ∀ mc236_14 : Int, (N_c236 14 : Int) = mc236_14 → ∀ mc236_15 : Int, (N_c236 15 : Int) = mc236_15 → ∀ mc236_16 : Int, (N_c236 16 : Int) = mc236_16 → ∀ mc236_17 : Int, (N_c236 17 : Int) = mc236_17 → ∀ mc236_19 : Int, (N_c236 19 : Int) = mc236_19 → ∀ mc236_21 : Int, (N_c236 21 : Int) = mc236_21 → ∀ mc236_23 : Int, (N_c236 23 : Int) = mc236_23 → ∀ mc236_38 : Int, (N_c236 38 : Int) = mc236_38 → ∀ mc236_39 : Int, (N_c236 39 : Int) = mc236_39 → ∀ mc236_40 : Int, (N_c236 40 : Int) = mc236_40 → ∀ mc236_41 : Int, (N_c236 41 : Int) = mc236_41 → ∀ mc236_42 : Int, (N_c236 42 : Int) = mc236_42 → ∀ mc236_65 : Int, (N_c236 65 : Int) = mc236_65 → ∀ mc236_67 : Int, (N_c236 67 : Int) = mc236_67 → ∀ mc236_87 : Int, (N_c236 87 : Int) = mc236_87 → ∀ mc236_89 : Int, (N_c236 89 : Int) = mc236_89 → ∀ yc236_2_1 : Int, F_c236 2 1 = yc236_2_1 → ∀ yc236_2_2 : Int, F_c236 2 2 = yc236_2_2 → ∀ yc236_11_1 : Int, F_c236 11 1 = yc236_11_1 → ∀ yc236_18_1 : Int, F_c236 18 1 = yc236_18_1 → ∀ yc236_20_1 : Int, F_c236 20 1 = yc236_20_1 → ∀ yc236_22_1 : Int, F_c236 22 1 = yc236_22_1 → ∀ yc236_64_1 : Int, F_c236 64 1 = yc236_64_1 → ∀ yc236_66_1 : Int, F_c236 66 1 = yc236_66_1 → ∀ yc236_86_1 : Int, F_c236 86 1 = yc236_86_1 → ∀ yc236_88_1 : Int, F_c236 88 1 = yc236_88_1 → ∀ wc236_3 : Int → Int, A_c236 3 = wc236_3 → ∀ wc236_26 : Int → Int, A_c236 26 = wc236_26 → ∀ wc236_27 : Int → Int, A_c236 27 = wc236_27 → ∀ wc236_49 : Int → Int, A_c236 49 = wc236_49 → ∀ wc236_71 : Int → Int, A_c236 71 = wc236_71 → (inr (tc236_2)) → (inr (tc236_3)) → (0 ≤ (yc236_2_1) ∧ (yc236_2_1) ≤ (mc236_3) ∧ (mc236_3) ≤ 65536) → (0 ≤ (yc236_11_1) ∧ (yc236_11_1) ≤ (mc236_12) ∧ (mc236_12) ≤ 65536) → ((mc236_13) = 0 ∨ (mc236_13) = 2048) → ((mc236_14) ≤ 16384) → ((mc236_15) = (mc236_16) ∧ (mc236_17) = (mc236_16) ∧ (mc236_16) ≤ 65536 ∧ ((mc236_16) = 0 ∨ 64 ≤ (mc236_16)) ∧ lgq ((mc236_16)) = 0) → (0 ≤ (yc236_18_1) ∧ (yc236_18_1) ≤ (mc236_19) ∧ (mc236_19) ≤ 65536) → (0 ≤ (yc236_20_1) ∧ (yc236_20_1) ≤ (mc236_21) ∧ (mc236_21) ≤ 65536) → (0 ≤ (yc236_22_1) ∧ (yc236_22_1) ≤ (mc236_23) ∧ (mc236_23) ≤ 65536) → ((mc236_38) = 3 ∧ (mc236_39) = (mc236_40) ∧ (mc236_41) = (mc236_40) ∧ (mc236_42) = (mc236_40) ∧ lgq ((mc236_40)) = 0 ∧ (mc236_40) ≤ 16384) → (0 ≤ (yc236_64_1) ∧ (yc236_64_1) ≤ (mc236_65) ∧ (mc236_65) ≤ 65536) → (0 ≤ (yc236_66_1) ∧ (yc236_66_1) ≤ (mc236_67) ∧ (mc236_67) ≤ 65536) → (CEL ((wc236_49))) → (0 ≤ (yc236_86_1) ∧ (yc236_86_1) ≤ (mc236_87) ∧ (mc236_87) ≤ 65536) → (0 ≤ (yc236_88_1) ∧ (yc236_88_1) ≤ (mc236_89) ∧ (mc236_89) ≤ 65536) → (CEL ((wc236_71))) → (0 ≤ ((wc236_27)) 0 ∧ ((wc236_27)) 0 ≤ 3 ∧ 0 ≤ ((wc236_27)) 1 ∧ ((wc236_27)) 1 ≤ 3 ∧ 0 ≤ ((wc236_27)) 2 ∧ ((wc236_27)) 2 ≤ 3) → ((tc236_2) = 4) → ((tc236_3) = (u1_1)) → ((yc236_2_2) = 0) → (WRY 4 ((w9)) (sc ((w4)) 0 ((u1_1))) [] Dc st0 ((yc236_2_1)) (sc ((wc236_3)) 0 ((yc236_2_1)))) → (CNR ((wc236_26)) (frD ((w9)) (sc ((w4)) 0 ((u1_1))) Dc st0).2) → Ew 17 (d + 7) 236 ls [.ref (D_c236 203), I (tc236_3), I (tc236_2), .ref (D_c236 2), .ref (D_c236 0)] σ c_c236 s_c236 Q) (k : ∀ (z : Int) (σ : rS) (D' N' : Nat → Nat) (F' : hF) (A' : hA) (c' s' : Nat), HW V17_vD4d σ D' N' F' A' → OUT (V17_vD4d).length D N σE c s D' N' σ c' s' → SD [3, 12, 13, 14, 15, 16, 17, 19, 21, 23, 38, 39, 40, 41, 42, 65, 67, 87, 89] D D' → SD [3, 12, 13, 14, 15, 16, 17, 19, 21, 23, 38, 39, 40, 41, 42, 65, 67, 87, 89] N N' → SF [(2, 0), (2, 1), (2, 2), (8, 13), (8, 14), (8, 15), (8, 16), (10, 1), (10, 2), (10, 3), (10, 4), (10, 5), (10, 6), (10, 7), (10, 8), (10, 9), (10, 10), (10, 11), (10, 12), (10, 13), (10, 14), (10, 15), (10, 16), (10, 17), (10, 18), (11, 0), (11, 1), (11, 2), (11, 3), (11, 4), (18, 0), (18, 1), (18, 2), (18, 3), (18, 4), (20, 0), (20, 1), (20, 2), (20, 3), (20, 4), (22, 0), (22, 1), (22, 2), (22, 3), (22, 4), (29, 0), (32, 0), (46, 3), (46, 13), (46, 14), (46, 15), (46, 16), (55, 0), (64, 0), (64, 1), (64, 2), (64, 3), (64, 4), (66, 0), (66, 1), (66, 2), (66, 3), (66, 4), (68, 3), (68, 13), (68, 14), (68, 15), (68, 16), (77, 0), (86, 0), (86, 1), (86, 2), (86, 3), (86, 4), (88, 0), (88, 1), (88, 2), (88, 3), (88, 4), (102, 0), (111, 0), (139, 0), (148, 0), (175, 0), (184, 0)] F F' → SA [3, 12, 13, 14, 15, 16, 17, 19, 21, 23, 24, 25, 26, 27, 30, 31, 33, 34, 38, 39, 40, 41, 42, 47, 48, 49, 50, 51, 52, 53, 54, 56, 57, 58, 59, 60, 61, 62, 63, 65, 67, 69, 70, 71, 72, 73, 74, 75, 76, 78, 79, 80, 81, 82, 83, 84, 85, 87, 89, 103, 104, 105, 106, 107, 108, 109, 110, 112, 113, 114, 115, 116, 117, 118, 119, 140, 141, 142, 143, 144, 145, 146, 147, 149, 150, 151, 152, 153, 154, 155, 156, 176, 177, 178, 179, 180, 181, 182, 183, 185, 186, 187, 188, 189, 190, 191, 192] A A' → F' 2 0 = (D' 3 : Int) → F' 11 0 = (D' 12 : Int) → F' 10 7 = (D' 13 : Int) → F' 10 8 = (D' 14 : Int) → F' 10 1 = (D' 15 : Int) → F' 10 2 = (D' 16 : Int) → F' 10 3 = (D' 17 : Int) → F' 18 0 = (D' 19 : Int) → F' 20 0 = (D' 21 : Int) → F' 22 0 = (D' 23 : Int) → F' 8 13 = (D' 38 : Int) → A' 38 0 = (D' 39 : Int) → F' 8 14 = (D' 40 : Int) → A' 38 1 = (D' 41 : Int) → A' 38 2 = (D' 42 : Int) → F' 64 0 = (D' 65 : Int) → F' 66 0 = (D' 67 : Int) → F' 86 0 = (D' 87 : Int) → F' 88 0 = (D' 89 : Int) → ∀ m3 : Int, (N' 3 : Int) = m3 → ∀ m12 : Int, (N' 12 : Int) = m12 → ∀ m13 : Int, (N' 13 : Int) = m13 → ∀ m14 : Int, (N' 14 : Int) = m14 → ∀ m15 : Int, (N' 15 : Int) = m15 → ∀ m16 : Int, (N' 16 : Int) = m16 → ∀ m17 : Int, (N' 17 : Int) = m17 → ∀ m19 : Int, (N' 19 : Int) = m19 → ∀ m21 : Int, (N' 21 : Int) = m21 → ∀ m23 : Int, (N' 23 : Int) = m23 → ∀ m38 : Int, (N' 38 : Int) = m38 → ∀ m39 : Int, (N' 39 : Int) = m39 → ∀ m40 : Int, (N' 40 : Int) = m40 → ∀ m41 : Int, (N' 41 : Int) = m41 → ∀ m42 : Int, (N' 42 : Int) = m42 → ∀ m65 : Int, (N' 65 : Int) = m65 → ∀ m67 : Int, (N' 67 : Int) = m67 → ∀ m87 : Int, (N' 87 : Int) = m87 → ∀ m89 : Int, (N' 89 : Int) = m89 → ∀ y2_1 : Int, F' 2 1 = y2_1 → ∀ y11_1 : Int, F' 11 1 = y11_1 → ∀ y18_1 : Int, F' 18 1 = y18_1 → ∀ y20_1 : Int, F' 20 1 = y20_1 → ∀ y22_1 : Int, F' 22 1 = y22_1 → ∀ y64_1 : Int, F' 64 1 = y64_1 → ∀ y66_1 : Int, F' 66 1 = y66_1 → ∀ y86_1 : Int, F' 86 1 = y86_1 → ∀ y88_1 : Int, F' 88 1 = y88_1 → ∀ v3 : Int → Int, A' 3 = v3 → ∀ v27 : Int → Int, A' 27 = v27 → ∀ v49 : Int → Int, A' 49 = v49 → ∀ v71 : Int → Int, A' 71 = v71 → (inr (z)) → (0 ≤ (y2_1) ∧ (y2_1) ≤ (m3) ∧ (m3) ≤ 65536) → (0 ≤ (y11_1) ∧ (y11_1) ≤ (m12) ∧ (m12) ≤ 65536) → ((m13) = 0 ∨ (m13) = 2048) → ((m14) ≤ 16384) → ((m15) = (m16) ∧ (m17) = (m16) ∧ (m16) ≤ 65536 ∧ ((m16) = 0 ∨ 64 ≤ (m16)) ∧ lgq ((m16)) = 0) → (0 ≤ (y18_1) ∧ (y18_1) ≤ (m19) ∧ (m19) ≤ 65536) → (0 ≤ (y20_1) ∧ (y20_1) ≤ (m21) ∧ (m21) ≤ 65536) → (0 ≤ (y22_1) ∧ (y22_1) ≤ (m23) ∧ (m23) ≤ 65536) → ((m38) = 3 ∧ (m39) = (m40) ∧ (m41) = (m40) ∧ (m42) = (m40) ∧ lgq ((m40)) = 0 ∧ (m40) ≤ 16384) → (0 ≤ (y64_1) ∧ (y64_1) ≤ (m65) ∧ (m65) ≤ 65536) → (0 ≤ (y66_1) ∧ (y66_1) ≤ (m67) ∧ (m67) ≤ 65536) → (CEL ((v49))) → (0 ≤ (y86_1) ∧ (y86_1) ≤ (m87) ∧ (m87) ≤ 65536) → (0 ≤ (y88_1) ∧ (y88_1) ≤ (m89) ∧ (m89) ≤ 65536) → (CEL ((v71))) → (0 ≤ ((v27)) 0 ∧ ((v27)) 0 ≤ 3 ∧ 0 ≤ ((v27)) 1 ∧ ((v27)) 1 ≤ 3 ∧ 0 ≤ ((v27)) 2 ∧ ((v27)) 2 ≤ 3) → ((z) = -1) → (WRY 4 ((w9)) (sc ((w4)) 0 ((u1_1))) [] Dc st0 ((z)) (sc ((v3)) 0 ((y2_1)))) → Q (some (I z)) σ c' s') : Ew 17 (d + 7) 168 ls [.ref (D 8)] σE c s Q := by
  have O := OUT_refl (n := (V17_vD4d).length) (D := D) (N := N) (σ := σE) (c := c) (s := s)
  have HE := H
  have r1 : HID ((-2147483648 : Int) ≤ u1_1 ∧ u1_1 ≤ 2147483647) := krg_e (show (-2147483648 : Int) ≤ F 1 1 ∧ F 1 1 ≤ 2147483647 from H.krg 1 1 (by decide)) (show F 1 1 = u1_1 from (eu1_1))
  have r2 : HID ((-2147483648 : Int) ≤ u2_1 ∧ u2_1 ≤ 2147483647) := krg_e (show (-2147483648 : Int) ≤ F 2 1 ∧ F 2 1 ≤ 2147483647 from H.krg 2 1 (by decide)) (show F 2 1 = u2_1 from (eu2_1))
  have r3 : HID ((0 : Int) ≤ u2_2 ∧ u2_2 ≤ 1) := krg_e (show (0 : Int) ≤ F 2 2 ∧ F 2 2 ≤ 1 from H.krg 2 2 (by decide)) (show F 2 2 = u2_2 from (eu2_2))
  have r4 : HID ((-2147483648 : Int) ≤ u5_2 ∧ u5_2 ≤ 2147483647) := krg_e (show (-2147483648 : Int) ≤ F 5 2 ∧ F 5 2 ≤ 2147483647 from H.krg 5 2 (by decide)) (show F 5 2 = u5_2 from (eu5_2))
  have r5 : HID ((-2147483648 : Int) ≤ u6_1 ∧ u6_1 ≤ 2147483647) := krg_e (show (-2147483648 : Int) ≤ F 6 1 ∧ F 6 1 ≤ 2147483647 from H.krg 6 1 (by decide)) (show F 6 1 = u6_1 from (eu6_1))
  have r6 : HID ((-2147483648 : Int) ≤ u11_1 ∧ u11_1 ≤ 2147483647) := krg_e (show (-2147483648 : Int) ≤ F 11 1 ∧ F 11 1 ≤ 2147483647 from H.krg 11 1 (by decide)) (show F 11 1 = u11_1 from (eu11_1))
  have r7 : HID ((-2147483648 : Int) ≤ u18_1 ∧ u18_1 ≤ 2147483647) := krg_e (show (-2147483648 : Int) ≤ F 18 1 ∧ F 18 1 ≤ 2147483647 from H.krg 18 1 (by decide)) (show F 18 1 = u18_1 from (eu18_1))
  have r8 : HID ((-2147483648 : Int) ≤ u20_1 ∧ u20_1 ≤ 2147483647) := krg_e (show (-2147483648 : Int) ≤ F 20 1 ∧ F 20 1 ≤ 2147483647 from H.krg 20 1 (by decide)) (show F 20 1 = u20_1 from (eu20_1))
  have r9 : HID ((-2147483648 : Int) ≤ u22_1 ∧ u22_1 ≤ 2147483647) := krg_e (show (-2147483648 : Int) ≤ F 22 1 ∧ F 22 1 ≤ 2147483647 from H.krg 22 1 (by decide)) (show F 22 1 = u22_1 from (eu22_1))
  have r10 : HID ((-2147483648 : Int) ≤ u55_1 ∧ u55_1 ≤ 2147483647) := krg_e (show (-2147483648 : Int) ≤ F 55 1 ∧ F 55 1 ≤ 2147483647 from H.krg 55 1 (by decide)) (show F 55 1 = u55_1 from (eu55_1))
  have r11 : HID ((-2147483648 : Int) ≤ u64_1 ∧ u64_1 ≤ 2147483647) := krg_e (show (-2147483648 : Int) ≤ F 64 1 ∧ F 64 1 ≤ 2147483647 from H.krg 64 1 (by decide)) (show F 64 1 = u64_1 from (eu64_1))
  have r12 : HID ((-2147483648 : Int) ≤ u66_1 ∧ u66_1 ≤ 2147483647) := krg_e (show (-2147483648 : Int) ≤ F 66 1 ∧ F 66 1 ≤ 2147483647 from H.krg 66 1 (by decide)) (show F 66 1 = u66_1 from (eu66_1))
  have r13 : HID ((-2147483648 : Int) ≤ u77_1 ∧ u77_1 ≤ 2147483647) := krg_e (show (-2147483648 : Int) ≤ F 77 1 ∧ F 77 1 ≤ 2147483647 from H.krg 77 1 (by decide)) (show F 77 1 = u77_1 from (eu77_1))
  have r14 : HID ((-2147483648 : Int) ≤ u86_1 ∧ u86_1 ≤ 2147483647) := krg_e (show (-2147483648 : Int) ≤ F 86 1 ∧ F 86 1 ≤ 2147483647 from H.krg 86 1 (by decide)) (show F 86 1 = u86_1 from (eu86_1))
  have r15 : HID ((-2147483648 : Int) ≤ u88_1 ∧ u88_1 ≤ 2147483647) := krg_e (show (-2147483648 : Int) ≤ F 88 1 ∧ F 88 1 ≤ 2147483647 from H.krg 88 1 (by decide)) (show F 88 1 = u88_1 from (eu88_1))
  have r16 : HID ((-2147483648 : Int) ≤ u90_3 ∧ u90_3 ≤ 2147483647) := krg_e (show (-2147483648 : Int) ≤ F 90 3 ∧ F 90 3 ≤ 2147483647 from H.krg 90 3 (by decide)) (show F 90 3 = u90_3 from (eu90_3))
  have r17 : HID ((-2147483648 : Int) ≤ u93_0 ∧ u93_0 ≤ 2147483647) := krg_e (show (-2147483648 : Int) ≤ F 93 0 ∧ F 93 0 ≤ 2147483647 from H.krg 93 0 (by decide)) (show F 93 0 = u93_0 from (eu93_0))
  have r18 : HID ((-2147483648 : Int) ≤ u93_1 ∧ u93_1 ≤ 2147483647) := krg_e (show (-2147483648 : Int) ≤ F 93 1 ∧ F 93 1 ≤ 2147483647 from H.krg 93 1 (by decide)) (show F 93 1 = u93_1 from (eu93_1))
  have r19 : HID ((-2147483648 : Int) ≤ u102_1 ∧ u102_1 ≤ 2147483647) := krg_e (show (-2147483648 : Int) ≤ F 102 1 ∧ F 102 1 ≤ 2147483647 from H.krg 102 1 (by decide)) (show F 102 1 = u102_1 from (eu102_1))
  have r20 : HID ((-2147483648 : Int) ≤ u111_1 ∧ u111_1 ≤ 2147483647) := krg_e (show (-2147483648 : Int) ≤ F 111 1 ∧ F 111 1 ≤ 2147483647 from H.krg 111 1 (by decide)) (show F 111 1 = u111_1 from (eu111_1))
  have r21 : HID ((-2147483648 : Int) ≤ u121_0 ∧ u121_0 ≤ 2147483647) := krg_e (show (-2147483648 : Int) ≤ F 121 0 ∧ F 121 0 ≤ 2147483647 from H.krg 121 0 (by decide)) (show F 121 0 = u121_0 from (eu121_0))
  have r22 : HID ((-2147483648 : Int) ≤ u121_1 ∧ u121_1 ≤ 2147483647) := krg_e (show (-2147483648 : Int) ≤ F 121 1 ∧ F 121 1 ≤ 2147483647 from H.krg 121 1 (by decide)) (show F 121 1 = u121_1 from (eu121_1))
  have r23 : HID ((-2147483648 : Int) ≤ u130_0 ∧ u130_0 ≤ 2147483647) := krg_e (show (-2147483648 : Int) ≤ F 130 0 ∧ F 130 0 ≤ 2147483647 from H.krg 130 0 (by decide)) (show F 130 0 = u130_0 from (eu130_0))
  have r24 : HID ((-2147483648 : Int) ≤ u130_1 ∧ u130_1 ≤ 2147483647) := krg_e (show (-2147483648 : Int) ≤ F 130 1 ∧ F 130 1 ≤ 2147483647 from H.krg 130 1 (by decide)) (show F 130 1 = u130_1 from (eu130_1))
  have r25 : HID ((-2147483648 : Int) ≤ u139_1 ∧ u139_1 ≤ 2147483647) := krg_e (show (-2147483648 : Int) ≤ F 139 1 ∧ F 139 1 ≤ 2147483647 from H.krg 139 1 (by decide)) (show F 139 1 = u139_1 from (eu139_1))
  have r26 : HID ((-2147483648 : Int) ≤ u148_1 ∧ u148_1 ≤ 2147483647) := krg_e (show (-2147483648 : Int) ≤ F 148 1 ∧ F 148 1 ≤ 2147483647 from H.krg 148 1 (by decide)) (show F 148 1 = u148_1 from (eu148_1))
  have r27 : HID ((-2147483648 : Int) ≤ u157_0 ∧ u157_0 ≤ 2147483647) := krg_e (show (-2147483648 : Int) ≤ F 157 0 ∧ F 157 0 ≤ 2147483647 from H.krg 157 0 (by decide)) (show F 157 0 = u157_0 from (eu157_0))
  have r28 : HID ((-2147483648 : Int) ≤ u157_1 ∧ u157_1 ≤ 2147483647) := krg_e (show (-2147483648 : Int) ≤ F 157 1 ∧ F 157 1 ≤ 2147483647 from H.krg 157 1 (by decide)) (show F 157 1 = u157_1 from (eu157_1))
  have r29 : HID ((-2147483648 : Int) ≤ u166_0 ∧ u166_0 ≤ 2147483647) := krg_e (show (-2147483648 : Int) ≤ F 166 0 ∧ F 166 0 ≤ 2147483647 from H.krg 166 0 (by decide)) (show F 166 0 = u166_0 from (eu166_0))
  have r30 : HID ((-2147483648 : Int) ≤ u166_1 ∧ u166_1 ≤ 2147483647) := krg_e (show (-2147483648 : Int) ≤ F 166 1 ∧ F 166 1 ≤ 2147483647 from H.krg 166 1 (by decide)) (show F 166 1 = u166_1 from (eu166_1))
  have r31 : HID ((-2147483648 : Int) ≤ u175_1 ∧ u175_1 ≤ 2147483647) := krg_e (show (-2147483648 : Int) ≤ F 175 1 ∧ F 175 1 ≤ 2147483647 from H.krg 175 1 (by decide)) (show F 175 1 = u175_1 from (eu175_1))
  have r32 : HID ((-2147483648 : Int) ≤ u184_1 ∧ u184_1 ≤ 2147483647) := krg_e (show (-2147483648 : Int) ≤ F 184 1 ∧ F 184 1 ≤ 2147483647 from H.krg 184 1 (by decide)) (show F 184 1 = u184_1 from (eu184_1))
  have r33 : HID ((-2147483648 : Int) ≤ u193_0 ∧ u193_0 ≤ 2147483647) := krg_e (show (-2147483648 : Int) ≤ F 193 0 ∧ F 193 0 ≤ 2147483647 from H.krg 193 0 (by decide)) (show F 193 0 = u193_0 from (eu193_0))
  have r34 : HID ((-2147483648 : Int) ≤ u193_1 ∧ u193_1 ≤ 2147483647) := krg_e (show (-2147483648 : Int) ≤ F 193 1 ∧ F 193 1 ≤ 2147483647 from H.krg 193 1 (by decide)) (show F 193 1 = u193_1 from (eu193_1))
  replace pf2 := HIDm pf2
  replace pf3 := HIDm pf3
  replace pf4 := HIDm pf4
  replace pf5 := HIDm pf5
  replace pf6 := HIDm pf6
  replace pf7 := HIDm pf7
  replace pf8 := HIDm pf8
  replace pf9 := HIDm pf9
  replace pf10 := HIDm pf10
  replace pf11 := HIDm pf11
  replace pf12 := HIDm pf12
  replace pf13 := HIDm pf13
  replace pf14 := HIDm pf14
  replace pf15 := HIDm pf15
  replace pf16 := HIDm pf16
  replace pf17 := HIDm pf17
  replace pf18 := HIDm pf18
  replace pf19 := HIDm pf19
  replace pf20 := HIDm pf20
  replace pf21 := HIDm pf21
  replace pf22 := HIDm pf22
  replace pf23 := HIDm pf23
  replace pf24 := HIDm pf24
  replace pf25 := HIDm pf25
  replace pf26 := HIDm pf26
  replace pf27 := HIDm pf27
  replace pf28 := HIDm pf28
  replace pf29 := HIDm pf29
  replace pf30 := HIDm pf30
  replace pf31 := HIDm pf31
  replace pf32 := HIDm pf32
  replace pf33 := HIDm pf33
  replace pf34 := HIDm pf34
  replace pf35 := HIDm pf35
  replace pf36 := HIDm pf36
  replace pf37 := HIDm pf37
  replace pf38 := HIDm pf38
  replace pf39 := HIDm pf39
  replace pf40 := HIDm pf40
  replace pf41 := HIDm pf41
  replace pf42 := HIDm pf42
  replace pf43 := HIDm pf43
  replace pf44 := HIDm pf44
  replace pf45 := HIDm pf45
  replace pf46 := HIDm pf46
  replace pf47 := HIDm pf47
  replace pf48 := HIDm pf48
  replace pf49 := HIDm pf49
  replace pf50 := HIDm pf50
  replace pf51 := HIDm pf51
  replace pf52 := HIDm pf52
  replace pf53 := HIDm pf53
  replace pf54 := HIDm pf54
  replace pf55 := HIDm pf55
  replace pf56 := HIDm pf56
  replace pf57 := HIDm pf57
  replace pf58 := HIDm pf58
  replace pf59 := HIDm pf59
  replace pf60 := HIDm pf60
  replace pf61 := HIDm pf61
  replace pf62 := HIDm pf62
  replace pf63 := HIDm pf63
  replace pf64 := HIDm pf64
  replace pf65 := HIDm pf65
  replace pf66 := HIDm pf66
  replace pf67 := HIDm pf67
  replace pf68 := HIDm pf68
  replace pf69 := HIDm pf69
  replace pf70 := HIDm pf70
  replace pf71 := HIDm pf71
  replace pf72 := HIDm pf72
  replace pf73 := HIDm pf73
  replace pf74 := HIDm pf74
  replace pf75 := HIDm pf75
  replace pf76 := HIDm pf76
  replace pf77 := HIDm pf77
  replace pf78 := HIDm pf78
  replace pf79 := HIDm pf79
  replace pf80 := HIDm pf80
  replace pf81 := HIDm pf81
  replace pf82 := HIDm pf82
  replace pf83 := HIDm pf83
  replace pf84 := HIDm pf84
  replace pf85 := HIDm pf85
  replace pf86 := HIDm pf86
  replace pf87 := HIDm pf87
  replace pf88 := HIDm pf88
  replace pf89 := HIDm pf89
  replace pf90 := HIDm pf90
  replace pf91 := HIDm pf91
  replace pf92 := HIDm pf92
  replace pf93 := HIDm pf93
  replace pf94 := HIDm pf94
  replace pf95 := HIDm pf95
  replace pf96 := HIDm pf96
  replace pf97 := HIDm pf97
  replace pf98 := HIDm pf98
  replace pf99 := HIDm pf99
  replace pf100 := HIDm pf100
  replace pf101 := HIDm pf101
  replace pf102 := HIDm pf102
  replace pf103 := HIDm pf103
  replace pf104 := HIDm pf104
  replace pf105 := HIDm pf105
  replace pf106 := HIDm pf106
  replace pf107 := HIDm pf107
  replace pf108 := HIDm pf108
  replace pf109 := HIDm pf109
  replace pf110 := HIDm pf110
  replace pf111 := HIDm pf111
  replace pf112 := HIDm pf112
  replace pf113 := HIDm pf113
  replace pf114 := HIDm pf114
  replace pf115 := HIDm pf115
  replace pf116 := HIDm pf116
  replace pf117 := HIDm pf117
  replace pf118 := HIDm pf118
  replace pf119 := HIDm pf119
  replace pf120 := HIDm pf120
  replace pf121 := HIDm pf121
  replace pf122 := HIDm pf122
  replace pf123 := HIDm pf123
  replace pf124 := HIDm pf124
  replace pf125 := HIDm pf125
  replace pf126 := HIDm pf126
  replace pf127 := HIDm pf127
  replace pf128 := HIDm pf128
  replace pf129 := HIDm pf129
  replace pf130 := HIDm pf130
  replace pf131 := HIDm pf131
  replace pf132 := HIDm pf132
  replace pf133 := HIDm pf133
  replace pf134 := HIDm pf134
  replace pf135 := HIDm pf135
  replace pf136 := HIDm pf136
  replace pf137 := HIDm pf137
  replace pf138 := HIDm pf138
  replace pf139 := HIDm pf139
  replace pf140 := HIDm pf140
  replace pf141 := HIDm pf141
  replace pf142 := HIDm pf142
  replace pf143 := HIDm pf143
  replace pf144 := HIDm pf144
  replace pf145 := HIDm pf145
  replace pf146 := HIDm pf146
  replace pf147 := HIDm pf147
  replace pf148 := HIDm pf148
  replace pf149 := HIDm pf149
  replace pf150 := HIDm pf150
  replace pf151 := HIDm pf151
  replace pf152 := HIDm pf152
  replace pf153 := HIDm pf153
  replace pf154 := HIDm pf154
  replace pf155 := HIDm pf155
  replace pf156 := HIDm pf156
  replace pf157 := HIDm pf157
  replace pf158 := HIDm pf158
  replace pf159 := HIDm pf159
  replace pf160 := HIDm pf160
  replace pf161 := HIDm pf161
  replace pf162 := HIDm pf162
  replace pf163 := HIDm pf163
  replace pf164 := HIDm pf164
  replace pf165 := HIDm pf165
  replace pf166 := HIDm pf166
  replace pf167 := HIDm pf167
  replace pf168 := HIDm pf168
  replace pf169 := HIDm pf169
  replace pf170 := HIDm pf170
  replace pf171 := HIDm pf171
  replace pf172 := HIDm pf172
  replace pf173 := HIDm pf173
  replace pf174 := HIDm pf174
  replace pf175 := HIDm pf175
  replace pf176 := HIDm pf176
  replace pf177 := HIDm pf177
  replace pf178 := HIDm pf178
  replace pf179 := HIDm pf179
  replace pf180 := HIDm pf180
  replace pf181 := HIDm pf181
  replace pf182 := HIDm pf182
  replace pf183 := HIDm pf183
  replace pf184 := HIDm pf184
  replace pf185 := HIDm pf185
  replace pf186 := HIDm pf186
  replace pf187 := HIDm pf187
  replace pf188 := HIDm pf188
  replace pf189 := HIDm pf189
  replace pf190 := HIDm pf190
  replace pf191 := HIDm pf191
  replace pf192 := HIDm pf192
  replace pf193 := HIDm pf193
  replace pf194 := HIDm pf194
  replace pf195 := HIDm pf195
  replace pf196 := HIDm pf196
  replace pf197 := HIDm pf197
  replace pf198 := HIDm pf198
  replace pf199 := HIDm pf199
  replace pf200 := HIDm pf200
  replace pf201 := HIDm pf201
  replace pf202 := HIDm pf202
  replace pf203 := HIDm pf203
  replace en3 := HIDm en3
  replace en4 := HIDm en4
  replace en7 := HIDm en7
  replace en9 := HIDm en9
  replace en12 := HIDm en12
  replace en13 := HIDm en13
  replace en14 := HIDm en14
  replace en15 := HIDm en15
  replace en16 := HIDm en16
  replace en17 := HIDm en17
  replace en19 := HIDm en19
  replace en21 := HIDm en21
  replace en23 := HIDm en23
  replace en24 := HIDm en24
  replace en25 := HIDm en25
  replace en26 := HIDm en26
  replace en27 := HIDm en27
  replace en28 := HIDm en28
  replace en30 := HIDm en30
  replace en31 := HIDm en31
  replace en33 := HIDm en33
  replace en34 := HIDm en34
  replace en35 := HIDm en35
  replace en36 := HIDm en36
  replace en37 := HIDm en37
  replace en38 := HIDm en38
  replace en39 := HIDm en39
  replace en40 := HIDm en40
  replace en41 := HIDm en41
  replace en42 := HIDm en42
  replace en44 := HIDm en44
  replace en45 := HIDm en45
  replace en47 := HIDm en47
  replace en48 := HIDm en48
  replace en49 := HIDm en49
  replace en50 := HIDm en50
  replace en51 := HIDm en51
  replace en52 := HIDm en52
  replace en53 := HIDm en53
  replace en54 := HIDm en54
  replace en56 := HIDm en56
  replace en57 := HIDm en57
  replace en58 := HIDm en58
  replace en59 := HIDm en59
  replace en60 := HIDm en60
  replace en61 := HIDm en61
  replace en62 := HIDm en62
  replace en63 := HIDm en63
  replace en65 := HIDm en65
  replace en67 := HIDm en67
  replace en69 := HIDm en69
  replace en70 := HIDm en70
  replace en71 := HIDm en71
  replace en72 := HIDm en72
  replace en73 := HIDm en73
  replace en74 := HIDm en74
  replace en75 := HIDm en75
  replace en76 := HIDm en76
  replace en78 := HIDm en78
  replace en79 := HIDm en79
  replace en80 := HIDm en80
  replace en81 := HIDm en81
  replace en82 := HIDm en82
  replace en83 := HIDm en83
  replace en84 := HIDm en84
  replace en85 := HIDm en85
  replace en87 := HIDm en87
  replace en89 := HIDm en89
  replace en91 := HIDm en91
  replace en92 := HIDm en92
  replace en94 := HIDm en94
  replace en95 := HIDm en95
  replace en96 := HIDm en96
  replace en97 := HIDm en97
  replace en98 := HIDm en98
  replace en99 := HIDm en99
  replace en100 := HIDm en100
  replace en101 := HIDm en101
  replace en103 := HIDm en103
  replace en104 := HIDm en104
  replace en105 := HIDm en105
  replace en106 := HIDm en106
  replace en107 := HIDm en107
  replace en108 := HIDm en108
  replace en109 := HIDm en109
  replace en110 := HIDm en110
  replace en112 := HIDm en112
  replace en113 := HIDm en113
  replace en114 := HIDm en114
  replace en115 := HIDm en115
  replace en116 := HIDm en116
  replace en117 := HIDm en117
  replace en118 := HIDm en118
  replace en119 := HIDm en119
  replace en120 := HIDm en120
  replace en122 := HIDm en122
  replace en123 := HIDm en123
  replace en124 := HIDm en124
  replace en125 := HIDm en125
  replace en126 := HIDm en126
  replace en127 := HIDm en127
  replace en128 := HIDm en128
  replace en129 := HIDm en129
  replace en131 := HIDm en131
  replace en132 := HIDm en132
  replace en133 := HIDm en133
  replace en134 := HIDm en134
  replace en135 := HIDm en135
  replace en136 := HIDm en136
  replace en137 := HIDm en137
  replace en138 := HIDm en138
  replace en140 := HIDm en140
  replace en141 := HIDm en141
  replace en142 := HIDm en142
  replace en143 := HIDm en143
  replace en144 := HIDm en144
  replace en145 := HIDm en145
  replace en146 := HIDm en146
  replace en147 := HIDm en147
  replace en149 := HIDm en149
  replace en150 := HIDm en150
  replace en151 := HIDm en151
  replace en152 := HIDm en152
  replace en153 := HIDm en153
  replace en154 := HIDm en154
  replace en155 := HIDm en155
  replace en156 := HIDm en156
  replace en158 := HIDm en158
  replace en159 := HIDm en159
  replace en160 := HIDm en160
  replace en161 := HIDm en161
  replace en162 := HIDm en162
  replace en163 := HIDm en163
  replace en164 := HIDm en164
  replace en165 := HIDm en165
  replace en167 := HIDm en167
  replace en168 := HIDm en168
  replace en169 := HIDm en169
  replace en170 := HIDm en170
  replace en171 := HIDm en171
  replace en172 := HIDm en172
  replace en173 := HIDm en173
  replace en174 := HIDm en174
  replace en176 := HIDm en176
  replace en177 := HIDm en177
  replace en178 := HIDm en178
  replace en179 := HIDm en179
  replace en180 := HIDm en180
  replace en181 := HIDm en181
  replace en182 := HIDm en182
  replace en183 := HIDm en183
  replace en185 := HIDm en185
  replace en186 := HIDm en186
  replace en187 := HIDm en187
  replace en188 := HIDm en188
  replace en189 := HIDm en189
  replace en190 := HIDm en190
  replace en191 := HIDm en191
  replace en192 := HIDm en192
  replace en194 := HIDm en194
  replace en195 := HIDm en195
  replace en196 := HIDm en196
  replace en197 := HIDm en197
  replace en198 := HIDm en198
  replace en199 := HIDm en199
  replace en200 := HIDm en200
  replace en201 := HIDm en201
  replace en202 := HIDm en202
  replace en203 := HIDm en203
  replace eu1_1 := HIDm eu1_1
  replace eu2_1 := HIDm eu2_1
  replace eu2_2 := HIDm eu2_2
  replace eu5_2 := HIDm eu5_2
  replace eu6_1 := HIDm eu6_1
  replace eu11_1 := HIDm eu11_1
  replace eu18_1 := HIDm eu18_1
  replace eu20_1 := HIDm eu20_1
  replace eu22_1 := HIDm eu22_1
  replace eu43_0 := HIDm eu43_0
  replace eu55_1 := HIDm eu55_1
  replace eu64_1 := HIDm eu64_1
  replace eu66_1 := HIDm eu66_1
  replace eu77_1 := HIDm eu77_1
  replace eu86_1 := HIDm eu86_1
  replace eu88_1 := HIDm eu88_1
  replace eu90_3 := HIDm eu90_3
  replace eu93_0 := HIDm eu93_0
  replace eu93_1 := HIDm eu93_1
  replace eu102_1 := HIDm eu102_1
  replace eu111_1 := HIDm eu111_1
  replace eu121_0 := HIDm eu121_0
  replace eu121_1 := HIDm eu121_1
  replace eu130_0 := HIDm eu130_0
  replace eu130_1 := HIDm eu130_1
  replace eu139_1 := HIDm eu139_1
  replace eu148_1 := HIDm eu148_1
  replace eu157_0 := HIDm eu157_0
  replace eu157_1 := HIDm eu157_1
  replace eu166_0 := HIDm eu166_0
  replace eu166_1 := HIDm eu166_1
  replace eu175_1 := HIDm eu175_1
  replace eu184_1 := HIDm eu184_1
  replace eu193_0 := HIDm eu193_0
  replace eu193_1 := HIDm eu193_1
  have r35 : HID ((0 : Int) ≤ n3 ∧ n3 ≤ 1000000) := nrng (H.nle 3 (by decide)) (show (N 3 : Int) = n3 from en3)
  have r36 : HID ((0 : Int) ≤ n4 ∧ n4 ≤ 1000000) := nrng (H.nle 4 (by decide)) (show (N 4 : Int) = n4 from en4)
  have r37 : HID ((0 : Int) ≤ n7 ∧ n7 ≤ 1000000) := nrng (H.nle 7 (by decide)) (show (N 7 : Int) = n7 from en7)
  have r38 : HID ((0 : Int) ≤ n9 ∧ n9 ≤ 1000000) := nrng (H.nle 9 (by decide)) (show (N 9 : Int) = n9 from en9)
  have r39 : HID ((0 : Int) ≤ n12 ∧ n12 ≤ 1000000) := nrng (H.nle 12 (by decide)) (show (N 12 : Int) = n12 from en12)
  have r40 : HID ((0 : Int) ≤ n13 ∧ n13 ≤ 1000000) := nrng (H.nle 13 (by decide)) (show (N 13 : Int) = n13 from en13)
  have r41 : HID ((0 : Int) ≤ n14 ∧ n14 ≤ 1000000) := nrng (H.nle 14 (by decide)) (show (N 14 : Int) = n14 from en14)
  have r42 : HID ((0 : Int) ≤ n15 ∧ n15 ≤ 1000000) := nrng (H.nle 15 (by decide)) (show (N 15 : Int) = n15 from en15)
  have r43 : HID ((0 : Int) ≤ n16 ∧ n16 ≤ 1000000) := nrng (H.nle 16 (by decide)) (show (N 16 : Int) = n16 from en16)
  have r44 : HID ((0 : Int) ≤ n17 ∧ n17 ≤ 1000000) := nrng (H.nle 17 (by decide)) (show (N 17 : Int) = n17 from en17)
  have r45 : HID ((0 : Int) ≤ n19 ∧ n19 ≤ 1000000) := nrng (H.nle 19 (by decide)) (show (N 19 : Int) = n19 from en19)
  have r46 : HID ((0 : Int) ≤ n21 ∧ n21 ≤ 1000000) := nrng (H.nle 21 (by decide)) (show (N 21 : Int) = n21 from en21)
  have r47 : HID ((0 : Int) ≤ n23 ∧ n23 ≤ 1000000) := nrng (H.nle 23 (by decide)) (show (N 23 : Int) = n23 from en23)
  have r48 : HID ((0 : Int) ≤ n24 ∧ n24 ≤ 1000000) := nrng (H.nle 24 (by decide)) (show (N 24 : Int) = n24 from en24)
  have r49 : HID ((0 : Int) ≤ n25 ∧ n25 ≤ 1000000) := nrng (H.nle 25 (by decide)) (show (N 25 : Int) = n25 from en25)
  have r50 : HID ((0 : Int) ≤ n26 ∧ n26 ≤ 1000000) := nrng (H.nle 26 (by decide)) (show (N 26 : Int) = n26 from en26)
  have r51 : HID ((0 : Int) ≤ n27 ∧ n27 ≤ 1000000) := nrng (H.nle 27 (by decide)) (show (N 27 : Int) = n27 from en27)
  have r52 : HID ((0 : Int) ≤ n28 ∧ n28 ≤ 1000000) := nrng (H.nle 28 (by decide)) (show (N 28 : Int) = n28 from en28)
  have r53 : HID ((0 : Int) ≤ n30 ∧ n30 ≤ 1000000) := nrng (H.nle 30 (by decide)) (show (N 30 : Int) = n30 from en30)
  have r54 : HID ((0 : Int) ≤ n31 ∧ n31 ≤ 1000000) := nrng (H.nle 31 (by decide)) (show (N 31 : Int) = n31 from en31)
  have r55 : HID ((0 : Int) ≤ n33 ∧ n33 ≤ 1000000) := nrng (H.nle 33 (by decide)) (show (N 33 : Int) = n33 from en33)
  have r56 : HID ((0 : Int) ≤ n34 ∧ n34 ≤ 1000000) := nrng (H.nle 34 (by decide)) (show (N 34 : Int) = n34 from en34)
  have r57 : HID ((0 : Int) ≤ n35 ∧ n35 ≤ 1000000) := nrng (H.nle 35 (by decide)) (show (N 35 : Int) = n35 from en35)
  have r58 : HID ((0 : Int) ≤ n36 ∧ n36 ≤ 1000000) := nrng (H.nle 36 (by decide)) (show (N 36 : Int) = n36 from en36)
  have r59 : HID ((0 : Int) ≤ n37 ∧ n37 ≤ 1000000) := nrng (H.nle 37 (by decide)) (show (N 37 : Int) = n37 from en37)
  have r60 : HID ((0 : Int) ≤ n38 ∧ n38 ≤ 1000000) := nrng (H.nle 38 (by decide)) (show (N 38 : Int) = n38 from en38)
  have r61 : HID ((0 : Int) ≤ n39 ∧ n39 ≤ 1000000) := nrng (H.nle 39 (by decide)) (show (N 39 : Int) = n39 from en39)
  have r62 : HID ((0 : Int) ≤ n40 ∧ n40 ≤ 1000000) := nrng (H.nle 40 (by decide)) (show (N 40 : Int) = n40 from en40)
  have r63 : HID ((0 : Int) ≤ n41 ∧ n41 ≤ 1000000) := nrng (H.nle 41 (by decide)) (show (N 41 : Int) = n41 from en41)
  have r64 : HID ((0 : Int) ≤ n42 ∧ n42 ≤ 1000000) := nrng (H.nle 42 (by decide)) (show (N 42 : Int) = n42 from en42)
  have r65 : HID ((0 : Int) ≤ n44 ∧ n44 ≤ 1000000) := nrng (H.nle 44 (by decide)) (show (N 44 : Int) = n44 from en44)
  have r66 : HID ((0 : Int) ≤ n45 ∧ n45 ≤ 1000000) := nrng (H.nle 45 (by decide)) (show (N 45 : Int) = n45 from en45)
  have r67 : HID ((0 : Int) ≤ n47 ∧ n47 ≤ 1000000) := nrng (H.nle 47 (by decide)) (show (N 47 : Int) = n47 from en47)
  have r68 : HID ((0 : Int) ≤ n48 ∧ n48 ≤ 1000000) := nrng (H.nle 48 (by decide)) (show (N 48 : Int) = n48 from en48)
  have r69 : HID ((0 : Int) ≤ n49 ∧ n49 ≤ 1000000) := nrng (H.nle 49 (by decide)) (show (N 49 : Int) = n49 from en49)
  have r70 : HID ((0 : Int) ≤ n50 ∧ n50 ≤ 1000000) := nrng (H.nle 50 (by decide)) (show (N 50 : Int) = n50 from en50)
  have r71 : HID ((0 : Int) ≤ n51 ∧ n51 ≤ 1000000) := nrng (H.nle 51 (by decide)) (show (N 51 : Int) = n51 from en51)
  have r72 : HID ((0 : Int) ≤ n52 ∧ n52 ≤ 1000000) := nrng (H.nle 52 (by decide)) (show (N 52 : Int) = n52 from en52)
  have r73 : HID ((0 : Int) ≤ n53 ∧ n53 ≤ 1000000) := nrng (H.nle 53 (by decide)) (show (N 53 : Int) = n53 from en53)
  have r74 : HID ((0 : Int) ≤ n54 ∧ n54 ≤ 1000000) := nrng (H.nle 54 (by decide)) (show (N 54 : Int) = n54 from en54)
  have r75 : HID ((0 : Int) ≤ n56 ∧ n56 ≤ 1000000) := nrng (H.nle 56 (by decide)) (show (N 56 : Int) = n56 from en56)
  have r76 : HID ((0 : Int) ≤ n57 ∧ n57 ≤ 1000000) := nrng (H.nle 57 (by decide)) (show (N 57 : Int) = n57 from en57)
  have r77 : HID ((0 : Int) ≤ n58 ∧ n58 ≤ 1000000) := nrng (H.nle 58 (by decide)) (show (N 58 : Int) = n58 from en58)
  have r78 : HID ((0 : Int) ≤ n59 ∧ n59 ≤ 1000000) := nrng (H.nle 59 (by decide)) (show (N 59 : Int) = n59 from en59)
  have r79 : HID ((0 : Int) ≤ n60 ∧ n60 ≤ 1000000) := nrng (H.nle 60 (by decide)) (show (N 60 : Int) = n60 from en60)
  have r80 : HID ((0 : Int) ≤ n61 ∧ n61 ≤ 1000000) := nrng (H.nle 61 (by decide)) (show (N 61 : Int) = n61 from en61)
  have r81 : HID ((0 : Int) ≤ n62 ∧ n62 ≤ 1000000) := nrng (H.nle 62 (by decide)) (show (N 62 : Int) = n62 from en62)
  have r82 : HID ((0 : Int) ≤ n63 ∧ n63 ≤ 1000000) := nrng (H.nle 63 (by decide)) (show (N 63 : Int) = n63 from en63)
  have r83 : HID ((0 : Int) ≤ n65 ∧ n65 ≤ 1000000) := nrng (H.nle 65 (by decide)) (show (N 65 : Int) = n65 from en65)
  have r84 : HID ((0 : Int) ≤ n67 ∧ n67 ≤ 1000000) := nrng (H.nle 67 (by decide)) (show (N 67 : Int) = n67 from en67)
  have r85 : HID ((0 : Int) ≤ n69 ∧ n69 ≤ 1000000) := nrng (H.nle 69 (by decide)) (show (N 69 : Int) = n69 from en69)
  have r86 : HID ((0 : Int) ≤ n70 ∧ n70 ≤ 1000000) := nrng (H.nle 70 (by decide)) (show (N 70 : Int) = n70 from en70)
  have r87 : HID ((0 : Int) ≤ n71 ∧ n71 ≤ 1000000) := nrng (H.nle 71 (by decide)) (show (N 71 : Int) = n71 from en71)
  have r88 : HID ((0 : Int) ≤ n72 ∧ n72 ≤ 1000000) := nrng (H.nle 72 (by decide)) (show (N 72 : Int) = n72 from en72)
  have r89 : HID ((0 : Int) ≤ n73 ∧ n73 ≤ 1000000) := nrng (H.nle 73 (by decide)) (show (N 73 : Int) = n73 from en73)
  have r90 : HID ((0 : Int) ≤ n74 ∧ n74 ≤ 1000000) := nrng (H.nle 74 (by decide)) (show (N 74 : Int) = n74 from en74)
  have r91 : HID ((0 : Int) ≤ n75 ∧ n75 ≤ 1000000) := nrng (H.nle 75 (by decide)) (show (N 75 : Int) = n75 from en75)
  have r92 : HID ((0 : Int) ≤ n76 ∧ n76 ≤ 1000000) := nrng (H.nle 76 (by decide)) (show (N 76 : Int) = n76 from en76)
  have r93 : HID ((0 : Int) ≤ n78 ∧ n78 ≤ 1000000) := nrng (H.nle 78 (by decide)) (show (N 78 : Int) = n78 from en78)
  have r94 : HID ((0 : Int) ≤ n79 ∧ n79 ≤ 1000000) := nrng (H.nle 79 (by decide)) (show (N 79 : Int) = n79 from en79)
  have r95 : HID ((0 : Int) ≤ n80 ∧ n80 ≤ 1000000) := nrng (H.nle 80 (by decide)) (show (N 80 : Int) = n80 from en80)
  have r96 : HID ((0 : Int) ≤ n81 ∧ n81 ≤ 1000000) := nrng (H.nle 81 (by decide)) (show (N 81 : Int) = n81 from en81)
  have r97 : HID ((0 : Int) ≤ n82 ∧ n82 ≤ 1000000) := nrng (H.nle 82 (by decide)) (show (N 82 : Int) = n82 from en82)
  have r98 : HID ((0 : Int) ≤ n83 ∧ n83 ≤ 1000000) := nrng (H.nle 83 (by decide)) (show (N 83 : Int) = n83 from en83)
  have r99 : HID ((0 : Int) ≤ n84 ∧ n84 ≤ 1000000) := nrng (H.nle 84 (by decide)) (show (N 84 : Int) = n84 from en84)
  have r100 : HID ((0 : Int) ≤ n85 ∧ n85 ≤ 1000000) := nrng (H.nle 85 (by decide)) (show (N 85 : Int) = n85 from en85)
  have r101 : HID ((0 : Int) ≤ n87 ∧ n87 ≤ 1000000) := nrng (H.nle 87 (by decide)) (show (N 87 : Int) = n87 from en87)
  have r102 : HID ((0 : Int) ≤ n89 ∧ n89 ≤ 1000000) := nrng (H.nle 89 (by decide)) (show (N 89 : Int) = n89 from en89)
  have r103 : HID ((0 : Int) ≤ n91 ∧ n91 ≤ 1000000) := nrng (H.nle 91 (by decide)) (show (N 91 : Int) = n91 from en91)
  have r104 : HID ((0 : Int) ≤ n92 ∧ n92 ≤ 1000000) := nrng (H.nle 92 (by decide)) (show (N 92 : Int) = n92 from en92)
  have r105 : HID ((0 : Int) ≤ n94 ∧ n94 ≤ 1000000) := nrng (H.nle 94 (by decide)) (show (N 94 : Int) = n94 from en94)
  have r106 : HID ((0 : Int) ≤ n95 ∧ n95 ≤ 1000000) := nrng (H.nle 95 (by decide)) (show (N 95 : Int) = n95 from en95)
  have r107 : HID ((0 : Int) ≤ n96 ∧ n96 ≤ 1000000) := nrng (H.nle 96 (by decide)) (show (N 96 : Int) = n96 from en96)
  have r108 : HID ((0 : Int) ≤ n97 ∧ n97 ≤ 1000000) := nrng (H.nle 97 (by decide)) (show (N 97 : Int) = n97 from en97)
  have r109 : HID ((0 : Int) ≤ n98 ∧ n98 ≤ 1000000) := nrng (H.nle 98 (by decide)) (show (N 98 : Int) = n98 from en98)
  have r110 : HID ((0 : Int) ≤ n99 ∧ n99 ≤ 1000000) := nrng (H.nle 99 (by decide)) (show (N 99 : Int) = n99 from en99)
  have r111 : HID ((0 : Int) ≤ n100 ∧ n100 ≤ 1000000) := nrng (H.nle 100 (by decide)) (show (N 100 : Int) = n100 from en100)
  have r112 : HID ((0 : Int) ≤ n101 ∧ n101 ≤ 1000000) := nrng (H.nle 101 (by decide)) (show (N 101 : Int) = n101 from en101)
  have r113 : HID ((0 : Int) ≤ n103 ∧ n103 ≤ 1000000) := nrng (H.nle 103 (by decide)) (show (N 103 : Int) = n103 from en103)
  have r114 : HID ((0 : Int) ≤ n104 ∧ n104 ≤ 1000000) := nrng (H.nle 104 (by decide)) (show (N 104 : Int) = n104 from en104)
  have r115 : HID ((0 : Int) ≤ n105 ∧ n105 ≤ 1000000) := nrng (H.nle 105 (by decide)) (show (N 105 : Int) = n105 from en105)
  have r116 : HID ((0 : Int) ≤ n106 ∧ n106 ≤ 1000000) := nrng (H.nle 106 (by decide)) (show (N 106 : Int) = n106 from en106)
  have r117 : HID ((0 : Int) ≤ n107 ∧ n107 ≤ 1000000) := nrng (H.nle 107 (by decide)) (show (N 107 : Int) = n107 from en107)
  have r118 : HID ((0 : Int) ≤ n108 ∧ n108 ≤ 1000000) := nrng (H.nle 108 (by decide)) (show (N 108 : Int) = n108 from en108)
  have r119 : HID ((0 : Int) ≤ n109 ∧ n109 ≤ 1000000) := nrng (H.nle 109 (by decide)) (show (N 109 : Int) = n109 from en109)
  have r120 : HID ((0 : Int) ≤ n110 ∧ n110 ≤ 1000000) := nrng (H.nle 110 (by decide)) (show (N 110 : Int) = n110 from en110)
  have r121 : HID ((0 : Int) ≤ n112 ∧ n112 ≤ 1000000) := nrng (H.nle 112 (by decide)) (show (N 112 : Int) = n112 from en112)
  have r122 : HID ((0 : Int) ≤ n113 ∧ n113 ≤ 1000000) := nrng (H.nle 113 (by decide)) (show (N 113 : Int) = n113 from en113)
  have r123 : HID ((0 : Int) ≤ n114 ∧ n114 ≤ 1000000) := nrng (H.nle 114 (by decide)) (show (N 114 : Int) = n114 from en114)
  have r124 : HID ((0 : Int) ≤ n115 ∧ n115 ≤ 1000000) := nrng (H.nle 115 (by decide)) (show (N 115 : Int) = n115 from en115)
  have r125 : HID ((0 : Int) ≤ n116 ∧ n116 ≤ 1000000) := nrng (H.nle 116 (by decide)) (show (N 116 : Int) = n116 from en116)
  have r126 : HID ((0 : Int) ≤ n117 ∧ n117 ≤ 1000000) := nrng (H.nle 117 (by decide)) (show (N 117 : Int) = n117 from en117)
  have r127 : HID ((0 : Int) ≤ n118 ∧ n118 ≤ 1000000) := nrng (H.nle 118 (by decide)) (show (N 118 : Int) = n118 from en118)
  have r128 : HID ((0 : Int) ≤ n119 ∧ n119 ≤ 1000000) := nrng (H.nle 119 (by decide)) (show (N 119 : Int) = n119 from en119)
  have r129 : HID ((0 : Int) ≤ n122 ∧ n122 ≤ 1000000) := nrng (H.nle 122 (by decide)) (show (N 122 : Int) = n122 from en122)
  have r130 : HID ((0 : Int) ≤ n123 ∧ n123 ≤ 1000000) := nrng (H.nle 123 (by decide)) (show (N 123 : Int) = n123 from en123)
  have r131 : HID ((0 : Int) ≤ n124 ∧ n124 ≤ 1000000) := nrng (H.nle 124 (by decide)) (show (N 124 : Int) = n124 from en124)
  have r132 : HID ((0 : Int) ≤ n125 ∧ n125 ≤ 1000000) := nrng (H.nle 125 (by decide)) (show (N 125 : Int) = n125 from en125)
  have r133 : HID ((0 : Int) ≤ n126 ∧ n126 ≤ 1000000) := nrng (H.nle 126 (by decide)) (show (N 126 : Int) = n126 from en126)
  have r134 : HID ((0 : Int) ≤ n127 ∧ n127 ≤ 1000000) := nrng (H.nle 127 (by decide)) (show (N 127 : Int) = n127 from en127)
  have r135 : HID ((0 : Int) ≤ n128 ∧ n128 ≤ 1000000) := nrng (H.nle 128 (by decide)) (show (N 128 : Int) = n128 from en128)
  have r136 : HID ((0 : Int) ≤ n129 ∧ n129 ≤ 1000000) := nrng (H.nle 129 (by decide)) (show (N 129 : Int) = n129 from en129)
  have r137 : HID ((0 : Int) ≤ n131 ∧ n131 ≤ 1000000) := nrng (H.nle 131 (by decide)) (show (N 131 : Int) = n131 from en131)
  have r138 : HID ((0 : Int) ≤ n132 ∧ n132 ≤ 1000000) := nrng (H.nle 132 (by decide)) (show (N 132 : Int) = n132 from en132)
  have r139 : HID ((0 : Int) ≤ n133 ∧ n133 ≤ 1000000) := nrng (H.nle 133 (by decide)) (show (N 133 : Int) = n133 from en133)
  have r140 : HID ((0 : Int) ≤ n134 ∧ n134 ≤ 1000000) := nrng (H.nle 134 (by decide)) (show (N 134 : Int) = n134 from en134)
  have r141 : HID ((0 : Int) ≤ n135 ∧ n135 ≤ 1000000) := nrng (H.nle 135 (by decide)) (show (N 135 : Int) = n135 from en135)
  have r142 : HID ((0 : Int) ≤ n136 ∧ n136 ≤ 1000000) := nrng (H.nle 136 (by decide)) (show (N 136 : Int) = n136 from en136)
  have r143 : HID ((0 : Int) ≤ n137 ∧ n137 ≤ 1000000) := nrng (H.nle 137 (by decide)) (show (N 137 : Int) = n137 from en137)
  have r144 : HID ((0 : Int) ≤ n138 ∧ n138 ≤ 1000000) := nrng (H.nle 138 (by decide)) (show (N 138 : Int) = n138 from en138)
  have r145 : HID ((0 : Int) ≤ n140 ∧ n140 ≤ 1000000) := nrng (H.nle 140 (by decide)) (show (N 140 : Int) = n140 from en140)
  have r146 : HID ((0 : Int) ≤ n141 ∧ n141 ≤ 1000000) := nrng (H.nle 141 (by decide)) (show (N 141 : Int) = n141 from en141)
  have r147 : HID ((0 : Int) ≤ n142 ∧ n142 ≤ 1000000) := nrng (H.nle 142 (by decide)) (show (N 142 : Int) = n142 from en142)
  have r148 : HID ((0 : Int) ≤ n143 ∧ n143 ≤ 1000000) := nrng (H.nle 143 (by decide)) (show (N 143 : Int) = n143 from en143)
  have r149 : HID ((0 : Int) ≤ n144 ∧ n144 ≤ 1000000) := nrng (H.nle 144 (by decide)) (show (N 144 : Int) = n144 from en144)
  have r150 : HID ((0 : Int) ≤ n145 ∧ n145 ≤ 1000000) := nrng (H.nle 145 (by decide)) (show (N 145 : Int) = n145 from en145)
  have r151 : HID ((0 : Int) ≤ n146 ∧ n146 ≤ 1000000) := nrng (H.nle 146 (by decide)) (show (N 146 : Int) = n146 from en146)
  have r152 : HID ((0 : Int) ≤ n147 ∧ n147 ≤ 1000000) := nrng (H.nle 147 (by decide)) (show (N 147 : Int) = n147 from en147)
  have r153 : HID ((0 : Int) ≤ n149 ∧ n149 ≤ 1000000) := nrng (H.nle 149 (by decide)) (show (N 149 : Int) = n149 from en149)
  have r154 : HID ((0 : Int) ≤ n150 ∧ n150 ≤ 1000000) := nrng (H.nle 150 (by decide)) (show (N 150 : Int) = n150 from en150)
  have r155 : HID ((0 : Int) ≤ n151 ∧ n151 ≤ 1000000) := nrng (H.nle 151 (by decide)) (show (N 151 : Int) = n151 from en151)
  have r156 : HID ((0 : Int) ≤ n152 ∧ n152 ≤ 1000000) := nrng (H.nle 152 (by decide)) (show (N 152 : Int) = n152 from en152)
  have r157 : HID ((0 : Int) ≤ n153 ∧ n153 ≤ 1000000) := nrng (H.nle 153 (by decide)) (show (N 153 : Int) = n153 from en153)
  have r158 : HID ((0 : Int) ≤ n154 ∧ n154 ≤ 1000000) := nrng (H.nle 154 (by decide)) (show (N 154 : Int) = n154 from en154)
  have r159 : HID ((0 : Int) ≤ n155 ∧ n155 ≤ 1000000) := nrng (H.nle 155 (by decide)) (show (N 155 : Int) = n155 from en155)
  have r160 : HID ((0 : Int) ≤ n156 ∧ n156 ≤ 1000000) := nrng (H.nle 156 (by decide)) (show (N 156 : Int) = n156 from en156)
  have r161 : HID ((0 : Int) ≤ n158 ∧ n158 ≤ 1000000) := nrng (H.nle 158 (by decide)) (show (N 158 : Int) = n158 from en158)
  have r162 : HID ((0 : Int) ≤ n159 ∧ n159 ≤ 1000000) := nrng (H.nle 159 (by decide)) (show (N 159 : Int) = n159 from en159)
  have r163 : HID ((0 : Int) ≤ n160 ∧ n160 ≤ 1000000) := nrng (H.nle 160 (by decide)) (show (N 160 : Int) = n160 from en160)
  have r164 : HID ((0 : Int) ≤ n161 ∧ n161 ≤ 1000000) := nrng (H.nle 161 (by decide)) (show (N 161 : Int) = n161 from en161)
  have r165 : HID ((0 : Int) ≤ n162 ∧ n162 ≤ 1000000) := nrng (H.nle 162 (by decide)) (show (N 162 : Int) = n162 from en162)
  have r166 : HID ((0 : Int) ≤ n163 ∧ n163 ≤ 1000000) := nrng (H.nle 163 (by decide)) (show (N 163 : Int) = n163 from en163)
  have r167 : HID ((0 : Int) ≤ n164 ∧ n164 ≤ 1000000) := nrng (H.nle 164 (by decide)) (show (N 164 : Int) = n164 from en164)
  have r168 : HID ((0 : Int) ≤ n165 ∧ n165 ≤ 1000000) := nrng (H.nle 165 (by decide)) (show (N 165 : Int) = n165 from en165)
  have r169 : HID ((0 : Int) ≤ n167 ∧ n167 ≤ 1000000) := nrng (H.nle 167 (by decide)) (show (N 167 : Int) = n167 from en167)
  have r170 : HID ((0 : Int) ≤ n168 ∧ n168 ≤ 1000000) := nrng (H.nle 168 (by decide)) (show (N 168 : Int) = n168 from en168)
  have r171 : HID ((0 : Int) ≤ n169 ∧ n169 ≤ 1000000) := nrng (H.nle 169 (by decide)) (show (N 169 : Int) = n169 from en169)
  have r172 : HID ((0 : Int) ≤ n170 ∧ n170 ≤ 1000000) := nrng (H.nle 170 (by decide)) (show (N 170 : Int) = n170 from en170)
  have r173 : HID ((0 : Int) ≤ n171 ∧ n171 ≤ 1000000) := nrng (H.nle 171 (by decide)) (show (N 171 : Int) = n171 from en171)
  have r174 : HID ((0 : Int) ≤ n172 ∧ n172 ≤ 1000000) := nrng (H.nle 172 (by decide)) (show (N 172 : Int) = n172 from en172)
  have r175 : HID ((0 : Int) ≤ n173 ∧ n173 ≤ 1000000) := nrng (H.nle 173 (by decide)) (show (N 173 : Int) = n173 from en173)
  have r176 : HID ((0 : Int) ≤ n174 ∧ n174 ≤ 1000000) := nrng (H.nle 174 (by decide)) (show (N 174 : Int) = n174 from en174)
  have r177 : HID ((0 : Int) ≤ n176 ∧ n176 ≤ 1000000) := nrng (H.nle 176 (by decide)) (show (N 176 : Int) = n176 from en176)
  have r178 : HID ((0 : Int) ≤ n177 ∧ n177 ≤ 1000000) := nrng (H.nle 177 (by decide)) (show (N 177 : Int) = n177 from en177)
  have r179 : HID ((0 : Int) ≤ n178 ∧ n178 ≤ 1000000) := nrng (H.nle 178 (by decide)) (show (N 178 : Int) = n178 from en178)
  have r180 : HID ((0 : Int) ≤ n179 ∧ n179 ≤ 1000000) := nrng (H.nle 179 (by decide)) (show (N 179 : Int) = n179 from en179)
  have r181 : HID ((0 : Int) ≤ n180 ∧ n180 ≤ 1000000) := nrng (H.nle 180 (by decide)) (show (N 180 : Int) = n180 from en180)
  have r182 : HID ((0 : Int) ≤ n181 ∧ n181 ≤ 1000000) := nrng (H.nle 181 (by decide)) (show (N 181 : Int) = n181 from en181)
  have r183 : HID ((0 : Int) ≤ n182 ∧ n182 ≤ 1000000) := nrng (H.nle 182 (by decide)) (show (N 182 : Int) = n182 from en182)
  have r184 : HID ((0 : Int) ≤ n183 ∧ n183 ≤ 1000000) := nrng (H.nle 183 (by decide)) (show (N 183 : Int) = n183 from en183)
  have r185 : HID ((0 : Int) ≤ n185 ∧ n185 ≤ 1000000) := nrng (H.nle 185 (by decide)) (show (N 185 : Int) = n185 from en185)
  have r186 : HID ((0 : Int) ≤ n186 ∧ n186 ≤ 1000000) := nrng (H.nle 186 (by decide)) (show (N 186 : Int) = n186 from en186)
  have r187 : HID ((0 : Int) ≤ n187 ∧ n187 ≤ 1000000) := nrng (H.nle 187 (by decide)) (show (N 187 : Int) = n187 from en187)
  have r188 : HID ((0 : Int) ≤ n188 ∧ n188 ≤ 1000000) := nrng (H.nle 188 (by decide)) (show (N 188 : Int) = n188 from en188)
  have r189 : HID ((0 : Int) ≤ n189 ∧ n189 ≤ 1000000) := nrng (H.nle 189 (by decide)) (show (N 189 : Int) = n189 from en189)
  have r190 : HID ((0 : Int) ≤ n190 ∧ n190 ≤ 1000000) := nrng (H.nle 190 (by decide)) (show (N 190 : Int) = n190 from en190)
  have r191 : HID ((0 : Int) ≤ n191 ∧ n191 ≤ 1000000) := nrng (H.nle 191 (by decide)) (show (N 191 : Int) = n191 from en191)
  have r192 : HID ((0 : Int) ≤ n192 ∧ n192 ≤ 1000000) := nrng (H.nle 192 (by decide)) (show (N 192 : Int) = n192 from en192)
  have r193 : HID ((0 : Int) ≤ n194 ∧ n194 ≤ 1000000) := nrng (H.nle 194 (by decide)) (show (N 194 : Int) = n194 from en194)
  have r194 : HID ((0 : Int) ≤ n195 ∧ n195 ≤ 1000000) := nrng (H.nle 195 (by decide)) (show (N 195 : Int) = n195 from en195)
  have r195 : HID ((0 : Int) ≤ n196 ∧ n196 ≤ 1000000) := nrng (H.nle 196 (by decide)) (show (N 196 : Int) = n196 from en196)
  have r196 : HID ((0 : Int) ≤ n197 ∧ n197 ≤ 1000000) := nrng (H.nle 197 (by decide)) (show (N 197 : Int) = n197 from en197)
  have r197 : HID ((0 : Int) ≤ n198 ∧ n198 ≤ 1000000) := nrng (H.nle 198 (by decide)) (show (N 198 : Int) = n198 from en198)
  have r198 : HID ((0 : Int) ≤ n199 ∧ n199 ≤ 1000000) := nrng (H.nle 199 (by decide)) (show (N 199 : Int) = n199 from en199)
  have r199 : HID ((0 : Int) ≤ n200 ∧ n200 ≤ 1000000) := nrng (H.nle 200 (by decide)) (show (N 200 : Int) = n200 from en200)
  have r200 : HID ((0 : Int) ≤ n201 ∧ n201 ≤ 1000000) := nrng (H.nle 201 (by decide)) (show (N 201 : Int) = n201 from en201)
  have hD1 : Dc.1 = sc ((w7)) 0 ((u6_1)) := by assumption
  have hD2 : Dc.2.1 = (u5_2) % 4294967296 := by assumption
  refine Ew_of (pc' := 169) (fun _ => x_aload_n rfl hl0) ?_
  refine v_g H (o := 0) (v := .ref (D 2)) rfl rfl rfl rfl rfl (vrf (pf2)) ?_
  refine Ew_of (pc' := 174) (fun _ => x_aload rfl hl4) ?_
  refine Ew_of (pc' := 175) (fun _ => x_aload_n rfl hl0) ?_
  refine v_g H (o := 0) (v := .ref (D 5)) rfl rfl rfl rfl rfl (vrf (pf5)) ?_
  have r201 : HID ((0 : Int) ≤ n120 ∧ n120 ≤ 1000000) := nrng (H.nle 120 (by decide)) (show (N 120 : Int) = n120 from en120)
  have r202 : HID ((0 : Int) ≤ n202 ∧ n202 ≤ 1000000) := nrng (H.nle 202 (by decide)) (show (N 202 : Int) = n202 from en202)
  refine v_inv H (o := 8) rfl rfl rfl rfl rfl rfl (by rfl) (C134_Row_Row_Dictionary_vd (D := pul [8, 2, 1, 5, 3, 4, 6, 7, 9, 10, 11, 12, 13, 14, 15, 16, 17, 18, 19, 20, 21, 22, 23, 24, 25, 26, 27, 28, 29, 30, 31, 32, 33, 34, 35, 36, 37, 38, 39, 40, 41, 42, 43, 44, 45, 46, 47, 48, 49, 50, 51, 52, 53, 54, 55, 56, 57, 58, 59, 60, 61, 62, 63, 64, 65, 66, 67, 68, 69, 70, 71, 72, 73, 74, 75, 76, 77, 78, 79, 80, 81, 82, 83, 84, 85, 86, 87, 88, 89, 90, 91, 92, 93, 94, 95, 96, 97, 98, 99, 100, 101, 102, 103, 104, 105, 106, 107, 108, 109, 110, 111, 112, 113, 114, 115, 116, 117, 118, 119, 120, 121, 122, 123, 124, 125, 126, 127, 128, 129, 130, 131, 132, 133, 134, 135, 136, 137, 138, 139, 140, 141, 142, 143, 144, 145, 146, 147, 148, 149, 150, 151, 152, 153, 154, 155, 156, 157, 158, 159, 160, 161, 162, 163, 164, 165, 166, 167, 168, 169, 170, 171, 172, 173, 174, 175, 176, 177, 178, 179, 180, 181, 182, 183, 184, 185, 186, 187, 188, 189, 190, 191, 192, 193, 194, 195, 196, 197, 198, 199, 200, 201, 202] D) (N := pul [8, 2, 1, 5, 3, 4, 6, 7, 9, 10, 11, 12, 13, 14, 15, 16, 17, 18, 19, 20, 21, 22, 23, 24, 25, 26, 27, 28, 29, 30, 31, 32, 33, 34, 35, 36, 37, 38, 39, 40, 41, 42, 43, 44, 45, 46, 47, 48, 49, 50, 51, 52, 53, 54, 55, 56, 57, 58, 59, 60, 61, 62, 63, 64, 65, 66, 67, 68, 69, 70, 71, 72, 73, 74, 75, 76, 77, 78, 79, 80, 81, 82, 83, 84, 85, 86, 87, 88, 89, 90, 91, 92, 93, 94, 95, 96, 97, 98, 99, 100, 101, 102, 103, 104, 105, 106, 107, 108, 109, 110, 111, 112, 113, 114, 115, 116, 117, 118, 119, 120, 121, 122, 123, 124, 125, 126, 127, 128, 129, 130, 131, 132, 133, 134, 135, 136, 137, 138, 139, 140, 141, 142, 143, 144, 145, 146, 147, 148, 149, 150, 151, 152, 153, 154, 155, 156, 157, 158, 159, 160, 161, 162, 163, 164, 165, 166, 167, 168, 169, 170, 171, 172, 173, 174, 175, 176, 177, 178, 179, 180, 181, 182, 183, 184, 185, 186, 187, 188, 189, 190, 191, 192, 193, 194, 195, 196, 197, 198, 199, 200, 201, 202] N) (HW_sub H (VS_of (show vsub V17_vD4d V134_Row_Row_Dictionary_vd [8, 2, 1, 5, 3, 4, 6, 7, 9, 10, 11, 12, 13, 14, 15, 16, 17, 18, 19, 20, 21, 22, 23, 24, 25, 26, 27, 28, 29, 30, 31, 32, 33, 34, 35, 36, 37, 38, 39, 40, 41, 42, 43, 44, 45, 46, 47, 48, 49, 50, 51, 52, 53, 54, 55, 56, 57, 58, 59, 60, 61, 62, 63, 64, 65, 66, 67, 68, 69, 70, 71, 72, 73, 74, 75, 76, 77, 78, 79, 80, 81, 82, 83, 84, 85, 86, 87, 88, 89, 90, 91, 92, 93, 94, 95, 96, 97, 98, 99, 100, 101, 102, 103, 104, 105, 106, 107, 108, 109, 110, 111, 112, 113, 114, 115, 116, 117, 118, 119, 120, 121, 122, 123, 124, 125, 126, 127, 128, 129, 130, 131, 132, 133, 134, 135, 136, 137, 138, 139, 140, 141, 142, 143, 144, 145, 146, 147, 148, 149, 150, 151, 152, 153, 154, 155, 156, 157, 158, 159, 160, 161, 162, 163, 164, 165, 166, 167, 168, 169, 170, 171, 172, 173, 174, 175, 176, 177, 178, 179, 180, 181, 182, 183, 184, 185, 186, 187, 188, 189, 190, 191, 192, 193, 194, 195, 196, 197, 198, 199, 200, 201, 202] = true by decide +kernel))) (STC_out HT HE O) (pf3) (pf4) (pf6) (pf7) (pf9) (pf10) (pf11) (pf12) (pf13) (pf14) (pf15) (pf16) (pf17) (pf18) (pf19) (pf20) (pf21) (pf22) (pf23) (pf24) (pf25) (pf26) (pf27) (pf28) (pf29) (pf30) (pf31) (pf32) (pf33) (pf34) (pf35) (pf36) (pf37) (pf38) (pf39) (pf40) (pf41) (pf42) (pf43) (pf44) (pf45) (pf46) (pf47) (pf48) (pf49) (pf50) (pf51) (pf52) (pf53) (pf54) (pf55) (pf56) (pf57) (pf58) (pf59) (pf60) (pf61) (pf62) (pf63) (pf64) (pf65) (pf66) (pf67) (pf68) (pf69) (pf70) (pf71) (pf72) (pf73) (pf74) (pf75) (pf76) (pf77) (pf78) (pf79) (pf80) (pf81) (pf82) (pf83) (pf84) (pf85) (pf86) (pf87) (pf88) (pf89) (pf90) (pf91) (pf92) (pf93) (pf94) (pf95) (pf96) (pf97) (pf98) (pf99) (pf100) (pf101) (pf102) (pf103) (pf104) (pf105) (pf106) (pf107) (pf108) (pf109) (pf110) (pf111) (pf112) (pf113) (pf114) (pf115) (pf116) (pf117) (pf118) (pf119) (pf120) (pf121) (pf122) (pf123) (pf124) (pf125) (pf126) (pf127) (pf128) (pf129) (pf130) (pf131) (pf132) (pf133) (pf134) (pf135) (pf136) (pf137) (pf138) (pf139) (pf140) (pf141) (pf142) (pf143) (pf144) (pf145) (pf146) (pf147) (pf148) (pf149) (pf150) (pf151) (pf152) (pf153) (pf154) (pf155) (pf156) (pf157) (pf158) (pf159) (pf160) (pf161) (pf162) (pf163) (pf164) (pf165) (pf166) (pf167) (pf168) (pf169) (pf170) (pf171) (pf172) (pf173) (pf174) (pf175) (pf176) (pf177) (pf178) (pf179) (pf180) (pf181) (pf182) (pf183) (pf184) (pf185) (pf186) (pf187) (pf188) (pf189) (pf190) (pf191) (pf192) (pf193) (pf194) (pf195) (pf196) (pf197) (pf198) (pf199) (pf200) (pf201) (pf202) (n3) (en3) (n4) (en4) (n7) (en7) (n9) (en9) (n12) (en12) (n13) (en13) (n14) (en14) (n15) (en15) (n16) (en16) (n17) (en17) (n19) (en19) (n21) (en21) (n23) (en23) (n24) (en24) (n25) (en25) (n26) (en26) (n27) (en27) (n28) (en28) (n30) (en30) (n31) (en31) (n33) (en33) (n34) (en34) (n35) (en35) (n36) (en36) (n37) (en37) (n38) (en38) (n39) (en39) (n40) (en40) (n41) (en41) (n42) (en42) (n44) (en44) (n45) (en45) (n47) (en47) (n48) (en48) (n49) (en49) (n50) (en50) (n51) (en51) (n52) (en52) (n53) (en53) (n54) (en54) (n56) (en56) (n57) (en57) (n58) (en58) (n59) (en59) (n60) (en60) (n61) (en61) (n62) (en62) (n63) (en63) (n65) (en65) (n67) (en67) (n69) (en69) (n70) (en70) (n71) (en71) (n72) (en72) (n73) (en73) (n74) (en74) (n75) (en75) (n76) (en76) (n78) (en78) (n79) (en79) (n80) (en80) (n81) (en81) (n82) (en82) (n83) (en83) (n84) (en84) (n85) (en85) (n87) (en87) (n89) (en89) (n91) (en91) (n92) (en92) (n94) (en94) (n95) (en95) (n96) (en96) (n97) (en97) (n98) (en98) (n99) (en99) (n100) (en100) (n101) (en101) (n103) (en103) (n104) (en104) (n105) (en105) (n106) (en106) (n107) (en107) (n108) (en108) (n109) (en109) (n110) (en110) (n112) (en112) (n113) (en113) (n114) (en114) (n115) (en115) (n116) (en116) (n117) (en117) (n118) (en118) (n119) (en119) (n120) (en120) (n122) (en122) (n123) (en123) (n124) (en124) (n125) (en125) (n126) (en126) (n127) (en127) (n128) (en128) (n129) (en129) (n131) (en131) (n132) (en132) (n133) (en133) (n134) (en134) (n135) (en135) (n136) (en136) (n137) (en137) (n138) (en138) (n140) (en140) (n141) (en141) (n142) (en142) (n143) (en143) (n144) (en144) (n145) (en145) (n146) (en146) (n147) (en147) (n149) (en149) (n150) (en150) (n151) (en151) (n152) (en152) (n153) (en153) (n154) (en154) (n155) (en155) (n156) (en156) (n158) (en158) (n159) (en159) (n160) (en160) (n161) (en161) (n162) (en162) (n163) (en163) (n164) (en164) (n165) (en165) (n167) (en167) (n168) (en168) (n169) (en169) (n170) (en170) (n171) (en171) (n172) (en172) (n173) (en173) (n174) (en174) (n176) (en176) (n177) (en177) (n178) (en178) (n179) (en179) (n180) (en180) (n181) (en181) (n182) (en182) (n183) (en183) (n185) (en185) (n186) (en186) (n187) (en187) (n188) (en188) (n189) (en189) (n190) (en190) (n191) (en191) (n192) (en192) (n194) (en194) (n195) (en195) (n196) (en196) (n197) (en197) (n198) (en198) (n199) (en199) (n200) (en200) (n201) (en201) (n202) (en202) (u2_1) ((eu2_1)) (u2_2) ((eu2_2)) (u1_1) ((eu1_1)) (u5_2) ((eu5_2)) (u6_1) ((eu6_1)) (u11_1) ((eu11_1)) (u18_1) ((eu18_1)) (u20_1) ((eu20_1)) (u22_1) ((eu22_1)) (u43_0) ((eu43_0)) (u55_1) ((eu55_1)) (u64_1) ((eu64_1)) (u66_1) ((eu66_1)) (u77_1) ((eu77_1)) (u86_1) ((eu86_1)) (u88_1) ((eu88_1)) (u90_3) ((eu90_3)) (u93_0) ((eu93_0)) (u93_1) ((eu93_1)) (u102_1) ((eu102_1)) (u111_1) ((eu111_1)) (u121_0) ((eu121_0)) (u121_1) ((eu121_1)) (u130_0) ((eu130_0)) (u130_1) ((eu130_1)) (u139_1) ((eu139_1)) (u148_1) ((eu148_1)) (u157_0) ((eu157_0)) (u157_1) ((eu157_1)) (u166_0) ((eu166_0)) (u166_1) ((eu166_1)) (u175_1) ((eu175_1)) (u184_1) ((eu184_1)) (u193_0) ((eu193_0)) (u193_1) ((eu193_1)) (w3) (ew3) (w4) (ew4) (w7) (ew7) (w9) (ew9) (A 26) (rfl) (w27) (ew27) (w44) (ew44) (w45) (ew45) (w49) (ew49) (w71) (ew71) (w91) (ew91) (w92) (ew92) (w94) (ew94) (w95) (ew95) (w96) (ew96) (w97) (ew97) (w98) (ew98) (w99) (ew99) (w100) (ew100) (w122) (ew122) (w123) (ew123) (w124) (ew124) (w125) (ew125) (w127) (ew127) (w128) (ew128) (w129) (ew129) (w131) (ew131) (w132) (ew132) (w133) (ew133) (w134) (ew134) (w135) (ew135) (w136) (ew136) (w137) (ew137) (w158) (ew158) (w159) (ew159) (w160) (ew160) (w161) (ew161) (w163) (ew163) (w164) (ew164) (w165) (ew165) (w167) (ew167) (w168) (ew168) (w169) (ew169) (w170) (ew170) (w171) (ew171) (w172) (ew172) (w173) (ew173) (w194) (ew194) (w195) (ew195) (w196) (ew196) (w197) (ew197) (w199) (ew199) (w200) (ew200) (w201) (ew201) (w202) (ew202) (st0) (show 0 ≤ (u2_1) ∧ (u2_1) ≤ (n3) ∧ (n3) ≤ 65536 by have qh0 := HIDe r2; have qh1 := HIDe r35; omega) (show 0 ≤ (u1_1) ∧ (u1_1) ≤ (n4) ∧ (n4) ≤ 65536 by have qh0 := HIDe r1; have qh1 := HIDe r36; omega) (show 0 ≤ (u6_1) ∧ (u6_1) ≤ (n7) ∧ (n7) ≤ 65536 by have qh0 := HIDe r37; have qh1 := HIDe r5; omega) (show (u6_1) + (u1_1) ≤ 16384 by have qh0 := HIDe r1; have qh1 := HIDe r5; omega) (show 1 ≤ ((w9)) 1 ∧ ((w9)) 1 ≤ 8 by omega) (show 3 ≤ ((w9)) 1 by omega) (show 0 ≤ ((w9)) 7 ∧ ((w9)) 7 ≤ 15 by omega) (show 0 ≤ ((w9)) 8 ∧ ((w9)) 8 ≤ 11 by omega) (show 1 ≤ ((w9)) 2 ∧ ((w9)) 2 ≤ 65536 by omega) (show 0 ≤ (u11_1) ∧ (u11_1) ≤ (n12) ∧ (n12) ≤ 65536 by have qh0 := HIDe r39; have qh1 := HIDe r6; omega) (show (n13) = 0 ∨ (n13) = 2048 by have qh0 := HIDe r40; omega) (show (n14) ≤ 16384 by have qh0 := HIDe r41; omega) (show (n15) = (n16) ∧ (n17) = (n16) ∧ (n16) ≤ 65536 ∧ ((n16) = 0 ∨ 64 ≤ (n16)) ∧ lgq ((n16)) = 0 by have qh0 := HIDe r42; have qh1 := HIDe r43; have qh2 := HIDe r44; omega) (show 0 ≤ (u18_1) ∧ (u18_1) ≤ (n19) ∧ (n19) ≤ 65536 by have qh0 := HIDe r45; have qh1 := HIDe r7; omega) (show 0 ≤ (u20_1) ∧ (u20_1) ≤ (n21) ∧ (n21) ≤ 65536 by have qh0 := HIDe r46; have qh1 := HIDe r8; omega) (show 0 ≤ (u22_1) ∧ (u22_1) ≤ (n23) ∧ (n23) ≤ 65536 by have qh0 := HIDe r47; have qh1 := HIDe r9; omega) (show (n9) = 10 ∧ (n24) = 256 ∧ (n25) = 53 ∧ (n26) = 13 ∧ (n27) = 3 ∧ (n28) = 2 ∧ (n30) = 3 ∧ (n31) = 3 ∧ (n33) = 3 ∧ (n34) = 3 ∧ (n35) = 3 ∧ (n36) = 3 ∧ (n37) = 3 by have qh0 := HIDe r38; have qh1 := HIDe r48; have qh2 := HIDe r49; have qh3 := HIDe r50; have qh4 := HIDe r51; have qh5 := HIDe r52; have qh6 := HIDe r53; have qh7 := HIDe r54; have qh8 := HIDe r55; have qh9 := HIDe r56; have qh10 := HIDe r57; have qh11 := HIDe r58; have qh12 := HIDe r59; omega) (show (n38) = 3 ∧ (n39) = (n40) ∧ (n41) = (n40) ∧ (n42) = (n40) ∧ lgq ((n40)) = 0 ∧ (n40) ≤ 16384 by have qh0 := HIDe r60; have qh1 := HIDe r61; have qh2 := HIDe r62; have qh3 := HIDe r63; have qh4 := HIDe r64; omega) (show (n44) = 3 ∧ (n45) = 3 by have qh0 := HIDe r65; have qh1 := HIDe r66; omega) (by assumption) (by assumption) (show 0 ≤ (u64_1) ∧ (u64_1) ≤ (n65) ∧ (n65) ≤ 65536 by have qh0 := HIDe r11; have qh1 := HIDe r83; omega) (show 0 ≤ (u66_1) ∧ (u66_1) ≤ (n67) ∧ (n67) ≤ 65536 by have qh0 := HIDe r12; have qh1 := HIDe r84; omega) (show CEL ((w49)) by assumption) (by assumption) (by assumption) (show 0 ≤ (u86_1) ∧ (u86_1) ≤ (n87) ∧ (n87) ≤ 65536 by have qh0 := HIDe r101; have qh1 := HIDe r14; omega) (show 0 ≤ (u88_1) ∧ (u88_1) ≤ (n89) ∧ (n89) ≤ 65536 by have qh0 := HIDe r102; have qh1 := HIDe r15; omega) (show CEL ((w71)) by assumption) (show (n91) = 256 ∧ (n92) = 256 by have qh0 := HIDe r103; have qh1 := HIDe r104; omega) (by assumption) (by assumption) (by assumption) (by assumption) (by assumption) (by assumption) (by assumption) (by assumption) (by assumption) (by assumption) (by assumption) (by assumption) (by assumption) (by assumption) (by assumption) (show 0 ≤ ((w27)) 0 ∧ ((w27)) 0 ≤ 3 ∧ 0 ≤ ((w27)) 1 ∧ ((w27)) 1 ≤ 3 ∧ 0 ≤ ((w27)) 2 ∧ ((w27)) 2 ≤ 3 by omega) (by assumption) (show HID ((u43_0) = -1 ∨ LNG ((w91)) ((u90_3))) by assumption) (show HID (((w44)) 0 = -1 ∨ ((w44)) 0 = (((D 121 : Nat) : Int))) by assumption) (show HID (((w44)) 1 = -1 ∨ ((w44)) 1 = (((D 157 : Nat) : Int))) by assumption) (show HID (((w44)) 2 = -1 ∨ ((w44)) 2 = (((D 193 : Nat) : Int))) by assumption) (by assumption) (by assumption) (by assumption) (show HID (((w44)) 0 = -1 ∨ (u121_0) ≤ 9) by assumption) (show HID (((w44)) 1 = -1 ∨ (u157_0) ≤ 8) by assumption) (show HID (((w44)) 2 = -1 ∨ (u193_0) ≤ 9) by assumption) (show IMP ((u43_0) = -1) ((st0).1 = none) by assumption) (by assumption) (show IMP (((w44)) 0 = -1) (((st0).2.1 0).1 < 0) by assumption) (by assumption) (show IMP (((w44)) 1 = -1) (((st0).2.1 1).1 < 0) by assumption) (by assumption) (show IMP (((w44)) 2 = -1) (((st0).2.1 2).1 < 0) by assumption) (by assumption) (show TOK ((st0).2.1 0) by assumption) (show TOK ((st0).2.1 1) by assumption) (show TOK ((st0).2.1 2) by assumption) (show (st0).2.2.1 = (((w45)) 0, ((w45)) 1, ((w45)) 2) by assumption) (show 1 ≤ ((w45)) 0 ∧ 1 ≤ ((w45)) 1 ∧ 1 ≤ ((w45)) 2 by assumption) (show ∀ i, 0 ≤ i → i < 12 → (st0).2.2.2 i = 0 by assumption) (show SHX (KNX 0) ((u93_0)) ((u93_1)) ((w94)) by assumption) (show SHX (KNX 1) ((u130_0)) ((u130_1)) ((w131)) by assumption) (show SHX (KNX 2) ((u166_0)) ((u166_1)) ((w167)) by assumption) (fun σ203 D203' N203' F203' A203' c203 s203 H' O' hD203 hN203 hS203 hA203 pm203_4 pm203_11 pm203_12 pm203_13 pm203_14 pm203_15 pm203_16 pm203_18 pm203_20 pm203_22 pm203_37 pm203_38 pm203_39 pm203_40 pm203_41 pm203_64 pm203_66 pm203_86 pm203_88 m203_4 em203_4 m203_11 em203_11 m203_12 em203_12 m203_13 em203_13 m203_14 em203_14 m203_15 em203_15 m203_16 em203_16 m203_18 em203_18 m203_20 em203_20 m203_22 em203_22 m203_37 em203_37 m203_38 em203_38 m203_39 em203_39 m203_40 em203_40 m203_41 em203_41 m203_64 em203_64 m203_66 em203_66 m203_86 em203_86 m203_88 em203_88 y203_1_1 ey203_1_1 y203_1_2 ey203_1_2 y203_10_1 ey203_10_1 y203_17_1 ey203_17_1 y203_19_1 ey203_19_1 y203_21_1 ey203_21_1 y203_63_1 ey203_63_1 y203_65_1 ey203_65_1 y203_85_1 ey203_85_1 y203_87_1 ey203_87_1 w203_4 ew203_4 w203_25 ew203_25 w203_26 ew203_26 w203_48 ew203_48 w203_70 ew203_70 pz203_0 pz203_1 pz203_2 pz203_3 pz203_4 pz203_5 pz203_6 pz203_7 pz203_8 pz203_9 pz203_10 pz203_11 pz203_12 pz203_13 pz203_14 pz203_15 pz203_16 pz203_17 => ⟨rfl, ?_⟩))
  replace pm203_4 := HIDm pm203_4
  replace pm203_11 := HIDm pm203_11
  replace pm203_12 := HIDm pm203_12
  replace pm203_13 := HIDm pm203_13
  replace pm203_14 := HIDm pm203_14
  replace pm203_15 := HIDm pm203_15
  replace pm203_16 := HIDm pm203_16
  replace pm203_18 := HIDm pm203_18
  replace pm203_20 := HIDm pm203_20
  replace pm203_22 := HIDm pm203_22
  replace pm203_37 := HIDm pm203_37
  replace pm203_38 := HIDm pm203_38
  replace pm203_39 := HIDm pm203_39
  replace pm203_40 := HIDm pm203_40
  replace pm203_41 := HIDm pm203_41
  replace pm203_64 := HIDm pm203_64
  replace pm203_66 := HIDm pm203_66
  replace pm203_86 := HIDm pm203_86
  replace pm203_88 := HIDm pm203_88
  replace em203_4 := HIDm em203_4
  replace em203_11 := HIDm em203_11
  replace em203_12 := HIDm em203_12
  replace em203_13 := HIDm em203_13
  replace em203_14 := HIDm em203_14
  replace em203_15 := HIDm em203_15
  replace em203_16 := HIDm em203_16
  replace em203_18 := HIDm em203_18
  replace em203_20 := HIDm em203_20
  replace em203_22 := HIDm em203_22
  replace em203_37 := HIDm em203_37
  replace em203_38 := HIDm em203_38
  replace em203_39 := HIDm em203_39
  replace em203_40 := HIDm em203_40
  replace em203_41 := HIDm em203_41
  replace em203_64 := HIDm em203_64
  replace em203_66 := HIDm em203_66
  replace em203_86 := HIDm em203_86
  replace em203_88 := HIDm em203_88
  replace ey203_1_1 := HIDm ey203_1_1
  replace ey203_1_2 := HIDm ey203_1_2
  replace ey203_10_1 := HIDm ey203_10_1
  replace ey203_17_1 := HIDm ey203_17_1
  replace ey203_19_1 := HIDm ey203_19_1
  replace ey203_21_1 := HIDm ey203_21_1
  replace ey203_63_1 := HIDm ey203_63_1
  replace ey203_65_1 := HIDm ey203_65_1
  replace ey203_85_1 := HIDm ey203_85_1
  replace ey203_87_1 := HIDm ey203_87_1
  refine v_backM (c := c) (s := s) H (show vsub V17_vD4d V134_Row_Row_Dictionary_vd [8, 2, 1, 5, 3, 4, 6, 7, 9, 10, 11, 12, 13, 14, 15, 16, 17, 18, 19, 20, 21, 22, 23, 24, 25, 26, 27, 28, 29, 30, 31, 32, 33, 34, 35, 36, 37, 38, 39, 40, 41, 42, 43, 44, 45, 46, 47, 48, 49, 50, 51, 52, 53, 54, 55, 56, 57, 58, 59, 60, 61, 62, 63, 64, 65, 66, 67, 68, 69, 70, 71, 72, 73, 74, 75, 76, 77, 78, 79, 80, 81, 82, 83, 84, 85, 86, 87, 88, 89, 90, 91, 92, 93, 94, 95, 96, 97, 98, 99, 100, 101, 102, 103, 104, 105, 106, 107, 108, 109, 110, 111, 112, 113, 114, 115, 116, 117, 118, 119, 120, 121, 122, 123, 124, 125, 126, 127, 128, 129, 130, 131, 132, 133, 134, 135, 136, 137, 138, 139, 140, 141, 142, 143, 144, 145, 146, 147, 148, 149, 150, 151, 152, 153, 154, 155, 156, 157, 158, 159, 160, 161, 162, 163, 164, 165, 166, 167, 168, 169, 170, 171, 172, 173, 174, 175, 176, 177, 178, 179, 180, 181, 182, 183, 184, 185, 186, 187, 188, 189, 190, 191, 192, 193, 194, 195, 196, 197, 198, 199, 200, 201, 202] = true by decide +kernel) H' O' hD203 (show vmov V17_vD4d [8, 2, 1, 5, 3, 4, 6, 7, 9, 10, 11, 12, 13, 14, 15, 16, 17, 18, 19, 20, 21, 22, 23, 24, 25, 26, 27, 28, 29, 30, 31, 32, 33, 34, 35, 36, 37, 38, 39, 40, 41, 42, 43, 44, 45, 46, 47, 48, 49, 50, 51, 52, 53, 54, 55, 56, 57, 58, 59, 60, 61, 62, 63, 64, 65, 66, 67, 68, 69, 70, 71, 72, 73, 74, 75, 76, 77, 78, 79, 80, 81, 82, 83, 84, 85, 86, 87, 88, 89, 90, 91, 92, 93, 94, 95, 96, 97, 98, 99, 100, 101, 102, 103, 104, 105, 106, 107, 108, 109, 110, 111, 112, 113, 114, 115, 116, 117, 118, 119, 120, 121, 122, 123, 124, 125, 126, 127, 128, 129, 130, 131, 132, 133, 134, 135, 136, 137, 138, 139, 140, 141, 142, 143, 144, 145, 146, 147, 148, 149, 150, 151, 152, 153, 154, 155, 156, 157, 158, 159, 160, 161, 162, 163, 164, 165, 166, 167, 168, 169, 170, 171, 172, 173, 174, 175, 176, 177, 178, 179, 180, 181, 182, 183, 184, 185, 186, 187, 188, 189, 190, 191, 192, 193, 194, 195, 196, 197, 198, 199, 200, 201, 202] [4, 11, 12, 13, 14, 15, 16, 18, 20, 22, 37, 38, 39, 40, 41, 64, 66, 86, 88] = true by decide +kernel) (fun D203 N203 F203 A203 H O' eD203 eN203 eF203 eA203 => ?_)
  have O := OUT_trans O O'
  -- Packer.packFrame
  have pe203_120_0 : HID (A203 120 0 = (D203 121 : Int)) := (congrFun ((show A203 120 = A 120 from (eA203 120).trans (funext (hA203 119 rfl)))) 0).trans ((pf121).trans (congrArg (fun q : Nat => (q : Int)) ((show D203 121 = D 121 from (eD203 121).trans (hD203 120 rfl))).symm))
  have pe203_120_1 : HID (A203 120 1 = (D203 157 : Int)) := (congrFun ((show A203 120 = A 120 from (eA203 120).trans (funext (hA203 119 rfl)))) 1).trans ((pf157).trans (congrArg (fun q : Nat => (q : Int)) ((show D203 157 = D 157 from (eD203 157).trans (hD203 156 rfl))).symm))
  have pe203_120_2 : HID (A203 120 2 = (D203 193 : Int)) := (congrFun ((show A203 120 = A 120 from (eA203 120).trans (funext (hA203 119 rfl)))) 2).trans ((pf193).trans (congrArg (fun q : Nat => (q : Int)) ((show D203 193 = D 193 from (eD203 193).trans (hD203 192 rfl))).symm))
  have pe203_28_0 : HID (A203 28 0 = (D203 46 : Int)) := (congrFun ((show A203 28 = A 28 from (eA203 28).trans (funext (hA203 27 rfl)))) 0).trans ((pf46).trans (congrArg (fun q : Nat => (q : Int)) ((show D203 46 = D 46 from (eD203 46).trans (hD203 45 rfl))).symm))
  have pe203_28_1 : HID (A203 28 1 = (D203 68 : Int)) := (congrFun ((show A203 28 = A 28 from (eA203 28).trans (funext (hA203 27 rfl)))) 1).trans ((pf68).trans (congrArg (fun q : Nat => (q : Int)) ((show D203 68 = D 68 from (eD203 68).trans (hD203 67 rfl))).symm))
  have pe203_35_0 : HID (A203 35 0 = (D203 93 : Int)) := (congrFun ((show A203 35 = A 35 from (eA203 35).trans (funext (hA203 34 rfl)))) 0).trans ((pf93).trans (congrArg (fun q : Nat => (q : Int)) ((show D203 93 = D 93 from (eD203 93).trans (hD203 92 rfl))).symm))
  have pe203_35_1 : HID (A203 35 1 = (D203 130 : Int)) := (congrFun ((show A203 35 = A 35 from (eA203 35).trans (funext (hA203 34 rfl)))) 1).trans ((pf130).trans (congrArg (fun q : Nat => (q : Int)) ((show D203 130 = D 130 from (eD203 130).trans (hD203 129 rfl))).symm))
  have pe203_35_2 : HID (A203 35 2 = (D203 166 : Int)) := (congrFun ((show A203 35 = A 35 from (eA203 35).trans (funext (hA203 34 rfl)))) 2).trans ((pf166).trans (congrArg (fun q : Nat => (q : Int)) ((show D203 166 = D 166 from (eD203 166).trans (hD203 165 rfl))).symm))
  have pe203_36_0 : HID (A203 36 0 = (D203 102 : Int)) := (congrFun ((show A203 36 = A 36 from (eA203 36).trans (funext (hA203 35 rfl)))) 0).trans ((pf102).trans (congrArg (fun q : Nat => (q : Int)) ((show D203 102 = D 102 from (eD203 102).trans (hD203 101 rfl))).symm))
  have pe203_36_1 : HID (A203 36 1 = (D203 139 : Int)) := (congrFun ((show A203 36 = A 36 from (eA203 36).trans (funext (hA203 35 rfl)))) 1).trans ((pf139).trans (congrArg (fun q : Nat => (q : Int)) ((show D203 139 = D 139 from (eD203 139).trans (hD203 138 rfl))).symm))
  have pe203_36_2 : HID (A203 36 2 = (D203 175 : Int)) := (congrFun ((show A203 36 = A 36 from (eA203 36).trans (funext (hA203 35 rfl)))) 2).trans ((pf175).trans (congrArg (fun q : Nat => (q : Int)) ((show D203 175 = D 175 from (eD203 175).trans (hD203 174 rfl))).symm))
  have pe203_37_0 : HID (A203 37 0 = (D203 111 : Int)) := (congrFun ((show A203 37 = A 37 from (eA203 37).trans (funext (hA203 36 rfl)))) 0).trans ((pf111).trans (congrArg (fun q : Nat => (q : Int)) ((show D203 111 = D 111 from (eD203 111).trans (hD203 110 rfl))).symm))
  have pe203_37_1 : HID (A203 37 1 = (D203 148 : Int)) := (congrFun ((show A203 37 = A 37 from (eA203 37).trans (funext (hA203 36 rfl)))) 1).trans ((pf148).trans (congrArg (fun q : Nat => (q : Int)) ((show D203 148 = D 148 from (eD203 148).trans (hD203 147 rfl))).symm))
  have pe203_37_2 : HID (A203 37 2 = (D203 184 : Int)) := (congrFun ((show A203 37 = A 37 from (eA203 37).trans (funext (hA203 36 rfl)))) 2).trans ((pf184).trans (congrArg (fun q : Nat => (q : Int)) ((show D203 184 = D 184 from (eD203 184).trans (hD203 183 rfl))).symm))
  have pe203_38_0 : HID (A203 38 0 = (D203 39 : Int)) := (congrFun (eA203 38) 0).trans (pm203_38.trans (congrArg (fun q : Nat => (q : Int)) (eD203 39).symm))
  have pe203_38_1 : HID (A203 38 1 = (D203 41 : Int)) := (congrFun (eA203 38) 1).trans (pm203_40.trans (congrArg (fun q : Nat => (q : Int)) (eD203 41).symm))
  have pe203_38_2 : HID (A203 38 2 = (D203 42 : Int)) := (congrFun (eA203 38) 2).trans (pm203_41.trans (congrArg (fun q : Nat => (q : Int)) (eD203 42).symm))
  have pf203_0_11 : HID (F203 0 11 = (D203 8 : Int)) := ((show F203 0 11 = F 0 11 from (eF203 0 11))).trans ((pf8).trans (congrArg (fun q : Nat => (q : Int)) ((show D203 8 = D 8 from (eD203 8).trans (hD203 0 rfl))).symm))
  have pf203_0_15 : HID (F203 0 15 = (D203 203 : Int)) := ((show F203 0 15 = F 0 15 from (eF203 0 15))).trans ((pf203).trans (congrArg (fun q : Nat => (q : Int)) ((show D203 203 = D 203 from (eD203 203))).symm))
  have pf203_0_3 : HID (F203 0 3 = (D203 5 : Int)) := ((show F203 0 3 = F 0 3 from (eF203 0 3))).trans ((pf5).trans (congrArg (fun q : Nat => (q : Int)) ((show D203 5 = D 5 from (eD203 5).trans (hD203 3 rfl))).symm))
  have pf203_0_5 : HID (F203 0 5 = (D203 2 : Int)) := ((show F203 0 5 = F 0 5 from (eF203 0 5))).trans ((pf2).trans (congrArg (fun q : Nat => (q : Int)) ((show D203 2 = D 2 from (eD203 2).trans (hD203 1 rfl))).symm))
  have pf203_1_0 : HID (F203 1 0 = (D203 4 : Int)) := ((show F203 1 0 = F 1 0 from (eF203 1 0).trans (hS203 2 0 rfl))).trans ((pf4).trans (congrArg (fun q : Nat => (q : Int)) ((show D203 4 = D 4 from (eD203 4).trans (hD203 5 rfl))).symm))
  have pf203_10_0 : HID (F203 10 0 = (D203 11 : Int)) := ((show F203 10 0 = F 10 0 from (eF203 10 0).trans (hS203 9 0 rfl))).trans ((pf11).trans (congrArg (fun q : Nat => (q : Int)) ((show D203 11 = D 11 from (eD203 11).trans (hD203 10 rfl))).symm))
  have pf203_10_1 : HID (F203 10 1 = (D203 15 : Int)) := (eF203 10 1).trans (pm203_14.trans (congrArg (fun q : Nat => (q : Int)) (eD203 15).symm))
  have pf203_10_2 : HID (F203 10 2 = (D203 16 : Int)) := (eF203 10 2).trans (pm203_15.trans (congrArg (fun q : Nat => (q : Int)) (eD203 16).symm))
  have pf203_10_3 : HID (F203 10 3 = (D203 17 : Int)) := (eF203 10 3).trans (pm203_16.trans (congrArg (fun q : Nat => (q : Int)) (eD203 17).symm))
  have pf203_10_7 : HID (F203 10 7 = (D203 13 : Int)) := (eF203 10 7).trans (pm203_12.trans (congrArg (fun q : Nat => (q : Int)) (eD203 13).symm))
  have pf203_10_8 : HID (F203 10 8 = (D203 14 : Int)) := (eF203 10 8).trans (pm203_13.trans (congrArg (fun q : Nat => (q : Int)) (eD203 14).symm))
  have pf203_102_2 : HID (F203 102 2 = (D203 103 : Int)) := ((show F203 102 2 = F 102 2 from (eF203 102 2).trans (hS203 101 2 rfl))).trans ((pf103).trans (congrArg (fun q : Nat => (q : Int)) ((show D203 103 = D 103 from (eD203 103).trans (hD203 102 rfl))).symm))
  have pf203_102_3 : HID (F203 102 3 = (D203 104 : Int)) := ((show F203 102 3 = F 102 3 from (eF203 102 3).trans (hS203 101 3 rfl))).trans ((pf104).trans (congrArg (fun q : Nat => (q : Int)) ((show D203 104 = D 104 from (eD203 104).trans (hD203 103 rfl))).symm))
  have pf203_102_4 : HID (F203 102 4 = (D203 105 : Int)) := ((show F203 102 4 = F 102 4 from (eF203 102 4).trans (hS203 101 4 rfl))).trans ((pf105).trans (congrArg (fun q : Nat => (q : Int)) ((show D203 105 = D 105 from (eD203 105).trans (hD203 104 rfl))).symm))
  have pf203_102_5 : HID (F203 102 5 = (D203 106 : Int)) := ((show F203 102 5 = F 102 5 from (eF203 102 5).trans (hS203 101 5 rfl))).trans ((pf106).trans (congrArg (fun q : Nat => (q : Int)) ((show D203 106 = D 106 from (eD203 106).trans (hD203 105 rfl))).symm))
  have pf203_102_6 : HID (F203 102 6 = (D203 107 : Int)) := ((show F203 102 6 = F 102 6 from (eF203 102 6).trans (hS203 101 6 rfl))).trans ((pf107).trans (congrArg (fun q : Nat => (q : Int)) ((show D203 107 = D 107 from (eD203 107).trans (hD203 106 rfl))).symm))
  have pf203_102_7 : HID (F203 102 7 = (D203 108 : Int)) := ((show F203 102 7 = F 102 7 from (eF203 102 7).trans (hS203 101 7 rfl))).trans ((pf108).trans (congrArg (fun q : Nat => (q : Int)) ((show D203 108 = D 108 from (eD203 108).trans (hD203 107 rfl))).symm))
  have pf203_102_8 : HID (F203 102 8 = (D203 109 : Int)) := ((show F203 102 8 = F 102 8 from (eF203 102 8).trans (hS203 101 8 rfl))).trans ((pf109).trans (congrArg (fun q : Nat => (q : Int)) ((show D203 109 = D 109 from (eD203 109).trans (hD203 108 rfl))).symm))
  have pf203_102_9 : HID (F203 102 9 = (D203 110 : Int)) := ((show F203 102 9 = F 102 9 from (eF203 102 9).trans (hS203 101 9 rfl))).trans ((pf110).trans (congrArg (fun q : Nat => (q : Int)) ((show D203 110 = D 110 from (eD203 110).trans (hD203 109 rfl))).symm))
  have pf203_11_0 : HID (F203 11 0 = (D203 12 : Int)) := (eF203 11 0).trans (pm203_11.trans (congrArg (fun q : Nat => (q : Int)) (eD203 12).symm))
  have pf203_111_2 : HID (F203 111 2 = (D203 112 : Int)) := ((show F203 111 2 = F 111 2 from (eF203 111 2).trans (hS203 110 2 rfl))).trans ((pf112).trans (congrArg (fun q : Nat => (q : Int)) ((show D203 112 = D 112 from (eD203 112).trans (hD203 111 rfl))).symm))
  have pf203_111_3 : HID (F203 111 3 = (D203 113 : Int)) := ((show F203 111 3 = F 111 3 from (eF203 111 3).trans (hS203 110 3 rfl))).trans ((pf113).trans (congrArg (fun q : Nat => (q : Int)) ((show D203 113 = D 113 from (eD203 113).trans (hD203 112 rfl))).symm))
  have pf203_111_4 : HID (F203 111 4 = (D203 114 : Int)) := ((show F203 111 4 = F 111 4 from (eF203 111 4).trans (hS203 110 4 rfl))).trans ((pf114).trans (congrArg (fun q : Nat => (q : Int)) ((show D203 114 = D 114 from (eD203 114).trans (hD203 113 rfl))).symm))
  have pf203_111_5 : HID (F203 111 5 = (D203 115 : Int)) := ((show F203 111 5 = F 111 5 from (eF203 111 5).trans (hS203 110 5 rfl))).trans ((pf115).trans (congrArg (fun q : Nat => (q : Int)) ((show D203 115 = D 115 from (eD203 115).trans (hD203 114 rfl))).symm))
  have pf203_111_6 : HID (F203 111 6 = (D203 116 : Int)) := ((show F203 111 6 = F 111 6 from (eF203 111 6).trans (hS203 110 6 rfl))).trans ((pf116).trans (congrArg (fun q : Nat => (q : Int)) ((show D203 116 = D 116 from (eD203 116).trans (hD203 115 rfl))).symm))
  have pf203_111_7 : HID (F203 111 7 = (D203 117 : Int)) := ((show F203 111 7 = F 111 7 from (eF203 111 7).trans (hS203 110 7 rfl))).trans ((pf117).trans (congrArg (fun q : Nat => (q : Int)) ((show D203 117 = D 117 from (eD203 117).trans (hD203 116 rfl))).symm))
  have pf203_111_8 : HID (F203 111 8 = (D203 118 : Int)) := ((show F203 111 8 = F 111 8 from (eF203 111 8).trans (hS203 110 8 rfl))).trans ((pf118).trans (congrArg (fun q : Nat => (q : Int)) ((show D203 118 = D 118 from (eD203 118).trans (hD203 117 rfl))).symm))
  have pf203_111_9 : HID (F203 111 9 = (D203 119 : Int)) := ((show F203 111 9 = F 111 9 from (eF203 111 9).trans (hS203 110 9 rfl))).trans ((pf119).trans (congrArg (fun q : Nat => (q : Int)) ((show D203 119 = D 119 from (eD203 119).trans (hD203 118 rfl))).symm))
  have pf203_121_2 : HID (F203 121 2 = (D203 122 : Int)) := ((show F203 121 2 = F 121 2 from (eF203 121 2).trans (hS203 120 2 rfl))).trans ((pf122).trans (congrArg (fun q : Nat => (q : Int)) ((show D203 122 = D 122 from (eD203 122).trans (hD203 121 rfl))).symm))
  have pf203_121_3 : HID (F203 121 3 = (D203 123 : Int)) := ((show F203 121 3 = F 121 3 from (eF203 121 3).trans (hS203 120 3 rfl))).trans ((pf123).trans (congrArg (fun q : Nat => (q : Int)) ((show D203 123 = D 123 from (eD203 123).trans (hD203 122 rfl))).symm))
  have pf203_121_4 : HID (F203 121 4 = (D203 124 : Int)) := ((show F203 121 4 = F 121 4 from (eF203 121 4).trans (hS203 120 4 rfl))).trans ((pf124).trans (congrArg (fun q : Nat => (q : Int)) ((show D203 124 = D 124 from (eD203 124).trans (hD203 123 rfl))).symm))
  have pf203_121_5 : HID (F203 121 5 = (D203 125 : Int)) := ((show F203 121 5 = F 121 5 from (eF203 121 5).trans (hS203 120 5 rfl))).trans ((pf125).trans (congrArg (fun q : Nat => (q : Int)) ((show D203 125 = D 125 from (eD203 125).trans (hD203 124 rfl))).symm))
  have pf203_121_6 : HID (F203 121 6 = (D203 126 : Int)) := ((show F203 121 6 = F 121 6 from (eF203 121 6).trans (hS203 120 6 rfl))).trans ((pf126).trans (congrArg (fun q : Nat => (q : Int)) ((show D203 126 = D 126 from (eD203 126).trans (hD203 125 rfl))).symm))
  have pf203_121_7 : HID (F203 121 7 = (D203 127 : Int)) := ((show F203 121 7 = F 121 7 from (eF203 121 7).trans (hS203 120 7 rfl))).trans ((pf127).trans (congrArg (fun q : Nat => (q : Int)) ((show D203 127 = D 127 from (eD203 127).trans (hD203 126 rfl))).symm))
  have pf203_121_8 : HID (F203 121 8 = (D203 128 : Int)) := ((show F203 121 8 = F 121 8 from (eF203 121 8).trans (hS203 120 8 rfl))).trans ((pf128).trans (congrArg (fun q : Nat => (q : Int)) ((show D203 128 = D 128 from (eD203 128).trans (hD203 127 rfl))).symm))
  have pf203_121_9 : HID (F203 121 9 = (D203 129 : Int)) := ((show F203 121 9 = F 121 9 from (eF203 121 9).trans (hS203 120 9 rfl))).trans ((pf129).trans (congrArg (fun q : Nat => (q : Int)) ((show D203 129 = D 129 from (eD203 129).trans (hD203 128 rfl))).symm))
  have pf203_130_2 : HID (F203 130 2 = (D203 131 : Int)) := ((show F203 130 2 = F 130 2 from (eF203 130 2).trans (hS203 129 2 rfl))).trans ((pf131).trans (congrArg (fun q : Nat => (q : Int)) ((show D203 131 = D 131 from (eD203 131).trans (hD203 130 rfl))).symm))
  have pf203_130_3 : HID (F203 130 3 = (D203 132 : Int)) := ((show F203 130 3 = F 130 3 from (eF203 130 3).trans (hS203 129 3 rfl))).trans ((pf132).trans (congrArg (fun q : Nat => (q : Int)) ((show D203 132 = D 132 from (eD203 132).trans (hD203 131 rfl))).symm))
  have pf203_130_4 : HID (F203 130 4 = (D203 133 : Int)) := ((show F203 130 4 = F 130 4 from (eF203 130 4).trans (hS203 129 4 rfl))).trans ((pf133).trans (congrArg (fun q : Nat => (q : Int)) ((show D203 133 = D 133 from (eD203 133).trans (hD203 132 rfl))).symm))
  have pf203_130_5 : HID (F203 130 5 = (D203 134 : Int)) := ((show F203 130 5 = F 130 5 from (eF203 130 5).trans (hS203 129 5 rfl))).trans ((pf134).trans (congrArg (fun q : Nat => (q : Int)) ((show D203 134 = D 134 from (eD203 134).trans (hD203 133 rfl))).symm))
  have pf203_130_6 : HID (F203 130 6 = (D203 138 : Int)) := ((show F203 130 6 = F 130 6 from (eF203 130 6).trans (hS203 129 6 rfl))).trans ((pf138).trans (congrArg (fun q : Nat => (q : Int)) ((show D203 138 = D 138 from (eD203 138).trans (hD203 137 rfl))).symm))
  have pf203_130_7 : HID (F203 130 7 = (D203 135 : Int)) := ((show F203 130 7 = F 130 7 from (eF203 130 7).trans (hS203 129 7 rfl))).trans ((pf135).trans (congrArg (fun q : Nat => (q : Int)) ((show D203 135 = D 135 from (eD203 135).trans (hD203 134 rfl))).symm))
  have pf203_130_8 : HID (F203 130 8 = (D203 136 : Int)) := ((show F203 130 8 = F 130 8 from (eF203 130 8).trans (hS203 129 8 rfl))).trans ((pf136).trans (congrArg (fun q : Nat => (q : Int)) ((show D203 136 = D 136 from (eD203 136).trans (hD203 135 rfl))).symm))
  have pf203_130_9 : HID (F203 130 9 = (D203 137 : Int)) := ((show F203 130 9 = F 130 9 from (eF203 130 9).trans (hS203 129 9 rfl))).trans ((pf137).trans (congrArg (fun q : Nat => (q : Int)) ((show D203 137 = D 137 from (eD203 137).trans (hD203 136 rfl))).symm))
  have pf203_139_2 : HID (F203 139 2 = (D203 140 : Int)) := ((show F203 139 2 = F 139 2 from (eF203 139 2).trans (hS203 138 2 rfl))).trans ((pf140).trans (congrArg (fun q : Nat => (q : Int)) ((show D203 140 = D 140 from (eD203 140).trans (hD203 139 rfl))).symm))
  have pf203_139_3 : HID (F203 139 3 = (D203 141 : Int)) := ((show F203 139 3 = F 139 3 from (eF203 139 3).trans (hS203 138 3 rfl))).trans ((pf141).trans (congrArg (fun q : Nat => (q : Int)) ((show D203 141 = D 141 from (eD203 141).trans (hD203 140 rfl))).symm))
  have pf203_139_4 : HID (F203 139 4 = (D203 142 : Int)) := ((show F203 139 4 = F 139 4 from (eF203 139 4).trans (hS203 138 4 rfl))).trans ((pf142).trans (congrArg (fun q : Nat => (q : Int)) ((show D203 142 = D 142 from (eD203 142).trans (hD203 141 rfl))).symm))
  have pf203_139_5 : HID (F203 139 5 = (D203 143 : Int)) := ((show F203 139 5 = F 139 5 from (eF203 139 5).trans (hS203 138 5 rfl))).trans ((pf143).trans (congrArg (fun q : Nat => (q : Int)) ((show D203 143 = D 143 from (eD203 143).trans (hD203 142 rfl))).symm))
  have pf203_139_6 : HID (F203 139 6 = (D203 144 : Int)) := ((show F203 139 6 = F 139 6 from (eF203 139 6).trans (hS203 138 6 rfl))).trans ((pf144).trans (congrArg (fun q : Nat => (q : Int)) ((show D203 144 = D 144 from (eD203 144).trans (hD203 143 rfl))).symm))
  have pf203_139_7 : HID (F203 139 7 = (D203 145 : Int)) := ((show F203 139 7 = F 139 7 from (eF203 139 7).trans (hS203 138 7 rfl))).trans ((pf145).trans (congrArg (fun q : Nat => (q : Int)) ((show D203 145 = D 145 from (eD203 145).trans (hD203 144 rfl))).symm))
  have pf203_139_8 : HID (F203 139 8 = (D203 146 : Int)) := ((show F203 139 8 = F 139 8 from (eF203 139 8).trans (hS203 138 8 rfl))).trans ((pf146).trans (congrArg (fun q : Nat => (q : Int)) ((show D203 146 = D 146 from (eD203 146).trans (hD203 145 rfl))).symm))
  have pf203_139_9 : HID (F203 139 9 = (D203 147 : Int)) := ((show F203 139 9 = F 139 9 from (eF203 139 9).trans (hS203 138 9 rfl))).trans ((pf147).trans (congrArg (fun q : Nat => (q : Int)) ((show D203 147 = D 147 from (eD203 147).trans (hD203 146 rfl))).symm))
  have pf203_148_2 : HID (F203 148 2 = (D203 149 : Int)) := ((show F203 148 2 = F 148 2 from (eF203 148 2).trans (hS203 147 2 rfl))).trans ((pf149).trans (congrArg (fun q : Nat => (q : Int)) ((show D203 149 = D 149 from (eD203 149).trans (hD203 148 rfl))).symm))
  have pf203_148_3 : HID (F203 148 3 = (D203 150 : Int)) := ((show F203 148 3 = F 148 3 from (eF203 148 3).trans (hS203 147 3 rfl))).trans ((pf150).trans (congrArg (fun q : Nat => (q : Int)) ((show D203 150 = D 150 from (eD203 150).trans (hD203 149 rfl))).symm))
  have pf203_148_4 : HID (F203 148 4 = (D203 151 : Int)) := ((show F203 148 4 = F 148 4 from (eF203 148 4).trans (hS203 147 4 rfl))).trans ((pf151).trans (congrArg (fun q : Nat => (q : Int)) ((show D203 151 = D 151 from (eD203 151).trans (hD203 150 rfl))).symm))
  have pf203_148_5 : HID (F203 148 5 = (D203 152 : Int)) := ((show F203 148 5 = F 148 5 from (eF203 148 5).trans (hS203 147 5 rfl))).trans ((pf152).trans (congrArg (fun q : Nat => (q : Int)) ((show D203 152 = D 152 from (eD203 152).trans (hD203 151 rfl))).symm))
  have pf203_148_6 : HID (F203 148 6 = (D203 153 : Int)) := ((show F203 148 6 = F 148 6 from (eF203 148 6).trans (hS203 147 6 rfl))).trans ((pf153).trans (congrArg (fun q : Nat => (q : Int)) ((show D203 153 = D 153 from (eD203 153).trans (hD203 152 rfl))).symm))
  have pf203_148_7 : HID (F203 148 7 = (D203 154 : Int)) := ((show F203 148 7 = F 148 7 from (eF203 148 7).trans (hS203 147 7 rfl))).trans ((pf154).trans (congrArg (fun q : Nat => (q : Int)) ((show D203 154 = D 154 from (eD203 154).trans (hD203 153 rfl))).symm))
  have pf203_148_8 : HID (F203 148 8 = (D203 155 : Int)) := ((show F203 148 8 = F 148 8 from (eF203 148 8).trans (hS203 147 8 rfl))).trans ((pf155).trans (congrArg (fun q : Nat => (q : Int)) ((show D203 155 = D 155 from (eD203 155).trans (hD203 154 rfl))).symm))
  have pf203_148_9 : HID (F203 148 9 = (D203 156 : Int)) := ((show F203 148 9 = F 148 9 from (eF203 148 9).trans (hS203 147 9 rfl))).trans ((pf156).trans (congrArg (fun q : Nat => (q : Int)) ((show D203 156 = D 156 from (eD203 156).trans (hD203 155 rfl))).symm))
  have pf203_157_2 : HID (F203 157 2 = (D203 158 : Int)) := ((show F203 157 2 = F 157 2 from (eF203 157 2).trans (hS203 156 2 rfl))).trans ((pf158).trans (congrArg (fun q : Nat => (q : Int)) ((show D203 158 = D 158 from (eD203 158).trans (hD203 157 rfl))).symm))
  have pf203_157_3 : HID (F203 157 3 = (D203 159 : Int)) := ((show F203 157 3 = F 157 3 from (eF203 157 3).trans (hS203 156 3 rfl))).trans ((pf159).trans (congrArg (fun q : Nat => (q : Int)) ((show D203 159 = D 159 from (eD203 159).trans (hD203 158 rfl))).symm))
  have pf203_157_4 : HID (F203 157 4 = (D203 160 : Int)) := ((show F203 157 4 = F 157 4 from (eF203 157 4).trans (hS203 156 4 rfl))).trans ((pf160).trans (congrArg (fun q : Nat => (q : Int)) ((show D203 160 = D 160 from (eD203 160).trans (hD203 159 rfl))).symm))
  have pf203_157_5 : HID (F203 157 5 = (D203 161 : Int)) := ((show F203 157 5 = F 157 5 from (eF203 157 5).trans (hS203 156 5 rfl))).trans ((pf161).trans (congrArg (fun q : Nat => (q : Int)) ((show D203 161 = D 161 from (eD203 161).trans (hD203 160 rfl))).symm))
  have pf203_157_6 : HID (F203 157 6 = (D203 162 : Int)) := ((show F203 157 6 = F 157 6 from (eF203 157 6).trans (hS203 156 6 rfl))).trans ((pf162).trans (congrArg (fun q : Nat => (q : Int)) ((show D203 162 = D 162 from (eD203 162).trans (hD203 161 rfl))).symm))
  have pf203_157_7 : HID (F203 157 7 = (D203 163 : Int)) := ((show F203 157 7 = F 157 7 from (eF203 157 7).trans (hS203 156 7 rfl))).trans ((pf163).trans (congrArg (fun q : Nat => (q : Int)) ((show D203 163 = D 163 from (eD203 163).trans (hD203 162 rfl))).symm))
  have pf203_157_8 : HID (F203 157 8 = (D203 164 : Int)) := ((show F203 157 8 = F 157 8 from (eF203 157 8).trans (hS203 156 8 rfl))).trans ((pf164).trans (congrArg (fun q : Nat => (q : Int)) ((show D203 164 = D 164 from (eD203 164).trans (hD203 163 rfl))).symm))
  have pf203_157_9 : HID (F203 157 9 = (D203 165 : Int)) := ((show F203 157 9 = F 157 9 from (eF203 157 9).trans (hS203 156 9 rfl))).trans ((pf165).trans (congrArg (fun q : Nat => (q : Int)) ((show D203 165 = D 165 from (eD203 165).trans (hD203 164 rfl))).symm))
  have pf203_166_2 : HID (F203 166 2 = (D203 167 : Int)) := ((show F203 166 2 = F 166 2 from (eF203 166 2).trans (hS203 165 2 rfl))).trans ((pf167).trans (congrArg (fun q : Nat => (q : Int)) ((show D203 167 = D 167 from (eD203 167).trans (hD203 166 rfl))).symm))
  have pf203_166_3 : HID (F203 166 3 = (D203 168 : Int)) := ((show F203 166 3 = F 166 3 from (eF203 166 3).trans (hS203 165 3 rfl))).trans ((pf168).trans (congrArg (fun q : Nat => (q : Int)) ((show D203 168 = D 168 from (eD203 168).trans (hD203 167 rfl))).symm))
  have pf203_166_4 : HID (F203 166 4 = (D203 169 : Int)) := ((show F203 166 4 = F 166 4 from (eF203 166 4).trans (hS203 165 4 rfl))).trans ((pf169).trans (congrArg (fun q : Nat => (q : Int)) ((show D203 169 = D 169 from (eD203 169).trans (hD203 168 rfl))).symm))
  have pf203_166_5 : HID (F203 166 5 = (D203 170 : Int)) := ((show F203 166 5 = F 166 5 from (eF203 166 5).trans (hS203 165 5 rfl))).trans ((pf170).trans (congrArg (fun q : Nat => (q : Int)) ((show D203 170 = D 170 from (eD203 170).trans (hD203 169 rfl))).symm))
  have pf203_166_6 : HID (F203 166 6 = (D203 174 : Int)) := ((show F203 166 6 = F 166 6 from (eF203 166 6).trans (hS203 165 6 rfl))).trans ((pf174).trans (congrArg (fun q : Nat => (q : Int)) ((show D203 174 = D 174 from (eD203 174).trans (hD203 173 rfl))).symm))
  have pf203_166_7 : HID (F203 166 7 = (D203 171 : Int)) := ((show F203 166 7 = F 166 7 from (eF203 166 7).trans (hS203 165 7 rfl))).trans ((pf171).trans (congrArg (fun q : Nat => (q : Int)) ((show D203 171 = D 171 from (eD203 171).trans (hD203 170 rfl))).symm))
  have pf203_166_8 : HID (F203 166 8 = (D203 172 : Int)) := ((show F203 166 8 = F 166 8 from (eF203 166 8).trans (hS203 165 8 rfl))).trans ((pf172).trans (congrArg (fun q : Nat => (q : Int)) ((show D203 172 = D 172 from (eD203 172).trans (hD203 171 rfl))).symm))
  have pf203_166_9 : HID (F203 166 9 = (D203 173 : Int)) := ((show F203 166 9 = F 166 9 from (eF203 166 9).trans (hS203 165 9 rfl))).trans ((pf173).trans (congrArg (fun q : Nat => (q : Int)) ((show D203 173 = D 173 from (eD203 173).trans (hD203 172 rfl))).symm))
  have pf203_175_2 : HID (F203 175 2 = (D203 176 : Int)) := ((show F203 175 2 = F 175 2 from (eF203 175 2).trans (hS203 174 2 rfl))).trans ((pf176).trans (congrArg (fun q : Nat => (q : Int)) ((show D203 176 = D 176 from (eD203 176).trans (hD203 175 rfl))).symm))
  have pf203_175_3 : HID (F203 175 3 = (D203 177 : Int)) := ((show F203 175 3 = F 175 3 from (eF203 175 3).trans (hS203 174 3 rfl))).trans ((pf177).trans (congrArg (fun q : Nat => (q : Int)) ((show D203 177 = D 177 from (eD203 177).trans (hD203 176 rfl))).symm))
  have pf203_175_4 : HID (F203 175 4 = (D203 178 : Int)) := ((show F203 175 4 = F 175 4 from (eF203 175 4).trans (hS203 174 4 rfl))).trans ((pf178).trans (congrArg (fun q : Nat => (q : Int)) ((show D203 178 = D 178 from (eD203 178).trans (hD203 177 rfl))).symm))
  have pf203_175_5 : HID (F203 175 5 = (D203 179 : Int)) := ((show F203 175 5 = F 175 5 from (eF203 175 5).trans (hS203 174 5 rfl))).trans ((pf179).trans (congrArg (fun q : Nat => (q : Int)) ((show D203 179 = D 179 from (eD203 179).trans (hD203 178 rfl))).symm))
  have pf203_175_6 : HID (F203 175 6 = (D203 180 : Int)) := ((show F203 175 6 = F 175 6 from (eF203 175 6).trans (hS203 174 6 rfl))).trans ((pf180).trans (congrArg (fun q : Nat => (q : Int)) ((show D203 180 = D 180 from (eD203 180).trans (hD203 179 rfl))).symm))
  have pf203_175_7 : HID (F203 175 7 = (D203 181 : Int)) := ((show F203 175 7 = F 175 7 from (eF203 175 7).trans (hS203 174 7 rfl))).trans ((pf181).trans (congrArg (fun q : Nat => (q : Int)) ((show D203 181 = D 181 from (eD203 181).trans (hD203 180 rfl))).symm))
  have pf203_175_8 : HID (F203 175 8 = (D203 182 : Int)) := ((show F203 175 8 = F 175 8 from (eF203 175 8).trans (hS203 174 8 rfl))).trans ((pf182).trans (congrArg (fun q : Nat => (q : Int)) ((show D203 182 = D 182 from (eD203 182).trans (hD203 181 rfl))).symm))
  have pf203_175_9 : HID (F203 175 9 = (D203 183 : Int)) := ((show F203 175 9 = F 175 9 from (eF203 175 9).trans (hS203 174 9 rfl))).trans ((pf183).trans (congrArg (fun q : Nat => (q : Int)) ((show D203 183 = D 183 from (eD203 183).trans (hD203 182 rfl))).symm))
  have pf203_18_0 : HID (F203 18 0 = (D203 19 : Int)) := (eF203 18 0).trans (pm203_18.trans (congrArg (fun q : Nat => (q : Int)) (eD203 19).symm))
  have pf203_184_2 : HID (F203 184 2 = (D203 185 : Int)) := ((show F203 184 2 = F 184 2 from (eF203 184 2).trans (hS203 183 2 rfl))).trans ((pf185).trans (congrArg (fun q : Nat => (q : Int)) ((show D203 185 = D 185 from (eD203 185).trans (hD203 184 rfl))).symm))
  have pf203_184_3 : HID (F203 184 3 = (D203 186 : Int)) := ((show F203 184 3 = F 184 3 from (eF203 184 3).trans (hS203 183 3 rfl))).trans ((pf186).trans (congrArg (fun q : Nat => (q : Int)) ((show D203 186 = D 186 from (eD203 186).trans (hD203 185 rfl))).symm))
  have pf203_184_4 : HID (F203 184 4 = (D203 187 : Int)) := ((show F203 184 4 = F 184 4 from (eF203 184 4).trans (hS203 183 4 rfl))).trans ((pf187).trans (congrArg (fun q : Nat => (q : Int)) ((show D203 187 = D 187 from (eD203 187).trans (hD203 186 rfl))).symm))
  have pf203_184_5 : HID (F203 184 5 = (D203 188 : Int)) := ((show F203 184 5 = F 184 5 from (eF203 184 5).trans (hS203 183 5 rfl))).trans ((pf188).trans (congrArg (fun q : Nat => (q : Int)) ((show D203 188 = D 188 from (eD203 188).trans (hD203 187 rfl))).symm))
  have pf203_184_6 : HID (F203 184 6 = (D203 189 : Int)) := ((show F203 184 6 = F 184 6 from (eF203 184 6).trans (hS203 183 6 rfl))).trans ((pf189).trans (congrArg (fun q : Nat => (q : Int)) ((show D203 189 = D 189 from (eD203 189).trans (hD203 188 rfl))).symm))
  have pf203_184_7 : HID (F203 184 7 = (D203 190 : Int)) := ((show F203 184 7 = F 184 7 from (eF203 184 7).trans (hS203 183 7 rfl))).trans ((pf190).trans (congrArg (fun q : Nat => (q : Int)) ((show D203 190 = D 190 from (eD203 190).trans (hD203 189 rfl))).symm))
  have pf203_184_8 : HID (F203 184 8 = (D203 191 : Int)) := ((show F203 184 8 = F 184 8 from (eF203 184 8).trans (hS203 183 8 rfl))).trans ((pf191).trans (congrArg (fun q : Nat => (q : Int)) ((show D203 191 = D 191 from (eD203 191).trans (hD203 190 rfl))).symm))
  have pf203_184_9 : HID (F203 184 9 = (D203 192 : Int)) := ((show F203 184 9 = F 184 9 from (eF203 184 9).trans (hS203 183 9 rfl))).trans ((pf192).trans (congrArg (fun q : Nat => (q : Int)) ((show D203 192 = D 192 from (eD203 192).trans (hD203 191 rfl))).symm))
  have pf203_193_2 : HID (F203 193 2 = (D203 194 : Int)) := ((show F203 193 2 = F 193 2 from (eF203 193 2).trans (hS203 192 2 rfl))).trans ((pf194).trans (congrArg (fun q : Nat => (q : Int)) ((show D203 194 = D 194 from (eD203 194).trans (hD203 193 rfl))).symm))
  have pf203_193_3 : HID (F203 193 3 = (D203 195 : Int)) := ((show F203 193 3 = F 193 3 from (eF203 193 3).trans (hS203 192 3 rfl))).trans ((pf195).trans (congrArg (fun q : Nat => (q : Int)) ((show D203 195 = D 195 from (eD203 195).trans (hD203 194 rfl))).symm))
  have pf203_193_4 : HID (F203 193 4 = (D203 196 : Int)) := ((show F203 193 4 = F 193 4 from (eF203 193 4).trans (hS203 192 4 rfl))).trans ((pf196).trans (congrArg (fun q : Nat => (q : Int)) ((show D203 196 = D 196 from (eD203 196).trans (hD203 195 rfl))).symm))
  have pf203_193_5 : HID (F203 193 5 = (D203 197 : Int)) := ((show F203 193 5 = F 193 5 from (eF203 193 5).trans (hS203 192 5 rfl))).trans ((pf197).trans (congrArg (fun q : Nat => (q : Int)) ((show D203 197 = D 197 from (eD203 197).trans (hD203 196 rfl))).symm))
  have pf203_193_6 : HID (F203 193 6 = (D203 198 : Int)) := ((show F203 193 6 = F 193 6 from (eF203 193 6).trans (hS203 192 6 rfl))).trans ((pf198).trans (congrArg (fun q : Nat => (q : Int)) ((show D203 198 = D 198 from (eD203 198).trans (hD203 197 rfl))).symm))
  have pf203_193_7 : HID (F203 193 7 = (D203 199 : Int)) := ((show F203 193 7 = F 193 7 from (eF203 193 7).trans (hS203 192 7 rfl))).trans ((pf199).trans (congrArg (fun q : Nat => (q : Int)) ((show D203 199 = D 199 from (eD203 199).trans (hD203 198 rfl))).symm))
  have pf203_193_8 : HID (F203 193 8 = (D203 200 : Int)) := ((show F203 193 8 = F 193 8 from (eF203 193 8).trans (hS203 192 8 rfl))).trans ((pf200).trans (congrArg (fun q : Nat => (q : Int)) ((show D203 200 = D 200 from (eD203 200).trans (hD203 199 rfl))).symm))
  have pf203_193_9 : HID (F203 193 9 = (D203 201 : Int)) := ((show F203 193 9 = F 193 9 from (eF203 193 9).trans (hS203 192 9 rfl))).trans ((pf201).trans (congrArg (fun q : Nat => (q : Int)) ((show D203 201 = D 201 from (eD203 201).trans (hD203 200 rfl))).symm))
  have pf203_2_0 : HID (F203 2 0 = (D203 3 : Int)) := (eF203 2 0).trans (pm203_4.trans (congrArg (fun q : Nat => (q : Int)) (eD203 3).symm))
  have pf203_20_0 : HID (F203 20 0 = (D203 21 : Int)) := (eF203 20 0).trans (pm203_20.trans (congrArg (fun q : Nat => (q : Int)) (eD203 21).symm))
  have pf203_22_0 : HID (F203 22 0 = (D203 23 : Int)) := (eF203 22 0).trans (pm203_22.trans (congrArg (fun q : Nat => (q : Int)) (eD203 23).symm))
  have pf203_29_1 : HID (F203 29 1 = (D203 30 : Int)) := ((show F203 29 1 = F 29 1 from (eF203 29 1).trans (hS203 28 1 rfl))).trans ((pf30).trans (congrArg (fun q : Nat => (q : Int)) ((show D203 30 = D 30 from (eD203 30).trans (hD203 29 rfl))).symm))
  have pf203_29_2 : HID (F203 29 2 = (D203 31 : Int)) := ((show F203 29 2 = F 29 2 from (eF203 29 2).trans (hS203 28 2 rfl))).trans ((pf31).trans (congrArg (fun q : Nat => (q : Int)) ((show D203 31 = D 31 from (eD203 31).trans (hD203 30 rfl))).symm))
  have pf203_32_1 : HID (F203 32 1 = (D203 33 : Int)) := ((show F203 32 1 = F 32 1 from (eF203 32 1).trans (hS203 31 1 rfl))).trans ((pf33).trans (congrArg (fun q : Nat => (q : Int)) ((show D203 33 = D 33 from (eD203 33).trans (hD203 32 rfl))).symm))
  have pf203_32_2 : HID (F203 32 2 = (D203 34 : Int)) := ((show F203 32 2 = F 32 2 from (eF203 32 2).trans (hS203 31 2 rfl))).trans ((pf34).trans (congrArg (fun q : Nat => (q : Int)) ((show D203 34 = D 34 from (eD203 34).trans (hD203 33 rfl))).symm))
  have pf203_43_1 : HID (F203 43 1 = (D203 44 : Int)) := ((show F203 43 1 = F 43 1 from (eF203 43 1).trans (hS203 42 1 rfl))).trans ((pf44).trans (congrArg (fun q : Nat => (q : Int)) ((show D203 44 = D 44 from (eD203 44).trans (hD203 43 rfl))).symm))
  have pf203_43_2 : HID (F203 43 2 = (D203 45 : Int)) := ((show F203 43 2 = F 43 2 from (eF203 43 2).trans (hS203 42 2 rfl))).trans ((pf45).trans (congrArg (fun q : Nat => (q : Int)) ((show D203 45 = D 45 from (eD203 45).trans (hD203 44 rfl))).symm))
  have pf203_46_0 : HID (F203 46 0 = (D203 47 : Int)) := ((show F203 46 0 = F 46 0 from (eF203 46 0).trans (hS203 45 0 rfl))).trans ((pf47).trans (congrArg (fun q : Nat => (q : Int)) ((show D203 47 = D 47 from (eD203 47).trans (hD203 46 rfl))).symm))
  have pf203_46_1 : HID (F203 46 1 = (D203 48 : Int)) := ((show F203 46 1 = F 46 1 from (eF203 46 1).trans (hS203 45 1 rfl))).trans ((pf48).trans (congrArg (fun q : Nat => (q : Int)) ((show D203 48 = D 48 from (eD203 48).trans (hD203 47 rfl))).symm))
  have pf203_46_10 : HID (F203 46 10 = (D203 52 : Int)) := ((show F203 46 10 = F 46 10 from (eF203 46 10).trans (hS203 45 10 rfl))).trans ((pf52).trans (congrArg (fun q : Nat => (q : Int)) ((show D203 52 = D 52 from (eD203 52).trans (hD203 51 rfl))).symm))
  have pf203_46_11 : HID (F203 46 11 = (D203 53 : Int)) := ((show F203 46 11 = F 46 11 from (eF203 46 11).trans (hS203 45 11 rfl))).trans ((pf53).trans (congrArg (fun q : Nat => (q : Int)) ((show D203 53 = D 53 from (eD203 53).trans (hD203 52 rfl))).symm))
  have pf203_46_12 : HID (F203 46 12 = (D203 54 : Int)) := ((show F203 46 12 = F 46 12 from (eF203 46 12).trans (hS203 45 12 rfl))).trans ((pf54).trans (congrArg (fun q : Nat => (q : Int)) ((show D203 54 = D 54 from (eD203 54).trans (hD203 53 rfl))).symm))
  have pf203_46_2 : HID (F203 46 2 = (D203 49 : Int)) := ((show F203 46 2 = F 46 2 from (eF203 46 2).trans (hS203 45 2 rfl))).trans ((pf49).trans (congrArg (fun q : Nat => (q : Int)) ((show D203 49 = D 49 from (eD203 49).trans (hD203 48 rfl))).symm))
  have pf203_46_4 : HID (F203 46 4 = (D203 50 : Int)) := ((show F203 46 4 = F 46 4 from (eF203 46 4).trans (hS203 45 4 rfl))).trans ((pf50).trans (congrArg (fun q : Nat => (q : Int)) ((show D203 50 = D 50 from (eD203 50).trans (hD203 49 rfl))).symm))
  have pf203_46_5 : HID (F203 46 5 = (D203 51 : Int)) := ((show F203 46 5 = F 46 5 from (eF203 46 5).trans (hS203 45 5 rfl))).trans ((pf51).trans (congrArg (fun q : Nat => (q : Int)) ((show D203 51 = D 51 from (eD203 51).trans (hD203 50 rfl))).symm))
  have pf203_46_6 : HID (F203 46 6 = (D203 55 : Int)) := ((show F203 46 6 = F 46 6 from (eF203 46 6).trans (hS203 45 6 rfl))).trans ((pf55).trans (congrArg (fun q : Nat => (q : Int)) ((show D203 55 = D 55 from (eD203 55).trans (hD203 54 rfl))).symm))
  have pf203_46_7 : HID (F203 46 7 = (D203 64 : Int)) := ((show F203 46 7 = F 46 7 from (eF203 46 7).trans (hS203 45 7 rfl))).trans ((pf64).trans (congrArg (fun q : Nat => (q : Int)) ((show D203 64 = D 64 from (eD203 64).trans (hD203 63 rfl))).symm))
  have pf203_46_8 : HID (F203 46 8 = (D203 66 : Int)) := ((show F203 46 8 = F 46 8 from (eF203 46 8).trans (hS203 45 8 rfl))).trans ((pf66).trans (congrArg (fun q : Nat => (q : Int)) ((show D203 66 = D 66 from (eD203 66).trans (hD203 65 rfl))).symm))
  have pf203_5_0 : HID (F203 5 0 = (D203 6 : Int)) := ((show F203 5 0 = F 5 0 from (eF203 5 0).trans (hS203 3 0 rfl))).trans ((pf6).trans (congrArg (fun q : Nat => (q : Int)) ((show D203 6 = D 6 from (eD203 6).trans (hD203 6 rfl))).symm))
  have pf203_5_1 : HID (F203 5 1 = (D203 43 : Int)) := ((show F203 5 1 = F 5 1 from (eF203 5 1).trans (hS203 3 1 rfl))).trans ((pf43).trans (congrArg (fun q : Nat => (q : Int)) ((show D203 43 = D 43 from (eD203 43).trans (hD203 42 rfl))).symm))
  have pf203_5_3 : HID (F203 5 3 = (D203 90 : Int)) := ((show F203 5 3 = F 5 3 from (eF203 5 3).trans (hS203 3 3 rfl))).trans ((pf90).trans (congrArg (fun q : Nat => (q : Int)) ((show D203 90 = D 90 from (eD203 90).trans (hD203 89 rfl))).symm))
  have pf203_5_4 : HID (F203 5 4 = (D203 120 : Int)) := ((show F203 5 4 = F 5 4 from (eF203 5 4).trans (hS203 3 4 rfl))).trans ((pf120).trans (congrArg (fun q : Nat => (q : Int)) ((show D203 120 = D 120 from (eD203 120).trans (hD203 119 rfl))).symm))
  have pf203_55_2 : HID (F203 55 2 = (D203 56 : Int)) := ((show F203 55 2 = F 55 2 from (eF203 55 2).trans (hS203 54 2 rfl))).trans ((pf56).trans (congrArg (fun q : Nat => (q : Int)) ((show D203 56 = D 56 from (eD203 56).trans (hD203 55 rfl))).symm))
  have pf203_55_3 : HID (F203 55 3 = (D203 57 : Int)) := ((show F203 55 3 = F 55 3 from (eF203 55 3).trans (hS203 54 3 rfl))).trans ((pf57).trans (congrArg (fun q : Nat => (q : Int)) ((show D203 57 = D 57 from (eD203 57).trans (hD203 56 rfl))).symm))
  have pf203_55_4 : HID (F203 55 4 = (D203 58 : Int)) := ((show F203 55 4 = F 55 4 from (eF203 55 4).trans (hS203 54 4 rfl))).trans ((pf58).trans (congrArg (fun q : Nat => (q : Int)) ((show D203 58 = D 58 from (eD203 58).trans (hD203 57 rfl))).symm))
  have pf203_55_5 : HID (F203 55 5 = (D203 59 : Int)) := ((show F203 55 5 = F 55 5 from (eF203 55 5).trans (hS203 54 5 rfl))).trans ((pf59).trans (congrArg (fun q : Nat => (q : Int)) ((show D203 59 = D 59 from (eD203 59).trans (hD203 58 rfl))).symm))
  have pf203_55_6 : HID (F203 55 6 = (D203 60 : Int)) := ((show F203 55 6 = F 55 6 from (eF203 55 6).trans (hS203 54 6 rfl))).trans ((pf60).trans (congrArg (fun q : Nat => (q : Int)) ((show D203 60 = D 60 from (eD203 60).trans (hD203 59 rfl))).symm))
  have pf203_55_7 : HID (F203 55 7 = (D203 61 : Int)) := ((show F203 55 7 = F 55 7 from (eF203 55 7).trans (hS203 54 7 rfl))).trans ((pf61).trans (congrArg (fun q : Nat => (q : Int)) ((show D203 61 = D 61 from (eD203 61).trans (hD203 60 rfl))).symm))
  have pf203_55_8 : HID (F203 55 8 = (D203 62 : Int)) := ((show F203 55 8 = F 55 8 from (eF203 55 8).trans (hS203 54 8 rfl))).trans ((pf62).trans (congrArg (fun q : Nat => (q : Int)) ((show D203 62 = D 62 from (eD203 62).trans (hD203 61 rfl))).symm))
  have pf203_55_9 : HID (F203 55 9 = (D203 63 : Int)) := ((show F203 55 9 = F 55 9 from (eF203 55 9).trans (hS203 54 9 rfl))).trans ((pf63).trans (congrArg (fun q : Nat => (q : Int)) ((show D203 63 = D 63 from (eD203 63).trans (hD203 62 rfl))).symm))
  have pf203_6_0 : HID (F203 6 0 = (D203 7 : Int)) := ((show F203 6 0 = F 6 0 from (eF203 6 0).trans (hS203 6 0 rfl))).trans ((pf7).trans (congrArg (fun q : Nat => (q : Int)) ((show D203 7 = D 7 from (eD203 7).trans (hD203 7 rfl))).symm))
  have pf203_64_0 : HID (F203 64 0 = (D203 65 : Int)) := (eF203 64 0).trans (pm203_64.trans (congrArg (fun q : Nat => (q : Int)) (eD203 65).symm))
  have pf203_66_0 : HID (F203 66 0 = (D203 67 : Int)) := (eF203 66 0).trans (pm203_66.trans (congrArg (fun q : Nat => (q : Int)) (eD203 67).symm))
  have pf203_68_0 : HID (F203 68 0 = (D203 69 : Int)) := ((show F203 68 0 = F 68 0 from (eF203 68 0).trans (hS203 67 0 rfl))).trans ((pf69).trans (congrArg (fun q : Nat => (q : Int)) ((show D203 69 = D 69 from (eD203 69).trans (hD203 68 rfl))).symm))
  have pf203_68_1 : HID (F203 68 1 = (D203 70 : Int)) := ((show F203 68 1 = F 68 1 from (eF203 68 1).trans (hS203 67 1 rfl))).trans ((pf70).trans (congrArg (fun q : Nat => (q : Int)) ((show D203 70 = D 70 from (eD203 70).trans (hD203 69 rfl))).symm))
  have pf203_68_10 : HID (F203 68 10 = (D203 74 : Int)) := ((show F203 68 10 = F 68 10 from (eF203 68 10).trans (hS203 67 10 rfl))).trans ((pf74).trans (congrArg (fun q : Nat => (q : Int)) ((show D203 74 = D 74 from (eD203 74).trans (hD203 73 rfl))).symm))
  have pf203_68_11 : HID (F203 68 11 = (D203 75 : Int)) := ((show F203 68 11 = F 68 11 from (eF203 68 11).trans (hS203 67 11 rfl))).trans ((pf75).trans (congrArg (fun q : Nat => (q : Int)) ((show D203 75 = D 75 from (eD203 75).trans (hD203 74 rfl))).symm))
  have pf203_68_12 : HID (F203 68 12 = (D203 76 : Int)) := ((show F203 68 12 = F 68 12 from (eF203 68 12).trans (hS203 67 12 rfl))).trans ((pf76).trans (congrArg (fun q : Nat => (q : Int)) ((show D203 76 = D 76 from (eD203 76).trans (hD203 75 rfl))).symm))
  have pf203_68_2 : HID (F203 68 2 = (D203 71 : Int)) := ((show F203 68 2 = F 68 2 from (eF203 68 2).trans (hS203 67 2 rfl))).trans ((pf71).trans (congrArg (fun q : Nat => (q : Int)) ((show D203 71 = D 71 from (eD203 71).trans (hD203 70 rfl))).symm))
  have pf203_68_4 : HID (F203 68 4 = (D203 72 : Int)) := ((show F203 68 4 = F 68 4 from (eF203 68 4).trans (hS203 67 4 rfl))).trans ((pf72).trans (congrArg (fun q : Nat => (q : Int)) ((show D203 72 = D 72 from (eD203 72).trans (hD203 71 rfl))).symm))
  have pf203_68_5 : HID (F203 68 5 = (D203 73 : Int)) := ((show F203 68 5 = F 68 5 from (eF203 68 5).trans (hS203 67 5 rfl))).trans ((pf73).trans (congrArg (fun q : Nat => (q : Int)) ((show D203 73 = D 73 from (eD203 73).trans (hD203 72 rfl))).symm))
  have pf203_68_6 : HID (F203 68 6 = (D203 77 : Int)) := ((show F203 68 6 = F 68 6 from (eF203 68 6).trans (hS203 67 6 rfl))).trans ((pf77).trans (congrArg (fun q : Nat => (q : Int)) ((show D203 77 = D 77 from (eD203 77).trans (hD203 76 rfl))).symm))
  have pf203_68_7 : HID (F203 68 7 = (D203 86 : Int)) := ((show F203 68 7 = F 68 7 from (eF203 68 7).trans (hS203 67 7 rfl))).trans ((pf86).trans (congrArg (fun q : Nat => (q : Int)) ((show D203 86 = D 86 from (eD203 86).trans (hD203 85 rfl))).symm))
  have pf203_68_8 : HID (F203 68 8 = (D203 88 : Int)) := ((show F203 68 8 = F 68 8 from (eF203 68 8).trans (hS203 67 8 rfl))).trans ((pf88).trans (congrArg (fun q : Nat => (q : Int)) ((show D203 88 = D 88 from (eD203 88).trans (hD203 87 rfl))).symm))
  have pf203_77_2 : HID (F203 77 2 = (D203 78 : Int)) := ((show F203 77 2 = F 77 2 from (eF203 77 2).trans (hS203 76 2 rfl))).trans ((pf78).trans (congrArg (fun q : Nat => (q : Int)) ((show D203 78 = D 78 from (eD203 78).trans (hD203 77 rfl))).symm))
  have pf203_77_3 : HID (F203 77 3 = (D203 79 : Int)) := ((show F203 77 3 = F 77 3 from (eF203 77 3).trans (hS203 76 3 rfl))).trans ((pf79).trans (congrArg (fun q : Nat => (q : Int)) ((show D203 79 = D 79 from (eD203 79).trans (hD203 78 rfl))).symm))
  have pf203_77_4 : HID (F203 77 4 = (D203 80 : Int)) := ((show F203 77 4 = F 77 4 from (eF203 77 4).trans (hS203 76 4 rfl))).trans ((pf80).trans (congrArg (fun q : Nat => (q : Int)) ((show D203 80 = D 80 from (eD203 80).trans (hD203 79 rfl))).symm))
  have pf203_77_5 : HID (F203 77 5 = (D203 81 : Int)) := ((show F203 77 5 = F 77 5 from (eF203 77 5).trans (hS203 76 5 rfl))).trans ((pf81).trans (congrArg (fun q : Nat => (q : Int)) ((show D203 81 = D 81 from (eD203 81).trans (hD203 80 rfl))).symm))
  have pf203_77_6 : HID (F203 77 6 = (D203 82 : Int)) := ((show F203 77 6 = F 77 6 from (eF203 77 6).trans (hS203 76 6 rfl))).trans ((pf82).trans (congrArg (fun q : Nat => (q : Int)) ((show D203 82 = D 82 from (eD203 82).trans (hD203 81 rfl))).symm))
  have pf203_77_7 : HID (F203 77 7 = (D203 83 : Int)) := ((show F203 77 7 = F 77 7 from (eF203 77 7).trans (hS203 76 7 rfl))).trans ((pf83).trans (congrArg (fun q : Nat => (q : Int)) ((show D203 83 = D 83 from (eD203 83).trans (hD203 82 rfl))).symm))
  have pf203_77_8 : HID (F203 77 8 = (D203 84 : Int)) := ((show F203 77 8 = F 77 8 from (eF203 77 8).trans (hS203 76 8 rfl))).trans ((pf84).trans (congrArg (fun q : Nat => (q : Int)) ((show D203 84 = D 84 from (eD203 84).trans (hD203 83 rfl))).symm))
  have pf203_77_9 : HID (F203 77 9 = (D203 85 : Int)) := ((show F203 77 9 = F 77 9 from (eF203 77 9).trans (hS203 76 9 rfl))).trans ((pf85).trans (congrArg (fun q : Nat => (q : Int)) ((show D203 85 = D 85 from (eD203 85).trans (hD203 84 rfl))).symm))
  have pf203_8_0 : HID (F203 8 0 = (D203 9 : Int)) := ((show F203 8 0 = F 8 0 from (eF203 8 0).trans (hS203 0 0 rfl))).trans ((pf9).trans (congrArg (fun q : Nat => (q : Int)) ((show D203 9 = D 9 from (eD203 9).trans (hD203 8 rfl))).symm))
  have pf203_8_1 : HID (F203 8 1 = (D203 10 : Int)) := ((show F203 8 1 = F 8 1 from (eF203 8 1).trans (hS203 0 1 rfl))).trans ((pf10).trans (congrArg (fun q : Nat => (q : Int)) ((show D203 10 = D 10 from (eD203 10).trans (hD203 9 rfl))).symm))
  have pf203_8_10 : HID (F203 8 10 = (D203 22 : Int)) := ((show F203 8 10 = F 8 10 from (eF203 8 10).trans (hS203 0 10 rfl))).trans ((pf22).trans (congrArg (fun q : Nat => (q : Int)) ((show D203 22 = D 22 from (eD203 22).trans (hD203 21 rfl))).symm))
  have pf203_8_11 : HID (F203 8 11 = (D203 24 : Int)) := ((show F203 8 11 = F 8 11 from (eF203 8 11).trans (hS203 0 11 rfl))).trans ((pf24).trans (congrArg (fun q : Nat => (q : Int)) ((show D203 24 = D 24 from (eD203 24).trans (hD203 23 rfl))).symm))
  have pf203_8_12 : HID (F203 8 12 = (D203 25 : Int)) := ((show F203 8 12 = F 8 12 from (eF203 8 12).trans (hS203 0 12 rfl))).trans ((pf25).trans (congrArg (fun q : Nat => (q : Int)) ((show D203 25 = D 25 from (eD203 25).trans (hD203 24 rfl))).symm))
  have pf203_8_13 : HID (F203 8 13 = (D203 38 : Int)) := (eF203 8 13).trans (pm203_37.trans (congrArg (fun q : Nat => (q : Int)) (eD203 38).symm))
  have pf203_8_14 : HID (F203 8 14 = (D203 40 : Int)) := (eF203 8 14).trans (pm203_39.trans (congrArg (fun q : Nat => (q : Int)) (eD203 40).symm))
  have pf203_8_17 : HID (F203 8 17 = (D203 27 : Int)) := ((show F203 8 17 = F 8 17 from (eF203 8 17).trans (hS203 0 17 rfl))).trans ((pf27).trans (congrArg (fun q : Nat => (q : Int)) ((show D203 27 = D 27 from (eD203 27).trans (hD203 26 rfl))).symm))
  have pf203_8_18 : HID (F203 8 18 = (D203 26 : Int)) := ((show F203 8 18 = F 8 18 from (eF203 8 18).trans (hS203 0 18 rfl))).trans ((pf26).trans (congrArg (fun q : Nat => (q : Int)) ((show D203 26 = D 26 from (eD203 26).trans (hD203 25 rfl))).symm))
  have pf203_8_2 : HID (F203 8 2 = (D203 35 : Int)) := ((show F203 8 2 = F 8 2 from (eF203 8 2).trans (hS203 0 2 rfl))).trans ((pf35).trans (congrArg (fun q : Nat => (q : Int)) ((show D203 35 = D 35 from (eD203 35).trans (hD203 34 rfl))).symm))
  have pf203_8_3 : HID (F203 8 3 = (D203 28 : Int)) := ((show F203 8 3 = F 8 3 from (eF203 8 3).trans (hS203 0 3 rfl))).trans ((pf28).trans (congrArg (fun q : Nat => (q : Int)) ((show D203 28 = D 28 from (eD203 28).trans (hD203 27 rfl))).symm))
  have pf203_8_4 : HID (F203 8 4 = (D203 36 : Int)) := ((show F203 8 4 = F 8 4 from (eF203 8 4).trans (hS203 0 4 rfl))).trans ((pf36).trans (congrArg (fun q : Nat => (q : Int)) ((show D203 36 = D 36 from (eD203 36).trans (hD203 35 rfl))).symm))
  have pf203_8_5 : HID (F203 8 5 = (D203 37 : Int)) := ((show F203 8 5 = F 8 5 from (eF203 8 5).trans (hS203 0 5 rfl))).trans ((pf37).trans (congrArg (fun q : Nat => (q : Int)) ((show D203 37 = D 37 from (eD203 37).trans (hD203 36 rfl))).symm))
  have pf203_8_6 : HID (F203 8 6 = (D203 29 : Int)) := ((show F203 8 6 = F 8 6 from (eF203 8 6).trans (hS203 0 6 rfl))).trans ((pf29).trans (congrArg (fun q : Nat => (q : Int)) ((show D203 29 = D 29 from (eD203 29).trans (hD203 28 rfl))).symm))
  have pf203_8_7 : HID (F203 8 7 = (D203 32 : Int)) := ((show F203 8 7 = F 8 7 from (eF203 8 7).trans (hS203 0 7 rfl))).trans ((pf32).trans (congrArg (fun q : Nat => (q : Int)) ((show D203 32 = D 32 from (eD203 32).trans (hD203 31 rfl))).symm))
  have pf203_8_8 : HID (F203 8 8 = (D203 18 : Int)) := ((show F203 8 8 = F 8 8 from (eF203 8 8).trans (hS203 0 8 rfl))).trans ((pf18).trans (congrArg (fun q : Nat => (q : Int)) ((show D203 18 = D 18 from (eD203 18).trans (hD203 17 rfl))).symm))
  have pf203_8_9 : HID (F203 8 9 = (D203 20 : Int)) := ((show F203 8 9 = F 8 9 from (eF203 8 9).trans (hS203 0 9 rfl))).trans ((pf20).trans (congrArg (fun q : Nat => (q : Int)) ((show D203 20 = D 20 from (eD203 20).trans (hD203 19 rfl))).symm))
  have pf203_86_0 : HID (F203 86 0 = (D203 87 : Int)) := (eF203 86 0).trans (pm203_86.trans (congrArg (fun q : Nat => (q : Int)) (eD203 87).symm))
  have pf203_88_0 : HID (F203 88 0 = (D203 89 : Int)) := (eF203 88 0).trans (pm203_88.trans (congrArg (fun q : Nat => (q : Int)) (eD203 89).symm))
  have pf203_90_0 : HID (F203 90 0 = (D203 91 : Int)) := ((show F203 90 0 = F 90 0 from (eF203 90 0).trans (hS203 89 0 rfl))).trans ((pf91).trans (congrArg (fun q : Nat => (q : Int)) ((show D203 91 = D 91 from (eD203 91).trans (hD203 90 rfl))).symm))
  have pf203_90_1 : HID (F203 90 1 = (D203 92 : Int)) := ((show F203 90 1 = F 90 1 from (eF203 90 1).trans (hS203 89 1 rfl))).trans ((pf92).trans (congrArg (fun q : Nat => (q : Int)) ((show D203 92 = D 92 from (eD203 92).trans (hD203 91 rfl))).symm))
  have pf203_90_2 : HID (F203 90 2 = (D203 202 : Int)) := ((show F203 90 2 = F 90 2 from (eF203 90 2).trans (hS203 89 2 rfl))).trans ((pf202).trans (congrArg (fun q : Nat => (q : Int)) ((show D203 202 = D 202 from (eD203 202).trans (hD203 201 rfl))).symm))
  have pf203_93_2 : HID (F203 93 2 = (D203 94 : Int)) := ((show F203 93 2 = F 93 2 from (eF203 93 2).trans (hS203 92 2 rfl))).trans ((pf94).trans (congrArg (fun q : Nat => (q : Int)) ((show D203 94 = D 94 from (eD203 94).trans (hD203 93 rfl))).symm))
  have pf203_93_3 : HID (F203 93 3 = (D203 95 : Int)) := ((show F203 93 3 = F 93 3 from (eF203 93 3).trans (hS203 92 3 rfl))).trans ((pf95).trans (congrArg (fun q : Nat => (q : Int)) ((show D203 95 = D 95 from (eD203 95).trans (hD203 94 rfl))).symm))
  have pf203_93_4 : HID (F203 93 4 = (D203 96 : Int)) := ((show F203 93 4 = F 93 4 from (eF203 93 4).trans (hS203 92 4 rfl))).trans ((pf96).trans (congrArg (fun q : Nat => (q : Int)) ((show D203 96 = D 96 from (eD203 96).trans (hD203 95 rfl))).symm))
  have pf203_93_5 : HID (F203 93 5 = (D203 97 : Int)) := ((show F203 93 5 = F 93 5 from (eF203 93 5).trans (hS203 92 5 rfl))).trans ((pf97).trans (congrArg (fun q : Nat => (q : Int)) ((show D203 97 = D 97 from (eD203 97).trans (hD203 96 rfl))).symm))
  have pf203_93_6 : HID (F203 93 6 = (D203 101 : Int)) := ((show F203 93 6 = F 93 6 from (eF203 93 6).trans (hS203 92 6 rfl))).trans ((pf101).trans (congrArg (fun q : Nat => (q : Int)) ((show D203 101 = D 101 from (eD203 101).trans (hD203 100 rfl))).symm))
  have pf203_93_7 : HID (F203 93 7 = (D203 98 : Int)) := ((show F203 93 7 = F 93 7 from (eF203 93 7).trans (hS203 92 7 rfl))).trans ((pf98).trans (congrArg (fun q : Nat => (q : Int)) ((show D203 98 = D 98 from (eD203 98).trans (hD203 97 rfl))).symm))
  have pf203_93_8 : HID (F203 93 8 = (D203 99 : Int)) := ((show F203 93 8 = F 93 8 from (eF203 93 8).trans (hS203 92 8 rfl))).trans ((pf99).trans (congrArg (fun q : Nat => (q : Int)) ((show D203 99 = D 99 from (eD203 99).trans (hD203 98 rfl))).symm))
  have pf203_93_9 : HID (F203 93 9 = (D203 100 : Int)) := ((show F203 93 9 = F 93 9 from (eF203 93 9).trans (hS203 92 9 rfl))).trans ((pf100).trans (congrArg (fun q : Nat => (q : Int)) ((show D203 100 = D 100 from (eD203 100).trans (hD203 99 rfl))).symm))
  have r204 : HID ((0 : Int) ≤ m203_4 ∧ m203_4 ≤ 1000000) := nrng (H.nle 3 (by decide)) (show (N203 3 : Int) = m203_4 from (congrArg (fun q : Nat => (q : Int)) (eN203 3)).trans em203_4)
  have r205 : HID ((0 : Int) ≤ m203_11 ∧ m203_11 ≤ 1000000) := nrng (H.nle 12 (by decide)) (show (N203 12 : Int) = m203_11 from (congrArg (fun q : Nat => (q : Int)) (eN203 12)).trans em203_11)
  have r206 : HID ((0 : Int) ≤ m203_12 ∧ m203_12 ≤ 1000000) := nrng (H.nle 13 (by decide)) (show (N203 13 : Int) = m203_12 from (congrArg (fun q : Nat => (q : Int)) (eN203 13)).trans em203_12)
  have r207 : HID ((0 : Int) ≤ m203_13 ∧ m203_13 ≤ 1000000) := nrng (H.nle 14 (by decide)) (show (N203 14 : Int) = m203_13 from (congrArg (fun q : Nat => (q : Int)) (eN203 14)).trans em203_13)
  have r208 : HID ((0 : Int) ≤ m203_14 ∧ m203_14 ≤ 1000000) := nrng (H.nle 15 (by decide)) (show (N203 15 : Int) = m203_14 from (congrArg (fun q : Nat => (q : Int)) (eN203 15)).trans em203_14)
  have r209 : HID ((0 : Int) ≤ m203_15 ∧ m203_15 ≤ 1000000) := nrng (H.nle 16 (by decide)) (show (N203 16 : Int) = m203_15 from (congrArg (fun q : Nat => (q : Int)) (eN203 16)).trans em203_15)
  have r210 : HID ((0 : Int) ≤ m203_16 ∧ m203_16 ≤ 1000000) := nrng (H.nle 17 (by decide)) (show (N203 17 : Int) = m203_16 from (congrArg (fun q : Nat => (q : Int)) (eN203 17)).trans em203_16)
  have r211 : HID ((0 : Int) ≤ m203_18 ∧ m203_18 ≤ 1000000) := nrng (H.nle 19 (by decide)) (show (N203 19 : Int) = m203_18 from (congrArg (fun q : Nat => (q : Int)) (eN203 19)).trans em203_18)
  have r212 : HID ((0 : Int) ≤ m203_20 ∧ m203_20 ≤ 1000000) := nrng (H.nle 21 (by decide)) (show (N203 21 : Int) = m203_20 from (congrArg (fun q : Nat => (q : Int)) (eN203 21)).trans em203_20)
  have r213 : HID ((0 : Int) ≤ m203_22 ∧ m203_22 ≤ 1000000) := nrng (H.nle 23 (by decide)) (show (N203 23 : Int) = m203_22 from (congrArg (fun q : Nat => (q : Int)) (eN203 23)).trans em203_22)
  have r214 : HID ((0 : Int) ≤ m203_37 ∧ m203_37 ≤ 1000000) := nrng (H.nle 38 (by decide)) (show (N203 38 : Int) = m203_37 from (congrArg (fun q : Nat => (q : Int)) (eN203 38)).trans em203_37)
  have r215 : HID ((0 : Int) ≤ m203_38 ∧ m203_38 ≤ 1000000) := nrng (H.nle 39 (by decide)) (show (N203 39 : Int) = m203_38 from (congrArg (fun q : Nat => (q : Int)) (eN203 39)).trans em203_38)
  have r216 : HID ((0 : Int) ≤ m203_39 ∧ m203_39 ≤ 1000000) := nrng (H.nle 40 (by decide)) (show (N203 40 : Int) = m203_39 from (congrArg (fun q : Nat => (q : Int)) (eN203 40)).trans em203_39)
  have r217 : HID ((0 : Int) ≤ m203_40 ∧ m203_40 ≤ 1000000) := nrng (H.nle 41 (by decide)) (show (N203 41 : Int) = m203_40 from (congrArg (fun q : Nat => (q : Int)) (eN203 41)).trans em203_40)
  have r218 : HID ((0 : Int) ≤ m203_41 ∧ m203_41 ≤ 1000000) := nrng (H.nle 42 (by decide)) (show (N203 42 : Int) = m203_41 from (congrArg (fun q : Nat => (q : Int)) (eN203 42)).trans em203_41)
  have r219 : HID ((0 : Int) ≤ m203_64 ∧ m203_64 ≤ 1000000) := nrng (H.nle 65 (by decide)) (show (N203 65 : Int) = m203_64 from (congrArg (fun q : Nat => (q : Int)) (eN203 65)).trans em203_64)
  have r220 : HID ((0 : Int) ≤ m203_66 ∧ m203_66 ≤ 1000000) := nrng (H.nle 67 (by decide)) (show (N203 67 : Int) = m203_66 from (congrArg (fun q : Nat => (q : Int)) (eN203 67)).trans em203_66)
  have r221 : HID ((0 : Int) ≤ m203_86 ∧ m203_86 ≤ 1000000) := nrng (H.nle 87 (by decide)) (show (N203 87 : Int) = m203_86 from (congrArg (fun q : Nat => (q : Int)) (eN203 87)).trans em203_86)
  have r222 : HID ((0 : Int) ≤ m203_88 ∧ m203_88 ≤ 1000000) := nrng (H.nle 89 (by decide)) (show (N203 89 : Int) = m203_88 from (congrArg (fun q : Nat => (q : Int)) (eN203 89)).trans em203_88)
  have hdd223 : HID (((D203 90 : Nat) : Int) = ((D 90 : Nat) : Int)) := congrArg (fun q : Nat => (q : Int)) (((show D203 90 = D 90 from (eD203 90).trans (hD203 89 rfl))))
  have hdd224 : HID (((D203 121 : Nat) : Int) = ((D 121 : Nat) : Int)) := congrArg (fun q : Nat => (q : Int)) (((show D203 121 = D 121 from (eD203 121).trans (hD203 120 rfl))))
  have hdd225 : HID (((D203 157 : Nat) : Int) = ((D 157 : Nat) : Int)) := congrArg (fun q : Nat => (q : Int)) (((show D203 157 = D 157 from (eD203 157).trans (hD203 156 rfl))))
  have hdd226 : HID (((D203 193 : Nat) : Int) = ((D 193 : Nat) : Int)) := congrArg (fun q : Nat => (q : Int)) (((show D203 193 = D 193 from (eD203 193).trans (hD203 192 rfl))))
  have hda227 : HID (((D203 90 : Nat) : Int) = ((D 90 : Nat) : Int) ∧ ((D203 121 : Nat) : Int) = ((D 121 : Nat) : Int) ∧ ((D203 157 : Nat) : Int) = ((D 157 : Nat) : Int) ∧ ((D203 193 : Nat) : Int) = ((D 193 : Nat) : Int)) := HIDm ⟨(HIDe hdd223), (HIDe hdd224), (HIDe hdd225), (HIDe hdd226)⟩
  have r228 : HID ((-2147483648 : Int) ≤ y203_1_1 ∧ y203_1_1 ≤ 2147483647) := krg_e (show (-2147483648 : Int) ≤ F203 2 1 ∧ F203 2 1 ≤ 2147483647 from H.krg 2 1 (by decide)) (show F203 2 1 = y203_1_1 from ((eF203 2 1).trans ey203_1_1))
  have r229 : HID ((0 : Int) ≤ y203_1_2 ∧ y203_1_2 ≤ 1) := krg_e (show (0 : Int) ≤ F203 2 2 ∧ F203 2 2 ≤ 1 from H.krg 2 2 (by decide)) (show F203 2 2 = y203_1_2 from ((eF203 2 2).trans ey203_1_2))
  have r230 : HID ((-2147483648 : Int) ≤ y203_10_1 ∧ y203_10_1 ≤ 2147483647) := krg_e (show (-2147483648 : Int) ≤ F203 11 1 ∧ F203 11 1 ≤ 2147483647 from H.krg 11 1 (by decide)) (show F203 11 1 = y203_10_1 from ((eF203 11 1).trans ey203_10_1))
  have r231 : HID ((-2147483648 : Int) ≤ y203_17_1 ∧ y203_17_1 ≤ 2147483647) := krg_e (show (-2147483648 : Int) ≤ F203 18 1 ∧ F203 18 1 ≤ 2147483647 from H.krg 18 1 (by decide)) (show F203 18 1 = y203_17_1 from ((eF203 18 1).trans ey203_17_1))
  have r232 : HID ((-2147483648 : Int) ≤ y203_19_1 ∧ y203_19_1 ≤ 2147483647) := krg_e (show (-2147483648 : Int) ≤ F203 20 1 ∧ F203 20 1 ≤ 2147483647 from H.krg 20 1 (by decide)) (show F203 20 1 = y203_19_1 from ((eF203 20 1).trans ey203_19_1))
  have r233 : HID ((-2147483648 : Int) ≤ y203_21_1 ∧ y203_21_1 ≤ 2147483647) := krg_e (show (-2147483648 : Int) ≤ F203 22 1 ∧ F203 22 1 ≤ 2147483647 from H.krg 22 1 (by decide)) (show F203 22 1 = y203_21_1 from ((eF203 22 1).trans ey203_21_1))
  have r234 : HID ((-2147483648 : Int) ≤ y203_63_1 ∧ y203_63_1 ≤ 2147483647) := krg_e (show (-2147483648 : Int) ≤ F203 64 1 ∧ F203 64 1 ≤ 2147483647 from H.krg 64 1 (by decide)) (show F203 64 1 = y203_63_1 from ((eF203 64 1).trans ey203_63_1))
  have r235 : HID ((-2147483648 : Int) ≤ y203_65_1 ∧ y203_65_1 ≤ 2147483647) := krg_e (show (-2147483648 : Int) ≤ F203 66 1 ∧ F203 66 1 ≤ 2147483647 from H.krg 66 1 (by decide)) (show F203 66 1 = y203_65_1 from ((eF203 66 1).trans ey203_65_1))
  have r236 : HID ((-2147483648 : Int) ≤ y203_85_1 ∧ y203_85_1 ≤ 2147483647) := krg_e (show (-2147483648 : Int) ≤ F203 86 1 ∧ F203 86 1 ≤ 2147483647 from H.krg 86 1 (by decide)) (show F203 86 1 = y203_85_1 from ((eF203 86 1).trans ey203_85_1))
  have r237 : HID ((-2147483648 : Int) ≤ y203_87_1 ∧ y203_87_1 ≤ 2147483647) := krg_e (show (-2147483648 : Int) ≤ F203 88 1 ∧ F203 88 1 ≤ 2147483647 from H.krg 88 1 (by decide)) (show F203 88 1 = y203_87_1 from ((eF203 88 1).trans ey203_87_1))
  refine Ew_of (pc' := 199) (fun _ => x_goto rfl rfl) ?_
  refine Ew_of (pc' := 201) (fun _ => x_iload rfl hl5) ?_
  refine w_ifeq (t := 214) rfl rfl (show inr (1) by omega) (fun b238 => ?_) (fun b238 => ?_)
  · exact absurd b238 (by omega)
  · refine Ew_of (pc' := 205) (fun _ => x_aload_n rfl hl0) ?_
    refine Ew_stk (show ([.ref (D 0)] : List Value) = [.ref (D203 0)] by rw [show D203 0 = D 0 from ((show D203 0 = D 0 from (eD203 0)))]) ?_
    refine v_g H (o := 0) (v := .ref (D203 2)) rfl rfl rfl rfl rfl (vrf (pf203_0_5)) ?_
    refine v_g H (o := 2) (v := I (y203_1_2)) rfl rfl rfl rfl rfl (congrArg (fun z : Int => I z) (((eF203 2 2).trans ey203_1_2) : F203 2 2 = y203_1_2)) ?_
    refine w_ifeq (t := 216) rfl rfl (show inr (y203_1_2) by have qh0 := HIDe r229; omega) (fun b239 => ?_) (fun b239 => ?_)
    · have : WRY 4 ((w9)) (sc ((w4)) 0 ((u1_1))) [] Dc st0 ((y203_1_1)) (sc ((w203_4)) 0 ((y203_1_1))) := WRY_4 (WRC_4 (by have h := pz203_16; rw [show (u2_2) = 0 by (have qg0 := HIDe r1; have qg1 := HIDe r2; have qg2 := HIDe r228; have qg3 := HIDe r3; omega), show (u2_1) = 0 by (have qg0 := HIDe r1; have qg1 := HIDe r2; have qg2 := HIDe r228; have qg3 := HIDe r3; omega)] at h; unfold frD; rw [hD2, hD1]; exact h) (by (have qg0 := HIDe r1; have qg1 := HIDe r2; have qg2 := HIDe r228; have qg3 := HIDe r3; omega)) (by (have qg0 := HIDe r1; have qg1 := HIDe r2; have qg2 := HIDe r228; have qg3 := HIDe r3; omega)))
      have : CNR ((w203_25)) (frD ((w9)) (sc ((w4)) 0 ((u1_1))) Dc st0).2 := by unfold frD; rw [hD2, hD1]; exact pz203_17 (by (have qg0 := HIDe r1; omega))
      refine Ew_of (pc' := 217) (fun _ => x_iload_n rfl hl3) ?_
      refine Ew_of (pc' := 218) (fun _ => x_iconst rfl) ?_
      refine w_icmpeq (t := 277) rfl rfl (show inr (4) by omega) (show inr (5) by omega) (fun b240 => ?_) (fun b240 => ?_)
      · exact absurd b240 (by omega)
      · refine Ew_of (pc' := 222) (fun _ => x_aload_n rfl hl0) ?_
        refine Ew_of (pc' := 223) (fun _ => x_aload_n rfl hl0) ?_
        refine Ew_stk (show ([.ref (D 0), .ref (D 0)] : List Value) = [.ref (D203 0), .ref (D203 0)] by rw [show D203 0 = D 0 from ((show D203 0 = D 0 from (eD203 0)))]) ?_
        refine v_g H (o := 0) (v := .ref (D203 2)) rfl rfl rfl rfl rfl (vrf (pf203_0_5)) ?_
        refine Ew_of (pc' := 227) (fun _ => x_iload_n rfl hl3) ?_
        refine Ew_of (pc' := 229) (fun _ => x_aload rfl hl4) ?_
        refine Ew_stk (show ([.ref (D 1), I (4), .ref (D203 2), .ref (D203 0)] : List Value) = [.ref (D203 1), I (4), .ref (D203 2), .ref (D203 0)] by rw [show D203 1 = D 1 from ((show D203 1 = D 1 from (eD203 1).trans (hD203 2 rfl)))]) ?_
        refine v_g H (o := 1) (v := I (u1_1)) rfl rfl rfl rfl rfl (congrArg (fun z : Int => I z) ((((show F203 1 1 = F 1 1 from (eF203 1 1).trans (hS203 2 1 rfl))).trans (eu1_1)) : F203 1 1 = u1_1)) ?_
        refine Ew_of (pc' := 233) (fun _ => x_aload_n rfl hl0) ?_
        refine Ew_stk (show ([.ref (D 0), I (u1_1), I (4), .ref (D203 2), .ref (D203 0)] : List Value) = [.ref (D203 0), I (u1_1), I (4), .ref (D203 2), .ref (D203 0)] by rw [show D203 0 = D 0 from ((show D203 0 = D 0 from (eD203 0)))]) ?_
        refine v_g H (o := 0) (v := .ref (D203 203)) rfl rfl rfl rfl rfl (vrf (pf203_0_15)) ?_
        exact hc236 (4) (u1_1) _ _ _ _ _ _ _ _  ((hl0).trans (congrArg (fun q : Nat => some (Value.ref q)) (((show D203 0 = D 0 from (eD203 0)))).symm)) (hl1) (hl3) ((hl4).trans (congrArg (fun q : Nat => some (Value.ref q)) (((show D203 1 = D 1 from (eD203 1).trans (hD203 2 rfl)))).symm)) H O (SD_trans (SD_refl) (SD_glu (ι := [8, 2, 1, 5, 3, 4, 6, 7, 9, 10, 11, 12, 13, 14, 15, 16, 17, 18, 19, 20, 21, 22, 23, 24, 25, 26, 27, 28, 29, 30, 31, 32, 33, 34, 35, 36, 37, 38, 39, 40, 41, 42, 43, 44, 45, 46, 47, 48, 49, 50, 51, 52, 53, 54, 55, 56, 57, 58, 59, 60, 61, 62, 63, 64, 65, 66, 67, 68, 69, 70, 71, 72, 73, 74, 75, 76, 77, 78, 79, 80, 81, 82, 83, 84, 85, 86, 87, 88, 89, 90, 91, 92, 93, 94, 95, 96, 97, 98, 99, 100, 101, 102, 103, 104, 105, 106, 107, 108, 109, 110, 111, 112, 113, 114, 115, 116, 117, 118, 119, 120, 121, 122, 123, 124, 125, 126, 127, 128, 129, 130, 131, 132, 133, 134, 135, 136, 137, 138, 139, 140, 141, 142, 143, 144, 145, 146, 147, 148, 149, 150, 151, 152, 153, 154, 155, 156, 157, 158, 159, 160, 161, 162, 163, 164, 165, 166, 167, 168, 169, 170, 171, 172, 173, 174, 175, 176, 177, 178, 179, 180, 181, 182, 183, 184, 185, 186, 187, 188, 189, 190, 191, 192, 193, 194, 195, 196, 197, 198, 199, 200, 201, 202]) hD203 eD203 (by decide +kernel)) (any_subA (l' := [3, 12, 13, 14, 15, 16, 17, 19, 21, 23, 38, 39, 40, 41, 42, 65, 67, 87, 89]) rfl)) (SD_trans (SD_refl) (SD_glu (ι := [8, 2, 1, 5, 3, 4, 6, 7, 9, 10, 11, 12, 13, 14, 15, 16, 17, 18, 19, 20, 21, 22, 23, 24, 25, 26, 27, 28, 29, 30, 31, 32, 33, 34, 35, 36, 37, 38, 39, 40, 41, 42, 43, 44, 45, 46, 47, 48, 49, 50, 51, 52, 53, 54, 55, 56, 57, 58, 59, 60, 61, 62, 63, 64, 65, 66, 67, 68, 69, 70, 71, 72, 73, 74, 75, 76, 77, 78, 79, 80, 81, 82, 83, 84, 85, 86, 87, 88, 89, 90, 91, 92, 93, 94, 95, 96, 97, 98, 99, 100, 101, 102, 103, 104, 105, 106, 107, 108, 109, 110, 111, 112, 113, 114, 115, 116, 117, 118, 119, 120, 121, 122, 123, 124, 125, 126, 127, 128, 129, 130, 131, 132, 133, 134, 135, 136, 137, 138, 139, 140, 141, 142, 143, 144, 145, 146, 147, 148, 149, 150, 151, 152, 153, 154, 155, 156, 157, 158, 159, 160, 161, 162, 163, 164, 165, 166, 167, 168, 169, 170, 171, 172, 173, 174, 175, 176, 177, 178, 179, 180, 181, 182, 183, 184, 185, 186, 187, 188, 189, 190, 191, 192, 193, 194, 195, 196, 197, 198, 199, 200, 201, 202]) hN203 eN203 (by decide +kernel)) (any_subA (l' := [3, 12, 13, 14, 15, 16, 17, 19, 21, 23, 38, 39, 40, 41, 42, 65, 67, 87, 89]) rfl)) (SF_trans (SF_refl) (SF_glu (ι := [8, 2, 1, 5, 3, 4, 6, 7, 9, 10, 11, 12, 13, 14, 15, 16, 17, 18, 19, 20, 21, 22, 23, 24, 25, 26, 27, 28, 29, 30, 31, 32, 33, 34, 35, 36, 37, 38, 39, 40, 41, 42, 43, 44, 45, 46, 47, 48, 49, 50, 51, 52, 53, 54, 55, 56, 57, 58, 59, 60, 61, 62, 63, 64, 65, 66, 67, 68, 69, 70, 71, 72, 73, 74, 75, 76, 77, 78, 79, 80, 81, 82, 83, 84, 85, 86, 87, 88, 89, 90, 91, 92, 93, 94, 95, 96, 97, 98, 99, 100, 101, 102, 103, 104, 105, 106, 107, 108, 109, 110, 111, 112, 113, 114, 115, 116, 117, 118, 119, 120, 121, 122, 123, 124, 125, 126, 127, 128, 129, 130, 131, 132, 133, 134, 135, 136, 137, 138, 139, 140, 141, 142, 143, 144, 145, 146, 147, 148, 149, 150, 151, 152, 153, 154, 155, 156, 157, 158, 159, 160, 161, 162, 163, 164, 165, 166, 167, 168, 169, 170, 171, 172, 173, 174, 175, 176, 177, 178, 179, 180, 181, 182, 183, 184, 185, 186, 187, 188, 189, 190, 191, 192, 193, 194, 195, 196, 197, 198, 199, 200, 201, 202]) hS203 eF203 (by decide +kernel)) (any_sub (l' := [(2, 0), (2, 1), (2, 2), (8, 13), (8, 14), (8, 15), (8, 16), (10, 1), (10, 2), (10, 3), (10, 4), (10, 5), (10, 6), (10, 7), (10, 8), (10, 9), (10, 10), (10, 11), (10, 12), (10, 13), (10, 14), (10, 15), (10, 16), (10, 17), (10, 18), (11, 0), (11, 1), (11, 2), (11, 3), (11, 4), (18, 0), (18, 1), (18, 2), (18, 3), (18, 4), (20, 0), (20, 1), (20, 2), (20, 3), (20, 4), (22, 0), (22, 1), (22, 2), (22, 3), (22, 4), (29, 0), (32, 0), (46, 3), (46, 13), (46, 14), (46, 15), (46, 16), (55, 0), (64, 0), (64, 1), (64, 2), (64, 3), (64, 4), (66, 0), (66, 1), (66, 2), (66, 3), (66, 4), (68, 3), (68, 13), (68, 14), (68, 15), (68, 16), (77, 0), (86, 0), (86, 1), (86, 2), (86, 3), (86, 4), (88, 0), (88, 1), (88, 2), (88, 3), (88, 4), (102, 0), (111, 0), (139, 0), (148, 0), (175, 0), (184, 0)]) rfl)) (SA_trans (SA_refl) (SA_glu (ι := [8, 2, 1, 5, 3, 4, 6, 7, 9, 10, 11, 12, 13, 14, 15, 16, 17, 18, 19, 20, 21, 22, 23, 24, 25, 26, 27, 28, 29, 30, 31, 32, 33, 34, 35, 36, 37, 38, 39, 40, 41, 42, 43, 44, 45, 46, 47, 48, 49, 50, 51, 52, 53, 54, 55, 56, 57, 58, 59, 60, 61, 62, 63, 64, 65, 66, 67, 68, 69, 70, 71, 72, 73, 74, 75, 76, 77, 78, 79, 80, 81, 82, 83, 84, 85, 86, 87, 88, 89, 90, 91, 92, 93, 94, 95, 96, 97, 98, 99, 100, 101, 102, 103, 104, 105, 106, 107, 108, 109, 110, 111, 112, 113, 114, 115, 116, 117, 118, 119, 120, 121, 122, 123, 124, 125, 126, 127, 128, 129, 130, 131, 132, 133, 134, 135, 136, 137, 138, 139, 140, 141, 142, 143, 144, 145, 146, 147, 148, 149, 150, 151, 152, 153, 154, 155, 156, 157, 158, 159, 160, 161, 162, 163, 164, 165, 166, 167, 168, 169, 170, 171, 172, 173, 174, 175, 176, 177, 178, 179, 180, 181, 182, 183, 184, 185, 186, 187, 188, 189, 190, 191, 192, 193, 194, 195, 196, 197, 198, 199, 200, 201, 202]) hA203 eA203 (by decide +kernel)) (any_subA (l' := [3, 12, 13, 14, 15, 16, 17, 19, 21, 23, 24, 25, 26, 27, 30, 31, 33, 34, 38, 39, 40, 41, 42, 47, 48, 49, 50, 51, 52, 53, 54, 56, 57, 58, 59, 60, 61, 62, 63, 65, 67, 69, 70, 71, 72, 73, 74, 75, 76, 78, 79, 80, 81, 82, 83, 84, 85, 87, 89, 103, 104, 105, 106, 107, 108, 109, 110, 112, 113, 114, 115, 116, 117, 118, 119, 140, 141, 142, 143, 144, 145, 146, 147, 149, 150, 151, 152, 153, 154, 155, 156, 176, 177, 178, 179, 180, 181, 182, 183, 185, 186, 187, 188, 189, 190, 191, 192]) rfl)) (pf203_2_0) (pf203_11_0) (pf203_10_7) (pf203_10_8) (pf203_10_1) (pf203_10_2) (pf203_10_3) (pf203_18_0) (pf203_20_0) (pf203_22_0) (pf203_8_13) (pe203_38_0) (pf203_8_14) (pe203_38_1) (pe203_38_2) (pf203_64_0) (pf203_66_0) (pf203_86_0) (pf203_88_0) (m203_4) ((congrArg (fun q : Nat => (q : Int)) (eN203 3)).trans em203_4) (m203_11) ((congrArg (fun q : Nat => (q : Int)) (eN203 12)).trans em203_11) (m203_12) ((congrArg (fun q : Nat => (q : Int)) (eN203 13)).trans em203_12) (m203_13) ((congrArg (fun q : Nat => (q : Int)) (eN203 14)).trans em203_13) (m203_14) ((congrArg (fun q : Nat => (q : Int)) (eN203 15)).trans em203_14) (m203_15) ((congrArg (fun q : Nat => (q : Int)) (eN203 16)).trans em203_15) (m203_16) ((congrArg (fun q : Nat => (q : Int)) (eN203 17)).trans em203_16) (m203_18) ((congrArg (fun q : Nat => (q : Int)) (eN203 19)).trans em203_18) (m203_20) ((congrArg (fun q : Nat => (q : Int)) (eN203 21)).trans em203_20) (m203_22) ((congrArg (fun q : Nat => (q : Int)) (eN203 23)).trans em203_22) (m203_37) ((congrArg (fun q : Nat => (q : Int)) (eN203 38)).trans em203_37) (m203_38) ((congrArg (fun q : Nat => (q : Int)) (eN203 39)).trans em203_38) (m203_39) ((congrArg (fun q : Nat => (q : Int)) (eN203 40)).trans em203_39) (m203_40) ((congrArg (fun q : Nat => (q : Int)) (eN203 41)).trans em203_40) (m203_41) ((congrArg (fun q : Nat => (q : Int)) (eN203 42)).trans em203_41) (m203_64) ((congrArg (fun q : Nat => (q : Int)) (eN203 65)).trans em203_64) (m203_66) ((congrArg (fun q : Nat => (q : Int)) (eN203 67)).trans em203_66) (m203_86) ((congrArg (fun q : Nat => (q : Int)) (eN203 87)).trans em203_86) (m203_88) ((congrArg (fun q : Nat => (q : Int)) (eN203 89)).trans em203_88) (y203_1_1) (((eF203 2 1).trans ey203_1_1)) (y203_1_2) (((eF203 2 2).trans ey203_1_2)) (y203_10_1) (((eF203 11 1).trans ey203_10_1)) (y203_17_1) (((eF203 18 1).trans ey203_17_1)) (y203_19_1) (((eF203 20 1).trans ey203_19_1)) (y203_21_1) (((eF203 22 1).trans ey203_21_1)) (y203_63_1) (((eF203 64 1).trans ey203_63_1)) (y203_65_1) (((eF203 66 1).trans ey203_65_1)) (y203_85_1) (((eF203 86 1).trans ey203_85_1)) (y203_87_1) (((eF203 88 1).trans ey203_87_1)) (w203_4) ((eA203 3).trans ew203_4) (w203_25) ((eA203 26).trans ew203_25) (w203_26) ((eA203 27).trans ew203_26) (w203_48) ((eA203 49).trans ew203_48) (w203_70) ((eA203 71).trans ew203_70) (show inr (4) by omega) (show inr (u1_1) by have qh0 := HIDe r1; omega) (show 0 ≤ (y203_1_1) ∧ (y203_1_1) ≤ (m203_4) ∧ (m203_4) ≤ 65536 by have qh0 := HIDe r204; have qh1 := HIDe r228; omega) (show 0 ≤ (y203_10_1) ∧ (y203_10_1) ≤ (m203_11) ∧ (m203_11) ≤ 65536 by have qh0 := HIDe r205; have qh1 := HIDe r230; omega) (show (m203_12) = 0 ∨ (m203_12) = 2048 by have qh0 := HIDe r206; omega) (show (m203_13) ≤ 16384 by have qh0 := HIDe r207; omega) (show (m203_14) = (m203_15) ∧ (m203_16) = (m203_15) ∧ (m203_15) ≤ 65536 ∧ ((m203_15) = 0 ∨ 64 ≤ (m203_15)) ∧ lgq ((m203_15)) = 0 by have qh0 := HIDe r208; have qh1 := HIDe r209; have qh2 := HIDe r210; omega) (show 0 ≤ (y203_17_1) ∧ (y203_17_1) ≤ (m203_18) ∧ (m203_18) ≤ 65536 by have qh0 := HIDe r211; have qh1 := HIDe r231; omega) (show 0 ≤ (y203_19_1) ∧ (y203_19_1) ≤ (m203_20) ∧ (m203_20) ≤ 65536 by have qh0 := HIDe r212; have qh1 := HIDe r232; omega) (show 0 ≤ (y203_21_1) ∧ (y203_21_1) ≤ (m203_22) ∧ (m203_22) ≤ 65536 by have qh0 := HIDe r213; have qh1 := HIDe r233; omega) (show (m203_37) = 3 ∧ (m203_38) = (m203_39) ∧ (m203_40) = (m203_39) ∧ (m203_41) = (m203_39) ∧ lgq ((m203_39)) = 0 ∧ (m203_39) ≤ 16384 by have qh0 := HIDe r214; have qh1 := HIDe r215; have qh2 := HIDe r216; have qh3 := HIDe r217; have qh4 := HIDe r218; omega) (show 0 ≤ (y203_63_1) ∧ (y203_63_1) ≤ (m203_64) ∧ (m203_64) ≤ 65536 by have qh0 := HIDe r219; have qh1 := HIDe r234; omega) (show 0 ≤ (y203_65_1) ∧ (y203_65_1) ≤ (m203_66) ∧ (m203_66) ≤ 65536 by have qh0 := HIDe r220; have qh1 := HIDe r235; omega) (show CEL ((w203_48)) by assumption) (show 0 ≤ (y203_85_1) ∧ (y203_85_1) ≤ (m203_86) ∧ (m203_86) ≤ 65536 by have qh0 := HIDe r221; have qh1 := HIDe r236; omega) (show 0 ≤ (y203_87_1) ∧ (y203_87_1) ≤ (m203_88) ∧ (m203_88) ≤ 65536 by have qh0 := HIDe r222; have qh1 := HIDe r237; omega) (show CEL ((w203_70)) by assumption) (show 0 ≤ ((w203_26)) 0 ∧ ((w203_26)) 0 ≤ 3 ∧ 0 ≤ ((w203_26)) 1 ∧ ((w203_26)) 1 ≤ 3 ∧ 0 ≤ ((w203_26)) 2 ∧ ((w203_26)) 2 ≤ 3 by omega) (show (4) = 4 by omega) (show (u1_1) = (u1_1) by have qh0 := HIDe r1; omega) (show (y203_1_2) = 0 by have qh0 := HIDe r229; omega) (by assumption) (by assumption)
    · refine Ew_of (pc' := 215) (fun _ => x_iconst rfl) ?_
      have : WRY 4 ((w9)) (sc ((w4)) 0 ((u1_1))) [] Dc st0 (((-1))) (sc ((w203_4)) 0 ((y203_1_1))) := WRY_4 (WRC_4 (by have h := pz203_16; rw [show (u2_2) = 0 by (have qg0 := HIDe r1; have qg1 := HIDe r2; have qg2 := HIDe r228; have qg3 := HIDe r3; omega), show (u2_1) = 0 by (have qg0 := HIDe r1; have qg1 := HIDe r2; have qg2 := HIDe r228; have qg3 := HIDe r3; omega)] at h; unfold frD; rw [hD2, hD1]; exact h) (by (have qg0 := HIDe r1; have qg1 := HIDe r2; have qg2 := HIDe r228; have qg3 := HIDe r3; omega)) (by (have qg0 := HIDe r1; have qg1 := HIDe r2; have qg2 := HIDe r228; have qg3 := HIDe r3; omega)))
      exact w_ireturn rfl (k ((-1)) _ _ _ _ _ _ _ H O (SD_trans (SD_refl) (SD_glu (ι := [8, 2, 1, 5, 3, 4, 6, 7, 9, 10, 11, 12, 13, 14, 15, 16, 17, 18, 19, 20, 21, 22, 23, 24, 25, 26, 27, 28, 29, 30, 31, 32, 33, 34, 35, 36, 37, 38, 39, 40, 41, 42, 43, 44, 45, 46, 47, 48, 49, 50, 51, 52, 53, 54, 55, 56, 57, 58, 59, 60, 61, 62, 63, 64, 65, 66, 67, 68, 69, 70, 71, 72, 73, 74, 75, 76, 77, 78, 79, 80, 81, 82, 83, 84, 85, 86, 87, 88, 89, 90, 91, 92, 93, 94, 95, 96, 97, 98, 99, 100, 101, 102, 103, 104, 105, 106, 107, 108, 109, 110, 111, 112, 113, 114, 115, 116, 117, 118, 119, 120, 121, 122, 123, 124, 125, 126, 127, 128, 129, 130, 131, 132, 133, 134, 135, 136, 137, 138, 139, 140, 141, 142, 143, 144, 145, 146, 147, 148, 149, 150, 151, 152, 153, 154, 155, 156, 157, 158, 159, 160, 161, 162, 163, 164, 165, 166, 167, 168, 169, 170, 171, 172, 173, 174, 175, 176, 177, 178, 179, 180, 181, 182, 183, 184, 185, 186, 187, 188, 189, 190, 191, 192, 193, 194, 195, 196, 197, 198, 199, 200, 201, 202]) hD203 eD203 (by decide +kernel)) (any_subA (l' := [3, 12, 13, 14, 15, 16, 17, 19, 21, 23, 38, 39, 40, 41, 42, 65, 67, 87, 89]) rfl)) (SD_trans (SD_refl) (SD_glu (ι := [8, 2, 1, 5, 3, 4, 6, 7, 9, 10, 11, 12, 13, 14, 15, 16, 17, 18, 19, 20, 21, 22, 23, 24, 25, 26, 27, 28, 29, 30, 31, 32, 33, 34, 35, 36, 37, 38, 39, 40, 41, 42, 43, 44, 45, 46, 47, 48, 49, 50, 51, 52, 53, 54, 55, 56, 57, 58, 59, 60, 61, 62, 63, 64, 65, 66, 67, 68, 69, 70, 71, 72, 73, 74, 75, 76, 77, 78, 79, 80, 81, 82, 83, 84, 85, 86, 87, 88, 89, 90, 91, 92, 93, 94, 95, 96, 97, 98, 99, 100, 101, 102, 103, 104, 105, 106, 107, 108, 109, 110, 111, 112, 113, 114, 115, 116, 117, 118, 119, 120, 121, 122, 123, 124, 125, 126, 127, 128, 129, 130, 131, 132, 133, 134, 135, 136, 137, 138, 139, 140, 141, 142, 143, 144, 145, 146, 147, 148, 149, 150, 151, 152, 153, 154, 155, 156, 157, 158, 159, 160, 161, 162, 163, 164, 165, 166, 167, 168, 169, 170, 171, 172, 173, 174, 175, 176, 177, 178, 179, 180, 181, 182, 183, 184, 185, 186, 187, 188, 189, 190, 191, 192, 193, 194, 195, 196, 197, 198, 199, 200, 201, 202]) hN203 eN203 (by decide +kernel)) (any_subA (l' := [3, 12, 13, 14, 15, 16, 17, 19, 21, 23, 38, 39, 40, 41, 42, 65, 67, 87, 89]) rfl)) (SF_trans (SF_refl) (SF_glu (ι := [8, 2, 1, 5, 3, 4, 6, 7, 9, 10, 11, 12, 13, 14, 15, 16, 17, 18, 19, 20, 21, 22, 23, 24, 25, 26, 27, 28, 29, 30, 31, 32, 33, 34, 35, 36, 37, 38, 39, 40, 41, 42, 43, 44, 45, 46, 47, 48, 49, 50, 51, 52, 53, 54, 55, 56, 57, 58, 59, 60, 61, 62, 63, 64, 65, 66, 67, 68, 69, 70, 71, 72, 73, 74, 75, 76, 77, 78, 79, 80, 81, 82, 83, 84, 85, 86, 87, 88, 89, 90, 91, 92, 93, 94, 95, 96, 97, 98, 99, 100, 101, 102, 103, 104, 105, 106, 107, 108, 109, 110, 111, 112, 113, 114, 115, 116, 117, 118, 119, 120, 121, 122, 123, 124, 125, 126, 127, 128, 129, 130, 131, 132, 133, 134, 135, 136, 137, 138, 139, 140, 141, 142, 143, 144, 145, 146, 147, 148, 149, 150, 151, 152, 153, 154, 155, 156, 157, 158, 159, 160, 161, 162, 163, 164, 165, 166, 167, 168, 169, 170, 171, 172, 173, 174, 175, 176, 177, 178, 179, 180, 181, 182, 183, 184, 185, 186, 187, 188, 189, 190, 191, 192, 193, 194, 195, 196, 197, 198, 199, 200, 201, 202]) hS203 eF203 (by decide +kernel)) (any_sub (l' := [(2, 0), (2, 1), (2, 2), (8, 13), (8, 14), (8, 15), (8, 16), (10, 1), (10, 2), (10, 3), (10, 4), (10, 5), (10, 6), (10, 7), (10, 8), (10, 9), (10, 10), (10, 11), (10, 12), (10, 13), (10, 14), (10, 15), (10, 16), (10, 17), (10, 18), (11, 0), (11, 1), (11, 2), (11, 3), (11, 4), (18, 0), (18, 1), (18, 2), (18, 3), (18, 4), (20, 0), (20, 1), (20, 2), (20, 3), (20, 4), (22, 0), (22, 1), (22, 2), (22, 3), (22, 4), (29, 0), (32, 0), (46, 3), (46, 13), (46, 14), (46, 15), (46, 16), (55, 0), (64, 0), (64, 1), (64, 2), (64, 3), (64, 4), (66, 0), (66, 1), (66, 2), (66, 3), (66, 4), (68, 3), (68, 13), (68, 14), (68, 15), (68, 16), (77, 0), (86, 0), (86, 1), (86, 2), (86, 3), (86, 4), (88, 0), (88, 1), (88, 2), (88, 3), (88, 4), (102, 0), (111, 0), (139, 0), (148, 0), (175, 0), (184, 0)]) rfl)) (SA_trans (SA_refl) (SA_glu (ι := [8, 2, 1, 5, 3, 4, 6, 7, 9, 10, 11, 12, 13, 14, 15, 16, 17, 18, 19, 20, 21, 22, 23, 24, 25, 26, 27, 28, 29, 30, 31, 32, 33, 34, 35, 36, 37, 38, 39, 40, 41, 42, 43, 44, 45, 46, 47, 48, 49, 50, 51, 52, 53, 54, 55, 56, 57, 58, 59, 60, 61, 62, 63, 64, 65, 66, 67, 68, 69, 70, 71, 72, 73, 74, 75, 76, 77, 78, 79, 80, 81, 82, 83, 84, 85, 86, 87, 88, 89, 90, 91, 92, 93, 94, 95, 96, 97, 98, 99, 100, 101, 102, 103, 104, 105, 106, 107, 108, 109, 110, 111, 112, 113, 114, 115, 116, 117, 118, 119, 120, 121, 122, 123, 124, 125, 126, 127, 128, 129, 130, 131, 132, 133, 134, 135, 136, 137, 138, 139, 140, 141, 142, 143, 144, 145, 146, 147, 148, 149, 150, 151, 152, 153, 154, 155, 156, 157, 158, 159, 160, 161, 162, 163, 164, 165, 166, 167, 168, 169, 170, 171, 172, 173, 174, 175, 176, 177, 178, 179, 180, 181, 182, 183, 184, 185, 186, 187, 188, 189, 190, 191, 192, 193, 194, 195, 196, 197, 198, 199, 200, 201, 202]) hA203 eA203 (by decide +kernel)) (any_subA (l' := [3, 12, 13, 14, 15, 16, 17, 19, 21, 23, 24, 25, 26, 27, 30, 31, 33, 34, 38, 39, 40, 41, 42, 47, 48, 49, 50, 51, 52, 53, 54, 56, 57, 58, 59, 60, 61, 62, 63, 65, 67, 69, 70, 71, 72, 73, 74, 75, 76, 78, 79, 80, 81, 82, 83, 84, 85, 87, 89, 103, 104, 105, 106, 107, 108, 109, 110, 112, 113, 114, 115, 116, 117, 118, 119, 140, 141, 142, 143, 144, 145, 146, 147, 149, 150, 151, 152, 153, 154, 155, 156, 176, 177, 178, 179, 180, 181, 182, 183, 185, 186, 187, 188, 189, 190, 191, 192]) rfl)) (pf203_2_0) (pf203_11_0) (pf203_10_7) (pf203_10_8) (pf203_10_1) (pf203_10_2) (pf203_10_3) (pf203_18_0) (pf203_20_0) (pf203_22_0) (pf203_8_13) (pe203_38_0) (pf203_8_14) (pe203_38_1) (pe203_38_2) (pf203_64_0) (pf203_66_0) (pf203_86_0) (pf203_88_0) (m203_4) ((congrArg (fun q : Nat => (q : Int)) (eN203 3)).trans em203_4) (m203_11) ((congrArg (fun q : Nat => (q : Int)) (eN203 12)).trans em203_11) (m203_12) ((congrArg (fun q : Nat => (q : Int)) (eN203 13)).trans em203_12) (m203_13) ((congrArg (fun q : Nat => (q : Int)) (eN203 14)).trans em203_13) (m203_14) ((congrArg (fun q : Nat => (q : Int)) (eN203 15)).trans em203_14) (m203_15) ((congrArg (fun q : Nat => (q : Int)) (eN203 16)).trans em203_15) (m203_16) ((congrArg (fun q : Nat => (q : Int)) (eN203 17)).trans em203_16) (m203_18) ((congrArg (fun q : Nat => (q : Int)) (eN203 19)).trans em203_18) (m203_20) ((congrArg (fun q : Nat => (q : Int)) (eN203 21)).trans em203_20) (m203_22) ((congrArg (fun q : Nat => (q : Int)) (eN203 23)).trans em203_22) (m203_37) ((congrArg (fun q : Nat => (q : Int)) (eN203 38)).trans em203_37) (m203_38) ((congrArg (fun q : Nat => (q : Int)) (eN203 39)).trans em203_38) (m203_39) ((congrArg (fun q : Nat => (q : Int)) (eN203 40)).trans em203_39) (m203_40) ((congrArg (fun q : Nat => (q : Int)) (eN203 41)).trans em203_40) (m203_41) ((congrArg (fun q : Nat => (q : Int)) (eN203 42)).trans em203_41) (m203_64) ((congrArg (fun q : Nat => (q : Int)) (eN203 65)).trans em203_64) (m203_66) ((congrArg (fun q : Nat => (q : Int)) (eN203 67)).trans em203_66) (m203_86) ((congrArg (fun q : Nat => (q : Int)) (eN203 87)).trans em203_86) (m203_88) ((congrArg (fun q : Nat => (q : Int)) (eN203 89)).trans em203_88) (y203_1_1) (((eF203 2 1).trans ey203_1_1)) (y203_10_1) (((eF203 11 1).trans ey203_10_1)) (y203_17_1) (((eF203 18 1).trans ey203_17_1)) (y203_19_1) (((eF203 20 1).trans ey203_19_1)) (y203_21_1) (((eF203 22 1).trans ey203_21_1)) (y203_63_1) (((eF203 64 1).trans ey203_63_1)) (y203_65_1) (((eF203 66 1).trans ey203_65_1)) (y203_85_1) (((eF203 86 1).trans ey203_85_1)) (y203_87_1) (((eF203 88 1).trans ey203_87_1)) (w203_4) ((eA203 3).trans ew203_4) (w203_26) ((eA203 27).trans ew203_26) (w203_48) ((eA203 49).trans ew203_48) (w203_70) ((eA203 71).trans ew203_70) (show inr ((-1)) by omega) (show 0 ≤ (y203_1_1) ∧ (y203_1_1) ≤ (m203_4) ∧ (m203_4) ≤ 65536 by have qh0 := HIDe r204; have qh1 := HIDe r228; omega) (show 0 ≤ (y203_10_1) ∧ (y203_10_1) ≤ (m203_11) ∧ (m203_11) ≤ 65536 by have qh0 := HIDe r205; have qh1 := HIDe r230; omega) (show (m203_12) = 0 ∨ (m203_12) = 2048 by have qh0 := HIDe r206; omega) (show (m203_13) ≤ 16384 by have qh0 := HIDe r207; omega) (show (m203_14) = (m203_15) ∧ (m203_16) = (m203_15) ∧ (m203_15) ≤ 65536 ∧ ((m203_15) = 0 ∨ 64 ≤ (m203_15)) ∧ lgq ((m203_15)) = 0 by have qh0 := HIDe r208; have qh1 := HIDe r209; have qh2 := HIDe r210; omega) (show 0 ≤ (y203_17_1) ∧ (y203_17_1) ≤ (m203_18) ∧ (m203_18) ≤ 65536 by have qh0 := HIDe r211; have qh1 := HIDe r231; omega) (show 0 ≤ (y203_19_1) ∧ (y203_19_1) ≤ (m203_20) ∧ (m203_20) ≤ 65536 by have qh0 := HIDe r212; have qh1 := HIDe r232; omega) (show 0 ≤ (y203_21_1) ∧ (y203_21_1) ≤ (m203_22) ∧ (m203_22) ≤ 65536 by have qh0 := HIDe r213; have qh1 := HIDe r233; omega) (show (m203_37) = 3 ∧ (m203_38) = (m203_39) ∧ (m203_40) = (m203_39) ∧ (m203_41) = (m203_39) ∧ lgq ((m203_39)) = 0 ∧ (m203_39) ≤ 16384 by have qh0 := HIDe r214; have qh1 := HIDe r215; have qh2 := HIDe r216; have qh3 := HIDe r217; have qh4 := HIDe r218; omega) (show 0 ≤ (y203_63_1) ∧ (y203_63_1) ≤ (m203_64) ∧ (m203_64) ≤ 65536 by have qh0 := HIDe r219; have qh1 := HIDe r234; omega) (show 0 ≤ (y203_65_1) ∧ (y203_65_1) ≤ (m203_66) ∧ (m203_66) ≤ 65536 by have qh0 := HIDe r220; have qh1 := HIDe r235; omega) (show CEL ((w203_48)) by assumption) (show 0 ≤ (y203_85_1) ∧ (y203_85_1) ≤ (m203_86) ∧ (m203_86) ≤ 65536 by have qh0 := HIDe r221; have qh1 := HIDe r236; omega) (show 0 ≤ (y203_87_1) ∧ (y203_87_1) ≤ (m203_88) ∧ (m203_88) ≤ 65536 by have qh0 := HIDe r222; have qh1 := HIDe r237; omega) (show CEL ((w203_70)) by assumption) (show 0 ≤ ((w203_26)) 0 ∧ ((w203_26)) 0 ≤ 3 ∧ 0 ≤ ((w203_26)) 1 ∧ ((w203_26)) 1 ≤ 3 ∧ 0 ≤ ((w203_26)) 2 ∧ ((w203_26)) 2 ≤ 3 by omega) (show ((-1)) = -1 by omega) (by assumption))
