set_option maxHeartbeats 4000000 in
set_option maxRecDepth 100000 in
theorem cov8 (xs : Nat → Int32) (h0 : (rop 3 (xs 0) (31 : Int32)) = (8 : Int32)) : rOk 6 xs := by
  by_cases t1_0 : (xs 1) = (0 : Int32)
  · cases b2 : rcmp 2 (xs 2) (0 : Int32) with
    | true =>
      exact rOk_of rr230 (show ((rop 3 (xs 0) (31 : Int32)) = (8 : Int32)) ∧ ((xs 1) = (0 : Int32)) ∧ (rcmp 2 (xs 2) (0 : Int32) = true) ∧ ((xs 1) = (0 : Int32)) ∧ (rcmp 2 (xs 2) (0 : Int32) = true) ∧ True from ⟨h0, t1_0, b2, t1_0, b2, trivial⟩)
    | false =>
      cases b3 : rcmp 4 (xs 2) (3 : Int32) with
      | true =>
        exact rOk_of rr229 (show ((rop 3 (xs 0) (31 : Int32)) = (8 : Int32)) ∧ ((xs 1) = (0 : Int32)) ∧ (rcmp 2 (xs 2) (0 : Int32) = false) ∧ (rcmp 4 (xs 2) (3 : Int32) = true) ∧ ((xs 1) = (0 : Int32)) ∧ (rcmp 2 (xs 2) (0 : Int32) = false) ∧ (rcmp 4 (xs 2) (3 : Int32) = true) ∧ True from ⟨h0, t1_0, b2, b3, t1_0, b2, b3, trivial⟩)
      | false =>
        exact rOk_of rr228 (show ((rop 3 (xs 0) (31 : Int32)) = (8 : Int32)) ∧ ((xs 1) = (0 : Int32)) ∧ (rcmp 2 (xs 2) (0 : Int32) = false) ∧ (rcmp 4 (xs 2) (3 : Int32) = false) ∧ ((xs 1) = (0 : Int32)) ∧ (rcmp 2 (xs 2) (0 : Int32) = false) ∧ (rcmp 4 (xs 2) (3 : Int32) = false) ∧ True from ⟨h0, t1_0, b2, b3, t1_0, b2, b3, trivial⟩)
  by_cases t1_1 : (xs 1) = (1 : Int32)
  · cases b2 : rcmp 2 (xs 2) (3 : Int32) with
    | true =>
      exact rOk_of rr233 (show ((rop 3 (xs 0) (31 : Int32)) = (8 : Int32)) ∧ ((xs 1) = (1 : Int32)) ∧ (rcmp 2 (xs 2) (3 : Int32) = true) ∧ ((xs 1) = (1 : Int32)) ∧ (rcmp 2 (xs 2) (3 : Int32) = true) ∧ True from ⟨h0, t1_1, b2, t1_1, b2, trivial⟩)
    | false =>
      cases b3 : rcmp 4 (xs 2) (8 : Int32) with
      | true =>
        exact rOk_of rr232 (show ((rop 3 (xs 0) (31 : Int32)) = (8 : Int32)) ∧ ((xs 1) = (1 : Int32)) ∧ (rcmp 2 (xs 2) (3 : Int32) = false) ∧ (rcmp 4 (xs 2) (8 : Int32) = true) ∧ ((xs 1) = (1 : Int32)) ∧ (rcmp 2 (xs 2) (3 : Int32) = false) ∧ (rcmp 4 (xs 2) (8 : Int32) = true) ∧ True from ⟨h0, t1_1, b2, b3, t1_1, b2, b3, trivial⟩)
      | false =>
        exact rOk_of rr231 (show ((rop 3 (xs 0) (31 : Int32)) = (8 : Int32)) ∧ ((xs 1) = (1 : Int32)) ∧ (rcmp 2 (xs 2) (3 : Int32) = false) ∧ (rcmp 4 (xs 2) (8 : Int32) = false) ∧ ((xs 1) = (1 : Int32)) ∧ (rcmp 2 (xs 2) (3 : Int32) = false) ∧ (rcmp 4 (xs 2) (8 : Int32) = false) ∧ True from ⟨h0, t1_1, b2, b3, t1_1, b2, b3, trivial⟩)
  by_cases t1_2 : (xs 1) = (2 : Int32)
  · cases b2 : rcmp 2 (xs 2) (1 : Int32) with
    | true =>
      exact rOk_of rr236 (show ((rop 3 (xs 0) (31 : Int32)) = (8 : Int32)) ∧ ((xs 1) = (2 : Int32)) ∧ (rcmp 2 (xs 2) (1 : Int32) = true) ∧ ((xs 1) = (2 : Int32)) ∧ (rcmp 2 (xs 2) (1 : Int32) = true) ∧ True from ⟨h0, t1_2, b2, t1_2, b2, trivial⟩)
    | false =>
      cases b3 : rcmp 4 (xs 2) (65536 : Int32) with
      | true =>
        exact rOk_of rr235 (show ((rop 3 (xs 0) (31 : Int32)) = (8 : Int32)) ∧ ((xs 1) = (2 : Int32)) ∧ (rcmp 2 (xs 2) (1 : Int32) = false) ∧ (rcmp 4 (xs 2) (65536 : Int32) = true) ∧ ((xs 1) = (2 : Int32)) ∧ (rcmp 2 (xs 2) (1 : Int32) = false) ∧ (rcmp 4 (xs 2) (65536 : Int32) = true) ∧ True from ⟨h0, t1_2, b2, b3, t1_2, b2, b3, trivial⟩)
      | false =>
        exact rOk_of rr234 (show ((rop 3 (xs 0) (31 : Int32)) = (8 : Int32)) ∧ ((xs 1) = (2 : Int32)) ∧ (rcmp 2 (xs 2) (1 : Int32) = false) ∧ (rcmp 4 (xs 2) (65536 : Int32) = false) ∧ ((xs 1) = (2 : Int32)) ∧ (rcmp 2 (xs 2) (1 : Int32) = false) ∧ (rcmp 4 (xs 2) (65536 : Int32) = false) ∧ True from ⟨h0, t1_2, b2, b3, t1_2, b2, b3, trivial⟩)
  by_cases t1_3 : (xs 1) = (3 : Int32)
  · by_cases t2_64 : (xs 2) = (64 : Int32)
    · exact rOk_of rr239 (show ((rop 3 (xs 0) (31 : Int32)) = (8 : Int32)) ∧ ((xs 1) = (3 : Int32)) ∧ ((xs 2) = (64 : Int32)) ∧ ((xs 1) = (3 : Int32)) ∧ ((xs 2) = (64 : Int32)) ∧ True from ⟨h0, t1_3, t2_64, t1_3, t2_64, trivial⟩)
    by_cases t2_65 : (xs 2) = (65 : Int32)
    · exact rOk_of rr240 (show ((rop 3 (xs 0) (31 : Int32)) = (8 : Int32)) ∧ ((xs 1) = (3 : Int32)) ∧ ((xs 2) = (65 : Int32)) ∧ ((xs 1) = (3 : Int32)) ∧ ((xs 2) = (65 : Int32)) ∧ True from ⟨h0, t1_3, t2_65, t1_3, t2_65, trivial⟩)
    by_cases t2_66 : (xs 2) = (66 : Int32)
    · exact rOk_of rr241 (show ((rop 3 (xs 0) (31 : Int32)) = (8 : Int32)) ∧ ((xs 1) = (3 : Int32)) ∧ ((xs 2) = (66 : Int32)) ∧ ((xs 1) = (3 : Int32)) ∧ ((xs 2) = (66 : Int32)) ∧ True from ⟨h0, t1_3, t2_66, t1_3, t2_66, trivial⟩)
    by_cases t2_67 : (xs 2) = (67 : Int32)
    · exact rOk_of rr242 (show ((rop 3 (xs 0) (31 : Int32)) = (8 : Int32)) ∧ ((xs 1) = (3 : Int32)) ∧ ((xs 2) = (67 : Int32)) ∧ ((xs 1) = (3 : Int32)) ∧ ((xs 2) = (67 : Int32)) ∧ True from ⟨h0, t1_3, t2_67, t1_3, t2_67, trivial⟩)
    by_cases t2_68 : (xs 2) = (68 : Int32)
    · exact rOk_of rr243 (show ((rop 3 (xs 0) (31 : Int32)) = (8 : Int32)) ∧ ((xs 1) = (3 : Int32)) ∧ ((xs 2) = (68 : Int32)) ∧ ((xs 1) = (3 : Int32)) ∧ ((xs 2) = (68 : Int32)) ∧ True from ⟨h0, t1_3, t2_68, t1_3, t2_68, trivial⟩)
    by_cases t2_69 : (xs 2) = (69 : Int32)
    · exact rOk_of rr244 (show ((rop 3 (xs 0) (31 : Int32)) = (8 : Int32)) ∧ ((xs 1) = (3 : Int32)) ∧ ((xs 2) = (69 : Int32)) ∧ ((xs 1) = (3 : Int32)) ∧ ((xs 2) = (69 : Int32)) ∧ True from ⟨h0, t1_3, t2_69, t1_3, t2_69, trivial⟩)
    by_cases t2_70 : (xs 2) = (70 : Int32)
    · exact rOk_of rr245 (show ((rop 3 (xs 0) (31 : Int32)) = (8 : Int32)) ∧ ((xs 1) = (3 : Int32)) ∧ ((xs 2) = (70 : Int32)) ∧ ((xs 1) = (3 : Int32)) ∧ ((xs 2) = (70 : Int32)) ∧ True from ⟨h0, t1_3, t2_70, t1_3, t2_70, trivial⟩)
    by_cases t2_71 : (xs 2) = (71 : Int32)
    · exact rOk_of rr246 (show ((rop 3 (xs 0) (31 : Int32)) = (8 : Int32)) ∧ ((xs 1) = (3 : Int32)) ∧ ((xs 2) = (71 : Int32)) ∧ ((xs 1) = (3 : Int32)) ∧ ((xs 2) = (71 : Int32)) ∧ True from ⟨h0, t1_3, t2_71, t1_3, t2_71, trivial⟩)
    by_cases t2_72 : (xs 2) = (72 : Int32)
    · exact rOk_of rr247 (show ((rop 3 (xs 0) (31 : Int32)) = (8 : Int32)) ∧ ((xs 1) = (3 : Int32)) ∧ ((xs 2) = (72 : Int32)) ∧ ((xs 1) = (3 : Int32)) ∧ ((xs 2) = (72 : Int32)) ∧ True from ⟨h0, t1_3, t2_72, t1_3, t2_72, trivial⟩)
    by_cases t2_73 : (xs 2) = (73 : Int32)
    · exact rOk_of rr248 (show ((rop 3 (xs 0) (31 : Int32)) = (8 : Int32)) ∧ ((xs 1) = (3 : Int32)) ∧ ((xs 2) = (73 : Int32)) ∧ ((xs 1) = (3 : Int32)) ∧ ((xs 2) = (73 : Int32)) ∧ True from ⟨h0, t1_3, t2_73, t1_3, t2_73, trivial⟩)
    by_cases t2_74 : (xs 2) = (74 : Int32)
    · exact rOk_of rr249 (show ((rop 3 (xs 0) (31 : Int32)) = (8 : Int32)) ∧ ((xs 1) = (3 : Int32)) ∧ ((xs 2) = (74 : Int32)) ∧ ((xs 1) = (3 : Int32)) ∧ ((xs 2) = (74 : Int32)) ∧ True from ⟨h0, t1_3, t2_74, t1_3, t2_74, trivial⟩)
    by_cases t2_75 : (xs 2) = (75 : Int32)
    · exact rOk_of rr250 (show ((rop 3 (xs 0) (31 : Int32)) = (8 : Int32)) ∧ ((xs 1) = (3 : Int32)) ∧ ((xs 2) = (75 : Int32)) ∧ ((xs 1) = (3 : Int32)) ∧ ((xs 2) = (75 : Int32)) ∧ True from ⟨h0, t1_3, t2_75, t1_3, t2_75, trivial⟩)
    by_cases t2_76 : (xs 2) = (76 : Int32)
    · exact rOk_of rr251 (show ((rop 3 (xs 0) (31 : Int32)) = (8 : Int32)) ∧ ((xs 1) = (3 : Int32)) ∧ ((xs 2) = (76 : Int32)) ∧ ((xs 1) = (3 : Int32)) ∧ ((xs 2) = (76 : Int32)) ∧ True from ⟨h0, t1_3, t2_76, t1_3, t2_76, trivial⟩)
    by_cases t2_77 : (xs 2) = (77 : Int32)
    · exact rOk_of rr252 (show ((rop 3 (xs 0) (31 : Int32)) = (8 : Int32)) ∧ ((xs 1) = (3 : Int32)) ∧ ((xs 2) = (77 : Int32)) ∧ ((xs 1) = (3 : Int32)) ∧ ((xs 2) = (77 : Int32)) ∧ True from ⟨h0, t1_3, t2_77, t1_3, t2_77, trivial⟩)
    by_cases t2_78 : (xs 2) = (78 : Int32)
    · exact rOk_of rr253 (show ((rop 3 (xs 0) (31 : Int32)) = (8 : Int32)) ∧ ((xs 1) = (3 : Int32)) ∧ ((xs 2) = (78 : Int32)) ∧ ((xs 1) = (3 : Int32)) ∧ ((xs 2) = (78 : Int32)) ∧ True from ⟨h0, t1_3, t2_78, t1_3, t2_78, trivial⟩)
    by_cases t2_79 : (xs 2) = (79 : Int32)
    · exact rOk_of rr254 (show ((rop 3 (xs 0) (31 : Int32)) = (8 : Int32)) ∧ ((xs 1) = (3 : Int32)) ∧ ((xs 2) = (79 : Int32)) ∧ ((xs 1) = (3 : Int32)) ∧ ((xs 2) = (79 : Int32)) ∧ True from ⟨h0, t1_3, t2_79, t1_3, t2_79, trivial⟩)
    by_cases t2_80 : (xs 2) = (80 : Int32)
    · exact rOk_of rr255 (show ((rop 3 (xs 0) (31 : Int32)) = (8 : Int32)) ∧ ((xs 1) = (3 : Int32)) ∧ ((xs 2) = (80 : Int32)) ∧ ((xs 1) = (3 : Int32)) ∧ ((xs 2) = (80 : Int32)) ∧ True from ⟨h0, t1_3, t2_80, t1_3, t2_80, trivial⟩)
    by_cases t2_81 : (xs 2) = (81 : Int32)
    · exact rOk_of rr256 (show ((rop 3 (xs 0) (31 : Int32)) = (8 : Int32)) ∧ ((xs 1) = (3 : Int32)) ∧ ((xs 2) = (81 : Int32)) ∧ ((xs 1) = (3 : Int32)) ∧ ((xs 2) = (81 : Int32)) ∧ True from ⟨h0, t1_3, t2_81, t1_3, t2_81, trivial⟩)
    by_cases t2_82 : (xs 2) = (82 : Int32)
    · exact rOk_of rr257 (show ((rop 3 (xs 0) (31 : Int32)) = (8 : Int32)) ∧ ((xs 1) = (3 : Int32)) ∧ ((xs 2) = (82 : Int32)) ∧ ((xs 1) = (3 : Int32)) ∧ ((xs 2) = (82 : Int32)) ∧ True from ⟨h0, t1_3, t2_82, t1_3, t2_82, trivial⟩)
    by_cases t2_83 : (xs 2) = (83 : Int32)
    · exact rOk_of rr258 (show ((rop 3 (xs 0) (31 : Int32)) = (8 : Int32)) ∧ ((xs 1) = (3 : Int32)) ∧ ((xs 2) = (83 : Int32)) ∧ ((xs 1) = (3 : Int32)) ∧ ((xs 2) = (83 : Int32)) ∧ True from ⟨h0, t1_3, t2_83, t1_3, t2_83, trivial⟩)
    by_cases t2_84 : (xs 2) = (84 : Int32)
    · exact rOk_of rr259 (show ((rop 3 (xs 0) (31 : Int32)) = (8 : Int32)) ∧ ((xs 1) = (3 : Int32)) ∧ ((xs 2) = (84 : Int32)) ∧ ((xs 1) = (3 : Int32)) ∧ ((xs 2) = (84 : Int32)) ∧ True from ⟨h0, t1_3, t2_84, t1_3, t2_84, trivial⟩)
    by_cases t2_85 : (xs 2) = (85 : Int32)
    · exact rOk_of rr260 (show ((rop 3 (xs 0) (31 : Int32)) = (8 : Int32)) ∧ ((xs 1) = (3 : Int32)) ∧ ((xs 2) = (85 : Int32)) ∧ ((xs 1) = (3 : Int32)) ∧ ((xs 2) = (85 : Int32)) ∧ True from ⟨h0, t1_3, t2_85, t1_3, t2_85, trivial⟩)
    by_cases t2_86 : (xs 2) = (86 : Int32)
    · exact rOk_of rr261 (show ((rop 3 (xs 0) (31 : Int32)) = (8 : Int32)) ∧ ((xs 1) = (3 : Int32)) ∧ ((xs 2) = (86 : Int32)) ∧ ((xs 1) = (3 : Int32)) ∧ ((xs 2) = (86 : Int32)) ∧ True from ⟨h0, t1_3, t2_86, t1_3, t2_86, trivial⟩)
    by_cases t2_87 : (xs 2) = (87 : Int32)
    · exact rOk_of rr262 (show ((rop 3 (xs 0) (31 : Int32)) = (8 : Int32)) ∧ ((xs 1) = (3 : Int32)) ∧ ((xs 2) = (87 : Int32)) ∧ ((xs 1) = (3 : Int32)) ∧ ((xs 2) = (87 : Int32)) ∧ True from ⟨h0, t1_3, t2_87, t1_3, t2_87, trivial⟩)
    by_cases t2_88 : (xs 2) = (88 : Int32)
    · exact rOk_of rr263 (show ((rop 3 (xs 0) (31 : Int32)) = (8 : Int32)) ∧ ((xs 1) = (3 : Int32)) ∧ ((xs 2) = (88 : Int32)) ∧ ((xs 1) = (3 : Int32)) ∧ ((xs 2) = (88 : Int32)) ∧ True from ⟨h0, t1_3, t2_88, t1_3, t2_88, trivial⟩)
    by_cases t2_89 : (xs 2) = (89 : Int32)
    · exact rOk_of rr264 (show ((rop 3 (xs 0) (31 : Int32)) = (8 : Int32)) ∧ ((xs 1) = (3 : Int32)) ∧ ((xs 2) = (89 : Int32)) ∧ ((xs 1) = (3 : Int32)) ∧ ((xs 2) = (89 : Int32)) ∧ True from ⟨h0, t1_3, t2_89, t1_3, t2_89, trivial⟩)
    by_cases t2_90 : (xs 2) = (90 : Int32)
    · exact rOk_of rr265 (show ((rop 3 (xs 0) (31 : Int32)) = (8 : Int32)) ∧ ((xs 1) = (3 : Int32)) ∧ ((xs 2) = (90 : Int32)) ∧ ((xs 1) = (3 : Int32)) ∧ ((xs 2) = (90 : Int32)) ∧ True from ⟨h0, t1_3, t2_90, t1_3, t2_90, trivial⟩)
    by_cases t2_91 : (xs 2) = (91 : Int32)
    · exact rOk_of rr266 (show ((rop 3 (xs 0) (31 : Int32)) = (8 : Int32)) ∧ ((xs 1) = (3 : Int32)) ∧ ((xs 2) = (91 : Int32)) ∧ ((xs 1) = (3 : Int32)) ∧ ((xs 2) = (91 : Int32)) ∧ True from ⟨h0, t1_3, t2_91, t1_3, t2_91, trivial⟩)
    by_cases t2_92 : (xs 2) = (92 : Int32)
    · exact rOk_of rr267 (show ((rop 3 (xs 0) (31 : Int32)) = (8 : Int32)) ∧ ((xs 1) = (3 : Int32)) ∧ ((xs 2) = (92 : Int32)) ∧ ((xs 1) = (3 : Int32)) ∧ ((xs 2) = (92 : Int32)) ∧ True from ⟨h0, t1_3, t2_92, t1_3, t2_92, trivial⟩)
    by_cases t2_93 : (xs 2) = (93 : Int32)
    · exact rOk_of rr268 (show ((rop 3 (xs 0) (31 : Int32)) = (8 : Int32)) ∧ ((xs 1) = (3 : Int32)) ∧ ((xs 2) = (93 : Int32)) ∧ ((xs 1) = (3 : Int32)) ∧ ((xs 2) = (93 : Int32)) ∧ True from ⟨h0, t1_3, t2_93, t1_3, t2_93, trivial⟩)
    by_cases t2_94 : (xs 2) = (94 : Int32)
    · exact rOk_of rr269 (show ((rop 3 (xs 0) (31 : Int32)) = (8 : Int32)) ∧ ((xs 1) = (3 : Int32)) ∧ ((xs 2) = (94 : Int32)) ∧ ((xs 1) = (3 : Int32)) ∧ ((xs 2) = (94 : Int32)) ∧ True from ⟨h0, t1_3, t2_94, t1_3, t2_94, trivial⟩)
    by_cases t2_95 : (xs 2) = (95 : Int32)
    · exact rOk_of rr270 (show ((rop 3 (xs 0) (31 : Int32)) = (8 : Int32)) ∧ ((xs 1) = (3 : Int32)) ∧ ((xs 2) = (95 : Int32)) ∧ ((xs 1) = (3 : Int32)) ∧ ((xs 2) = (95 : Int32)) ∧ True from ⟨h0, t1_3, t2_95, t1_3, t2_95, trivial⟩)
    by_cases t2_96 : (xs 2) = (96 : Int32)
    · exact rOk_of rr271 (show ((rop 3 (xs 0) (31 : Int32)) = (8 : Int32)) ∧ ((xs 1) = (3 : Int32)) ∧ ((xs 2) = (96 : Int32)) ∧ ((xs 1) = (3 : Int32)) ∧ ((xs 2) = (96 : Int32)) ∧ True from ⟨h0, t1_3, t2_96, t1_3, t2_96, trivial⟩)
    by_cases t2_97 : (xs 2) = (97 : Int32)
    · exact rOk_of rr272 (show ((rop 3 (xs 0) (31 : Int32)) = (8 : Int32)) ∧ ((xs 1) = (3 : Int32)) ∧ ((xs 2) = (97 : Int32)) ∧ ((xs 1) = (3 : Int32)) ∧ ((xs 2) = (97 : Int32)) ∧ True from ⟨h0, t1_3, t2_97, t1_3, t2_97, trivial⟩)
    by_cases t2_98 : (xs 2) = (98 : Int32)
    · exact rOk_of rr273 (show ((rop 3 (xs 0) (31 : Int32)) = (8 : Int32)) ∧ ((xs 1) = (3 : Int32)) ∧ ((xs 2) = (98 : Int32)) ∧ ((xs 1) = (3 : Int32)) ∧ ((xs 2) = (98 : Int32)) ∧ True from ⟨h0, t1_3, t2_98, t1_3, t2_98, trivial⟩)
    by_cases t2_99 : (xs 2) = (99 : Int32)
    · exact rOk_of rr274 (show ((rop 3 (xs 0) (31 : Int32)) = (8 : Int32)) ∧ ((xs 1) = (3 : Int32)) ∧ ((xs 2) = (99 : Int32)) ∧ ((xs 1) = (3 : Int32)) ∧ ((xs 2) = (99 : Int32)) ∧ True from ⟨h0, t1_3, t2_99, t1_3, t2_99, trivial⟩)
    by_cases t2_100 : (xs 2) = (100 : Int32)
    · exact rOk_of rr275 (show ((rop 3 (xs 0) (31 : Int32)) = (8 : Int32)) ∧ ((xs 1) = (3 : Int32)) ∧ ((xs 2) = (100 : Int32)) ∧ ((xs 1) = (3 : Int32)) ∧ ((xs 2) = (100 : Int32)) ∧ True from ⟨h0, t1_3, t2_100, t1_3, t2_100, trivial⟩)
    by_cases t2_101 : (xs 2) = (101 : Int32)
    · exact rOk_of rr276 (show ((rop 3 (xs 0) (31 : Int32)) = (8 : Int32)) ∧ ((xs 1) = (3 : Int32)) ∧ ((xs 2) = (101 : Int32)) ∧ ((xs 1) = (3 : Int32)) ∧ ((xs 2) = (101 : Int32)) ∧ True from ⟨h0, t1_3, t2_101, t1_3, t2_101, trivial⟩)
    by_cases t2_102 : (xs 2) = (102 : Int32)
    · exact rOk_of rr277 (show ((rop 3 (xs 0) (31 : Int32)) = (8 : Int32)) ∧ ((xs 1) = (3 : Int32)) ∧ ((xs 2) = (102 : Int32)) ∧ ((xs 1) = (3 : Int32)) ∧ ((xs 2) = (102 : Int32)) ∧ True from ⟨h0, t1_3, t2_102, t1_3, t2_102, trivial⟩)
    by_cases t2_103 : (xs 2) = (103 : Int32)
    · exact rOk_of rr278 (show ((rop 3 (xs 0) (31 : Int32)) = (8 : Int32)) ∧ ((xs 1) = (3 : Int32)) ∧ ((xs 2) = (103 : Int32)) ∧ ((xs 1) = (3 : Int32)) ∧ ((xs 2) = (103 : Int32)) ∧ True from ⟨h0, t1_3, t2_103, t1_3, t2_103, trivial⟩)
    by_cases t2_104 : (xs 2) = (104 : Int32)
    · exact rOk_of rr279 (show ((rop 3 (xs 0) (31 : Int32)) = (8 : Int32)) ∧ ((xs 1) = (3 : Int32)) ∧ ((xs 2) = (104 : Int32)) ∧ ((xs 1) = (3 : Int32)) ∧ ((xs 2) = (104 : Int32)) ∧ True from ⟨h0, t1_3, t2_104, t1_3, t2_104, trivial⟩)
    by_cases t2_105 : (xs 2) = (105 : Int32)
    · exact rOk_of rr280 (show ((rop 3 (xs 0) (31 : Int32)) = (8 : Int32)) ∧ ((xs 1) = (3 : Int32)) ∧ ((xs 2) = (105 : Int32)) ∧ ((xs 1) = (3 : Int32)) ∧ ((xs 2) = (105 : Int32)) ∧ True from ⟨h0, t1_3, t2_105, t1_3, t2_105, trivial⟩)
    by_cases t2_106 : (xs 2) = (106 : Int32)
    · exact rOk_of rr281 (show ((rop 3 (xs 0) (31 : Int32)) = (8 : Int32)) ∧ ((xs 1) = (3 : Int32)) ∧ ((xs 2) = (106 : Int32)) ∧ ((xs 1) = (3 : Int32)) ∧ ((xs 2) = (106 : Int32)) ∧ True from ⟨h0, t1_3, t2_106, t1_3, t2_106, trivial⟩)
    by_cases t2_107 : (xs 2) = (107 : Int32)
    · exact rOk_of rr282 (show ((rop 3 (xs 0) (31 : Int32)) = (8 : Int32)) ∧ ((xs 1) = (3 : Int32)) ∧ ((xs 2) = (107 : Int32)) ∧ ((xs 1) = (3 : Int32)) ∧ ((xs 2) = (107 : Int32)) ∧ True from ⟨h0, t1_3, t2_107, t1_3, t2_107, trivial⟩)
    by_cases t2_108 : (xs 2) = (108 : Int32)
    · exact rOk_of rr283 (show ((rop 3 (xs 0) (31 : Int32)) = (8 : Int32)) ∧ ((xs 1) = (3 : Int32)) ∧ ((xs 2) = (108 : Int32)) ∧ ((xs 1) = (3 : Int32)) ∧ ((xs 2) = (108 : Int32)) ∧ True from ⟨h0, t1_3, t2_108, t1_3, t2_108, trivial⟩)
    by_cases t2_109 : (xs 2) = (109 : Int32)
    · exact rOk_of rr284 (show ((rop 3 (xs 0) (31 : Int32)) = (8 : Int32)) ∧ ((xs 1) = (3 : Int32)) ∧ ((xs 2) = (109 : Int32)) ∧ ((xs 1) = (3 : Int32)) ∧ ((xs 2) = (109 : Int32)) ∧ True from ⟨h0, t1_3, t2_109, t1_3, t2_109, trivial⟩)
    by_cases t2_110 : (xs 2) = (110 : Int32)
    · exact rOk_of rr285 (show ((rop 3 (xs 0) (31 : Int32)) = (8 : Int32)) ∧ ((xs 1) = (3 : Int32)) ∧ ((xs 2) = (110 : Int32)) ∧ ((xs 1) = (3 : Int32)) ∧ ((xs 2) = (110 : Int32)) ∧ True from ⟨h0, t1_3, t2_110, t1_3, t2_110, trivial⟩)
    by_cases t2_111 : (xs 2) = (111 : Int32)
    · exact rOk_of rr286 (show ((rop 3 (xs 0) (31 : Int32)) = (8 : Int32)) ∧ ((xs 1) = (3 : Int32)) ∧ ((xs 2) = (111 : Int32)) ∧ ((xs 1) = (3 : Int32)) ∧ ((xs 2) = (111 : Int32)) ∧ True from ⟨h0, t1_3, t2_111, t1_3, t2_111, trivial⟩)
    by_cases t2_112 : (xs 2) = (112 : Int32)
    · exact rOk_of rr287 (show ((rop 3 (xs 0) (31 : Int32)) = (8 : Int32)) ∧ ((xs 1) = (3 : Int32)) ∧ ((xs 2) = (112 : Int32)) ∧ ((xs 1) = (3 : Int32)) ∧ ((xs 2) = (112 : Int32)) ∧ True from ⟨h0, t1_3, t2_112, t1_3, t2_112, trivial⟩)
    by_cases t2_113 : (xs 2) = (113 : Int32)
    · exact rOk_of rr288 (show ((rop 3 (xs 0) (31 : Int32)) = (8 : Int32)) ∧ ((xs 1) = (3 : Int32)) ∧ ((xs 2) = (113 : Int32)) ∧ ((xs 1) = (3 : Int32)) ∧ ((xs 2) = (113 : Int32)) ∧ True from ⟨h0, t1_3, t2_113, t1_3, t2_113, trivial⟩)
    by_cases t2_114 : (xs 2) = (114 : Int32)
    · exact rOk_of rr289 (show ((rop 3 (xs 0) (31 : Int32)) = (8 : Int32)) ∧ ((xs 1) = (3 : Int32)) ∧ ((xs 2) = (114 : Int32)) ∧ ((xs 1) = (3 : Int32)) ∧ ((xs 2) = (114 : Int32)) ∧ True from ⟨h0, t1_3, t2_114, t1_3, t2_114, trivial⟩)
    by_cases t2_115 : (xs 2) = (115 : Int32)
    · exact rOk_of rr290 (show ((rop 3 (xs 0) (31 : Int32)) = (8 : Int32)) ∧ ((xs 1) = (3 : Int32)) ∧ ((xs 2) = (115 : Int32)) ∧ ((xs 1) = (3 : Int32)) ∧ ((xs 2) = (115 : Int32)) ∧ True from ⟨h0, t1_3, t2_115, t1_3, t2_115, trivial⟩)
    by_cases t2_116 : (xs 2) = (116 : Int32)
    · exact rOk_of rr291 (show ((rop 3 (xs 0) (31 : Int32)) = (8 : Int32)) ∧ ((xs 1) = (3 : Int32)) ∧ ((xs 2) = (116 : Int32)) ∧ ((xs 1) = (3 : Int32)) ∧ ((xs 2) = (116 : Int32)) ∧ True from ⟨h0, t1_3, t2_116, t1_3, t2_116, trivial⟩)
    by_cases t2_117 : (xs 2) = (117 : Int32)
    · exact rOk_of rr292 (show ((rop 3 (xs 0) (31 : Int32)) = (8 : Int32)) ∧ ((xs 1) = (3 : Int32)) ∧ ((xs 2) = (117 : Int32)) ∧ ((xs 1) = (3 : Int32)) ∧ ((xs 2) = (117 : Int32)) ∧ True from ⟨h0, t1_3, t2_117, t1_3, t2_117, trivial⟩)
    by_cases t2_118 : (xs 2) = (118 : Int32)
    · exact rOk_of rr293 (show ((rop 3 (xs 0) (31 : Int32)) = (8 : Int32)) ∧ ((xs 1) = (3 : Int32)) ∧ ((xs 2) = (118 : Int32)) ∧ ((xs 1) = (3 : Int32)) ∧ ((xs 2) = (118 : Int32)) ∧ True from ⟨h0, t1_3, t2_118, t1_3, t2_118, trivial⟩)
    by_cases t2_119 : (xs 2) = (119 : Int32)
    · exact rOk_of rr294 (show ((rop 3 (xs 0) (31 : Int32)) = (8 : Int32)) ∧ ((xs 1) = (3 : Int32)) ∧ ((xs 2) = (119 : Int32)) ∧ ((xs 1) = (3 : Int32)) ∧ ((xs 2) = (119 : Int32)) ∧ True from ⟨h0, t1_3, t2_119, t1_3, t2_119, trivial⟩)
    by_cases t2_120 : (xs 2) = (120 : Int32)
    · exact rOk_of rr295 (show ((rop 3 (xs 0) (31 : Int32)) = (8 : Int32)) ∧ ((xs 1) = (3 : Int32)) ∧ ((xs 2) = (120 : Int32)) ∧ ((xs 1) = (3 : Int32)) ∧ ((xs 2) = (120 : Int32)) ∧ True from ⟨h0, t1_3, t2_120, t1_3, t2_120, trivial⟩)
    by_cases t2_121 : (xs 2) = (121 : Int32)
    · exact rOk_of rr296 (show ((rop 3 (xs 0) (31 : Int32)) = (8 : Int32)) ∧ ((xs 1) = (3 : Int32)) ∧ ((xs 2) = (121 : Int32)) ∧ ((xs 1) = (3 : Int32)) ∧ ((xs 2) = (121 : Int32)) ∧ True from ⟨h0, t1_3, t2_121, t1_3, t2_121, trivial⟩)
    by_cases t2_122 : (xs 2) = (122 : Int32)
    · exact rOk_of rr297 (show ((rop 3 (xs 0) (31 : Int32)) = (8 : Int32)) ∧ ((xs 1) = (3 : Int32)) ∧ ((xs 2) = (122 : Int32)) ∧ ((xs 1) = (3 : Int32)) ∧ ((xs 2) = (122 : Int32)) ∧ True from ⟨h0, t1_3, t2_122, t1_3, t2_122, trivial⟩)
    by_cases t2_123 : (xs 2) = (123 : Int32)
    · exact rOk_of rr298 (show ((rop 3 (xs 0) (31 : Int32)) = (8 : Int32)) ∧ ((xs 1) = (3 : Int32)) ∧ ((xs 2) = (123 : Int32)) ∧ ((xs 1) = (3 : Int32)) ∧ ((xs 2) = (123 : Int32)) ∧ True from ⟨h0, t1_3, t2_123, t1_3, t2_123, trivial⟩)
    by_cases t2_124 : (xs 2) = (124 : Int32)
    · exact rOk_of rr299 (show ((rop 3 (xs 0) (31 : Int32)) = (8 : Int32)) ∧ ((xs 1) = (3 : Int32)) ∧ ((xs 2) = (124 : Int32)) ∧ ((xs 1) = (3 : Int32)) ∧ ((xs 2) = (124 : Int32)) ∧ True from ⟨h0, t1_3, t2_124, t1_3, t2_124, trivial⟩)
    by_cases t2_125 : (xs 2) = (125 : Int32)
    · exact rOk_of rr300 (show ((rop 3 (xs 0) (31 : Int32)) = (8 : Int32)) ∧ ((xs 1) = (3 : Int32)) ∧ ((xs 2) = (125 : Int32)) ∧ ((xs 1) = (3 : Int32)) ∧ ((xs 2) = (125 : Int32)) ∧ True from ⟨h0, t1_3, t2_125, t1_3, t2_125, trivial⟩)
    by_cases t2_126 : (xs 2) = (126 : Int32)
    · exact rOk_of rr301 (show ((rop 3 (xs 0) (31 : Int32)) = (8 : Int32)) ∧ ((xs 1) = (3 : Int32)) ∧ ((xs 2) = (126 : Int32)) ∧ ((xs 1) = (3 : Int32)) ∧ ((xs 2) = (126 : Int32)) ∧ True from ⟨h0, t1_3, t2_126, t1_3, t2_126, trivial⟩)
    by_cases t2_127 : (xs 2) = (127 : Int32)
    · exact rOk_of rr302 (show ((rop 3 (xs 0) (31 : Int32)) = (8 : Int32)) ∧ ((xs 1) = (3 : Int32)) ∧ ((xs 2) = (127 : Int32)) ∧ ((xs 1) = (3 : Int32)) ∧ ((xs 2) = (127 : Int32)) ∧ True from ⟨h0, t1_3, t2_127, t1_3, t2_127, trivial⟩)
    cases b4 : rcmp 2 (xs 2) (64 : Int32) with
    | true =>
      exact rOk_of rr238 (show ((rop 3 (xs 0) (31 : Int32)) = (8 : Int32)) ∧ ((xs 1) = (3 : Int32)) ∧ (rcmp 1 (rop 3 (xs 2) (-62 : Int32)) (64 : Int32) = true) ∧ ((xs 1) = (3 : Int32)) ∧ (rcmp 2 (xs 2) (64 : Int32) = true) ∧ True from ⟨h0, t1_3, (rsp8 (by have z0 := rine t2_64; have z1 := rine t2_65; have z2 := rine t2_66; have z3 := rine t2_67; have z4 := rine t2_68; have z5 := rine t2_69; have z6 := rine t2_70; have z7 := rine t2_71; have z8 := rine t2_72; have z9 := rine t2_73; have z10 := rine t2_74; have z11 := rine t2_75; have z12 := rine t2_76; have z13 := rine t2_77; have z14 := rine t2_78; have z15 := rine t2_79; have z16 := rine t2_80; have z17 := rine t2_81; have z18 := rine t2_82; have z19 := rine t2_83; have z20 := rine t2_84; have z21 := rine t2_85; have z22 := rine t2_86; have z23 := rine t2_87; have z24 := rine t2_88; have z25 := rine t2_89; have z26 := rine t2_90; have z27 := rine t2_91; have z28 := rine t2_92; have z29 := rine t2_93; have z30 := rine t2_94; have z31 := rine t2_95; have z32 := rine t2_96; have z33 := rine t2_97; have z34 := rine t2_98; have z35 := rine t2_99; have z36 := rine t2_100; have z37 := rine t2_101; have z38 := rine t2_102; have z39 := rine t2_103; have z40 := rine t2_104; have z41 := rine t2_105; have z42 := rine t2_106; have z43 := rine t2_107; have z44 := rine t2_108; have z45 := rine t2_109; have z46 := rine t2_110; have z47 := rine t2_111; have z48 := rine t2_112; have z49 := rine t2_113; have z50 := rine t2_114; have z51 := rine t2_115; have z52 := rine t2_116; have z53 := rine t2_117; have z54 := rine t2_118; have z55 := rine t2_119; have z56 := rine t2_120; have z57 := rine t2_121; have z58 := rine t2_122; have z59 := rine t2_123; have z60 := rine t2_124; have z61 := rine t2_125; have z62 := rine t2_126; have z63 := rine t2_127; have z64 := ri2t b4; have y0 := li_64; have y1 := li_65; have y2 := li_66; have y3 := li_67; have y4 := li_68; have y5 := li_69; have y6 := li_70; have y7 := li_71; have y8 := li_72; have y9 := li_73; have y10 := li_74; have y11 := li_75; have y12 := li_76; have y13 := li_77; have y14 := li_78; have y15 := li_79; have y16 := li_80; have y17 := li_81; have y18 := li_82; have y19 := li_83; have y20 := li_84; have y21 := li_85; have y22 := li_86; have y23 := li_87; have y24 := li_88; have y25 := li_89; have y26 := li_90; have y27 := li_91; have y28 := li_92; have y29 := li_93; have y30 := li_94; have y31 := li_95; have y32 := li_96; have y33 := li_97; have y34 := li_98; have y35 := li_99; have y36 := li_100; have y37 := li_101; have y38 := li_102; have y39 := li_103; have y40 := li_104; have y41 := li_105; have y42 := li_106; have y43 := li_107; have y44 := li_108; have y45 := li_109; have y46 := li_110; have y47 := li_111; have y48 := li_112; have y49 := li_113; have y50 := li_114; have y51 := li_115; have y52 := li_116; have y53 := li_117; have y54 := li_118; have y55 := li_119; have y56 := li_120; have y57 := li_121; have y58 := li_122; have y59 := li_123; have y60 := li_124; have y61 := li_125; have y62 := li_126; have y63 := li_127; omega)), t1_3, b4, trivial⟩)
    | false =>
      exact rOk_of rr237 (show ((rop 3 (xs 0) (31 : Int32)) = (8 : Int32)) ∧ ((xs 1) = (3 : Int32)) ∧ (rcmp 1 (rop 3 (xs 2) (-62 : Int32)) (64 : Int32) = true) ∧ ((xs 1) = (3 : Int32)) ∧ (rcmp 2 (xs 2) (64 : Int32) = false) ∧ (rcmp 4 (xs 2) (127 : Int32) = true) ∧ True from ⟨h0, t1_3, (rsp8 (by have z0 := rine t2_64; have z1 := rine t2_65; have z2 := rine t2_66; have z3 := rine t2_67; have z4 := rine t2_68; have z5 := rine t2_69; have z6 := rine t2_70; have z7 := rine t2_71; have z8 := rine t2_72; have z9 := rine t2_73; have z10 := rine t2_74; have z11 := rine t2_75; have z12 := rine t2_76; have z13 := rine t2_77; have z14 := rine t2_78; have z15 := rine t2_79; have z16 := rine t2_80; have z17 := rine t2_81; have z18 := rine t2_82; have z19 := rine t2_83; have z20 := rine t2_84; have z21 := rine t2_85; have z22 := rine t2_86; have z23 := rine t2_87; have z24 := rine t2_88; have z25 := rine t2_89; have z26 := rine t2_90; have z27 := rine t2_91; have z28 := rine t2_92; have z29 := rine t2_93; have z30 := rine t2_94; have z31 := rine t2_95; have z32 := rine t2_96; have z33 := rine t2_97; have z34 := rine t2_98; have z35 := rine t2_99; have z36 := rine t2_100; have z37 := rine t2_101; have z38 := rine t2_102; have z39 := rine t2_103; have z40 := rine t2_104; have z41 := rine t2_105; have z42 := rine t2_106; have z43 := rine t2_107; have z44 := rine t2_108; have z45 := rine t2_109; have z46 := rine t2_110; have z47 := rine t2_111; have z48 := rine t2_112; have z49 := rine t2_113; have z50 := rine t2_114; have z51 := rine t2_115; have z52 := rine t2_116; have z53 := rine t2_117; have z54 := rine t2_118; have z55 := rine t2_119; have z56 := rine t2_120; have z57 := rine t2_121; have z58 := rine t2_122; have z59 := rine t2_123; have z60 := rine t2_124; have z61 := rine t2_125; have z62 := rine t2_126; have z63 := rine t2_127; have z64 := ri2f b4; have y0 := li_64; have y1 := li_65; have y2 := li_66; have y3 := li_67; have y4 := li_68; have y5 := li_69; have y6 := li_70; have y7 := li_71; have y8 := li_72; have y9 := li_73; have y10 := li_74; have y11 := li_75; have y12 := li_76; have y13 := li_77; have y14 := li_78; have y15 := li_79; have y16 := li_80; have y17 := li_81; have y18 := li_82; have y19 := li_83; have y20 := li_84; have y21 := li_85; have y22 := li_86; have y23 := li_87; have y24 := li_88; have y25 := li_89; have y26 := li_90; have y27 := li_91; have y28 := li_92; have y29 := li_93; have y30 := li_94; have y31 := li_95; have y32 := li_96; have y33 := li_97; have y34 := li_98; have y35 := li_99; have y36 := li_100; have y37 := li_101; have y38 := li_102; have y39 := li_103; have y40 := li_104; have y41 := li_105; have y42 := li_106; have y43 := li_107; have y44 := li_108; have y45 := li_109; have y46 := li_110; have y47 := li_111; have y48 := li_112; have y49 := li_113; have y50 := li_114; have y51 := li_115; have y52 := li_116; have y53 := li_117; have y54 := li_118; have y55 := li_119; have y56 := li_120; have y57 := li_121; have y58 := li_122; have y59 := li_123; have y60 := li_124; have y61 := li_125; have y62 := li_126; have y63 := li_127; omega)), t1_3, b4, (rg4t (by have z0 := rine t2_64; have z1 := rine t2_65; have z2 := rine t2_66; have z3 := rine t2_67; have z4 := rine t2_68; have z5 := rine t2_69; have z6 := rine t2_70; have z7 := rine t2_71; have z8 := rine t2_72; have z9 := rine t2_73; have z10 := rine t2_74; have z11 := rine t2_75; have z12 := rine t2_76; have z13 := rine t2_77; have z14 := rine t2_78; have z15 := rine t2_79; have z16 := rine t2_80; have z17 := rine t2_81; have z18 := rine t2_82; have z19 := rine t2_83; have z20 := rine t2_84; have z21 := rine t2_85; have z22 := rine t2_86; have z23 := rine t2_87; have z24 := rine t2_88; have z25 := rine t2_89; have z26 := rine t2_90; have z27 := rine t2_91; have z28 := rine t2_92; have z29 := rine t2_93; have z30 := rine t2_94; have z31 := rine t2_95; have z32 := rine t2_96; have z33 := rine t2_97; have z34 := rine t2_98; have z35 := rine t2_99; have z36 := rine t2_100; have z37 := rine t2_101; have z38 := rine t2_102; have z39 := rine t2_103; have z40 := rine t2_104; have z41 := rine t2_105; have z42 := rine t2_106; have z43 := rine t2_107; have z44 := rine t2_108; have z45 := rine t2_109; have z46 := rine t2_110; have z47 := rine t2_111; have z48 := rine t2_112; have z49 := rine t2_113; have z50 := rine t2_114; have z51 := rine t2_115; have z52 := rine t2_116; have z53 := rine t2_117; have z54 := rine t2_118; have z55 := rine t2_119; have z56 := rine t2_120; have z57 := rine t2_121; have z58 := rine t2_122; have z59 := rine t2_123; have z60 := rine t2_124; have z61 := rine t2_125; have z62 := rine t2_126; have z63 := rine t2_127; have z64 := ri2f b4; have y0 := li_64; have y1 := li_65; have y2 := li_66; have y3 := li_67; have y4 := li_68; have y5 := li_69; have y6 := li_70; have y7 := li_71; have y8 := li_72; have y9 := li_73; have y10 := li_74; have y11 := li_75; have y12 := li_76; have y13 := li_77; have y14 := li_78; have y15 := li_79; have y16 := li_80; have y17 := li_81; have y18 := li_82; have y19 := li_83; have y20 := li_84; have y21 := li_85; have y22 := li_86; have y23 := li_87; have y24 := li_88; have y25 := li_89; have y26 := li_90; have y27 := li_91; have y28 := li_92; have y29 := li_93; have y30 := li_94; have y31 := li_95; have y32 := li_96; have y33 := li_97; have y34 := li_98; have y35 := li_99; have y36 := li_100; have y37 := li_101; have y38 := li_102; have y39 := li_103; have y40 := li_104; have y41 := li_105; have y42 := li_106; have y43 := li_107; have y44 := li_108; have y45 := li_109; have y46 := li_110; have y47 := li_111; have y48 := li_112; have y49 := li_113; have y50 := li_114; have y51 := li_115; have y52 := li_116; have y53 := li_117; have y54 := li_118; have y55 := li_119; have y56 := li_120; have y57 := li_121; have y58 := li_122; have y59 := li_123; have y60 := li_124; have y61 := li_125; have y62 := li_126; have y63 := li_127; omega)), trivial⟩)
  by_cases t1_4 : (xs 1) = (4 : Int32)
  · cases b2 : rcmp 2 (xs 2) (4 : Int32) with
    | true =>
      exact rOk_of rr305 (show ((rop 3 (xs 0) (31 : Int32)) = (8 : Int32)) ∧ ((xs 1) = (4 : Int32)) ∧ (rcmp 2 (xs 2) (4 : Int32) = true) ∧ ((xs 1) = (4 : Int32)) ∧ (rcmp 2 (xs 2) (4 : Int32) = true) ∧ True from ⟨h0, t1_4, b2, t1_4, b2, trivial⟩)
    | false =>
      cases b3 : rcmp 4 (xs 2) (7 : Int32) with
      | true =>
        exact rOk_of rr304 (show ((rop 3 (xs 0) (31 : Int32)) = (8 : Int32)) ∧ ((xs 1) = (4 : Int32)) ∧ (rcmp 2 (xs 2) (4 : Int32) = false) ∧ (rcmp 4 (xs 2) (7 : Int32) = true) ∧ ((xs 1) = (4 : Int32)) ∧ (rcmp 2 (xs 2) (4 : Int32) = false) ∧ (rcmp 4 (xs 2) (7 : Int32) = true) ∧ True from ⟨h0, t1_4, b2, b3, t1_4, b2, b3, trivial⟩)
      | false =>
        exact rOk_of rr303 (show ((rop 3 (xs 0) (31 : Int32)) = (8 : Int32)) ∧ ((xs 1) = (4 : Int32)) ∧ (rcmp 2 (xs 2) (4 : Int32) = false) ∧ (rcmp 4 (xs 2) (7 : Int32) = false) ∧ ((xs 1) = (4 : Int32)) ∧ (rcmp 2 (xs 2) (4 : Int32) = false) ∧ (rcmp 4 (xs 2) (7 : Int32) = false) ∧ True from ⟨h0, t1_4, b2, b3, t1_4, b2, b3, trivial⟩)
  by_cases t1_5 : (xs 1) = (5 : Int32)
  · exact rOk_of rr306 (show ((rop 3 (xs 0) (31 : Int32)) = (8 : Int32)) ∧ ((xs 1) = (5 : Int32)) ∧ ((xs 1) = (5 : Int32)) ∧ True from ⟨h0, t1_5, t1_5, trivial⟩)
  by_cases t1_6 : (xs 1) = (6 : Int32)
  · cases b2 : rcmp 2 (xs 2) (0 : Int32) with
    | true =>
      exact rOk_of rr309 (show ((rop 3 (xs 0) (31 : Int32)) = (8 : Int32)) ∧ ((xs 1) = (6 : Int32)) ∧ (rcmp 2 (xs 2) (0 : Int32) = true) ∧ ((xs 1) = (6 : Int32)) ∧ (rcmp 2 (xs 2) (0 : Int32) = true) ∧ True from ⟨h0, t1_6, b2, t1_6, b2, trivial⟩)
    | false =>
      cases b3 : rcmp 4 (xs 2) (255 : Int32) with
      | true =>
        exact rOk_of rr308 (show ((rop 3 (xs 0) (31 : Int32)) = (8 : Int32)) ∧ ((xs 1) = (6 : Int32)) ∧ (rcmp 2 (xs 2) (0 : Int32) = false) ∧ (rcmp 4 (xs 2) (255 : Int32) = true) ∧ ((xs 1) = (6 : Int32)) ∧ (rcmp 2 (xs 2) (0 : Int32) = false) ∧ (rcmp 4 (xs 2) (255 : Int32) = true) ∧ True from ⟨h0, t1_6, b2, b3, t1_6, b2, b3, trivial⟩)
      | false =>
        exact rOk_of rr307 (show ((rop 3 (xs 0) (31 : Int32)) = (8 : Int32)) ∧ ((xs 1) = (6 : Int32)) ∧ (rcmp 2 (xs 2) (0 : Int32) = false) ∧ (rcmp 4 (xs 2) (255 : Int32) = false) ∧ ((xs 1) = (6 : Int32)) ∧ (rcmp 2 (xs 2) (0 : Int32) = false) ∧ (rcmp 4 (xs 2) (255 : Int32) = false) ∧ True from ⟨h0, t1_6, b2, b3, t1_6, b2, b3, trivial⟩)
  by_cases t1_7 : (xs 1) = (7 : Int32)
  · cases b2 : rcmp 2 (xs 2) (0 : Int32) with
    | true =>
      exact rOk_of rr312 (show ((rop 3 (xs 0) (31 : Int32)) = (8 : Int32)) ∧ ((xs 1) = (7 : Int32)) ∧ (rcmp 2 (xs 2) (0 : Int32) = true) ∧ ((xs 1) = (7 : Int32)) ∧ (rcmp 2 (xs 2) (0 : Int32) = true) ∧ True from ⟨h0, t1_7, b2, t1_7, b2, trivial⟩)
    | false =>
      cases b3 : rcmp 4 (xs 2) (15 : Int32) with
      | true =>
        exact rOk_of rr311 (show ((rop 3 (xs 0) (31 : Int32)) = (8 : Int32)) ∧ ((xs 1) = (7 : Int32)) ∧ (rcmp 2 (xs 2) (0 : Int32) = false) ∧ (rcmp 4 (xs 2) (15 : Int32) = true) ∧ ((xs 1) = (7 : Int32)) ∧ (rcmp 2 (xs 2) (0 : Int32) = false) ∧ (rcmp 4 (xs 2) (15 : Int32) = true) ∧ True from ⟨h0, t1_7, b2, b3, t1_7, b2, b3, trivial⟩)
      | false =>
        exact rOk_of rr310 (show ((rop 3 (xs 0) (31 : Int32)) = (8 : Int32)) ∧ ((xs 1) = (7 : Int32)) ∧ (rcmp 2 (xs 2) (0 : Int32) = false) ∧ (rcmp 4 (xs 2) (15 : Int32) = false) ∧ ((xs 1) = (7 : Int32)) ∧ (rcmp 2 (xs 2) (0 : Int32) = false) ∧ (rcmp 4 (xs 2) (15 : Int32) = false) ∧ True from ⟨h0, t1_7, b2, b3, t1_7, b2, b3, trivial⟩)
  by_cases t1_8 : (xs 1) = (8 : Int32)
  · cases b2 : rcmp 2 (xs 2) (0 : Int32) with
    | true =>
      exact rOk_of rr315 (show ((rop 3 (xs 0) (31 : Int32)) = (8 : Int32)) ∧ ((xs 1) = (8 : Int32)) ∧ (rcmp 2 (xs 2) (0 : Int32) = true) ∧ ((xs 1) = (8 : Int32)) ∧ (rcmp 2 (xs 2) (0 : Int32) = true) ∧ True from ⟨h0, t1_8, b2, t1_8, b2, trivial⟩)
    | false =>
      cases b3 : rcmp 4 (xs 2) (11 : Int32) with
      | true =>
        exact rOk_of rr314 (show ((rop 3 (xs 0) (31 : Int32)) = (8 : Int32)) ∧ ((xs 1) = (8 : Int32)) ∧ (rcmp 2 (xs 2) (0 : Int32) = false) ∧ (rcmp 4 (xs 2) (11 : Int32) = true) ∧ ((xs 1) = (8 : Int32)) ∧ (rcmp 2 (xs 2) (0 : Int32) = false) ∧ (rcmp 4 (xs 2) (11 : Int32) = true) ∧ True from ⟨h0, t1_8, b2, b3, t1_8, b2, b3, trivial⟩)
      | false =>
        exact rOk_of rr313 (show ((rop 3 (xs 0) (31 : Int32)) = (8 : Int32)) ∧ ((xs 1) = (8 : Int32)) ∧ (rcmp 2 (xs 2) (0 : Int32) = false) ∧ (rcmp 4 (xs 2) (11 : Int32) = false) ∧ ((xs 1) = (8 : Int32)) ∧ (rcmp 2 (xs 2) (0 : Int32) = false) ∧ (rcmp 4 (xs 2) (11 : Int32) = false) ∧ True from ⟨h0, t1_8, b2, b3, t1_8, b2, b3, trivial⟩)
  by_cases t1_9 : (xs 1) = (9 : Int32)
  · exact rOk_of rr316 (show ((rop 3 (xs 0) (31 : Int32)) = (8 : Int32)) ∧ ((xs 1) = (9 : Int32)) ∧ ((xs 1) = (9 : Int32)) ∧ True from ⟨h0, t1_9, t1_9, trivial⟩)
  cases b1 : rcmp 2 (xs 1) (0 : Int32) with
  | true =>
    exact rOk_of rr227 (show ((rop 3 (xs 0) (31 : Int32)) = (8 : Int32)) ∧ (rcmp 2 (xs 1) (0 : Int32) = true) ∧ ((xs 1).toInt < ((2147483648 : Nat) : Int) - 2147483648 ∨ ((2147483656 : Nat) : Int) - 2147483648 < (xs 1).toInt) ∧ (rcmp 0 (xs 1) (5 : Int32) = false) ∧ (rcmp 1 (xs 1) (9 : Int32) = true) ∧ True from ⟨h0, b1, (by have z0 := rine t1_0; have z1 := rine t1_1; have z2 := rine t1_2; have z3 := rine t1_3; have z4 := rine t1_4; have z5 := rine t1_5; have z6 := rine t1_6; have z7 := rine t1_7; have z8 := rine t1_8; have z9 := rine t1_9; have z10 := ri2t b1; have y0 := li_0; have y1 := li_1; have y2 := li_2; have y3 := li_3; have y4 := li_4; have y5 := li_5; have y6 := li_6; have y7 := li_7; have y8 := li_8; have y9 := li_9; omega), (rg0f (by have z0 := rine t1_0; have z1 := rine t1_1; have z2 := rine t1_2; have z3 := rine t1_3; have z4 := rine t1_4; have z5 := rine t1_5; have z6 := rine t1_6; have z7 := rine t1_7; have z8 := rine t1_8; have z9 := rine t1_9; have z10 := ri2t b1; have y0 := li_0; have y1 := li_1; have y2 := li_2; have y3 := li_3; have y4 := li_4; have y5 := li_5; have y6 := li_6; have y7 := li_7; have y8 := li_8; have y9 := li_9; omega)), (rg1t (by have z0 := rine t1_0; have z1 := rine t1_1; have z2 := rine t1_2; have z3 := rine t1_3; have z4 := rine t1_4; have z5 := rine t1_5; have z6 := rine t1_6; have z7 := rine t1_7; have z8 := rine t1_8; have z9 := rine t1_9; have z10 := ri2t b1; have y0 := li_0; have y1 := li_1; have y2 := li_2; have y3 := li_3; have y4 := li_4; have y5 := li_5; have y6 := li_6; have y7 := li_7; have y8 := li_8; have y9 := li_9; omega)), trivial⟩)
  | false =>
    exact rOk_of rr226 (show ((rop 3 (xs 0) (31 : Int32)) = (8 : Int32)) ∧ (rcmp 2 (xs 1) (0 : Int32) = false) ∧ (rcmp 4 (xs 1) (9 : Int32) = true) ∧ ((xs 1).toInt < ((2147483648 : Nat) : Int) - 2147483648 ∨ ((2147483656 : Nat) : Int) - 2147483648 < (xs 1).toInt) ∧ (rcmp 0 (xs 1) (5 : Int32) = false) ∧ (rcmp 1 (xs 1) (9 : Int32) = true) ∧ True from ⟨h0, b1, (rg4t (by have z0 := rine t1_0; have z1 := rine t1_1; have z2 := rine t1_2; have z3 := rine t1_3; have z4 := rine t1_4; have z5 := rine t1_5; have z6 := rine t1_6; have z7 := rine t1_7; have z8 := rine t1_8; have z9 := rine t1_9; have z10 := ri2f b1; have y0 := li_0; have y1 := li_1; have y2 := li_2; have y3 := li_3; have y4 := li_4; have y5 := li_5; have y6 := li_6; have y7 := li_7; have y8 := li_8; have y9 := li_9; omega)), (by have z0 := rine t1_0; have z1 := rine t1_1; have z2 := rine t1_2; have z3 := rine t1_3; have z4 := rine t1_4; have z5 := rine t1_5; have z6 := rine t1_6; have z7 := rine t1_7; have z8 := rine t1_8; have z9 := rine t1_9; have z10 := ri2f b1; have y0 := li_0; have y1 := li_1; have y2 := li_2; have y3 := li_3; have y4 := li_4; have y5 := li_5; have y6 := li_6; have y7 := li_7; have y8 := li_8; have y9 := li_9; omega), (rg0f (by have z0 := rine t1_0; have z1 := rine t1_1; have z2 := rine t1_2; have z3 := rine t1_3; have z4 := rine t1_4; have z5 := rine t1_5; have z6 := rine t1_6; have z7 := rine t1_7; have z8 := rine t1_8; have z9 := rine t1_9; have z10 := ri2f b1; have y0 := li_0; have y1 := li_1; have y2 := li_2; have y3 := li_3; have y4 := li_4; have y5 := li_5; have y6 := li_6; have y7 := li_7; have y8 := li_8; have y9 := li_9; omega)), (rg1t (by have z0 := rine t1_0; have z1 := rine t1_1; have z2 := rine t1_2; have z3 := rine t1_3; have z4 := rine t1_4; have z5 := rine t1_5; have z6 := rine t1_6; have z7 := rine t1_7; have z8 := rine t1_8; have z9 := rine t1_9; have z10 := ri2f b1; have y0 := li_0; have y1 := li_1; have y2 := li_2; have y3 := li_3; have y4 := li_4; have y5 := li_5; have y6 := li_6; have y7 := li_7; have y8 := li_8; have y9 := li_9; omega)), trivial⟩)
