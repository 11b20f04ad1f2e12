set_option maxHeartbeats 4000000 in
set_option maxRecDepth 100000 in
theorem cov16 (xs : Nat → Int32) (h0 : (rop 3 (xs 0) (31 : Int32)) = (16 : Int32)) : rOk 6 xs := by
  by_cases t1_0 : (xs 1) = (0 : Int32)
  · by_cases t2_0 : (xs 2) = (0 : Int32)
    · by_cases t3_0 : (xs 3) = (0 : Int32)
      · exact rOk_of rr454 (show ((rop 3 (xs 0) (31 : Int32)) = (16 : Int32)) ∧ ((xs 1) = (0 : Int32)) ∧ ((xs 2) = (0 : Int32)) ∧ ((xs 3) = (0 : Int32)) ∧ ((xs 1) = (0 : Int32)) ∧ ((xs 2) = (0 : Int32)) ∧ ((xs 3) = (0 : Int32)) ∧ True from ⟨h0, t1_0, t2_0, t3_0, t1_0, t2_0, t3_0, trivial⟩)
      by_cases t3_1 : (xs 3) = (1 : Int32)
      · exact rOk_of rr455 (show ((rop 3 (xs 0) (31 : Int32)) = (16 : Int32)) ∧ ((xs 1) = (0 : Int32)) ∧ ((xs 2) = (0 : Int32)) ∧ ((xs 3) = (1 : Int32)) ∧ ((xs 1) = (0 : Int32)) ∧ ((xs 2) = (0 : Int32)) ∧ ((xs 3) = (1 : Int32)) ∧ True from ⟨h0, t1_0, t2_0, t3_1, t1_0, t2_0, t3_1, trivial⟩)
      by_cases t3_2 : (xs 3) = (2 : Int32)
      · exact rOk_of rr456 (show ((rop 3 (xs 0) (31 : Int32)) = (16 : Int32)) ∧ ((xs 1) = (0 : Int32)) ∧ ((xs 2) = (0 : Int32)) ∧ ((xs 3) = (2 : Int32)) ∧ ((xs 1) = (0 : Int32)) ∧ ((xs 2) = (0 : Int32)) ∧ ((xs 3) = (2 : Int32)) ∧ True from ⟨h0, t1_0, t2_0, t3_2, t1_0, t2_0, t3_2, trivial⟩)
      by_cases t3_3 : (xs 3) = (3 : Int32)
      · exact rOk_of rr457 (show ((rop 3 (xs 0) (31 : Int32)) = (16 : Int32)) ∧ ((xs 1) = (0 : Int32)) ∧ ((xs 2) = (0 : Int32)) ∧ ((xs 3) = (3 : Int32)) ∧ ((xs 1) = (0 : Int32)) ∧ ((xs 2) = (0 : Int32)) ∧ ((xs 3) = (3 : Int32)) ∧ True from ⟨h0, t1_0, t2_0, t3_3, t1_0, t2_0, t3_3, trivial⟩)
      by_cases t3_4 : (xs 3) = (4 : Int32)
      · exact rOk_of rr458 (show ((rop 3 (xs 0) (31 : Int32)) = (16 : Int32)) ∧ ((xs 1) = (0 : Int32)) ∧ ((xs 2) = (0 : Int32)) ∧ ((xs 3) = (4 : Int32)) ∧ ((xs 1) = (0 : Int32)) ∧ ((xs 2) = (0 : Int32)) ∧ ((xs 3) = (4 : Int32)) ∧ True from ⟨h0, t1_0, t2_0, t3_4, t1_0, t2_0, t3_4, trivial⟩)
      by_cases t3_5 : (xs 3) = (5 : Int32)
      · exact rOk_of rr459 (show ((rop 3 (xs 0) (31 : Int32)) = (16 : Int32)) ∧ ((xs 1) = (0 : Int32)) ∧ ((xs 2) = (0 : Int32)) ∧ ((xs 3) = (5 : Int32)) ∧ ((xs 1) = (0 : Int32)) ∧ ((xs 2) = (0 : Int32)) ∧ ((xs 3) = (5 : Int32)) ∧ True from ⟨h0, t1_0, t2_0, t3_5, t1_0, t2_0, t3_5, trivial⟩)
      cases b3 : rcmp 2 (xs 3) (0 : Int32) with
      | true =>
        exact rOk_of rr453 (show ((rop 3 (xs 0) (31 : Int32)) = (16 : Int32)) ∧ ((xs 1) = (0 : Int32)) ∧ ((xs 2) = (0 : Int32)) ∧ (rcmp 2 (xs 3) (0 : Int32) = true) ∧ ((xs 1) = (0 : Int32)) ∧ ((xs 2) = (0 : Int32)) ∧ (rcmp 2 (xs 3) (0 : Int32) = true) ∧ True from ⟨h0, t1_0, t2_0, b3, t1_0, t2_0, b3, trivial⟩)
      | false =>
        exact rOk_of rr452 (show ((rop 3 (xs 0) (31 : Int32)) = (16 : Int32)) ∧ ((xs 1) = (0 : Int32)) ∧ ((xs 2) = (0 : Int32)) ∧ (rcmp 2 (xs 3) (0 : Int32) = false) ∧ (rcmp 4 (xs 3) (5 : Int32) = true) ∧ ((xs 1) = (0 : Int32)) ∧ ((xs 2) = (0 : Int32)) ∧ (rcmp 2 (xs 3) (0 : Int32) = false) ∧ (rcmp 4 (xs 3) (5 : Int32) = true) ∧ True from ⟨h0, t1_0, t2_0, b3, (rg4t (by have z0 := rine t3_0; have z1 := rine t3_1; have z2 := rine t3_2; have z3 := rine t3_3; have z4 := rine t3_4; have z5 := rine t3_5; have z6 := ri2f b3; have y0 := li_0; have y1 := li_1; have y2 := li_2; have y3 := li_3; have y4 := li_4; have y5 := li_5; omega)), t1_0, t2_0, b3, (rg4t (by have z0 := rine t3_0; have z1 := rine t3_1; have z2 := rine t3_2; have z3 := rine t3_3; have z4 := rine t3_4; have z5 := rine t3_5; have z6 := ri2f b3; have y0 := li_0; have y1 := li_1; have y2 := li_2; have y3 := li_3; have y4 := li_4; have y5 := li_5; omega)), trivial⟩)
    by_cases t2_1 : (xs 2) = (1 : Int32)
    · by_cases t3_0 : (xs 3) = (0 : Int32)
      · exact rOk_of rr462 (show ((rop 3 (xs 0) (31 : Int32)) = (16 : Int32)) ∧ ((xs 1) = (0 : Int32)) ∧ ((xs 2) = (1 : Int32)) ∧ ((xs 3) = (0 : Int32)) ∧ ((xs 1) = (0 : Int32)) ∧ ((xs 2) = (1 : Int32)) ∧ ((xs 3) = (0 : Int32)) ∧ True from ⟨h0, t1_0, t2_1, t3_0, t1_0, t2_1, t3_0, trivial⟩)
      by_cases t3_1 : (xs 3) = (1 : Int32)
      · exact rOk_of rr463 (show ((rop 3 (xs 0) (31 : Int32)) = (16 : Int32)) ∧ ((xs 1) = (0 : Int32)) ∧ ((xs 2) = (1 : Int32)) ∧ ((xs 3) = (1 : Int32)) ∧ ((xs 1) = (0 : Int32)) ∧ ((xs 2) = (1 : Int32)) ∧ ((xs 3) = (1 : Int32)) ∧ True from ⟨h0, t1_0, t2_1, t3_1, t1_0, t2_1, t3_1, trivial⟩)
      by_cases t3_2 : (xs 3) = (2 : Int32)
      · exact rOk_of rr464 (show ((rop 3 (xs 0) (31 : Int32)) = (16 : Int32)) ∧ ((xs 1) = (0 : Int32)) ∧ ((xs 2) = (1 : Int32)) ∧ ((xs 3) = (2 : Int32)) ∧ ((xs 1) = (0 : Int32)) ∧ ((xs 2) = (1 : Int32)) ∧ ((xs 3) = (2 : Int32)) ∧ True from ⟨h0, t1_0, t2_1, t3_2, t1_0, t2_1, t3_2, trivial⟩)
      by_cases t3_3 : (xs 3) = (3 : Int32)
      · exact rOk_of rr465 (show ((rop 3 (xs 0) (31 : Int32)) = (16 : Int32)) ∧ ((xs 1) = (0 : Int32)) ∧ ((xs 2) = (1 : Int32)) ∧ ((xs 3) = (3 : Int32)) ∧ ((xs 1) = (0 : Int32)) ∧ ((xs 2) = (1 : Int32)) ∧ ((xs 3) = (3 : Int32)) ∧ True from ⟨h0, t1_0, t2_1, t3_3, t1_0, t2_1, t3_3, trivial⟩)
      by_cases t3_4 : (xs 3) = (4 : Int32)
      · exact rOk_of rr466 (show ((rop 3 (xs 0) (31 : Int32)) = (16 : Int32)) ∧ ((xs 1) = (0 : Int32)) ∧ ((xs 2) = (1 : Int32)) ∧ ((xs 3) = (4 : Int32)) ∧ ((xs 1) = (0 : Int32)) ∧ ((xs 2) = (1 : Int32)) ∧ ((xs 3) = (4 : Int32)) ∧ True from ⟨h0, t1_0, t2_1, t3_4, t1_0, t2_1, t3_4, trivial⟩)
      by_cases t3_5 : (xs 3) = (5 : Int32)
      · exact rOk_of rr467 (show ((rop 3 (xs 0) (31 : Int32)) = (16 : Int32)) ∧ ((xs 1) = (0 : Int32)) ∧ ((xs 2) = (1 : Int32)) ∧ ((xs 3) = (5 : Int32)) ∧ ((xs 1) = (0 : Int32)) ∧ ((xs 2) = (1 : Int32)) ∧ ((xs 3) = (5 : Int32)) ∧ True from ⟨h0, t1_0, t2_1, t3_5, t1_0, t2_1, t3_5, trivial⟩)
      cases b3 : rcmp 2 (xs 3) (0 : Int32) with
      | true =>
        exact rOk_of rr461 (show ((rop 3 (xs 0) (31 : Int32)) = (16 : Int32)) ∧ ((xs 1) = (0 : Int32)) ∧ ((xs 2) = (1 : Int32)) ∧ (rcmp 2 (xs 3) (0 : Int32) = true) ∧ ((xs 1) = (0 : Int32)) ∧ ((xs 2) = (1 : Int32)) ∧ (rcmp 2 (xs 3) (0 : Int32) = true) ∧ True from ⟨h0, t1_0, t2_1, b3, t1_0, t2_1, b3, trivial⟩)
      | false =>
        exact rOk_of rr460 (show ((rop 3 (xs 0) (31 : Int32)) = (16 : Int32)) ∧ ((xs 1) = (0 : Int32)) ∧ ((xs 2) = (1 : Int32)) ∧ (rcmp 2 (xs 3) (0 : Int32) = false) ∧ (rcmp 4 (xs 3) (5 : Int32) = true) ∧ ((xs 1) = (0 : Int32)) ∧ ((xs 2) = (1 : Int32)) ∧ (rcmp 2 (xs 3) (0 : Int32) = false) ∧ (rcmp 4 (xs 3) (5 : Int32) = true) ∧ True from ⟨h0, t1_0, t2_1, b3, (rg4t (by have z0 := rine t3_0; have z1 := rine t3_1; have z2 := rine t3_2; have z3 := rine t3_3; have z4 := rine t3_4; have z5 := rine t3_5; have z6 := ri2f b3; have y0 := li_0; have y1 := li_1; have y2 := li_2; have y3 := li_3; have y4 := li_4; have y5 := li_5; omega)), t1_0, t2_1, b3, (rg4t (by have z0 := rine t3_0; have z1 := rine t3_1; have z2 := rine t3_2; have z3 := rine t3_3; have z4 := rine t3_4; have z5 := rine t3_5; have z6 := ri2f b3; have y0 := li_0; have y1 := li_1; have y2 := li_2; have y3 := li_3; have y4 := li_4; have y5 := li_5; omega)), trivial⟩)
    by_cases t2_2 : (xs 2) = (2 : Int32)
    · by_cases t3_0 : (xs 3) = (0 : Int32)
      · exact rOk_of rr470 (show ((rop 3 (xs 0) (31 : Int32)) = (16 : Int32)) ∧ ((xs 1) = (0 : Int32)) ∧ ((xs 2) = (2 : Int32)) ∧ ((xs 3) = (0 : Int32)) ∧ ((xs 1) = (0 : Int32)) ∧ ((xs 2) = (2 : Int32)) ∧ ((xs 3) = (0 : Int32)) ∧ True from ⟨h0, t1_0, t2_2, t3_0, t1_0, t2_2, t3_0, trivial⟩)
      by_cases t3_1 : (xs 3) = (1 : Int32)
      · exact rOk_of rr471 (show ((rop 3 (xs 0) (31 : Int32)) = (16 : Int32)) ∧ ((xs 1) = (0 : Int32)) ∧ ((xs 2) = (2 : Int32)) ∧ ((xs 3) = (1 : Int32)) ∧ ((xs 1) = (0 : Int32)) ∧ ((xs 2) = (2 : Int32)) ∧ ((xs 3) = (1 : Int32)) ∧ True from ⟨h0, t1_0, t2_2, t3_1, t1_0, t2_2, t3_1, trivial⟩)
      by_cases t3_2 : (xs 3) = (2 : Int32)
      · exact rOk_of rr472 (show ((rop 3 (xs 0) (31 : Int32)) = (16 : Int32)) ∧ ((xs 1) = (0 : Int32)) ∧ ((xs 2) = (2 : Int32)) ∧ ((xs 3) = (2 : Int32)) ∧ ((xs 1) = (0 : Int32)) ∧ ((xs 2) = (2 : Int32)) ∧ ((xs 3) = (2 : Int32)) ∧ True from ⟨h0, t1_0, t2_2, t3_2, t1_0, t2_2, t3_2, trivial⟩)
      by_cases t3_3 : (xs 3) = (3 : Int32)
      · exact rOk_of rr473 (show ((rop 3 (xs 0) (31 : Int32)) = (16 : Int32)) ∧ ((xs 1) = (0 : Int32)) ∧ ((xs 2) = (2 : Int32)) ∧ ((xs 3) = (3 : Int32)) ∧ ((xs 1) = (0 : Int32)) ∧ ((xs 2) = (2 : Int32)) ∧ ((xs 3) = (3 : Int32)) ∧ True from ⟨h0, t1_0, t2_2, t3_3, t1_0, t2_2, t3_3, trivial⟩)
      by_cases t3_4 : (xs 3) = (4 : Int32)
      · exact rOk_of rr474 (show ((rop 3 (xs 0) (31 : Int32)) = (16 : Int32)) ∧ ((xs 1) = (0 : Int32)) ∧ ((xs 2) = (2 : Int32)) ∧ ((xs 3) = (4 : Int32)) ∧ ((xs 1) = (0 : Int32)) ∧ ((xs 2) = (2 : Int32)) ∧ ((xs 3) = (4 : Int32)) ∧ True from ⟨h0, t1_0, t2_2, t3_4, t1_0, t2_2, t3_4, trivial⟩)
      by_cases t3_5 : (xs 3) = (5 : Int32)
      · exact rOk_of rr475 (show ((rop 3 (xs 0) (31 : Int32)) = (16 : Int32)) ∧ ((xs 1) = (0 : Int32)) ∧ ((xs 2) = (2 : Int32)) ∧ ((xs 3) = (5 : Int32)) ∧ ((xs 1) = (0 : Int32)) ∧ ((xs 2) = (2 : Int32)) ∧ ((xs 3) = (5 : Int32)) ∧ True from ⟨h0, t1_0, t2_2, t3_5, t1_0, t2_2, t3_5, trivial⟩)
      cases b3 : rcmp 2 (xs 3) (0 : Int32) with
      | true =>
        exact rOk_of rr469 (show ((rop 3 (xs 0) (31 : Int32)) = (16 : Int32)) ∧ ((xs 1) = (0 : Int32)) ∧ ((xs 2) = (2 : Int32)) ∧ (rcmp 2 (xs 3) (0 : Int32) = true) ∧ ((xs 1) = (0 : Int32)) ∧ ((xs 2) = (2 : Int32)) ∧ (rcmp 2 (xs 3) (0 : Int32) = true) ∧ True from ⟨h0, t1_0, t2_2, b3, t1_0, t2_2, b3, trivial⟩)
      | false =>
        exact rOk_of rr468 (show ((rop 3 (xs 0) (31 : Int32)) = (16 : Int32)) ∧ ((xs 1) = (0 : Int32)) ∧ ((xs 2) = (2 : Int32)) ∧ (rcmp 2 (xs 3) (0 : Int32) = false) ∧ (rcmp 4 (xs 3) (5 : Int32) = true) ∧ ((xs 1) = (0 : Int32)) ∧ ((xs 2) = (2 : Int32)) ∧ (rcmp 2 (xs 3) (0 : Int32) = false) ∧ (rcmp 4 (xs 3) (5 : Int32) = true) ∧ True from ⟨h0, t1_0, t2_2, b3, (rg4t (by have z0 := rine t3_0; have z1 := rine t3_1; have z2 := rine t3_2; have z3 := rine t3_3; have z4 := rine t3_4; have z5 := rine t3_5; have z6 := ri2f b3; have y0 := li_0; have y1 := li_1; have y2 := li_2; have y3 := li_3; have y4 := li_4; have y5 := li_5; omega)), t1_0, t2_2, b3, (rg4t (by have z0 := rine t3_0; have z1 := rine t3_1; have z2 := rine t3_2; have z3 := rine t3_3; have z4 := rine t3_4; have z5 := rine t3_5; have z6 := ri2f b3; have y0 := li_0; have y1 := li_1; have y2 := li_2; have y3 := li_3; have y4 := li_4; have y5 := li_5; omega)), trivial⟩)
    by_cases t2_3 : (xs 2) = (3 : Int32)
    · by_cases t3_0 : (xs 3) = (0 : Int32)
      · exact rOk_of rr478 (show ((rop 3 (xs 0) (31 : Int32)) = (16 : Int32)) ∧ ((xs 1) = (0 : Int32)) ∧ ((xs 2) = (3 : Int32)) ∧ ((xs 3) = (0 : Int32)) ∧ ((xs 1) = (0 : Int32)) ∧ ((xs 2) = (3 : Int32)) ∧ ((xs 3) = (0 : Int32)) ∧ True from ⟨h0, t1_0, t2_3, t3_0, t1_0, t2_3, t3_0, trivial⟩)
      by_cases t3_1 : (xs 3) = (1 : Int32)
      · exact rOk_of rr479 (show ((rop 3 (xs 0) (31 : Int32)) = (16 : Int32)) ∧ ((xs 1) = (0 : Int32)) ∧ ((xs 2) = (3 : Int32)) ∧ ((xs 3) = (1 : Int32)) ∧ ((xs 1) = (0 : Int32)) ∧ ((xs 2) = (3 : Int32)) ∧ ((xs 3) = (1 : Int32)) ∧ True from ⟨h0, t1_0, t2_3, t3_1, t1_0, t2_3, t3_1, trivial⟩)
      by_cases t3_2 : (xs 3) = (2 : Int32)
      · exact rOk_of rr480 (show ((rop 3 (xs 0) (31 : Int32)) = (16 : Int32)) ∧ ((xs 1) = (0 : Int32)) ∧ ((xs 2) = (3 : Int32)) ∧ ((xs 3) = (2 : Int32)) ∧ ((xs 1) = (0 : Int32)) ∧ ((xs 2) = (3 : Int32)) ∧ ((xs 3) = (2 : Int32)) ∧ True from ⟨h0, t1_0, t2_3, t3_2, t1_0, t2_3, t3_2, trivial⟩)
      by_cases t3_3 : (xs 3) = (3 : Int32)
      · exact rOk_of rr481 (show ((rop 3 (xs 0) (31 : Int32)) = (16 : Int32)) ∧ ((xs 1) = (0 : Int32)) ∧ ((xs 2) = (3 : Int32)) ∧ ((xs 3) = (3 : Int32)) ∧ ((xs 1) = (0 : Int32)) ∧ ((xs 2) = (3 : Int32)) ∧ ((xs 3) = (3 : Int32)) ∧ True from ⟨h0, t1_0, t2_3, t3_3, t1_0, t2_3, t3_3, trivial⟩)
      by_cases t3_4 : (xs 3) = (4 : Int32)
      · exact rOk_of rr482 (show ((rop 3 (xs 0) (31 : Int32)) = (16 : Int32)) ∧ ((xs 1) = (0 : Int32)) ∧ ((xs 2) = (3 : Int32)) ∧ ((xs 3) = (4 : Int32)) ∧ ((xs 1) = (0 : Int32)) ∧ ((xs 2) = (3 : Int32)) ∧ ((xs 3) = (4 : Int32)) ∧ True from ⟨h0, t1_0, t2_3, t3_4, t1_0, t2_3, t3_4, trivial⟩)
      by_cases t3_5 : (xs 3) = (5 : Int32)
      · exact rOk_of rr483 (show ((rop 3 (xs 0) (31 : Int32)) = (16 : Int32)) ∧ ((xs 1) = (0 : Int32)) ∧ ((xs 2) = (3 : Int32)) ∧ ((xs 3) = (5 : Int32)) ∧ ((xs 1) = (0 : Int32)) ∧ ((xs 2) = (3 : Int32)) ∧ ((xs 3) = (5 : Int32)) ∧ True from ⟨h0, t1_0, t2_3, t3_5, t1_0, t2_3, t3_5, trivial⟩)
      cases b3 : rcmp 2 (xs 3) (0 : Int32) with
      | true =>
        exact rOk_of rr477 (show ((rop 3 (xs 0) (31 : Int32)) = (16 : Int32)) ∧ ((xs 1) = (0 : Int32)) ∧ ((xs 2) = (3 : Int32)) ∧ (rcmp 2 (xs 3) (0 : Int32) = true) ∧ ((xs 1) = (0 : Int32)) ∧ ((xs 2) = (3 : Int32)) ∧ (rcmp 2 (xs 3) (0 : Int32) = true) ∧ True from ⟨h0, t1_0, t2_3, b3, t1_0, t2_3, b3, trivial⟩)
      | false =>
        exact rOk_of rr476 (show ((rop 3 (xs 0) (31 : Int32)) = (16 : Int32)) ∧ ((xs 1) = (0 : Int32)) ∧ ((xs 2) = (3 : Int32)) ∧ (rcmp 2 (xs 3) (0 : Int32) = false) ∧ (rcmp 4 (xs 3) (5 : Int32) = true) ∧ ((xs 1) = (0 : Int32)) ∧ ((xs 2) = (3 : Int32)) ∧ (rcmp 2 (xs 3) (0 : Int32) = false) ∧ (rcmp 4 (xs 3) (5 : Int32) = true) ∧ True from ⟨h0, t1_0, t2_3, b3, (rg4t (by have z0 := rine t3_0; have z1 := rine t3_1; have z2 := rine t3_2; have z3 := rine t3_3; have z4 := rine t3_4; have z5 := rine t3_5; have z6 := ri2f b3; have y0 := li_0; have y1 := li_1; have y2 := li_2; have y3 := li_3; have y4 := li_4; have y5 := li_5; omega)), t1_0, t2_3, b3, (rg4t (by have z0 := rine t3_0; have z1 := rine t3_1; have z2 := rine t3_2; have z3 := rine t3_3; have z4 := rine t3_4; have z5 := rine t3_5; have z6 := ri2f b3; have y0 := li_0; have y1 := li_1; have y2 := li_2; have y3 := li_3; have y4 := li_4; have y5 := li_5; omega)), trivial⟩)
    cases b2 : rcmp 2 (xs 2) (0 : Int32) with
    | true =>
      exact rOk_of rr451 (show ((rop 3 (xs 0) (31 : Int32)) = (16 : Int32)) ∧ ((xs 1) = (0 : Int32)) ∧ (rcmp 2 (xs 2) (0 : Int32) = true) ∧ ((xs 1) = (0 : Int32)) ∧ (rcmp 2 (xs 2) (0 : Int32) = true) ∧ True from ⟨h0, t1_0, b2, t1_0, b2, trivial⟩)
    | false =>
      exact rOk_of rr450 (show ((rop 3 (xs 0) (31 : Int32)) = (16 : Int32)) ∧ ((xs 1) = (0 : Int32)) ∧ (rcmp 2 (xs 2) (0 : Int32) = false) ∧ (rcmp 4 (xs 2) (3 : Int32) = true) ∧ ((xs 1) = (0 : Int32)) ∧ (rcmp 2 (xs 2) (0 : Int32) = false) ∧ (rcmp 3 (xs 2) (4 : Int32) = true) ∧ True from ⟨h0, t1_0, b2, (rg4t (by have z0 := rine t2_0; have z1 := rine t2_1; have z2 := rine t2_2; have z3 := rine t2_3; have z4 := ri2f b2; have y0 := li_0; have y1 := li_1; have y2 := li_2; have y3 := li_3; omega)), t1_0, b2, (rg3t (by have z0 := rine t2_0; have z1 := rine t2_1; have z2 := rine t2_2; have z3 := rine t2_3; have z4 := ri2f b2; have y0 := li_0; have y1 := li_1; have y2 := li_2; have y3 := li_3; have y4 := li_4; omega)), trivial⟩)
  by_cases t1_1 : (xs 1) = (1 : Int32)
  · by_cases t2_0 : (xs 2) = (0 : Int32)
    · by_cases t3_0 : (xs 3) = (0 : Int32)
      · exact rOk_of rr488 (show ((rop 3 (xs 0) (31 : Int32)) = (16 : Int32)) ∧ ((xs 1) = (1 : Int32)) ∧ ((xs 2) = (0 : Int32)) ∧ ((xs 3) = (0 : Int32)) ∧ ((xs 1) = (1 : Int32)) ∧ ((xs 2) = (0 : Int32)) ∧ ((xs 3) = (0 : Int32)) ∧ True from ⟨h0, t1_1, t2_0, t3_0, t1_1, t2_0, t3_0, trivial⟩)
      by_cases t3_1 : (xs 3) = (1 : Int32)
      · exact rOk_of rr489 (show ((rop 3 (xs 0) (31 : Int32)) = (16 : Int32)) ∧ ((xs 1) = (1 : Int32)) ∧ ((xs 2) = (0 : Int32)) ∧ ((xs 3) = (1 : Int32)) ∧ ((xs 1) = (1 : Int32)) ∧ ((xs 2) = (0 : Int32)) ∧ ((xs 3) = (1 : Int32)) ∧ True from ⟨h0, t1_1, t2_0, t3_1, t1_1, t2_0, t3_1, trivial⟩)
      by_cases t3_2 : (xs 3) = (2 : Int32)
      · exact rOk_of rr490 (show ((rop 3 (xs 0) (31 : Int32)) = (16 : Int32)) ∧ ((xs 1) = (1 : Int32)) ∧ ((xs 2) = (0 : Int32)) ∧ ((xs 3) = (2 : Int32)) ∧ ((xs 1) = (1 : Int32)) ∧ ((xs 2) = (0 : Int32)) ∧ ((xs 3) = (2 : Int32)) ∧ True from ⟨h0, t1_1, t2_0, t3_2, t1_1, t2_0, t3_2, trivial⟩)
      by_cases t3_3 : (xs 3) = (3 : Int32)
      · exact rOk_of rr491 (show ((rop 3 (xs 0) (31 : Int32)) = (16 : Int32)) ∧ ((xs 1) = (1 : Int32)) ∧ ((xs 2) = (0 : Int32)) ∧ ((xs 3) = (3 : Int32)) ∧ ((xs 1) = (1 : Int32)) ∧ ((xs 2) = (0 : Int32)) ∧ ((xs 3) = (3 : Int32)) ∧ True from ⟨h0, t1_1, t2_0, t3_3, t1_1, t2_0, t3_3, trivial⟩)
      by_cases t3_4 : (xs 3) = (4 : Int32)
      · exact rOk_of rr492 (show ((rop 3 (xs 0) (31 : Int32)) = (16 : Int32)) ∧ ((xs 1) = (1 : Int32)) ∧ ((xs 2) = (0 : Int32)) ∧ ((xs 3) = (4 : Int32)) ∧ ((xs 1) = (1 : Int32)) ∧ ((xs 2) = (0 : Int32)) ∧ ((xs 3) = (4 : Int32)) ∧ True from ⟨h0, t1_1, t2_0, t3_4, t1_1, t2_0, t3_4, trivial⟩)
      by_cases t3_5 : (xs 3) = (5 : Int32)
      · exact rOk_of rr493 (show ((rop 3 (xs 0) (31 : Int32)) = (16 : Int32)) ∧ ((xs 1) = (1 : Int32)) ∧ ((xs 2) = (0 : Int32)) ∧ ((xs 3) = (5 : Int32)) ∧ ((xs 1) = (1 : Int32)) ∧ ((xs 2) = (0 : Int32)) ∧ ((xs 3) = (5 : Int32)) ∧ True from ⟨h0, t1_1, t2_0, t3_5, t1_1, t2_0, t3_5, trivial⟩)
      cases b3 : rcmp 2 (xs 3) (0 : Int32) with
      | true =>
        exact rOk_of rr487 (show ((rop 3 (xs 0) (31 : Int32)) = (16 : Int32)) ∧ ((xs 1) = (1 : Int32)) ∧ ((xs 2) = (0 : Int32)) ∧ (rcmp 2 (xs 3) (0 : Int32) = true) ∧ ((xs 1) = (1 : Int32)) ∧ ((xs 2) = (0 : Int32)) ∧ (rcmp 2 (xs 3) (0 : Int32) = true) ∧ True from ⟨h0, t1_1, t2_0, b3, t1_1, t2_0, b3, trivial⟩)
      | false =>
        exact rOk_of rr486 (show ((rop 3 (xs 0) (31 : Int32)) = (16 : Int32)) ∧ ((xs 1) = (1 : Int32)) ∧ ((xs 2) = (0 : Int32)) ∧ (rcmp 2 (xs 3) (0 : Int32) = false) ∧ (rcmp 4 (xs 3) (5 : Int32) = true) ∧ ((xs 1) = (1 : Int32)) ∧ ((xs 2) = (0 : Int32)) ∧ (rcmp 2 (xs 3) (0 : Int32) = false) ∧ (rcmp 4 (xs 3) (5 : Int32) = true) ∧ True from ⟨h0, t1_1, t2_0, b3, (rg4t (by have z0 := rine t3_0; have z1 := rine t3_1; have z2 := rine t3_2; have z3 := rine t3_3; have z4 := rine t3_4; have z5 := rine t3_5; have z6 := ri2f b3; have y0 := li_0; have y1 := li_1; have y2 := li_2; have y3 := li_3; have y4 := li_4; have y5 := li_5; omega)), t1_1, t2_0, b3, (rg4t (by have z0 := rine t3_0; have z1 := rine t3_1; have z2 := rine t3_2; have z3 := rine t3_3; have z4 := rine t3_4; have z5 := rine t3_5; have z6 := ri2f b3; have y0 := li_0; have y1 := li_1; have y2 := li_2; have y3 := li_3; have y4 := li_4; have y5 := li_5; omega)), trivial⟩)
    by_cases t2_1 : (xs 2) = (1 : Int32)
    · by_cases t3_0 : (xs 3) = (0 : Int32)
      · exact rOk_of rr496 (show ((rop 3 (xs 0) (31 : Int32)) = (16 : Int32)) ∧ ((xs 1) = (1 : Int32)) ∧ ((xs 2) = (1 : Int32)) ∧ ((xs 3) = (0 : Int32)) ∧ ((xs 1) = (1 : Int32)) ∧ ((xs 2) = (1 : Int32)) ∧ ((xs 3) = (0 : Int32)) ∧ True from ⟨h0, t1_1, t2_1, t3_0, t1_1, t2_1, t3_0, trivial⟩)
      by_cases t3_1 : (xs 3) = (1 : Int32)
      · exact rOk_of rr497 (show ((rop 3 (xs 0) (31 : Int32)) = (16 : Int32)) ∧ ((xs 1) = (1 : Int32)) ∧ ((xs 2) = (1 : Int32)) ∧ ((xs 3) = (1 : Int32)) ∧ ((xs 1) = (1 : Int32)) ∧ ((xs 2) = (1 : Int32)) ∧ ((xs 3) = (1 : Int32)) ∧ True from ⟨h0, t1_1, t2_1, t3_1, t1_1, t2_1, t3_1, trivial⟩)
      by_cases t3_2 : (xs 3) = (2 : Int32)
      · exact rOk_of rr498 (show ((rop 3 (xs 0) (31 : Int32)) = (16 : Int32)) ∧ ((xs 1) = (1 : Int32)) ∧ ((xs 2) = (1 : Int32)) ∧ ((xs 3) = (2 : Int32)) ∧ ((xs 1) = (1 : Int32)) ∧ ((xs 2) = (1 : Int32)) ∧ ((xs 3) = (2 : Int32)) ∧ True from ⟨h0, t1_1, t2_1, t3_2, t1_1, t2_1, t3_2, trivial⟩)
      by_cases t3_3 : (xs 3) = (3 : Int32)
      · exact rOk_of rr499 (show ((rop 3 (xs 0) (31 : Int32)) = (16 : Int32)) ∧ ((xs 1) = (1 : Int32)) ∧ ((xs 2) = (1 : Int32)) ∧ ((xs 3) = (3 : Int32)) ∧ ((xs 1) = (1 : Int32)) ∧ ((xs 2) = (1 : Int32)) ∧ ((xs 3) = (3 : Int32)) ∧ True from ⟨h0, t1_1, t2_1, t3_3, t1_1, t2_1, t3_3, trivial⟩)
      by_cases t3_4 : (xs 3) = (4 : Int32)
      · exact rOk_of rr500 (show ((rop 3 (xs 0) (31 : Int32)) = (16 : Int32)) ∧ ((xs 1) = (1 : Int32)) ∧ ((xs 2) = (1 : Int32)) ∧ ((xs 3) = (4 : Int32)) ∧ ((xs 1) = (1 : Int32)) ∧ ((xs 2) = (1 : Int32)) ∧ ((xs 3) = (4 : Int32)) ∧ True from ⟨h0, t1_1, t2_1, t3_4, t1_1, t2_1, t3_4, trivial⟩)
      by_cases t3_5 : (xs 3) = (5 : Int32)
      · exact rOk_of rr501 (show ((rop 3 (xs 0) (31 : Int32)) = (16 : Int32)) ∧ ((xs 1) = (1 : Int32)) ∧ ((xs 2) = (1 : Int32)) ∧ ((xs 3) = (5 : Int32)) ∧ ((xs 1) = (1 : Int32)) ∧ ((xs 2) = (1 : Int32)) ∧ ((xs 3) = (5 : Int32)) ∧ True from ⟨h0, t1_1, t2_1, t3_5, t1_1, t2_1, t3_5, trivial⟩)
      cases b3 : rcmp 2 (xs 3) (0 : Int32) with
      | true =>
        exact rOk_of rr495 (show ((rop 3 (xs 0) (31 : Int32)) = (16 : Int32)) ∧ ((xs 1) = (1 : Int32)) ∧ ((xs 2) = (1 : Int32)) ∧ (rcmp 2 (xs 3) (0 : Int32) = true) ∧ ((xs 1) = (1 : Int32)) ∧ ((xs 2) = (1 : Int32)) ∧ (rcmp 2 (xs 3) (0 : Int32) = true) ∧ True from ⟨h0, t1_1, t2_1, b3, t1_1, t2_1, b3, trivial⟩)
      | false =>
        exact rOk_of rr494 (show ((rop 3 (xs 0) (31 : Int32)) = (16 : Int32)) ∧ ((xs 1) = (1 : Int32)) ∧ ((xs 2) = (1 : Int32)) ∧ (rcmp 2 (xs 3) (0 : Int32) = false) ∧ (rcmp 4 (xs 3) (5 : Int32) = true) ∧ ((xs 1) = (1 : Int32)) ∧ ((xs 2) = (1 : Int32)) ∧ (rcmp 2 (xs 3) (0 : Int32) = false) ∧ (rcmp 4 (xs 3) (5 : Int32) = true) ∧ True from ⟨h0, t1_1, t2_1, b3, (rg4t (by have z0 := rine t3_0; have z1 := rine t3_1; have z2 := rine t3_2; have z3 := rine t3_3; have z4 := rine t3_4; have z5 := rine t3_5; have z6 := ri2f b3; have y0 := li_0; have y1 := li_1; have y2 := li_2; have y3 := li_3; have y4 := li_4; have y5 := li_5; omega)), t1_1, t2_1, b3, (rg4t (by have z0 := rine t3_0; have z1 := rine t3_1; have z2 := rine t3_2; have z3 := rine t3_3; have z4 := rine t3_4; have z5 := rine t3_5; have z6 := ri2f b3; have y0 := li_0; have y1 := li_1; have y2 := li_2; have y3 := li_3; have y4 := li_4; have y5 := li_5; omega)), trivial⟩)
    by_cases t2_2 : (xs 2) = (2 : Int32)
    · by_cases t3_0 : (xs 3) = (0 : Int32)
      · exact rOk_of rr504 (show ((rop 3 (xs 0) (31 : Int32)) = (16 : Int32)) ∧ ((xs 1) = (1 : Int32)) ∧ ((xs 2) = (2 : Int32)) ∧ ((xs 3) = (0 : Int32)) ∧ ((xs 1) = (1 : Int32)) ∧ ((xs 2) = (2 : Int32)) ∧ ((xs 3) = (0 : Int32)) ∧ True from ⟨h0, t1_1, t2_2, t3_0, t1_1, t2_2, t3_0, trivial⟩)
      by_cases t3_1 : (xs 3) = (1 : Int32)
      · exact rOk_of rr505 (show ((rop 3 (xs 0) (31 : Int32)) = (16 : Int32)) ∧ ((xs 1) = (1 : Int32)) ∧ ((xs 2) = (2 : Int32)) ∧ ((xs 3) = (1 : Int32)) ∧ ((xs 1) = (1 : Int32)) ∧ ((xs 2) = (2 : Int32)) ∧ ((xs 3) = (1 : Int32)) ∧ True from ⟨h0, t1_1, t2_2, t3_1, t1_1, t2_2, t3_1, trivial⟩)
      by_cases t3_2 : (xs 3) = (2 : Int32)
      · exact rOk_of rr506 (show ((rop 3 (xs 0) (31 : Int32)) = (16 : Int32)) ∧ ((xs 1) = (1 : Int32)) ∧ ((xs 2) = (2 : Int32)) ∧ ((xs 3) = (2 : Int32)) ∧ ((xs 1) = (1 : Int32)) ∧ ((xs 2) = (2 : Int32)) ∧ ((xs 3) = (2 : Int32)) ∧ True from ⟨h0, t1_1, t2_2, t3_2, t1_1, t2_2, t3_2, trivial⟩)
      by_cases t3_3 : (xs 3) = (3 : Int32)
      · exact rOk_of rr507 (show ((rop 3 (xs 0) (31 : Int32)) = (16 : Int32)) ∧ ((xs 1) = (1 : Int32)) ∧ ((xs 2) = (2 : Int32)) ∧ ((xs 3) = (3 : Int32)) ∧ ((xs 1) = (1 : Int32)) ∧ ((xs 2) = (2 : Int32)) ∧ ((xs 3) = (3 : Int32)) ∧ True from ⟨h0, t1_1, t2_2, t3_3, t1_1, t2_2, t3_3, trivial⟩)
      by_cases t3_4 : (xs 3) = (4 : Int32)
      · exact rOk_of rr508 (show ((rop 3 (xs 0) (31 : Int32)) = (16 : Int32)) ∧ ((xs 1) = (1 : Int32)) ∧ ((xs 2) = (2 : Int32)) ∧ ((xs 3) = (4 : Int32)) ∧ ((xs 1) = (1 : Int32)) ∧ ((xs 2) = (2 : Int32)) ∧ ((xs 3) = (4 : Int32)) ∧ True from ⟨h0, t1_1, t2_2, t3_4, t1_1, t2_2, t3_4, trivial⟩)
      by_cases t3_5 : (xs 3) = (5 : Int32)
      · exact rOk_of rr509 (show ((rop 3 (xs 0) (31 : Int32)) = (16 : Int32)) ∧ ((xs 1) = (1 : Int32)) ∧ ((xs 2) = (2 : Int32)) ∧ ((xs 3) = (5 : Int32)) ∧ ((xs 1) = (1 : Int32)) ∧ ((xs 2) = (2 : Int32)) ∧ ((xs 3) = (5 : Int32)) ∧ True from ⟨h0, t1_1, t2_2, t3_5, t1_1, t2_2, t3_5, trivial⟩)
      cases b3 : rcmp 2 (xs 3) (0 : Int32) with
      | true =>
        exact rOk_of rr503 (show ((rop 3 (xs 0) (31 : Int32)) = (16 : Int32)) ∧ ((xs 1) = (1 : Int32)) ∧ ((xs 2) = (2 : Int32)) ∧ (rcmp 2 (xs 3) (0 : Int32) = true) ∧ ((xs 1) = (1 : Int32)) ∧ ((xs 2) = (2 : Int32)) ∧ (rcmp 2 (xs 3) (0 : Int32) = true) ∧ True from ⟨h0, t1_1, t2_2, b3, t1_1, t2_2, b3, trivial⟩)
      | false =>
        exact rOk_of rr502 (show ((rop 3 (xs 0) (31 : Int32)) = (16 : Int32)) ∧ ((xs 1) = (1 : Int32)) ∧ ((xs 2) = (2 : Int32)) ∧ (rcmp 2 (xs 3) (0 : Int32) = false) ∧ (rcmp 4 (xs 3) (5 : Int32) = true) ∧ ((xs 1) = (1 : Int32)) ∧ ((xs 2) = (2 : Int32)) ∧ (rcmp 2 (xs 3) (0 : Int32) = false) ∧ (rcmp 4 (xs 3) (5 : Int32) = true) ∧ True from ⟨h0, t1_1, t2_2, b3, (rg4t (by have z0 := rine t3_0; have z1 := rine t3_1; have z2 := rine t3_2; have z3 := rine t3_3; have z4 := rine t3_4; have z5 := rine t3_5; have z6 := ri2f b3; have y0 := li_0; have y1 := li_1; have y2 := li_2; have y3 := li_3; have y4 := li_4; have y5 := li_5; omega)), t1_1, t2_2, b3, (rg4t (by have z0 := rine t3_0; have z1 := rine t3_1; have z2 := rine t3_2; have z3 := rine t3_3; have z4 := rine t3_4; have z5 := rine t3_5; have z6 := ri2f b3; have y0 := li_0; have y1 := li_1; have y2 := li_2; have y3 := li_3; have y4 := li_4; have y5 := li_5; omega)), trivial⟩)
    by_cases t2_3 : (xs 2) = (3 : Int32)
    · by_cases t3_0 : (xs 3) = (0 : Int32)
      · exact rOk_of rr512 (show ((rop 3 (xs 0) (31 : Int32)) = (16 : Int32)) ∧ ((xs 1) = (1 : Int32)) ∧ ((xs 2) = (3 : Int32)) ∧ ((xs 3) = (0 : Int32)) ∧ ((xs 1) = (1 : Int32)) ∧ ((xs 2) = (3 : Int32)) ∧ ((xs 3) = (0 : Int32)) ∧ True from ⟨h0, t1_1, t2_3, t3_0, t1_1, t2_3, t3_0, trivial⟩)
      by_cases t3_1 : (xs 3) = (1 : Int32)
      · exact rOk_of rr513 (show ((rop 3 (xs 0) (31 : Int32)) = (16 : Int32)) ∧ ((xs 1) = (1 : Int32)) ∧ ((xs 2) = (3 : Int32)) ∧ ((xs 3) = (1 : Int32)) ∧ ((xs 1) = (1 : Int32)) ∧ ((xs 2) = (3 : Int32)) ∧ ((xs 3) = (1 : Int32)) ∧ True from ⟨h0, t1_1, t2_3, t3_1, t1_1, t2_3, t3_1, trivial⟩)
      by_cases t3_2 : (xs 3) = (2 : Int32)
      · exact rOk_of rr514 (show ((rop 3 (xs 0) (31 : Int32)) = (16 : Int32)) ∧ ((xs 1) = (1 : Int32)) ∧ ((xs 2) = (3 : Int32)) ∧ ((xs 3) = (2 : Int32)) ∧ ((xs 1) = (1 : Int32)) ∧ ((xs 2) = (3 : Int32)) ∧ ((xs 3) = (2 : Int32)) ∧ True from ⟨h0, t1_1, t2_3, t3_2, t1_1, t2_3, t3_2, trivial⟩)
      by_cases t3_3 : (xs 3) = (3 : Int32)
      · exact rOk_of rr515 (show ((rop 3 (xs 0) (31 : Int32)) = (16 : Int32)) ∧ ((xs 1) = (1 : Int32)) ∧ ((xs 2) = (3 : Int32)) ∧ ((xs 3) = (3 : Int32)) ∧ ((xs 1) = (1 : Int32)) ∧ ((xs 2) = (3 : Int32)) ∧ ((xs 3) = (3 : Int32)) ∧ True from ⟨h0, t1_1, t2_3, t3_3, t1_1, t2_3, t3_3, trivial⟩)
      by_cases t3_4 : (xs 3) = (4 : Int32)
      · exact rOk_of rr516 (show ((rop 3 (xs 0) (31 : Int32)) = (16 : Int32)) ∧ ((xs 1) = (1 : Int32)) ∧ ((xs 2) = (3 : Int32)) ∧ ((xs 3) = (4 : Int32)) ∧ ((xs 1) = (1 : Int32)) ∧ ((xs 2) = (3 : Int32)) ∧ ((xs 3) = (4 : Int32)) ∧ True from ⟨h0, t1_1, t2_3, t3_4, t1_1, t2_3, t3_4, trivial⟩)
      by_cases t3_5 : (xs 3) = (5 : Int32)
      · exact rOk_of rr517 (show ((rop 3 (xs 0) (31 : Int32)) = (16 : Int32)) ∧ ((xs 1) = (1 : Int32)) ∧ ((xs 2) = (3 : Int32)) ∧ ((xs 3) = (5 : Int32)) ∧ ((xs 1) = (1 : Int32)) ∧ ((xs 2) = (3 : Int32)) ∧ ((xs 3) = (5 : Int32)) ∧ True from ⟨h0, t1_1, t2_3, t3_5, t1_1, t2_3, t3_5, trivial⟩)
      cases b3 : rcmp 2 (xs 3) (0 : Int32) with
      | true =>
        exact rOk_of rr511 (show ((rop 3 (xs 0) (31 : Int32)) = (16 : Int32)) ∧ ((xs 1) = (1 : Int32)) ∧ ((xs 2) = (3 : Int32)) ∧ (rcmp 2 (xs 3) (0 : Int32) = true) ∧ ((xs 1) = (1 : Int32)) ∧ ((xs 2) = (3 : Int32)) ∧ (rcmp 2 (xs 3) (0 : Int32) = true) ∧ True from ⟨h0, t1_1, t2_3, b3, t1_1, t2_3, b3, trivial⟩)
      | false =>
        exact rOk_of rr510 (show ((rop 3 (xs 0) (31 : Int32)) = (16 : Int32)) ∧ ((xs 1) = (1 : Int32)) ∧ ((xs 2) = (3 : Int32)) ∧ (rcmp 2 (xs 3) (0 : Int32) = false) ∧ (rcmp 4 (xs 3) (5 : Int32) = true) ∧ ((xs 1) = (1 : Int32)) ∧ ((xs 2) = (3 : Int32)) ∧ (rcmp 2 (xs 3) (0 : Int32) = false) ∧ (rcmp 4 (xs 3) (5 : Int32) = true) ∧ True from ⟨h0, t1_1, t2_3, b3, (rg4t (by have z0 := rine t3_0; have z1 := rine t3_1; have z2 := rine t3_2; have z3 := rine t3_3; have z4 := rine t3_4; have z5 := rine t3_5; have z6 := ri2f b3; have y0 := li_0; have y1 := li_1; have y2 := li_2; have y3 := li_3; have y4 := li_4; have y5 := li_5; omega)), t1_1, t2_3, b3, (rg4t (by have z0 := rine t3_0; have z1 := rine t3_1; have z2 := rine t3_2; have z3 := rine t3_3; have z4 := rine t3_4; have z5 := rine t3_5; have z6 := ri2f b3; have y0 := li_0; have y1 := li_1; have y2 := li_2; have y3 := li_3; have y4 := li_4; have y5 := li_5; omega)), trivial⟩)
    cases b2 : rcmp 2 (xs 2) (0 : Int32) with
    | true =>
      exact rOk_of rr485 (show ((rop 3 (xs 0) (31 : Int32)) = (16 : Int32)) ∧ ((xs 1) = (1 : Int32)) ∧ (rcmp 2 (xs 2) (0 : Int32) = true) ∧ ((xs 1) = (1 : Int32)) ∧ (rcmp 2 (xs 2) (0 : Int32) = true) ∧ True from ⟨h0, t1_1, b2, t1_1, b2, trivial⟩)
    | false =>
      exact rOk_of rr484 (show ((rop 3 (xs 0) (31 : Int32)) = (16 : Int32)) ∧ ((xs 1) = (1 : Int32)) ∧ (rcmp 2 (xs 2) (0 : Int32) = false) ∧ (rcmp 4 (xs 2) (3 : Int32) = true) ∧ ((xs 1) = (1 : Int32)) ∧ (rcmp 2 (xs 2) (0 : Int32) = false) ∧ (rcmp 3 (xs 2) (4 : Int32) = true) ∧ True from ⟨h0, t1_1, b2, (rg4t (by have z0 := rine t2_0; have z1 := rine t2_1; have z2 := rine t2_2; have z3 := rine t2_3; have z4 := ri2f b2; have y0 := li_0; have y1 := li_1; have y2 := li_2; have y3 := li_3; omega)), t1_1, b2, (rg3t (by have z0 := rine t2_0; have z1 := rine t2_1; have z2 := rine t2_2; have z3 := rine t2_3; have z4 := ri2f b2; have y0 := li_0; have y1 := li_1; have y2 := li_2; have y3 := li_3; have y4 := li_4; omega)), trivial⟩)
  by_cases t1_2 : (xs 1) = (2 : Int32)
  · by_cases t2_0 : (xs 2) = (0 : Int32)
    · by_cases t3_0 : (xs 3) = (0 : Int32)
      · exact rOk_of rr522 (show ((rop 3 (xs 0) (31 : Int32)) = (16 : Int32)) ∧ ((xs 1) = (2 : Int32)) ∧ ((xs 2) = (0 : Int32)) ∧ ((xs 3) = (0 : Int32)) ∧ ((xs 1) = (2 : Int32)) ∧ ((xs 2) = (0 : Int32)) ∧ ((xs 3) = (0 : Int32)) ∧ True from ⟨h0, t1_2, t2_0, t3_0, t1_2, t2_0, t3_0, trivial⟩)
      by_cases t3_1 : (xs 3) = (1 : Int32)
      · exact rOk_of rr523 (show ((rop 3 (xs 0) (31 : Int32)) = (16 : Int32)) ∧ ((xs 1) = (2 : Int32)) ∧ ((xs 2) = (0 : Int32)) ∧ ((xs 3) = (1 : Int32)) ∧ ((xs 1) = (2 : Int32)) ∧ ((xs 2) = (0 : Int32)) ∧ ((xs 3) = (1 : Int32)) ∧ True from ⟨h0, t1_2, t2_0, t3_1, t1_2, t2_0, t3_1, trivial⟩)
      by_cases t3_2 : (xs 3) = (2 : Int32)
      · exact rOk_of rr524 (show ((rop 3 (xs 0) (31 : Int32)) = (16 : Int32)) ∧ ((xs 1) = (2 : Int32)) ∧ ((xs 2) = (0 : Int32)) ∧ ((xs 3) = (2 : Int32)) ∧ ((xs 1) = (2 : Int32)) ∧ ((xs 2) = (0 : Int32)) ∧ ((xs 3) = (2 : Int32)) ∧ True from ⟨h0, t1_2, t2_0, t3_2, t1_2, t2_0, t3_2, trivial⟩)
      by_cases t3_3 : (xs 3) = (3 : Int32)
      · exact rOk_of rr525 (show ((rop 3 (xs 0) (31 : Int32)) = (16 : Int32)) ∧ ((xs 1) = (2 : Int32)) ∧ ((xs 2) = (0 : Int32)) ∧ ((xs 3) = (3 : Int32)) ∧ ((xs 1) = (2 : Int32)) ∧ ((xs 2) = (0 : Int32)) ∧ ((xs 3) = (3 : Int32)) ∧ True from ⟨h0, t1_2, t2_0, t3_3, t1_2, t2_0, t3_3, trivial⟩)
      by_cases t3_4 : (xs 3) = (4 : Int32)
      · exact rOk_of rr526 (show ((rop 3 (xs 0) (31 : Int32)) = (16 : Int32)) ∧ ((xs 1) = (2 : Int32)) ∧ ((xs 2) = (0 : Int32)) ∧ ((xs 3) = (4 : Int32)) ∧ ((xs 1) = (2 : Int32)) ∧ ((xs 2) = (0 : Int32)) ∧ ((xs 3) = (4 : Int32)) ∧ True from ⟨h0, t1_2, t2_0, t3_4, t1_2, t2_0, t3_4, trivial⟩)
      by_cases t3_5 : (xs 3) = (5 : Int32)
      · exact rOk_of rr527 (show ((rop 3 (xs 0) (31 : Int32)) = (16 : Int32)) ∧ ((xs 1) = (2 : Int32)) ∧ ((xs 2) = (0 : Int32)) ∧ ((xs 3) = (5 : Int32)) ∧ ((xs 1) = (2 : Int32)) ∧ ((xs 2) = (0 : Int32)) ∧ ((xs 3) = (5 : Int32)) ∧ True from ⟨h0, t1_2, t2_0, t3_5, t1_2, t2_0, t3_5, trivial⟩)
      cases b3 : rcmp 2 (xs 3) (0 : Int32) with
      | true =>
        exact rOk_of rr521 (show ((rop 3 (xs 0) (31 : Int32)) = (16 : Int32)) ∧ ((xs 1) = (2 : Int32)) ∧ ((xs 2) = (0 : Int32)) ∧ (rcmp 2 (xs 3) (0 : Int32) = true) ∧ ((xs 1) = (2 : Int32)) ∧ ((xs 2) = (0 : Int32)) ∧ (rcmp 2 (xs 3) (0 : Int32) = true) ∧ True from ⟨h0, t1_2, t2_0, b3, t1_2, t2_0, b3, trivial⟩)
      | false =>
        exact rOk_of rr520 (show ((rop 3 (xs 0) (31 : Int32)) = (16 : Int32)) ∧ ((xs 1) = (2 : Int32)) ∧ ((xs 2) = (0 : Int32)) ∧ (rcmp 2 (xs 3) (0 : Int32) = false) ∧ (rcmp 4 (xs 3) (5 : Int32) = true) ∧ ((xs 1) = (2 : Int32)) ∧ ((xs 2) = (0 : Int32)) ∧ (rcmp 2 (xs 3) (0 : Int32) = false) ∧ (rcmp 4 (xs 3) (5 : Int32) = true) ∧ True from ⟨h0, t1_2, t2_0, b3, (rg4t (by have z0 := rine t3_0; have z1 := rine t3_1; have z2 := rine t3_2; have z3 := rine t3_3; have z4 := rine t3_4; have z5 := rine t3_5; have z6 := ri2f b3; have y0 := li_0; have y1 := li_1; have y2 := li_2; have y3 := li_3; have y4 := li_4; have y5 := li_5; omega)), t1_2, t2_0, b3, (rg4t (by have z0 := rine t3_0; have z1 := rine t3_1; have z2 := rine t3_2; have z3 := rine t3_3; have z4 := rine t3_4; have z5 := rine t3_5; have z6 := ri2f b3; have y0 := li_0; have y1 := li_1; have y2 := li_2; have y3 := li_3; have y4 := li_4; have y5 := li_5; omega)), trivial⟩)
    by_cases t2_1 : (xs 2) = (1 : Int32)
    · by_cases t3_0 : (xs 3) = (0 : Int32)
      · exact rOk_of rr530 (show ((rop 3 (xs 0) (31 : Int32)) = (16 : Int32)) ∧ ((xs 1) = (2 : Int32)) ∧ ((xs 2) = (1 : Int32)) ∧ ((xs 3) = (0 : Int32)) ∧ ((xs 1) = (2 : Int32)) ∧ ((xs 2) = (1 : Int32)) ∧ ((xs 3) = (0 : Int32)) ∧ True from ⟨h0, t1_2, t2_1, t3_0, t1_2, t2_1, t3_0, trivial⟩)
      by_cases t3_1 : (xs 3) = (1 : Int32)
      · exact rOk_of rr531 (show ((rop 3 (xs 0) (31 : Int32)) = (16 : Int32)) ∧ ((xs 1) = (2 : Int32)) ∧ ((xs 2) = (1 : Int32)) ∧ ((xs 3) = (1 : Int32)) ∧ ((xs 1) = (2 : Int32)) ∧ ((xs 2) = (1 : Int32)) ∧ ((xs 3) = (1 : Int32)) ∧ True from ⟨h0, t1_2, t2_1, t3_1, t1_2, t2_1, t3_1, trivial⟩)
      by_cases t3_2 : (xs 3) = (2 : Int32)
      · exact rOk_of rr532 (show ((rop 3 (xs 0) (31 : Int32)) = (16 : Int32)) ∧ ((xs 1) = (2 : Int32)) ∧ ((xs 2) = (1 : Int32)) ∧ ((xs 3) = (2 : Int32)) ∧ ((xs 1) = (2 : Int32)) ∧ ((xs 2) = (1 : Int32)) ∧ ((xs 3) = (2 : Int32)) ∧ True from ⟨h0, t1_2, t2_1, t3_2, t1_2, t2_1, t3_2, trivial⟩)
      by_cases t3_3 : (xs 3) = (3 : Int32)
      · exact rOk_of rr533 (show ((rop 3 (xs 0) (31 : Int32)) = (16 : Int32)) ∧ ((xs 1) = (2 : Int32)) ∧ ((xs 2) = (1 : Int32)) ∧ ((xs 3) = (3 : Int32)) ∧ ((xs 1) = (2 : Int32)) ∧ ((xs 2) = (1 : Int32)) ∧ ((xs 3) = (3 : Int32)) ∧ True from ⟨h0, t1_2, t2_1, t3_3, t1_2, t2_1, t3_3, trivial⟩)
      by_cases t3_4 : (xs 3) = (4 : Int32)
      · exact rOk_of rr534 (show ((rop 3 (xs 0) (31 : Int32)) = (16 : Int32)) ∧ ((xs 1) = (2 : Int32)) ∧ ((xs 2) = (1 : Int32)) ∧ ((xs 3) = (4 : Int32)) ∧ ((xs 1) = (2 : Int32)) ∧ ((xs 2) = (1 : Int32)) ∧ ((xs 3) = (4 : Int32)) ∧ True from ⟨h0, t1_2, t2_1, t3_4, t1_2, t2_1, t3_4, trivial⟩)
      by_cases t3_5 : (xs 3) = (5 : Int32)
      · exact rOk_of rr535 (show ((rop 3 (xs 0) (31 : Int32)) = (16 : Int32)) ∧ ((xs 1) = (2 : Int32)) ∧ ((xs 2) = (1 : Int32)) ∧ ((xs 3) = (5 : Int32)) ∧ ((xs 1) = (2 : Int32)) ∧ ((xs 2) = (1 : Int32)) ∧ ((xs 3) = (5 : Int32)) ∧ True from ⟨h0, t1_2, t2_1, t3_5, t1_2, t2_1, t3_5, trivial⟩)
      cases b3 : rcmp 2 (xs 3) (0 : Int32) with
      | true =>
        exact rOk_of rr529 (show ((rop 3 (xs 0) (31 : Int32)) = (16 : Int32)) ∧ ((xs 1) = (2 : Int32)) ∧ ((xs 2) = (1 : Int32)) ∧ (rcmp 2 (xs 3) (0 : Int32) = true) ∧ ((xs 1) = (2 : Int32)) ∧ ((xs 2) = (1 : Int32)) ∧ (rcmp 2 (xs 3) (0 : Int32) = true) ∧ True from ⟨h0, t1_2, t2_1, b3, t1_2, t2_1, b3, trivial⟩)
      | false =>
        exact rOk_of rr528 (show ((rop 3 (xs 0) (31 : Int32)) = (16 : Int32)) ∧ ((xs 1) = (2 : Int32)) ∧ ((xs 2) = (1 : Int32)) ∧ (rcmp 2 (xs 3) (0 : Int32) = false) ∧ (rcmp 4 (xs 3) (5 : Int32) = true) ∧ ((xs 1) = (2 : Int32)) ∧ ((xs 2) = (1 : Int32)) ∧ (rcmp 2 (xs 3) (0 : Int32) = false) ∧ (rcmp 4 (xs 3) (5 : Int32) = true) ∧ True from ⟨h0, t1_2, t2_1, b3, (rg4t (by have z0 := rine t3_0; have z1 := rine t3_1; have z2 := rine t3_2; have z3 := rine t3_3; have z4 := rine t3_4; have z5 := rine t3_5; have z6 := ri2f b3; have y0 := li_0; have y1 := li_1; have y2 := li_2; have y3 := li_3; have y4 := li_4; have y5 := li_5; omega)), t1_2, t2_1, b3, (rg4t (by have z0 := rine t3_0; have z1 := rine t3_1; have z2 := rine t3_2; have z3 := rine t3_3; have z4 := rine t3_4; have z5 := rine t3_5; have z6 := ri2f b3; have y0 := li_0; have y1 := li_1; have y2 := li_2; have y3 := li_3; have y4 := li_4; have y5 := li_5; omega)), trivial⟩)
    by_cases t2_2 : (xs 2) = (2 : Int32)
    · by_cases t3_0 : (xs 3) = (0 : Int32)
      · exact rOk_of rr538 (show ((rop 3 (xs 0) (31 : Int32)) = (16 : Int32)) ∧ ((xs 1) = (2 : Int32)) ∧ ((xs 2) = (2 : Int32)) ∧ ((xs 3) = (0 : Int32)) ∧ ((xs 1) = (2 : Int32)) ∧ ((xs 2) = (2 : Int32)) ∧ ((xs 3) = (0 : Int32)) ∧ True from ⟨h0, t1_2, t2_2, t3_0, t1_2, t2_2, t3_0, trivial⟩)
      by_cases t3_1 : (xs 3) = (1 : Int32)
      · exact rOk_of rr539 (show ((rop 3 (xs 0) (31 : Int32)) = (16 : Int32)) ∧ ((xs 1) = (2 : Int32)) ∧ ((xs 2) = (2 : Int32)) ∧ ((xs 3) = (1 : Int32)) ∧ ((xs 1) = (2 : Int32)) ∧ ((xs 2) = (2 : Int32)) ∧ ((xs 3) = (1 : Int32)) ∧ True from ⟨h0, t1_2, t2_2, t3_1, t1_2, t2_2, t3_1, trivial⟩)
      by_cases t3_2 : (xs 3) = (2 : Int32)
      · exact rOk_of rr540 (show ((rop 3 (xs 0) (31 : Int32)) = (16 : Int32)) ∧ ((xs 1) = (2 : Int32)) ∧ ((xs 2) = (2 : Int32)) ∧ ((xs 3) = (2 : Int32)) ∧ ((xs 1) = (2 : Int32)) ∧ ((xs 2) = (2 : Int32)) ∧ ((xs 3) = (2 : Int32)) ∧ True from ⟨h0, t1_2, t2_2, t3_2, t1_2, t2_2, t3_2, trivial⟩)
      by_cases t3_3 : (xs 3) = (3 : Int32)
      · exact rOk_of rr541 (show ((rop 3 (xs 0) (31 : Int32)) = (16 : Int32)) ∧ ((xs 1) = (2 : Int32)) ∧ ((xs 2) = (2 : Int32)) ∧ ((xs 3) = (3 : Int32)) ∧ ((xs 1) = (2 : Int32)) ∧ ((xs 2) = (2 : Int32)) ∧ ((xs 3) = (3 : Int32)) ∧ True from ⟨h0, t1_2, t2_2, t3_3, t1_2, t2_2, t3_3, trivial⟩)
      by_cases t3_4 : (xs 3) = (4 : Int32)
      · exact rOk_of rr542 (show ((rop 3 (xs 0) (31 : Int32)) = (16 : Int32)) ∧ ((xs 1) = (2 : Int32)) ∧ ((xs 2) = (2 : Int32)) ∧ ((xs 3) = (4 : Int32)) ∧ ((xs 1) = (2 : Int32)) ∧ ((xs 2) = (2 : Int32)) ∧ ((xs 3) = (4 : Int32)) ∧ True from ⟨h0, t1_2, t2_2, t3_4, t1_2, t2_2, t3_4, trivial⟩)
      by_cases t3_5 : (xs 3) = (5 : Int32)
      · exact rOk_of rr543 (show ((rop 3 (xs 0) (31 : Int32)) = (16 : Int32)) ∧ ((xs 1) = (2 : Int32)) ∧ ((xs 2) = (2 : Int32)) ∧ ((xs 3) = (5 : Int32)) ∧ ((xs 1) = (2 : Int32)) ∧ ((xs 2) = (2 : Int32)) ∧ ((xs 3) = (5 : Int32)) ∧ True from ⟨h0, t1_2, t2_2, t3_5, t1_2, t2_2, t3_5, trivial⟩)
      cases b3 : rcmp 2 (xs 3) (0 : Int32) with
      | true =>
        exact rOk_of rr537 (show ((rop 3 (xs 0) (31 : Int32)) = (16 : Int32)) ∧ ((xs 1) = (2 : Int32)) ∧ ((xs 2) = (2 : Int32)) ∧ (rcmp 2 (xs 3) (0 : Int32) = true) ∧ ((xs 1) = (2 : Int32)) ∧ ((xs 2) = (2 : Int32)) ∧ (rcmp 2 (xs 3) (0 : Int32) = true) ∧ True from ⟨h0, t1_2, t2_2, b3, t1_2, t2_2, b3, trivial⟩)
      | false =>
        exact rOk_of rr536 (show ((rop 3 (xs 0) (31 : Int32)) = (16 : Int32)) ∧ ((xs 1) = (2 : Int32)) ∧ ((xs 2) = (2 : Int32)) ∧ (rcmp 2 (xs 3) (0 : Int32) = false) ∧ (rcmp 4 (xs 3) (5 : Int32) = true) ∧ ((xs 1) = (2 : Int32)) ∧ ((xs 2) = (2 : Int32)) ∧ (rcmp 2 (xs 3) (0 : Int32) = false) ∧ (rcmp 4 (xs 3) (5 : Int32) = true) ∧ True from ⟨h0, t1_2, t2_2, b3, (rg4t (by have z0 := rine t3_0; have z1 := rine t3_1; have z2 := rine t3_2; have z3 := rine t3_3; have z4 := rine t3_4; have z5 := rine t3_5; have z6 := ri2f b3; have y0 := li_0; have y1 := li_1; have y2 := li_2; have y3 := li_3; have y4 := li_4; have y5 := li_5; omega)), t1_2, t2_2, b3, (rg4t (by have z0 := rine t3_0; have z1 := rine t3_1; have z2 := rine t3_2; have z3 := rine t3_3; have z4 := rine t3_4; have z5 := rine t3_5; have z6 := ri2f b3; have y0 := li_0; have y1 := li_1; have y2 := li_2; have y3 := li_3; have y4 := li_4; have y5 := li_5; omega)), trivial⟩)
    by_cases t2_3 : (xs 2) = (3 : Int32)
    · by_cases t3_0 : (xs 3) = (0 : Int32)
      · exact rOk_of rr546 (show ((rop 3 (xs 0) (31 : Int32)) = (16 : Int32)) ∧ ((xs 1) = (2 : Int32)) ∧ ((xs 2) = (3 : Int32)) ∧ ((xs 3) = (0 : Int32)) ∧ ((xs 1) = (2 : Int32)) ∧ ((xs 2) = (3 : Int32)) ∧ ((xs 3) = (0 : Int32)) ∧ True from ⟨h0, t1_2, t2_3, t3_0, t1_2, t2_3, t3_0, trivial⟩)
      by_cases t3_1 : (xs 3) = (1 : Int32)
      · exact rOk_of rr547 (show ((rop 3 (xs 0) (31 : Int32)) = (16 : Int32)) ∧ ((xs 1) = (2 : Int32)) ∧ ((xs 2) = (3 : Int32)) ∧ ((xs 3) = (1 : Int32)) ∧ ((xs 1) = (2 : Int32)) ∧ ((xs 2) = (3 : Int32)) ∧ ((xs 3) = (1 : Int32)) ∧ True from ⟨h0, t1_2, t2_3, t3_1, t1_2, t2_3, t3_1, trivial⟩)
      by_cases t3_2 : (xs 3) = (2 : Int32)
      · exact rOk_of rr548 (show ((rop 3 (xs 0) (31 : Int32)) = (16 : Int32)) ∧ ((xs 1) = (2 : Int32)) ∧ ((xs 2) = (3 : Int32)) ∧ ((xs 3) = (2 : Int32)) ∧ ((xs 1) = (2 : Int32)) ∧ ((xs 2) = (3 : Int32)) ∧ ((xs 3) = (2 : Int32)) ∧ True from ⟨h0, t1_2, t2_3, t3_2, t1_2, t2_3, t3_2, trivial⟩)
      by_cases t3_3 : (xs 3) = (3 : Int32)
      · exact rOk_of rr549 (show ((rop 3 (xs 0) (31 : Int32)) = (16 : Int32)) ∧ ((xs 1) = (2 : Int32)) ∧ ((xs 2) = (3 : Int32)) ∧ ((xs 3) = (3 : Int32)) ∧ ((xs 1) = (2 : Int32)) ∧ ((xs 2) = (3 : Int32)) ∧ ((xs 3) = (3 : Int32)) ∧ True from ⟨h0, t1_2, t2_3, t3_3, t1_2, t2_3, t3_3, trivial⟩)
      by_cases t3_4 : (xs 3) = (4 : Int32)
      · exact rOk_of rr550 (show ((rop 3 (xs 0) (31 : Int32)) = (16 : Int32)) ∧ ((xs 1) = (2 : Int32)) ∧ ((xs 2) = (3 : Int32)) ∧ ((xs 3) = (4 : Int32)) ∧ ((xs 1) = (2 : Int32)) ∧ ((xs 2) = (3 : Int32)) ∧ ((xs 3) = (4 : Int32)) ∧ True from ⟨h0, t1_2, t2_3, t3_4, t1_2, t2_3, t3_4, trivial⟩)
      by_cases t3_5 : (xs 3) = (5 : Int32)
      · exact rOk_of rr551 (show ((rop 3 (xs 0) (31 : Int32)) = (16 : Int32)) ∧ ((xs 1) = (2 : Int32)) ∧ ((xs 2) = (3 : Int32)) ∧ ((xs 3) = (5 : Int32)) ∧ ((xs 1) = (2 : Int32)) ∧ ((xs 2) = (3 : Int32)) ∧ ((xs 3) = (5 : Int32)) ∧ True from ⟨h0, t1_2, t2_3, t3_5, t1_2, t2_3, t3_5, trivial⟩)
      cases b3 : rcmp 2 (xs 3) (0 : Int32) with
      | true =>
        exact rOk_of rr545 (show ((rop 3 (xs 0) (31 : Int32)) = (16 : Int32)) ∧ ((xs 1) = (2 : Int32)) ∧ ((xs 2) = (3 : Int32)) ∧ (rcmp 2 (xs 3) (0 : Int32) = true) ∧ ((xs 1) = (2 : Int32)) ∧ ((xs 2) = (3 : Int32)) ∧ (rcmp 2 (xs 3) (0 : Int32) = true) ∧ True from ⟨h0, t1_2, t2_3, b3, t1_2, t2_3, b3, trivial⟩)
      | false =>
        exact rOk_of rr544 (show ((rop 3 (xs 0) (31 : Int32)) = (16 : Int32)) ∧ ((xs 1) = (2 : Int32)) ∧ ((xs 2) = (3 : Int32)) ∧ (rcmp 2 (xs 3) (0 : Int32) = false) ∧ (rcmp 4 (xs 3) (5 : Int32) = true) ∧ ((xs 1) = (2 : Int32)) ∧ ((xs 2) = (3 : Int32)) ∧ (rcmp 2 (xs 3) (0 : Int32) = false) ∧ (rcmp 4 (xs 3) (5 : Int32) = true) ∧ True from ⟨h0, t1_2, t2_3, b3, (rg4t (by have z0 := rine t3_0; have z1 := rine t3_1; have z2 := rine t3_2; have z3 := rine t3_3; have z4 := rine t3_4; have z5 := rine t3_5; have z6 := ri2f b3; have y0 := li_0; have y1 := li_1; have y2 := li_2; have y3 := li_3; have y4 := li_4; have y5 := li_5; omega)), t1_2, t2_3, b3, (rg4t (by have z0 := rine t3_0; have z1 := rine t3_1; have z2 := rine t3_2; have z3 := rine t3_3; have z4 := rine t3_4; have z5 := rine t3_5; have z6 := ri2f b3; have y0 := li_0; have y1 := li_1; have y2 := li_2; have y3 := li_3; have y4 := li_4; have y5 := li_5; omega)), trivial⟩)
    cases b2 : rcmp 2 (xs 2) (0 : Int32) with
    | true =>
      exact rOk_of rr519 (show ((rop 3 (xs 0) (31 : Int32)) = (16 : Int32)) ∧ ((xs 1) = (2 : Int32)) ∧ (rcmp 2 (xs 2) (0 : Int32) = true) ∧ ((xs 1) = (2 : Int32)) ∧ (rcmp 2 (xs 2) (0 : Int32) = true) ∧ True from ⟨h0, t1_2, b2, t1_2, b2, trivial⟩)
    | false =>
      exact rOk_of rr518 (show ((rop 3 (xs 0) (31 : Int32)) = (16 : Int32)) ∧ ((xs 1) = (2 : Int32)) ∧ (rcmp 2 (xs 2) (0 : Int32) = false) ∧ (rcmp 4 (xs 2) (3 : Int32) = true) ∧ ((xs 1) = (2 : Int32)) ∧ (rcmp 2 (xs 2) (0 : Int32) = false) ∧ (rcmp 3 (xs 2) (4 : Int32) = true) ∧ True from ⟨h0, t1_2, b2, (rg4t (by have z0 := rine t2_0; have z1 := rine t2_1; have z2 := rine t2_2; have z3 := rine t2_3; have z4 := ri2f b2; have y0 := li_0; have y1 := li_1; have y2 := li_2; have y3 := li_3; omega)), t1_2, b2, (rg3t (by have z0 := rine t2_0; have z1 := rine t2_1; have z2 := rine t2_2; have z3 := rine t2_3; have z4 := ri2f b2; have y0 := li_0; have y1 := li_1; have y2 := li_2; have y3 := li_3; have y4 := li_4; omega)), trivial⟩)
  by_cases t1_3 : (xs 1) = (3 : Int32)
  · by_cases t2_0 : (xs 2) = (0 : Int32)
    · by_cases t3_0 : (xs 3) = (0 : Int32)
      · exact rOk_of rr556 (show ((rop 3 (xs 0) (31 : Int32)) = (16 : Int32)) ∧ ((xs 1) = (3 : Int32)) ∧ ((xs 2) = (0 : Int32)) ∧ ((xs 3) = (0 : Int32)) ∧ ((xs 1) = (3 : Int32)) ∧ ((xs 2) = (0 : Int32)) ∧ ((xs 3) = (0 : Int32)) ∧ True from ⟨h0, t1_3, t2_0, t3_0, t1_3, t2_0, t3_0, trivial⟩)
      by_cases t3_1 : (xs 3) = (1 : Int32)
      · exact rOk_of rr557 (show ((rop 3 (xs 0) (31 : Int32)) = (16 : Int32)) ∧ ((xs 1) = (3 : Int32)) ∧ ((xs 2) = (0 : Int32)) ∧ ((xs 3) = (1 : Int32)) ∧ ((xs 1) = (3 : Int32)) ∧ ((xs 2) = (0 : Int32)) ∧ ((xs 3) = (1 : Int32)) ∧ True from ⟨h0, t1_3, t2_0, t3_1, t1_3, t2_0, t3_1, trivial⟩)
      by_cases t3_2 : (xs 3) = (2 : Int32)
      · exact rOk_of rr558 (show ((rop 3 (xs 0) (31 : Int32)) = (16 : Int32)) ∧ ((xs 1) = (3 : Int32)) ∧ ((xs 2) = (0 : Int32)) ∧ ((xs 3) = (2 : Int32)) ∧ ((xs 1) = (3 : Int32)) ∧ ((xs 2) = (0 : Int32)) ∧ ((xs 3) = (2 : Int32)) ∧ True from ⟨h0, t1_3, t2_0, t3_2, t1_3, t2_0, t3_2, trivial⟩)
      by_cases t3_3 : (xs 3) = (3 : Int32)
      · exact rOk_of rr559 (show ((rop 3 (xs 0) (31 : Int32)) = (16 : Int32)) ∧ ((xs 1) = (3 : Int32)) ∧ ((xs 2) = (0 : Int32)) ∧ ((xs 3) = (3 : Int32)) ∧ ((xs 1) = (3 : Int32)) ∧ ((xs 2) = (0 : Int32)) ∧ ((xs 3) = (3 : Int32)) ∧ True from ⟨h0, t1_3, t2_0, t3_3, t1_3, t2_0, t3_3, trivial⟩)
      by_cases t3_4 : (xs 3) = (4 : Int32)
      · exact rOk_of rr560 (show ((rop 3 (xs 0) (31 : Int32)) = (16 : Int32)) ∧ ((xs 1) = (3 : Int32)) ∧ ((xs 2) = (0 : Int32)) ∧ ((xs 3) = (4 : Int32)) ∧ ((xs 1) = (3 : Int32)) ∧ ((xs 2) = (0 : Int32)) ∧ ((xs 3) = (4 : Int32)) ∧ True from ⟨h0, t1_3, t2_0, t3_4, t1_3, t2_0, t3_4, trivial⟩)
      by_cases t3_5 : (xs 3) = (5 : Int32)
      · exact rOk_of rr561 (show ((rop 3 (xs 0) (31 : Int32)) = (16 : Int32)) ∧ ((xs 1) = (3 : Int32)) ∧ ((xs 2) = (0 : Int32)) ∧ ((xs 3) = (5 : Int32)) ∧ ((xs 1) = (3 : Int32)) ∧ ((xs 2) = (0 : Int32)) ∧ ((xs 3) = (5 : Int32)) ∧ True from ⟨h0, t1_3, t2_0, t3_5, t1_3, t2_0, t3_5, trivial⟩)
      cases b3 : rcmp 2 (xs 3) (0 : Int32) with
      | true =>
        exact rOk_of rr555 (show ((rop 3 (xs 0) (31 : Int32)) = (16 : Int32)) ∧ ((xs 1) = (3 : Int32)) ∧ ((xs 2) = (0 : Int32)) ∧ (rcmp 2 (xs 3) (0 : Int32) = true) ∧ ((xs 1) = (3 : Int32)) ∧ ((xs 2) = (0 : Int32)) ∧ (rcmp 2 (xs 3) (0 : Int32) = true) ∧ True from ⟨h0, t1_3, t2_0, b3, t1_3, t2_0, b3, trivial⟩)
      | false =>
        exact rOk_of rr554 (show ((rop 3 (xs 0) (31 : Int32)) = (16 : Int32)) ∧ ((xs 1) = (3 : Int32)) ∧ ((xs 2) = (0 : Int32)) ∧ (rcmp 2 (xs 3) (0 : Int32) = false) ∧ (rcmp 4 (xs 3) (5 : Int32) = true) ∧ ((xs 1) = (3 : Int32)) ∧ ((xs 2) = (0 : Int32)) ∧ (rcmp 2 (xs 3) (0 : Int32) = false) ∧ (rcmp 4 (xs 3) (5 : Int32) = true) ∧ True from ⟨h0, t1_3, t2_0, b3, (rg4t (by have z0 := rine t3_0; have z1 := rine t3_1; have z2 := rine t3_2; have z3 := rine t3_3; have z4 := rine t3_4; have z5 := rine t3_5; have z6 := ri2f b3; have y0 := li_0; have y1 := li_1; have y2 := li_2; have y3 := li_3; have y4 := li_4; have y5 := li_5; omega)), t1_3, t2_0, b3, (rg4t (by have z0 := rine t3_0; have z1 := rine t3_1; have z2 := rine t3_2; have z3 := rine t3_3; have z4 := rine t3_4; have z5 := rine t3_5; have z6 := ri2f b3; have y0 := li_0; have y1 := li_1; have y2 := li_2; have y3 := li_3; have y4 := li_4; have y5 := li_5; omega)), trivial⟩)
    by_cases t2_1 : (xs 2) = (1 : Int32)
    · by_cases t3_0 : (xs 3) = (0 : Int32)
      · exact rOk_of rr564 (show ((rop 3 (xs 0) (31 : Int32)) = (16 : Int32)) ∧ ((xs 1) = (3 : Int32)) ∧ ((xs 2) = (1 : Int32)) ∧ ((xs 3) = (0 : Int32)) ∧ ((xs 1) = (3 : Int32)) ∧ ((xs 2) = (1 : Int32)) ∧ ((xs 3) = (0 : Int32)) ∧ True from ⟨h0, t1_3, t2_1, t3_0, t1_3, t2_1, t3_0, trivial⟩)
      by_cases t3_1 : (xs 3) = (1 : Int32)
      · exact rOk_of rr565 (show ((rop 3 (xs 0) (31 : Int32)) = (16 : Int32)) ∧ ((xs 1) = (3 : Int32)) ∧ ((xs 2) = (1 : Int32)) ∧ ((xs 3) = (1 : Int32)) ∧ ((xs 1) = (3 : Int32)) ∧ ((xs 2) = (1 : Int32)) ∧ ((xs 3) = (1 : Int32)) ∧ True from ⟨h0, t1_3, t2_1, t3_1, t1_3, t2_1, t3_1, trivial⟩)
      by_cases t3_2 : (xs 3) = (2 : Int32)
      · exact rOk_of rr566 (show ((rop 3 (xs 0) (31 : Int32)) = (16 : Int32)) ∧ ((xs 1) = (3 : Int32)) ∧ ((xs 2) = (1 : Int32)) ∧ ((xs 3) = (2 : Int32)) ∧ ((xs 1) = (3 : Int32)) ∧ ((xs 2) = (1 : Int32)) ∧ ((xs 3) = (2 : Int32)) ∧ True from ⟨h0, t1_3, t2_1, t3_2, t1_3, t2_1, t3_2, trivial⟩)
      by_cases t3_3 : (xs 3) = (3 : Int32)
      · exact rOk_of rr567 (show ((rop 3 (xs 0) (31 : Int32)) = (16 : Int32)) ∧ ((xs 1) = (3 : Int32)) ∧ ((xs 2) = (1 : Int32)) ∧ ((xs 3) = (3 : Int32)) ∧ ((xs 1) = (3 : Int32)) ∧ ((xs 2) = (1 : Int32)) ∧ ((xs 3) = (3 : Int32)) ∧ True from ⟨h0, t1_3, t2_1, t3_3, t1_3, t2_1, t3_3, trivial⟩)
      by_cases t3_4 : (xs 3) = (4 : Int32)
      · exact rOk_of rr568 (show ((rop 3 (xs 0) (31 : Int32)) = (16 : Int32)) ∧ ((xs 1) = (3 : Int32)) ∧ ((xs 2) = (1 : Int32)) ∧ ((xs 3) = (4 : Int32)) ∧ ((xs 1) = (3 : Int32)) ∧ ((xs 2) = (1 : Int32)) ∧ ((xs 3) = (4 : Int32)) ∧ True from ⟨h0, t1_3, t2_1, t3_4, t1_3, t2_1, t3_4, trivial⟩)
      by_cases t3_5 : (xs 3) = (5 : Int32)
      · exact rOk_of rr569 (show ((rop 3 (xs 0) (31 : Int32)) = (16 : Int32)) ∧ ((xs 1) = (3 : Int32)) ∧ ((xs 2) = (1 : Int32)) ∧ ((xs 3) = (5 : Int32)) ∧ ((xs 1) = (3 : Int32)) ∧ ((xs 2) = (1 : Int32)) ∧ ((xs 3) = (5 : Int32)) ∧ True from ⟨h0, t1_3, t2_1, t3_5, t1_3, t2_1, t3_5, trivial⟩)
      cases b3 : rcmp 2 (xs 3) (0 : Int32) with
      | true =>
        exact rOk_of rr563 (show ((rop 3 (xs 0) (31 : Int32)) = (16 : Int32)) ∧ ((xs 1) = (3 : Int32)) ∧ ((xs 2) = (1 : Int32)) ∧ (rcmp 2 (xs 3) (0 : Int32) = true) ∧ ((xs 1) = (3 : Int32)) ∧ ((xs 2) = (1 : Int32)) ∧ (rcmp 2 (xs 3) (0 : Int32) = true) ∧ True from ⟨h0, t1_3, t2_1, b3, t1_3, t2_1, b3, trivial⟩)
      | false =>
        exact rOk_of rr562 (show ((rop 3 (xs 0) (31 : Int32)) = (16 : Int32)) ∧ ((xs 1) = (3 : Int32)) ∧ ((xs 2) = (1 : Int32)) ∧ (rcmp 2 (xs 3) (0 : Int32) = false) ∧ (rcmp 4 (xs 3) (5 : Int32) = true) ∧ ((xs 1) = (3 : Int32)) ∧ ((xs 2) = (1 : Int32)) ∧ (rcmp 2 (xs 3) (0 : Int32) = false) ∧ (rcmp 4 (xs 3) (5 : Int32) = true) ∧ True from ⟨h0, t1_3, t2_1, b3, (rg4t (by have z0 := rine t3_0; have z1 := rine t3_1; have z2 := rine t3_2; have z3 := rine t3_3; have z4 := rine t3_4; have z5 := rine t3_5; have z6 := ri2f b3; have y0 := li_0; have y1 := li_1; have y2 := li_2; have y3 := li_3; have y4 := li_4; have y5 := li_5; omega)), t1_3, t2_1, b3, (rg4t (by have z0 := rine t3_0; have z1 := rine t3_1; have z2 := rine t3_2; have z3 := rine t3_3; have z4 := rine t3_4; have z5 := rine t3_5; have z6 := ri2f b3; have y0 := li_0; have y1 := li_1; have y2 := li_2; have y3 := li_3; have y4 := li_4; have y5 := li_5; omega)), trivial⟩)
    by_cases t2_2 : (xs 2) = (2 : Int32)
    · by_cases t3_0 : (xs 3) = (0 : Int32)
      · exact rOk_of rr572 (show ((rop 3 (xs 0) (31 : Int32)) = (16 : Int32)) ∧ ((xs 1) = (3 : Int32)) ∧ ((xs 2) = (2 : Int32)) ∧ ((xs 3) = (0 : Int32)) ∧ ((xs 1) = (3 : Int32)) ∧ ((xs 2) = (2 : Int32)) ∧ ((xs 3) = (0 : Int32)) ∧ True from ⟨h0, t1_3, t2_2, t3_0, t1_3, t2_2, t3_0, trivial⟩)
      by_cases t3_1 : (xs 3) = (1 : Int32)
      · exact rOk_of rr573 (show ((rop 3 (xs 0) (31 : Int32)) = (16 : Int32)) ∧ ((xs 1) = (3 : Int32)) ∧ ((xs 2) = (2 : Int32)) ∧ ((xs 3) = (1 : Int32)) ∧ ((xs 1) = (3 : Int32)) ∧ ((xs 2) = (2 : Int32)) ∧ ((xs 3) = (1 : Int32)) ∧ True from ⟨h0, t1_3, t2_2, t3_1, t1_3, t2_2, t3_1, trivial⟩)
      by_cases t3_2 : (xs 3) = (2 : Int32)
      · exact rOk_of rr574 (show ((rop 3 (xs 0) (31 : Int32)) = (16 : Int32)) ∧ ((xs 1) = (3 : Int32)) ∧ ((xs 2) = (2 : Int32)) ∧ ((xs 3) = (2 : Int32)) ∧ ((xs 1) = (3 : Int32)) ∧ ((xs 2) = (2 : Int32)) ∧ ((xs 3) = (2 : Int32)) ∧ True from ⟨h0, t1_3, t2_2, t3_2, t1_3, t2_2, t3_2, trivial⟩)
      by_cases t3_3 : (xs 3) = (3 : Int32)
      · exact rOk_of rr575 (show ((rop 3 (xs 0) (31 : Int32)) = (16 : Int32)) ∧ ((xs 1) = (3 : Int32)) ∧ ((xs 2) = (2 : Int32)) ∧ ((xs 3) = (3 : Int32)) ∧ ((xs 1) = (3 : Int32)) ∧ ((xs 2) = (2 : Int32)) ∧ ((xs 3) = (3 : Int32)) ∧ True from ⟨h0, t1_3, t2_2, t3_3, t1_3, t2_2, t3_3, trivial⟩)
      by_cases t3_4 : (xs 3) = (4 : Int32)
      · exact rOk_of rr576 (show ((rop 3 (xs 0) (31 : Int32)) = (16 : Int32)) ∧ ((xs 1) = (3 : Int32)) ∧ ((xs 2) = (2 : Int32)) ∧ ((xs 3) = (4 : Int32)) ∧ ((xs 1) = (3 : Int32)) ∧ ((xs 2) = (2 : Int32)) ∧ ((xs 3) = (4 : Int32)) ∧ True from ⟨h0, t1_3, t2_2, t3_4, t1_3, t2_2, t3_4, trivial⟩)
      by_cases t3_5 : (xs 3) = (5 : Int32)
      · exact rOk_of rr577 (show ((rop 3 (xs 0) (31 : Int32)) = (16 : Int32)) ∧ ((xs 1) = (3 : Int32)) ∧ ((xs 2) = (2 : Int32)) ∧ ((xs 3) = (5 : Int32)) ∧ ((xs 1) = (3 : Int32)) ∧ ((xs 2) = (2 : Int32)) ∧ ((xs 3) = (5 : Int32)) ∧ True from ⟨h0, t1_3, t2_2, t3_5, t1_3, t2_2, t3_5, trivial⟩)
      cases b3 : rcmp 2 (xs 3) (0 : Int32) with
      | true =>
        exact rOk_of rr571 (show ((rop 3 (xs 0) (31 : Int32)) = (16 : Int32)) ∧ ((xs 1) = (3 : Int32)) ∧ ((xs 2) = (2 : Int32)) ∧ (rcmp 2 (xs 3) (0 : Int32) = true) ∧ ((xs 1) = (3 : Int32)) ∧ ((xs 2) = (2 : Int32)) ∧ (rcmp 2 (xs 3) (0 : Int32) = true) ∧ True from ⟨h0, t1_3, t2_2, b3, t1_3, t2_2, b3, trivial⟩)
      | false =>
        exact rOk_of rr570 (show ((rop 3 (xs 0) (31 : Int32)) = (16 : Int32)) ∧ ((xs 1) = (3 : Int32)) ∧ ((xs 2) = (2 : Int32)) ∧ (rcmp 2 (xs 3) (0 : Int32) = false) ∧ (rcmp 4 (xs 3) (5 : Int32) = true) ∧ ((xs 1) = (3 : Int32)) ∧ ((xs 2) = (2 : Int32)) ∧ (rcmp 2 (xs 3) (0 : Int32) = false) ∧ (rcmp 4 (xs 3) (5 : Int32) = true) ∧ True from ⟨h0, t1_3, t2_2, b3, (rg4t (by have z0 := rine t3_0; have z1 := rine t3_1; have z2 := rine t3_2; have z3 := rine t3_3; have z4 := rine t3_4; have z5 := rine t3_5; have z6 := ri2f b3; have y0 := li_0; have y1 := li_1; have y2 := li_2; have y3 := li_3; have y4 := li_4; have y5 := li_5; omega)), t1_3, t2_2, b3, (rg4t (by have z0 := rine t3_0; have z1 := rine t3_1; have z2 := rine t3_2; have z3 := rine t3_3; have z4 := rine t3_4; have z5 := rine t3_5; have z6 := ri2f b3; have y0 := li_0; have y1 := li_1; have y2 := li_2; have y3 := li_3; have y4 := li_4; have y5 := li_5; omega)), trivial⟩)
    by_cases t2_3 : (xs 2) = (3 : Int32)
    · by_cases t3_0 : (xs 3) = (0 : Int32)
      · exact rOk_of rr580 (show ((rop 3 (xs 0) (31 : Int32)) = (16 : Int32)) ∧ ((xs 1) = (3 : Int32)) ∧ ((xs 2) = (3 : Int32)) ∧ ((xs 3) = (0 : Int32)) ∧ ((xs 1) = (3 : Int32)) ∧ ((xs 2) = (3 : Int32)) ∧ ((xs 3) = (0 : Int32)) ∧ True from ⟨h0, t1_3, t2_3, t3_0, t1_3, t2_3, t3_0, trivial⟩)
      by_cases t3_1 : (xs 3) = (1 : Int32)
      · exact rOk_of rr581 (show ((rop 3 (xs 0) (31 : Int32)) = (16 : Int32)) ∧ ((xs 1) = (3 : Int32)) ∧ ((xs 2) = (3 : Int32)) ∧ ((xs 3) = (1 : Int32)) ∧ ((xs 1) = (3 : Int32)) ∧ ((xs 2) = (3 : Int32)) ∧ ((xs 3) = (1 : Int32)) ∧ True from ⟨h0, t1_3, t2_3, t3_1, t1_3, t2_3, t3_1, trivial⟩)
      by_cases t3_2 : (xs 3) = (2 : Int32)
      · exact rOk_of rr582 (show ((rop 3 (xs 0) (31 : Int32)) = (16 : Int32)) ∧ ((xs 1) = (3 : Int32)) ∧ ((xs 2) = (3 : Int32)) ∧ ((xs 3) = (2 : Int32)) ∧ ((xs 1) = (3 : Int32)) ∧ ((xs 2) = (3 : Int32)) ∧ ((xs 3) = (2 : Int32)) ∧ True from ⟨h0, t1_3, t2_3, t3_2, t1_3, t2_3, t3_2, trivial⟩)
      by_cases t3_3 : (xs 3) = (3 : Int32)
      · exact rOk_of rr583 (show ((rop 3 (xs 0) (31 : Int32)) = (16 : Int32)) ∧ ((xs 1) = (3 : Int32)) ∧ ((xs 2) = (3 : Int32)) ∧ ((xs 3) = (3 : Int32)) ∧ ((xs 1) = (3 : Int32)) ∧ ((xs 2) = (3 : Int32)) ∧ ((xs 3) = (3 : Int32)) ∧ True from ⟨h0, t1_3, t2_3, t3_3, t1_3, t2_3, t3_3, trivial⟩)
      by_cases t3_4 : (xs 3) = (4 : Int32)
      · exact rOk_of rr584 (show ((rop 3 (xs 0) (31 : Int32)) = (16 : Int32)) ∧ ((xs 1) = (3 : Int32)) ∧ ((xs 2) = (3 : Int32)) ∧ ((xs 3) = (4 : Int32)) ∧ ((xs 1) = (3 : Int32)) ∧ ((xs 2) = (3 : Int32)) ∧ ((xs 3) = (4 : Int32)) ∧ True from ⟨h0, t1_3, t2_3, t3_4, t1_3, t2_3, t3_4, trivial⟩)
      by_cases t3_5 : (xs 3) = (5 : Int32)
      · exact rOk_of rr585 (show ((rop 3 (xs 0) (31 : Int32)) = (16 : Int32)) ∧ ((xs 1) = (3 : Int32)) ∧ ((xs 2) = (3 : Int32)) ∧ ((xs 3) = (5 : Int32)) ∧ ((xs 1) = (3 : Int32)) ∧ ((xs 2) = (3 : Int32)) ∧ ((xs 3) = (5 : Int32)) ∧ True from ⟨h0, t1_3, t2_3, t3_5, t1_3, t2_3, t3_5, trivial⟩)
      cases b3 : rcmp 2 (xs 3) (0 : Int32) with
      | true =>
        exact rOk_of rr579 (show ((rop 3 (xs 0) (31 : Int32)) = (16 : Int32)) ∧ ((xs 1) = (3 : Int32)) ∧ ((xs 2) = (3 : Int32)) ∧ (rcmp 2 (xs 3) (0 : Int32) = true) ∧ ((xs 1) = (3 : Int32)) ∧ ((xs 2) = (3 : Int32)) ∧ (rcmp 2 (xs 3) (0 : Int32) = true) ∧ True from ⟨h0, t1_3, t2_3, b3, t1_3, t2_3, b3, trivial⟩)
      | false =>
        exact rOk_of rr578 (show ((rop 3 (xs 0) (31 : Int32)) = (16 : Int32)) ∧ ((xs 1) = (3 : Int32)) ∧ ((xs 2) = (3 : Int32)) ∧ (rcmp 2 (xs 3) (0 : Int32) = false) ∧ (rcmp 4 (xs 3) (5 : Int32) = true) ∧ ((xs 1) = (3 : Int32)) ∧ ((xs 2) = (3 : Int32)) ∧ (rcmp 2 (xs 3) (0 : Int32) = false) ∧ (rcmp 4 (xs 3) (5 : Int32) = true) ∧ True from ⟨h0, t1_3, t2_3, b3, (rg4t (by have z0 := rine t3_0; have z1 := rine t3_1; have z2 := rine t3_2; have z3 := rine t3_3; have z4 := rine t3_4; have z5 := rine t3_5; have z6 := ri2f b3; have y0 := li_0; have y1 := li_1; have y2 := li_2; have y3 := li_3; have y4 := li_4; have y5 := li_5; omega)), t1_3, t2_3, b3, (rg4t (by have z0 := rine t3_0; have z1 := rine t3_1; have z2 := rine t3_2; have z3 := rine t3_3; have z4 := rine t3_4; have z5 := rine t3_5; have z6 := ri2f b3; have y0 := li_0; have y1 := li_1; have y2 := li_2; have y3 := li_3; have y4 := li_4; have y5 := li_5; omega)), trivial⟩)
    cases b2 : rcmp 2 (xs 2) (0 : Int32) with
    | true =>
      exact rOk_of rr553 (show ((rop 3 (xs 0) (31 : Int32)) = (16 : Int32)) ∧ ((xs 1) = (3 : Int32)) ∧ (rcmp 2 (xs 2) (0 : Int32) = true) ∧ ((xs 1) = (3 : Int32)) ∧ (rcmp 2 (xs 2) (0 : Int32) = true) ∧ True from ⟨h0, t1_3, b2, t1_3, b2, trivial⟩)
    | false =>
      exact rOk_of rr552 (show ((rop 3 (xs 0) (31 : Int32)) = (16 : Int32)) ∧ ((xs 1) = (3 : Int32)) ∧ (rcmp 2 (xs 2) (0 : Int32) = false) ∧ (rcmp 4 (xs 2) (3 : Int32) = true) ∧ ((xs 1) = (3 : Int32)) ∧ (rcmp 2 (xs 2) (0 : Int32) = false) ∧ (rcmp 3 (xs 2) (4 : Int32) = true) ∧ True from ⟨h0, t1_3, b2, (rg4t (by have z0 := rine t2_0; have z1 := rine t2_1; have z2 := rine t2_2; have z3 := rine t2_3; have z4 := ri2f b2; have y0 := li_0; have y1 := li_1; have y2 := li_2; have y3 := li_3; omega)), t1_3, b2, (rg3t (by have z0 := rine t2_0; have z1 := rine t2_1; have z2 := rine t2_2; have z3 := rine t2_3; have z4 := ri2f b2; have y0 := li_0; have y1 := li_1; have y2 := li_2; have y3 := li_3; have y4 := li_4; omega)), trivial⟩)
  cases b1 : rcmp 2 (xs 1) (0 : Int32) with
  | true =>
    exact rOk_of rr449 (show ((rop 3 (xs 0) (31 : Int32)) = (16 : Int32)) ∧ (rcmp 2 (xs 1) (0 : Int32) = true) ∧ (rcmp 2 (xs 1) (0 : Int32) = true) ∧ True from ⟨h0, b1, b1, trivial⟩)
  | false =>
    exact rOk_of rr448 (show ((rop 3 (xs 0) (31 : Int32)) = (16 : Int32)) ∧ (rcmp 2 (xs 1) (0 : Int32) = false) ∧ (rcmp 4 (xs 1) (3 : Int32) = true) ∧ (rcmp 2 (xs 1) (0 : Int32) = false) ∧ (rcmp 3 (xs 1) (4 : Int32) = true) ∧ True from ⟨h0, b1, (rg4t (by have z0 := rine t1_0; have z1 := rine t1_1; have z2 := rine t1_2; have z3 := rine t1_3; have z4 := ri2f b1; have y0 := li_0; have y1 := li_1; have y2 := li_2; have y3 := li_3; omega)), b1, (rg3t (by have z0 := rine t1_0; have z1 := rine t1_1; have z2 := rine t1_2; have z3 := rine t1_3; have z4 := ri2f b1; have y0 := li_0; have y1 := li_1; have y2 := li_2; have y3 := li_3; have y4 := li_4; omega)), trivial⟩)
