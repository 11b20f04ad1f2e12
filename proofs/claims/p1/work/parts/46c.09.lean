set_option maxHeartbeats 4000000 in
set_option maxRecDepth 100000 in
theorem cov9 (xs : Nat → Int32) (h0 : (rop 3 (xs 0) (31 : Int32)) = (9 : Int32)) : rOk 6 xs := by
  by_cases t1_0 : (xs 1) = (0 : Int32)
  · exact rOk_of rr319 (show ((rop 3 (xs 0) (31 : Int32)) = (9 : Int32)) ∧ ((xs 1) = (0 : Int32)) ∧ ((xs 1) = (0 : Int32)) ∧ True from ⟨h0, t1_0, t1_0, trivial⟩)
  by_cases t1_1 : (xs 1) = (1 : Int32)
  · exact rOk_of rr320 (show ((rop 3 (xs 0) (31 : Int32)) = (9 : Int32)) ∧ ((xs 1) = (1 : Int32)) ∧ ((xs 1) = (1 : Int32)) ∧ True from ⟨h0, t1_1, t1_1, trivial⟩)
  by_cases t1_2 : (xs 1) = (2 : Int32)
  · exact rOk_of rr321 (show ((rop 3 (xs 0) (31 : Int32)) = (9 : Int32)) ∧ ((xs 1) = (2 : Int32)) ∧ ((xs 1) = (2 : Int32)) ∧ True from ⟨h0, t1_2, t1_2, trivial⟩)
  by_cases t1_3 : (xs 1) = (3 : Int32)
  · exact rOk_of rr322 (show ((rop 3 (xs 0) (31 : Int32)) = (9 : Int32)) ∧ ((xs 1) = (3 : Int32)) ∧ ((xs 1) = (3 : Int32)) ∧ True from ⟨h0, t1_3, t1_3, trivial⟩)
  by_cases t1_4 : (xs 1) = (4 : Int32)
  · exact rOk_of rr323 (show ((rop 3 (xs 0) (31 : Int32)) = (9 : Int32)) ∧ ((xs 1) = (4 : Int32)) ∧ ((xs 1) = (4 : Int32)) ∧ True from ⟨h0, t1_4, t1_4, trivial⟩)
  by_cases t1_5 : (xs 1) = (5 : Int32)
  · exact rOk_of rr324 (show ((rop 3 (xs 0) (31 : Int32)) = (9 : Int32)) ∧ ((xs 1) = (5 : Int32)) ∧ ((xs 1) = (5 : Int32)) ∧ True from ⟨h0, t1_5, t1_5, trivial⟩)
  by_cases t1_6 : (xs 1) = (6 : Int32)
  · exact rOk_of rr325 (show ((rop 3 (xs 0) (31 : Int32)) = (9 : Int32)) ∧ ((xs 1) = (6 : Int32)) ∧ ((xs 1) = (6 : Int32)) ∧ True from ⟨h0, t1_6, t1_6, trivial⟩)
  by_cases t1_7 : (xs 1) = (7 : Int32)
  · exact rOk_of rr326 (show ((rop 3 (xs 0) (31 : Int32)) = (9 : Int32)) ∧ ((xs 1) = (7 : Int32)) ∧ ((xs 1) = (7 : Int32)) ∧ True from ⟨h0, t1_7, t1_7, trivial⟩)
  by_cases t1_8 : (xs 1) = (8 : Int32)
  · exact rOk_of rr327 (show ((rop 3 (xs 0) (31 : Int32)) = (9 : Int32)) ∧ ((xs 1) = (8 : Int32)) ∧ ((xs 1) = (8 : Int32)) ∧ True from ⟨h0, t1_8, t1_8, trivial⟩)
  by_cases t1_9 : (xs 1) = (9 : Int32)
  · exact rOk_of rr328 (show ((rop 3 (xs 0) (31 : Int32)) = (9 : Int32)) ∧ ((xs 1) = (9 : Int32)) ∧ ((xs 1) = (9 : Int32)) ∧ True from ⟨h0, t1_9, t1_9, trivial⟩)
  cases b1 : rcmp 2 (xs 1) (0 : Int32) with
  | true =>
    exact rOk_of rr318 (show ((rop 3 (xs 0) (31 : Int32)) = (9 : Int32)) ∧ (rcmp 2 (xs 1) (0 : Int32) = true) ∧ (rcmp 2 (xs 1) (0 : Int32) = true) ∧ True from ⟨h0, b1, b1, trivial⟩)
  | false =>
    exact rOk_of rr317 (show ((rop 3 (xs 0) (31 : Int32)) = (9 : Int32)) ∧ (rcmp 2 (xs 1) (0 : Int32) = false) ∧ (rcmp 4 (xs 1) (9 : Int32) = true) ∧ (rcmp 2 (xs 1) (0 : Int32) = false) ∧ (rcmp 4 (xs 1) (9 : Int32) = true) ∧ True from ⟨h0, b1, (rg4t (by have z0 := rine t1_0; have z1 := rine t1_1; have z2 := rine t1_2; have z3 := rine t1_3; have z4 := rine t1_4; have z5 := rine t1_5; have z6 := rine t1_6; have z7 := rine t1_7; have z8 := rine t1_8; have z9 := rine t1_9; have z10 := ri2f b1; have y0 := li_0; have y1 := li_1; have y2 := li_2; have y3 := li_3; have y4 := li_4; have y5 := li_5; have y6 := li_6; have y7 := li_7; have y8 := li_8; have y9 := li_9; omega)), b1, (rg4t (by have z0 := rine t1_0; have z1 := rine t1_1; have z2 := rine t1_2; have z3 := rine t1_3; have z4 := rine t1_4; have z5 := rine t1_5; have z6 := rine t1_6; have z7 := rine t1_7; have z8 := rine t1_8; have z9 := rine t1_9; have z10 := ri2f b1; have y0 := li_0; have y1 := li_1; have y2 := li_2; have y3 := li_3; have y4 := li_4; have y5 := li_5; have y6 := li_6; have y7 := li_7; have y8 := li_8; have y9 := li_9; omega)), trivial⟩)
