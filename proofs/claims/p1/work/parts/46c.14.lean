set_option maxHeartbeats 4000000 in
set_option maxRecDepth 100000 in
theorem cov14 (xs : Nat → Int32) (h0 : (rop 3 (xs 0) (31 : Int32)) = (14 : Int32)) : rOk 6 xs := by
  by_cases t1_0 : (xs 1) = (0 : Int32)
  · exact rOk_of rr441 (show ((rop 3 (xs 0) (31 : Int32)) = (14 : Int32)) ∧ ((xs 1) = (0 : Int32)) ∧ ((xs 1) = (0 : Int32)) ∧ True from ⟨h0, t1_0, t1_0, trivial⟩)
  by_cases t1_1 : (xs 1) = (1 : Int32)
  · exact rOk_of rr442 (show ((rop 3 (xs 0) (31 : Int32)) = (14 : Int32)) ∧ ((xs 1) = (1 : Int32)) ∧ ((xs 1) = (1 : Int32)) ∧ True from ⟨h0, t1_1, t1_1, trivial⟩)
  by_cases t1_2 : (xs 1) = (2 : Int32)
  · exact rOk_of rr443 (show ((rop 3 (xs 0) (31 : Int32)) = (14 : Int32)) ∧ ((xs 1) = (2 : Int32)) ∧ ((xs 1) = (2 : Int32)) ∧ True from ⟨h0, t1_2, t1_2, trivial⟩)
  by_cases t1_3 : (xs 1) = (3 : Int32)
  · exact rOk_of rr444 (show ((rop 3 (xs 0) (31 : Int32)) = (14 : Int32)) ∧ ((xs 1) = (3 : Int32)) ∧ ((xs 1) = (3 : Int32)) ∧ True from ⟨h0, t1_3, t1_3, trivial⟩)
  cases b1 : rcmp 2 (xs 1) (0 : Int32) with
  | true =>
    exact rOk_of rr440 (show ((rop 3 (xs 0) (31 : Int32)) = (14 : Int32)) ∧ (rcmp 2 (xs 1) (0 : Int32) = true) ∧ (rcmp 2 (xs 1) (0 : Int32) = true) ∧ True from ⟨h0, b1, b1, trivial⟩)
  | false =>
    exact rOk_of rr439 (show ((rop 3 (xs 0) (31 : Int32)) = (14 : Int32)) ∧ (rcmp 2 (xs 1) (0 : Int32) = false) ∧ (rcmp 4 (xs 1) (3 : Int32) = true) ∧ (rcmp 2 (xs 1) (0 : Int32) = false) ∧ (rcmp 3 (xs 1) (4 : Int32) = true) ∧ True from ⟨h0, b1, (rg4t (by have z0 := rine t1_0; have z1 := rine t1_1; have z2 := rine t1_2; have z3 := rine t1_3; have z4 := ri2f b1; have y0 := li_0; have y1 := li_1; have y2 := li_2; have y3 := li_3; omega)), b1, (rg3t (by have z0 := rine t1_0; have z1 := rine t1_1; have z2 := rine t1_2; have z3 := rine t1_3; have z4 := ri2f b1; have y0 := li_0; have y1 := li_1; have y2 := li_2; have y3 := li_3; have y4 := li_4; omega)), trivial⟩)
