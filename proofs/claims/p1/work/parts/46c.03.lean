set_option maxHeartbeats 4000000 in
set_option maxRecDepth 100000 in
theorem cov3 (xs : Nat → Int32) (h0 : (rop 3 (xs 0) (31 : Int32)) = (3 : Int32)) : rOk 6 xs := by
  by_cases t1_0 : (xs 1) = (0 : Int32)
  · cases b2 : rcmp 2 (xs 2) (0 : Int32) with
    | true =>
      exact rOk_of rr68 (show ((rop 3 (xs 0) (31 : Int32)) = (3 : Int32)) ∧ ((xs 1) = (0 : Int32)) ∧ (rcmp 2 (xs 2) (0 : Int32) = true) ∧ ((xs 1) = (0 : Int32)) ∧ (rcmp 2 (xs 2) (0 : Int32) = true) ∧ True from ⟨h0, t1_0, b2, t1_0, b2, trivial⟩)
    | false =>
      cases b3 : rcmp 5 (xs 2) (0 : Int32) with
      | true =>
        exact rOk_of rr67 (show ((rop 3 (xs 0) (31 : Int32)) = (3 : Int32)) ∧ ((xs 1) = (0 : Int32)) ∧ (rcmp 2 (xs 2) (0 : Int32) = false) ∧ (rcmp 5 (xs 2) (0 : Int32) = true) ∧ ((xs 1) = (0 : Int32)) ∧ (rcmp 2 (xs 2) (0 : Int32) = false) ∧ (rcmp 5 (xs 2) (0 : Int32) = true) ∧ True from ⟨h0, t1_0, b2, b3, t1_0, b2, b3, trivial⟩)
      | false =>
        exact rOk_of rr66 (show ((rop 3 (xs 0) (31 : Int32)) = (3 : Int32)) ∧ ((xs 1) = (0 : Int32)) ∧ (rcmp 2 (xs 2) (0 : Int32) = false) ∧ (rcmp 5 (xs 2) (0 : Int32) = false) ∧ ((xs 1) = (0 : Int32)) ∧ (rcmp 2 (xs 2) (0 : Int32) = false) ∧ (rcmp 5 (xs 2) (0 : Int32) = false) ∧ True from ⟨h0, t1_0, b2, b3, t1_0, b2, b3, trivial⟩)
  by_cases t1_1 : (xs 1) = (1 : Int32)
  · cases b2 : rcmp 2 (xs 2) (0 : Int32) with
    | true =>
      exact rOk_of rr71 (show ((rop 3 (xs 0) (31 : Int32)) = (3 : Int32)) ∧ ((xs 1) = (1 : Int32)) ∧ (rcmp 2 (xs 2) (0 : Int32) = true) ∧ ((xs 1) = (1 : Int32)) ∧ (rcmp 2 (xs 2) (0 : Int32) = true) ∧ True from ⟨h0, t1_1, b2, t1_1, b2, trivial⟩)
    | false =>
      cases b3 : rcmp 5 (xs 2) (0 : Int32) with
      | true =>
        exact rOk_of rr70 (show ((rop 3 (xs 0) (31 : Int32)) = (3 : Int32)) ∧ ((xs 1) = (1 : Int32)) ∧ (rcmp 2 (xs 2) (0 : Int32) = false) ∧ (rcmp 5 (xs 2) (0 : Int32) = true) ∧ ((xs 1) = (1 : Int32)) ∧ (rcmp 2 (xs 2) (0 : Int32) = false) ∧ (rcmp 5 (xs 2) (0 : Int32) = true) ∧ True from ⟨h0, t1_1, b2, b3, t1_1, b2, b3, trivial⟩)
      | false =>
        exact rOk_of rr69 (show ((rop 3 (xs 0) (31 : Int32)) = (3 : Int32)) ∧ ((xs 1) = (1 : Int32)) ∧ (rcmp 2 (xs 2) (0 : Int32) = false) ∧ (rcmp 5 (xs 2) (0 : Int32) = false) ∧ ((xs 1) = (1 : Int32)) ∧ (rcmp 2 (xs 2) (0 : Int32) = false) ∧ (rcmp 5 (xs 2) (0 : Int32) = false) ∧ True from ⟨h0, t1_1, b2, b3, t1_1, b2, b3, trivial⟩)
  by_cases t1_2 : (xs 1) = (2 : Int32)
  · cases b2 : rcmp 2 (xs 2) (0 : Int32) with
    | true =>
      exact rOk_of rr74 (show ((rop 3 (xs 0) (31 : Int32)) = (3 : Int32)) ∧ ((xs 1) = (2 : Int32)) ∧ (rcmp 2 (xs 2) (0 : Int32) = true) ∧ ((xs 1) = (2 : Int32)) ∧ (rcmp 2 (xs 2) (0 : Int32) = true) ∧ True from ⟨h0, t1_2, b2, t1_2, b2, trivial⟩)
    | false =>
      cases b3 : rcmp 5 (xs 2) (0 : Int32) with
      | true =>
        exact rOk_of rr73 (show ((rop 3 (xs 0) (31 : Int32)) = (3 : Int32)) ∧ ((xs 1) = (2 : Int32)) ∧ (rcmp 2 (xs 2) (0 : Int32) = false) ∧ (rcmp 5 (xs 2) (0 : Int32) = true) ∧ ((xs 1) = (2 : Int32)) ∧ (rcmp 2 (xs 2) (0 : Int32) = false) ∧ (rcmp 5 (xs 2) (0 : Int32) = true) ∧ True from ⟨h0, t1_2, b2, b3, t1_2, b2, b3, trivial⟩)
      | false =>
        exact rOk_of rr72 (show ((rop 3 (xs 0) (31 : Int32)) = (3 : Int32)) ∧ ((xs 1) = (2 : Int32)) ∧ (rcmp 2 (xs 2) (0 : Int32) = false) ∧ (rcmp 5 (xs 2) (0 : Int32) = false) ∧ ((xs 1) = (2 : Int32)) ∧ (rcmp 2 (xs 2) (0 : Int32) = false) ∧ (rcmp 5 (xs 2) (0 : Int32) = false) ∧ True from ⟨h0, t1_2, b2, b3, t1_2, b2, b3, trivial⟩)
  by_cases t1_3 : (xs 1) = (3 : Int32)
  · cases b2 : rcmp 2 (xs 2) (0 : Int32) with
    | true =>
      exact rOk_of rr77 (show ((rop 3 (xs 0) (31 : Int32)) = (3 : Int32)) ∧ ((xs 1) = (3 : Int32)) ∧ (rcmp 2 (xs 2) (0 : Int32) = true) ∧ ((xs 1) = (3 : Int32)) ∧ (rcmp 2 (xs 2) (0 : Int32) = true) ∧ True from ⟨h0, t1_3, b2, t1_3, b2, trivial⟩)
    | false =>
      cases b3 : rcmp 5 (xs 2) (0 : Int32) with
      | true =>
        exact rOk_of rr76 (show ((rop 3 (xs 0) (31 : Int32)) = (3 : Int32)) ∧ ((xs 1) = (3 : Int32)) ∧ (rcmp 2 (xs 2) (0 : Int32) = false) ∧ (rcmp 5 (xs 2) (0 : Int32) = true) ∧ ((xs 1) = (3 : Int32)) ∧ (rcmp 2 (xs 2) (0 : Int32) = false) ∧ (rcmp 5 (xs 2) (0 : Int32) = true) ∧ True from ⟨h0, t1_3, b2, b3, t1_3, b2, b3, trivial⟩)
      | false =>
        exact rOk_of rr75 (show ((rop 3 (xs 0) (31 : Int32)) = (3 : Int32)) ∧ ((xs 1) = (3 : Int32)) ∧ (rcmp 2 (xs 2) (0 : Int32) = false) ∧ (rcmp 5 (xs 2) (0 : Int32) = false) ∧ ((xs 1) = (3 : Int32)) ∧ (rcmp 2 (xs 2) (0 : Int32) = false) ∧ (rcmp 5 (xs 2) (0 : Int32) = false) ∧ True from ⟨h0, t1_3, b2, b3, t1_3, b2, b3, trivial⟩)
  cases b1 : rcmp 2 (xs 1) (0 : Int32) with
  | true =>
    exact rOk_of rr65 (show ((rop 3 (xs 0) (31 : Int32)) = (3 : Int32)) ∧ (rcmp 2 (xs 1) (0 : Int32) = true) ∧ (rcmp 2 (xs 1) (0 : Int32) = true) ∧ True from ⟨h0, b1, b1, trivial⟩)
  | false =>
    exact rOk_of rr64 (show ((rop 3 (xs 0) (31 : Int32)) = (3 : Int32)) ∧ (rcmp 2 (xs 1) (0 : Int32) = false) ∧ (rcmp 4 (xs 1) (3 : Int32) = true) ∧ (rcmp 2 (xs 1) (0 : Int32) = false) ∧ (rcmp 3 (xs 1) (4 : Int32) = true) ∧ True from ⟨h0, b1, (rg4t (by have z0 := rine t1_0; have z1 := rine t1_1; have z2 := rine t1_2; have z3 := rine t1_3; have z4 := ri2f b1; have y0 := li_0; have y1 := li_1; have y2 := li_2; have y3 := li_3; omega)), b1, (rg3t (by have z0 := rine t1_0; have z1 := rine t1_1; have z2 := rine t1_2; have z3 := rine t1_3; have z4 := ri2f b1; have y0 := li_0; have y1 := li_1; have y2 := li_2; have y3 := li_3; have y4 := li_4; omega)), trivial⟩)
