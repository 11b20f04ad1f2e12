set_option maxHeartbeats 4000000 in
set_option maxRecDepth 100000 in
theorem cov17 (xs : Nat → Int32) (h0 : (rop 3 (xs 0) (31 : Int32)) = (17 : Int32)) : rOk 6 xs := by
  by_cases t1_0 : (xs 1) = (0 : Int32)
  · by_cases t2_0 : (xs 2) = (0 : Int32)
    · by_cases t3_0 : (xs 3) = (0 : Int32)
      · cases b4 : rcmp 2 (xs 4) (0 : Int32) with
        | true =>
          exact rOk_of rr594 (show ((rop 3 (xs 0) (31 : Int32)) = (17 : Int32)) ∧ ((xs 1) = (0 : Int32)) ∧ ((xs 2) = (0 : Int32)) ∧ ((xs 3) = (0 : Int32)) ∧ (rcmp 2 (xs 4) (0 : Int32) = true) ∧ ((xs 1) = (0 : Int32)) ∧ ((xs 2) = (0 : Int32)) ∧ ((xs 3) = (0 : Int32)) ∧ (rcmp 2 (xs 4) (0 : Int32) = true) ∧ True from ⟨h0, t1_0, t2_0, t3_0, b4, t1_0, t2_0, t3_0, b4, trivial⟩)
        | false =>
          cases b5 : rcmp 5 (xs 4) (65536 : Int32) with
          | true =>
            exact rOk_of rr593 (show ((rop 3 (xs 0) (31 : Int32)) = (17 : Int32)) ∧ ((xs 1) = (0 : Int32)) ∧ ((xs 2) = (0 : Int32)) ∧ ((xs 3) = (0 : Int32)) ∧ (rcmp 2 (xs 4) (0 : Int32) = false) ∧ (rcmp 5 (xs 4) (65536 : Int32) = true) ∧ ((xs 1) = (0 : Int32)) ∧ ((xs 2) = (0 : Int32)) ∧ ((xs 3) = (0 : Int32)) ∧ (rcmp 2 (xs 4) (0 : Int32) = false) ∧ (rcmp 4 (xs 4) (65536 : Int32) = false) ∧ (rcmp 2 (xs 4) (0 : Int32) = false) ∧ (rcmp 5 (xs 4) (65536 : Int32) = true) ∧ True from ⟨h0, t1_0, t2_0, t3_0, b4, b5, t1_0, t2_0, t3_0, b4, (rg4f (by have z0 := ri2f b4; have z1 := ri5t b5; have y0 := li_0; have y1 := li_65536; omega)), b4, b5, trivial⟩)
          | false =>
            exact rOk_of rr592 (show ((rop 3 (xs 0) (31 : Int32)) = (17 : Int32)) ∧ ((xs 1) = (0 : Int32)) ∧ ((xs 2) = (0 : Int32)) ∧ ((xs 3) = (0 : Int32)) ∧ (rcmp 2 (xs 4) (0 : Int32) = false) ∧ (rcmp 5 (xs 4) (65536 : Int32) = false) ∧ ((xs 1) = (0 : Int32)) ∧ ((xs 2) = (0 : Int32)) ∧ ((xs 3) = (0 : Int32)) ∧ (rcmp 2 (xs 4) (0 : Int32) = false) ∧ (rcmp 4 (xs 4) (65536 : Int32) = true) ∧ True from ⟨h0, t1_0, t2_0, t3_0, b4, b5, t1_0, t2_0, t3_0, b4, (rg4t (by have z0 := ri2f b4; have z1 := ri5f b5; have y0 := li_0; have y1 := li_65536; omega)), trivial⟩)
      by_cases t3_1 : (xs 3) = (1 : Int32)
      · cases b4 : rcmp 2 (xs 4) (0 : Int32) with
        | true =>
          exact rOk_of rr597 (show ((rop 3 (xs 0) (31 : Int32)) = (17 : Int32)) ∧ ((xs 1) = (0 : Int32)) ∧ ((xs 2) = (0 : Int32)) ∧ ((xs 3) = (1 : Int32)) ∧ (rcmp 2 (xs 4) (0 : Int32) = true) ∧ ((xs 1) = (0 : Int32)) ∧ ((xs 2) = (0 : Int32)) ∧ ((xs 3) = (1 : Int32)) ∧ (rcmp 2 (xs 4) (0 : Int32) = true) ∧ True from ⟨h0, t1_0, t2_0, t3_1, b4, t1_0, t2_0, t3_1, b4, trivial⟩)
        | false =>
          cases b5 : rcmp 5 (xs 4) (65536 : Int32) with
          | true =>
            exact rOk_of rr596 (show ((rop 3 (xs 0) (31 : Int32)) = (17 : Int32)) ∧ ((xs 1) = (0 : Int32)) ∧ ((xs 2) = (0 : Int32)) ∧ ((xs 3) = (1 : Int32)) ∧ (rcmp 2 (xs 4) (0 : Int32) = false) ∧ (rcmp 5 (xs 4) (65536 : Int32) = true) ∧ ((xs 1) = (0 : Int32)) ∧ ((xs 2) = (0 : Int32)) ∧ ((xs 3) = (1 : Int32)) ∧ (rcmp 2 (xs 4) (0 : Int32) = false) ∧ (rcmp 4 (xs 4) (65536 : Int32) = false) ∧ (rcmp 2 (xs 4) (0 : Int32) = false) ∧ (rcmp 5 (xs 4) (65536 : Int32) = true) ∧ True from ⟨h0, t1_0, t2_0, t3_1, b4, b5, t1_0, t2_0, t3_1, b4, (rg4f (by have z0 := ri2f b4; have z1 := ri5t b5; have y0 := li_0; have y1 := li_65536; omega)), b4, b5, trivial⟩)
          | false =>
            exact rOk_of rr595 (show ((rop 3 (xs 0) (31 : Int32)) = (17 : Int32)) ∧ ((xs 1) = (0 : Int32)) ∧ ((xs 2) = (0 : Int32)) ∧ ((xs 3) = (1 : Int32)) ∧ (rcmp 2 (xs 4) (0 : Int32) = false) ∧ (rcmp 5 (xs 4) (65536 : Int32) = false) ∧ ((xs 1) = (0 : Int32)) ∧ ((xs 2) = (0 : Int32)) ∧ ((xs 3) = (1 : Int32)) ∧ (rcmp 2 (xs 4) (0 : Int32) = false) ∧ (rcmp 4 (xs 4) (65536 : Int32) = true) ∧ True from ⟨h0, t1_0, t2_0, t3_1, b4, b5, t1_0, t2_0, t3_1, b4, (rg4t (by have z0 := ri2f b4; have z1 := ri5f b5; have y0 := li_0; have y1 := li_65536; omega)), trivial⟩)
      by_cases t3_2 : (xs 3) = (2 : Int32)
      · cases b4 : rcmp 2 (xs 4) (0 : Int32) with
        | true =>
          exact rOk_of rr600 (show ((rop 3 (xs 0) (31 : Int32)) = (17 : Int32)) ∧ ((xs 1) = (0 : Int32)) ∧ ((xs 2) = (0 : Int32)) ∧ ((xs 3) = (2 : Int32)) ∧ (rcmp 2 (xs 4) (0 : Int32) = true) ∧ ((xs 1) = (0 : Int32)) ∧ ((xs 2) = (0 : Int32)) ∧ ((xs 3) = (2 : Int32)) ∧ (rcmp 2 (xs 4) (0 : Int32) = true) ∧ True from ⟨h0, t1_0, t2_0, t3_2, b4, t1_0, t2_0, t3_2, b4, trivial⟩)
        | false =>
          cases b5 : rcmp 5 (xs 4) (65536 : Int32) with
          | true =>
            exact rOk_of rr599 (show ((rop 3 (xs 0) (31 : Int32)) = (17 : Int32)) ∧ ((xs 1) = (0 : Int32)) ∧ ((xs 2) = (0 : Int32)) ∧ ((xs 3) = (2 : Int32)) ∧ (rcmp 2 (xs 4) (0 : Int32) = false) ∧ (rcmp 5 (xs 4) (65536 : Int32) = true) ∧ ((xs 1) = (0 : Int32)) ∧ ((xs 2) = (0 : Int32)) ∧ ((xs 3) = (2 : Int32)) ∧ (rcmp 2 (xs 4) (0 : Int32) = false) ∧ (rcmp 4 (xs 4) (65536 : Int32) = false) ∧ True from ⟨h0, t1_0, t2_0, t3_2, b4, b5, t1_0, t2_0, t3_2, b4, (rg4f (by have z0 := ri2f b4; have z1 := ri5t b5; have y0 := li_0; have y1 := li_65536; omega)), trivial⟩)
          | false =>
            exact rOk_of rr598 (show ((rop 3 (xs 0) (31 : Int32)) = (17 : Int32)) ∧ ((xs 1) = (0 : Int32)) ∧ ((xs 2) = (0 : Int32)) ∧ ((xs 3) = (2 : Int32)) ∧ (rcmp 2 (xs 4) (0 : Int32) = false) ∧ (rcmp 5 (xs 4) (65536 : Int32) = false) ∧ ((xs 1) = (0 : Int32)) ∧ ((xs 2) = (0 : Int32)) ∧ ((xs 3) = (2 : Int32)) ∧ (rcmp 2 (xs 4) (0 : Int32) = false) ∧ (rcmp 4 (xs 4) (65536 : Int32) = true) ∧ True from ⟨h0, t1_0, t2_0, t3_2, b4, b5, t1_0, t2_0, t3_2, b4, (rg4t (by have z0 := ri2f b4; have z1 := ri5f b5; have y0 := li_0; have y1 := li_65536; omega)), trivial⟩)
      by_cases t3_3 : (xs 3) = (3 : Int32)
      · cases b4 : rcmp 2 (xs 4) (0 : Int32) with
        | true =>
          exact rOk_of rr603 (show ((rop 3 (xs 0) (31 : Int32)) = (17 : Int32)) ∧ ((xs 1) = (0 : Int32)) ∧ ((xs 2) = (0 : Int32)) ∧ ((xs 3) = (3 : Int32)) ∧ (rcmp 2 (xs 4) (0 : Int32) = true) ∧ ((xs 1) = (0 : Int32)) ∧ ((xs 2) = (0 : Int32)) ∧ ((xs 3) = (3 : Int32)) ∧ (rcmp 2 (xs 4) (0 : Int32) = true) ∧ True from ⟨h0, t1_0, t2_0, t3_3, b4, t1_0, t2_0, t3_3, b4, trivial⟩)
        | false =>
          cases b5 : rcmp 5 (xs 4) (65536 : Int32) with
          | true =>
            exact rOk_of rr602 (show ((rop 3 (xs 0) (31 : Int32)) = (17 : Int32)) ∧ ((xs 1) = (0 : Int32)) ∧ ((xs 2) = (0 : Int32)) ∧ ((xs 3) = (3 : Int32)) ∧ (rcmp 2 (xs 4) (0 : Int32) = false) ∧ (rcmp 5 (xs 4) (65536 : Int32) = true) ∧ ((xs 1) = (0 : Int32)) ∧ ((xs 2) = (0 : Int32)) ∧ ((xs 3) = (3 : Int32)) ∧ (rcmp 2 (xs 4) (0 : Int32) = false) ∧ (rcmp 4 (xs 4) (65536 : Int32) = false) ∧ True from ⟨h0, t1_0, t2_0, t3_3, b4, b5, t1_0, t2_0, t3_3, b4, (rg4f (by have z0 := ri2f b4; have z1 := ri5t b5; have y0 := li_0; have y1 := li_65536; omega)), trivial⟩)
          | false =>
            exact rOk_of rr601 (show ((rop 3 (xs 0) (31 : Int32)) = (17 : Int32)) ∧ ((xs 1) = (0 : Int32)) ∧ ((xs 2) = (0 : Int32)) ∧ ((xs 3) = (3 : Int32)) ∧ (rcmp 2 (xs 4) (0 : Int32) = false) ∧ (rcmp 5 (xs 4) (65536 : Int32) = false) ∧ ((xs 1) = (0 : Int32)) ∧ ((xs 2) = (0 : Int32)) ∧ ((xs 3) = (3 : Int32)) ∧ (rcmp 2 (xs 4) (0 : Int32) = false) ∧ (rcmp 4 (xs 4) (65536 : Int32) = true) ∧ True from ⟨h0, t1_0, t2_0, t3_3, b4, b5, t1_0, t2_0, t3_3, b4, (rg4t (by have z0 := ri2f b4; have z1 := ri5f b5; have y0 := li_0; have y1 := li_65536; omega)), trivial⟩)
      by_cases t3_4 : (xs 3) = (4 : Int32)
      · cases b4 : rcmp 2 (xs 4) (0 : Int32) with
        | true =>
          exact rOk_of rr606 (show ((rop 3 (xs 0) (31 : Int32)) = (17 : Int32)) ∧ ((xs 1) = (0 : Int32)) ∧ ((xs 2) = (0 : Int32)) ∧ ((xs 3) = (4 : Int32)) ∧ (rcmp 2 (xs 4) (0 : Int32) = true) ∧ ((xs 1) = (0 : Int32)) ∧ ((xs 2) = (0 : Int32)) ∧ ((xs 3) = (4 : Int32)) ∧ (rcmp 2 (xs 4) (0 : Int32) = true) ∧ True from ⟨h0, t1_0, t2_0, t3_4, b4, t1_0, t2_0, t3_4, b4, trivial⟩)
        | false =>
          cases b5 : rcmp 5 (xs 4) (65536 : Int32) with
          | true =>
            exact rOk_of rr605 (show ((rop 3 (xs 0) (31 : Int32)) = (17 : Int32)) ∧ ((xs 1) = (0 : Int32)) ∧ ((xs 2) = (0 : Int32)) ∧ ((xs 3) = (4 : Int32)) ∧ (rcmp 2 (xs 4) (0 : Int32) = false) ∧ (rcmp 5 (xs 4) (65536 : Int32) = true) ∧ ((xs 1) = (0 : Int32)) ∧ ((xs 2) = (0 : Int32)) ∧ ((xs 3) = (4 : Int32)) ∧ (rcmp 2 (xs 4) (0 : Int32) = false) ∧ (rcmp 4 (xs 4) (65536 : Int32) = false) ∧ True from ⟨h0, t1_0, t2_0, t3_4, b4, b5, t1_0, t2_0, t3_4, b4, (rg4f (by have z0 := ri2f b4; have z1 := ri5t b5; have y0 := li_0; have y1 := li_65536; omega)), trivial⟩)
          | false =>
            exact rOk_of rr604 (show ((rop 3 (xs 0) (31 : Int32)) = (17 : Int32)) ∧ ((xs 1) = (0 : Int32)) ∧ ((xs 2) = (0 : Int32)) ∧ ((xs 3) = (4 : Int32)) ∧ (rcmp 2 (xs 4) (0 : Int32) = false) ∧ (rcmp 5 (xs 4) (65536 : Int32) = false) ∧ ((xs 1) = (0 : Int32)) ∧ ((xs 2) = (0 : Int32)) ∧ ((xs 3) = (4 : Int32)) ∧ (rcmp 2 (xs 4) (0 : Int32) = false) ∧ (rcmp 4 (xs 4) (65536 : Int32) = true) ∧ True from ⟨h0, t1_0, t2_0, t3_4, b4, b5, t1_0, t2_0, t3_4, b4, (rg4t (by have z0 := ri2f b4; have z1 := ri5f b5; have y0 := li_0; have y1 := li_65536; omega)), trivial⟩)
      cases b3 : rcmp 2 (xs 3) (0 : Int32) with
      | true =>
        exact rOk_of rr591 (show ((rop 3 (xs 0) (31 : Int32)) = (17 : Int32)) ∧ ((xs 1) = (0 : Int32)) ∧ ((xs 2) = (0 : Int32)) ∧ (rcmp 2 (xs 3) (0 : Int32) = true) ∧ ((xs 1) = (0 : Int32)) ∧ ((xs 2) = (0 : Int32)) ∧ (rcmp 2 (xs 3) (0 : Int32) = true) ∧ True from ⟨h0, t1_0, t2_0, b3, t1_0, t2_0, b3, trivial⟩)
      | false =>
        exact rOk_of rr590 (show ((rop 3 (xs 0) (31 : Int32)) = (17 : Int32)) ∧ ((xs 1) = (0 : Int32)) ∧ ((xs 2) = (0 : Int32)) ∧ (rcmp 2 (xs 3) (0 : Int32) = false) ∧ (rcmp 4 (xs 3) (4 : Int32) = true) ∧ ((xs 1) = (0 : Int32)) ∧ ((xs 2) = (0 : Int32)) ∧ (rcmp 2 (xs 3) (0 : Int32) = false) ∧ (rcmp 4 (xs 3) (4 : Int32) = true) ∧ True from ⟨h0, t1_0, t2_0, b3, (rg4t (by have z0 := rine t3_0; have z1 := rine t3_1; have z2 := rine t3_2; have z3 := rine t3_3; have z4 := rine t3_4; have z5 := ri2f b3; have y0 := li_0; have y1 := li_1; have y2 := li_2; have y3 := li_3; have y4 := li_4; omega)), t1_0, t2_0, b3, (rg4t (by have z0 := rine t3_0; have z1 := rine t3_1; have z2 := rine t3_2; have z3 := rine t3_3; have z4 := rine t3_4; have z5 := ri2f b3; have y0 := li_0; have y1 := li_1; have y2 := li_2; have y3 := li_3; have y4 := li_4; omega)), trivial⟩)
    by_cases t2_1 : (xs 2) = (1 : Int32)
    · by_cases t3_0 : (xs 3) = (0 : Int32)
      · cases b4 : rcmp 2 (xs 4) (0 : Int32) with
        | true =>
          exact rOk_of rr611 (show ((rop 3 (xs 0) (31 : Int32)) = (17 : Int32)) ∧ ((xs 1) = (0 : Int32)) ∧ ((xs 2) = (1 : Int32)) ∧ ((xs 3) = (0 : Int32)) ∧ (rcmp 2 (xs 4) (0 : Int32) = true) ∧ ((xs 1) = (0 : Int32)) ∧ ((xs 2) = (1 : Int32)) ∧ ((xs 3) = (0 : Int32)) ∧ (rcmp 2 (xs 4) (0 : Int32) = true) ∧ True from ⟨h0, t1_0, t2_1, t3_0, b4, t1_0, t2_1, t3_0, b4, trivial⟩)
        | false =>
          cases b5 : rcmp 5 (xs 4) (65536 : Int32) with
          | true =>
            exact rOk_of rr610 (show ((rop 3 (xs 0) (31 : Int32)) = (17 : Int32)) ∧ ((xs 1) = (0 : Int32)) ∧ ((xs 2) = (1 : Int32)) ∧ ((xs 3) = (0 : Int32)) ∧ (rcmp 2 (xs 4) (0 : Int32) = false) ∧ (rcmp 5 (xs 4) (65536 : Int32) = true) ∧ ((xs 1) = (0 : Int32)) ∧ ((xs 2) = (1 : Int32)) ∧ ((xs 3) = (0 : Int32)) ∧ (rcmp 2 (xs 4) (0 : Int32) = false) ∧ (rcmp 4 (xs 4) (65536 : Int32) = false) ∧ (rcmp 2 (xs 4) (0 : Int32) = false) ∧ (rcmp 5 (xs 4) (65536 : Int32) = true) ∧ True from ⟨h0, t1_0, t2_1, t3_0, b4, b5, t1_0, t2_1, t3_0, b4, (rg4f (by have z0 := ri2f b4; have z1 := ri5t b5; have y0 := li_0; have y1 := li_65536; omega)), b4, b5, trivial⟩)
          | false =>
            exact rOk_of rr609 (show ((rop 3 (xs 0) (31 : Int32)) = (17 : Int32)) ∧ ((xs 1) = (0 : Int32)) ∧ ((xs 2) = (1 : Int32)) ∧ ((xs 3) = (0 : Int32)) ∧ (rcmp 2 (xs 4) (0 : Int32) = false) ∧ (rcmp 5 (xs 4) (65536 : Int32) = false) ∧ ((xs 1) = (0 : Int32)) ∧ ((xs 2) = (1 : Int32)) ∧ ((xs 3) = (0 : Int32)) ∧ (rcmp 2 (xs 4) (0 : Int32) = false) ∧ (rcmp 4 (xs 4) (65536 : Int32) = true) ∧ True from ⟨h0, t1_0, t2_1, t3_0, b4, b5, t1_0, t2_1, t3_0, b4, (rg4t (by have z0 := ri2f b4; have z1 := ri5f b5; have y0 := li_0; have y1 := li_65536; omega)), trivial⟩)
      by_cases t3_1 : (xs 3) = (1 : Int32)
      · cases b4 : rcmp 2 (xs 4) (0 : Int32) with
        | true =>
          exact rOk_of rr614 (show ((rop 3 (xs 0) (31 : Int32)) = (17 : Int32)) ∧ ((xs 1) = (0 : Int32)) ∧ ((xs 2) = (1 : Int32)) ∧ ((xs 3) = (1 : Int32)) ∧ (rcmp 2 (xs 4) (0 : Int32) = true) ∧ ((xs 1) = (0 : Int32)) ∧ ((xs 2) = (1 : Int32)) ∧ ((xs 3) = (1 : Int32)) ∧ (rcmp 2 (xs 4) (0 : Int32) = true) ∧ True from ⟨h0, t1_0, t2_1, t3_1, b4, t1_0, t2_1, t3_1, b4, trivial⟩)
        | false =>
          cases b5 : rcmp 5 (xs 4) (65536 : Int32) with
          | true =>
            exact rOk_of rr613 (show ((rop 3 (xs 0) (31 : Int32)) = (17 : Int32)) ∧ ((xs 1) = (0 : Int32)) ∧ ((xs 2) = (1 : Int32)) ∧ ((xs 3) = (1 : Int32)) ∧ (rcmp 2 (xs 4) (0 : Int32) = false) ∧ (rcmp 5 (xs 4) (65536 : Int32) = true) ∧ ((xs 1) = (0 : Int32)) ∧ ((xs 2) = (1 : Int32)) ∧ ((xs 3) = (1 : Int32)) ∧ (rcmp 2 (xs 4) (0 : Int32) = false) ∧ (rcmp 4 (xs 4) (65536 : Int32) = false) ∧ (rcmp 2 (xs 4) (0 : Int32) = false) ∧ (rcmp 5 (xs 4) (65536 : Int32) = true) ∧ True from ⟨h0, t1_0, t2_1, t3_1, b4, b5, t1_0, t2_1, t3_1, b4, (rg4f (by have z0 := ri2f b4; have z1 := ri5t b5; have y0 := li_0; have y1 := li_65536; omega)), b4, b5, trivial⟩)
          | false =>
            exact rOk_of rr612 (show ((rop 3 (xs 0) (31 : Int32)) = (17 : Int32)) ∧ ((xs 1) = (0 : Int32)) ∧ ((xs 2) = (1 : Int32)) ∧ ((xs 3) = (1 : Int32)) ∧ (rcmp 2 (xs 4) (0 : Int32) = false) ∧ (rcmp 5 (xs 4) (65536 : Int32) = false) ∧ ((xs 1) = (0 : Int32)) ∧ ((xs 2) = (1 : Int32)) ∧ ((xs 3) = (1 : Int32)) ∧ (rcmp 2 (xs 4) (0 : Int32) = false) ∧ (rcmp 4 (xs 4) (65536 : Int32) = true) ∧ True from ⟨h0, t1_0, t2_1, t3_1, b4, b5, t1_0, t2_1, t3_1, b4, (rg4t (by have z0 := ri2f b4; have z1 := ri5f b5; have y0 := li_0; have y1 := li_65536; omega)), trivial⟩)
      by_cases t3_2 : (xs 3) = (2 : Int32)
      · cases b4 : rcmp 2 (xs 4) (0 : Int32) with
        | true =>
          exact rOk_of rr617 (show ((rop 3 (xs 0) (31 : Int32)) = (17 : Int32)) ∧ ((xs 1) = (0 : Int32)) ∧ ((xs 2) = (1 : Int32)) ∧ ((xs 3) = (2 : Int32)) ∧ (rcmp 2 (xs 4) (0 : Int32) = true) ∧ ((xs 1) = (0 : Int32)) ∧ ((xs 2) = (1 : Int32)) ∧ ((xs 3) = (2 : Int32)) ∧ (rcmp 2 (xs 4) (0 : Int32) = true) ∧ True from ⟨h0, t1_0, t2_1, t3_2, b4, t1_0, t2_1, t3_2, b4, trivial⟩)
        | false =>
          cases b5 : rcmp 5 (xs 4) (65536 : Int32) with
          | true =>
            exact rOk_of rr616 (show ((rop 3 (xs 0) (31 : Int32)) = (17 : Int32)) ∧ ((xs 1) = (0 : Int32)) ∧ ((xs 2) = (1 : Int32)) ∧ ((xs 3) = (2 : Int32)) ∧ (rcmp 2 (xs 4) (0 : Int32) = false) ∧ (rcmp 5 (xs 4) (65536 : Int32) = true) ∧ ((xs 1) = (0 : Int32)) ∧ ((xs 2) = (1 : Int32)) ∧ ((xs 3) = (2 : Int32)) ∧ (rcmp 2 (xs 4) (0 : Int32) = false) ∧ (rcmp 4 (xs 4) (65536 : Int32) = false) ∧ True from ⟨h0, t1_0, t2_1, t3_2, b4, b5, t1_0, t2_1, t3_2, b4, (rg4f (by have z0 := ri2f b4; have z1 := ri5t b5; have y0 := li_0; have y1 := li_65536; omega)), trivial⟩)
          | false =>
            exact rOk_of rr615 (show ((rop 3 (xs 0) (31 : Int32)) = (17 : Int32)) ∧ ((xs 1) = (0 : Int32)) ∧ ((xs 2) = (1 : Int32)) ∧ ((xs 3) = (2 : Int32)) ∧ (rcmp 2 (xs 4) (0 : Int32) = false) ∧ (rcmp 5 (xs 4) (65536 : Int32) = false) ∧ ((xs 1) = (0 : Int32)) ∧ ((xs 2) = (1 : Int32)) ∧ ((xs 3) = (2 : Int32)) ∧ (rcmp 2 (xs 4) (0 : Int32) = false) ∧ (rcmp 4 (xs 4) (65536 : Int32) = true) ∧ True from ⟨h0, t1_0, t2_1, t3_2, b4, b5, t1_0, t2_1, t3_2, b4, (rg4t (by have z0 := ri2f b4; have z1 := ri5f b5; have y0 := li_0; have y1 := li_65536; omega)), trivial⟩)
      by_cases t3_3 : (xs 3) = (3 : Int32)
      · cases b4 : rcmp 2 (xs 4) (0 : Int32) with
        | true =>
          exact rOk_of rr620 (show ((rop 3 (xs 0) (31 : Int32)) = (17 : Int32)) ∧ ((xs 1) = (0 : Int32)) ∧ ((xs 2) = (1 : Int32)) ∧ ((xs 3) = (3 : Int32)) ∧ (rcmp 2 (xs 4) (0 : Int32) = true) ∧ ((xs 1) = (0 : Int32)) ∧ ((xs 2) = (1 : Int32)) ∧ ((xs 3) = (3 : Int32)) ∧ (rcmp 2 (xs 4) (0 : Int32) = true) ∧ True from ⟨h0, t1_0, t2_1, t3_3, b4, t1_0, t2_1, t3_3, b4, trivial⟩)
        | false =>
          cases b5 : rcmp 5 (xs 4) (65536 : Int32) with
          | true =>
            exact rOk_of rr619 (show ((rop 3 (xs 0) (31 : Int32)) = (17 : Int32)) ∧ ((xs 1) = (0 : Int32)) ∧ ((xs 2) = (1 : Int32)) ∧ ((xs 3) = (3 : Int32)) ∧ (rcmp 2 (xs 4) (0 : Int32) = false) ∧ (rcmp 5 (xs 4) (65536 : Int32) = true) ∧ ((xs 1) = (0 : Int32)) ∧ ((xs 2) = (1 : Int32)) ∧ ((xs 3) = (3 : Int32)) ∧ (rcmp 2 (xs 4) (0 : Int32) = false) ∧ (rcmp 4 (xs 4) (65536 : Int32) = false) ∧ True from ⟨h0, t1_0, t2_1, t3_3, b4, b5, t1_0, t2_1, t3_3, b4, (rg4f (by have z0 := ri2f b4; have z1 := ri5t b5; have y0 := li_0; have y1 := li_65536; omega)), trivial⟩)
          | false =>
            exact rOk_of rr618 (show ((rop 3 (xs 0) (31 : Int32)) = (17 : Int32)) ∧ ((xs 1) = (0 : Int32)) ∧ ((xs 2) = (1 : Int32)) ∧ ((xs 3) = (3 : Int32)) ∧ (rcmp 2 (xs 4) (0 : Int32) = false) ∧ (rcmp 5 (xs 4) (65536 : Int32) = false) ∧ ((xs 1) = (0 : Int32)) ∧ ((xs 2) = (1 : Int32)) ∧ ((xs 3) = (3 : Int32)) ∧ (rcmp 2 (xs 4) (0 : Int32) = false) ∧ (rcmp 4 (xs 4) (65536 : Int32) = true) ∧ True from ⟨h0, t1_0, t2_1, t3_3, b4, b5, t1_0, t2_1, t3_3, b4, (rg4t (by have z0 := ri2f b4; have z1 := ri5f b5; have y0 := li_0; have y1 := li_65536; omega)), trivial⟩)
      by_cases t3_4 : (xs 3) = (4 : Int32)
      · cases b4 : rcmp 2 (xs 4) (0 : Int32) with
        | true =>
          exact rOk_of rr623 (show ((rop 3 (xs 0) (31 : Int32)) = (17 : Int32)) ∧ ((xs 1) = (0 : Int32)) ∧ ((xs 2) = (1 : Int32)) ∧ ((xs 3) = (4 : Int32)) ∧ (rcmp 2 (xs 4) (0 : Int32) = true) ∧ ((xs 1) = (0 : Int32)) ∧ ((xs 2) = (1 : Int32)) ∧ ((xs 3) = (4 : Int32)) ∧ (rcmp 2 (xs 4) (0 : Int32) = true) ∧ True from ⟨h0, t1_0, t2_1, t3_4, b4, t1_0, t2_1, t3_4, b4, trivial⟩)
        | false =>
          cases b5 : rcmp 5 (xs 4) (65536 : Int32) with
          | true =>
            exact rOk_of rr622 (show ((rop 3 (xs 0) (31 : Int32)) = (17 : Int32)) ∧ ((xs 1) = (0 : Int32)) ∧ ((xs 2) = (1 : Int32)) ∧ ((xs 3) = (4 : Int32)) ∧ (rcmp 2 (xs 4) (0 : Int32) = false) ∧ (rcmp 5 (xs 4) (65536 : Int32) = true) ∧ ((xs 1) = (0 : Int32)) ∧ ((xs 2) = (1 : Int32)) ∧ ((xs 3) = (4 : Int32)) ∧ (rcmp 2 (xs 4) (0 : Int32) = false) ∧ (rcmp 4 (xs 4) (65536 : Int32) = false) ∧ True from ⟨h0, t1_0, t2_1, t3_4, b4, b5, t1_0, t2_1, t3_4, b4, (rg4f (by have z0 := ri2f b4; have z1 := ri5t b5; have y0 := li_0; have y1 := li_65536; omega)), trivial⟩)
          | false =>
            exact rOk_of rr621 (show ((rop 3 (xs 0) (31 : Int32)) = (17 : Int32)) ∧ ((xs 1) = (0 : Int32)) ∧ ((xs 2) = (1 : Int32)) ∧ ((xs 3) = (4 : Int32)) ∧ (rcmp 2 (xs 4) (0 : Int32) = false) ∧ (rcmp 5 (xs 4) (65536 : Int32) = false) ∧ ((xs 1) = (0 : Int32)) ∧ ((xs 2) = (1 : Int32)) ∧ ((xs 3) = (4 : Int32)) ∧ (rcmp 2 (xs 4) (0 : Int32) = false) ∧ (rcmp 4 (xs 4) (65536 : Int32) = true) ∧ True from ⟨h0, t1_0, t2_1, t3_4, b4, b5, t1_0, t2_1, t3_4, b4, (rg4t (by have z0 := ri2f b4; have z1 := ri5f b5; have y0 := li_0; have y1 := li_65536; omega)), trivial⟩)
      cases b3 : rcmp 2 (xs 3) (0 : Int32) with
      | true =>
        exact rOk_of rr608 (show ((rop 3 (xs 0) (31 : Int32)) = (17 : Int32)) ∧ ((xs 1) = (0 : Int32)) ∧ ((xs 2) = (1 : Int32)) ∧ (rcmp 2 (xs 3) (0 : Int32) = true) ∧ ((xs 1) = (0 : Int32)) ∧ ((xs 2) = (1 : Int32)) ∧ (rcmp 2 (xs 3) (0 : Int32) = true) ∧ True from ⟨h0, t1_0, t2_1, b3, t1_0, t2_1, b3, trivial⟩)
      | false =>
        exact rOk_of rr607 (show ((rop 3 (xs 0) (31 : Int32)) = (17 : Int32)) ∧ ((xs 1) = (0 : Int32)) ∧ ((xs 2) = (1 : Int32)) ∧ (rcmp 2 (xs 3) (0 : Int32) = false) ∧ (rcmp 4 (xs 3) (4 : Int32) = true) ∧ ((xs 1) = (0 : Int32)) ∧ ((xs 2) = (1 : Int32)) ∧ (rcmp 2 (xs 3) (0 : Int32) = false) ∧ (rcmp 4 (xs 3) (4 : Int32) = true) ∧ True from ⟨h0, t1_0, t2_1, b3, (rg4t (by have z0 := rine t3_0; have z1 := rine t3_1; have z2 := rine t3_2; have z3 := rine t3_3; have z4 := rine t3_4; have z5 := ri2f b3; have y0 := li_0; have y1 := li_1; have y2 := li_2; have y3 := li_3; have y4 := li_4; omega)), t1_0, t2_1, b3, (rg4t (by have z0 := rine t3_0; have z1 := rine t3_1; have z2 := rine t3_2; have z3 := rine t3_3; have z4 := rine t3_4; have z5 := ri2f b3; have y0 := li_0; have y1 := li_1; have y2 := li_2; have y3 := li_3; have y4 := li_4; omega)), trivial⟩)
    by_cases t2_2 : (xs 2) = (2 : Int32)
    · by_cases t3_0 : (xs 3) = (0 : Int32)
      · cases b4 : rcmp 2 (xs 4) (0 : Int32) with
        | true =>
          exact rOk_of rr628 (show ((rop 3 (xs 0) (31 : Int32)) = (17 : Int32)) ∧ ((xs 1) = (0 : Int32)) ∧ ((xs 2) = (2 : Int32)) ∧ ((xs 3) = (0 : Int32)) ∧ (rcmp 2 (xs 4) (0 : Int32) = true) ∧ ((xs 1) = (0 : Int32)) ∧ ((xs 2) = (2 : Int32)) ∧ ((xs 3) = (0 : Int32)) ∧ (rcmp 2 (xs 4) (0 : Int32) = true) ∧ True from ⟨h0, t1_0, t2_2, t3_0, b4, t1_0, t2_2, t3_0, b4, trivial⟩)
        | false =>
          cases b5 : rcmp 5 (xs 4) (65536 : Int32) with
          | true =>
            exact rOk_of rr627 (show ((rop 3 (xs 0) (31 : Int32)) = (17 : Int32)) ∧ ((xs 1) = (0 : Int32)) ∧ ((xs 2) = (2 : Int32)) ∧ ((xs 3) = (0 : Int32)) ∧ (rcmp 2 (xs 4) (0 : Int32) = false) ∧ (rcmp 5 (xs 4) (65536 : Int32) = true) ∧ ((xs 1) = (0 : Int32)) ∧ ((xs 2) = (2 : Int32)) ∧ ((xs 3) = (0 : Int32)) ∧ (rcmp 2 (xs 4) (0 : Int32) = false) ∧ (rcmp 4 (xs 4) (65536 : Int32) = false) ∧ (rcmp 2 (xs 4) (0 : Int32) = false) ∧ (rcmp 5 (xs 4) (65536 : Int32) = true) ∧ True from ⟨h0, t1_0, t2_2, t3_0, b4, b5, t1_0, t2_2, t3_0, b4, (rg4f (by have z0 := ri2f b4; have z1 := ri5t b5; have y0 := li_0; have y1 := li_65536; omega)), b4, b5, trivial⟩)
          | false =>
            exact rOk_of rr626 (show ((rop 3 (xs 0) (31 : Int32)) = (17 : Int32)) ∧ ((xs 1) = (0 : Int32)) ∧ ((xs 2) = (2 : Int32)) ∧ ((xs 3) = (0 : Int32)) ∧ (rcmp 2 (xs 4) (0 : Int32) = false) ∧ (rcmp 5 (xs 4) (65536 : Int32) = false) ∧ ((xs 1) = (0 : Int32)) ∧ ((xs 2) = (2 : Int32)) ∧ ((xs 3) = (0 : Int32)) ∧ (rcmp 2 (xs 4) (0 : Int32) = false) ∧ (rcmp 4 (xs 4) (65536 : Int32) = true) ∧ True from ⟨h0, t1_0, t2_2, t3_0, b4, b5, t1_0, t2_2, t3_0, b4, (rg4t (by have z0 := ri2f b4; have z1 := ri5f b5; have y0 := li_0; have y1 := li_65536; omega)), trivial⟩)
      by_cases t3_1 : (xs 3) = (1 : Int32)
      · cases b4 : rcmp 2 (xs 4) (0 : Int32) with
        | true =>
          exact rOk_of rr631 (show ((rop 3 (xs 0) (31 : Int32)) = (17 : Int32)) ∧ ((xs 1) = (0 : Int32)) ∧ ((xs 2) = (2 : Int32)) ∧ ((xs 3) = (1 : Int32)) ∧ (rcmp 2 (xs 4) (0 : Int32) = true) ∧ ((xs 1) = (0 : Int32)) ∧ ((xs 2) = (2 : Int32)) ∧ ((xs 3) = (1 : Int32)) ∧ (rcmp 2 (xs 4) (0 : Int32) = true) ∧ True from ⟨h0, t1_0, t2_2, t3_1, b4, t1_0, t2_2, t3_1, b4, trivial⟩)
        | false =>
          cases b5 : rcmp 5 (xs 4) (65536 : Int32) with
          | true =>
            exact rOk_of rr630 (show ((rop 3 (xs 0) (31 : Int32)) = (17 : Int32)) ∧ ((xs 1) = (0 : Int32)) ∧ ((xs 2) = (2 : Int32)) ∧ ((xs 3) = (1 : Int32)) ∧ (rcmp 2 (xs 4) (0 : Int32) = false) ∧ (rcmp 5 (xs 4) (65536 : Int32) = true) ∧ ((xs 1) = (0 : Int32)) ∧ ((xs 2) = (2 : Int32)) ∧ ((xs 3) = (1 : Int32)) ∧ (rcmp 2 (xs 4) (0 : Int32) = false) ∧ (rcmp 4 (xs 4) (65536 : Int32) = false) ∧ (rcmp 2 (xs 4) (0 : Int32) = false) ∧ (rcmp 5 (xs 4) (65536 : Int32) = true) ∧ True from ⟨h0, t1_0, t2_2, t3_1, b4, b5, t1_0, t2_2, t3_1, b4, (rg4f (by have z0 := ri2f b4; have z1 := ri5t b5; have y0 := li_0; have y1 := li_65536; omega)), b4, b5, trivial⟩)
          | false =>
            exact rOk_of rr629 (show ((rop 3 (xs 0) (31 : Int32)) = (17 : Int32)) ∧ ((xs 1) = (0 : Int32)) ∧ ((xs 2) = (2 : Int32)) ∧ ((xs 3) = (1 : Int32)) ∧ (rcmp 2 (xs 4) (0 : Int32) = false) ∧ (rcmp 5 (xs 4) (65536 : Int32) = false) ∧ ((xs 1) = (0 : Int32)) ∧ ((xs 2) = (2 : Int32)) ∧ ((xs 3) = (1 : Int32)) ∧ (rcmp 2 (xs 4) (0 : Int32) = false) ∧ (rcmp 4 (xs 4) (65536 : Int32) = true) ∧ True from ⟨h0, t1_0, t2_2, t3_1, b4, b5, t1_0, t2_2, t3_1, b4, (rg4t (by have z0 := ri2f b4; have z1 := ri5f b5; have y0 := li_0; have y1 := li_65536; omega)), trivial⟩)
      by_cases t3_2 : (xs 3) = (2 : Int32)
      · cases b4 : rcmp 2 (xs 4) (0 : Int32) with
        | true =>
          exact rOk_of rr634 (show ((rop 3 (xs 0) (31 : Int32)) = (17 : Int32)) ∧ ((xs 1) = (0 : Int32)) ∧ ((xs 2) = (2 : Int32)) ∧ ((xs 3) = (2 : Int32)) ∧ (rcmp 2 (xs 4) (0 : Int32) = true) ∧ ((xs 1) = (0 : Int32)) ∧ ((xs 2) = (2 : Int32)) ∧ ((xs 3) = (2 : Int32)) ∧ (rcmp 2 (xs 4) (0 : Int32) = true) ∧ True from ⟨h0, t1_0, t2_2, t3_2, b4, t1_0, t2_2, t3_2, b4, trivial⟩)
        | false =>
          cases b5 : rcmp 5 (xs 4) (65536 : Int32) with
          | true =>
            exact rOk_of rr633 (show ((rop 3 (xs 0) (31 : Int32)) = (17 : Int32)) ∧ ((xs 1) = (0 : Int32)) ∧ ((xs 2) = (2 : Int32)) ∧ ((xs 3) = (2 : Int32)) ∧ (rcmp 2 (xs 4) (0 : Int32) = false) ∧ (rcmp 5 (xs 4) (65536 : Int32) = true) ∧ ((xs 1) = (0 : Int32)) ∧ ((xs 2) = (2 : Int32)) ∧ ((xs 3) = (2 : Int32)) ∧ (rcmp 2 (xs 4) (0 : Int32) = false) ∧ (rcmp 4 (xs 4) (65536 : Int32) = false) ∧ True from ⟨h0, t1_0, t2_2, t3_2, b4, b5, t1_0, t2_2, t3_2, b4, (rg4f (by have z0 := ri2f b4; have z1 := ri5t b5; have y0 := li_0; have y1 := li_65536; omega)), trivial⟩)
          | false =>
            exact rOk_of rr632 (show ((rop 3 (xs 0) (31 : Int32)) = (17 : Int32)) ∧ ((xs 1) = (0 : Int32)) ∧ ((xs 2) = (2 : Int32)) ∧ ((xs 3) = (2 : Int32)) ∧ (rcmp 2 (xs 4) (0 : Int32) = false) ∧ (rcmp 5 (xs 4) (65536 : Int32) = false) ∧ ((xs 1) = (0 : Int32)) ∧ ((xs 2) = (2 : Int32)) ∧ ((xs 3) = (2 : Int32)) ∧ (rcmp 2 (xs 4) (0 : Int32) = false) ∧ (rcmp 4 (xs 4) (65536 : Int32) = true) ∧ True from ⟨h0, t1_0, t2_2, t3_2, b4, b5, t1_0, t2_2, t3_2, b4, (rg4t (by have z0 := ri2f b4; have z1 := ri5f b5; have y0 := li_0; have y1 := li_65536; omega)), trivial⟩)
      by_cases t3_3 : (xs 3) = (3 : Int32)
      · cases b4 : rcmp 2 (xs 4) (0 : Int32) with
        | true =>
          exact rOk_of rr637 (show ((rop 3 (xs 0) (31 : Int32)) = (17 : Int32)) ∧ ((xs 1) = (0 : Int32)) ∧ ((xs 2) = (2 : Int32)) ∧ ((xs 3) = (3 : Int32)) ∧ (rcmp 2 (xs 4) (0 : Int32) = true) ∧ ((xs 1) = (0 : Int32)) ∧ ((xs 2) = (2 : Int32)) ∧ ((xs 3) = (3 : Int32)) ∧ (rcmp 2 (xs 4) (0 : Int32) = true) ∧ True from ⟨h0, t1_0, t2_2, t3_3, b4, t1_0, t2_2, t3_3, b4, trivial⟩)
        | false =>
          cases b5 : rcmp 5 (xs 4) (65536 : Int32) with
          | true =>
            exact rOk_of rr636 (show ((rop 3 (xs 0) (31 : Int32)) = (17 : Int32)) ∧ ((xs 1) = (0 : Int32)) ∧ ((xs 2) = (2 : Int32)) ∧ ((xs 3) = (3 : Int32)) ∧ (rcmp 2 (xs 4) (0 : Int32) = false) ∧ (rcmp 5 (xs 4) (65536 : Int32) = true) ∧ ((xs 1) = (0 : Int32)) ∧ ((xs 2) = (2 : Int32)) ∧ ((xs 3) = (3 : Int32)) ∧ (rcmp 2 (xs 4) (0 : Int32) = false) ∧ (rcmp 4 (xs 4) (65536 : Int32) = false) ∧ True from ⟨h0, t1_0, t2_2, t3_3, b4, b5, t1_0, t2_2, t3_3, b4, (rg4f (by have z0 := ri2f b4; have z1 := ri5t b5; have y0 := li_0; have y1 := li_65536; omega)), trivial⟩)
          | false =>
            exact rOk_of rr635 (show ((rop 3 (xs 0) (31 : Int32)) = (17 : Int32)) ∧ ((xs 1) = (0 : Int32)) ∧ ((xs 2) = (2 : Int32)) ∧ ((xs 3) = (3 : Int32)) ∧ (rcmp 2 (xs 4) (0 : Int32) = false) ∧ (rcmp 5 (xs 4) (65536 : Int32) = false) ∧ ((xs 1) = (0 : Int32)) ∧ ((xs 2) = (2 : Int32)) ∧ ((xs 3) = (3 : Int32)) ∧ (rcmp 2 (xs 4) (0 : Int32) = false) ∧ (rcmp 4 (xs 4) (65536 : Int32) = true) ∧ True from ⟨h0, t1_0, t2_2, t3_3, b4, b5, t1_0, t2_2, t3_3, b4, (rg4t (by have z0 := ri2f b4; have z1 := ri5f b5; have y0 := li_0; have y1 := li_65536; omega)), trivial⟩)
      by_cases t3_4 : (xs 3) = (4 : Int32)
      · cases b4 : rcmp 2 (xs 4) (0 : Int32) with
        | true =>
          exact rOk_of rr640 (show ((rop 3 (xs 0) (31 : Int32)) = (17 : Int32)) ∧ ((xs 1) = (0 : Int32)) ∧ ((xs 2) = (2 : Int32)) ∧ ((xs 3) = (4 : Int32)) ∧ (rcmp 2 (xs 4) (0 : Int32) = true) ∧ ((xs 1) = (0 : Int32)) ∧ ((xs 2) = (2 : Int32)) ∧ ((xs 3) = (4 : Int32)) ∧ (rcmp 2 (xs 4) (0 : Int32) = true) ∧ True from ⟨h0, t1_0, t2_2, t3_4, b4, t1_0, t2_2, t3_4, b4, trivial⟩)
        | false =>
          cases b5 : rcmp 5 (xs 4) (65536 : Int32) with
          | true =>
            exact rOk_of rr639 (show ((rop 3 (xs 0) (31 : Int32)) = (17 : Int32)) ∧ ((xs 1) = (0 : Int32)) ∧ ((xs 2) = (2 : Int32)) ∧ ((xs 3) = (4 : Int32)) ∧ (rcmp 2 (xs 4) (0 : Int32) = false) ∧ (rcmp 5 (xs 4) (65536 : Int32) = true) ∧ ((xs 1) = (0 : Int32)) ∧ ((xs 2) = (2 : Int32)) ∧ ((xs 3) = (4 : Int32)) ∧ (rcmp 2 (xs 4) (0 : Int32) = false) ∧ (rcmp 4 (xs 4) (65536 : Int32) = false) ∧ True from ⟨h0, t1_0, t2_2, t3_4, b4, b5, t1_0, t2_2, t3_4, b4, (rg4f (by have z0 := ri2f b4; have z1 := ri5t b5; have y0 := li_0; have y1 := li_65536; omega)), trivial⟩)
          | false =>
            exact rOk_of rr638 (show ((rop 3 (xs 0) (31 : Int32)) = (17 : Int32)) ∧ ((xs 1) = (0 : Int32)) ∧ ((xs 2) = (2 : Int32)) ∧ ((xs 3) = (4 : Int32)) ∧ (rcmp 2 (xs 4) (0 : Int32) = false) ∧ (rcmp 5 (xs 4) (65536 : Int32) = false) ∧ ((xs 1) = (0 : Int32)) ∧ ((xs 2) = (2 : Int32)) ∧ ((xs 3) = (4 : Int32)) ∧ (rcmp 2 (xs 4) (0 : Int32) = false) ∧ (rcmp 4 (xs 4) (65536 : Int32) = true) ∧ True from ⟨h0, t1_0, t2_2, t3_4, b4, b5, t1_0, t2_2, t3_4, b4, (rg4t (by have z0 := ri2f b4; have z1 := ri5f b5; have y0 := li_0; have y1 := li_65536; omega)), trivial⟩)
      cases b3 : rcmp 2 (xs 3) (0 : Int32) with
      | true =>
        exact rOk_of rr625 (show ((rop 3 (xs 0) (31 : Int32)) = (17 : Int32)) ∧ ((xs 1) = (0 : Int32)) ∧ ((xs 2) = (2 : Int32)) ∧ (rcmp 2 (xs 3) (0 : Int32) = true) ∧ ((xs 1) = (0 : Int32)) ∧ ((xs 2) = (2 : Int32)) ∧ (rcmp 2 (xs 3) (0 : Int32) = true) ∧ True from ⟨h0, t1_0, t2_2, b3, t1_0, t2_2, b3, trivial⟩)
      | false =>
        exact rOk_of rr624 (show ((rop 3 (xs 0) (31 : Int32)) = (17 : Int32)) ∧ ((xs 1) = (0 : Int32)) ∧ ((xs 2) = (2 : Int32)) ∧ (rcmp 2 (xs 3) (0 : Int32) = false) ∧ (rcmp 4 (xs 3) (4 : Int32) = true) ∧ ((xs 1) = (0 : Int32)) ∧ ((xs 2) = (2 : Int32)) ∧ (rcmp 2 (xs 3) (0 : Int32) = false) ∧ (rcmp 4 (xs 3) (4 : Int32) = true) ∧ True from ⟨h0, t1_0, t2_2, b3, (rg4t (by have z0 := rine t3_0; have z1 := rine t3_1; have z2 := rine t3_2; have z3 := rine t3_3; have z4 := rine t3_4; have z5 := ri2f b3; have y0 := li_0; have y1 := li_1; have y2 := li_2; have y3 := li_3; have y4 := li_4; omega)), t1_0, t2_2, b3, (rg4t (by have z0 := rine t3_0; have z1 := rine t3_1; have z2 := rine t3_2; have z3 := rine t3_3; have z4 := rine t3_4; have z5 := ri2f b3; have y0 := li_0; have y1 := li_1; have y2 := li_2; have y3 := li_3; have y4 := li_4; omega)), trivial⟩)
    by_cases t2_3 : (xs 2) = (3 : Int32)
    · by_cases t3_0 : (xs 3) = (0 : Int32)
      · cases b4 : rcmp 2 (xs 4) (0 : Int32) with
        | true =>
          exact rOk_of rr645 (show ((rop 3 (xs 0) (31 : Int32)) = (17 : Int32)) ∧ ((xs 1) = (0 : Int32)) ∧ ((xs 2) = (3 : Int32)) ∧ ((xs 3) = (0 : Int32)) ∧ (rcmp 2 (xs 4) (0 : Int32) = true) ∧ ((xs 1) = (0 : Int32)) ∧ ((xs 2) = (3 : Int32)) ∧ ((xs 3) = (0 : Int32)) ∧ (rcmp 2 (xs 4) (0 : Int32) = true) ∧ True from ⟨h0, t1_0, t2_3, t3_0, b4, t1_0, t2_3, t3_0, b4, trivial⟩)
        | false =>
          cases b5 : rcmp 5 (xs 4) (65536 : Int32) with
          | true =>
            exact rOk_of rr644 (show ((rop 3 (xs 0) (31 : Int32)) = (17 : Int32)) ∧ ((xs 1) = (0 : Int32)) ∧ ((xs 2) = (3 : Int32)) ∧ ((xs 3) = (0 : Int32)) ∧ (rcmp 2 (xs 4) (0 : Int32) = false) ∧ (rcmp 5 (xs 4) (65536 : Int32) = true) ∧ ((xs 1) = (0 : Int32)) ∧ ((xs 2) = (3 : Int32)) ∧ ((xs 3) = (0 : Int32)) ∧ (rcmp 2 (xs 4) (0 : Int32) = false) ∧ (rcmp 4 (xs 4) (65536 : Int32) = false) ∧ (rcmp 2 (xs 4) (0 : Int32) = false) ∧ (rcmp 5 (xs 4) (65536 : Int32) = true) ∧ True from ⟨h0, t1_0, t2_3, t3_0, b4, b5, t1_0, t2_3, t3_0, b4, (rg4f (by have z0 := ri2f b4; have z1 := ri5t b5; have y0 := li_0; have y1 := li_65536; omega)), b4, b5, trivial⟩)
          | false =>
            exact rOk_of rr643 (show ((rop 3 (xs 0) (31 : Int32)) = (17 : Int32)) ∧ ((xs 1) = (0 : Int32)) ∧ ((xs 2) = (3 : Int32)) ∧ ((xs 3) = (0 : Int32)) ∧ (rcmp 2 (xs 4) (0 : Int32) = false) ∧ (rcmp 5 (xs 4) (65536 : Int32) = false) ∧ ((xs 1) = (0 : Int32)) ∧ ((xs 2) = (3 : Int32)) ∧ ((xs 3) = (0 : Int32)) ∧ (rcmp 2 (xs 4) (0 : Int32) = false) ∧ (rcmp 4 (xs 4) (65536 : Int32) = true) ∧ True from ⟨h0, t1_0, t2_3, t3_0, b4, b5, t1_0, t2_3, t3_0, b4, (rg4t (by have z0 := ri2f b4; have z1 := ri5f b5; have y0 := li_0; have y1 := li_65536; omega)), trivial⟩)
      by_cases t3_1 : (xs 3) = (1 : Int32)
      · cases b4 : rcmp 2 (xs 4) (0 : Int32) with
        | true =>
          exact rOk_of rr648 (show ((rop 3 (xs 0) (31 : Int32)) = (17 : Int32)) ∧ ((xs 1) = (0 : Int32)) ∧ ((xs 2) = (3 : Int32)) ∧ ((xs 3) = (1 : Int32)) ∧ (rcmp 2 (xs 4) (0 : Int32) = true) ∧ ((xs 1) = (0 : Int32)) ∧ ((xs 2) = (3 : Int32)) ∧ ((xs 3) = (1 : Int32)) ∧ (rcmp 2 (xs 4) (0 : Int32) = true) ∧ True from ⟨h0, t1_0, t2_3, t3_1, b4, t1_0, t2_3, t3_1, b4, trivial⟩)
        | false =>
          cases b5 : rcmp 5 (xs 4) (65536 : Int32) with
          | true =>
            exact rOk_of rr647 (show ((rop 3 (xs 0) (31 : Int32)) = (17 : Int32)) ∧ ((xs 1) = (0 : Int32)) ∧ ((xs 2) = (3 : Int32)) ∧ ((xs 3) = (1 : Int32)) ∧ (rcmp 2 (xs 4) (0 : Int32) = false) ∧ (rcmp 5 (xs 4) (65536 : Int32) = true) ∧ ((xs 1) = (0 : Int32)) ∧ ((xs 2) = (3 : Int32)) ∧ ((xs 3) = (1 : Int32)) ∧ (rcmp 2 (xs 4) (0 : Int32) = false) ∧ (rcmp 4 (xs 4) (65536 : Int32) = false) ∧ (rcmp 2 (xs 4) (0 : Int32) = false) ∧ (rcmp 5 (xs 4) (65536 : Int32) = true) ∧ True from ⟨h0, t1_0, t2_3, t3_1, b4, b5, t1_0, t2_3, t3_1, b4, (rg4f (by have z0 := ri2f b4; have z1 := ri5t b5; have y0 := li_0; have y1 := li_65536; omega)), b4, b5, trivial⟩)
          | false =>
            exact rOk_of rr646 (show ((rop 3 (xs 0) (31 : Int32)) = (17 : Int32)) ∧ ((xs 1) = (0 : Int32)) ∧ ((xs 2) = (3 : Int32)) ∧ ((xs 3) = (1 : Int32)) ∧ (rcmp 2 (xs 4) (0 : Int32) = false) ∧ (rcmp 5 (xs 4) (65536 : Int32) = false) ∧ ((xs 1) = (0 : Int32)) ∧ ((xs 2) = (3 : Int32)) ∧ ((xs 3) = (1 : Int32)) ∧ (rcmp 2 (xs 4) (0 : Int32) = false) ∧ (rcmp 4 (xs 4) (65536 : Int32) = true) ∧ True from ⟨h0, t1_0, t2_3, t3_1, b4, b5, t1_0, t2_3, t3_1, b4, (rg4t (by have z0 := ri2f b4; have z1 := ri5f b5; have y0 := li_0; have y1 := li_65536; omega)), trivial⟩)
      by_cases t3_2 : (xs 3) = (2 : Int32)
      · cases b4 : rcmp 2 (xs 4) (0 : Int32) with
        | true =>
          exact rOk_of rr651 (show ((rop 3 (xs 0) (31 : Int32)) = (17 : Int32)) ∧ ((xs 1) = (0 : Int32)) ∧ ((xs 2) = (3 : Int32)) ∧ ((xs 3) = (2 : Int32)) ∧ (rcmp 2 (xs 4) (0 : Int32) = true) ∧ ((xs 1) = (0 : Int32)) ∧ ((xs 2) = (3 : Int32)) ∧ ((xs 3) = (2 : Int32)) ∧ (rcmp 2 (xs 4) (0 : Int32) = true) ∧ True from ⟨h0, t1_0, t2_3, t3_2, b4, t1_0, t2_3, t3_2, b4, trivial⟩)
        | false =>
          cases b5 : rcmp 5 (xs 4) (65536 : Int32) with
          | true =>
            exact rOk_of rr650 (show ((rop 3 (xs 0) (31 : Int32)) = (17 : Int32)) ∧ ((xs 1) = (0 : Int32)) ∧ ((xs 2) = (3 : Int32)) ∧ ((xs 3) = (2 : Int32)) ∧ (rcmp 2 (xs 4) (0 : Int32) = false) ∧ (rcmp 5 (xs 4) (65536 : Int32) = true) ∧ ((xs 1) = (0 : Int32)) ∧ ((xs 2) = (3 : Int32)) ∧ ((xs 3) = (2 : Int32)) ∧ (rcmp 2 (xs 4) (0 : Int32) = false) ∧ (rcmp 4 (xs 4) (65536 : Int32) = false) ∧ True from ⟨h0, t1_0, t2_3, t3_2, b4, b5, t1_0, t2_3, t3_2, b4, (rg4f (by have z0 := ri2f b4; have z1 := ri5t b5; have y0 := li_0; have y1 := li_65536; omega)), trivial⟩)
          | false =>
            exact rOk_of rr649 (show ((rop 3 (xs 0) (31 : Int32)) = (17 : Int32)) ∧ ((xs 1) = (0 : Int32)) ∧ ((xs 2) = (3 : Int32)) ∧ ((xs 3) = (2 : Int32)) ∧ (rcmp 2 (xs 4) (0 : Int32) = false) ∧ (rcmp 5 (xs 4) (65536 : Int32) = false) ∧ ((xs 1) = (0 : Int32)) ∧ ((xs 2) = (3 : Int32)) ∧ ((xs 3) = (2 : Int32)) ∧ (rcmp 2 (xs 4) (0 : Int32) = false) ∧ (rcmp 4 (xs 4) (65536 : Int32) = true) ∧ True from ⟨h0, t1_0, t2_3, t3_2, b4, b5, t1_0, t2_3, t3_2, b4, (rg4t (by have z0 := ri2f b4; have z1 := ri5f b5; have y0 := li_0; have y1 := li_65536; omega)), trivial⟩)
      by_cases t3_3 : (xs 3) = (3 : Int32)
      · cases b4 : rcmp 2 (xs 4) (0 : Int32) with
        | true =>
          exact rOk_of rr654 (show ((rop 3 (xs 0) (31 : Int32)) = (17 : Int32)) ∧ ((xs 1) = (0 : Int32)) ∧ ((xs 2) = (3 : Int32)) ∧ ((xs 3) = (3 : Int32)) ∧ (rcmp 2 (xs 4) (0 : Int32) = true) ∧ ((xs 1) = (0 : Int32)) ∧ ((xs 2) = (3 : Int32)) ∧ ((xs 3) = (3 : Int32)) ∧ (rcmp 2 (xs 4) (0 : Int32) = true) ∧ True from ⟨h0, t1_0, t2_3, t3_3, b4, t1_0, t2_3, t3_3, b4, trivial⟩)
        | false =>
          cases b5 : rcmp 5 (xs 4) (65536 : Int32) with
          | true =>
            exact rOk_of rr653 (show ((rop 3 (xs 0) (31 : Int32)) = (17 : Int32)) ∧ ((xs 1) = (0 : Int32)) ∧ ((xs 2) = (3 : Int32)) ∧ ((xs 3) = (3 : Int32)) ∧ (rcmp 2 (xs 4) (0 : Int32) = false) ∧ (rcmp 5 (xs 4) (65536 : Int32) = true) ∧ ((xs 1) = (0 : Int32)) ∧ ((xs 2) = (3 : Int32)) ∧ ((xs 3) = (3 : Int32)) ∧ (rcmp 2 (xs 4) (0 : Int32) = false) ∧ (rcmp 4 (xs 4) (65536 : Int32) = false) ∧ True from ⟨h0, t1_0, t2_3, t3_3, b4, b5, t1_0, t2_3, t3_3, b4, (rg4f (by have z0 := ri2f b4; have z1 := ri5t b5; have y0 := li_0; have y1 := li_65536; omega)), trivial⟩)
          | false =>
            exact rOk_of rr652 (show ((rop 3 (xs 0) (31 : Int32)) = (17 : Int32)) ∧ ((xs 1) = (0 : Int32)) ∧ ((xs 2) = (3 : Int32)) ∧ ((xs 3) = (3 : Int32)) ∧ (rcmp 2 (xs 4) (0 : Int32) = false) ∧ (rcmp 5 (xs 4) (65536 : Int32) = false) ∧ ((xs 1) = (0 : Int32)) ∧ ((xs 2) = (3 : Int32)) ∧ ((xs 3) = (3 : Int32)) ∧ (rcmp 2 (xs 4) (0 : Int32) = false) ∧ (rcmp 4 (xs 4) (65536 : Int32) = true) ∧ True from ⟨h0, t1_0, t2_3, t3_3, b4, b5, t1_0, t2_3, t3_3, b4, (rg4t (by have z0 := ri2f b4; have z1 := ri5f b5; have y0 := li_0; have y1 := li_65536; omega)), trivial⟩)
      by_cases t3_4 : (xs 3) = (4 : Int32)
      · cases b4 : rcmp 2 (xs 4) (0 : Int32) with
        | true =>
          exact rOk_of rr657 (show ((rop 3 (xs 0) (31 : Int32)) = (17 : Int32)) ∧ ((xs 1) = (0 : Int32)) ∧ ((xs 2) = (3 : Int32)) ∧ ((xs 3) = (4 : Int32)) ∧ (rcmp 2 (xs 4) (0 : Int32) = true) ∧ ((xs 1) = (0 : Int32)) ∧ ((xs 2) = (3 : Int32)) ∧ ((xs 3) = (4 : Int32)) ∧ (rcmp 2 (xs 4) (0 : Int32) = true) ∧ True from ⟨h0, t1_0, t2_3, t3_4, b4, t1_0, t2_3, t3_4, b4, trivial⟩)
        | false =>
          cases b5 : rcmp 5 (xs 4) (65536 : Int32) with
          | true =>
            exact rOk_of rr656 (show ((rop 3 (xs 0) (31 : Int32)) = (17 : Int32)) ∧ ((xs 1) = (0 : Int32)) ∧ ((xs 2) = (3 : Int32)) ∧ ((xs 3) = (4 : Int32)) ∧ (rcmp 2 (xs 4) (0 : Int32) = false) ∧ (rcmp 5 (xs 4) (65536 : Int32) = true) ∧ ((xs 1) = (0 : Int32)) ∧ ((xs 2) = (3 : Int32)) ∧ ((xs 3) = (4 : Int32)) ∧ (rcmp 2 (xs 4) (0 : Int32) = false) ∧ (rcmp 4 (xs 4) (65536 : Int32) = false) ∧ True from ⟨h0, t1_0, t2_3, t3_4, b4, b5, t1_0, t2_3, t3_4, b4, (rg4f (by have z0 := ri2f b4; have z1 := ri5t b5; have y0 := li_0; have y1 := li_65536; omega)), trivial⟩)
          | false =>
            exact rOk_of rr655 (show ((rop 3 (xs 0) (31 : Int32)) = (17 : Int32)) ∧ ((xs 1) = (0 : Int32)) ∧ ((xs 2) = (3 : Int32)) ∧ ((xs 3) = (4 : Int32)) ∧ (rcmp 2 (xs 4) (0 : Int32) = false) ∧ (rcmp 5 (xs 4) (65536 : Int32) = false) ∧ ((xs 1) = (0 : Int32)) ∧ ((xs 2) = (3 : Int32)) ∧ ((xs 3) = (4 : Int32)) ∧ (rcmp 2 (xs 4) (0 : Int32) = false) ∧ (rcmp 4 (xs 4) (65536 : Int32) = true) ∧ True from ⟨h0, t1_0, t2_3, t3_4, b4, b5, t1_0, t2_3, t3_4, b4, (rg4t (by have z0 := ri2f b4; have z1 := ri5f b5; have y0 := li_0; have y1 := li_65536; omega)), trivial⟩)
      cases b3 : rcmp 2 (xs 3) (0 : Int32) with
      | true =>
        exact rOk_of rr642 (show ((rop 3 (xs 0) (31 : Int32)) = (17 : Int32)) ∧ ((xs 1) = (0 : Int32)) ∧ ((xs 2) = (3 : Int32)) ∧ (rcmp 2 (xs 3) (0 : Int32) = true) ∧ ((xs 1) = (0 : Int32)) ∧ ((xs 2) = (3 : Int32)) ∧ (rcmp 2 (xs 3) (0 : Int32) = true) ∧ True from ⟨h0, t1_0, t2_3, b3, t1_0, t2_3, b3, trivial⟩)
      | false =>
        exact rOk_of rr641 (show ((rop 3 (xs 0) (31 : Int32)) = (17 : Int32)) ∧ ((xs 1) = (0 : Int32)) ∧ ((xs 2) = (3 : Int32)) ∧ (rcmp 2 (xs 3) (0 : Int32) = false) ∧ (rcmp 4 (xs 3) (4 : Int32) = true) ∧ ((xs 1) = (0 : Int32)) ∧ ((xs 2) = (3 : Int32)) ∧ (rcmp 2 (xs 3) (0 : Int32) = false) ∧ (rcmp 4 (xs 3) (4 : Int32) = true) ∧ True from ⟨h0, t1_0, t2_3, b3, (rg4t (by have z0 := rine t3_0; have z1 := rine t3_1; have z2 := rine t3_2; have z3 := rine t3_3; have z4 := rine t3_4; have z5 := ri2f b3; have y0 := li_0; have y1 := li_1; have y2 := li_2; have y3 := li_3; have y4 := li_4; omega)), t1_0, t2_3, b3, (rg4t (by have z0 := rine t3_0; have z1 := rine t3_1; have z2 := rine t3_2; have z3 := rine t3_3; have z4 := rine t3_4; have z5 := ri2f b3; have y0 := li_0; have y1 := li_1; have y2 := li_2; have y3 := li_3; have y4 := li_4; omega)), trivial⟩)
    cases b2 : rcmp 2 (xs 2) (0 : Int32) with
    | true =>
      exact rOk_of rr589 (show ((rop 3 (xs 0) (31 : Int32)) = (17 : Int32)) ∧ ((xs 1) = (0 : Int32)) ∧ (rcmp 2 (xs 2) (0 : Int32) = true) ∧ ((xs 1) = (0 : Int32)) ∧ (rcmp 2 (xs 2) (0 : Int32) = true) ∧ True from ⟨h0, t1_0, b2, t1_0, b2, trivial⟩)
    | false =>
      exact rOk_of rr588 (show ((rop 3 (xs 0) (31 : Int32)) = (17 : Int32)) ∧ ((xs 1) = (0 : Int32)) ∧ (rcmp 2 (xs 2) (0 : Int32) = false) ∧ (rcmp 4 (xs 2) (3 : Int32) = true) ∧ ((xs 1) = (0 : Int32)) ∧ (rcmp 2 (xs 2) (0 : Int32) = false) ∧ (rcmp 3 (xs 2) (4 : Int32) = true) ∧ True from ⟨h0, t1_0, b2, (rg4t (by have z0 := rine t2_0; have z1 := rine t2_1; have z2 := rine t2_2; have z3 := rine t2_3; have z4 := ri2f b2; have y0 := li_0; have y1 := li_1; have y2 := li_2; have y3 := li_3; omega)), t1_0, b2, (rg3t (by have z0 := rine t2_0; have z1 := rine t2_1; have z2 := rine t2_2; have z3 := rine t2_3; have z4 := ri2f b2; have y0 := li_0; have y1 := li_1; have y2 := li_2; have y3 := li_3; have y4 := li_4; omega)), trivial⟩)
  by_cases t1_1 : (xs 1) = (1 : Int32)
  · by_cases t2_0 : (xs 2) = (0 : Int32)
    · by_cases t3_0 : (xs 3) = (0 : Int32)
      · cases b4 : rcmp 2 (xs 4) (0 : Int32) with
        | true =>
          exact rOk_of rr664 (show ((rop 3 (xs 0) (31 : Int32)) = (17 : Int32)) ∧ ((xs 1) = (1 : Int32)) ∧ ((xs 2) = (0 : Int32)) ∧ ((xs 3) = (0 : Int32)) ∧ (rcmp 2 (xs 4) (0 : Int32) = true) ∧ ((xs 1) = (1 : Int32)) ∧ ((xs 2) = (0 : Int32)) ∧ ((xs 3) = (0 : Int32)) ∧ (rcmp 2 (xs 4) (0 : Int32) = true) ∧ True from ⟨h0, t1_1, t2_0, t3_0, b4, t1_1, t2_0, t3_0, b4, trivial⟩)
        | false =>
          cases b5 : rcmp 5 (xs 4) (65536 : Int32) with
          | true =>
            exact rOk_of rr663 (show ((rop 3 (xs 0) (31 : Int32)) = (17 : Int32)) ∧ ((xs 1) = (1 : Int32)) ∧ ((xs 2) = (0 : Int32)) ∧ ((xs 3) = (0 : Int32)) ∧ (rcmp 2 (xs 4) (0 : Int32) = false) ∧ (rcmp 5 (xs 4) (65536 : Int32) = true) ∧ ((xs 1) = (1 : Int32)) ∧ ((xs 2) = (0 : Int32)) ∧ ((xs 3) = (0 : Int32)) ∧ (rcmp 2 (xs 4) (0 : Int32) = false) ∧ (rcmp 4 (xs 4) (65536 : Int32) = false) ∧ (rcmp 2 (xs 4) (0 : Int32) = false) ∧ (rcmp 5 (xs 4) (65536 : Int32) = true) ∧ True from ⟨h0, t1_1, t2_0, t3_0, b4, b5, t1_1, t2_0, t3_0, b4, (rg4f (by have z0 := ri2f b4; have z1 := ri5t b5; have y0 := li_0; have y1 := li_65536; omega)), b4, b5, trivial⟩)
          | false =>
            exact rOk_of rr662 (show ((rop 3 (xs 0) (31 : Int32)) = (17 : Int32)) ∧ ((xs 1) = (1 : Int32)) ∧ ((xs 2) = (0 : Int32)) ∧ ((xs 3) = (0 : Int32)) ∧ (rcmp 2 (xs 4) (0 : Int32) = false) ∧ (rcmp 5 (xs 4) (65536 : Int32) = false) ∧ ((xs 1) = (1 : Int32)) ∧ ((xs 2) = (0 : Int32)) ∧ ((xs 3) = (0 : Int32)) ∧ (rcmp 2 (xs 4) (0 : Int32) = false) ∧ (rcmp 4 (xs 4) (65536 : Int32) = true) ∧ True from ⟨h0, t1_1, t2_0, t3_0, b4, b5, t1_1, t2_0, t3_0, b4, (rg4t (by have z0 := ri2f b4; have z1 := ri5f b5; have y0 := li_0; have y1 := li_65536; omega)), trivial⟩)
      by_cases t3_1 : (xs 3) = (1 : Int32)
      · cases b4 : rcmp 2 (xs 4) (0 : Int32) with
        | true =>
          exact rOk_of rr667 (show ((rop 3 (xs 0) (31 : Int32)) = (17 : Int32)) ∧ ((xs 1) = (1 : Int32)) ∧ ((xs 2) = (0 : Int32)) ∧ ((xs 3) = (1 : Int32)) ∧ (rcmp 2 (xs 4) (0 : Int32) = true) ∧ ((xs 1) = (1 : Int32)) ∧ ((xs 2) = (0 : Int32)) ∧ ((xs 3) = (1 : Int32)) ∧ (rcmp 2 (xs 4) (0 : Int32) = true) ∧ True from ⟨h0, t1_1, t2_0, t3_1, b4, t1_1, t2_0, t3_1, b4, trivial⟩)
        | false =>
          cases b5 : rcmp 5 (xs 4) (65536 : Int32) with
          | true =>
            exact rOk_of rr666 (show ((rop 3 (xs 0) (31 : Int32)) = (17 : Int32)) ∧ ((xs 1) = (1 : Int32)) ∧ ((xs 2) = (0 : Int32)) ∧ ((xs 3) = (1 : Int32)) ∧ (rcmp 2 (xs 4) (0 : Int32) = false) ∧ (rcmp 5 (xs 4) (65536 : Int32) = true) ∧ ((xs 1) = (1 : Int32)) ∧ ((xs 2) = (0 : Int32)) ∧ ((xs 3) = (1 : Int32)) ∧ (rcmp 2 (xs 4) (0 : Int32) = false) ∧ (rcmp 4 (xs 4) (65536 : Int32) = false) ∧ (rcmp 2 (xs 4) (0 : Int32) = false) ∧ (rcmp 5 (xs 4) (65536 : Int32) = true) ∧ True from ⟨h0, t1_1, t2_0, t3_1, b4, b5, t1_1, t2_0, t3_1, b4, (rg4f (by have z0 := ri2f b4; have z1 := ri5t b5; have y0 := li_0; have y1 := li_65536; omega)), b4, b5, trivial⟩)
          | false =>
            exact rOk_of rr665 (show ((rop 3 (xs 0) (31 : Int32)) = (17 : Int32)) ∧ ((xs 1) = (1 : Int32)) ∧ ((xs 2) = (0 : Int32)) ∧ ((xs 3) = (1 : Int32)) ∧ (rcmp 2 (xs 4) (0 : Int32) = false) ∧ (rcmp 5 (xs 4) (65536 : Int32) = false) ∧ ((xs 1) = (1 : Int32)) ∧ ((xs 2) = (0 : Int32)) ∧ ((xs 3) = (1 : Int32)) ∧ (rcmp 2 (xs 4) (0 : Int32) = false) ∧ (rcmp 4 (xs 4) (65536 : Int32) = true) ∧ True from ⟨h0, t1_1, t2_0, t3_1, b4, b5, t1_1, t2_0, t3_1, b4, (rg4t (by have z0 := ri2f b4; have z1 := ri5f b5; have y0 := li_0; have y1 := li_65536; omega)), trivial⟩)
      by_cases t3_2 : (xs 3) = (2 : Int32)
      · cases b4 : rcmp 2 (xs 4) (0 : Int32) with
        | true =>
          exact rOk_of rr670 (show ((rop 3 (xs 0) (31 : Int32)) = (17 : Int32)) ∧ ((xs 1) = (1 : Int32)) ∧ ((xs 2) = (0 : Int32)) ∧ ((xs 3) = (2 : Int32)) ∧ (rcmp 2 (xs 4) (0 : Int32) = true) ∧ ((xs 1) = (1 : Int32)) ∧ ((xs 2) = (0 : Int32)) ∧ ((xs 3) = (2 : Int32)) ∧ (rcmp 2 (xs 4) (0 : Int32) = true) ∧ True from ⟨h0, t1_1, t2_0, t3_2, b4, t1_1, t2_0, t3_2, b4, trivial⟩)
        | false =>
          cases b5 : rcmp 5 (xs 4) (65536 : Int32) with
          | true =>
            exact rOk_of rr669 (show ((rop 3 (xs 0) (31 : Int32)) = (17 : Int32)) ∧ ((xs 1) = (1 : Int32)) ∧ ((xs 2) = (0 : Int32)) ∧ ((xs 3) = (2 : Int32)) ∧ (rcmp 2 (xs 4) (0 : Int32) = false) ∧ (rcmp 5 (xs 4) (65536 : Int32) = true) ∧ ((xs 1) = (1 : Int32)) ∧ ((xs 2) = (0 : Int32)) ∧ ((xs 3) = (2 : Int32)) ∧ (rcmp 2 (xs 4) (0 : Int32) = false) ∧ (rcmp 4 (xs 4) (65536 : Int32) = false) ∧ True from ⟨h0, t1_1, t2_0, t3_2, b4, b5, t1_1, t2_0, t3_2, b4, (rg4f (by have z0 := ri2f b4; have z1 := ri5t b5; have y0 := li_0; have y1 := li_65536; omega)), trivial⟩)
          | false =>
            exact rOk_of rr668 (show ((rop 3 (xs 0) (31 : Int32)) = (17 : Int32)) ∧ ((xs 1) = (1 : Int32)) ∧ ((xs 2) = (0 : Int32)) ∧ ((xs 3) = (2 : Int32)) ∧ (rcmp 2 (xs 4) (0 : Int32) = false) ∧ (rcmp 5 (xs 4) (65536 : Int32) = false) ∧ ((xs 1) = (1 : Int32)) ∧ ((xs 2) = (0 : Int32)) ∧ ((xs 3) = (2 : Int32)) ∧ (rcmp 2 (xs 4) (0 : Int32) = false) ∧ (rcmp 4 (xs 4) (65536 : Int32) = true) ∧ True from ⟨h0, t1_1, t2_0, t3_2, b4, b5, t1_1, t2_0, t3_2, b4, (rg4t (by have z0 := ri2f b4; have z1 := ri5f b5; have y0 := li_0; have y1 := li_65536; omega)), trivial⟩)
      by_cases t3_3 : (xs 3) = (3 : Int32)
      · cases b4 : rcmp 2 (xs 4) (0 : Int32) with
        | true =>
          exact rOk_of rr673 (show ((rop 3 (xs 0) (31 : Int32)) = (17 : Int32)) ∧ ((xs 1) = (1 : Int32)) ∧ ((xs 2) = (0 : Int32)) ∧ ((xs 3) = (3 : Int32)) ∧ (rcmp 2 (xs 4) (0 : Int32) = true) ∧ ((xs 1) = (1 : Int32)) ∧ ((xs 2) = (0 : Int32)) ∧ ((xs 3) = (3 : Int32)) ∧ (rcmp 2 (xs 4) (0 : Int32) = true) ∧ True from ⟨h0, t1_1, t2_0, t3_3, b4, t1_1, t2_0, t3_3, b4, trivial⟩)
        | false =>
          cases b5 : rcmp 5 (xs 4) (65536 : Int32) with
          | true =>
            exact rOk_of rr672 (show ((rop 3 (xs 0) (31 : Int32)) = (17 : Int32)) ∧ ((xs 1) = (1 : Int32)) ∧ ((xs 2) = (0 : Int32)) ∧ ((xs 3) = (3 : Int32)) ∧ (rcmp 2 (xs 4) (0 : Int32) = false) ∧ (rcmp 5 (xs 4) (65536 : Int32) = true) ∧ ((xs 1) = (1 : Int32)) ∧ ((xs 2) = (0 : Int32)) ∧ ((xs 3) = (3 : Int32)) ∧ (rcmp 2 (xs 4) (0 : Int32) = false) ∧ (rcmp 4 (xs 4) (65536 : Int32) = false) ∧ True from ⟨h0, t1_1, t2_0, t3_3, b4, b5, t1_1, t2_0, t3_3, b4, (rg4f (by have z0 := ri2f b4; have z1 := ri5t b5; have y0 := li_0; have y1 := li_65536; omega)), trivial⟩)
          | false =>
            exact rOk_of rr671 (show ((rop 3 (xs 0) (31 : Int32)) = (17 : Int32)) ∧ ((xs 1) = (1 : Int32)) ∧ ((xs 2) = (0 : Int32)) ∧ ((xs 3) = (3 : Int32)) ∧ (rcmp 2 (xs 4) (0 : Int32) = false) ∧ (rcmp 5 (xs 4) (65536 : Int32) = false) ∧ ((xs 1) = (1 : Int32)) ∧ ((xs 2) = (0 : Int32)) ∧ ((xs 3) = (3 : Int32)) ∧ (rcmp 2 (xs 4) (0 : Int32) = false) ∧ (rcmp 4 (xs 4) (65536 : Int32) = true) ∧ True from ⟨h0, t1_1, t2_0, t3_3, b4, b5, t1_1, t2_0, t3_3, b4, (rg4t (by have z0 := ri2f b4; have z1 := ri5f b5; have y0 := li_0; have y1 := li_65536; omega)), trivial⟩)
      by_cases t3_4 : (xs 3) = (4 : Int32)
      · cases b4 : rcmp 2 (xs 4) (0 : Int32) with
        | true =>
          exact rOk_of rr676 (show ((rop 3 (xs 0) (31 : Int32)) = (17 : Int32)) ∧ ((xs 1) = (1 : Int32)) ∧ ((xs 2) = (0 : Int32)) ∧ ((xs 3) = (4 : Int32)) ∧ (rcmp 2 (xs 4) (0 : Int32) = true) ∧ ((xs 1) = (1 : Int32)) ∧ ((xs 2) = (0 : Int32)) ∧ ((xs 3) = (4 : Int32)) ∧ (rcmp 2 (xs 4) (0 : Int32) = true) ∧ True from ⟨h0, t1_1, t2_0, t3_4, b4, t1_1, t2_0, t3_4, b4, trivial⟩)
        | false =>
          cases b5 : rcmp 5 (xs 4) (65536 : Int32) with
          | true =>
            exact rOk_of rr675 (show ((rop 3 (xs 0) (31 : Int32)) = (17 : Int32)) ∧ ((xs 1) = (1 : Int32)) ∧ ((xs 2) = (0 : Int32)) ∧ ((xs 3) = (4 : Int32)) ∧ (rcmp 2 (xs 4) (0 : Int32) = false) ∧ (rcmp 5 (xs 4) (65536 : Int32) = true) ∧ ((xs 1) = (1 : Int32)) ∧ ((xs 2) = (0 : Int32)) ∧ ((xs 3) = (4 : Int32)) ∧ (rcmp 2 (xs 4) (0 : Int32) = false) ∧ (rcmp 4 (xs 4) (65536 : Int32) = false) ∧ True from ⟨h0, t1_1, t2_0, t3_4, b4, b5, t1_1, t2_0, t3_4, b4, (rg4f (by have z0 := ri2f b4; have z1 := ri5t b5; have y0 := li_0; have y1 := li_65536; omega)), trivial⟩)
          | false =>
            exact rOk_of rr674 (show ((rop 3 (xs 0) (31 : Int32)) = (17 : Int32)) ∧ ((xs 1) = (1 : Int32)) ∧ ((xs 2) = (0 : Int32)) ∧ ((xs 3) = (4 : Int32)) ∧ (rcmp 2 (xs 4) (0 : Int32) = false) ∧ (rcmp 5 (xs 4) (65536 : Int32) = false) ∧ ((xs 1) = (1 : Int32)) ∧ ((xs 2) = (0 : Int32)) ∧ ((xs 3) = (4 : Int32)) ∧ (rcmp 2 (xs 4) (0 : Int32) = false) ∧ (rcmp 4 (xs 4) (65536 : Int32) = true) ∧ True from ⟨h0, t1_1, t2_0, t3_4, b4, b5, t1_1, t2_0, t3_4, b4, (rg4t (by have z0 := ri2f b4; have z1 := ri5f b5; have y0 := li_0; have y1 := li_65536; omega)), trivial⟩)
      cases b3 : rcmp 2 (xs 3) (0 : Int32) with
      | true =>
        exact rOk_of rr661 (show ((rop 3 (xs 0) (31 : Int32)) = (17 : Int32)) ∧ ((xs 1) = (1 : Int32)) ∧ ((xs 2) = (0 : Int32)) ∧ (rcmp 2 (xs 3) (0 : Int32) = true) ∧ ((xs 1) = (1 : Int32)) ∧ ((xs 2) = (0 : Int32)) ∧ (rcmp 2 (xs 3) (0 : Int32) = true) ∧ True from ⟨h0, t1_1, t2_0, b3, t1_1, t2_0, b3, trivial⟩)
      | false =>
        exact rOk_of rr660 (show ((rop 3 (xs 0) (31 : Int32)) = (17 : Int32)) ∧ ((xs 1) = (1 : Int32)) ∧ ((xs 2) = (0 : Int32)) ∧ (rcmp 2 (xs 3) (0 : Int32) = false) ∧ (rcmp 4 (xs 3) (4 : Int32) = true) ∧ ((xs 1) = (1 : Int32)) ∧ ((xs 2) = (0 : Int32)) ∧ (rcmp 2 (xs 3) (0 : Int32) = false) ∧ (rcmp 4 (xs 3) (4 : Int32) = true) ∧ True from ⟨h0, t1_1, t2_0, b3, (rg4t (by have z0 := rine t3_0; have z1 := rine t3_1; have z2 := rine t3_2; have z3 := rine t3_3; have z4 := rine t3_4; have z5 := ri2f b3; have y0 := li_0; have y1 := li_1; have y2 := li_2; have y3 := li_3; have y4 := li_4; omega)), t1_1, t2_0, b3, (rg4t (by have z0 := rine t3_0; have z1 := rine t3_1; have z2 := rine t3_2; have z3 := rine t3_3; have z4 := rine t3_4; have z5 := ri2f b3; have y0 := li_0; have y1 := li_1; have y2 := li_2; have y3 := li_3; have y4 := li_4; omega)), trivial⟩)
    by_cases t2_1 : (xs 2) = (1 : Int32)
    · by_cases t3_0 : (xs 3) = (0 : Int32)
      · cases b4 : rcmp 2 (xs 4) (0 : Int32) with
        | true =>
          exact rOk_of rr681 (show ((rop 3 (xs 0) (31 : Int32)) = (17 : Int32)) ∧ ((xs 1) = (1 : Int32)) ∧ ((xs 2) = (1 : Int32)) ∧ ((xs 3) = (0 : Int32)) ∧ (rcmp 2 (xs 4) (0 : Int32) = true) ∧ ((xs 1) = (1 : Int32)) ∧ ((xs 2) = (1 : Int32)) ∧ ((xs 3) = (0 : Int32)) ∧ (rcmp 2 (xs 4) (0 : Int32) = true) ∧ True from ⟨h0, t1_1, t2_1, t3_0, b4, t1_1, t2_1, t3_0, b4, trivial⟩)
        | false =>
          cases b5 : rcmp 5 (xs 4) (65536 : Int32) with
          | true =>
            exact rOk_of rr680 (show ((rop 3 (xs 0) (31 : Int32)) = (17 : Int32)) ∧ ((xs 1) = (1 : Int32)) ∧ ((xs 2) = (1 : Int32)) ∧ ((xs 3) = (0 : Int32)) ∧ (rcmp 2 (xs 4) (0 : Int32) = false) ∧ (rcmp 5 (xs 4) (65536 : Int32) = true) ∧ ((xs 1) = (1 : Int32)) ∧ ((xs 2) = (1 : Int32)) ∧ ((xs 3) = (0 : Int32)) ∧ (rcmp 2 (xs 4) (0 : Int32) = false) ∧ (rcmp 4 (xs 4) (65536 : Int32) = false) ∧ (rcmp 2 (xs 4) (0 : Int32) = false) ∧ (rcmp 5 (xs 4) (65536 : Int32) = true) ∧ True from ⟨h0, t1_1, t2_1, t3_0, b4, b5, t1_1, t2_1, t3_0, b4, (rg4f (by have z0 := ri2f b4; have z1 := ri5t b5; have y0 := li_0; have y1 := li_65536; omega)), b4, b5, trivial⟩)
          | false =>
            exact rOk_of rr679 (show ((rop 3 (xs 0) (31 : Int32)) = (17 : Int32)) ∧ ((xs 1) = (1 : Int32)) ∧ ((xs 2) = (1 : Int32)) ∧ ((xs 3) = (0 : Int32)) ∧ (rcmp 2 (xs 4) (0 : Int32) = false) ∧ (rcmp 5 (xs 4) (65536 : Int32) = false) ∧ ((xs 1) = (1 : Int32)) ∧ ((xs 2) = (1 : Int32)) ∧ ((xs 3) = (0 : Int32)) ∧ (rcmp 2 (xs 4) (0 : Int32) = false) ∧ (rcmp 4 (xs 4) (65536 : Int32) = true) ∧ True from ⟨h0, t1_1, t2_1, t3_0, b4, b5, t1_1, t2_1, t3_0, b4, (rg4t (by have z0 := ri2f b4; have z1 := ri5f b5; have y0 := li_0; have y1 := li_65536; omega)), trivial⟩)
      by_cases t3_1 : (xs 3) = (1 : Int32)
      · cases b4 : rcmp 2 (xs 4) (0 : Int32) with
        | true =>
          exact rOk_of rr684 (show ((rop 3 (xs 0) (31 : Int32)) = (17 : Int32)) ∧ ((xs 1) = (1 : Int32)) ∧ ((xs 2) = (1 : Int32)) ∧ ((xs 3) = (1 : Int32)) ∧ (rcmp 2 (xs 4) (0 : Int32) = true) ∧ ((xs 1) = (1 : Int32)) ∧ ((xs 2) = (1 : Int32)) ∧ ((xs 3) = (1 : Int32)) ∧ (rcmp 2 (xs 4) (0 : Int32) = true) ∧ True from ⟨h0, t1_1, t2_1, t3_1, b4, t1_1, t2_1, t3_1, b4, trivial⟩)
        | false =>
          cases b5 : rcmp 5 (xs 4) (65536 : Int32) with
          | true =>
            exact rOk_of rr683 (show ((rop 3 (xs 0) (31 : Int32)) = (17 : Int32)) ∧ ((xs 1) = (1 : Int32)) ∧ ((xs 2) = (1 : Int32)) ∧ ((xs 3) = (1 : Int32)) ∧ (rcmp 2 (xs 4) (0 : Int32) = false) ∧ (rcmp 5 (xs 4) (65536 : Int32) = true) ∧ ((xs 1) = (1 : Int32)) ∧ ((xs 2) = (1 : Int32)) ∧ ((xs 3) = (1 : Int32)) ∧ (rcmp 2 (xs 4) (0 : Int32) = false) ∧ (rcmp 4 (xs 4) (65536 : Int32) = false) ∧ (rcmp 2 (xs 4) (0 : Int32) = false) ∧ (rcmp 5 (xs 4) (65536 : Int32) = true) ∧ True from ⟨h0, t1_1, t2_1, t3_1, b4, b5, t1_1, t2_1, t3_1, b4, (rg4f (by have z0 := ri2f b4; have z1 := ri5t b5; have y0 := li_0; have y1 := li_65536; omega)), b4, b5, trivial⟩)
          | false =>
            exact rOk_of rr682 (show ((rop 3 (xs 0) (31 : Int32)) = (17 : Int32)) ∧ ((xs 1) = (1 : Int32)) ∧ ((xs 2) = (1 : Int32)) ∧ ((xs 3) = (1 : Int32)) ∧ (rcmp 2 (xs 4) (0 : Int32) = false) ∧ (rcmp 5 (xs 4) (65536 : Int32) = false) ∧ ((xs 1) = (1 : Int32)) ∧ ((xs 2) = (1 : Int32)) ∧ ((xs 3) = (1 : Int32)) ∧ (rcmp 2 (xs 4) (0 : Int32) = false) ∧ (rcmp 4 (xs 4) (65536 : Int32) = true) ∧ True from ⟨h0, t1_1, t2_1, t3_1, b4, b5, t1_1, t2_1, t3_1, b4, (rg4t (by have z0 := ri2f b4; have z1 := ri5f b5; have y0 := li_0; have y1 := li_65536; omega)), trivial⟩)
      by_cases t3_2 : (xs 3) = (2 : Int32)
      · cases b4 : rcmp 2 (xs 4) (0 : Int32) with
        | true =>
          exact rOk_of rr687 (show ((rop 3 (xs 0) (31 : Int32)) = (17 : Int32)) ∧ ((xs 1) = (1 : Int32)) ∧ ((xs 2) = (1 : Int32)) ∧ ((xs 3) = (2 : Int32)) ∧ (rcmp 2 (xs 4) (0 : Int32) = true) ∧ ((xs 1) = (1 : Int32)) ∧ ((xs 2) = (1 : Int32)) ∧ ((xs 3) = (2 : Int32)) ∧ (rcmp 2 (xs 4) (0 : Int32) = true) ∧ True from ⟨h0, t1_1, t2_1, t3_2, b4, t1_1, t2_1, t3_2, b4, trivial⟩)
        | false =>
          cases b5 : rcmp 5 (xs 4) (65536 : Int32) with
          | true =>
            exact rOk_of rr686 (show ((rop 3 (xs 0) (31 : Int32)) = (17 : Int32)) ∧ ((xs 1) = (1 : Int32)) ∧ ((xs 2) = (1 : Int32)) ∧ ((xs 3) = (2 : Int32)) ∧ (rcmp 2 (xs 4) (0 : Int32) = false) ∧ (rcmp 5 (xs 4) (65536 : Int32) = true) ∧ ((xs 1) = (1 : Int32)) ∧ ((xs 2) = (1 : Int32)) ∧ ((xs 3) = (2 : Int32)) ∧ (rcmp 2 (xs 4) (0 : Int32) = false) ∧ (rcmp 4 (xs 4) (65536 : Int32) = false) ∧ True from ⟨h0, t1_1, t2_1, t3_2, b4, b5, t1_1, t2_1, t3_2, b4, (rg4f (by have z0 := ri2f b4; have z1 := ri5t b5; have y0 := li_0; have y1 := li_65536; omega)), trivial⟩)
          | false =>
            exact rOk_of rr685 (show ((rop 3 (xs 0) (31 : Int32)) = (17 : Int32)) ∧ ((xs 1) = (1 : Int32)) ∧ ((xs 2) = (1 : Int32)) ∧ ((xs 3) = (2 : Int32)) ∧ (rcmp 2 (xs 4) (0 : Int32) = false) ∧ (rcmp 5 (xs 4) (65536 : Int32) = false) ∧ ((xs 1) = (1 : Int32)) ∧ ((xs 2) = (1 : Int32)) ∧ ((xs 3) = (2 : Int32)) ∧ (rcmp 2 (xs 4) (0 : Int32) = false) ∧ (rcmp 4 (xs 4) (65536 : Int32) = true) ∧ True from ⟨h0, t1_1, t2_1, t3_2, b4, b5, t1_1, t2_1, t3_2, b4, (rg4t (by have z0 := ri2f b4; have z1 := ri5f b5; have y0 := li_0; have y1 := li_65536; omega)), trivial⟩)
      by_cases t3_3 : (xs 3) = (3 : Int32)
      · cases b4 : rcmp 2 (xs 4) (0 : Int32) with
        | true =>
          exact rOk_of rr690 (show ((rop 3 (xs 0) (31 : Int32)) = (17 : Int32)) ∧ ((xs 1) = (1 : Int32)) ∧ ((xs 2) = (1 : Int32)) ∧ ((xs 3) = (3 : Int32)) ∧ (rcmp 2 (xs 4) (0 : Int32) = true) ∧ ((xs 1) = (1 : Int32)) ∧ ((xs 2) = (1 : Int32)) ∧ ((xs 3) = (3 : Int32)) ∧ (rcmp 2 (xs 4) (0 : Int32) = true) ∧ True from ⟨h0, t1_1, t2_1, t3_3, b4, t1_1, t2_1, t3_3, b4, trivial⟩)
        | false =>
          cases b5 : rcmp 5 (xs 4) (65536 : Int32) with
          | true =>
            exact rOk_of rr689 (show ((rop 3 (xs 0) (31 : Int32)) = (17 : Int32)) ∧ ((xs 1) = (1 : Int32)) ∧ ((xs 2) = (1 : Int32)) ∧ ((xs 3) = (3 : Int32)) ∧ (rcmp 2 (xs 4) (0 : Int32) = false) ∧ (rcmp 5 (xs 4) (65536 : Int32) = true) ∧ ((xs 1) = (1 : Int32)) ∧ ((xs 2) = (1 : Int32)) ∧ ((xs 3) = (3 : Int32)) ∧ (rcmp 2 (xs 4) (0 : Int32) = false) ∧ (rcmp 4 (xs 4) (65536 : Int32) = false) ∧ True from ⟨h0, t1_1, t2_1, t3_3, b4, b5, t1_1, t2_1, t3_3, b4, (rg4f (by have z0 := ri2f b4; have z1 := ri5t b5; have y0 := li_0; have y1 := li_65536; omega)), trivial⟩)
          | false =>
            exact rOk_of rr688 (show ((rop 3 (xs 0) (31 : Int32)) = (17 : Int32)) ∧ ((xs 1) = (1 : Int32)) ∧ ((xs 2) = (1 : Int32)) ∧ ((xs 3) = (3 : Int32)) ∧ (rcmp 2 (xs 4) (0 : Int32) = false) ∧ (rcmp 5 (xs 4) (65536 : Int32) = false) ∧ ((xs 1) = (1 : Int32)) ∧ ((xs 2) = (1 : Int32)) ∧ ((xs 3) = (3 : Int32)) ∧ (rcmp 2 (xs 4) (0 : Int32) = false) ∧ (rcmp 4 (xs 4) (65536 : Int32) = true) ∧ True from ⟨h0, t1_1, t2_1, t3_3, b4, b5, t1_1, t2_1, t3_3, b4, (rg4t (by have z0 := ri2f b4; have z1 := ri5f b5; have y0 := li_0; have y1 := li_65536; omega)), trivial⟩)
      by_cases t3_4 : (xs 3) = (4 : Int32)
      · cases b4 : rcmp 2 (xs 4) (0 : Int32) with
        | true =>
          exact rOk_of rr693 (show ((rop 3 (xs 0) (31 : Int32)) = (17 : Int32)) ∧ ((xs 1) = (1 : Int32)) ∧ ((xs 2) = (1 : Int32)) ∧ ((xs 3) = (4 : Int32)) ∧ (rcmp 2 (xs 4) (0 : Int32) = true) ∧ ((xs 1) = (1 : Int32)) ∧ ((xs 2) = (1 : Int32)) ∧ ((xs 3) = (4 : Int32)) ∧ (rcmp 2 (xs 4) (0 : Int32) = true) ∧ True from ⟨h0, t1_1, t2_1, t3_4, b4, t1_1, t2_1, t3_4, b4, trivial⟩)
        | false =>
          cases b5 : rcmp 5 (xs 4) (65536 : Int32) with
          | true =>
            exact rOk_of rr692 (show ((rop 3 (xs 0) (31 : Int32)) = (17 : Int32)) ∧ ((xs 1) = (1 : Int32)) ∧ ((xs 2) = (1 : Int32)) ∧ ((xs 3) = (4 : Int32)) ∧ (rcmp 2 (xs 4) (0 : Int32) = false) ∧ (rcmp 5 (xs 4) (65536 : Int32) = true) ∧ ((xs 1) = (1 : Int32)) ∧ ((xs 2) = (1 : Int32)) ∧ ((xs 3) = (4 : Int32)) ∧ (rcmp 2 (xs 4) (0 : Int32) = false) ∧ (rcmp 4 (xs 4) (65536 : Int32) = false) ∧ True from ⟨h0, t1_1, t2_1, t3_4, b4, b5, t1_1, t2_1, t3_4, b4, (rg4f (by have z0 := ri2f b4; have z1 := ri5t b5; have y0 := li_0; have y1 := li_65536; omega)), trivial⟩)
          | false =>
            exact rOk_of rr691 (show ((rop 3 (xs 0) (31 : Int32)) = (17 : Int32)) ∧ ((xs 1) = (1 : Int32)) ∧ ((xs 2) = (1 : Int32)) ∧ ((xs 3) = (4 : Int32)) ∧ (rcmp 2 (xs 4) (0 : Int32) = false) ∧ (rcmp 5 (xs 4) (65536 : Int32) = false) ∧ ((xs 1) = (1 : Int32)) ∧ ((xs 2) = (1 : Int32)) ∧ ((xs 3) = (4 : Int32)) ∧ (rcmp 2 (xs 4) (0 : Int32) = false) ∧ (rcmp 4 (xs 4) (65536 : Int32) = true) ∧ True from ⟨h0, t1_1, t2_1, t3_4, b4, b5, t1_1, t2_1, t3_4, b4, (rg4t (by have z0 := ri2f b4; have z1 := ri5f b5; have y0 := li_0; have y1 := li_65536; omega)), trivial⟩)
      cases b3 : rcmp 2 (xs 3) (0 : Int32) with
      | true =>
        exact rOk_of rr678 (show ((rop 3 (xs 0) (31 : Int32)) = (17 : Int32)) ∧ ((xs 1) = (1 : Int32)) ∧ ((xs 2) = (1 : Int32)) ∧ (rcmp 2 (xs 3) (0 : Int32) = true) ∧ ((xs 1) = (1 : Int32)) ∧ ((xs 2) = (1 : Int32)) ∧ (rcmp 2 (xs 3) (0 : Int32) = true) ∧ True from ⟨h0, t1_1, t2_1, b3, t1_1, t2_1, b3, trivial⟩)
      | false =>
        exact rOk_of rr677 (show ((rop 3 (xs 0) (31 : Int32)) = (17 : Int32)) ∧ ((xs 1) = (1 : Int32)) ∧ ((xs 2) = (1 : Int32)) ∧ (rcmp 2 (xs 3) (0 : Int32) = false) ∧ (rcmp 4 (xs 3) (4 : Int32) = true) ∧ ((xs 1) = (1 : Int32)) ∧ ((xs 2) = (1 : Int32)) ∧ (rcmp 2 (xs 3) (0 : Int32) = false) ∧ (rcmp 4 (xs 3) (4 : Int32) = true) ∧ True from ⟨h0, t1_1, t2_1, b3, (rg4t (by have z0 := rine t3_0; have z1 := rine t3_1; have z2 := rine t3_2; have z3 := rine t3_3; have z4 := rine t3_4; have z5 := ri2f b3; have y0 := li_0; have y1 := li_1; have y2 := li_2; have y3 := li_3; have y4 := li_4; omega)), t1_1, t2_1, b3, (rg4t (by have z0 := rine t3_0; have z1 := rine t3_1; have z2 := rine t3_2; have z3 := rine t3_3; have z4 := rine t3_4; have z5 := ri2f b3; have y0 := li_0; have y1 := li_1; have y2 := li_2; have y3 := li_3; have y4 := li_4; omega)), trivial⟩)
    by_cases t2_2 : (xs 2) = (2 : Int32)
    · by_cases t3_0 : (xs 3) = (0 : Int32)
      · cases b4 : rcmp 2 (xs 4) (0 : Int32) with
        | true =>
          exact rOk_of rr698 (show ((rop 3 (xs 0) (31 : Int32)) = (17 : Int32)) ∧ ((xs 1) = (1 : Int32)) ∧ ((xs 2) = (2 : Int32)) ∧ ((xs 3) = (0 : Int32)) ∧ (rcmp 2 (xs 4) (0 : Int32) = true) ∧ ((xs 1) = (1 : Int32)) ∧ ((xs 2) = (2 : Int32)) ∧ ((xs 3) = (0 : Int32)) ∧ (rcmp 2 (xs 4) (0 : Int32) = true) ∧ True from ⟨h0, t1_1, t2_2, t3_0, b4, t1_1, t2_2, t3_0, b4, trivial⟩)
        | false =>
          cases b5 : rcmp 5 (xs 4) (65536 : Int32) with
          | true =>
            exact rOk_of rr697 (show ((rop 3 (xs 0) (31 : Int32)) = (17 : Int32)) ∧ ((xs 1) = (1 : Int32)) ∧ ((xs 2) = (2 : Int32)) ∧ ((xs 3) = (0 : Int32)) ∧ (rcmp 2 (xs 4) (0 : Int32) = false) ∧ (rcmp 5 (xs 4) (65536 : Int32) = true) ∧ ((xs 1) = (1 : Int32)) ∧ ((xs 2) = (2 : Int32)) ∧ ((xs 3) = (0 : Int32)) ∧ (rcmp 2 (xs 4) (0 : Int32) = false) ∧ (rcmp 4 (xs 4) (65536 : Int32) = false) ∧ (rcmp 2 (xs 4) (0 : Int32) = false) ∧ (rcmp 5 (xs 4) (65536 : Int32) = true) ∧ True from ⟨h0, t1_1, t2_2, t3_0, b4, b5, t1_1, t2_2, t3_0, b4, (rg4f (by have z0 := ri2f b4; have z1 := ri5t b5; have y0 := li_0; have y1 := li_65536; omega)), b4, b5, trivial⟩)
          | false =>
            exact rOk_of rr696 (show ((rop 3 (xs 0) (31 : Int32)) = (17 : Int32)) ∧ ((xs 1) = (1 : Int32)) ∧ ((xs 2) = (2 : Int32)) ∧ ((xs 3) = (0 : Int32)) ∧ (rcmp 2 (xs 4) (0 : Int32) = false) ∧ (rcmp 5 (xs 4) (65536 : Int32) = false) ∧ ((xs 1) = (1 : Int32)) ∧ ((xs 2) = (2 : Int32)) ∧ ((xs 3) = (0 : Int32)) ∧ (rcmp 2 (xs 4) (0 : Int32) = false) ∧ (rcmp 4 (xs 4) (65536 : Int32) = true) ∧ True from ⟨h0, t1_1, t2_2, t3_0, b4, b5, t1_1, t2_2, t3_0, b4, (rg4t (by have z0 := ri2f b4; have z1 := ri5f b5; have y0 := li_0; have y1 := li_65536; omega)), trivial⟩)
      by_cases t3_1 : (xs 3) = (1 : Int32)
      · cases b4 : rcmp 2 (xs 4) (0 : Int32) with
        | true =>
          exact rOk_of rr701 (show ((rop 3 (xs 0) (31 : Int32)) = (17 : Int32)) ∧ ((xs 1) = (1 : Int32)) ∧ ((xs 2) = (2 : Int32)) ∧ ((xs 3) = (1 : Int32)) ∧ (rcmp 2 (xs 4) (0 : Int32) = true) ∧ ((xs 1) = (1 : Int32)) ∧ ((xs 2) = (2 : Int32)) ∧ ((xs 3) = (1 : Int32)) ∧ (rcmp 2 (xs 4) (0 : Int32) = true) ∧ True from ⟨h0, t1_1, t2_2, t3_1, b4, t1_1, t2_2, t3_1, b4, trivial⟩)
        | false =>
          cases b5 : rcmp 5 (xs 4) (65536 : Int32) with
          | true =>
            exact rOk_of rr700 (show ((rop 3 (xs 0) (31 : Int32)) = (17 : Int32)) ∧ ((xs 1) = (1 : Int32)) ∧ ((xs 2) = (2 : Int32)) ∧ ((xs 3) = (1 : Int32)) ∧ (rcmp 2 (xs 4) (0 : Int32) = false) ∧ (rcmp 5 (xs 4) (65536 : Int32) = true) ∧ ((xs 1) = (1 : Int32)) ∧ ((xs 2) = (2 : Int32)) ∧ ((xs 3) = (1 : Int32)) ∧ (rcmp 2 (xs 4) (0 : Int32) = false) ∧ (rcmp 4 (xs 4) (65536 : Int32) = false) ∧ (rcmp 2 (xs 4) (0 : Int32) = false) ∧ (rcmp 5 (xs 4) (65536 : Int32) = true) ∧ True from ⟨h0, t1_1, t2_2, t3_1, b4, b5, t1_1, t2_2, t3_1, b4, (rg4f (by have z0 := ri2f b4; have z1 := ri5t b5; have y0 := li_0; have y1 := li_65536; omega)), b4, b5, trivial⟩)
          | false =>
            exact rOk_of rr699 (show ((rop 3 (xs 0) (31 : Int32)) = (17 : Int32)) ∧ ((xs 1) = (1 : Int32)) ∧ ((xs 2) = (2 : Int32)) ∧ ((xs 3) = (1 : Int32)) ∧ (rcmp 2 (xs 4) (0 : Int32) = false) ∧ (rcmp 5 (xs 4) (65536 : Int32) = false) ∧ ((xs 1) = (1 : Int32)) ∧ ((xs 2) = (2 : Int32)) ∧ ((xs 3) = (1 : Int32)) ∧ (rcmp 2 (xs 4) (0 : Int32) = false) ∧ (rcmp 4 (xs 4) (65536 : Int32) = true) ∧ True from ⟨h0, t1_1, t2_2, t3_1, b4, b5, t1_1, t2_2, t3_1, b4, (rg4t (by have z0 := ri2f b4; have z1 := ri5f b5; have y0 := li_0; have y1 := li_65536; omega)), trivial⟩)
      by_cases t3_2 : (xs 3) = (2 : Int32)
      · cases b4 : rcmp 2 (xs 4) (0 : Int32) with
        | true =>
          exact rOk_of rr704 (show ((rop 3 (xs 0) (31 : Int32)) = (17 : Int32)) ∧ ((xs 1) = (1 : Int32)) ∧ ((xs 2) = (2 : Int32)) ∧ ((xs 3) = (2 : Int32)) ∧ (rcmp 2 (xs 4) (0 : Int32) = true) ∧ ((xs 1) = (1 : Int32)) ∧ ((xs 2) = (2 : Int32)) ∧ ((xs 3) = (2 : Int32)) ∧ (rcmp 2 (xs 4) (0 : Int32) = true) ∧ True from ⟨h0, t1_1, t2_2, t3_2, b4, t1_1, t2_2, t3_2, b4, trivial⟩)
        | false =>
          cases b5 : rcmp 5 (xs 4) (65536 : Int32) with
          | true =>
            exact rOk_of rr703 (show ((rop 3 (xs 0) (31 : Int32)) = (17 : Int32)) ∧ ((xs 1) = (1 : Int32)) ∧ ((xs 2) = (2 : Int32)) ∧ ((xs 3) = (2 : Int32)) ∧ (rcmp 2 (xs 4) (0 : Int32) = false) ∧ (rcmp 5 (xs 4) (65536 : Int32) = true) ∧ ((xs 1) = (1 : Int32)) ∧ ((xs 2) = (2 : Int32)) ∧ ((xs 3) = (2 : Int32)) ∧ (rcmp 2 (xs 4) (0 : Int32) = false) ∧ (rcmp 4 (xs 4) (65536 : Int32) = false) ∧ True from ⟨h0, t1_1, t2_2, t3_2, b4, b5, t1_1, t2_2, t3_2, b4, (rg4f (by have z0 := ri2f b4; have z1 := ri5t b5; have y0 := li_0; have y1 := li_65536; omega)), trivial⟩)
          | false =>
            exact rOk_of rr702 (show ((rop 3 (xs 0) (31 : Int32)) = (17 : Int32)) ∧ ((xs 1) = (1 : Int32)) ∧ ((xs 2) = (2 : Int32)) ∧ ((xs 3) = (2 : Int32)) ∧ (rcmp 2 (xs 4) (0 : Int32) = false) ∧ (rcmp 5 (xs 4) (65536 : Int32) = false) ∧ ((xs 1) = (1 : Int32)) ∧ ((xs 2) = (2 : Int32)) ∧ ((xs 3) = (2 : Int32)) ∧ (rcmp 2 (xs 4) (0 : Int32) = false) ∧ (rcmp 4 (xs 4) (65536 : Int32) = true) ∧ True from ⟨h0, t1_1, t2_2, t3_2, b4, b5, t1_1, t2_2, t3_2, b4, (rg4t (by have z0 := ri2f b4; have z1 := ri5f b5; have y0 := li_0; have y1 := li_65536; omega)), trivial⟩)
      by_cases t3_3 : (xs 3) = (3 : Int32)
      · cases b4 : rcmp 2 (xs 4) (0 : Int32) with
        | true =>
          exact rOk_of rr707 (show ((rop 3 (xs 0) (31 : Int32)) = (17 : Int32)) ∧ ((xs 1) = (1 : Int32)) ∧ ((xs 2) = (2 : Int32)) ∧ ((xs 3) = (3 : Int32)) ∧ (rcmp 2 (xs 4) (0 : Int32) = true) ∧ ((xs 1) = (1 : Int32)) ∧ ((xs 2) = (2 : Int32)) ∧ ((xs 3) = (3 : Int32)) ∧ (rcmp 2 (xs 4) (0 : Int32) = true) ∧ True from ⟨h0, t1_1, t2_2, t3_3, b4, t1_1, t2_2, t3_3, b4, trivial⟩)
        | false =>
          cases b5 : rcmp 5 (xs 4) (65536 : Int32) with
          | true =>
            exact rOk_of rr706 (show ((rop 3 (xs 0) (31 : Int32)) = (17 : Int32)) ∧ ((xs 1) = (1 : Int32)) ∧ ((xs 2) = (2 : Int32)) ∧ ((xs 3) = (3 : Int32)) ∧ (rcmp 2 (xs 4) (0 : Int32) = false) ∧ (rcmp 5 (xs 4) (65536 : Int32) = true) ∧ ((xs 1) = (1 : Int32)) ∧ ((xs 2) = (2 : Int32)) ∧ ((xs 3) = (3 : Int32)) ∧ (rcmp 2 (xs 4) (0 : Int32) = false) ∧ (rcmp 4 (xs 4) (65536 : Int32) = false) ∧ True from ⟨h0, t1_1, t2_2, t3_3, b4, b5, t1_1, t2_2, t3_3, b4, (rg4f (by have z0 := ri2f b4; have z1 := ri5t b5; have y0 := li_0; have y1 := li_65536; omega)), trivial⟩)
          | false =>
            exact rOk_of rr705 (show ((rop 3 (xs 0) (31 : Int32)) = (17 : Int32)) ∧ ((xs 1) = (1 : Int32)) ∧ ((xs 2) = (2 : Int32)) ∧ ((xs 3) = (3 : Int32)) ∧ (rcmp 2 (xs 4) (0 : Int32) = false) ∧ (rcmp 5 (xs 4) (65536 : Int32) = false) ∧ ((xs 1) = (1 : Int32)) ∧ ((xs 2) = (2 : Int32)) ∧ ((xs 3) = (3 : Int32)) ∧ (rcmp 2 (xs 4) (0 : Int32) = false) ∧ (rcmp 4 (xs 4) (65536 : Int32) = true) ∧ True from ⟨h0, t1_1, t2_2, t3_3, b4, b5, t1_1, t2_2, t3_3, b4, (rg4t (by have z0 := ri2f b4; have z1 := ri5f b5; have y0 := li_0; have y1 := li_65536; omega)), trivial⟩)
      by_cases t3_4 : (xs 3) = (4 : Int32)
      · cases b4 : rcmp 2 (xs 4) (0 : Int32) with
        | true =>
          exact rOk_of rr710 (show ((rop 3 (xs 0) (31 : Int32)) = (17 : Int32)) ∧ ((xs 1) = (1 : Int32)) ∧ ((xs 2) = (2 : Int32)) ∧ ((xs 3) = (4 : Int32)) ∧ (rcmp 2 (xs 4) (0 : Int32) = true) ∧ ((xs 1) = (1 : Int32)) ∧ ((xs 2) = (2 : Int32)) ∧ ((xs 3) = (4 : Int32)) ∧ (rcmp 2 (xs 4) (0 : Int32) = true) ∧ True from ⟨h0, t1_1, t2_2, t3_4, b4, t1_1, t2_2, t3_4, b4, trivial⟩)
        | false =>
          cases b5 : rcmp 5 (xs 4) (65536 : Int32) with
          | true =>
            exact rOk_of rr709 (show ((rop 3 (xs 0) (31 : Int32)) = (17 : Int32)) ∧ ((xs 1) = (1 : Int32)) ∧ ((xs 2) = (2 : Int32)) ∧ ((xs 3) = (4 : Int32)) ∧ (rcmp 2 (xs 4) (0 : Int32) = false) ∧ (rcmp 5 (xs 4) (65536 : Int32) = true) ∧ ((xs 1) = (1 : Int32)) ∧ ((xs 2) = (2 : Int32)) ∧ ((xs 3) = (4 : Int32)) ∧ (rcmp 2 (xs 4) (0 : Int32) = false) ∧ (rcmp 4 (xs 4) (65536 : Int32) = false) ∧ True from ⟨h0, t1_1, t2_2, t3_4, b4, b5, t1_1, t2_2, t3_4, b4, (rg4f (by have z0 := ri2f b4; have z1 := ri5t b5; have y0 := li_0; have y1 := li_65536; omega)), trivial⟩)
          | false =>
            exact rOk_of rr708 (show ((rop 3 (xs 0) (31 : Int32)) = (17 : Int32)) ∧ ((xs 1) = (1 : Int32)) ∧ ((xs 2) = (2 : Int32)) ∧ ((xs 3) = (4 : Int32)) ∧ (rcmp 2 (xs 4) (0 : Int32) = false) ∧ (rcmp 5 (xs 4) (65536 : Int32) = false) ∧ ((xs 1) = (1 : Int32)) ∧ ((xs 2) = (2 : Int32)) ∧ ((xs 3) = (4 : Int32)) ∧ (rcmp 2 (xs 4) (0 : Int32) = false) ∧ (rcmp 4 (xs 4) (65536 : Int32) = true) ∧ True from ⟨h0, t1_1, t2_2, t3_4, b4, b5, t1_1, t2_2, t3_4, b4, (rg4t (by have z0 := ri2f b4; have z1 := ri5f b5; have y0 := li_0; have y1 := li_65536; omega)), trivial⟩)
      cases b3 : rcmp 2 (xs 3) (0 : Int32) with
      | true =>
        exact rOk_of rr695 (show ((rop 3 (xs 0) (31 : Int32)) = (17 : Int32)) ∧ ((xs 1) = (1 : Int32)) ∧ ((xs 2) = (2 : Int32)) ∧ (rcmp 2 (xs 3) (0 : Int32) = true) ∧ ((xs 1) = (1 : Int32)) ∧ ((xs 2) = (2 : Int32)) ∧ (rcmp 2 (xs 3) (0 : Int32) = true) ∧ True from ⟨h0, t1_1, t2_2, b3, t1_1, t2_2, b3, trivial⟩)
      | false =>
        exact rOk_of rr694 (show ((rop 3 (xs 0) (31 : Int32)) = (17 : Int32)) ∧ ((xs 1) = (1 : Int32)) ∧ ((xs 2) = (2 : Int32)) ∧ (rcmp 2 (xs 3) (0 : Int32) = false) ∧ (rcmp 4 (xs 3) (4 : Int32) = true) ∧ ((xs 1) = (1 : Int32)) ∧ ((xs 2) = (2 : Int32)) ∧ (rcmp 2 (xs 3) (0 : Int32) = false) ∧ (rcmp 4 (xs 3) (4 : Int32) = true) ∧ True from ⟨h0, t1_1, t2_2, b3, (rg4t (by have z0 := rine t3_0; have z1 := rine t3_1; have z2 := rine t3_2; have z3 := rine t3_3; have z4 := rine t3_4; have z5 := ri2f b3; have y0 := li_0; have y1 := li_1; have y2 := li_2; have y3 := li_3; have y4 := li_4; omega)), t1_1, t2_2, b3, (rg4t (by have z0 := rine t3_0; have z1 := rine t3_1; have z2 := rine t3_2; have z3 := rine t3_3; have z4 := rine t3_4; have z5 := ri2f b3; have y0 := li_0; have y1 := li_1; have y2 := li_2; have y3 := li_3; have y4 := li_4; omega)), trivial⟩)
    by_cases t2_3 : (xs 2) = (3 : Int32)
    · by_cases t3_0 : (xs 3) = (0 : Int32)
      · cases b4 : rcmp 2 (xs 4) (0 : Int32) with
        | true =>
          exact rOk_of rr715 (show ((rop 3 (xs 0) (31 : Int32)) = (17 : Int32)) ∧ ((xs 1) = (1 : Int32)) ∧ ((xs 2) = (3 : Int32)) ∧ ((xs 3) = (0 : Int32)) ∧ (rcmp 2 (xs 4) (0 : Int32) = true) ∧ ((xs 1) = (1 : Int32)) ∧ ((xs 2) = (3 : Int32)) ∧ ((xs 3) = (0 : Int32)) ∧ (rcmp 2 (xs 4) (0 : Int32) = true) ∧ True from ⟨h0, t1_1, t2_3, t3_0, b4, t1_1, t2_3, t3_0, b4, trivial⟩)
        | false =>
          cases b5 : rcmp 5 (xs 4) (65536 : Int32) with
          | true =>
            exact rOk_of rr714 (show ((rop 3 (xs 0) (31 : Int32)) = (17 : Int32)) ∧ ((xs 1) = (1 : Int32)) ∧ ((xs 2) = (3 : Int32)) ∧ ((xs 3) = (0 : Int32)) ∧ (rcmp 2 (xs 4) (0 : Int32) = false) ∧ (rcmp 5 (xs 4) (65536 : Int32) = true) ∧ ((xs 1) = (1 : Int32)) ∧ ((xs 2) = (3 : Int32)) ∧ ((xs 3) = (0 : Int32)) ∧ (rcmp 2 (xs 4) (0 : Int32) = false) ∧ (rcmp 4 (xs 4) (65536 : Int32) = false) ∧ (rcmp 2 (xs 4) (0 : Int32) = false) ∧ (rcmp 5 (xs 4) (65536 : Int32) = true) ∧ True from ⟨h0, t1_1, t2_3, t3_0, b4, b5, t1_1, t2_3, t3_0, b4, (rg4f (by have z0 := ri2f b4; have z1 := ri5t b5; have y0 := li_0; have y1 := li_65536; omega)), b4, b5, trivial⟩)
          | false =>
            exact rOk_of rr713 (show ((rop 3 (xs 0) (31 : Int32)) = (17 : Int32)) ∧ ((xs 1) = (1 : Int32)) ∧ ((xs 2) = (3 : Int32)) ∧ ((xs 3) = (0 : Int32)) ∧ (rcmp 2 (xs 4) (0 : Int32) = false) ∧ (rcmp 5 (xs 4) (65536 : Int32) = false) ∧ ((xs 1) = (1 : Int32)) ∧ ((xs 2) = (3 : Int32)) ∧ ((xs 3) = (0 : Int32)) ∧ (rcmp 2 (xs 4) (0 : Int32) = false) ∧ (rcmp 4 (xs 4) (65536 : Int32) = true) ∧ True from ⟨h0, t1_1, t2_3, t3_0, b4, b5, t1_1, t2_3, t3_0, b4, (rg4t (by have z0 := ri2f b4; have z1 := ri5f b5; have y0 := li_0; have y1 := li_65536; omega)), trivial⟩)
      by_cases t3_1 : (xs 3) = (1 : Int32)
      · cases b4 : rcmp 2 (xs 4) (0 : Int32) with
        | true =>
          exact rOk_of rr718 (show ((rop 3 (xs 0) (31 : Int32)) = (17 : Int32)) ∧ ((xs 1) = (1 : Int32)) ∧ ((xs 2) = (3 : Int32)) ∧ ((xs 3) = (1 : Int32)) ∧ (rcmp 2 (xs 4) (0 : Int32) = true) ∧ ((xs 1) = (1 : Int32)) ∧ ((xs 2) = (3 : Int32)) ∧ ((xs 3) = (1 : Int32)) ∧ (rcmp 2 (xs 4) (0 : Int32) = true) ∧ True from ⟨h0, t1_1, t2_3, t3_1, b4, t1_1, t2_3, t3_1, b4, trivial⟩)
        | false =>
          cases b5 : rcmp 5 (xs 4) (65536 : Int32) with
          | true =>
            exact rOk_of rr717 (show ((rop 3 (xs 0) (31 : Int32)) = (17 : Int32)) ∧ ((xs 1) = (1 : Int32)) ∧ ((xs 2) = (3 : Int32)) ∧ ((xs 3) = (1 : Int32)) ∧ (rcmp 2 (xs 4) (0 : Int32) = false) ∧ (rcmp 5 (xs 4) (65536 : Int32) = true) ∧ ((xs 1) = (1 : Int32)) ∧ ((xs 2) = (3 : Int32)) ∧ ((xs 3) = (1 : Int32)) ∧ (rcmp 2 (xs 4) (0 : Int32) = false) ∧ (rcmp 4 (xs 4) (65536 : Int32) = false) ∧ (rcmp 2 (xs 4) (0 : Int32) = false) ∧ (rcmp 5 (xs 4) (65536 : Int32) = true) ∧ True from ⟨h0, t1_1, t2_3, t3_1, b4, b5, t1_1, t2_3, t3_1, b4, (rg4f (by have z0 := ri2f b4; have z1 := ri5t b5; have y0 := li_0; have y1 := li_65536; omega)), b4, b5, trivial⟩)
          | false =>
            exact rOk_of rr716 (show ((rop 3 (xs 0) (31 : Int32)) = (17 : Int32)) ∧ ((xs 1) = (1 : Int32)) ∧ ((xs 2) = (3 : Int32)) ∧ ((xs 3) = (1 : Int32)) ∧ (rcmp 2 (xs 4) (0 : Int32) = false) ∧ (rcmp 5 (xs 4) (65536 : Int32) = false) ∧ ((xs 1) = (1 : Int32)) ∧ ((xs 2) = (3 : Int32)) ∧ ((xs 3) = (1 : Int32)) ∧ (rcmp 2 (xs 4) (0 : Int32) = false) ∧ (rcmp 4 (xs 4) (65536 : Int32) = true) ∧ True from ⟨h0, t1_1, t2_3, t3_1, b4, b5, t1_1, t2_3, t3_1, b4, (rg4t (by have z0 := ri2f b4; have z1 := ri5f b5; have y0 := li_0; have y1 := li_65536; omega)), trivial⟩)
      by_cases t3_2 : (xs 3) = (2 : Int32)
      · cases b4 : rcmp 2 (xs 4) (0 : Int32) with
        | true =>
          exact rOk_of rr721 (show ((rop 3 (xs 0) (31 : Int32)) = (17 : Int32)) ∧ ((xs 1) = (1 : Int32)) ∧ ((xs 2) = (3 : Int32)) ∧ ((xs 3) = (2 : Int32)) ∧ (rcmp 2 (xs 4) (0 : Int32) = true) ∧ ((xs 1) = (1 : Int32)) ∧ ((xs 2) = (3 : Int32)) ∧ ((xs 3) = (2 : Int32)) ∧ (rcmp 2 (xs 4) (0 : Int32) = true) ∧ True from ⟨h0, t1_1, t2_3, t3_2, b4, t1_1, t2_3, t3_2, b4, trivial⟩)
        | false =>
          cases b5 : rcmp 5 (xs 4) (65536 : Int32) with
          | true =>
            exact rOk_of rr720 (show ((rop 3 (xs 0) (31 : Int32)) = (17 : Int32)) ∧ ((xs 1) = (1 : Int32)) ∧ ((xs 2) = (3 : Int32)) ∧ ((xs 3) = (2 : Int32)) ∧ (rcmp 2 (xs 4) (0 : Int32) = false) ∧ (rcmp 5 (xs 4) (65536 : Int32) = true) ∧ ((xs 1) = (1 : Int32)) ∧ ((xs 2) = (3 : Int32)) ∧ ((xs 3) = (2 : Int32)) ∧ (rcmp 2 (xs 4) (0 : Int32) = false) ∧ (rcmp 4 (xs 4) (65536 : Int32) = false) ∧ True from ⟨h0, t1_1, t2_3, t3_2, b4, b5, t1_1, t2_3, t3_2, b4, (rg4f (by have z0 := ri2f b4; have z1 := ri5t b5; have y0 := li_0; have y1 := li_65536; omega)), trivial⟩)
          | false =>
            exact rOk_of rr719 (show ((rop 3 (xs 0) (31 : Int32)) = (17 : Int32)) ∧ ((xs 1) = (1 : Int32)) ∧ ((xs 2) = (3 : Int32)) ∧ ((xs 3) = (2 : Int32)) ∧ (rcmp 2 (xs 4) (0 : Int32) = false) ∧ (rcmp 5 (xs 4) (65536 : Int32) = false) ∧ ((xs 1) = (1 : Int32)) ∧ ((xs 2) = (3 : Int32)) ∧ ((xs 3) = (2 : Int32)) ∧ (rcmp 2 (xs 4) (0 : Int32) = false) ∧ (rcmp 4 (xs 4) (65536 : Int32) = true) ∧ True from ⟨h0, t1_1, t2_3, t3_2, b4, b5, t1_1, t2_3, t3_2, b4, (rg4t (by have z0 := ri2f b4; have z1 := ri5f b5; have y0 := li_0; have y1 := li_65536; omega)), trivial⟩)
      by_cases t3_3 : (xs 3) = (3 : Int32)
      · cases b4 : rcmp 2 (xs 4) (0 : Int32) with
        | true =>
          exact rOk_of rr724 (show ((rop 3 (xs 0) (31 : Int32)) = (17 : Int32)) ∧ ((xs 1) = (1 : Int32)) ∧ ((xs 2) = (3 : Int32)) ∧ ((xs 3) = (3 : Int32)) ∧ (rcmp 2 (xs 4) (0 : Int32) = true) ∧ ((xs 1) = (1 : Int32)) ∧ ((xs 2) = (3 : Int32)) ∧ ((xs 3) = (3 : Int32)) ∧ (rcmp 2 (xs 4) (0 : Int32) = true) ∧ True from ⟨h0, t1_1, t2_3, t3_3, b4, t1_1, t2_3, t3_3, b4, trivial⟩)
        | false =>
          cases b5 : rcmp 5 (xs 4) (65536 : Int32) with
          | true =>
            exact rOk_of rr723 (show ((rop 3 (xs 0) (31 : Int32)) = (17 : Int32)) ∧ ((xs 1) = (1 : Int32)) ∧ ((xs 2) = (3 : Int32)) ∧ ((xs 3) = (3 : Int32)) ∧ (rcmp 2 (xs 4) (0 : Int32) = false) ∧ (rcmp 5 (xs 4) (65536 : Int32) = true) ∧ ((xs 1) = (1 : Int32)) ∧ ((xs 2) = (3 : Int32)) ∧ ((xs 3) = (3 : Int32)) ∧ (rcmp 2 (xs 4) (0 : Int32) = false) ∧ (rcmp 4 (xs 4) (65536 : Int32) = false) ∧ True from ⟨h0, t1_1, t2_3, t3_3, b4, b5, t1_1, t2_3, t3_3, b4, (rg4f (by have z0 := ri2f b4; have z1 := ri5t b5; have y0 := li_0; have y1 := li_65536; omega)), trivial⟩)
          | false =>
            exact rOk_of rr722 (show ((rop 3 (xs 0) (31 : Int32)) = (17 : Int32)) ∧ ((xs 1) = (1 : Int32)) ∧ ((xs 2) = (3 : Int32)) ∧ ((xs 3) = (3 : Int32)) ∧ (rcmp 2 (xs 4) (0 : Int32) = false) ∧ (rcmp 5 (xs 4) (65536 : Int32) = false) ∧ ((xs 1) = (1 : Int32)) ∧ ((xs 2) = (3 : Int32)) ∧ ((xs 3) = (3 : Int32)) ∧ (rcmp 2 (xs 4) (0 : Int32) = false) ∧ (rcmp 4 (xs 4) (65536 : Int32) = true) ∧ True from ⟨h0, t1_1, t2_3, t3_3, b4, b5, t1_1, t2_3, t3_3, b4, (rg4t (by have z0 := ri2f b4; have z1 := ri5f b5; have y0 := li_0; have y1 := li_65536; omega)), trivial⟩)
      by_cases t3_4 : (xs 3) = (4 : Int32)
      · cases b4 : rcmp 2 (xs 4) (0 : Int32) with
        | true =>
          exact rOk_of rr727 (show ((rop 3 (xs 0) (31 : Int32)) = (17 : Int32)) ∧ ((xs 1) = (1 : Int32)) ∧ ((xs 2) = (3 : Int32)) ∧ ((xs 3) = (4 : Int32)) ∧ (rcmp 2 (xs 4) (0 : Int32) = true) ∧ ((xs 1) = (1 : Int32)) ∧ ((xs 2) = (3 : Int32)) ∧ ((xs 3) = (4 : Int32)) ∧ (rcmp 2 (xs 4) (0 : Int32) = true) ∧ True from ⟨h0, t1_1, t2_3, t3_4, b4, t1_1, t2_3, t3_4, b4, trivial⟩)
        | false =>
          cases b5 : rcmp 5 (xs 4) (65536 : Int32) with
          | true =>
            exact rOk_of rr726 (show ((rop 3 (xs 0) (31 : Int32)) = (17 : Int32)) ∧ ((xs 1) = (1 : Int32)) ∧ ((xs 2) = (3 : Int32)) ∧ ((xs 3) = (4 : Int32)) ∧ (rcmp 2 (xs 4) (0 : Int32) = false) ∧ (rcmp 5 (xs 4) (65536 : Int32) = true) ∧ ((xs 1) = (1 : Int32)) ∧ ((xs 2) = (3 : Int32)) ∧ ((xs 3) = (4 : Int32)) ∧ (rcmp 2 (xs 4) (0 : Int32) = false) ∧ (rcmp 4 (xs 4) (65536 : Int32) = false) ∧ True from ⟨h0, t1_1, t2_3, t3_4, b4, b5, t1_1, t2_3, t3_4, b4, (rg4f (by have z0 := ri2f b4; have z1 := ri5t b5; have y0 := li_0; have y1 := li_65536; omega)), trivial⟩)
          | false =>
            exact rOk_of rr725 (show ((rop 3 (xs 0) (31 : Int32)) = (17 : Int32)) ∧ ((xs 1) = (1 : Int32)) ∧ ((xs 2) = (3 : Int32)) ∧ ((xs 3) = (4 : Int32)) ∧ (rcmp 2 (xs 4) (0 : Int32) = false) ∧ (rcmp 5 (xs 4) (65536 : Int32) = false) ∧ ((xs 1) = (1 : Int32)) ∧ ((xs 2) = (3 : Int32)) ∧ ((xs 3) = (4 : Int32)) ∧ (rcmp 2 (xs 4) (0 : Int32) = false) ∧ (rcmp 4 (xs 4) (65536 : Int32) = true) ∧ True from ⟨h0, t1_1, t2_3, t3_4, b4, b5, t1_1, t2_3, t3_4, b4, (rg4t (by have z0 := ri2f b4; have z1 := ri5f b5; have y0 := li_0; have y1 := li_65536; omega)), trivial⟩)
      cases b3 : rcmp 2 (xs 3) (0 : Int32) with
      | true =>
        exact rOk_of rr712 (show ((rop 3 (xs 0) (31 : Int32)) = (17 : Int32)) ∧ ((xs 1) = (1 : Int32)) ∧ ((xs 2) = (3 : Int32)) ∧ (rcmp 2 (xs 3) (0 : Int32) = true) ∧ ((xs 1) = (1 : Int32)) ∧ ((xs 2) = (3 : Int32)) ∧ (rcmp 2 (xs 3) (0 : Int32) = true) ∧ True from ⟨h0, t1_1, t2_3, b3, t1_1, t2_3, b3, trivial⟩)
      | false =>
        exact rOk_of rr711 (show ((rop 3 (xs 0) (31 : Int32)) = (17 : Int32)) ∧ ((xs 1) = (1 : Int32)) ∧ ((xs 2) = (3 : Int32)) ∧ (rcmp 2 (xs 3) (0 : Int32) = false) ∧ (rcmp 4 (xs 3) (4 : Int32) = true) ∧ ((xs 1) = (1 : Int32)) ∧ ((xs 2) = (3 : Int32)) ∧ (rcmp 2 (xs 3) (0 : Int32) = false) ∧ (rcmp 4 (xs 3) (4 : Int32) = true) ∧ True from ⟨h0, t1_1, t2_3, b3, (rg4t (by have z0 := rine t3_0; have z1 := rine t3_1; have z2 := rine t3_2; have z3 := rine t3_3; have z4 := rine t3_4; have z5 := ri2f b3; have y0 := li_0; have y1 := li_1; have y2 := li_2; have y3 := li_3; have y4 := li_4; omega)), t1_1, t2_3, b3, (rg4t (by have z0 := rine t3_0; have z1 := rine t3_1; have z2 := rine t3_2; have z3 := rine t3_3; have z4 := rine t3_4; have z5 := ri2f b3; have y0 := li_0; have y1 := li_1; have y2 := li_2; have y3 := li_3; have y4 := li_4; omega)), trivial⟩)
    cases b2 : rcmp 2 (xs 2) (0 : Int32) with
    | true =>
      exact rOk_of rr659 (show ((rop 3 (xs 0) (31 : Int32)) = (17 : Int32)) ∧ ((xs 1) = (1 : Int32)) ∧ (rcmp 2 (xs 2) (0 : Int32) = true) ∧ ((xs 1) = (1 : Int32)) ∧ (rcmp 2 (xs 2) (0 : Int32) = true) ∧ True from ⟨h0, t1_1, b2, t1_1, b2, trivial⟩)
    | false =>
      exact rOk_of rr658 (show ((rop 3 (xs 0) (31 : Int32)) = (17 : Int32)) ∧ ((xs 1) = (1 : Int32)) ∧ (rcmp 2 (xs 2) (0 : Int32) = false) ∧ (rcmp 4 (xs 2) (3 : Int32) = true) ∧ ((xs 1) = (1 : Int32)) ∧ (rcmp 2 (xs 2) (0 : Int32) = false) ∧ (rcmp 3 (xs 2) (4 : Int32) = true) ∧ True from ⟨h0, t1_1, b2, (rg4t (by have z0 := rine t2_0; have z1 := rine t2_1; have z2 := rine t2_2; have z3 := rine t2_3; have z4 := ri2f b2; have y0 := li_0; have y1 := li_1; have y2 := li_2; have y3 := li_3; omega)), t1_1, b2, (rg3t (by have z0 := rine t2_0; have z1 := rine t2_1; have z2 := rine t2_2; have z3 := rine t2_3; have z4 := ri2f b2; have y0 := li_0; have y1 := li_1; have y2 := li_2; have y3 := li_3; have y4 := li_4; omega)), trivial⟩)
  by_cases t1_2 : (xs 1) = (2 : Int32)
  · by_cases t2_0 : (xs 2) = (0 : Int32)
    · by_cases t3_0 : (xs 3) = (0 : Int32)
      · cases b4 : rcmp 2 (xs 4) (0 : Int32) with
        | true =>
          exact rOk_of rr734 (show ((rop 3 (xs 0) (31 : Int32)) = (17 : Int32)) ∧ ((xs 1) = (2 : Int32)) ∧ ((xs 2) = (0 : Int32)) ∧ ((xs 3) = (0 : Int32)) ∧ (rcmp 2 (xs 4) (0 : Int32) = true) ∧ ((xs 1) = (2 : Int32)) ∧ ((xs 2) = (0 : Int32)) ∧ ((xs 3) = (0 : Int32)) ∧ (rcmp 2 (xs 4) (0 : Int32) = true) ∧ True from ⟨h0, t1_2, t2_0, t3_0, b4, t1_2, t2_0, t3_0, b4, trivial⟩)
        | false =>
          cases b5 : rcmp 5 (xs 4) (65536 : Int32) with
          | true =>
            exact rOk_of rr733 (show ((rop 3 (xs 0) (31 : Int32)) = (17 : Int32)) ∧ ((xs 1) = (2 : Int32)) ∧ ((xs 2) = (0 : Int32)) ∧ ((xs 3) = (0 : Int32)) ∧ (rcmp 2 (xs 4) (0 : Int32) = false) ∧ (rcmp 5 (xs 4) (65536 : Int32) = true) ∧ ((xs 1) = (2 : Int32)) ∧ ((xs 2) = (0 : Int32)) ∧ ((xs 3) = (0 : Int32)) ∧ (rcmp 2 (xs 4) (0 : Int32) = false) ∧ (rcmp 4 (xs 4) (65536 : Int32) = false) ∧ (rcmp 2 (xs 4) (0 : Int32) = false) ∧ (rcmp 5 (xs 4) (65536 : Int32) = true) ∧ True from ⟨h0, t1_2, t2_0, t3_0, b4, b5, t1_2, t2_0, t3_0, b4, (rg4f (by have z0 := ri2f b4; have z1 := ri5t b5; have y0 := li_0; have y1 := li_65536; omega)), b4, b5, trivial⟩)
          | false =>
            exact rOk_of rr732 (show ((rop 3 (xs 0) (31 : Int32)) = (17 : Int32)) ∧ ((xs 1) = (2 : Int32)) ∧ ((xs 2) = (0 : Int32)) ∧ ((xs 3) = (0 : Int32)) ∧ (rcmp 2 (xs 4) (0 : Int32) = false) ∧ (rcmp 5 (xs 4) (65536 : Int32) = false) ∧ ((xs 1) = (2 : Int32)) ∧ ((xs 2) = (0 : Int32)) ∧ ((xs 3) = (0 : Int32)) ∧ (rcmp 2 (xs 4) (0 : Int32) = false) ∧ (rcmp 4 (xs 4) (65536 : Int32) = true) ∧ True from ⟨h0, t1_2, t2_0, t3_0, b4, b5, t1_2, t2_0, t3_0, b4, (rg4t (by have z0 := ri2f b4; have z1 := ri5f b5; have y0 := li_0; have y1 := li_65536; omega)), trivial⟩)
      by_cases t3_1 : (xs 3) = (1 : Int32)
      · cases b4 : rcmp 2 (xs 4) (0 : Int32) with
        | true =>
          exact rOk_of rr737 (show ((rop 3 (xs 0) (31 : Int32)) = (17 : Int32)) ∧ ((xs 1) = (2 : Int32)) ∧ ((xs 2) = (0 : Int32)) ∧ ((xs 3) = (1 : Int32)) ∧ (rcmp 2 (xs 4) (0 : Int32) = true) ∧ ((xs 1) = (2 : Int32)) ∧ ((xs 2) = (0 : Int32)) ∧ ((xs 3) = (1 : Int32)) ∧ (rcmp 2 (xs 4) (0 : Int32) = true) ∧ True from ⟨h0, t1_2, t2_0, t3_1, b4, t1_2, t2_0, t3_1, b4, trivial⟩)
        | false =>
          cases b5 : rcmp 5 (xs 4) (65536 : Int32) with
          | true =>
            exact rOk_of rr736 (show ((rop 3 (xs 0) (31 : Int32)) = (17 : Int32)) ∧ ((xs 1) = (2 : Int32)) ∧ ((xs 2) = (0 : Int32)) ∧ ((xs 3) = (1 : Int32)) ∧ (rcmp 2 (xs 4) (0 : Int32) = false) ∧ (rcmp 5 (xs 4) (65536 : Int32) = true) ∧ ((xs 1) = (2 : Int32)) ∧ ((xs 2) = (0 : Int32)) ∧ ((xs 3) = (1 : Int32)) ∧ (rcmp 2 (xs 4) (0 : Int32) = false) ∧ (rcmp 4 (xs 4) (65536 : Int32) = false) ∧ (rcmp 2 (xs 4) (0 : Int32) = false) ∧ (rcmp 5 (xs 4) (65536 : Int32) = true) ∧ True from ⟨h0, t1_2, t2_0, t3_1, b4, b5, t1_2, t2_0, t3_1, b4, (rg4f (by have z0 := ri2f b4; have z1 := ri5t b5; have y0 := li_0; have y1 := li_65536; omega)), b4, b5, trivial⟩)
          | false =>
            exact rOk_of rr735 (show ((rop 3 (xs 0) (31 : Int32)) = (17 : Int32)) ∧ ((xs 1) = (2 : Int32)) ∧ ((xs 2) = (0 : Int32)) ∧ ((xs 3) = (1 : Int32)) ∧ (rcmp 2 (xs 4) (0 : Int32) = false) ∧ (rcmp 5 (xs 4) (65536 : Int32) = false) ∧ ((xs 1) = (2 : Int32)) ∧ ((xs 2) = (0 : Int32)) ∧ ((xs 3) = (1 : Int32)) ∧ (rcmp 2 (xs 4) (0 : Int32) = false) ∧ (rcmp 4 (xs 4) (65536 : Int32) = true) ∧ True from ⟨h0, t1_2, t2_0, t3_1, b4, b5, t1_2, t2_0, t3_1, b4, (rg4t (by have z0 := ri2f b4; have z1 := ri5f b5; have y0 := li_0; have y1 := li_65536; omega)), trivial⟩)
      by_cases t3_2 : (xs 3) = (2 : Int32)
      · cases b4 : rcmp 2 (xs 4) (0 : Int32) with
        | true =>
          exact rOk_of rr740 (show ((rop 3 (xs 0) (31 : Int32)) = (17 : Int32)) ∧ ((xs 1) = (2 : Int32)) ∧ ((xs 2) = (0 : Int32)) ∧ ((xs 3) = (2 : Int32)) ∧ (rcmp 2 (xs 4) (0 : Int32) = true) ∧ ((xs 1) = (2 : Int32)) ∧ ((xs 2) = (0 : Int32)) ∧ ((xs 3) = (2 : Int32)) ∧ (rcmp 2 (xs 4) (0 : Int32) = true) ∧ True from ⟨h0, t1_2, t2_0, t3_2, b4, t1_2, t2_0, t3_2, b4, trivial⟩)
        | false =>
          cases b5 : rcmp 5 (xs 4) (65536 : Int32) with
          | true =>
            exact rOk_of rr739 (show ((rop 3 (xs 0) (31 : Int32)) = (17 : Int32)) ∧ ((xs 1) = (2 : Int32)) ∧ ((xs 2) = (0 : Int32)) ∧ ((xs 3) = (2 : Int32)) ∧ (rcmp 2 (xs 4) (0 : Int32) = false) ∧ (rcmp 5 (xs 4) (65536 : Int32) = true) ∧ ((xs 1) = (2 : Int32)) ∧ ((xs 2) = (0 : Int32)) ∧ ((xs 3) = (2 : Int32)) ∧ (rcmp 2 (xs 4) (0 : Int32) = false) ∧ (rcmp 4 (xs 4) (65536 : Int32) = false) ∧ True from ⟨h0, t1_2, t2_0, t3_2, b4, b5, t1_2, t2_0, t3_2, b4, (rg4f (by have z0 := ri2f b4; have z1 := ri5t b5; have y0 := li_0; have y1 := li_65536; omega)), trivial⟩)
          | false =>
            exact rOk_of rr738 (show ((rop 3 (xs 0) (31 : Int32)) = (17 : Int32)) ∧ ((xs 1) = (2 : Int32)) ∧ ((xs 2) = (0 : Int32)) ∧ ((xs 3) = (2 : Int32)) ∧ (rcmp 2 (xs 4) (0 : Int32) = false) ∧ (rcmp 5 (xs 4) (65536 : Int32) = false) ∧ ((xs 1) = (2 : Int32)) ∧ ((xs 2) = (0 : Int32)) ∧ ((xs 3) = (2 : Int32)) ∧ (rcmp 2 (xs 4) (0 : Int32) = false) ∧ (rcmp 4 (xs 4) (65536 : Int32) = true) ∧ True from ⟨h0, t1_2, t2_0, t3_2, b4, b5, t1_2, t2_0, t3_2, b4, (rg4t (by have z0 := ri2f b4; have z1 := ri5f b5; have y0 := li_0; have y1 := li_65536; omega)), trivial⟩)
      by_cases t3_3 : (xs 3) = (3 : Int32)
      · cases b4 : rcmp 2 (xs 4) (0 : Int32) with
        | true =>
          exact rOk_of rr743 (show ((rop 3 (xs 0) (31 : Int32)) = (17 : Int32)) ∧ ((xs 1) = (2 : Int32)) ∧ ((xs 2) = (0 : Int32)) ∧ ((xs 3) = (3 : Int32)) ∧ (rcmp 2 (xs 4) (0 : Int32) = true) ∧ ((xs 1) = (2 : Int32)) ∧ ((xs 2) = (0 : Int32)) ∧ ((xs 3) = (3 : Int32)) ∧ (rcmp 2 (xs 4) (0 : Int32) = true) ∧ True from ⟨h0, t1_2, t2_0, t3_3, b4, t1_2, t2_0, t3_3, b4, trivial⟩)
        | false =>
          cases b5 : rcmp 5 (xs 4) (65536 : Int32) with
          | true =>
            exact rOk_of rr742 (show ((rop 3 (xs 0) (31 : Int32)) = (17 : Int32)) ∧ ((xs 1) = (2 : Int32)) ∧ ((xs 2) = (0 : Int32)) ∧ ((xs 3) = (3 : Int32)) ∧ (rcmp 2 (xs 4) (0 : Int32) = false) ∧ (rcmp 5 (xs 4) (65536 : Int32) = true) ∧ ((xs 1) = (2 : Int32)) ∧ ((xs 2) = (0 : Int32)) ∧ ((xs 3) = (3 : Int32)) ∧ (rcmp 2 (xs 4) (0 : Int32) = false) ∧ (rcmp 4 (xs 4) (65536 : Int32) = false) ∧ True from ⟨h0, t1_2, t2_0, t3_3, b4, b5, t1_2, t2_0, t3_3, b4, (rg4f (by have z0 := ri2f b4; have z1 := ri5t b5; have y0 := li_0; have y1 := li_65536; omega)), trivial⟩)
          | false =>
            exact rOk_of rr741 (show ((rop 3 (xs 0) (31 : Int32)) = (17 : Int32)) ∧ ((xs 1) = (2 : Int32)) ∧ ((xs 2) = (0 : Int32)) ∧ ((xs 3) = (3 : Int32)) ∧ (rcmp 2 (xs 4) (0 : Int32) = false) ∧ (rcmp 5 (xs 4) (65536 : Int32) = false) ∧ ((xs 1) = (2 : Int32)) ∧ ((xs 2) = (0 : Int32)) ∧ ((xs 3) = (3 : Int32)) ∧ (rcmp 2 (xs 4) (0 : Int32) = false) ∧ (rcmp 4 (xs 4) (65536 : Int32) = true) ∧ True from ⟨h0, t1_2, t2_0, t3_3, b4, b5, t1_2, t2_0, t3_3, b4, (rg4t (by have z0 := ri2f b4; have z1 := ri5f b5; have y0 := li_0; have y1 := li_65536; omega)), trivial⟩)
      by_cases t3_4 : (xs 3) = (4 : Int32)
      · cases b4 : rcmp 2 (xs 4) (0 : Int32) with
        | true =>
          exact rOk_of rr746 (show ((rop 3 (xs 0) (31 : Int32)) = (17 : Int32)) ∧ ((xs 1) = (2 : Int32)) ∧ ((xs 2) = (0 : Int32)) ∧ ((xs 3) = (4 : Int32)) ∧ (rcmp 2 (xs 4) (0 : Int32) = true) ∧ ((xs 1) = (2 : Int32)) ∧ ((xs 2) = (0 : Int32)) ∧ ((xs 3) = (4 : Int32)) ∧ (rcmp 2 (xs 4) (0 : Int32) = true) ∧ True from ⟨h0, t1_2, t2_0, t3_4, b4, t1_2, t2_0, t3_4, b4, trivial⟩)
        | false =>
          cases b5 : rcmp 5 (xs 4) (65536 : Int32) with
          | true =>
            exact rOk_of rr745 (show ((rop 3 (xs 0) (31 : Int32)) = (17 : Int32)) ∧ ((xs 1) = (2 : Int32)) ∧ ((xs 2) = (0 : Int32)) ∧ ((xs 3) = (4 : Int32)) ∧ (rcmp 2 (xs 4) (0 : Int32) = false) ∧ (rcmp 5 (xs 4) (65536 : Int32) = true) ∧ ((xs 1) = (2 : Int32)) ∧ ((xs 2) = (0 : Int32)) ∧ ((xs 3) = (4 : Int32)) ∧ (rcmp 2 (xs 4) (0 : Int32) = false) ∧ (rcmp 4 (xs 4) (65536 : Int32) = false) ∧ True from ⟨h0, t1_2, t2_0, t3_4, b4, b5, t1_2, t2_0, t3_4, b4, (rg4f (by have z0 := ri2f b4; have z1 := ri5t b5; have y0 := li_0; have y1 := li_65536; omega)), trivial⟩)
          | false =>
            exact rOk_of rr744 (show ((rop 3 (xs 0) (31 : Int32)) = (17 : Int32)) ∧ ((xs 1) = (2 : Int32)) ∧ ((xs 2) = (0 : Int32)) ∧ ((xs 3) = (4 : Int32)) ∧ (rcmp 2 (xs 4) (0 : Int32) = false) ∧ (rcmp 5 (xs 4) (65536 : Int32) = false) ∧ ((xs 1) = (2 : Int32)) ∧ ((xs 2) = (0 : Int32)) ∧ ((xs 3) = (4 : Int32)) ∧ (rcmp 2 (xs 4) (0 : Int32) = false) ∧ (rcmp 4 (xs 4) (65536 : Int32) = true) ∧ True from ⟨h0, t1_2, t2_0, t3_4, b4, b5, t1_2, t2_0, t3_4, b4, (rg4t (by have z0 := ri2f b4; have z1 := ri5f b5; have y0 := li_0; have y1 := li_65536; omega)), trivial⟩)
      cases b3 : rcmp 2 (xs 3) (0 : Int32) with
      | true =>
        exact rOk_of rr731 (show ((rop 3 (xs 0) (31 : Int32)) = (17 : Int32)) ∧ ((xs 1) = (2 : Int32)) ∧ ((xs 2) = (0 : Int32)) ∧ (rcmp 2 (xs 3) (0 : Int32) = true) ∧ ((xs 1) = (2 : Int32)) ∧ ((xs 2) = (0 : Int32)) ∧ (rcmp 2 (xs 3) (0 : Int32) = true) ∧ True from ⟨h0, t1_2, t2_0, b3, t1_2, t2_0, b3, trivial⟩)
      | false =>
        exact rOk_of rr730 (show ((rop 3 (xs 0) (31 : Int32)) = (17 : Int32)) ∧ ((xs 1) = (2 : Int32)) ∧ ((xs 2) = (0 : Int32)) ∧ (rcmp 2 (xs 3) (0 : Int32) = false) ∧ (rcmp 4 (xs 3) (4 : Int32) = true) ∧ ((xs 1) = (2 : Int32)) ∧ ((xs 2) = (0 : Int32)) ∧ (rcmp 2 (xs 3) (0 : Int32) = false) ∧ (rcmp 4 (xs 3) (4 : Int32) = true) ∧ True from ⟨h0, t1_2, t2_0, b3, (rg4t (by have z0 := rine t3_0; have z1 := rine t3_1; have z2 := rine t3_2; have z3 := rine t3_3; have z4 := rine t3_4; have z5 := ri2f b3; have y0 := li_0; have y1 := li_1; have y2 := li_2; have y3 := li_3; have y4 := li_4; omega)), t1_2, t2_0, b3, (rg4t (by have z0 := rine t3_0; have z1 := rine t3_1; have z2 := rine t3_2; have z3 := rine t3_3; have z4 := rine t3_4; have z5 := ri2f b3; have y0 := li_0; have y1 := li_1; have y2 := li_2; have y3 := li_3; have y4 := li_4; omega)), trivial⟩)
    by_cases t2_1 : (xs 2) = (1 : Int32)
    · by_cases t3_0 : (xs 3) = (0 : Int32)
      · cases b4 : rcmp 2 (xs 4) (0 : Int32) with
        | true =>
          exact rOk_of rr751 (show ((rop 3 (xs 0) (31 : Int32)) = (17 : Int32)) ∧ ((xs 1) = (2 : Int32)) ∧ ((xs 2) = (1 : Int32)) ∧ ((xs 3) = (0 : Int32)) ∧ (rcmp 2 (xs 4) (0 : Int32) = true) ∧ ((xs 1) = (2 : Int32)) ∧ ((xs 2) = (1 : Int32)) ∧ ((xs 3) = (0 : Int32)) ∧ (rcmp 2 (xs 4) (0 : Int32) = true) ∧ True from ⟨h0, t1_2, t2_1, t3_0, b4, t1_2, t2_1, t3_0, b4, trivial⟩)
        | false =>
          cases b5 : rcmp 5 (xs 4) (65536 : Int32) with
          | true =>
            exact rOk_of rr750 (show ((rop 3 (xs 0) (31 : Int32)) = (17 : Int32)) ∧ ((xs 1) = (2 : Int32)) ∧ ((xs 2) = (1 : Int32)) ∧ ((xs 3) = (0 : Int32)) ∧ (rcmp 2 (xs 4) (0 : Int32) = false) ∧ (rcmp 5 (xs 4) (65536 : Int32) = true) ∧ ((xs 1) = (2 : Int32)) ∧ ((xs 2) = (1 : Int32)) ∧ ((xs 3) = (0 : Int32)) ∧ (rcmp 2 (xs 4) (0 : Int32) = false) ∧ (rcmp 4 (xs 4) (65536 : Int32) = false) ∧ (rcmp 2 (xs 4) (0 : Int32) = false) ∧ (rcmp 5 (xs 4) (65536 : Int32) = true) ∧ True from ⟨h0, t1_2, t2_1, t3_0, b4, b5, t1_2, t2_1, t3_0, b4, (rg4f (by have z0 := ri2f b4; have z1 := ri5t b5; have y0 := li_0; have y1 := li_65536; omega)), b4, b5, trivial⟩)
          | false =>
            exact rOk_of rr749 (show ((rop 3 (xs 0) (31 : Int32)) = (17 : Int32)) ∧ ((xs 1) = (2 : Int32)) ∧ ((xs 2) = (1 : Int32)) ∧ ((xs 3) = (0 : Int32)) ∧ (rcmp 2 (xs 4) (0 : Int32) = false) ∧ (rcmp 5 (xs 4) (65536 : Int32) = false) ∧ ((xs 1) = (2 : Int32)) ∧ ((xs 2) = (1 : Int32)) ∧ ((xs 3) = (0 : Int32)) ∧ (rcmp 2 (xs 4) (0 : Int32) = false) ∧ (rcmp 4 (xs 4) (65536 : Int32) = true) ∧ True from ⟨h0, t1_2, t2_1, t3_0, b4, b5, t1_2, t2_1, t3_0, b4, (rg4t (by have z0 := ri2f b4; have z1 := ri5f b5; have y0 := li_0; have y1 := li_65536; omega)), trivial⟩)
      by_cases t3_1 : (xs 3) = (1 : Int32)
      · cases b4 : rcmp 2 (xs 4) (0 : Int32) with
        | true =>
          exact rOk_of rr754 (show ((rop 3 (xs 0) (31 : Int32)) = (17 : Int32)) ∧ ((xs 1) = (2 : Int32)) ∧ ((xs 2) = (1 : Int32)) ∧ ((xs 3) = (1 : Int32)) ∧ (rcmp 2 (xs 4) (0 : Int32) = true) ∧ ((xs 1) = (2 : Int32)) ∧ ((xs 2) = (1 : Int32)) ∧ ((xs 3) = (1 : Int32)) ∧ (rcmp 2 (xs 4) (0 : Int32) = true) ∧ True from ⟨h0, t1_2, t2_1, t3_1, b4, t1_2, t2_1, t3_1, b4, trivial⟩)
        | false =>
          cases b5 : rcmp 5 (xs 4) (65536 : Int32) with
          | true =>
            exact rOk_of rr753 (show ((rop 3 (xs 0) (31 : Int32)) = (17 : Int32)) ∧ ((xs 1) = (2 : Int32)) ∧ ((xs 2) = (1 : Int32)) ∧ ((xs 3) = (1 : Int32)) ∧ (rcmp 2 (xs 4) (0 : Int32) = false) ∧ (rcmp 5 (xs 4) (65536 : Int32) = true) ∧ ((xs 1) = (2 : Int32)) ∧ ((xs 2) = (1 : Int32)) ∧ ((xs 3) = (1 : Int32)) ∧ (rcmp 2 (xs 4) (0 : Int32) = false) ∧ (rcmp 4 (xs 4) (65536 : Int32) = false) ∧ (rcmp 2 (xs 4) (0 : Int32) = false) ∧ (rcmp 5 (xs 4) (65536 : Int32) = true) ∧ True from ⟨h0, t1_2, t2_1, t3_1, b4, b5, t1_2, t2_1, t3_1, b4, (rg4f (by have z0 := ri2f b4; have z1 := ri5t b5; have y0 := li_0; have y1 := li_65536; omega)), b4, b5, trivial⟩)
          | false =>
            exact rOk_of rr752 (show ((rop 3 (xs 0) (31 : Int32)) = (17 : Int32)) ∧ ((xs 1) = (2 : Int32)) ∧ ((xs 2) = (1 : Int32)) ∧ ((xs 3) = (1 : Int32)) ∧ (rcmp 2 (xs 4) (0 : Int32) = false) ∧ (rcmp 5 (xs 4) (65536 : Int32) = false) ∧ ((xs 1) = (2 : Int32)) ∧ ((xs 2) = (1 : Int32)) ∧ ((xs 3) = (1 : Int32)) ∧ (rcmp 2 (xs 4) (0 : Int32) = false) ∧ (rcmp 4 (xs 4) (65536 : Int32) = true) ∧ True from ⟨h0, t1_2, t2_1, t3_1, b4, b5, t1_2, t2_1, t3_1, b4, (rg4t (by have z0 := ri2f b4; have z1 := ri5f b5; have y0 := li_0; have y1 := li_65536; omega)), trivial⟩)
      by_cases t3_2 : (xs 3) = (2 : Int32)
      · cases b4 : rcmp 2 (xs 4) (0 : Int32) with
        | true =>
          exact rOk_of rr757 (show ((rop 3 (xs 0) (31 : Int32)) = (17 : Int32)) ∧ ((xs 1) = (2 : Int32)) ∧ ((xs 2) = (1 : Int32)) ∧ ((xs 3) = (2 : Int32)) ∧ (rcmp 2 (xs 4) (0 : Int32) = true) ∧ ((xs 1) = (2 : Int32)) ∧ ((xs 2) = (1 : Int32)) ∧ ((xs 3) = (2 : Int32)) ∧ (rcmp 2 (xs 4) (0 : Int32) = true) ∧ True from ⟨h0, t1_2, t2_1, t3_2, b4, t1_2, t2_1, t3_2, b4, trivial⟩)
        | false =>
          cases b5 : rcmp 5 (xs 4) (65536 : Int32) with
          | true =>
            exact rOk_of rr756 (show ((rop 3 (xs 0) (31 : Int32)) = (17 : Int32)) ∧ ((xs 1) = (2 : Int32)) ∧ ((xs 2) = (1 : Int32)) ∧ ((xs 3) = (2 : Int32)) ∧ (rcmp 2 (xs 4) (0 : Int32) = false) ∧ (rcmp 5 (xs 4) (65536 : Int32) = true) ∧ ((xs 1) = (2 : Int32)) ∧ ((xs 2) = (1 : Int32)) ∧ ((xs 3) = (2 : Int32)) ∧ (rcmp 2 (xs 4) (0 : Int32) = false) ∧ (rcmp 4 (xs 4) (65536 : Int32) = false) ∧ True from ⟨h0, t1_2, t2_1, t3_2, b4, b5, t1_2, t2_1, t3_2, b4, (rg4f (by have z0 := ri2f b4; have z1 := ri5t b5; have y0 := li_0; have y1 := li_65536; omega)), trivial⟩)
          | false =>
            exact rOk_of rr755 (show ((rop 3 (xs 0) (31 : Int32)) = (17 : Int32)) ∧ ((xs 1) = (2 : Int32)) ∧ ((xs 2) = (1 : Int32)) ∧ ((xs 3) = (2 : Int32)) ∧ (rcmp 2 (xs 4) (0 : Int32) = false) ∧ (rcmp 5 (xs 4) (65536 : Int32) = false) ∧ ((xs 1) = (2 : Int32)) ∧ ((xs 2) = (1 : Int32)) ∧ ((xs 3) = (2 : Int32)) ∧ (rcmp 2 (xs 4) (0 : Int32) = false) ∧ (rcmp 4 (xs 4) (65536 : Int32) = true) ∧ True from ⟨h0, t1_2, t2_1, t3_2, b4, b5, t1_2, t2_1, t3_2, b4, (rg4t (by have z0 := ri2f b4; have z1 := ri5f b5; have y0 := li_0; have y1 := li_65536; omega)), trivial⟩)
      by_cases t3_3 : (xs 3) = (3 : Int32)
      · cases b4 : rcmp 2 (xs 4) (0 : Int32) with
        | true =>
          exact rOk_of rr760 (show ((rop 3 (xs 0) (31 : Int32)) = (17 : Int32)) ∧ ((xs 1) = (2 : Int32)) ∧ ((xs 2) = (1 : Int32)) ∧ ((xs 3) = (3 : Int32)) ∧ (rcmp 2 (xs 4) (0 : Int32) = true) ∧ ((xs 1) = (2 : Int32)) ∧ ((xs 2) = (1 : Int32)) ∧ ((xs 3) = (3 : Int32)) ∧ (rcmp 2 (xs 4) (0 : Int32) = true) ∧ True from ⟨h0, t1_2, t2_1, t3_3, b4, t1_2, t2_1, t3_3, b4, trivial⟩)
        | false =>
          cases b5 : rcmp 5 (xs 4) (65536 : Int32) with
          | true =>
            exact rOk_of rr759 (show ((rop 3 (xs 0) (31 : Int32)) = (17 : Int32)) ∧ ((xs 1) = (2 : Int32)) ∧ ((xs 2) = (1 : Int32)) ∧ ((xs 3) = (3 : Int32)) ∧ (rcmp 2 (xs 4) (0 : Int32) = false) ∧ (rcmp 5 (xs 4) (65536 : Int32) = true) ∧ ((xs 1) = (2 : Int32)) ∧ ((xs 2) = (1 : Int32)) ∧ ((xs 3) = (3 : Int32)) ∧ (rcmp 2 (xs 4) (0 : Int32) = false) ∧ (rcmp 4 (xs 4) (65536 : Int32) = false) ∧ True from ⟨h0, t1_2, t2_1, t3_3, b4, b5, t1_2, t2_1, t3_3, b4, (rg4f (by have z0 := ri2f b4; have z1 := ri5t b5; have y0 := li_0; have y1 := li_65536; omega)), trivial⟩)
          | false =>
            exact rOk_of rr758 (show ((rop 3 (xs 0) (31 : Int32)) = (17 : Int32)) ∧ ((xs 1) = (2 : Int32)) ∧ ((xs 2) = (1 : Int32)) ∧ ((xs 3) = (3 : Int32)) ∧ (rcmp 2 (xs 4) (0 : Int32) = false) ∧ (rcmp 5 (xs 4) (65536 : Int32) = false) ∧ ((xs 1) = (2 : Int32)) ∧ ((xs 2) = (1 : Int32)) ∧ ((xs 3) = (3 : Int32)) ∧ (rcmp 2 (xs 4) (0 : Int32) = false) ∧ (rcmp 4 (xs 4) (65536 : Int32) = true) ∧ True from ⟨h0, t1_2, t2_1, t3_3, b4, b5, t1_2, t2_1, t3_3, b4, (rg4t (by have z0 := ri2f b4; have z1 := ri5f b5; have y0 := li_0; have y1 := li_65536; omega)), trivial⟩)
      by_cases t3_4 : (xs 3) = (4 : Int32)
      · cases b4 : rcmp 2 (xs 4) (0 : Int32) with
        | true =>
          exact rOk_of rr763 (show ((rop 3 (xs 0) (31 : Int32)) = (17 : Int32)) ∧ ((xs 1) = (2 : Int32)) ∧ ((xs 2) = (1 : Int32)) ∧ ((xs 3) = (4 : Int32)) ∧ (rcmp 2 (xs 4) (0 : Int32) = true) ∧ ((xs 1) = (2 : Int32)) ∧ ((xs 2) = (1 : Int32)) ∧ ((xs 3) = (4 : Int32)) ∧ (rcmp 2 (xs 4) (0 : Int32) = true) ∧ True from ⟨h0, t1_2, t2_1, t3_4, b4, t1_2, t2_1, t3_4, b4, trivial⟩)
        | false =>
          cases b5 : rcmp 5 (xs 4) (65536 : Int32) with
          | true =>
            exact rOk_of rr762 (show ((rop 3 (xs 0) (31 : Int32)) = (17 : Int32)) ∧ ((xs 1) = (2 : Int32)) ∧ ((xs 2) = (1 : Int32)) ∧ ((xs 3) = (4 : Int32)) ∧ (rcmp 2 (xs 4) (0 : Int32) = false) ∧ (rcmp 5 (xs 4) (65536 : Int32) = true) ∧ ((xs 1) = (2 : Int32)) ∧ ((xs 2) = (1 : Int32)) ∧ ((xs 3) = (4 : Int32)) ∧ (rcmp 2 (xs 4) (0 : Int32) = false) ∧ (rcmp 4 (xs 4) (65536 : Int32) = false) ∧ True from ⟨h0, t1_2, t2_1, t3_4, b4, b5, t1_2, t2_1, t3_4, b4, (rg4f (by have z0 := ri2f b4; have z1 := ri5t b5; have y0 := li_0; have y1 := li_65536; omega)), trivial⟩)
          | false =>
            exact rOk_of rr761 (show ((rop 3 (xs 0) (31 : Int32)) = (17 : Int32)) ∧ ((xs 1) = (2 : Int32)) ∧ ((xs 2) = (1 : Int32)) ∧ ((xs 3) = (4 : Int32)) ∧ (rcmp 2 (xs 4) (0 : Int32) = false) ∧ (rcmp 5 (xs 4) (65536 : Int32) = false) ∧ ((xs 1) = (2 : Int32)) ∧ ((xs 2) = (1 : Int32)) ∧ ((xs 3) = (4 : Int32)) ∧ (rcmp 2 (xs 4) (0 : Int32) = false) ∧ (rcmp 4 (xs 4) (65536 : Int32) = true) ∧ True from ⟨h0, t1_2, t2_1, t3_4, b4, b5, t1_2, t2_1, t3_4, b4, (rg4t (by have z0 := ri2f b4; have z1 := ri5f b5; have y0 := li_0; have y1 := li_65536; omega)), trivial⟩)
      cases b3 : rcmp 2 (xs 3) (0 : Int32) with
      | true =>
        exact rOk_of rr748 (show ((rop 3 (xs 0) (31 : Int32)) = (17 : Int32)) ∧ ((xs 1) = (2 : Int32)) ∧ ((xs 2) = (1 : Int32)) ∧ (rcmp 2 (xs 3) (0 : Int32) = true) ∧ ((xs 1) = (2 : Int32)) ∧ ((xs 2) = (1 : Int32)) ∧ (rcmp 2 (xs 3) (0 : Int32) = true) ∧ True from ⟨h0, t1_2, t2_1, b3, t1_2, t2_1, b3, trivial⟩)
      | false =>
        exact rOk_of rr747 (show ((rop 3 (xs 0) (31 : Int32)) = (17 : Int32)) ∧ ((xs 1) = (2 : Int32)) ∧ ((xs 2) = (1 : Int32)) ∧ (rcmp 2 (xs 3) (0 : Int32) = false) ∧ (rcmp 4 (xs 3) (4 : Int32) = true) ∧ ((xs 1) = (2 : Int32)) ∧ ((xs 2) = (1 : Int32)) ∧ (rcmp 2 (xs 3) (0 : Int32) = false) ∧ (rcmp 4 (xs 3) (4 : Int32) = true) ∧ True from ⟨h0, t1_2, t2_1, b3, (rg4t (by have z0 := rine t3_0; have z1 := rine t3_1; have z2 := rine t3_2; have z3 := rine t3_3; have z4 := rine t3_4; have z5 := ri2f b3; have y0 := li_0; have y1 := li_1; have y2 := li_2; have y3 := li_3; have y4 := li_4; omega)), t1_2, t2_1, b3, (rg4t (by have z0 := rine t3_0; have z1 := rine t3_1; have z2 := rine t3_2; have z3 := rine t3_3; have z4 := rine t3_4; have z5 := ri2f b3; have y0 := li_0; have y1 := li_1; have y2 := li_2; have y3 := li_3; have y4 := li_4; omega)), trivial⟩)
    by_cases t2_2 : (xs 2) = (2 : Int32)
    · by_cases t3_0 : (xs 3) = (0 : Int32)
      · cases b4 : rcmp 2 (xs 4) (0 : Int32) with
        | true =>
          exact rOk_of rr768 (show ((rop 3 (xs 0) (31 : Int32)) = (17 : Int32)) ∧ ((xs 1) = (2 : Int32)) ∧ ((xs 2) = (2 : Int32)) ∧ ((xs 3) = (0 : Int32)) ∧ (rcmp 2 (xs 4) (0 : Int32) = true) ∧ ((xs 1) = (2 : Int32)) ∧ ((xs 2) = (2 : Int32)) ∧ ((xs 3) = (0 : Int32)) ∧ (rcmp 2 (xs 4) (0 : Int32) = true) ∧ True from ⟨h0, t1_2, t2_2, t3_0, b4, t1_2, t2_2, t3_0, b4, trivial⟩)
        | false =>
          cases b5 : rcmp 5 (xs 4) (65536 : Int32) with
          | true =>
            exact rOk_of rr767 (show ((rop 3 (xs 0) (31 : Int32)) = (17 : Int32)) ∧ ((xs 1) = (2 : Int32)) ∧ ((xs 2) = (2 : Int32)) ∧ ((xs 3) = (0 : Int32)) ∧ (rcmp 2 (xs 4) (0 : Int32) = false) ∧ (rcmp 5 (xs 4) (65536 : Int32) = true) ∧ ((xs 1) = (2 : Int32)) ∧ ((xs 2) = (2 : Int32)) ∧ ((xs 3) = (0 : Int32)) ∧ (rcmp 2 (xs 4) (0 : Int32) = false) ∧ (rcmp 4 (xs 4) (65536 : Int32) = false) ∧ (rcmp 2 (xs 4) (0 : Int32) = false) ∧ (rcmp 5 (xs 4) (65536 : Int32) = true) ∧ True from ⟨h0, t1_2, t2_2, t3_0, b4, b5, t1_2, t2_2, t3_0, b4, (rg4f (by have z0 := ri2f b4; have z1 := ri5t b5; have y0 := li_0; have y1 := li_65536; omega)), b4, b5, trivial⟩)
          | false =>
            exact rOk_of rr766 (show ((rop 3 (xs 0) (31 : Int32)) = (17 : Int32)) ∧ ((xs 1) = (2 : Int32)) ∧ ((xs 2) = (2 : Int32)) ∧ ((xs 3) = (0 : Int32)) ∧ (rcmp 2 (xs 4) (0 : Int32) = false) ∧ (rcmp 5 (xs 4) (65536 : Int32) = false) ∧ ((xs 1) = (2 : Int32)) ∧ ((xs 2) = (2 : Int32)) ∧ ((xs 3) = (0 : Int32)) ∧ (rcmp 2 (xs 4) (0 : Int32) = false) ∧ (rcmp 4 (xs 4) (65536 : Int32) = true) ∧ True from ⟨h0, t1_2, t2_2, t3_0, b4, b5, t1_2, t2_2, t3_0, b4, (rg4t (by have z0 := ri2f b4; have z1 := ri5f b5; have y0 := li_0; have y1 := li_65536; omega)), trivial⟩)
      by_cases t3_1 : (xs 3) = (1 : Int32)
      · cases b4 : rcmp 2 (xs 4) (0 : Int32) with
        | true =>
          exact rOk_of rr771 (show ((rop 3 (xs 0) (31 : Int32)) = (17 : Int32)) ∧ ((xs 1) = (2 : Int32)) ∧ ((xs 2) = (2 : Int32)) ∧ ((xs 3) = (1 : Int32)) ∧ (rcmp 2 (xs 4) (0 : Int32) = true) ∧ ((xs 1) = (2 : Int32)) ∧ ((xs 2) = (2 : Int32)) ∧ ((xs 3) = (1 : Int32)) ∧ (rcmp 2 (xs 4) (0 : Int32) = true) ∧ True from ⟨h0, t1_2, t2_2, t3_1, b4, t1_2, t2_2, t3_1, b4, trivial⟩)
        | false =>
          cases b5 : rcmp 5 (xs 4) (65536 : Int32) with
          | true =>
            exact rOk_of rr770 (show ((rop 3 (xs 0) (31 : Int32)) = (17 : Int32)) ∧ ((xs 1) = (2 : Int32)) ∧ ((xs 2) = (2 : Int32)) ∧ ((xs 3) = (1 : Int32)) ∧ (rcmp 2 (xs 4) (0 : Int32) = false) ∧ (rcmp 5 (xs 4) (65536 : Int32) = true) ∧ ((xs 1) = (2 : Int32)) ∧ ((xs 2) = (2 : Int32)) ∧ ((xs 3) = (1 : Int32)) ∧ (rcmp 2 (xs 4) (0 : Int32) = false) ∧ (rcmp 4 (xs 4) (65536 : Int32) = false) ∧ (rcmp 2 (xs 4) (0 : Int32) = false) ∧ (rcmp 5 (xs 4) (65536 : Int32) = true) ∧ True from ⟨h0, t1_2, t2_2, t3_1, b4, b5, t1_2, t2_2, t3_1, b4, (rg4f (by have z0 := ri2f b4; have z1 := ri5t b5; have y0 := li_0; have y1 := li_65536; omega)), b4, b5, trivial⟩)
          | false =>
            exact rOk_of rr769 (show ((rop 3 (xs 0) (31 : Int32)) = (17 : Int32)) ∧ ((xs 1) = (2 : Int32)) ∧ ((xs 2) = (2 : Int32)) ∧ ((xs 3) = (1 : Int32)) ∧ (rcmp 2 (xs 4) (0 : Int32) = false) ∧ (rcmp 5 (xs 4) (65536 : Int32) = false) ∧ ((xs 1) = (2 : Int32)) ∧ ((xs 2) = (2 : Int32)) ∧ ((xs 3) = (1 : Int32)) ∧ (rcmp 2 (xs 4) (0 : Int32) = false) ∧ (rcmp 4 (xs 4) (65536 : Int32) = true) ∧ True from ⟨h0, t1_2, t2_2, t3_1, b4, b5, t1_2, t2_2, t3_1, b4, (rg4t (by have z0 := ri2f b4; have z1 := ri5f b5; have y0 := li_0; have y1 := li_65536; omega)), trivial⟩)
      by_cases t3_2 : (xs 3) = (2 : Int32)
      · cases b4 : rcmp 2 (xs 4) (0 : Int32) with
        | true =>
          exact rOk_of rr774 (show ((rop 3 (xs 0) (31 : Int32)) = (17 : Int32)) ∧ ((xs 1) = (2 : Int32)) ∧ ((xs 2) = (2 : Int32)) ∧ ((xs 3) = (2 : Int32)) ∧ (rcmp 2 (xs 4) (0 : Int32) = true) ∧ ((xs 1) = (2 : Int32)) ∧ ((xs 2) = (2 : Int32)) ∧ ((xs 3) = (2 : Int32)) ∧ (rcmp 2 (xs 4) (0 : Int32) = true) ∧ True from ⟨h0, t1_2, t2_2, t3_2, b4, t1_2, t2_2, t3_2, b4, trivial⟩)
        | false =>
          cases b5 : rcmp 5 (xs 4) (65536 : Int32) with
          | true =>
            exact rOk_of rr773 (show ((rop 3 (xs 0) (31 : Int32)) = (17 : Int32)) ∧ ((xs 1) = (2 : Int32)) ∧ ((xs 2) = (2 : Int32)) ∧ ((xs 3) = (2 : Int32)) ∧ (rcmp 2 (xs 4) (0 : Int32) = false) ∧ (rcmp 5 (xs 4) (65536 : Int32) = true) ∧ ((xs 1) = (2 : Int32)) ∧ ((xs 2) = (2 : Int32)) ∧ ((xs 3) = (2 : Int32)) ∧ (rcmp 2 (xs 4) (0 : Int32) = false) ∧ (rcmp 4 (xs 4) (65536 : Int32) = false) ∧ True from ⟨h0, t1_2, t2_2, t3_2, b4, b5, t1_2, t2_2, t3_2, b4, (rg4f (by have z0 := ri2f b4; have z1 := ri5t b5; have y0 := li_0; have y1 := li_65536; omega)), trivial⟩)
          | false =>
            exact rOk_of rr772 (show ((rop 3 (xs 0) (31 : Int32)) = (17 : Int32)) ∧ ((xs 1) = (2 : Int32)) ∧ ((xs 2) = (2 : Int32)) ∧ ((xs 3) = (2 : Int32)) ∧ (rcmp 2 (xs 4) (0 : Int32) = false) ∧ (rcmp 5 (xs 4) (65536 : Int32) = false) ∧ ((xs 1) = (2 : Int32)) ∧ ((xs 2) = (2 : Int32)) ∧ ((xs 3) = (2 : Int32)) ∧ (rcmp 2 (xs 4) (0 : Int32) = false) ∧ (rcmp 4 (xs 4) (65536 : Int32) = true) ∧ True from ⟨h0, t1_2, t2_2, t3_2, b4, b5, t1_2, t2_2, t3_2, b4, (rg4t (by have z0 := ri2f b4; have z1 := ri5f b5; have y0 := li_0; have y1 := li_65536; omega)), trivial⟩)
      by_cases t3_3 : (xs 3) = (3 : Int32)
      · cases b4 : rcmp 2 (xs 4) (0 : Int32) with
        | true =>
          exact rOk_of rr777 (show ((rop 3 (xs 0) (31 : Int32)) = (17 : Int32)) ∧ ((xs 1) = (2 : Int32)) ∧ ((xs 2) = (2 : Int32)) ∧ ((xs 3) = (3 : Int32)) ∧ (rcmp 2 (xs 4) (0 : Int32) = true) ∧ ((xs 1) = (2 : Int32)) ∧ ((xs 2) = (2 : Int32)) ∧ ((xs 3) = (3 : Int32)) ∧ (rcmp 2 (xs 4) (0 : Int32) = true) ∧ True from ⟨h0, t1_2, t2_2, t3_3, b4, t1_2, t2_2, t3_3, b4, trivial⟩)
        | false =>
          cases b5 : rcmp 5 (xs 4) (65536 : Int32) with
          | true =>
            exact rOk_of rr776 (show ((rop 3 (xs 0) (31 : Int32)) = (17 : Int32)) ∧ ((xs 1) = (2 : Int32)) ∧ ((xs 2) = (2 : Int32)) ∧ ((xs 3) = (3 : Int32)) ∧ (rcmp 2 (xs 4) (0 : Int32) = false) ∧ (rcmp 5 (xs 4) (65536 : Int32) = true) ∧ ((xs 1) = (2 : Int32)) ∧ ((xs 2) = (2 : Int32)) ∧ ((xs 3) = (3 : Int32)) ∧ (rcmp 2 (xs 4) (0 : Int32) = false) ∧ (rcmp 4 (xs 4) (65536 : Int32) = false) ∧ True from ⟨h0, t1_2, t2_2, t3_3, b4, b5, t1_2, t2_2, t3_3, b4, (rg4f (by have z0 := ri2f b4; have z1 := ri5t b5; have y0 := li_0; have y1 := li_65536; omega)), trivial⟩)
          | false =>
            exact rOk_of rr775 (show ((rop 3 (xs 0) (31 : Int32)) = (17 : Int32)) ∧ ((xs 1) = (2 : Int32)) ∧ ((xs 2) = (2 : Int32)) ∧ ((xs 3) = (3 : Int32)) ∧ (rcmp 2 (xs 4) (0 : Int32) = false) ∧ (rcmp 5 (xs 4) (65536 : Int32) = false) ∧ ((xs 1) = (2 : Int32)) ∧ ((xs 2) = (2 : Int32)) ∧ ((xs 3) = (3 : Int32)) ∧ (rcmp 2 (xs 4) (0 : Int32) = false) ∧ (rcmp 4 (xs 4) (65536 : Int32) = true) ∧ True from ⟨h0, t1_2, t2_2, t3_3, b4, b5, t1_2, t2_2, t3_3, b4, (rg4t (by have z0 := ri2f b4; have z1 := ri5f b5; have y0 := li_0; have y1 := li_65536; omega)), trivial⟩)
      by_cases t3_4 : (xs 3) = (4 : Int32)
      · cases b4 : rcmp 2 (xs 4) (0 : Int32) with
        | true =>
          exact rOk_of rr780 (show ((rop 3 (xs 0) (31 : Int32)) = (17 : Int32)) ∧ ((xs 1) = (2 : Int32)) ∧ ((xs 2) = (2 : Int32)) ∧ ((xs 3) = (4 : Int32)) ∧ (rcmp 2 (xs 4) (0 : Int32) = true) ∧ ((xs 1) = (2 : Int32)) ∧ ((xs 2) = (2 : Int32)) ∧ ((xs 3) = (4 : Int32)) ∧ (rcmp 2 (xs 4) (0 : Int32) = true) ∧ True from ⟨h0, t1_2, t2_2, t3_4, b4, t1_2, t2_2, t3_4, b4, trivial⟩)
        | false =>
          cases b5 : rcmp 5 (xs 4) (65536 : Int32) with
          | true =>
            exact rOk_of rr779 (show ((rop 3 (xs 0) (31 : Int32)) = (17 : Int32)) ∧ ((xs 1) = (2 : Int32)) ∧ ((xs 2) = (2 : Int32)) ∧ ((xs 3) = (4 : Int32)) ∧ (rcmp 2 (xs 4) (0 : Int32) = false) ∧ (rcmp 5 (xs 4) (65536 : Int32) = true) ∧ ((xs 1) = (2 : Int32)) ∧ ((xs 2) = (2 : Int32)) ∧ ((xs 3) = (4 : Int32)) ∧ (rcmp 2 (xs 4) (0 : Int32) = false) ∧ (rcmp 4 (xs 4) (65536 : Int32) = false) ∧ True from ⟨h0, t1_2, t2_2, t3_4, b4, b5, t1_2, t2_2, t3_4, b4, (rg4f (by have z0 := ri2f b4; have z1 := ri5t b5; have y0 := li_0; have y1 := li_65536; omega)), trivial⟩)
          | false =>
            exact rOk_of rr778 (show ((rop 3 (xs 0) (31 : Int32)) = (17 : Int32)) ∧ ((xs 1) = (2 : Int32)) ∧ ((xs 2) = (2 : Int32)) ∧ ((xs 3) = (4 : Int32)) ∧ (rcmp 2 (xs 4) (0 : Int32) = false) ∧ (rcmp 5 (xs 4) (65536 : Int32) = false) ∧ ((xs 1) = (2 : Int32)) ∧ ((xs 2) = (2 : Int32)) ∧ ((xs 3) = (4 : Int32)) ∧ (rcmp 2 (xs 4) (0 : Int32) = false) ∧ (rcmp 4 (xs 4) (65536 : Int32) = true) ∧ True from ⟨h0, t1_2, t2_2, t3_4, b4, b5, t1_2, t2_2, t3_4, b4, (rg4t (by have z0 := ri2f b4; have z1 := ri5f b5; have y0 := li_0; have y1 := li_65536; omega)), trivial⟩)
      cases b3 : rcmp 2 (xs 3) (0 : Int32) with
      | true =>
        exact rOk_of rr765 (show ((rop 3 (xs 0) (31 : Int32)) = (17 : Int32)) ∧ ((xs 1) = (2 : Int32)) ∧ ((xs 2) = (2 : Int32)) ∧ (rcmp 2 (xs 3) (0 : Int32) = true) ∧ ((xs 1) = (2 : Int32)) ∧ ((xs 2) = (2 : Int32)) ∧ (rcmp 2 (xs 3) (0 : Int32) = true) ∧ True from ⟨h0, t1_2, t2_2, b3, t1_2, t2_2, b3, trivial⟩)
      | false =>
        exact rOk_of rr764 (show ((rop 3 (xs 0) (31 : Int32)) = (17 : Int32)) ∧ ((xs 1) = (2 : Int32)) ∧ ((xs 2) = (2 : Int32)) ∧ (rcmp 2 (xs 3) (0 : Int32) = false) ∧ (rcmp 4 (xs 3) (4 : Int32) = true) ∧ ((xs 1) = (2 : Int32)) ∧ ((xs 2) = (2 : Int32)) ∧ (rcmp 2 (xs 3) (0 : Int32) = false) ∧ (rcmp 4 (xs 3) (4 : Int32) = true) ∧ True from ⟨h0, t1_2, t2_2, b3, (rg4t (by have z0 := rine t3_0; have z1 := rine t3_1; have z2 := rine t3_2; have z3 := rine t3_3; have z4 := rine t3_4; have z5 := ri2f b3; have y0 := li_0; have y1 := li_1; have y2 := li_2; have y3 := li_3; have y4 := li_4; omega)), t1_2, t2_2, b3, (rg4t (by have z0 := rine t3_0; have z1 := rine t3_1; have z2 := rine t3_2; have z3 := rine t3_3; have z4 := rine t3_4; have z5 := ri2f b3; have y0 := li_0; have y1 := li_1; have y2 := li_2; have y3 := li_3; have y4 := li_4; omega)), trivial⟩)
    by_cases t2_3 : (xs 2) = (3 : Int32)
    · by_cases t3_0 : (xs 3) = (0 : Int32)
      · cases b4 : rcmp 2 (xs 4) (0 : Int32) with
        | true =>
          exact rOk_of rr785 (show ((rop 3 (xs 0) (31 : Int32)) = (17 : Int32)) ∧ ((xs 1) = (2 : Int32)) ∧ ((xs 2) = (3 : Int32)) ∧ ((xs 3) = (0 : Int32)) ∧ (rcmp 2 (xs 4) (0 : Int32) = true) ∧ ((xs 1) = (2 : Int32)) ∧ ((xs 2) = (3 : Int32)) ∧ ((xs 3) = (0 : Int32)) ∧ (rcmp 2 (xs 4) (0 : Int32) = true) ∧ True from ⟨h0, t1_2, t2_3, t3_0, b4, t1_2, t2_3, t3_0, b4, trivial⟩)
        | false =>
          cases b5 : rcmp 5 (xs 4) (65536 : Int32) with
          | true =>
            exact rOk_of rr784 (show ((rop 3 (xs 0) (31 : Int32)) = (17 : Int32)) ∧ ((xs 1) = (2 : Int32)) ∧ ((xs 2) = (3 : Int32)) ∧ ((xs 3) = (0 : Int32)) ∧ (rcmp 2 (xs 4) (0 : Int32) = false) ∧ (rcmp 5 (xs 4) (65536 : Int32) = true) ∧ ((xs 1) = (2 : Int32)) ∧ ((xs 2) = (3 : Int32)) ∧ ((xs 3) = (0 : Int32)) ∧ (rcmp 2 (xs 4) (0 : Int32) = false) ∧ (rcmp 4 (xs 4) (65536 : Int32) = false) ∧ (rcmp 2 (xs 4) (0 : Int32) = false) ∧ (rcmp 5 (xs 4) (65536 : Int32) = true) ∧ True from ⟨h0, t1_2, t2_3, t3_0, b4, b5, t1_2, t2_3, t3_0, b4, (rg4f (by have z0 := ri2f b4; have z1 := ri5t b5; have y0 := li_0; have y1 := li_65536; omega)), b4, b5, trivial⟩)
          | false =>
            exact rOk_of rr783 (show ((rop 3 (xs 0) (31 : Int32)) = (17 : Int32)) ∧ ((xs 1) = (2 : Int32)) ∧ ((xs 2) = (3 : Int32)) ∧ ((xs 3) = (0 : Int32)) ∧ (rcmp 2 (xs 4) (0 : Int32) = false) ∧ (rcmp 5 (xs 4) (65536 : Int32) = false) ∧ ((xs 1) = (2 : Int32)) ∧ ((xs 2) = (3 : Int32)) ∧ ((xs 3) = (0 : Int32)) ∧ (rcmp 2 (xs 4) (0 : Int32) = false) ∧ (rcmp 4 (xs 4) (65536 : Int32) = true) ∧ True from ⟨h0, t1_2, t2_3, t3_0, b4, b5, t1_2, t2_3, t3_0, b4, (rg4t (by have z0 := ri2f b4; have z1 := ri5f b5; have y0 := li_0; have y1 := li_65536; omega)), trivial⟩)
      by_cases t3_1 : (xs 3) = (1 : Int32)
      · cases b4 : rcmp 2 (xs 4) (0 : Int32) with
        | true =>
          exact rOk_of rr788 (show ((rop 3 (xs 0) (31 : Int32)) = (17 : Int32)) ∧ ((xs 1) = (2 : Int32)) ∧ ((xs 2) = (3 : Int32)) ∧ ((xs 3) = (1 : Int32)) ∧ (rcmp 2 (xs 4) (0 : Int32) = true) ∧ ((xs 1) = (2 : Int32)) ∧ ((xs 2) = (3 : Int32)) ∧ ((xs 3) = (1 : Int32)) ∧ (rcmp 2 (xs 4) (0 : Int32) = true) ∧ True from ⟨h0, t1_2, t2_3, t3_1, b4, t1_2, t2_3, t3_1, b4, trivial⟩)
        | false =>
          cases b5 : rcmp 5 (xs 4) (65536 : Int32) with
          | true =>
            exact rOk_of rr787 (show ((rop 3 (xs 0) (31 : Int32)) = (17 : Int32)) ∧ ((xs 1) = (2 : Int32)) ∧ ((xs 2) = (3 : Int32)) ∧ ((xs 3) = (1 : Int32)) ∧ (rcmp 2 (xs 4) (0 : Int32) = false) ∧ (rcmp 5 (xs 4) (65536 : Int32) = true) ∧ ((xs 1) = (2 : Int32)) ∧ ((xs 2) = (3 : Int32)) ∧ ((xs 3) = (1 : Int32)) ∧ (rcmp 2 (xs 4) (0 : Int32) = false) ∧ (rcmp 4 (xs 4) (65536 : Int32) = false) ∧ (rcmp 2 (xs 4) (0 : Int32) = false) ∧ (rcmp 5 (xs 4) (65536 : Int32) = true) ∧ True from ⟨h0, t1_2, t2_3, t3_1, b4, b5, t1_2, t2_3, t3_1, b4, (rg4f (by have z0 := ri2f b4; have z1 := ri5t b5; have y0 := li_0; have y1 := li_65536; omega)), b4, b5, trivial⟩)
          | false =>
            exact rOk_of rr786 (show ((rop 3 (xs 0) (31 : Int32)) = (17 : Int32)) ∧ ((xs 1) = (2 : Int32)) ∧ ((xs 2) = (3 : Int32)) ∧ ((xs 3) = (1 : Int32)) ∧ (rcmp 2 (xs 4) (0 : Int32) = false) ∧ (rcmp 5 (xs 4) (65536 : Int32) = false) ∧ ((xs 1) = (2 : Int32)) ∧ ((xs 2) = (3 : Int32)) ∧ ((xs 3) = (1 : Int32)) ∧ (rcmp 2 (xs 4) (0 : Int32) = false) ∧ (rcmp 4 (xs 4) (65536 : Int32) = true) ∧ True from ⟨h0, t1_2, t2_3, t3_1, b4, b5, t1_2, t2_3, t3_1, b4, (rg4t (by have z0 := ri2f b4; have z1 := ri5f b5; have y0 := li_0; have y1 := li_65536; omega)), trivial⟩)
      by_cases t3_2 : (xs 3) = (2 : Int32)
      · cases b4 : rcmp 2 (xs 4) (0 : Int32) with
        | true =>
          exact rOk_of rr791 (show ((rop 3 (xs 0) (31 : Int32)) = (17 : Int32)) ∧ ((xs 1) = (2 : Int32)) ∧ ((xs 2) = (3 : Int32)) ∧ ((xs 3) = (2 : Int32)) ∧ (rcmp 2 (xs 4) (0 : Int32) = true) ∧ ((xs 1) = (2 : Int32)) ∧ ((xs 2) = (3 : Int32)) ∧ ((xs 3) = (2 : Int32)) ∧ (rcmp 2 (xs 4) (0 : Int32) = true) ∧ True from ⟨h0, t1_2, t2_3, t3_2, b4, t1_2, t2_3, t3_2, b4, trivial⟩)
        | false =>
          cases b5 : rcmp 5 (xs 4) (65536 : Int32) with
          | true =>
            exact rOk_of rr790 (show ((rop 3 (xs 0) (31 : Int32)) = (17 : Int32)) ∧ ((xs 1) = (2 : Int32)) ∧ ((xs 2) = (3 : Int32)) ∧ ((xs 3) = (2 : Int32)) ∧ (rcmp 2 (xs 4) (0 : Int32) = false) ∧ (rcmp 5 (xs 4) (65536 : Int32) = true) ∧ ((xs 1) = (2 : Int32)) ∧ ((xs 2) = (3 : Int32)) ∧ ((xs 3) = (2 : Int32)) ∧ (rcmp 2 (xs 4) (0 : Int32) = false) ∧ (rcmp 4 (xs 4) (65536 : Int32) = false) ∧ True from ⟨h0, t1_2, t2_3, t3_2, b4, b5, t1_2, t2_3, t3_2, b4, (rg4f (by have z0 := ri2f b4; have z1 := ri5t b5; have y0 := li_0; have y1 := li_65536; omega)), trivial⟩)
          | false =>
            exact rOk_of rr789 (show ((rop 3 (xs 0) (31 : Int32)) = (17 : Int32)) ∧ ((xs 1) = (2 : Int32)) ∧ ((xs 2) = (3 : Int32)) ∧ ((xs 3) = (2 : Int32)) ∧ (rcmp 2 (xs 4) (0 : Int32) = false) ∧ (rcmp 5 (xs 4) (65536 : Int32) = false) ∧ ((xs 1) = (2 : Int32)) ∧ ((xs 2) = (3 : Int32)) ∧ ((xs 3) = (2 : Int32)) ∧ (rcmp 2 (xs 4) (0 : Int32) = false) ∧ (rcmp 4 (xs 4) (65536 : Int32) = true) ∧ True from ⟨h0, t1_2, t2_3, t3_2, b4, b5, t1_2, t2_3, t3_2, b4, (rg4t (by have z0 := ri2f b4; have z1 := ri5f b5; have y0 := li_0; have y1 := li_65536; omega)), trivial⟩)
      by_cases t3_3 : (xs 3) = (3 : Int32)
      · cases b4 : rcmp 2 (xs 4) (0 : Int32) with
        | true =>
          exact rOk_of rr794 (show ((rop 3 (xs 0) (31 : Int32)) = (17 : Int32)) ∧ ((xs 1) = (2 : Int32)) ∧ ((xs 2) = (3 : Int32)) ∧ ((xs 3) = (3 : Int32)) ∧ (rcmp 2 (xs 4) (0 : Int32) = true) ∧ ((xs 1) = (2 : Int32)) ∧ ((xs 2) = (3 : Int32)) ∧ ((xs 3) = (3 : Int32)) ∧ (rcmp 2 (xs 4) (0 : Int32) = true) ∧ True from ⟨h0, t1_2, t2_3, t3_3, b4, t1_2, t2_3, t3_3, b4, trivial⟩)
        | false =>
          cases b5 : rcmp 5 (xs 4) (65536 : Int32) with
          | true =>
            exact rOk_of rr793 (show ((rop 3 (xs 0) (31 : Int32)) = (17 : Int32)) ∧ ((xs 1) = (2 : Int32)) ∧ ((xs 2) = (3 : Int32)) ∧ ((xs 3) = (3 : Int32)) ∧ (rcmp 2 (xs 4) (0 : Int32) = false) ∧ (rcmp 5 (xs 4) (65536 : Int32) = true) ∧ ((xs 1) = (2 : Int32)) ∧ ((xs 2) = (3 : Int32)) ∧ ((xs 3) = (3 : Int32)) ∧ (rcmp 2 (xs 4) (0 : Int32) = false) ∧ (rcmp 4 (xs 4) (65536 : Int32) = false) ∧ True from ⟨h0, t1_2, t2_3, t3_3, b4, b5, t1_2, t2_3, t3_3, b4, (rg4f (by have z0 := ri2f b4; have z1 := ri5t b5; have y0 := li_0; have y1 := li_65536; omega)), trivial⟩)
          | false =>
            exact rOk_of rr792 (show ((rop 3 (xs 0) (31 : Int32)) = (17 : Int32)) ∧ ((xs 1) = (2 : Int32)) ∧ ((xs 2) = (3 : Int32)) ∧ ((xs 3) = (3 : Int32)) ∧ (rcmp 2 (xs 4) (0 : Int32) = false) ∧ (rcmp 5 (xs 4) (65536 : Int32) = false) ∧ ((xs 1) = (2 : Int32)) ∧ ((xs 2) = (3 : Int32)) ∧ ((xs 3) = (3 : Int32)) ∧ (rcmp 2 (xs 4) (0 : Int32) = false) ∧ (rcmp 4 (xs 4) (65536 : Int32) = true) ∧ True from ⟨h0, t1_2, t2_3, t3_3, b4, b5, t1_2, t2_3, t3_3, b4, (rg4t (by have z0 := ri2f b4; have z1 := ri5f b5; have y0 := li_0; have y1 := li_65536; omega)), trivial⟩)
      by_cases t3_4 : (xs 3) = (4 : Int32)
      · cases b4 : rcmp 2 (xs 4) (0 : Int32) with
        | true =>
          exact rOk_of rr797 (show ((rop 3 (xs 0) (31 : Int32)) = (17 : Int32)) ∧ ((xs 1) = (2 : Int32)) ∧ ((xs 2) = (3 : Int32)) ∧ ((xs 3) = (4 : Int32)) ∧ (rcmp 2 (xs 4) (0 : Int32) = true) ∧ ((xs 1) = (2 : Int32)) ∧ ((xs 2) = (3 : Int32)) ∧ ((xs 3) = (4 : Int32)) ∧ (rcmp 2 (xs 4) (0 : Int32) = true) ∧ True from ⟨h0, t1_2, t2_3, t3_4, b4, t1_2, t2_3, t3_4, b4, trivial⟩)
        | false =>
          cases b5 : rcmp 5 (xs 4) (65536 : Int32) with
          | true =>
            exact rOk_of rr796 (show ((rop 3 (xs 0) (31 : Int32)) = (17 : Int32)) ∧ ((xs 1) = (2 : Int32)) ∧ ((xs 2) = (3 : Int32)) ∧ ((xs 3) = (4 : Int32)) ∧ (rcmp 2 (xs 4) (0 : Int32) = false) ∧ (rcmp 5 (xs 4) (65536 : Int32) = true) ∧ ((xs 1) = (2 : Int32)) ∧ ((xs 2) = (3 : Int32)) ∧ ((xs 3) = (4 : Int32)) ∧ (rcmp 2 (xs 4) (0 : Int32) = false) ∧ (rcmp 4 (xs 4) (65536 : Int32) = false) ∧ True from ⟨h0, t1_2, t2_3, t3_4, b4, b5, t1_2, t2_3, t3_4, b4, (rg4f (by have z0 := ri2f b4; have z1 := ri5t b5; have y0 := li_0; have y1 := li_65536; omega)), trivial⟩)
          | false =>
            exact rOk_of rr795 (show ((rop 3 (xs 0) (31 : Int32)) = (17 : Int32)) ∧ ((xs 1) = (2 : Int32)) ∧ ((xs 2) = (3 : Int32)) ∧ ((xs 3) = (4 : Int32)) ∧ (rcmp 2 (xs 4) (0 : Int32) = false) ∧ (rcmp 5 (xs 4) (65536 : Int32) = false) ∧ ((xs 1) = (2 : Int32)) ∧ ((xs 2) = (3 : Int32)) ∧ ((xs 3) = (4 : Int32)) ∧ (rcmp 2 (xs 4) (0 : Int32) = false) ∧ (rcmp 4 (xs 4) (65536 : Int32) = true) ∧ True from ⟨h0, t1_2, t2_3, t3_4, b4, b5, t1_2, t2_3, t3_4, b4, (rg4t (by have z0 := ri2f b4; have z1 := ri5f b5; have y0 := li_0; have y1 := li_65536; omega)), trivial⟩)
      cases b3 : rcmp 2 (xs 3) (0 : Int32) with
      | true =>
        exact rOk_of rr782 (show ((rop 3 (xs 0) (31 : Int32)) = (17 : Int32)) ∧ ((xs 1) = (2 : Int32)) ∧ ((xs 2) = (3 : Int32)) ∧ (rcmp 2 (xs 3) (0 : Int32) = true) ∧ ((xs 1) = (2 : Int32)) ∧ ((xs 2) = (3 : Int32)) ∧ (rcmp 2 (xs 3) (0 : Int32) = true) ∧ True from ⟨h0, t1_2, t2_3, b3, t1_2, t2_3, b3, trivial⟩)
      | false =>
        exact rOk_of rr781 (show ((rop 3 (xs 0) (31 : Int32)) = (17 : Int32)) ∧ ((xs 1) = (2 : Int32)) ∧ ((xs 2) = (3 : Int32)) ∧ (rcmp 2 (xs 3) (0 : Int32) = false) ∧ (rcmp 4 (xs 3) (4 : Int32) = true) ∧ ((xs 1) = (2 : Int32)) ∧ ((xs 2) = (3 : Int32)) ∧ (rcmp 2 (xs 3) (0 : Int32) = false) ∧ (rcmp 4 (xs 3) (4 : Int32) = true) ∧ True from ⟨h0, t1_2, t2_3, b3, (rg4t (by have z0 := rine t3_0; have z1 := rine t3_1; have z2 := rine t3_2; have z3 := rine t3_3; have z4 := rine t3_4; have z5 := ri2f b3; have y0 := li_0; have y1 := li_1; have y2 := li_2; have y3 := li_3; have y4 := li_4; omega)), t1_2, t2_3, b3, (rg4t (by have z0 := rine t3_0; have z1 := rine t3_1; have z2 := rine t3_2; have z3 := rine t3_3; have z4 := rine t3_4; have z5 := ri2f b3; have y0 := li_0; have y1 := li_1; have y2 := li_2; have y3 := li_3; have y4 := li_4; omega)), trivial⟩)
    cases b2 : rcmp 2 (xs 2) (0 : Int32) with
    | true =>
      exact rOk_of rr729 (show ((rop 3 (xs 0) (31 : Int32)) = (17 : Int32)) ∧ ((xs 1) = (2 : Int32)) ∧ (rcmp 2 (xs 2) (0 : Int32) = true) ∧ ((xs 1) = (2 : Int32)) ∧ (rcmp 2 (xs 2) (0 : Int32) = true) ∧ True from ⟨h0, t1_2, b2, t1_2, b2, trivial⟩)
    | false =>
      exact rOk_of rr728 (show ((rop 3 (xs 0) (31 : Int32)) = (17 : Int32)) ∧ ((xs 1) = (2 : Int32)) ∧ (rcmp 2 (xs 2) (0 : Int32) = false) ∧ (rcmp 4 (xs 2) (3 : Int32) = true) ∧ ((xs 1) = (2 : Int32)) ∧ (rcmp 2 (xs 2) (0 : Int32) = false) ∧ (rcmp 3 (xs 2) (4 : Int32) = true) ∧ True from ⟨h0, t1_2, b2, (rg4t (by have z0 := rine t2_0; have z1 := rine t2_1; have z2 := rine t2_2; have z3 := rine t2_3; have z4 := ri2f b2; have y0 := li_0; have y1 := li_1; have y2 := li_2; have y3 := li_3; omega)), t1_2, b2, (rg3t (by have z0 := rine t2_0; have z1 := rine t2_1; have z2 := rine t2_2; have z3 := rine t2_3; have z4 := ri2f b2; have y0 := li_0; have y1 := li_1; have y2 := li_2; have y3 := li_3; have y4 := li_4; omega)), trivial⟩)
  by_cases t1_3 : (xs 1) = (3 : Int32)
  · by_cases t2_0 : (xs 2) = (0 : Int32)
    · by_cases t3_0 : (xs 3) = (0 : Int32)
      · cases b4 : rcmp 2 (xs 4) (0 : Int32) with
        | true =>
          exact rOk_of rr804 (show ((rop 3 (xs 0) (31 : Int32)) = (17 : Int32)) ∧ ((xs 1) = (3 : Int32)) ∧ ((xs 2) = (0 : Int32)) ∧ ((xs 3) = (0 : Int32)) ∧ (rcmp 2 (xs 4) (0 : Int32) = true) ∧ ((xs 1) = (3 : Int32)) ∧ ((xs 2) = (0 : Int32)) ∧ ((xs 3) = (0 : Int32)) ∧ (rcmp 2 (xs 4) (0 : Int32) = true) ∧ True from ⟨h0, t1_3, t2_0, t3_0, b4, t1_3, t2_0, t3_0, b4, trivial⟩)
        | false =>
          cases b5 : rcmp 5 (xs 4) (65536 : Int32) with
          | true =>
            exact rOk_of rr803 (show ((rop 3 (xs 0) (31 : Int32)) = (17 : Int32)) ∧ ((xs 1) = (3 : Int32)) ∧ ((xs 2) = (0 : Int32)) ∧ ((xs 3) = (0 : Int32)) ∧ (rcmp 2 (xs 4) (0 : Int32) = false) ∧ (rcmp 5 (xs 4) (65536 : Int32) = true) ∧ ((xs 1) = (3 : Int32)) ∧ ((xs 2) = (0 : Int32)) ∧ ((xs 3) = (0 : Int32)) ∧ (rcmp 2 (xs 4) (0 : Int32) = false) ∧ (rcmp 4 (xs 4) (65536 : Int32) = false) ∧ (rcmp 2 (xs 4) (0 : Int32) = false) ∧ (rcmp 5 (xs 4) (65536 : Int32) = true) ∧ True from ⟨h0, t1_3, t2_0, t3_0, b4, b5, t1_3, t2_0, t3_0, b4, (rg4f (by have z0 := ri2f b4; have z1 := ri5t b5; have y0 := li_0; have y1 := li_65536; omega)), b4, b5, trivial⟩)
          | false =>
            exact rOk_of rr802 (show ((rop 3 (xs 0) (31 : Int32)) = (17 : Int32)) ∧ ((xs 1) = (3 : Int32)) ∧ ((xs 2) = (0 : Int32)) ∧ ((xs 3) = (0 : Int32)) ∧ (rcmp 2 (xs 4) (0 : Int32) = false) ∧ (rcmp 5 (xs 4) (65536 : Int32) = false) ∧ ((xs 1) = (3 : Int32)) ∧ ((xs 2) = (0 : Int32)) ∧ ((xs 3) = (0 : Int32)) ∧ (rcmp 2 (xs 4) (0 : Int32) = false) ∧ (rcmp 4 (xs 4) (65536 : Int32) = true) ∧ True from ⟨h0, t1_3, t2_0, t3_0, b4, b5, t1_3, t2_0, t3_0, b4, (rg4t (by have z0 := ri2f b4; have z1 := ri5f b5; have y0 := li_0; have y1 := li_65536; omega)), trivial⟩)
      by_cases t3_1 : (xs 3) = (1 : Int32)
      · cases b4 : rcmp 2 (xs 4) (0 : Int32) with
        | true =>
          exact rOk_of rr807 (show ((rop 3 (xs 0) (31 : Int32)) = (17 : Int32)) ∧ ((xs 1) = (3 : Int32)) ∧ ((xs 2) = (0 : Int32)) ∧ ((xs 3) = (1 : Int32)) ∧ (rcmp 2 (xs 4) (0 : Int32) = true) ∧ ((xs 1) = (3 : Int32)) ∧ ((xs 2) = (0 : Int32)) ∧ ((xs 3) = (1 : Int32)) ∧ (rcmp 2 (xs 4) (0 : Int32) = true) ∧ True from ⟨h0, t1_3, t2_0, t3_1, b4, t1_3, t2_0, t3_1, b4, trivial⟩)
        | false =>
          cases b5 : rcmp 5 (xs 4) (65536 : Int32) with
          | true =>
            exact rOk_of rr806 (show ((rop 3 (xs 0) (31 : Int32)) = (17 : Int32)) ∧ ((xs 1) = (3 : Int32)) ∧ ((xs 2) = (0 : Int32)) ∧ ((xs 3) = (1 : Int32)) ∧ (rcmp 2 (xs 4) (0 : Int32) = false) ∧ (rcmp 5 (xs 4) (65536 : Int32) = true) ∧ ((xs 1) = (3 : Int32)) ∧ ((xs 2) = (0 : Int32)) ∧ ((xs 3) = (1 : Int32)) ∧ (rcmp 2 (xs 4) (0 : Int32) = false) ∧ (rcmp 4 (xs 4) (65536 : Int32) = false) ∧ (rcmp 2 (xs 4) (0 : Int32) = false) ∧ (rcmp 5 (xs 4) (65536 : Int32) = true) ∧ True from ⟨h0, t1_3, t2_0, t3_1, b4, b5, t1_3, t2_0, t3_1, b4, (rg4f (by have z0 := ri2f b4; have z1 := ri5t b5; have y0 := li_0; have y1 := li_65536; omega)), b4, b5, trivial⟩)
          | false =>
            exact rOk_of rr805 (show ((rop 3 (xs 0) (31 : Int32)) = (17 : Int32)) ∧ ((xs 1) = (3 : Int32)) ∧ ((xs 2) = (0 : Int32)) ∧ ((xs 3) = (1 : Int32)) ∧ (rcmp 2 (xs 4) (0 : Int32) = false) ∧ (rcmp 5 (xs 4) (65536 : Int32) = false) ∧ ((xs 1) = (3 : Int32)) ∧ ((xs 2) = (0 : Int32)) ∧ ((xs 3) = (1 : Int32)) ∧ (rcmp 2 (xs 4) (0 : Int32) = false) ∧ (rcmp 4 (xs 4) (65536 : Int32) = true) ∧ True from ⟨h0, t1_3, t2_0, t3_1, b4, b5, t1_3, t2_0, t3_1, b4, (rg4t (by have z0 := ri2f b4; have z1 := ri5f b5; have y0 := li_0; have y1 := li_65536; omega)), trivial⟩)
      by_cases t3_2 : (xs 3) = (2 : Int32)
      · cases b4 : rcmp 2 (xs 4) (0 : Int32) with
        | true =>
          exact rOk_of rr810 (show ((rop 3 (xs 0) (31 : Int32)) = (17 : Int32)) ∧ ((xs 1) = (3 : Int32)) ∧ ((xs 2) = (0 : Int32)) ∧ ((xs 3) = (2 : Int32)) ∧ (rcmp 2 (xs 4) (0 : Int32) = true) ∧ ((xs 1) = (3 : Int32)) ∧ ((xs 2) = (0 : Int32)) ∧ ((xs 3) = (2 : Int32)) ∧ (rcmp 2 (xs 4) (0 : Int32) = true) ∧ True from ⟨h0, t1_3, t2_0, t3_2, b4, t1_3, t2_0, t3_2, b4, trivial⟩)
        | false =>
          cases b5 : rcmp 5 (xs 4) (65536 : Int32) with
          | true =>
            exact rOk_of rr809 (show ((rop 3 (xs 0) (31 : Int32)) = (17 : Int32)) ∧ ((xs 1) = (3 : Int32)) ∧ ((xs 2) = (0 : Int32)) ∧ ((xs 3) = (2 : Int32)) ∧ (rcmp 2 (xs 4) (0 : Int32) = false) ∧ (rcmp 5 (xs 4) (65536 : Int32) = true) ∧ ((xs 1) = (3 : Int32)) ∧ ((xs 2) = (0 : Int32)) ∧ ((xs 3) = (2 : Int32)) ∧ (rcmp 2 (xs 4) (0 : Int32) = false) ∧ (rcmp 4 (xs 4) (65536 : Int32) = false) ∧ True from ⟨h0, t1_3, t2_0, t3_2, b4, b5, t1_3, t2_0, t3_2, b4, (rg4f (by have z0 := ri2f b4; have z1 := ri5t b5; have y0 := li_0; have y1 := li_65536; omega)), trivial⟩)
          | false =>
            exact rOk_of rr808 (show ((rop 3 (xs 0) (31 : Int32)) = (17 : Int32)) ∧ ((xs 1) = (3 : Int32)) ∧ ((xs 2) = (0 : Int32)) ∧ ((xs 3) = (2 : Int32)) ∧ (rcmp 2 (xs 4) (0 : Int32) = false) ∧ (rcmp 5 (xs 4) (65536 : Int32) = false) ∧ ((xs 1) = (3 : Int32)) ∧ ((xs 2) = (0 : Int32)) ∧ ((xs 3) = (2 : Int32)) ∧ (rcmp 2 (xs 4) (0 : Int32) = false) ∧ (rcmp 4 (xs 4) (65536 : Int32) = true) ∧ True from ⟨h0, t1_3, t2_0, t3_2, b4, b5, t1_3, t2_0, t3_2, b4, (rg4t (by have z0 := ri2f b4; have z1 := ri5f b5; have y0 := li_0; have y1 := li_65536; omega)), trivial⟩)
      by_cases t3_3 : (xs 3) = (3 : Int32)
      · cases b4 : rcmp 2 (xs 4) (0 : Int32) with
        | true =>
          exact rOk_of rr813 (show ((rop 3 (xs 0) (31 : Int32)) = (17 : Int32)) ∧ ((xs 1) = (3 : Int32)) ∧ ((xs 2) = (0 : Int32)) ∧ ((xs 3) = (3 : Int32)) ∧ (rcmp 2 (xs 4) (0 : Int32) = true) ∧ ((xs 1) = (3 : Int32)) ∧ ((xs 2) = (0 : Int32)) ∧ ((xs 3) = (3 : Int32)) ∧ (rcmp 2 (xs 4) (0 : Int32) = true) ∧ True from ⟨h0, t1_3, t2_0, t3_3, b4, t1_3, t2_0, t3_3, b4, trivial⟩)
        | false =>
          cases b5 : rcmp 5 (xs 4) (65536 : Int32) with
          | true =>
            exact rOk_of rr812 (show ((rop 3 (xs 0) (31 : Int32)) = (17 : Int32)) ∧ ((xs 1) = (3 : Int32)) ∧ ((xs 2) = (0 : Int32)) ∧ ((xs 3) = (3 : Int32)) ∧ (rcmp 2 (xs 4) (0 : Int32) = false) ∧ (rcmp 5 (xs 4) (65536 : Int32) = true) ∧ ((xs 1) = (3 : Int32)) ∧ ((xs 2) = (0 : Int32)) ∧ ((xs 3) = (3 : Int32)) ∧ (rcmp 2 (xs 4) (0 : Int32) = false) ∧ (rcmp 4 (xs 4) (65536 : Int32) = false) ∧ True from ⟨h0, t1_3, t2_0, t3_3, b4, b5, t1_3, t2_0, t3_3, b4, (rg4f (by have z0 := ri2f b4; have z1 := ri5t b5; have y0 := li_0; have y1 := li_65536; omega)), trivial⟩)
          | false =>
            exact rOk_of rr811 (show ((rop 3 (xs 0) (31 : Int32)) = (17 : Int32)) ∧ ((xs 1) = (3 : Int32)) ∧ ((xs 2) = (0 : Int32)) ∧ ((xs 3) = (3 : Int32)) ∧ (rcmp 2 (xs 4) (0 : Int32) = false) ∧ (rcmp 5 (xs 4) (65536 : Int32) = false) ∧ ((xs 1) = (3 : Int32)) ∧ ((xs 2) = (0 : Int32)) ∧ ((xs 3) = (3 : Int32)) ∧ (rcmp 2 (xs 4) (0 : Int32) = false) ∧ (rcmp 4 (xs 4) (65536 : Int32) = true) ∧ True from ⟨h0, t1_3, t2_0, t3_3, b4, b5, t1_3, t2_0, t3_3, b4, (rg4t (by have z0 := ri2f b4; have z1 := ri5f b5; have y0 := li_0; have y1 := li_65536; omega)), trivial⟩)
      by_cases t3_4 : (xs 3) = (4 : Int32)
      · cases b4 : rcmp 2 (xs 4) (0 : Int32) with
        | true =>
          exact rOk_of rr816 (show ((rop 3 (xs 0) (31 : Int32)) = (17 : Int32)) ∧ ((xs 1) = (3 : Int32)) ∧ ((xs 2) = (0 : Int32)) ∧ ((xs 3) = (4 : Int32)) ∧ (rcmp 2 (xs 4) (0 : Int32) = true) ∧ ((xs 1) = (3 : Int32)) ∧ ((xs 2) = (0 : Int32)) ∧ ((xs 3) = (4 : Int32)) ∧ (rcmp 2 (xs 4) (0 : Int32) = true) ∧ True from ⟨h0, t1_3, t2_0, t3_4, b4, t1_3, t2_0, t3_4, b4, trivial⟩)
        | false =>
          cases b5 : rcmp 5 (xs 4) (65536 : Int32) with
          | true =>
            exact rOk_of rr815 (show ((rop 3 (xs 0) (31 : Int32)) = (17 : Int32)) ∧ ((xs 1) = (3 : Int32)) ∧ ((xs 2) = (0 : Int32)) ∧ ((xs 3) = (4 : Int32)) ∧ (rcmp 2 (xs 4) (0 : Int32) = false) ∧ (rcmp 5 (xs 4) (65536 : Int32) = true) ∧ ((xs 1) = (3 : Int32)) ∧ ((xs 2) = (0 : Int32)) ∧ ((xs 3) = (4 : Int32)) ∧ (rcmp 2 (xs 4) (0 : Int32) = false) ∧ (rcmp 4 (xs 4) (65536 : Int32) = false) ∧ True from ⟨h0, t1_3, t2_0, t3_4, b4, b5, t1_3, t2_0, t3_4, b4, (rg4f (by have z0 := ri2f b4; have z1 := ri5t b5; have y0 := li_0; have y1 := li_65536; omega)), trivial⟩)
          | false =>
            exact rOk_of rr814 (show ((rop 3 (xs 0) (31 : Int32)) = (17 : Int32)) ∧ ((xs 1) = (3 : Int32)) ∧ ((xs 2) = (0 : Int32)) ∧ ((xs 3) = (4 : Int32)) ∧ (rcmp 2 (xs 4) (0 : Int32) = false) ∧ (rcmp 5 (xs 4) (65536 : Int32) = false) ∧ ((xs 1) = (3 : Int32)) ∧ ((xs 2) = (0 : Int32)) ∧ ((xs 3) = (4 : Int32)) ∧ (rcmp 2 (xs 4) (0 : Int32) = false) ∧ (rcmp 4 (xs 4) (65536 : Int32) = true) ∧ True from ⟨h0, t1_3, t2_0, t3_4, b4, b5, t1_3, t2_0, t3_4, b4, (rg4t (by have z0 := ri2f b4; have z1 := ri5f b5; have y0 := li_0; have y1 := li_65536; omega)), trivial⟩)
      cases b3 : rcmp 2 (xs 3) (0 : Int32) with
      | true =>
        exact rOk_of rr801 (show ((rop 3 (xs 0) (31 : Int32)) = (17 : Int32)) ∧ ((xs 1) = (3 : Int32)) ∧ ((xs 2) = (0 : Int32)) ∧ (rcmp 2 (xs 3) (0 : Int32) = true) ∧ ((xs 1) = (3 : Int32)) ∧ ((xs 2) = (0 : Int32)) ∧ (rcmp 2 (xs 3) (0 : Int32) = true) ∧ True from ⟨h0, t1_3, t2_0, b3, t1_3, t2_0, b3, trivial⟩)
      | false =>
        exact rOk_of rr800 (show ((rop 3 (xs 0) (31 : Int32)) = (17 : Int32)) ∧ ((xs 1) = (3 : Int32)) ∧ ((xs 2) = (0 : Int32)) ∧ (rcmp 2 (xs 3) (0 : Int32) = false) ∧ (rcmp 4 (xs 3) (4 : Int32) = true) ∧ ((xs 1) = (3 : Int32)) ∧ ((xs 2) = (0 : Int32)) ∧ (rcmp 2 (xs 3) (0 : Int32) = false) ∧ (rcmp 4 (xs 3) (4 : Int32) = true) ∧ True from ⟨h0, t1_3, t2_0, b3, (rg4t (by have z0 := rine t3_0; have z1 := rine t3_1; have z2 := rine t3_2; have z3 := rine t3_3; have z4 := rine t3_4; have z5 := ri2f b3; have y0 := li_0; have y1 := li_1; have y2 := li_2; have y3 := li_3; have y4 := li_4; omega)), t1_3, t2_0, b3, (rg4t (by have z0 := rine t3_0; have z1 := rine t3_1; have z2 := rine t3_2; have z3 := rine t3_3; have z4 := rine t3_4; have z5 := ri2f b3; have y0 := li_0; have y1 := li_1; have y2 := li_2; have y3 := li_3; have y4 := li_4; omega)), trivial⟩)
    by_cases t2_1 : (xs 2) = (1 : Int32)
    · by_cases t3_0 : (xs 3) = (0 : Int32)
      · cases b4 : rcmp 2 (xs 4) (0 : Int32) with
        | true =>
          exact rOk_of rr821 (show ((rop 3 (xs 0) (31 : Int32)) = (17 : Int32)) ∧ ((xs 1) = (3 : Int32)) ∧ ((xs 2) = (1 : Int32)) ∧ ((xs 3) = (0 : Int32)) ∧ (rcmp 2 (xs 4) (0 : Int32) = true) ∧ ((xs 1) = (3 : Int32)) ∧ ((xs 2) = (1 : Int32)) ∧ ((xs 3) = (0 : Int32)) ∧ (rcmp 2 (xs 4) (0 : Int32) = true) ∧ True from ⟨h0, t1_3, t2_1, t3_0, b4, t1_3, t2_1, t3_0, b4, trivial⟩)
        | false =>
          cases b5 : rcmp 5 (xs 4) (65536 : Int32) with
          | true =>
            exact rOk_of rr820 (show ((rop 3 (xs 0) (31 : Int32)) = (17 : Int32)) ∧ ((xs 1) = (3 : Int32)) ∧ ((xs 2) = (1 : Int32)) ∧ ((xs 3) = (0 : Int32)) ∧ (rcmp 2 (xs 4) (0 : Int32) = false) ∧ (rcmp 5 (xs 4) (65536 : Int32) = true) ∧ ((xs 1) = (3 : Int32)) ∧ ((xs 2) = (1 : Int32)) ∧ ((xs 3) = (0 : Int32)) ∧ (rcmp 2 (xs 4) (0 : Int32) = false) ∧ (rcmp 4 (xs 4) (65536 : Int32) = false) ∧ (rcmp 2 (xs 4) (0 : Int32) = false) ∧ (rcmp 5 (xs 4) (65536 : Int32) = true) ∧ True from ⟨h0, t1_3, t2_1, t3_0, b4, b5, t1_3, t2_1, t3_0, b4, (rg4f (by have z0 := ri2f b4; have z1 := ri5t b5; have y0 := li_0; have y1 := li_65536; omega)), b4, b5, trivial⟩)
          | false =>
            exact rOk_of rr819 (show ((rop 3 (xs 0) (31 : Int32)) = (17 : Int32)) ∧ ((xs 1) = (3 : Int32)) ∧ ((xs 2) = (1 : Int32)) ∧ ((xs 3) = (0 : Int32)) ∧ (rcmp 2 (xs 4) (0 : Int32) = false) ∧ (rcmp 5 (xs 4) (65536 : Int32) = false) ∧ ((xs 1) = (3 : Int32)) ∧ ((xs 2) = (1 : Int32)) ∧ ((xs 3) = (0 : Int32)) ∧ (rcmp 2 (xs 4) (0 : Int32) = false) ∧ (rcmp 4 (xs 4) (65536 : Int32) = true) ∧ True from ⟨h0, t1_3, t2_1, t3_0, b4, b5, t1_3, t2_1, t3_0, b4, (rg4t (by have z0 := ri2f b4; have z1 := ri5f b5; have y0 := li_0; have y1 := li_65536; omega)), trivial⟩)
      by_cases t3_1 : (xs 3) = (1 : Int32)
      · cases b4 : rcmp 2 (xs 4) (0 : Int32) with
        | true =>
          exact rOk_of rr824 (show ((rop 3 (xs 0) (31 : Int32)) = (17 : Int32)) ∧ ((xs 1) = (3 : Int32)) ∧ ((xs 2) = (1 : Int32)) ∧ ((xs 3) = (1 : Int32)) ∧ (rcmp 2 (xs 4) (0 : Int32) = true) ∧ ((xs 1) = (3 : Int32)) ∧ ((xs 2) = (1 : Int32)) ∧ ((xs 3) = (1 : Int32)) ∧ (rcmp 2 (xs 4) (0 : Int32) = true) ∧ True from ⟨h0, t1_3, t2_1, t3_1, b4, t1_3, t2_1, t3_1, b4, trivial⟩)
        | false =>
          cases b5 : rcmp 5 (xs 4) (65536 : Int32) with
          | true =>
            exact rOk_of rr823 (show ((rop 3 (xs 0) (31 : Int32)) = (17 : Int32)) ∧ ((xs 1) = (3 : Int32)) ∧ ((xs 2) = (1 : Int32)) ∧ ((xs 3) = (1 : Int32)) ∧ (rcmp 2 (xs 4) (0 : Int32) = false) ∧ (rcmp 5 (xs 4) (65536 : Int32) = true) ∧ ((xs 1) = (3 : Int32)) ∧ ((xs 2) = (1 : Int32)) ∧ ((xs 3) = (1 : Int32)) ∧ (rcmp 2 (xs 4) (0 : Int32) = false) ∧ (rcmp 4 (xs 4) (65536 : Int32) = false) ∧ (rcmp 2 (xs 4) (0 : Int32) = false) ∧ (rcmp 5 (xs 4) (65536 : Int32) = true) ∧ True from ⟨h0, t1_3, t2_1, t3_1, b4, b5, t1_3, t2_1, t3_1, b4, (rg4f (by have z0 := ri2f b4; have z1 := ri5t b5; have y0 := li_0; have y1 := li_65536; omega)), b4, b5, trivial⟩)
          | false =>
            exact rOk_of rr822 (show ((rop 3 (xs 0) (31 : Int32)) = (17 : Int32)) ∧ ((xs 1) = (3 : Int32)) ∧ ((xs 2) = (1 : Int32)) ∧ ((xs 3) = (1 : Int32)) ∧ (rcmp 2 (xs 4) (0 : Int32) = false) ∧ (rcmp 5 (xs 4) (65536 : Int32) = false) ∧ ((xs 1) = (3 : Int32)) ∧ ((xs 2) = (1 : Int32)) ∧ ((xs 3) = (1 : Int32)) ∧ (rcmp 2 (xs 4) (0 : Int32) = false) ∧ (rcmp 4 (xs 4) (65536 : Int32) = true) ∧ True from ⟨h0, t1_3, t2_1, t3_1, b4, b5, t1_3, t2_1, t3_1, b4, (rg4t (by have z0 := ri2f b4; have z1 := ri5f b5; have y0 := li_0; have y1 := li_65536; omega)), trivial⟩)
      by_cases t3_2 : (xs 3) = (2 : Int32)
      · cases b4 : rcmp 2 (xs 4) (0 : Int32) with
        | true =>
          exact rOk_of rr827 (show ((rop 3 (xs 0) (31 : Int32)) = (17 : Int32)) ∧ ((xs 1) = (3 : Int32)) ∧ ((xs 2) = (1 : Int32)) ∧ ((xs 3) = (2 : Int32)) ∧ (rcmp 2 (xs 4) (0 : Int32) = true) ∧ ((xs 1) = (3 : Int32)) ∧ ((xs 2) = (1 : Int32)) ∧ ((xs 3) = (2 : Int32)) ∧ (rcmp 2 (xs 4) (0 : Int32) = true) ∧ True from ⟨h0, t1_3, t2_1, t3_2, b4, t1_3, t2_1, t3_2, b4, trivial⟩)
        | false =>
          cases b5 : rcmp 5 (xs 4) (65536 : Int32) with
          | true =>
            exact rOk_of rr826 (show ((rop 3 (xs 0) (31 : Int32)) = (17 : Int32)) ∧ ((xs 1) = (3 : Int32)) ∧ ((xs 2) = (1 : Int32)) ∧ ((xs 3) = (2 : Int32)) ∧ (rcmp 2 (xs 4) (0 : Int32) = false) ∧ (rcmp 5 (xs 4) (65536 : Int32) = true) ∧ ((xs 1) = (3 : Int32)) ∧ ((xs 2) = (1 : Int32)) ∧ ((xs 3) = (2 : Int32)) ∧ (rcmp 2 (xs 4) (0 : Int32) = false) ∧ (rcmp 4 (xs 4) (65536 : Int32) = false) ∧ True from ⟨h0, t1_3, t2_1, t3_2, b4, b5, t1_3, t2_1, t3_2, b4, (rg4f (by have z0 := ri2f b4; have z1 := ri5t b5; have y0 := li_0; have y1 := li_65536; omega)), trivial⟩)
          | false =>
            exact rOk_of rr825 (show ((rop 3 (xs 0) (31 : Int32)) = (17 : Int32)) ∧ ((xs 1) = (3 : Int32)) ∧ ((xs 2) = (1 : Int32)) ∧ ((xs 3) = (2 : Int32)) ∧ (rcmp 2 (xs 4) (0 : Int32) = false) ∧ (rcmp 5 (xs 4) (65536 : Int32) = false) ∧ ((xs 1) = (3 : Int32)) ∧ ((xs 2) = (1 : Int32)) ∧ ((xs 3) = (2 : Int32)) ∧ (rcmp 2 (xs 4) (0 : Int32) = false) ∧ (rcmp 4 (xs 4) (65536 : Int32) = true) ∧ True from ⟨h0, t1_3, t2_1, t3_2, b4, b5, t1_3, t2_1, t3_2, b4, (rg4t (by have z0 := ri2f b4; have z1 := ri5f b5; have y0 := li_0; have y1 := li_65536; omega)), trivial⟩)
      by_cases t3_3 : (xs 3) = (3 : Int32)
      · cases b4 : rcmp 2 (xs 4) (0 : Int32) with
        | true =>
          exact rOk_of rr830 (show ((rop 3 (xs 0) (31 : Int32)) = (17 : Int32)) ∧ ((xs 1) = (3 : Int32)) ∧ ((xs 2) = (1 : Int32)) ∧ ((xs 3) = (3 : Int32)) ∧ (rcmp 2 (xs 4) (0 : Int32) = true) ∧ ((xs 1) = (3 : Int32)) ∧ ((xs 2) = (1 : Int32)) ∧ ((xs 3) = (3 : Int32)) ∧ (rcmp 2 (xs 4) (0 : Int32) = true) ∧ True from ⟨h0, t1_3, t2_1, t3_3, b4, t1_3, t2_1, t3_3, b4, trivial⟩)
        | false =>
          cases b5 : rcmp 5 (xs 4) (65536 : Int32) with
          | true =>
            exact rOk_of rr829 (show ((rop 3 (xs 0) (31 : Int32)) = (17 : Int32)) ∧ ((xs 1) = (3 : Int32)) ∧ ((xs 2) = (1 : Int32)) ∧ ((xs 3) = (3 : Int32)) ∧ (rcmp 2 (xs 4) (0 : Int32) = false) ∧ (rcmp 5 (xs 4) (65536 : Int32) = true) ∧ ((xs 1) = (3 : Int32)) ∧ ((xs 2) = (1 : Int32)) ∧ ((xs 3) = (3 : Int32)) ∧ (rcmp 2 (xs 4) (0 : Int32) = false) ∧ (rcmp 4 (xs 4) (65536 : Int32) = false) ∧ True from ⟨h0, t1_3, t2_1, t3_3, b4, b5, t1_3, t2_1, t3_3, b4, (rg4f (by have z0 := ri2f b4; have z1 := ri5t b5; have y0 := li_0; have y1 := li_65536; omega)), trivial⟩)
          | false =>
            exact rOk_of rr828 (show ((rop 3 (xs 0) (31 : Int32)) = (17 : Int32)) ∧ ((xs 1) = (3 : Int32)) ∧ ((xs 2) = (1 : Int32)) ∧ ((xs 3) = (3 : Int32)) ∧ (rcmp 2 (xs 4) (0 : Int32) = false) ∧ (rcmp 5 (xs 4) (65536 : Int32) = false) ∧ ((xs 1) = (3 : Int32)) ∧ ((xs 2) = (1 : Int32)) ∧ ((xs 3) = (3 : Int32)) ∧ (rcmp 2 (xs 4) (0 : Int32) = false) ∧ (rcmp 4 (xs 4) (65536 : Int32) = true) ∧ True from ⟨h0, t1_3, t2_1, t3_3, b4, b5, t1_3, t2_1, t3_3, b4, (rg4t (by have z0 := ri2f b4; have z1 := ri5f b5; have y0 := li_0; have y1 := li_65536; omega)), trivial⟩)
      by_cases t3_4 : (xs 3) = (4 : Int32)
      · cases b4 : rcmp 2 (xs 4) (0 : Int32) with
        | true =>
          exact rOk_of rr833 (show ((rop 3 (xs 0) (31 : Int32)) = (17 : Int32)) ∧ ((xs 1) = (3 : Int32)) ∧ ((xs 2) = (1 : Int32)) ∧ ((xs 3) = (4 : Int32)) ∧ (rcmp 2 (xs 4) (0 : Int32) = true) ∧ ((xs 1) = (3 : Int32)) ∧ ((xs 2) = (1 : Int32)) ∧ ((xs 3) = (4 : Int32)) ∧ (rcmp 2 (xs 4) (0 : Int32) = true) ∧ True from ⟨h0, t1_3, t2_1, t3_4, b4, t1_3, t2_1, t3_4, b4, trivial⟩)
        | false =>
          cases b5 : rcmp 5 (xs 4) (65536 : Int32) with
          | true =>
            exact rOk_of rr832 (show ((rop 3 (xs 0) (31 : Int32)) = (17 : Int32)) ∧ ((xs 1) = (3 : Int32)) ∧ ((xs 2) = (1 : Int32)) ∧ ((xs 3) = (4 : Int32)) ∧ (rcmp 2 (xs 4) (0 : Int32) = false) ∧ (rcmp 5 (xs 4) (65536 : Int32) = true) ∧ ((xs 1) = (3 : Int32)) ∧ ((xs 2) = (1 : Int32)) ∧ ((xs 3) = (4 : Int32)) ∧ (rcmp 2 (xs 4) (0 : Int32) = false) ∧ (rcmp 4 (xs 4) (65536 : Int32) = false) ∧ True from ⟨h0, t1_3, t2_1, t3_4, b4, b5, t1_3, t2_1, t3_4, b4, (rg4f (by have z0 := ri2f b4; have z1 := ri5t b5; have y0 := li_0; have y1 := li_65536; omega)), trivial⟩)
          | false =>
            exact rOk_of rr831 (show ((rop 3 (xs 0) (31 : Int32)) = (17 : Int32)) ∧ ((xs 1) = (3 : Int32)) ∧ ((xs 2) = (1 : Int32)) ∧ ((xs 3) = (4 : Int32)) ∧ (rcmp 2 (xs 4) (0 : Int32) = false) ∧ (rcmp 5 (xs 4) (65536 : Int32) = false) ∧ ((xs 1) = (3 : Int32)) ∧ ((xs 2) = (1 : Int32)) ∧ ((xs 3) = (4 : Int32)) ∧ (rcmp 2 (xs 4) (0 : Int32) = false) ∧ (rcmp 4 (xs 4) (65536 : Int32) = true) ∧ True from ⟨h0, t1_3, t2_1, t3_4, b4, b5, t1_3, t2_1, t3_4, b4, (rg4t (by have z0 := ri2f b4; have z1 := ri5f b5; have y0 := li_0; have y1 := li_65536; omega)), trivial⟩)
      cases b3 : rcmp 2 (xs 3) (0 : Int32) with
      | true =>
        exact rOk_of rr818 (show ((rop 3 (xs 0) (31 : Int32)) = (17 : Int32)) ∧ ((xs 1) = (3 : Int32)) ∧ ((xs 2) = (1 : Int32)) ∧ (rcmp 2 (xs 3) (0 : Int32) = true) ∧ ((xs 1) = (3 : Int32)) ∧ ((xs 2) = (1 : Int32)) ∧ (rcmp 2 (xs 3) (0 : Int32) = true) ∧ True from ⟨h0, t1_3, t2_1, b3, t1_3, t2_1, b3, trivial⟩)
      | false =>
        exact rOk_of rr817 (show ((rop 3 (xs 0) (31 : Int32)) = (17 : Int32)) ∧ ((xs 1) = (3 : Int32)) ∧ ((xs 2) = (1 : Int32)) ∧ (rcmp 2 (xs 3) (0 : Int32) = false) ∧ (rcmp 4 (xs 3) (4 : Int32) = true) ∧ ((xs 1) = (3 : Int32)) ∧ ((xs 2) = (1 : Int32)) ∧ (rcmp 2 (xs 3) (0 : Int32) = false) ∧ (rcmp 4 (xs 3) (4 : Int32) = true) ∧ True from ⟨h0, t1_3, t2_1, b3, (rg4t (by have z0 := rine t3_0; have z1 := rine t3_1; have z2 := rine t3_2; have z3 := rine t3_3; have z4 := rine t3_4; have z5 := ri2f b3; have y0 := li_0; have y1 := li_1; have y2 := li_2; have y3 := li_3; have y4 := li_4; omega)), t1_3, t2_1, b3, (rg4t (by have z0 := rine t3_0; have z1 := rine t3_1; have z2 := rine t3_2; have z3 := rine t3_3; have z4 := rine t3_4; have z5 := ri2f b3; have y0 := li_0; have y1 := li_1; have y2 := li_2; have y3 := li_3; have y4 := li_4; omega)), trivial⟩)
    by_cases t2_2 : (xs 2) = (2 : Int32)
    · by_cases t3_0 : (xs 3) = (0 : Int32)
      · cases b4 : rcmp 2 (xs 4) (0 : Int32) with
        | true =>
          exact rOk_of rr838 (show ((rop 3 (xs 0) (31 : Int32)) = (17 : Int32)) ∧ ((xs 1) = (3 : Int32)) ∧ ((xs 2) = (2 : Int32)) ∧ ((xs 3) = (0 : Int32)) ∧ (rcmp 2 (xs 4) (0 : Int32) = true) ∧ ((xs 1) = (3 : Int32)) ∧ ((xs 2) = (2 : Int32)) ∧ ((xs 3) = (0 : Int32)) ∧ (rcmp 2 (xs 4) (0 : Int32) = true) ∧ True from ⟨h0, t1_3, t2_2, t3_0, b4, t1_3, t2_2, t3_0, b4, trivial⟩)
        | false =>
          cases b5 : rcmp 5 (xs 4) (65536 : Int32) with
          | true =>
            exact rOk_of rr837 (show ((rop 3 (xs 0) (31 : Int32)) = (17 : Int32)) ∧ ((xs 1) = (3 : Int32)) ∧ ((xs 2) = (2 : Int32)) ∧ ((xs 3) = (0 : Int32)) ∧ (rcmp 2 (xs 4) (0 : Int32) = false) ∧ (rcmp 5 (xs 4) (65536 : Int32) = true) ∧ ((xs 1) = (3 : Int32)) ∧ ((xs 2) = (2 : Int32)) ∧ ((xs 3) = (0 : Int32)) ∧ (rcmp 2 (xs 4) (0 : Int32) = false) ∧ (rcmp 4 (xs 4) (65536 : Int32) = false) ∧ (rcmp 2 (xs 4) (0 : Int32) = false) ∧ (rcmp 5 (xs 4) (65536 : Int32) = true) ∧ True from ⟨h0, t1_3, t2_2, t3_0, b4, b5, t1_3, t2_2, t3_0, b4, (rg4f (by have z0 := ri2f b4; have z1 := ri5t b5; have y0 := li_0; have y1 := li_65536; omega)), b4, b5, trivial⟩)
          | false =>
            exact rOk_of rr836 (show ((rop 3 (xs 0) (31 : Int32)) = (17 : Int32)) ∧ ((xs 1) = (3 : Int32)) ∧ ((xs 2) = (2 : Int32)) ∧ ((xs 3) = (0 : Int32)) ∧ (rcmp 2 (xs 4) (0 : Int32) = false) ∧ (rcmp 5 (xs 4) (65536 : Int32) = false) ∧ ((xs 1) = (3 : Int32)) ∧ ((xs 2) = (2 : Int32)) ∧ ((xs 3) = (0 : Int32)) ∧ (rcmp 2 (xs 4) (0 : Int32) = false) ∧ (rcmp 4 (xs 4) (65536 : Int32) = true) ∧ True from ⟨h0, t1_3, t2_2, t3_0, b4, b5, t1_3, t2_2, t3_0, b4, (rg4t (by have z0 := ri2f b4; have z1 := ri5f b5; have y0 := li_0; have y1 := li_65536; omega)), trivial⟩)
      by_cases t3_1 : (xs 3) = (1 : Int32)
      · cases b4 : rcmp 2 (xs 4) (0 : Int32) with
        | true =>
          exact rOk_of rr841 (show ((rop 3 (xs 0) (31 : Int32)) = (17 : Int32)) ∧ ((xs 1) = (3 : Int32)) ∧ ((xs 2) = (2 : Int32)) ∧ ((xs 3) = (1 : Int32)) ∧ (rcmp 2 (xs 4) (0 : Int32) = true) ∧ ((xs 1) = (3 : Int32)) ∧ ((xs 2) = (2 : Int32)) ∧ ((xs 3) = (1 : Int32)) ∧ (rcmp 2 (xs 4) (0 : Int32) = true) ∧ True from ⟨h0, t1_3, t2_2, t3_1, b4, t1_3, t2_2, t3_1, b4, trivial⟩)
        | false =>
          cases b5 : rcmp 5 (xs 4) (65536 : Int32) with
          | true =>
            exact rOk_of rr840 (show ((rop 3 (xs 0) (31 : Int32)) = (17 : Int32)) ∧ ((xs 1) = (3 : Int32)) ∧ ((xs 2) = (2 : Int32)) ∧ ((xs 3) = (1 : Int32)) ∧ (rcmp 2 (xs 4) (0 : Int32) = false) ∧ (rcmp 5 (xs 4) (65536 : Int32) = true) ∧ ((xs 1) = (3 : Int32)) ∧ ((xs 2) = (2 : Int32)) ∧ ((xs 3) = (1 : Int32)) ∧ (rcmp 2 (xs 4) (0 : Int32) = false) ∧ (rcmp 4 (xs 4) (65536 : Int32) = false) ∧ (rcmp 2 (xs 4) (0 : Int32) = false) ∧ (rcmp 5 (xs 4) (65536 : Int32) = true) ∧ True from ⟨h0, t1_3, t2_2, t3_1, b4, b5, t1_3, t2_2, t3_1, b4, (rg4f (by have z0 := ri2f b4; have z1 := ri5t b5; have y0 := li_0; have y1 := li_65536; omega)), b4, b5, trivial⟩)
          | false =>
            exact rOk_of rr839 (show ((rop 3 (xs 0) (31 : Int32)) = (17 : Int32)) ∧ ((xs 1) = (3 : Int32)) ∧ ((xs 2) = (2 : Int32)) ∧ ((xs 3) = (1 : Int32)) ∧ (rcmp 2 (xs 4) (0 : Int32) = false) ∧ (rcmp 5 (xs 4) (65536 : Int32) = false) ∧ ((xs 1) = (3 : Int32)) ∧ ((xs 2) = (2 : Int32)) ∧ ((xs 3) = (1 : Int32)) ∧ (rcmp 2 (xs 4) (0 : Int32) = false) ∧ (rcmp 4 (xs 4) (65536 : Int32) = true) ∧ True from ⟨h0, t1_3, t2_2, t3_1, b4, b5, t1_3, t2_2, t3_1, b4, (rg4t (by have z0 := ri2f b4; have z1 := ri5f b5; have y0 := li_0; have y1 := li_65536; omega)), trivial⟩)
      by_cases t3_2 : (xs 3) = (2 : Int32)
      · cases b4 : rcmp 2 (xs 4) (0 : Int32) with
        | true =>
          exact rOk_of rr844 (show ((rop 3 (xs 0) (31 : Int32)) = (17 : Int32)) ∧ ((xs 1) = (3 : Int32)) ∧ ((xs 2) = (2 : Int32)) ∧ ((xs 3) = (2 : Int32)) ∧ (rcmp 2 (xs 4) (0 : Int32) = true) ∧ ((xs 1) = (3 : Int32)) ∧ ((xs 2) = (2 : Int32)) ∧ ((xs 3) = (2 : Int32)) ∧ (rcmp 2 (xs 4) (0 : Int32) = true) ∧ True from ⟨h0, t1_3, t2_2, t3_2, b4, t1_3, t2_2, t3_2, b4, trivial⟩)
        | false =>
          cases b5 : rcmp 5 (xs 4) (65536 : Int32) with
          | true =>
            exact rOk_of rr843 (show ((rop 3 (xs 0) (31 : Int32)) = (17 : Int32)) ∧ ((xs 1) = (3 : Int32)) ∧ ((xs 2) = (2 : Int32)) ∧ ((xs 3) = (2 : Int32)) ∧ (rcmp 2 (xs 4) (0 : Int32) = false) ∧ (rcmp 5 (xs 4) (65536 : Int32) = true) ∧ ((xs 1) = (3 : Int32)) ∧ ((xs 2) = (2 : Int32)) ∧ ((xs 3) = (2 : Int32)) ∧ (rcmp 2 (xs 4) (0 : Int32) = false) ∧ (rcmp 4 (xs 4) (65536 : Int32) = false) ∧ True from ⟨h0, t1_3, t2_2, t3_2, b4, b5, t1_3, t2_2, t3_2, b4, (rg4f (by have z0 := ri2f b4; have z1 := ri5t b5; have y0 := li_0; have y1 := li_65536; omega)), trivial⟩)
          | false =>
            exact rOk_of rr842 (show ((rop 3 (xs 0) (31 : Int32)) = (17 : Int32)) ∧ ((xs 1) = (3 : Int32)) ∧ ((xs 2) = (2 : Int32)) ∧ ((xs 3) = (2 : Int32)) ∧ (rcmp 2 (xs 4) (0 : Int32) = false) ∧ (rcmp 5 (xs 4) (65536 : Int32) = false) ∧ ((xs 1) = (3 : Int32)) ∧ ((xs 2) = (2 : Int32)) ∧ ((xs 3) = (2 : Int32)) ∧ (rcmp 2 (xs 4) (0 : Int32) = false) ∧ (rcmp 4 (xs 4) (65536 : Int32) = true) ∧ True from ⟨h0, t1_3, t2_2, t3_2, b4, b5, t1_3, t2_2, t3_2, b4, (rg4t (by have z0 := ri2f b4; have z1 := ri5f b5; have y0 := li_0; have y1 := li_65536; omega)), trivial⟩)
      by_cases t3_3 : (xs 3) = (3 : Int32)
      · cases b4 : rcmp 2 (xs 4) (0 : Int32) with
        | true =>
          exact rOk_of rr847 (show ((rop 3 (xs 0) (31 : Int32)) = (17 : Int32)) ∧ ((xs 1) = (3 : Int32)) ∧ ((xs 2) = (2 : Int32)) ∧ ((xs 3) = (3 : Int32)) ∧ (rcmp 2 (xs 4) (0 : Int32) = true) ∧ ((xs 1) = (3 : Int32)) ∧ ((xs 2) = (2 : Int32)) ∧ ((xs 3) = (3 : Int32)) ∧ (rcmp 2 (xs 4) (0 : Int32) = true) ∧ True from ⟨h0, t1_3, t2_2, t3_3, b4, t1_3, t2_2, t3_3, b4, trivial⟩)
        | false =>
          cases b5 : rcmp 5 (xs 4) (65536 : Int32) with
          | true =>
            exact rOk_of rr846 (show ((rop 3 (xs 0) (31 : Int32)) = (17 : Int32)) ∧ ((xs 1) = (3 : Int32)) ∧ ((xs 2) = (2 : Int32)) ∧ ((xs 3) = (3 : Int32)) ∧ (rcmp 2 (xs 4) (0 : Int32) = false) ∧ (rcmp 5 (xs 4) (65536 : Int32) = true) ∧ ((xs 1) = (3 : Int32)) ∧ ((xs 2) = (2 : Int32)) ∧ ((xs 3) = (3 : Int32)) ∧ (rcmp 2 (xs 4) (0 : Int32) = false) ∧ (rcmp 4 (xs 4) (65536 : Int32) = false) ∧ True from ⟨h0, t1_3, t2_2, t3_3, b4, b5, t1_3, t2_2, t3_3, b4, (rg4f (by have z0 := ri2f b4; have z1 := ri5t b5; have y0 := li_0; have y1 := li_65536; omega)), trivial⟩)
          | false =>
            exact rOk_of rr845 (show ((rop 3 (xs 0) (31 : Int32)) = (17 : Int32)) ∧ ((xs 1) = (3 : Int32)) ∧ ((xs 2) = (2 : Int32)) ∧ ((xs 3) = (3 : Int32)) ∧ (rcmp 2 (xs 4) (0 : Int32) = false) ∧ (rcmp 5 (xs 4) (65536 : Int32) = false) ∧ ((xs 1) = (3 : Int32)) ∧ ((xs 2) = (2 : Int32)) ∧ ((xs 3) = (3 : Int32)) ∧ (rcmp 2 (xs 4) (0 : Int32) = false) ∧ (rcmp 4 (xs 4) (65536 : Int32) = true) ∧ True from ⟨h0, t1_3, t2_2, t3_3, b4, b5, t1_3, t2_2, t3_3, b4, (rg4t (by have z0 := ri2f b4; have z1 := ri5f b5; have y0 := li_0; have y1 := li_65536; omega)), trivial⟩)
      by_cases t3_4 : (xs 3) = (4 : Int32)
      · cases b4 : rcmp 2 (xs 4) (0 : Int32) with
        | true =>
          exact rOk_of rr850 (show ((rop 3 (xs 0) (31 : Int32)) = (17 : Int32)) ∧ ((xs 1) = (3 : Int32)) ∧ ((xs 2) = (2 : Int32)) ∧ ((xs 3) = (4 : Int32)) ∧ (rcmp 2 (xs 4) (0 : Int32) = true) ∧ ((xs 1) = (3 : Int32)) ∧ ((xs 2) = (2 : Int32)) ∧ ((xs 3) = (4 : Int32)) ∧ (rcmp 2 (xs 4) (0 : Int32) = true) ∧ True from ⟨h0, t1_3, t2_2, t3_4, b4, t1_3, t2_2, t3_4, b4, trivial⟩)
        | false =>
          cases b5 : rcmp 5 (xs 4) (65536 : Int32) with
          | true =>
            exact rOk_of rr849 (show ((rop 3 (xs 0) (31 : Int32)) = (17 : Int32)) ∧ ((xs 1) = (3 : Int32)) ∧ ((xs 2) = (2 : Int32)) ∧ ((xs 3) = (4 : Int32)) ∧ (rcmp 2 (xs 4) (0 : Int32) = false) ∧ (rcmp 5 (xs 4) (65536 : Int32) = true) ∧ ((xs 1) = (3 : Int32)) ∧ ((xs 2) = (2 : Int32)) ∧ ((xs 3) = (4 : Int32)) ∧ (rcmp 2 (xs 4) (0 : Int32) = false) ∧ (rcmp 4 (xs 4) (65536 : Int32) = false) ∧ True from ⟨h0, t1_3, t2_2, t3_4, b4, b5, t1_3, t2_2, t3_4, b4, (rg4f (by have z0 := ri2f b4; have z1 := ri5t b5; have y0 := li_0; have y1 := li_65536; omega)), trivial⟩)
          | false =>
            exact rOk_of rr848 (show ((rop 3 (xs 0) (31 : Int32)) = (17 : Int32)) ∧ ((xs 1) = (3 : Int32)) ∧ ((xs 2) = (2 : Int32)) ∧ ((xs 3) = (4 : Int32)) ∧ (rcmp 2 (xs 4) (0 : Int32) = false) ∧ (rcmp 5 (xs 4) (65536 : Int32) = false) ∧ ((xs 1) = (3 : Int32)) ∧ ((xs 2) = (2 : Int32)) ∧ ((xs 3) = (4 : Int32)) ∧ (rcmp 2 (xs 4) (0 : Int32) = false) ∧ (rcmp 4 (xs 4) (65536 : Int32) = true) ∧ True from ⟨h0, t1_3, t2_2, t3_4, b4, b5, t1_3, t2_2, t3_4, b4, (rg4t (by have z0 := ri2f b4; have z1 := ri5f b5; have y0 := li_0; have y1 := li_65536; omega)), trivial⟩)
      cases b3 : rcmp 2 (xs 3) (0 : Int32) with
      | true =>
        exact rOk_of rr835 (show ((rop 3 (xs 0) (31 : Int32)) = (17 : Int32)) ∧ ((xs 1) = (3 : Int32)) ∧ ((xs 2) = (2 : Int32)) ∧ (rcmp 2 (xs 3) (0 : Int32) = true) ∧ ((xs 1) = (3 : Int32)) ∧ ((xs 2) = (2 : Int32)) ∧ (rcmp 2 (xs 3) (0 : Int32) = true) ∧ True from ⟨h0, t1_3, t2_2, b3, t1_3, t2_2, b3, trivial⟩)
      | false =>
        exact rOk_of rr834 (show ((rop 3 (xs 0) (31 : Int32)) = (17 : Int32)) ∧ ((xs 1) = (3 : Int32)) ∧ ((xs 2) = (2 : Int32)) ∧ (rcmp 2 (xs 3) (0 : Int32) = false) ∧ (rcmp 4 (xs 3) (4 : Int32) = true) ∧ ((xs 1) = (3 : Int32)) ∧ ((xs 2) = (2 : Int32)) ∧ (rcmp 2 (xs 3) (0 : Int32) = false) ∧ (rcmp 4 (xs 3) (4 : Int32) = true) ∧ True from ⟨h0, t1_3, t2_2, b3, (rg4t (by have z0 := rine t3_0; have z1 := rine t3_1; have z2 := rine t3_2; have z3 := rine t3_3; have z4 := rine t3_4; have z5 := ri2f b3; have y0 := li_0; have y1 := li_1; have y2 := li_2; have y3 := li_3; have y4 := li_4; omega)), t1_3, t2_2, b3, (rg4t (by have z0 := rine t3_0; have z1 := rine t3_1; have z2 := rine t3_2; have z3 := rine t3_3; have z4 := rine t3_4; have z5 := ri2f b3; have y0 := li_0; have y1 := li_1; have y2 := li_2; have y3 := li_3; have y4 := li_4; omega)), trivial⟩)
    by_cases t2_3 : (xs 2) = (3 : Int32)
    · by_cases t3_0 : (xs 3) = (0 : Int32)
      · cases b4 : rcmp 2 (xs 4) (0 : Int32) with
        | true =>
          exact rOk_of rr855 (show ((rop 3 (xs 0) (31 : Int32)) = (17 : Int32)) ∧ ((xs 1) = (3 : Int32)) ∧ ((xs 2) = (3 : Int32)) ∧ ((xs 3) = (0 : Int32)) ∧ (rcmp 2 (xs 4) (0 : Int32) = true) ∧ ((xs 1) = (3 : Int32)) ∧ ((xs 2) = (3 : Int32)) ∧ ((xs 3) = (0 : Int32)) ∧ (rcmp 2 (xs 4) (0 : Int32) = true) ∧ True from ⟨h0, t1_3, t2_3, t3_0, b4, t1_3, t2_3, t3_0, b4, trivial⟩)
        | false =>
          cases b5 : rcmp 5 (xs 4) (65536 : Int32) with
          | true =>
            exact rOk_of rr854 (show ((rop 3 (xs 0) (31 : Int32)) = (17 : Int32)) ∧ ((xs 1) = (3 : Int32)) ∧ ((xs 2) = (3 : Int32)) ∧ ((xs 3) = (0 : Int32)) ∧ (rcmp 2 (xs 4) (0 : Int32) = false) ∧ (rcmp 5 (xs 4) (65536 : Int32) = true) ∧ ((xs 1) = (3 : Int32)) ∧ ((xs 2) = (3 : Int32)) ∧ ((xs 3) = (0 : Int32)) ∧ (rcmp 2 (xs 4) (0 : Int32) = false) ∧ (rcmp 4 (xs 4) (65536 : Int32) = false) ∧ (rcmp 2 (xs 4) (0 : Int32) = false) ∧ (rcmp 5 (xs 4) (65536 : Int32) = true) ∧ True from ⟨h0, t1_3, t2_3, t3_0, b4, b5, t1_3, t2_3, t3_0, b4, (rg4f (by have z0 := ri2f b4; have z1 := ri5t b5; have y0 := li_0; have y1 := li_65536; omega)), b4, b5, trivial⟩)
          | false =>
            exact rOk_of rr853 (show ((rop 3 (xs 0) (31 : Int32)) = (17 : Int32)) ∧ ((xs 1) = (3 : Int32)) ∧ ((xs 2) = (3 : Int32)) ∧ ((xs 3) = (0 : Int32)) ∧ (rcmp 2 (xs 4) (0 : Int32) = false) ∧ (rcmp 5 (xs 4) (65536 : Int32) = false) ∧ ((xs 1) = (3 : Int32)) ∧ ((xs 2) = (3 : Int32)) ∧ ((xs 3) = (0 : Int32)) ∧ (rcmp 2 (xs 4) (0 : Int32) = false) ∧ (rcmp 4 (xs 4) (65536 : Int32) = true) ∧ True from ⟨h0, t1_3, t2_3, t3_0, b4, b5, t1_3, t2_3, t3_0, b4, (rg4t (by have z0 := ri2f b4; have z1 := ri5f b5; have y0 := li_0; have y1 := li_65536; omega)), trivial⟩)
      by_cases t3_1 : (xs 3) = (1 : Int32)
      · cases b4 : rcmp 2 (xs 4) (0 : Int32) with
        | true =>
          exact rOk_of rr858 (show ((rop 3 (xs 0) (31 : Int32)) = (17 : Int32)) ∧ ((xs 1) = (3 : Int32)) ∧ ((xs 2) = (3 : Int32)) ∧ ((xs 3) = (1 : Int32)) ∧ (rcmp 2 (xs 4) (0 : Int32) = true) ∧ ((xs 1) = (3 : Int32)) ∧ ((xs 2) = (3 : Int32)) ∧ ((xs 3) = (1 : Int32)) ∧ (rcmp 2 (xs 4) (0 : Int32) = true) ∧ True from ⟨h0, t1_3, t2_3, t3_1, b4, t1_3, t2_3, t3_1, b4, trivial⟩)
        | false =>
          cases b5 : rcmp 5 (xs 4) (65536 : Int32) with
          | true =>
            exact rOk_of rr857 (show ((rop 3 (xs 0) (31 : Int32)) = (17 : Int32)) ∧ ((xs 1) = (3 : Int32)) ∧ ((xs 2) = (3 : Int32)) ∧ ((xs 3) = (1 : Int32)) ∧ (rcmp 2 (xs 4) (0 : Int32) = false) ∧ (rcmp 5 (xs 4) (65536 : Int32) = true) ∧ ((xs 1) = (3 : Int32)) ∧ ((xs 2) = (3 : Int32)) ∧ ((xs 3) = (1 : Int32)) ∧ (rcmp 2 (xs 4) (0 : Int32) = false) ∧ (rcmp 4 (xs 4) (65536 : Int32) = false) ∧ (rcmp 2 (xs 4) (0 : Int32) = false) ∧ (rcmp 5 (xs 4) (65536 : Int32) = true) ∧ True from ⟨h0, t1_3, t2_3, t3_1, b4, b5, t1_3, t2_3, t3_1, b4, (rg4f (by have z0 := ri2f b4; have z1 := ri5t b5; have y0 := li_0; have y1 := li_65536; omega)), b4, b5, trivial⟩)
          | false =>
            exact rOk_of rr856 (show ((rop 3 (xs 0) (31 : Int32)) = (17 : Int32)) ∧ ((xs 1) = (3 : Int32)) ∧ ((xs 2) = (3 : Int32)) ∧ ((xs 3) = (1 : Int32)) ∧ (rcmp 2 (xs 4) (0 : Int32) = false) ∧ (rcmp 5 (xs 4) (65536 : Int32) = false) ∧ ((xs 1) = (3 : Int32)) ∧ ((xs 2) = (3 : Int32)) ∧ ((xs 3) = (1 : Int32)) ∧ (rcmp 2 (xs 4) (0 : Int32) = false) ∧ (rcmp 4 (xs 4) (65536 : Int32) = true) ∧ True from ⟨h0, t1_3, t2_3, t3_1, b4, b5, t1_3, t2_3, t3_1, b4, (rg4t (by have z0 := ri2f b4; have z1 := ri5f b5; have y0 := li_0; have y1 := li_65536; omega)), trivial⟩)
      by_cases t3_2 : (xs 3) = (2 : Int32)
      · cases b4 : rcmp 2 (xs 4) (0 : Int32) with
        | true =>
          exact rOk_of rr861 (show ((rop 3 (xs 0) (31 : Int32)) = (17 : Int32)) ∧ ((xs 1) = (3 : Int32)) ∧ ((xs 2) = (3 : Int32)) ∧ ((xs 3) = (2 : Int32)) ∧ (rcmp 2 (xs 4) (0 : Int32) = true) ∧ ((xs 1) = (3 : Int32)) ∧ ((xs 2) = (3 : Int32)) ∧ ((xs 3) = (2 : Int32)) ∧ (rcmp 2 (xs 4) (0 : Int32) = true) ∧ True from ⟨h0, t1_3, t2_3, t3_2, b4, t1_3, t2_3, t3_2, b4, trivial⟩)
        | false =>
          cases b5 : rcmp 5 (xs 4) (65536 : Int32) with
          | true =>
            exact rOk_of rr860 (show ((rop 3 (xs 0) (31 : Int32)) = (17 : Int32)) ∧ ((xs 1) = (3 : Int32)) ∧ ((xs 2) = (3 : Int32)) ∧ ((xs 3) = (2 : Int32)) ∧ (rcmp 2 (xs 4) (0 : Int32) = false) ∧ (rcmp 5 (xs 4) (65536 : Int32) = true) ∧ ((xs 1) = (3 : Int32)) ∧ ((xs 2) = (3 : Int32)) ∧ ((xs 3) = (2 : Int32)) ∧ (rcmp 2 (xs 4) (0 : Int32) = false) ∧ (rcmp 4 (xs 4) (65536 : Int32) = false) ∧ True from ⟨h0, t1_3, t2_3, t3_2, b4, b5, t1_3, t2_3, t3_2, b4, (rg4f (by have z0 := ri2f b4; have z1 := ri5t b5; have y0 := li_0; have y1 := li_65536; omega)), trivial⟩)
          | false =>
            exact rOk_of rr859 (show ((rop 3 (xs 0) (31 : Int32)) = (17 : Int32)) ∧ ((xs 1) = (3 : Int32)) ∧ ((xs 2) = (3 : Int32)) ∧ ((xs 3) = (2 : Int32)) ∧ (rcmp 2 (xs 4) (0 : Int32) = false) ∧ (rcmp 5 (xs 4) (65536 : Int32) = false) ∧ ((xs 1) = (3 : Int32)) ∧ ((xs 2) = (3 : Int32)) ∧ ((xs 3) = (2 : Int32)) ∧ (rcmp 2 (xs 4) (0 : Int32) = false) ∧ (rcmp 4 (xs 4) (65536 : Int32) = true) ∧ True from ⟨h0, t1_3, t2_3, t3_2, b4, b5, t1_3, t2_3, t3_2, b4, (rg4t (by have z0 := ri2f b4; have z1 := ri5f b5; have y0 := li_0; have y1 := li_65536; omega)), trivial⟩)
      by_cases t3_3 : (xs 3) = (3 : Int32)
      · cases b4 : rcmp 2 (xs 4) (0 : Int32) with
        | true =>
          exact rOk_of rr864 (show ((rop 3 (xs 0) (31 : Int32)) = (17 : Int32)) ∧ ((xs 1) = (3 : Int32)) ∧ ((xs 2) = (3 : Int32)) ∧ ((xs 3) = (3 : Int32)) ∧ (rcmp 2 (xs 4) (0 : Int32) = true) ∧ ((xs 1) = (3 : Int32)) ∧ ((xs 2) = (3 : Int32)) ∧ ((xs 3) = (3 : Int32)) ∧ (rcmp 2 (xs 4) (0 : Int32) = true) ∧ True from ⟨h0, t1_3, t2_3, t3_3, b4, t1_3, t2_3, t3_3, b4, trivial⟩)
        | false =>
          cases b5 : rcmp 5 (xs 4) (65536 : Int32) with
          | true =>
            exact rOk_of rr863 (show ((rop 3 (xs 0) (31 : Int32)) = (17 : Int32)) ∧ ((xs 1) = (3 : Int32)) ∧ ((xs 2) = (3 : Int32)) ∧ ((xs 3) = (3 : Int32)) ∧ (rcmp 2 (xs 4) (0 : Int32) = false) ∧ (rcmp 5 (xs 4) (65536 : Int32) = true) ∧ ((xs 1) = (3 : Int32)) ∧ ((xs 2) = (3 : Int32)) ∧ ((xs 3) = (3 : Int32)) ∧ (rcmp 2 (xs 4) (0 : Int32) = false) ∧ (rcmp 4 (xs 4) (65536 : Int32) = false) ∧ True from ⟨h0, t1_3, t2_3, t3_3, b4, b5, t1_3, t2_3, t3_3, b4, (rg4f (by have z0 := ri2f b4; have z1 := ri5t b5; have y0 := li_0; have y1 := li_65536; omega)), trivial⟩)
          | false =>
            exact rOk_of rr862 (show ((rop 3 (xs 0) (31 : Int32)) = (17 : Int32)) ∧ ((xs 1) = (3 : Int32)) ∧ ((xs 2) = (3 : Int32)) ∧ ((xs 3) = (3 : Int32)) ∧ (rcmp 2 (xs 4) (0 : Int32) = false) ∧ (rcmp 5 (xs 4) (65536 : Int32) = false) ∧ ((xs 1) = (3 : Int32)) ∧ ((xs 2) = (3 : Int32)) ∧ ((xs 3) = (3 : Int32)) ∧ (rcmp 2 (xs 4) (0 : Int32) = false) ∧ (rcmp 4 (xs 4) (65536 : Int32) = true) ∧ True from ⟨h0, t1_3, t2_3, t3_3, b4, b5, t1_3, t2_3, t3_3, b4, (rg4t (by have z0 := ri2f b4; have z1 := ri5f b5; have y0 := li_0; have y1 := li_65536; omega)), trivial⟩)
      by_cases t3_4 : (xs 3) = (4 : Int32)
      · cases b4 : rcmp 2 (xs 4) (0 : Int32) with
        | true =>
          exact rOk_of rr867 (show ((rop 3 (xs 0) (31 : Int32)) = (17 : Int32)) ∧ ((xs 1) = (3 : Int32)) ∧ ((xs 2) = (3 : Int32)) ∧ ((xs 3) = (4 : Int32)) ∧ (rcmp 2 (xs 4) (0 : Int32) = true) ∧ ((xs 1) = (3 : Int32)) ∧ ((xs 2) = (3 : Int32)) ∧ ((xs 3) = (4 : Int32)) ∧ (rcmp 2 (xs 4) (0 : Int32) = true) ∧ True from ⟨h0, t1_3, t2_3, t3_4, b4, t1_3, t2_3, t3_4, b4, trivial⟩)
        | false =>
          cases b5 : rcmp 5 (xs 4) (65536 : Int32) with
          | true =>
            exact rOk_of rr866 (show ((rop 3 (xs 0) (31 : Int32)) = (17 : Int32)) ∧ ((xs 1) = (3 : Int32)) ∧ ((xs 2) = (3 : Int32)) ∧ ((xs 3) = (4 : Int32)) ∧ (rcmp 2 (xs 4) (0 : Int32) = false) ∧ (rcmp 5 (xs 4) (65536 : Int32) = true) ∧ ((xs 1) = (3 : Int32)) ∧ ((xs 2) = (3 : Int32)) ∧ ((xs 3) = (4 : Int32)) ∧ (rcmp 2 (xs 4) (0 : Int32) = false) ∧ (rcmp 4 (xs 4) (65536 : Int32) = false) ∧ True from ⟨h0, t1_3, t2_3, t3_4, b4, b5, t1_3, t2_3, t3_4, b4, (rg4f (by have z0 := ri2f b4; have z1 := ri5t b5; have y0 := li_0; have y1 := li_65536; omega)), trivial⟩)
          | false =>
            exact rOk_of rr865 (show ((rop 3 (xs 0) (31 : Int32)) = (17 : Int32)) ∧ ((xs 1) = (3 : Int32)) ∧ ((xs 2) = (3 : Int32)) ∧ ((xs 3) = (4 : Int32)) ∧ (rcmp 2 (xs 4) (0 : Int32) = false) ∧ (rcmp 5 (xs 4) (65536 : Int32) = false) ∧ ((xs 1) = (3 : Int32)) ∧ ((xs 2) = (3 : Int32)) ∧ ((xs 3) = (4 : Int32)) ∧ (rcmp 2 (xs 4) (0 : Int32) = false) ∧ (rcmp 4 (xs 4) (65536 : Int32) = true) ∧ True from ⟨h0, t1_3, t2_3, t3_4, b4, b5, t1_3, t2_3, t3_4, b4, (rg4t (by have z0 := ri2f b4; have z1 := ri5f b5; have y0 := li_0; have y1 := li_65536; omega)), trivial⟩)
      cases b3 : rcmp 2 (xs 3) (0 : Int32) with
      | true =>
        exact rOk_of rr852 (show ((rop 3 (xs 0) (31 : Int32)) = (17 : Int32)) ∧ ((xs 1) = (3 : Int32)) ∧ ((xs 2) = (3 : Int32)) ∧ (rcmp 2 (xs 3) (0 : Int32) = true) ∧ ((xs 1) = (3 : Int32)) ∧ ((xs 2) = (3 : Int32)) ∧ (rcmp 2 (xs 3) (0 : Int32) = true) ∧ True from ⟨h0, t1_3, t2_3, b3, t1_3, t2_3, b3, trivial⟩)
      | false =>
        exact rOk_of rr851 (show ((rop 3 (xs 0) (31 : Int32)) = (17 : Int32)) ∧ ((xs 1) = (3 : Int32)) ∧ ((xs 2) = (3 : Int32)) ∧ (rcmp 2 (xs 3) (0 : Int32) = false) ∧ (rcmp 4 (xs 3) (4 : Int32) = true) ∧ ((xs 1) = (3 : Int32)) ∧ ((xs 2) = (3 : Int32)) ∧ (rcmp 2 (xs 3) (0 : Int32) = false) ∧ (rcmp 4 (xs 3) (4 : Int32) = true) ∧ True from ⟨h0, t1_3, t2_3, b3, (rg4t (by have z0 := rine t3_0; have z1 := rine t3_1; have z2 := rine t3_2; have z3 := rine t3_3; have z4 := rine t3_4; have z5 := ri2f b3; have y0 := li_0; have y1 := li_1; have y2 := li_2; have y3 := li_3; have y4 := li_4; omega)), t1_3, t2_3, b3, (rg4t (by have z0 := rine t3_0; have z1 := rine t3_1; have z2 := rine t3_2; have z3 := rine t3_3; have z4 := rine t3_4; have z5 := ri2f b3; have y0 := li_0; have y1 := li_1; have y2 := li_2; have y3 := li_3; have y4 := li_4; omega)), trivial⟩)
    cases b2 : rcmp 2 (xs 2) (0 : Int32) with
    | true =>
      exact rOk_of rr799 (show ((rop 3 (xs 0) (31 : Int32)) = (17 : Int32)) ∧ ((xs 1) = (3 : Int32)) ∧ (rcmp 2 (xs 2) (0 : Int32) = true) ∧ ((xs 1) = (3 : Int32)) ∧ (rcmp 2 (xs 2) (0 : Int32) = true) ∧ True from ⟨h0, t1_3, b2, t1_3, b2, trivial⟩)
    | false =>
      exact rOk_of rr798 (show ((rop 3 (xs 0) (31 : Int32)) = (17 : Int32)) ∧ ((xs 1) = (3 : Int32)) ∧ (rcmp 2 (xs 2) (0 : Int32) = false) ∧ (rcmp 4 (xs 2) (3 : Int32) = true) ∧ ((xs 1) = (3 : Int32)) ∧ (rcmp 2 (xs 2) (0 : Int32) = false) ∧ (rcmp 3 (xs 2) (4 : Int32) = true) ∧ True from ⟨h0, t1_3, b2, (rg4t (by have z0 := rine t2_0; have z1 := rine t2_1; have z2 := rine t2_2; have z3 := rine t2_3; have z4 := ri2f b2; have y0 := li_0; have y1 := li_1; have y2 := li_2; have y3 := li_3; omega)), t1_3, b2, (rg3t (by have z0 := rine t2_0; have z1 := rine t2_1; have z2 := rine t2_2; have z3 := rine t2_3; have z4 := ri2f b2; have y0 := li_0; have y1 := li_1; have y2 := li_2; have y3 := li_3; have y4 := li_4; omega)), trivial⟩)
  cases b1 : rcmp 2 (xs 1) (0 : Int32) with
  | true =>
    exact rOk_of rr587 (show ((rop 3 (xs 0) (31 : Int32)) = (17 : Int32)) ∧ (rcmp 2 (xs 1) (0 : Int32) = true) ∧ (rcmp 2 (xs 1) (0 : Int32) = true) ∧ True from ⟨h0, b1, b1, trivial⟩)
  | false =>
    exact rOk_of rr586 (show ((rop 3 (xs 0) (31 : Int32)) = (17 : Int32)) ∧ (rcmp 2 (xs 1) (0 : Int32) = false) ∧ (rcmp 4 (xs 1) (3 : Int32) = true) ∧ (rcmp 2 (xs 1) (0 : Int32) = false) ∧ (rcmp 3 (xs 1) (4 : Int32) = true) ∧ True from ⟨h0, b1, (rg4t (by have z0 := rine t1_0; have z1 := rine t1_1; have z2 := rine t1_2; have z3 := rine t1_3; have z4 := ri2f b1; have y0 := li_0; have y1 := li_1; have y2 := li_2; have y3 := li_3; omega)), b1, (rg3t (by have z0 := rine t1_0; have z1 := rine t1_1; have z2 := rine t1_2; have z3 := rine t1_3; have z4 := ri2f b1; have y0 := li_0; have y1 := li_1; have y2 := li_2; have y3 := li_3; have y4 := li_4; omega)), trivial⟩)
