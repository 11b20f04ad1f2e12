set_option maxHeartbeats 4000000 in
set_option maxRecDepth 100000 in
theorem cov4 (xs : Nat → Int32) (h0 : (rop 3 (xs 0) (31 : Int32)) = (4 : Int32)) : rOk 6 xs := by
  by_cases t1_0 : (xs 1) = (0 : Int32)
  · by_cases t2_0 : (xs 2) = (0 : Int32)
    · by_cases t3_0 : (xs 3) = (0 : Int32)
      · by_cases t4_0 : (xs 4) = (0 : Int32)
        · exact rOk_of rr87 (show ((rop 3 (xs 0) (31 : Int32)) = (4 : Int32)) ∧ ((xs 1) = (0 : Int32)) ∧ ((xs 2) = (0 : Int32)) ∧ ((xs 3) = (0 : Int32)) ∧ ((xs 4) = (0 : Int32)) ∧ ((xs 1) = (0 : Int32)) ∧ ((xs 2) = (0 : Int32)) ∧ ((xs 3) = (0 : Int32)) ∧ ((xs 4) = (0 : Int32)) ∧ True from ⟨h0, t1_0, t2_0, t3_0, t4_0, t1_0, t2_0, t3_0, t4_0, trivial⟩)
        cases b4 : rcmp 4 (0 : Int32) (xs 4) with
        | true =>
          exact rOk_of rr86 (show ((rop 3 (xs 0) (31 : Int32)) = (4 : Int32)) ∧ ((xs 1) = (0 : Int32)) ∧ ((xs 2) = (0 : Int32)) ∧ ((xs 3) = (0 : Int32)) ∧ (rcmp 4 (0 : Int32) (xs 4) = true) ∧ ((xs 1) = (0 : Int32)) ∧ ((xs 2) = (0 : Int32)) ∧ ((xs 3) = (0 : Int32)) ∧ (rcmp 4 (0 : Int32) (xs 4) = true) ∧ True from ⟨h0, t1_0, t2_0, t3_0, b4, t1_0, t2_0, t3_0, b4, trivial⟩)
        | false =>
          exact rOk_of rr85 (show ((rop 3 (xs 0) (31 : Int32)) = (4 : Int32)) ∧ ((xs 1) = (0 : Int32)) ∧ ((xs 2) = (0 : Int32)) ∧ ((xs 3) = (0 : Int32)) ∧ (rcmp 4 (0 : Int32) (xs 4) = false) ∧ (rcmp 4 (xs 4) (0 : Int32) = true) ∧ ((xs 1) = (0 : Int32)) ∧ ((xs 2) = (0 : Int32)) ∧ ((xs 3) = (0 : Int32)) ∧ (rcmp 4 (0 : Int32) (xs 4) = false) ∧ (rcmp 4 (xs 4) (0 : Int32) = true) ∧ True from ⟨h0, t1_0, t2_0, t3_0, b4, (rg4t (by have z0 := rine t4_0; have z1 := ri4f b4; have y0 := li_0; omega)), t1_0, t2_0, t3_0, b4, (rg4t (by have z0 := rine t4_0; have z1 := ri4f b4; have y0 := li_0; omega)), trivial⟩)
      cases b3 : rcmp 4 (0 : Int32) (xs 3) with
      | true =>
        exact rOk_of rr84 (show ((rop 3 (xs 0) (31 : Int32)) = (4 : Int32)) ∧ ((xs 1) = (0 : Int32)) ∧ ((xs 2) = (0 : Int32)) ∧ (rcmp 4 (0 : Int32) (xs 3) = true) ∧ ((xs 1) = (0 : Int32)) ∧ ((xs 2) = (0 : Int32)) ∧ (rcmp 2 (xs 3) (0 : Int32) = true) ∧ True from ⟨h0, t1_0, t2_0, b3, t1_0, t2_0, (rg2t (by have z0 := rine t3_0; have z1 := ri4t b3; have y0 := li_0; omega)), trivial⟩)
      | false =>
        cases b4 : rcmp 4 (xs 3) (xs 4) with
        | true =>
          exact rOk_of rr83 (show ((rop 3 (xs 0) (31 : Int32)) = (4 : Int32)) ∧ ((xs 1) = (0 : Int32)) ∧ ((xs 2) = (0 : Int32)) ∧ (rcmp 4 (0 : Int32) (xs 3) = false) ∧ (rcmp 4 (xs 3) (xs 4) = true) ∧ ((xs 1) = (0 : Int32)) ∧ ((xs 2) = (0 : Int32)) ∧ (rcmp 2 (xs 3) (0 : Int32) = false) ∧ (rcmp 4 (xs 3) (xs 4) = true) ∧ True from ⟨h0, t1_0, t2_0, b3, b4, t1_0, t2_0, (rg2f (by have z0 := rine t3_0; have z1 := ri4f b3; have z2 := ri4t b4; have y0 := li_0; omega)), b4, trivial⟩)
        | false =>
          exact rOk_of rr82 (show ((rop 3 (xs 0) (31 : Int32)) = (4 : Int32)) ∧ ((xs 1) = (0 : Int32)) ∧ ((xs 2) = (0 : Int32)) ∧ (rcmp 4 (0 : Int32) (xs 3) = false) ∧ (rcmp 4 (xs 3) (xs 4) = false) ∧ (rcmp 4 (xs 4) (0 : Int32) = true) ∧ ((xs 1) = (0 : Int32)) ∧ ((xs 2) = (0 : Int32)) ∧ (rcmp 2 (xs 3) (0 : Int32) = false) ∧ (rcmp 4 (xs 3) (xs 4) = false) ∧ (rcmp 4 (xs 4) (0 : Int32) = true) ∧ True from ⟨h0, t1_0, t2_0, b3, b4, (rg4t (by have z0 := rine t3_0; have z1 := ri4f b3; have z2 := ri4f b4; have y0 := li_0; omega)), t1_0, t2_0, (rg2f (by have z0 := rine t3_0; have z1 := ri4f b3; have z2 := ri4f b4; have y0 := li_0; omega)), b4, (rg4t (by have z0 := rine t3_0; have z1 := ri4f b3; have z2 := ri4f b4; have y0 := li_0; omega)), trivial⟩)
    by_cases t2_1 : (xs 2) = (1 : Int32)
    · by_cases t3_0 : (xs 3) = (0 : Int32)
      · by_cases t4_0 : (xs 4) = (0 : Int32)
        · exact rOk_of rr93 (show ((rop 3 (xs 0) (31 : Int32)) = (4 : Int32)) ∧ ((xs 1) = (0 : Int32)) ∧ ((xs 2) = (1 : Int32)) ∧ ((xs 3) = (0 : Int32)) ∧ ((xs 4) = (0 : Int32)) ∧ ((xs 1) = (0 : Int32)) ∧ ((xs 2) = (1 : Int32)) ∧ ((xs 3) = (0 : Int32)) ∧ ((xs 4) = (0 : Int32)) ∧ True from ⟨h0, t1_0, t2_1, t3_0, t4_0, t1_0, t2_1, t3_0, t4_0, trivial⟩)
        cases b4 : rcmp 4 (0 : Int32) (xs 4) with
        | true =>
          exact rOk_of rr92 (show ((rop 3 (xs 0) (31 : Int32)) = (4 : Int32)) ∧ ((xs 1) = (0 : Int32)) ∧ ((xs 2) = (1 : Int32)) ∧ ((xs 3) = (0 : Int32)) ∧ (rcmp 4 (0 : Int32) (xs 4) = true) ∧ ((xs 1) = (0 : Int32)) ∧ ((xs 2) = (1 : Int32)) ∧ ((xs 3) = (0 : Int32)) ∧ (rcmp 4 (0 : Int32) (xs 4) = true) ∧ True from ⟨h0, t1_0, t2_1, t3_0, b4, t1_0, t2_1, t3_0, b4, trivial⟩)
        | false =>
          exact rOk_of rr91 (show ((rop 3 (xs 0) (31 : Int32)) = (4 : Int32)) ∧ ((xs 1) = (0 : Int32)) ∧ ((xs 2) = (1 : Int32)) ∧ ((xs 3) = (0 : Int32)) ∧ (rcmp 4 (0 : Int32) (xs 4) = false) ∧ (rcmp 4 (xs 4) (0 : Int32) = true) ∧ ((xs 1) = (0 : Int32)) ∧ ((xs 2) = (1 : Int32)) ∧ ((xs 3) = (0 : Int32)) ∧ (rcmp 4 (0 : Int32) (xs 4) = false) ∧ (rcmp 4 (xs 4) (0 : Int32) = true) ∧ True from ⟨h0, t1_0, t2_1, t3_0, b4, (rg4t (by have z0 := rine t4_0; have z1 := ri4f b4; have y0 := li_0; omega)), t1_0, t2_1, t3_0, b4, (rg4t (by have z0 := rine t4_0; have z1 := ri4f b4; have y0 := li_0; omega)), trivial⟩)
      cases b3 : rcmp 4 (0 : Int32) (xs 3) with
      | true =>
        exact rOk_of rr90 (show ((rop 3 (xs 0) (31 : Int32)) = (4 : Int32)) ∧ ((xs 1) = (0 : Int32)) ∧ ((xs 2) = (1 : Int32)) ∧ (rcmp 4 (0 : Int32) (xs 3) = true) ∧ ((xs 1) = (0 : Int32)) ∧ ((xs 2) = (1 : Int32)) ∧ (rcmp 2 (xs 3) (0 : Int32) = true) ∧ True from ⟨h0, t1_0, t2_1, b3, t1_0, t2_1, (rg2t (by have z0 := rine t3_0; have z1 := ri4t b3; have y0 := li_0; omega)), trivial⟩)
      | false =>
        cases b4 : rcmp 4 (xs 3) (xs 4) with
        | true =>
          exact rOk_of rr89 (show ((rop 3 (xs 0) (31 : Int32)) = (4 : Int32)) ∧ ((xs 1) = (0 : Int32)) ∧ ((xs 2) = (1 : Int32)) ∧ (rcmp 4 (0 : Int32) (xs 3) = false) ∧ (rcmp 4 (xs 3) (xs 4) = true) ∧ ((xs 1) = (0 : Int32)) ∧ ((xs 2) = (1 : Int32)) ∧ (rcmp 2 (xs 3) (0 : Int32) = false) ∧ (rcmp 4 (xs 3) (xs 4) = true) ∧ True from ⟨h0, t1_0, t2_1, b3, b4, t1_0, t2_1, (rg2f (by have z0 := rine t3_0; have z1 := ri4f b3; have z2 := ri4t b4; have y0 := li_0; omega)), b4, trivial⟩)
        | false =>
          exact rOk_of rr88 (show ((rop 3 (xs 0) (31 : Int32)) = (4 : Int32)) ∧ ((xs 1) = (0 : Int32)) ∧ ((xs 2) = (1 : Int32)) ∧ (rcmp 4 (0 : Int32) (xs 3) = false) ∧ (rcmp 4 (xs 3) (xs 4) = false) ∧ (rcmp 4 (xs 4) (0 : Int32) = true) ∧ ((xs 1) = (0 : Int32)) ∧ ((xs 2) = (1 : Int32)) ∧ (rcmp 2 (xs 3) (0 : Int32) = false) ∧ (rcmp 4 (xs 3) (xs 4) = false) ∧ (rcmp 4 (xs 4) (0 : Int32) = true) ∧ True from ⟨h0, t1_0, t2_1, b3, b4, (rg4t (by have z0 := rine t3_0; have z1 := ri4f b3; have z2 := ri4f b4; have y0 := li_0; omega)), t1_0, t2_1, (rg2f (by have z0 := rine t3_0; have z1 := ri4f b3; have z2 := ri4f b4; have y0 := li_0; omega)), b4, (rg4t (by have z0 := rine t3_0; have z1 := ri4f b3; have z2 := ri4f b4; have y0 := li_0; omega)), trivial⟩)
    by_cases t2_2 : (xs 2) = (2 : Int32)
    · by_cases t3_0 : (xs 3) = (0 : Int32)
      · by_cases t4_0 : (xs 4) = (0 : Int32)
        · exact rOk_of rr99 (show ((rop 3 (xs 0) (31 : Int32)) = (4 : Int32)) ∧ ((xs 1) = (0 : Int32)) ∧ ((xs 2) = (2 : Int32)) ∧ ((xs 3) = (0 : Int32)) ∧ ((xs 4) = (0 : Int32)) ∧ ((xs 1) = (0 : Int32)) ∧ ((xs 2) = (2 : Int32)) ∧ ((xs 3) = (0 : Int32)) ∧ ((xs 4) = (0 : Int32)) ∧ True from ⟨h0, t1_0, t2_2, t3_0, t4_0, t1_0, t2_2, t3_0, t4_0, trivial⟩)
        cases b4 : rcmp 4 (0 : Int32) (xs 4) with
        | true =>
          exact rOk_of rr98 (show ((rop 3 (xs 0) (31 : Int32)) = (4 : Int32)) ∧ ((xs 1) = (0 : Int32)) ∧ ((xs 2) = (2 : Int32)) ∧ ((xs 3) = (0 : Int32)) ∧ (rcmp 4 (0 : Int32) (xs 4) = true) ∧ ((xs 1) = (0 : Int32)) ∧ ((xs 2) = (2 : Int32)) ∧ ((xs 3) = (0 : Int32)) ∧ (rcmp 4 (0 : Int32) (xs 4) = true) ∧ True from ⟨h0, t1_0, t2_2, t3_0, b4, t1_0, t2_2, t3_0, b4, trivial⟩)
        | false =>
          exact rOk_of rr97 (show ((rop 3 (xs 0) (31 : Int32)) = (4 : Int32)) ∧ ((xs 1) = (0 : Int32)) ∧ ((xs 2) = (2 : Int32)) ∧ ((xs 3) = (0 : Int32)) ∧ (rcmp 4 (0 : Int32) (xs 4) = false) ∧ (rcmp 4 (xs 4) (0 : Int32) = true) ∧ ((xs 1) = (0 : Int32)) ∧ ((xs 2) = (2 : Int32)) ∧ ((xs 3) = (0 : Int32)) ∧ (rcmp 4 (0 : Int32) (xs 4) = false) ∧ (rcmp 4 (xs 4) (0 : Int32) = true) ∧ True from ⟨h0, t1_0, t2_2, t3_0, b4, (rg4t (by have z0 := rine t4_0; have z1 := ri4f b4; have y0 := li_0; omega)), t1_0, t2_2, t3_0, b4, (rg4t (by have z0 := rine t4_0; have z1 := ri4f b4; have y0 := li_0; omega)), trivial⟩)
      cases b3 : rcmp 4 (0 : Int32) (xs 3) with
      | true =>
        exact rOk_of rr96 (show ((rop 3 (xs 0) (31 : Int32)) = (4 : Int32)) ∧ ((xs 1) = (0 : Int32)) ∧ ((xs 2) = (2 : Int32)) ∧ (rcmp 4 (0 : Int32) (xs 3) = true) ∧ ((xs 1) = (0 : Int32)) ∧ ((xs 2) = (2 : Int32)) ∧ (rcmp 2 (xs 3) (0 : Int32) = true) ∧ True from ⟨h0, t1_0, t2_2, b3, t1_0, t2_2, (rg2t (by have z0 := rine t3_0; have z1 := ri4t b3; have y0 := li_0; omega)), trivial⟩)
      | false =>
        cases b4 : rcmp 4 (xs 3) (xs 4) with
        | true =>
          exact rOk_of rr95 (show ((rop 3 (xs 0) (31 : Int32)) = (4 : Int32)) ∧ ((xs 1) = (0 : Int32)) ∧ ((xs 2) = (2 : Int32)) ∧ (rcmp 4 (0 : Int32) (xs 3) = false) ∧ (rcmp 4 (xs 3) (xs 4) = true) ∧ ((xs 1) = (0 : Int32)) ∧ ((xs 2) = (2 : Int32)) ∧ (rcmp 2 (xs 3) (0 : Int32) = false) ∧ (rcmp 4 (xs 3) (xs 4) = true) ∧ True from ⟨h0, t1_0, t2_2, b3, b4, t1_0, t2_2, (rg2f (by have z0 := rine t3_0; have z1 := ri4f b3; have z2 := ri4t b4; have y0 := li_0; omega)), b4, trivial⟩)
        | false =>
          exact rOk_of rr94 (show ((rop 3 (xs 0) (31 : Int32)) = (4 : Int32)) ∧ ((xs 1) = (0 : Int32)) ∧ ((xs 2) = (2 : Int32)) ∧ (rcmp 4 (0 : Int32) (xs 3) = false) ∧ (rcmp 4 (xs 3) (xs 4) = false) ∧ (rcmp 4 (xs 4) (0 : Int32) = true) ∧ ((xs 1) = (0 : Int32)) ∧ ((xs 2) = (2 : Int32)) ∧ (rcmp 2 (xs 3) (0 : Int32) = false) ∧ (rcmp 4 (xs 3) (xs 4) = false) ∧ (rcmp 4 (xs 4) (0 : Int32) = true) ∧ True from ⟨h0, t1_0, t2_2, b3, b4, (rg4t (by have z0 := rine t3_0; have z1 := ri4f b3; have z2 := ri4f b4; have y0 := li_0; omega)), t1_0, t2_2, (rg2f (by have z0 := rine t3_0; have z1 := ri4f b3; have z2 := ri4f b4; have y0 := li_0; omega)), b4, (rg4t (by have z0 := rine t3_0; have z1 := ri4f b3; have z2 := ri4f b4; have y0 := li_0; omega)), trivial⟩)
    by_cases t2_3 : (xs 2) = (3 : Int32)
    · by_cases t3_0 : (xs 3) = (0 : Int32)
      · by_cases t4_0 : (xs 4) = (0 : Int32)
        · exact rOk_of rr105 (show ((rop 3 (xs 0) (31 : Int32)) = (4 : Int32)) ∧ ((xs 1) = (0 : Int32)) ∧ ((xs 2) = (3 : Int32)) ∧ ((xs 3) = (0 : Int32)) ∧ ((xs 4) = (0 : Int32)) ∧ ((xs 1) = (0 : Int32)) ∧ ((xs 2) = (3 : Int32)) ∧ ((xs 3) = (0 : Int32)) ∧ ((xs 4) = (0 : Int32)) ∧ True from ⟨h0, t1_0, t2_3, t3_0, t4_0, t1_0, t2_3, t3_0, t4_0, trivial⟩)
        cases b4 : rcmp 4 (0 : Int32) (xs 4) with
        | true =>
          exact rOk_of rr104 (show ((rop 3 (xs 0) (31 : Int32)) = (4 : Int32)) ∧ ((xs 1) = (0 : Int32)) ∧ ((xs 2) = (3 : Int32)) ∧ ((xs 3) = (0 : Int32)) ∧ (rcmp 4 (0 : Int32) (xs 4) = true) ∧ ((xs 1) = (0 : Int32)) ∧ ((xs 2) = (3 : Int32)) ∧ ((xs 3) = (0 : Int32)) ∧ (rcmp 4 (0 : Int32) (xs 4) = true) ∧ True from ⟨h0, t1_0, t2_3, t3_0, b4, t1_0, t2_3, t3_0, b4, trivial⟩)
        | false =>
          exact rOk_of rr103 (show ((rop 3 (xs 0) (31 : Int32)) = (4 : Int32)) ∧ ((xs 1) = (0 : Int32)) ∧ ((xs 2) = (3 : Int32)) ∧ ((xs 3) = (0 : Int32)) ∧ (rcmp 4 (0 : Int32) (xs 4) = false) ∧ (rcmp 4 (xs 4) (0 : Int32) = true) ∧ ((xs 1) = (0 : Int32)) ∧ ((xs 2) = (3 : Int32)) ∧ ((xs 3) = (0 : Int32)) ∧ (rcmp 4 (0 : Int32) (xs 4) = false) ∧ (rcmp 4 (xs 4) (0 : Int32) = true) ∧ True from ⟨h0, t1_0, t2_3, t3_0, b4, (rg4t (by have z0 := rine t4_0; have z1 := ri4f b4; have y0 := li_0; omega)), t1_0, t2_3, t3_0, b4, (rg4t (by have z0 := rine t4_0; have z1 := ri4f b4; have y0 := li_0; omega)), trivial⟩)
      cases b3 : rcmp 4 (0 : Int32) (xs 3) with
      | true =>
        exact rOk_of rr102 (show ((rop 3 (xs 0) (31 : Int32)) = (4 : Int32)) ∧ ((xs 1) = (0 : Int32)) ∧ ((xs 2) = (3 : Int32)) ∧ (rcmp 4 (0 : Int32) (xs 3) = true) ∧ ((xs 1) = (0 : Int32)) ∧ ((xs 2) = (3 : Int32)) ∧ (rcmp 2 (xs 3) (0 : Int32) = true) ∧ True from ⟨h0, t1_0, t2_3, b3, t1_0, t2_3, (rg2t (by have z0 := rine t3_0; have z1 := ri4t b3; have y0 := li_0; omega)), trivial⟩)
      | false =>
        cases b4 : rcmp 4 (xs 3) (xs 4) with
        | true =>
          exact rOk_of rr101 (show ((rop 3 (xs 0) (31 : Int32)) = (4 : Int32)) ∧ ((xs 1) = (0 : Int32)) ∧ ((xs 2) = (3 : Int32)) ∧ (rcmp 4 (0 : Int32) (xs 3) = false) ∧ (rcmp 4 (xs 3) (xs 4) = true) ∧ ((xs 1) = (0 : Int32)) ∧ ((xs 2) = (3 : Int32)) ∧ (rcmp 2 (xs 3) (0 : Int32) = false) ∧ (rcmp 4 (xs 3) (xs 4) = true) ∧ True from ⟨h0, t1_0, t2_3, b3, b4, t1_0, t2_3, (rg2f (by have z0 := rine t3_0; have z1 := ri4f b3; have z2 := ri4t b4; have y0 := li_0; omega)), b4, trivial⟩)
        | false =>
          exact rOk_of rr100 (show ((rop 3 (xs 0) (31 : Int32)) = (4 : Int32)) ∧ ((xs 1) = (0 : Int32)) ∧ ((xs 2) = (3 : Int32)) ∧ (rcmp 4 (0 : Int32) (xs 3) = false) ∧ (rcmp 4 (xs 3) (xs 4) = false) ∧ (rcmp 4 (xs 4) (0 : Int32) = true) ∧ ((xs 1) = (0 : Int32)) ∧ ((xs 2) = (3 : Int32)) ∧ (rcmp 2 (xs 3) (0 : Int32) = false) ∧ (rcmp 4 (xs 3) (xs 4) = false) ∧ (rcmp 4 (xs 4) (0 : Int32) = true) ∧ True from ⟨h0, t1_0, t2_3, b3, b4, (rg4t (by have z0 := rine t3_0; have z1 := ri4f b3; have z2 := ri4f b4; have y0 := li_0; omega)), t1_0, t2_3, (rg2f (by have z0 := rine t3_0; have z1 := ri4f b3; have z2 := ri4f b4; have y0 := li_0; omega)), b4, (rg4t (by have z0 := rine t3_0; have z1 := ri4f b3; have z2 := ri4f b4; have y0 := li_0; omega)), trivial⟩)
    cases b2 : rcmp 2 (xs 2) (0 : Int32) with
    | true =>
      exact rOk_of rr81 (show ((rop 3 (xs 0) (31 : Int32)) = (4 : Int32)) ∧ ((xs 1) = (0 : Int32)) ∧ (rcmp 2 (xs 2) (0 : Int32) = true) ∧ ((xs 1) = (0 : Int32)) ∧ (rcmp 2 (xs 2) (0 : Int32) = true) ∧ True from ⟨h0, t1_0, b2, t1_0, b2, trivial⟩)
    | false =>
      exact rOk_of rr80 (show ((rop 3 (xs 0) (31 : Int32)) = (4 : Int32)) ∧ ((xs 1) = (0 : Int32)) ∧ (rcmp 2 (xs 2) (0 : Int32) = false) ∧ (rcmp 4 (xs 2) (3 : Int32) = true) ∧ ((xs 1) = (0 : Int32)) ∧ (rcmp 2 (xs 2) (0 : Int32) = false) ∧ (rcmp 3 (xs 2) (4 : Int32) = true) ∧ True from ⟨h0, t1_0, b2, (rg4t (by have z0 := rine t2_0; have z1 := rine t2_1; have z2 := rine t2_2; have z3 := rine t2_3; have z4 := ri2f b2; have y0 := li_0; have y1 := li_1; have y2 := li_2; have y3 := li_3; omega)), t1_0, b2, (rg3t (by have z0 := rine t2_0; have z1 := rine t2_1; have z2 := rine t2_2; have z3 := rine t2_3; have z4 := ri2f b2; have y0 := li_0; have y1 := li_1; have y2 := li_2; have y3 := li_3; have y4 := li_4; omega)), trivial⟩)
  by_cases t1_1 : (xs 1) = (1 : Int32)
  · by_cases t2_0 : (xs 2) = (0 : Int32)
    · by_cases t3_0 : (xs 3) = (0 : Int32)
      · by_cases t4_0 : (xs 4) = (0 : Int32)
        · exact rOk_of rr113 (show ((rop 3 (xs 0) (31 : Int32)) = (4 : Int32)) ∧ ((xs 1) = (1 : Int32)) ∧ ((xs 2) = (0 : Int32)) ∧ ((xs 3) = (0 : Int32)) ∧ ((xs 4) = (0 : Int32)) ∧ ((xs 1) = (1 : Int32)) ∧ ((xs 2) = (0 : Int32)) ∧ ((xs 3) = (0 : Int32)) ∧ ((xs 4) = (0 : Int32)) ∧ True from ⟨h0, t1_1, t2_0, t3_0, t4_0, t1_1, t2_0, t3_0, t4_0, trivial⟩)
        cases b4 : rcmp 4 (0 : Int32) (xs 4) with
        | true =>
          exact rOk_of rr112 (show ((rop 3 (xs 0) (31 : Int32)) = (4 : Int32)) ∧ ((xs 1) = (1 : Int32)) ∧ ((xs 2) = (0 : Int32)) ∧ ((xs 3) = (0 : Int32)) ∧ (rcmp 4 (0 : Int32) (xs 4) = true) ∧ ((xs 1) = (1 : Int32)) ∧ ((xs 2) = (0 : Int32)) ∧ ((xs 3) = (0 : Int32)) ∧ (rcmp 4 (0 : Int32) (xs 4) = true) ∧ True from ⟨h0, t1_1, t2_0, t3_0, b4, t1_1, t2_0, t3_0, b4, trivial⟩)
        | false =>
          exact rOk_of rr111 (show ((rop 3 (xs 0) (31 : Int32)) = (4 : Int32)) ∧ ((xs 1) = (1 : Int32)) ∧ ((xs 2) = (0 : Int32)) ∧ ((xs 3) = (0 : Int32)) ∧ (rcmp 4 (0 : Int32) (xs 4) = false) ∧ (rcmp 4 (xs 4) (0 : Int32) = true) ∧ ((xs 1) = (1 : Int32)) ∧ ((xs 2) = (0 : Int32)) ∧ ((xs 3) = (0 : Int32)) ∧ (rcmp 4 (0 : Int32) (xs 4) = false) ∧ (rcmp 4 (xs 4) (0 : Int32) = true) ∧ True from ⟨h0, t1_1, t2_0, t3_0, b4, (rg4t (by have z0 := rine t4_0; have z1 := ri4f b4; have y0 := li_0; omega)), t1_1, t2_0, t3_0, b4, (rg4t (by have z0 := rine t4_0; have z1 := ri4f b4; have y0 := li_0; omega)), trivial⟩)
      cases b3 : rcmp 4 (0 : Int32) (xs 3) with
      | true =>
        exact rOk_of rr110 (show ((rop 3 (xs 0) (31 : Int32)) = (4 : Int32)) ∧ ((xs 1) = (1 : Int32)) ∧ ((xs 2) = (0 : Int32)) ∧ (rcmp 4 (0 : Int32) (xs 3) = true) ∧ ((xs 1) = (1 : Int32)) ∧ ((xs 2) = (0 : Int32)) ∧ (rcmp 2 (xs 3) (0 : Int32) = true) ∧ True from ⟨h0, t1_1, t2_0, b3, t1_1, t2_0, (rg2t (by have z0 := rine t3_0; have z1 := ri4t b3; have y0 := li_0; omega)), trivial⟩)
      | false =>
        cases b4 : rcmp 4 (xs 3) (xs 4) with
        | true =>
          exact rOk_of rr109 (show ((rop 3 (xs 0) (31 : Int32)) = (4 : Int32)) ∧ ((xs 1) = (1 : Int32)) ∧ ((xs 2) = (0 : Int32)) ∧ (rcmp 4 (0 : Int32) (xs 3) = false) ∧ (rcmp 4 (xs 3) (xs 4) = true) ∧ ((xs 1) = (1 : Int32)) ∧ ((xs 2) = (0 : Int32)) ∧ (rcmp 2 (xs 3) (0 : Int32) = false) ∧ (rcmp 4 (xs 3) (xs 4) = true) ∧ True from ⟨h0, t1_1, t2_0, b3, b4, t1_1, t2_0, (rg2f (by have z0 := rine t3_0; have z1 := ri4f b3; have z2 := ri4t b4; have y0 := li_0; omega)), b4, trivial⟩)
        | false =>
          exact rOk_of rr108 (show ((rop 3 (xs 0) (31 : Int32)) = (4 : Int32)) ∧ ((xs 1) = (1 : Int32)) ∧ ((xs 2) = (0 : Int32)) ∧ (rcmp 4 (0 : Int32) (xs 3) = false) ∧ (rcmp 4 (xs 3) (xs 4) = false) ∧ (rcmp 4 (xs 4) (0 : Int32) = true) ∧ ((xs 1) = (1 : Int32)) ∧ ((xs 2) = (0 : Int32)) ∧ (rcmp 2 (xs 3) (0 : Int32) = false) ∧ (rcmp 4 (xs 3) (xs 4) = false) ∧ (rcmp 4 (xs 4) (0 : Int32) = true) ∧ True from ⟨h0, t1_1, t2_0, b3, b4, (rg4t (by have z0 := rine t3_0; have z1 := ri4f b3; have z2 := ri4f b4; have y0 := li_0; omega)), t1_1, t2_0, (rg2f (by have z0 := rine t3_0; have z1 := ri4f b3; have z2 := ri4f b4; have y0 := li_0; omega)), b4, (rg4t (by have z0 := rine t3_0; have z1 := ri4f b3; have z2 := ri4f b4; have y0 := li_0; omega)), trivial⟩)
    by_cases t2_1 : (xs 2) = (1 : Int32)
    · by_cases t3_0 : (xs 3) = (0 : Int32)
      · by_cases t4_0 : (xs 4) = (0 : Int32)
        · exact rOk_of rr119 (show ((rop 3 (xs 0) (31 : Int32)) = (4 : Int32)) ∧ ((xs 1) = (1 : Int32)) ∧ ((xs 2) = (1 : Int32)) ∧ ((xs 3) = (0 : Int32)) ∧ ((xs 4) = (0 : Int32)) ∧ ((xs 1) = (1 : Int32)) ∧ ((xs 2) = (1 : Int32)) ∧ ((xs 3) = (0 : Int32)) ∧ ((xs 4) = (0 : Int32)) ∧ True from ⟨h0, t1_1, t2_1, t3_0, t4_0, t1_1, t2_1, t3_0, t4_0, trivial⟩)
        cases b4 : rcmp 4 (0 : Int32) (xs 4) with
        | true =>
          exact rOk_of rr118 (show ((rop 3 (xs 0) (31 : Int32)) = (4 : Int32)) ∧ ((xs 1) = (1 : Int32)) ∧ ((xs 2) = (1 : Int32)) ∧ ((xs 3) = (0 : Int32)) ∧ (rcmp 4 (0 : Int32) (xs 4) = true) ∧ ((xs 1) = (1 : Int32)) ∧ ((xs 2) = (1 : Int32)) ∧ ((xs 3) = (0 : Int32)) ∧ (rcmp 4 (0 : Int32) (xs 4) = true) ∧ True from ⟨h0, t1_1, t2_1, t3_0, b4, t1_1, t2_1, t3_0, b4, trivial⟩)
        | false =>
          exact rOk_of rr117 (show ((rop 3 (xs 0) (31 : Int32)) = (4 : Int32)) ∧ ((xs 1) = (1 : Int32)) ∧ ((xs 2) = (1 : Int32)) ∧ ((xs 3) = (0 : Int32)) ∧ (rcmp 4 (0 : Int32) (xs 4) = false) ∧ (rcmp 4 (xs 4) (0 : Int32) = true) ∧ ((xs 1) = (1 : Int32)) ∧ ((xs 2) = (1 : Int32)) ∧ ((xs 3) = (0 : Int32)) ∧ (rcmp 4 (0 : Int32) (xs 4) = false) ∧ (rcmp 4 (xs 4) (0 : Int32) = true) ∧ True from ⟨h0, t1_1, t2_1, t3_0, b4, (rg4t (by have z0 := rine t4_0; have z1 := ri4f b4; have y0 := li_0; omega)), t1_1, t2_1, t3_0, b4, (rg4t (by have z0 := rine t4_0; have z1 := ri4f b4; have y0 := li_0; omega)), trivial⟩)
      cases b3 : rcmp 4 (0 : Int32) (xs 3) with
      | true =>
        exact rOk_of rr116 (show ((rop 3 (xs 0) (31 : Int32)) = (4 : Int32)) ∧ ((xs 1) = (1 : Int32)) ∧ ((xs 2) = (1 : Int32)) ∧ (rcmp 4 (0 : Int32) (xs 3) = true) ∧ ((xs 1) = (1 : Int32)) ∧ ((xs 2) = (1 : Int32)) ∧ (rcmp 2 (xs 3) (0 : Int32) = true) ∧ True from ⟨h0, t1_1, t2_1, b3, t1_1, t2_1, (rg2t (by have z0 := rine t3_0; have z1 := ri4t b3; have y0 := li_0; omega)), trivial⟩)
      | false =>
        cases b4 : rcmp 4 (xs 3) (xs 4) with
        | true =>
          exact rOk_of rr115 (show ((rop 3 (xs 0) (31 : Int32)) = (4 : Int32)) ∧ ((xs 1) = (1 : Int32)) ∧ ((xs 2) = (1 : Int32)) ∧ (rcmp 4 (0 : Int32) (xs 3) = false) ∧ (rcmp 4 (xs 3) (xs 4) = true) ∧ ((xs 1) = (1 : Int32)) ∧ ((xs 2) = (1 : Int32)) ∧ (rcmp 2 (xs 3) (0 : Int32) = false) ∧ (rcmp 4 (xs 3) (xs 4) = true) ∧ True from ⟨h0, t1_1, t2_1, b3, b4, t1_1, t2_1, (rg2f (by have z0 := rine t3_0; have z1 := ri4f b3; have z2 := ri4t b4; have y0 := li_0; omega)), b4, trivial⟩)
        | false =>
          exact rOk_of rr114 (show ((rop 3 (xs 0) (31 : Int32)) = (4 : Int32)) ∧ ((xs 1) = (1 : Int32)) ∧ ((xs 2) = (1 : Int32)) ∧ (rcmp 4 (0 : Int32) (xs 3) = false) ∧ (rcmp 4 (xs 3) (xs 4) = false) ∧ (rcmp 4 (xs 4) (0 : Int32) = true) ∧ ((xs 1) = (1 : Int32)) ∧ ((xs 2) = (1 : Int32)) ∧ (rcmp 2 (xs 3) (0 : Int32) = false) ∧ (rcmp 4 (xs 3) (xs 4) = false) ∧ (rcmp 4 (xs 4) (0 : Int32) = true) ∧ True from ⟨h0, t1_1, t2_1, b3, b4, (rg4t (by have z0 := rine t3_0; have z1 := ri4f b3; have z2 := ri4f b4; have y0 := li_0; omega)), t1_1, t2_1, (rg2f (by have z0 := rine t3_0; have z1 := ri4f b3; have z2 := ri4f b4; have y0 := li_0; omega)), b4, (rg4t (by have z0 := rine t3_0; have z1 := ri4f b3; have z2 := ri4f b4; have y0 := li_0; omega)), trivial⟩)
    by_cases t2_2 : (xs 2) = (2 : Int32)
    · by_cases t3_0 : (xs 3) = (0 : Int32)
      · by_cases t4_0 : (xs 4) = (0 : Int32)
        · exact rOk_of rr125 (show ((rop 3 (xs 0) (31 : Int32)) = (4 : Int32)) ∧ ((xs 1) = (1 : Int32)) ∧ ((xs 2) = (2 : Int32)) ∧ ((xs 3) = (0 : Int32)) ∧ ((xs 4) = (0 : Int32)) ∧ ((xs 1) = (1 : Int32)) ∧ ((xs 2) = (2 : Int32)) ∧ ((xs 3) = (0 : Int32)) ∧ ((xs 4) = (0 : Int32)) ∧ True from ⟨h0, t1_1, t2_2, t3_0, t4_0, t1_1, t2_2, t3_0, t4_0, trivial⟩)
        cases b4 : rcmp 4 (0 : Int32) (xs 4) with
        | true =>
          exact rOk_of rr124 (show ((rop 3 (xs 0) (31 : Int32)) = (4 : Int32)) ∧ ((xs 1) = (1 : Int32)) ∧ ((xs 2) = (2 : Int32)) ∧ ((xs 3) = (0 : Int32)) ∧ (rcmp 4 (0 : Int32) (xs 4) = true) ∧ ((xs 1) = (1 : Int32)) ∧ ((xs 2) = (2 : Int32)) ∧ ((xs 3) = (0 : Int32)) ∧ (rcmp 4 (0 : Int32) (xs 4) = true) ∧ True from ⟨h0, t1_1, t2_2, t3_0, b4, t1_1, t2_2, t3_0, b4, trivial⟩)
        | false =>
          exact rOk_of rr123 (show ((rop 3 (xs 0) (31 : Int32)) = (4 : Int32)) ∧ ((xs 1) = (1 : Int32)) ∧ ((xs 2) = (2 : Int32)) ∧ ((xs 3) = (0 : Int32)) ∧ (rcmp 4 (0 : Int32) (xs 4) = false) ∧ (rcmp 4 (xs 4) (0 : Int32) = true) ∧ ((xs 1) = (1 : Int32)) ∧ ((xs 2) = (2 : Int32)) ∧ ((xs 3) = (0 : Int32)) ∧ (rcmp 4 (0 : Int32) (xs 4) = false) ∧ (rcmp 4 (xs 4) (0 : Int32) = true) ∧ True from ⟨h0, t1_1, t2_2, t3_0, b4, (rg4t (by have z0 := rine t4_0; have z1 := ri4f b4; have y0 := li_0; omega)), t1_1, t2_2, t3_0, b4, (rg4t (by have z0 := rine t4_0; have z1 := ri4f b4; have y0 := li_0; omega)), trivial⟩)
      cases b3 : rcmp 4 (0 : Int32) (xs 3) with
      | true =>
        exact rOk_of rr122 (show ((rop 3 (xs 0) (31 : Int32)) = (4 : Int32)) ∧ ((xs 1) = (1 : Int32)) ∧ ((xs 2) = (2 : Int32)) ∧ (rcmp 4 (0 : Int32) (xs 3) = true) ∧ ((xs 1) = (1 : Int32)) ∧ ((xs 2) = (2 : Int32)) ∧ (rcmp 2 (xs 3) (0 : Int32) = true) ∧ True from ⟨h0, t1_1, t2_2, b3, t1_1, t2_2, (rg2t (by have z0 := rine t3_0; have z1 := ri4t b3; have y0 := li_0; omega)), trivial⟩)
      | false =>
        cases b4 : rcmp 4 (xs 3) (xs 4) with
        | true =>
          exact rOk_of rr121 (show ((rop 3 (xs 0) (31 : Int32)) = (4 : Int32)) ∧ ((xs 1) = (1 : Int32)) ∧ ((xs 2) = (2 : Int32)) ∧ (rcmp 4 (0 : Int32) (xs 3) = false) ∧ (rcmp 4 (xs 3) (xs 4) = true) ∧ ((xs 1) = (1 : Int32)) ∧ ((xs 2) = (2 : Int32)) ∧ (rcmp 2 (xs 3) (0 : Int32) = false) ∧ (rcmp 4 (xs 3) (xs 4) = true) ∧ True from ⟨h0, t1_1, t2_2, b3, b4, t1_1, t2_2, (rg2f (by have z0 := rine t3_0; have z1 := ri4f b3; have z2 := ri4t b4; have y0 := li_0; omega)), b4, trivial⟩)
        | false =>
          exact rOk_of rr120 (show ((rop 3 (xs 0) (31 : Int32)) = (4 : Int32)) ∧ ((xs 1) = (1 : Int32)) ∧ ((xs 2) = (2 : Int32)) ∧ (rcmp 4 (0 : Int32) (xs 3) = false) ∧ (rcmp 4 (xs 3) (xs 4) = false) ∧ (rcmp 4 (xs 4) (0 : Int32) = true) ∧ ((xs 1) = (1 : Int32)) ∧ ((xs 2) = (2 : Int32)) ∧ (rcmp 2 (xs 3) (0 : Int32) = false) ∧ (rcmp 4 (xs 3) (xs 4) = false) ∧ (rcmp 4 (xs 4) (0 : Int32) = true) ∧ True from ⟨h0, t1_1, t2_2, b3, b4, (rg4t (by have z0 := rine t3_0; have z1 := ri4f b3; have z2 := ri4f b4; have y0 := li_0; omega)), t1_1, t2_2, (rg2f (by have z0 := rine t3_0; have z1 := ri4f b3; have z2 := ri4f b4; have y0 := li_0; omega)), b4, (rg4t (by have z0 := rine t3_0; have z1 := ri4f b3; have z2 := ri4f b4; have y0 := li_0; omega)), trivial⟩)
    by_cases t2_3 : (xs 2) = (3 : Int32)
    · by_cases t3_0 : (xs 3) = (0 : Int32)
      · by_cases t4_0 : (xs 4) = (0 : Int32)
        · exact rOk_of rr131 (show ((rop 3 (xs 0) (31 : Int32)) = (4 : Int32)) ∧ ((xs 1) = (1 : Int32)) ∧ ((xs 2) = (3 : Int32)) ∧ ((xs 3) = (0 : Int32)) ∧ ((xs 4) = (0 : Int32)) ∧ ((xs 1) = (1 : Int32)) ∧ ((xs 2) = (3 : Int32)) ∧ ((xs 3) = (0 : Int32)) ∧ ((xs 4) = (0 : Int32)) ∧ True from ⟨h0, t1_1, t2_3, t3_0, t4_0, t1_1, t2_3, t3_0, t4_0, trivial⟩)
        cases b4 : rcmp 4 (0 : Int32) (xs 4) with
        | true =>
          exact rOk_of rr130 (show ((rop 3 (xs 0) (31 : Int32)) = (4 : Int32)) ∧ ((xs 1) = (1 : Int32)) ∧ ((xs 2) = (3 : Int32)) ∧ ((xs 3) = (0 : Int32)) ∧ (rcmp 4 (0 : Int32) (xs 4) = true) ∧ ((xs 1) = (1 : Int32)) ∧ ((xs 2) = (3 : Int32)) ∧ ((xs 3) = (0 : Int32)) ∧ (rcmp 4 (0 : Int32) (xs 4) = true) ∧ True from ⟨h0, t1_1, t2_3, t3_0, b4, t1_1, t2_3, t3_0, b4, trivial⟩)
        | false =>
          exact rOk_of rr129 (show ((rop 3 (xs 0) (31 : Int32)) = (4 : Int32)) ∧ ((xs 1) = (1 : Int32)) ∧ ((xs 2) = (3 : Int32)) ∧ ((xs 3) = (0 : Int32)) ∧ (rcmp 4 (0 : Int32) (xs 4) = false) ∧ (rcmp 4 (xs 4) (0 : Int32) = true) ∧ ((xs 1) = (1 : Int32)) ∧ ((xs 2) = (3 : Int32)) ∧ ((xs 3) = (0 : Int32)) ∧ (rcmp 4 (0 : Int32) (xs 4) = false) ∧ (rcmp 4 (xs 4) (0 : Int32) = true) ∧ True from ⟨h0, t1_1, t2_3, t3_0, b4, (rg4t (by have z0 := rine t4_0; have z1 := ri4f b4; have y0 := li_0; omega)), t1_1, t2_3, t3_0, b4, (rg4t (by have z0 := rine t4_0; have z1 := ri4f b4; have y0 := li_0; omega)), trivial⟩)
      cases b3 : rcmp 4 (0 : Int32) (xs 3) with
      | true =>
        exact rOk_of rr128 (show ((rop 3 (xs 0) (31 : Int32)) = (4 : Int32)) ∧ ((xs 1) = (1 : Int32)) ∧ ((xs 2) = (3 : Int32)) ∧ (rcmp 4 (0 : Int32) (xs 3) = true) ∧ ((xs 1) = (1 : Int32)) ∧ ((xs 2) = (3 : Int32)) ∧ (rcmp 2 (xs 3) (0 : Int32) = true) ∧ True from ⟨h0, t1_1, t2_3, b3, t1_1, t2_3, (rg2t (by have z0 := rine t3_0; have z1 := ri4t b3; have y0 := li_0; omega)), trivial⟩)
      | false =>
        cases b4 : rcmp 4 (xs 3) (xs 4) with
        | true =>
          exact rOk_of rr127 (show ((rop 3 (xs 0) (31 : Int32)) = (4 : Int32)) ∧ ((xs 1) = (1 : Int32)) ∧ ((xs 2) = (3 : Int32)) ∧ (rcmp 4 (0 : Int32) (xs 3) = false) ∧ (rcmp 4 (xs 3) (xs 4) = true) ∧ ((xs 1) = (1 : Int32)) ∧ ((xs 2) = (3 : Int32)) ∧ (rcmp 2 (xs 3) (0 : Int32) = false) ∧ (rcmp 4 (xs 3) (xs 4) = true) ∧ True from ⟨h0, t1_1, t2_3, b3, b4, t1_1, t2_3, (rg2f (by have z0 := rine t3_0; have z1 := ri4f b3; have z2 := ri4t b4; have y0 := li_0; omega)), b4, trivial⟩)
        | false =>
          exact rOk_of rr126 (show ((rop 3 (xs 0) (31 : Int32)) = (4 : Int32)) ∧ ((xs 1) = (1 : Int32)) ∧ ((xs 2) = (3 : Int32)) ∧ (rcmp 4 (0 : Int32) (xs 3) = false) ∧ (rcmp 4 (xs 3) (xs 4) = false) ∧ (rcmp 4 (xs 4) (0 : Int32) = true) ∧ ((xs 1) = (1 : Int32)) ∧ ((xs 2) = (3 : Int32)) ∧ (rcmp 2 (xs 3) (0 : Int32) = false) ∧ (rcmp 4 (xs 3) (xs 4) = false) ∧ (rcmp 4 (xs 4) (0 : Int32) = true) ∧ True from ⟨h0, t1_1, t2_3, b3, b4, (rg4t (by have z0 := rine t3_0; have z1 := ri4f b3; have z2 := ri4f b4; have y0 := li_0; omega)), t1_1, t2_3, (rg2f (by have z0 := rine t3_0; have z1 := ri4f b3; have z2 := ri4f b4; have y0 := li_0; omega)), b4, (rg4t (by have z0 := rine t3_0; have z1 := ri4f b3; have z2 := ri4f b4; have y0 := li_0; omega)), trivial⟩)
    cases b2 : rcmp 2 (xs 2) (0 : Int32) with
    | true =>
      exact rOk_of rr107 (show ((rop 3 (xs 0) (31 : Int32)) = (4 : Int32)) ∧ ((xs 1) = (1 : Int32)) ∧ (rcmp 2 (xs 2) (0 : Int32) = true) ∧ ((xs 1) = (1 : Int32)) ∧ (rcmp 2 (xs 2) (0 : Int32) = true) ∧ True from ⟨h0, t1_1, b2, t1_1, b2, trivial⟩)
    | false =>
      exact rOk_of rr106 (show ((rop 3 (xs 0) (31 : Int32)) = (4 : Int32)) ∧ ((xs 1) = (1 : Int32)) ∧ (rcmp 2 (xs 2) (0 : Int32) = false) ∧ (rcmp 4 (xs 2) (3 : Int32) = true) ∧ ((xs 1) = (1 : Int32)) ∧ (rcmp 2 (xs 2) (0 : Int32) = false) ∧ (rcmp 3 (xs 2) (4 : Int32) = true) ∧ True from ⟨h0, t1_1, b2, (rg4t (by have z0 := rine t2_0; have z1 := rine t2_1; have z2 := rine t2_2; have z3 := rine t2_3; have z4 := ri2f b2; have y0 := li_0; have y1 := li_1; have y2 := li_2; have y3 := li_3; omega)), t1_1, b2, (rg3t (by have z0 := rine t2_0; have z1 := rine t2_1; have z2 := rine t2_2; have z3 := rine t2_3; have z4 := ri2f b2; have y0 := li_0; have y1 := li_1; have y2 := li_2; have y3 := li_3; have y4 := li_4; omega)), trivial⟩)
  by_cases t1_2 : (xs 1) = (2 : Int32)
  · by_cases t2_0 : (xs 2) = (0 : Int32)
    · by_cases t3_0 : (xs 3) = (0 : Int32)
      · by_cases t4_0 : (xs 4) = (0 : Int32)
        · exact rOk_of rr139 (show ((rop 3 (xs 0) (31 : Int32)) = (4 : Int32)) ∧ ((xs 1) = (2 : Int32)) ∧ ((xs 2) = (0 : Int32)) ∧ ((xs 3) = (0 : Int32)) ∧ ((xs 4) = (0 : Int32)) ∧ ((xs 1) = (2 : Int32)) ∧ ((xs 2) = (0 : Int32)) ∧ ((xs 3) = (0 : Int32)) ∧ ((xs 4) = (0 : Int32)) ∧ True from ⟨h0, t1_2, t2_0, t3_0, t4_0, t1_2, t2_0, t3_0, t4_0, trivial⟩)
        cases b4 : rcmp 4 (0 : Int32) (xs 4) with
        | true =>
          exact rOk_of rr138 (show ((rop 3 (xs 0) (31 : Int32)) = (4 : Int32)) ∧ ((xs 1) = (2 : Int32)) ∧ ((xs 2) = (0 : Int32)) ∧ ((xs 3) = (0 : Int32)) ∧ (rcmp 4 (0 : Int32) (xs 4) = true) ∧ ((xs 1) = (2 : Int32)) ∧ ((xs 2) = (0 : Int32)) ∧ ((xs 3) = (0 : Int32)) ∧ (rcmp 4 (0 : Int32) (xs 4) = true) ∧ True from ⟨h0, t1_2, t2_0, t3_0, b4, t1_2, t2_0, t3_0, b4, trivial⟩)
        | false =>
          exact rOk_of rr137 (show ((rop 3 (xs 0) (31 : Int32)) = (4 : Int32)) ∧ ((xs 1) = (2 : Int32)) ∧ ((xs 2) = (0 : Int32)) ∧ ((xs 3) = (0 : Int32)) ∧ (rcmp 4 (0 : Int32) (xs 4) = false) ∧ (rcmp 4 (xs 4) (0 : Int32) = true) ∧ ((xs 1) = (2 : Int32)) ∧ ((xs 2) = (0 : Int32)) ∧ ((xs 3) = (0 : Int32)) ∧ (rcmp 4 (0 : Int32) (xs 4) = false) ∧ (rcmp 4 (xs 4) (0 : Int32) = true) ∧ True from ⟨h0, t1_2, t2_0, t3_0, b4, (rg4t (by have z0 := rine t4_0; have z1 := ri4f b4; have y0 := li_0; omega)), t1_2, t2_0, t3_0, b4, (rg4t (by have z0 := rine t4_0; have z1 := ri4f b4; have y0 := li_0; omega)), trivial⟩)
      cases b3 : rcmp 4 (0 : Int32) (xs 3) with
      | true =>
        exact rOk_of rr136 (show ((rop 3 (xs 0) (31 : Int32)) = (4 : Int32)) ∧ ((xs 1) = (2 : Int32)) ∧ ((xs 2) = (0 : Int32)) ∧ (rcmp 4 (0 : Int32) (xs 3) = true) ∧ ((xs 1) = (2 : Int32)) ∧ ((xs 2) = (0 : Int32)) ∧ (rcmp 2 (xs 3) (0 : Int32) = true) ∧ True from ⟨h0, t1_2, t2_0, b3, t1_2, t2_0, (rg2t (by have z0 := rine t3_0; have z1 := ri4t b3; have y0 := li_0; omega)), trivial⟩)
      | false =>
        cases b4 : rcmp 4 (xs 3) (xs 4) with
        | true =>
          exact rOk_of rr135 (show ((rop 3 (xs 0) (31 : Int32)) = (4 : Int32)) ∧ ((xs 1) = (2 : Int32)) ∧ ((xs 2) = (0 : Int32)) ∧ (rcmp 4 (0 : Int32) (xs 3) = false) ∧ (rcmp 4 (xs 3) (xs 4) = true) ∧ ((xs 1) = (2 : Int32)) ∧ ((xs 2) = (0 : Int32)) ∧ (rcmp 2 (xs 3) (0 : Int32) = false) ∧ (rcmp 4 (xs 3) (xs 4) = true) ∧ True from ⟨h0, t1_2, t2_0, b3, b4, t1_2, t2_0, (rg2f (by have z0 := rine t3_0; have z1 := ri4f b3; have z2 := ri4t b4; have y0 := li_0; omega)), b4, trivial⟩)
        | false =>
          exact rOk_of rr134 (show ((rop 3 (xs 0) (31 : Int32)) = (4 : Int32)) ∧ ((xs 1) = (2 : Int32)) ∧ ((xs 2) = (0 : Int32)) ∧ (rcmp 4 (0 : Int32) (xs 3) = false) ∧ (rcmp 4 (xs 3) (xs 4) = false) ∧ (rcmp 4 (xs 4) (0 : Int32) = true) ∧ ((xs 1) = (2 : Int32)) ∧ ((xs 2) = (0 : Int32)) ∧ (rcmp 2 (xs 3) (0 : Int32) = false) ∧ (rcmp 4 (xs 3) (xs 4) = false) ∧ (rcmp 4 (xs 4) (0 : Int32) = true) ∧ True from ⟨h0, t1_2, t2_0, b3, b4, (rg4t (by have z0 := rine t3_0; have z1 := ri4f b3; have z2 := ri4f b4; have y0 := li_0; omega)), t1_2, t2_0, (rg2f (by have z0 := rine t3_0; have z1 := ri4f b3; have z2 := ri4f b4; have y0 := li_0; omega)), b4, (rg4t (by have z0 := rine t3_0; have z1 := ri4f b3; have z2 := ri4f b4; have y0 := li_0; omega)), trivial⟩)
    by_cases t2_1 : (xs 2) = (1 : Int32)
    · by_cases t3_0 : (xs 3) = (0 : Int32)
      · by_cases t4_0 : (xs 4) = (0 : Int32)
        · exact rOk_of rr145 (show ((rop 3 (xs 0) (31 : Int32)) = (4 : Int32)) ∧ ((xs 1) = (2 : Int32)) ∧ ((xs 2) = (1 : Int32)) ∧ ((xs 3) = (0 : Int32)) ∧ ((xs 4) = (0 : Int32)) ∧ ((xs 1) = (2 : Int32)) ∧ ((xs 2) = (1 : Int32)) ∧ ((xs 3) = (0 : Int32)) ∧ ((xs 4) = (0 : Int32)) ∧ True from ⟨h0, t1_2, t2_1, t3_0, t4_0, t1_2, t2_1, t3_0, t4_0, trivial⟩)
        cases b4 : rcmp 4 (0 : Int32) (xs 4) with
        | true =>
          exact rOk_of rr144 (show ((rop 3 (xs 0) (31 : Int32)) = (4 : Int32)) ∧ ((xs 1) = (2 : Int32)) ∧ ((xs 2) = (1 : Int32)) ∧ ((xs 3) = (0 : Int32)) ∧ (rcmp 4 (0 : Int32) (xs 4) = true) ∧ ((xs 1) = (2 : Int32)) ∧ ((xs 2) = (1 : Int32)) ∧ ((xs 3) = (0 : Int32)) ∧ (rcmp 4 (0 : Int32) (xs 4) = true) ∧ True from ⟨h0, t1_2, t2_1, t3_0, b4, t1_2, t2_1, t3_0, b4, trivial⟩)
        | false =>
          exact rOk_of rr143 (show ((rop 3 (xs 0) (31 : Int32)) = (4 : Int32)) ∧ ((xs 1) = (2 : Int32)) ∧ ((xs 2) = (1 : Int32)) ∧ ((xs 3) = (0 : Int32)) ∧ (rcmp 4 (0 : Int32) (xs 4) = false) ∧ (rcmp 4 (xs 4) (0 : Int32) = true) ∧ ((xs 1) = (2 : Int32)) ∧ ((xs 2) = (1 : Int32)) ∧ ((xs 3) = (0 : Int32)) ∧ (rcmp 4 (0 : Int32) (xs 4) = false) ∧ (rcmp 4 (xs 4) (0 : Int32) = true) ∧ True from ⟨h0, t1_2, t2_1, t3_0, b4, (rg4t (by have z0 := rine t4_0; have z1 := ri4f b4; have y0 := li_0; omega)), t1_2, t2_1, t3_0, b4, (rg4t (by have z0 := rine t4_0; have z1 := ri4f b4; have y0 := li_0; omega)), trivial⟩)
      cases b3 : rcmp 4 (0 : Int32) (xs 3) with
      | true =>
        exact rOk_of rr142 (show ((rop 3 (xs 0) (31 : Int32)) = (4 : Int32)) ∧ ((xs 1) = (2 : Int32)) ∧ ((xs 2) = (1 : Int32)) ∧ (rcmp 4 (0 : Int32) (xs 3) = true) ∧ ((xs 1) = (2 : Int32)) ∧ ((xs 2) = (1 : Int32)) ∧ (rcmp 2 (xs 3) (0 : Int32) = true) ∧ True from ⟨h0, t1_2, t2_1, b3, t1_2, t2_1, (rg2t (by have z0 := rine t3_0; have z1 := ri4t b3; have y0 := li_0; omega)), trivial⟩)
      | false =>
        cases b4 : rcmp 4 (xs 3) (xs 4) with
        | true =>
          exact rOk_of rr141 (show ((rop 3 (xs 0) (31 : Int32)) = (4 : Int32)) ∧ ((xs 1) = (2 : Int32)) ∧ ((xs 2) = (1 : Int32)) ∧ (rcmp 4 (0 : Int32) (xs 3) = false) ∧ (rcmp 4 (xs 3) (xs 4) = true) ∧ ((xs 1) = (2 : Int32)) ∧ ((xs 2) = (1 : Int32)) ∧ (rcmp 2 (xs 3) (0 : Int32) = false) ∧ (rcmp 4 (xs 3) (xs 4) = true) ∧ True from ⟨h0, t1_2, t2_1, b3, b4, t1_2, t2_1, (rg2f (by have z0 := rine t3_0; have z1 := ri4f b3; have z2 := ri4t b4; have y0 := li_0; omega)), b4, trivial⟩)
        | false =>
          exact rOk_of rr140 (show ((rop 3 (xs 0) (31 : Int32)) = (4 : Int32)) ∧ ((xs 1) = (2 : Int32)) ∧ ((xs 2) = (1 : Int32)) ∧ (rcmp 4 (0 : Int32) (xs 3) = false) ∧ (rcmp 4 (xs 3) (xs 4) = false) ∧ (rcmp 4 (xs 4) (0 : Int32) = true) ∧ ((xs 1) = (2 : Int32)) ∧ ((xs 2) = (1 : Int32)) ∧ (rcmp 2 (xs 3) (0 : Int32) = false) ∧ (rcmp 4 (xs 3) (xs 4) = false) ∧ (rcmp 4 (xs 4) (0 : Int32) = true) ∧ True from ⟨h0, t1_2, t2_1, b3, b4, (rg4t (by have z0 := rine t3_0; have z1 := ri4f b3; have z2 := ri4f b4; have y0 := li_0; omega)), t1_2, t2_1, (rg2f (by have z0 := rine t3_0; have z1 := ri4f b3; have z2 := ri4f b4; have y0 := li_0; omega)), b4, (rg4t (by have z0 := rine t3_0; have z1 := ri4f b3; have z2 := ri4f b4; have y0 := li_0; omega)), trivial⟩)
    by_cases t2_2 : (xs 2) = (2 : Int32)
    · by_cases t3_0 : (xs 3) = (0 : Int32)
      · by_cases t4_0 : (xs 4) = (0 : Int32)
        · exact rOk_of rr151 (show ((rop 3 (xs 0) (31 : Int32)) = (4 : Int32)) ∧ ((xs 1) = (2 : Int32)) ∧ ((xs 2) = (2 : Int32)) ∧ ((xs 3) = (0 : Int32)) ∧ ((xs 4) = (0 : Int32)) ∧ ((xs 1) = (2 : Int32)) ∧ ((xs 2) = (2 : Int32)) ∧ ((xs 3) = (0 : Int32)) ∧ ((xs 4) = (0 : Int32)) ∧ True from ⟨h0, t1_2, t2_2, t3_0, t4_0, t1_2, t2_2, t3_0, t4_0, trivial⟩)
        cases b4 : rcmp 4 (0 : Int32) (xs 4) with
        | true =>
          exact rOk_of rr150 (show ((rop 3 (xs 0) (31 : Int32)) = (4 : Int32)) ∧ ((xs 1) = (2 : Int32)) ∧ ((xs 2) = (2 : Int32)) ∧ ((xs 3) = (0 : Int32)) ∧ (rcmp 4 (0 : Int32) (xs 4) = true) ∧ ((xs 1) = (2 : Int32)) ∧ ((xs 2) = (2 : Int32)) ∧ ((xs 3) = (0 : Int32)) ∧ (rcmp 4 (0 : Int32) (xs 4) = true) ∧ True from ⟨h0, t1_2, t2_2, t3_0, b4, t1_2, t2_2, t3_0, b4, trivial⟩)
        | false =>
          exact rOk_of rr149 (show ((rop 3 (xs 0) (31 : Int32)) = (4 : Int32)) ∧ ((xs 1) = (2 : Int32)) ∧ ((xs 2) = (2 : Int32)) ∧ ((xs 3) = (0 : Int32)) ∧ (rcmp 4 (0 : Int32) (xs 4) = false) ∧ (rcmp 4 (xs 4) (0 : Int32) = true) ∧ ((xs 1) = (2 : Int32)) ∧ ((xs 2) = (2 : Int32)) ∧ ((xs 3) = (0 : Int32)) ∧ (rcmp 4 (0 : Int32) (xs 4) = false) ∧ (rcmp 4 (xs 4) (0 : Int32) = true) ∧ True from ⟨h0, t1_2, t2_2, t3_0, b4, (rg4t (by have z0 := rine t4_0; have z1 := ri4f b4; have y0 := li_0; omega)), t1_2, t2_2, t3_0, b4, (rg4t (by have z0 := rine t4_0; have z1 := ri4f b4; have y0 := li_0; omega)), trivial⟩)
      cases b3 : rcmp 4 (0 : Int32) (xs 3) with
      | true =>
        exact rOk_of rr148 (show ((rop 3 (xs 0) (31 : Int32)) = (4 : Int32)) ∧ ((xs 1) = (2 : Int32)) ∧ ((xs 2) = (2 : Int32)) ∧ (rcmp 4 (0 : Int32) (xs 3) = true) ∧ ((xs 1) = (2 : Int32)) ∧ ((xs 2) = (2 : Int32)) ∧ (rcmp 2 (xs 3) (0 : Int32) = true) ∧ True from ⟨h0, t1_2, t2_2, b3, t1_2, t2_2, (rg2t (by have z0 := rine t3_0; have z1 := ri4t b3; have y0 := li_0; omega)), trivial⟩)
      | false =>
        cases b4 : rcmp 4 (xs 3) (xs 4) with
        | true =>
          exact rOk_of rr147 (show ((rop 3 (xs 0) (31 : Int32)) = (4 : Int32)) ∧ ((xs 1) = (2 : Int32)) ∧ ((xs 2) = (2 : Int32)) ∧ (rcmp 4 (0 : Int32) (xs 3) = false) ∧ (rcmp 4 (xs 3) (xs 4) = true) ∧ ((xs 1) = (2 : Int32)) ∧ ((xs 2) = (2 : Int32)) ∧ (rcmp 2 (xs 3) (0 : Int32) = false) ∧ (rcmp 4 (xs 3) (xs 4) = true) ∧ True from ⟨h0, t1_2, t2_2, b3, b4, t1_2, t2_2, (rg2f (by have z0 := rine t3_0; have z1 := ri4f b3; have z2 := ri4t b4; have y0 := li_0; omega)), b4, trivial⟩)
        | false =>
          exact rOk_of rr146 (show ((rop 3 (xs 0) (31 : Int32)) = (4 : Int32)) ∧ ((xs 1) = (2 : Int32)) ∧ ((xs 2) = (2 : Int32)) ∧ (rcmp 4 (0 : Int32) (xs 3) = false) ∧ (rcmp 4 (xs 3) (xs 4) = false) ∧ (rcmp 4 (xs 4) (0 : Int32) = true) ∧ ((xs 1) = (2 : Int32)) ∧ ((xs 2) = (2 : Int32)) ∧ (rcmp 2 (xs 3) (0 : Int32) = false) ∧ (rcmp 4 (xs 3) (xs 4) = false) ∧ (rcmp 4 (xs 4) (0 : Int32) = true) ∧ True from ⟨h0, t1_2, t2_2, b3, b4, (rg4t (by have z0 := rine t3_0; have z1 := ri4f b3; have z2 := ri4f b4; have y0 := li_0; omega)), t1_2, t2_2, (rg2f (by have z0 := rine t3_0; have z1 := ri4f b3; have z2 := ri4f b4; have y0 := li_0; omega)), b4, (rg4t (by have z0 := rine t3_0; have z1 := ri4f b3; have z2 := ri4f b4; have y0 := li_0; omega)), trivial⟩)
    by_cases t2_3 : (xs 2) = (3 : Int32)
    · by_cases t3_0 : (xs 3) = (0 : Int32)
      · by_cases t4_0 : (xs 4) = (0 : Int32)
        · exact rOk_of rr157 (show ((rop 3 (xs 0) (31 : Int32)) = (4 : Int32)) ∧ ((xs 1) = (2 : Int32)) ∧ ((xs 2) = (3 : Int32)) ∧ ((xs 3) = (0 : Int32)) ∧ ((xs 4) = (0 : Int32)) ∧ ((xs 1) = (2 : Int32)) ∧ ((xs 2) = (3 : Int32)) ∧ ((xs 3) = (0 : Int32)) ∧ ((xs 4) = (0 : Int32)) ∧ True from ⟨h0, t1_2, t2_3, t3_0, t4_0, t1_2, t2_3, t3_0, t4_0, trivial⟩)
        cases b4 : rcmp 4 (0 : Int32) (xs 4) with
        | true =>
          exact rOk_of rr156 (show ((rop 3 (xs 0) (31 : Int32)) = (4 : Int32)) ∧ ((xs 1) = (2 : Int32)) ∧ ((xs 2) = (3 : Int32)) ∧ ((xs 3) = (0 : Int32)) ∧ (rcmp 4 (0 : Int32) (xs 4) = true) ∧ ((xs 1) = (2 : Int32)) ∧ ((xs 2) = (3 : Int32)) ∧ ((xs 3) = (0 : Int32)) ∧ (rcmp 4 (0 : Int32) (xs 4) = true) ∧ True from ⟨h0, t1_2, t2_3, t3_0, b4, t1_2, t2_3, t3_0, b4, trivial⟩)
        | false =>
          exact rOk_of rr155 (show ((rop 3 (xs 0) (31 : Int32)) = (4 : Int32)) ∧ ((xs 1) = (2 : Int32)) ∧ ((xs 2) = (3 : Int32)) ∧ ((xs 3) = (0 : Int32)) ∧ (rcmp 4 (0 : Int32) (xs 4) = false) ∧ (rcmp 4 (xs 4) (0 : Int32) = true) ∧ ((xs 1) = (2 : Int32)) ∧ ((xs 2) = (3 : Int32)) ∧ ((xs 3) = (0 : Int32)) ∧ (rcmp 4 (0 : Int32) (xs 4) = false) ∧ (rcmp 4 (xs 4) (0 : Int32) = true) ∧ True from ⟨h0, t1_2, t2_3, t3_0, b4, (rg4t (by have z0 := rine t4_0; have z1 := ri4f b4; have y0 := li_0; omega)), t1_2, t2_3, t3_0, b4, (rg4t (by have z0 := rine t4_0; have z1 := ri4f b4; have y0 := li_0; omega)), trivial⟩)
      cases b3 : rcmp 4 (0 : Int32) (xs 3) with
      | true =>
        exact rOk_of rr154 (show ((rop 3 (xs 0) (31 : Int32)) = (4 : Int32)) ∧ ((xs 1) = (2 : Int32)) ∧ ((xs 2) = (3 : Int32)) ∧ (rcmp 4 (0 : Int32) (xs 3) = true) ∧ ((xs 1) = (2 : Int32)) ∧ ((xs 2) = (3 : Int32)) ∧ (rcmp 2 (xs 3) (0 : Int32) = true) ∧ True from ⟨h0, t1_2, t2_3, b3, t1_2, t2_3, (rg2t (by have z0 := rine t3_0; have z1 := ri4t b3; have y0 := li_0; omega)), trivial⟩)
      | false =>
        cases b4 : rcmp 4 (xs 3) (xs 4) with
        | true =>
          exact rOk_of rr153 (show ((rop 3 (xs 0) (31 : Int32)) = (4 : Int32)) ∧ ((xs 1) = (2 : Int32)) ∧ ((xs 2) = (3 : Int32)) ∧ (rcmp 4 (0 : Int32) (xs 3) = false) ∧ (rcmp 4 (xs 3) (xs 4) = true) ∧ ((xs 1) = (2 : Int32)) ∧ ((xs 2) = (3 : Int32)) ∧ (rcmp 2 (xs 3) (0 : Int32) = false) ∧ (rcmp 4 (xs 3) (xs 4) = true) ∧ True from ⟨h0, t1_2, t2_3, b3, b4, t1_2, t2_3, (rg2f (by have z0 := rine t3_0; have z1 := ri4f b3; have z2 := ri4t b4; have y0 := li_0; omega)), b4, trivial⟩)
        | false =>
          exact rOk_of rr152 (show ((rop 3 (xs 0) (31 : Int32)) = (4 : Int32)) ∧ ((xs 1) = (2 : Int32)) ∧ ((xs 2) = (3 : Int32)) ∧ (rcmp 4 (0 : Int32) (xs 3) = false) ∧ (rcmp 4 (xs 3) (xs 4) = false) ∧ (rcmp 4 (xs 4) (0 : Int32) = true) ∧ ((xs 1) = (2 : Int32)) ∧ ((xs 2) = (3 : Int32)) ∧ (rcmp 2 (xs 3) (0 : Int32) = false) ∧ (rcmp 4 (xs 3) (xs 4) = false) ∧ (rcmp 4 (xs 4) (0 : Int32) = true) ∧ True from ⟨h0, t1_2, t2_3, b3, b4, (rg4t (by have z0 := rine t3_0; have z1 := ri4f b3; have z2 := ri4f b4; have y0 := li_0; omega)), t1_2, t2_3, (rg2f (by have z0 := rine t3_0; have z1 := ri4f b3; have z2 := ri4f b4; have y0 := li_0; omega)), b4, (rg4t (by have z0 := rine t3_0; have z1 := ri4f b3; have z2 := ri4f b4; have y0 := li_0; omega)), trivial⟩)
    cases b2 : rcmp 2 (xs 2) (0 : Int32) with
    | true =>
      exact rOk_of rr133 (show ((rop 3 (xs 0) (31 : Int32)) = (4 : Int32)) ∧ ((xs 1) = (2 : Int32)) ∧ (rcmp 2 (xs 2) (0 : Int32) = true) ∧ ((xs 1) = (2 : Int32)) ∧ (rcmp 2 (xs 2) (0 : Int32) = true) ∧ True from ⟨h0, t1_2, b2, t1_2, b2, trivial⟩)
    | false =>
      exact rOk_of rr132 (show ((rop 3 (xs 0) (31 : Int32)) = (4 : Int32)) ∧ ((xs 1) = (2 : Int32)) ∧ (rcmp 2 (xs 2) (0 : Int32) = false) ∧ (rcmp 4 (xs 2) (3 : Int32) = true) ∧ ((xs 1) = (2 : Int32)) ∧ (rcmp 2 (xs 2) (0 : Int32) = false) ∧ (rcmp 3 (xs 2) (4 : Int32) = true) ∧ True from ⟨h0, t1_2, b2, (rg4t (by have z0 := rine t2_0; have z1 := rine t2_1; have z2 := rine t2_2; have z3 := rine t2_3; have z4 := ri2f b2; have y0 := li_0; have y1 := li_1; have y2 := li_2; have y3 := li_3; omega)), t1_2, b2, (rg3t (by have z0 := rine t2_0; have z1 := rine t2_1; have z2 := rine t2_2; have z3 := rine t2_3; have z4 := ri2f b2; have y0 := li_0; have y1 := li_1; have y2 := li_2; have y3 := li_3; have y4 := li_4; omega)), trivial⟩)
  by_cases t1_3 : (xs 1) = (3 : Int32)
  · by_cases t2_0 : (xs 2) = (0 : Int32)
    · by_cases t3_0 : (xs 3) = (0 : Int32)
      · by_cases t4_0 : (xs 4) = (0 : Int32)
        · exact rOk_of rr165 (show ((rop 3 (xs 0) (31 : Int32)) = (4 : Int32)) ∧ ((xs 1) = (3 : Int32)) ∧ ((xs 2) = (0 : Int32)) ∧ ((xs 3) = (0 : Int32)) ∧ ((xs 4) = (0 : Int32)) ∧ ((xs 1) = (3 : Int32)) ∧ ((xs 2) = (0 : Int32)) ∧ ((xs 3) = (0 : Int32)) ∧ ((xs 4) = (0 : Int32)) ∧ True from ⟨h0, t1_3, t2_0, t3_0, t4_0, t1_3, t2_0, t3_0, t4_0, trivial⟩)
        cases b4 : rcmp 4 (0 : Int32) (xs 4) with
        | true =>
          exact rOk_of rr164 (show ((rop 3 (xs 0) (31 : Int32)) = (4 : Int32)) ∧ ((xs 1) = (3 : Int32)) ∧ ((xs 2) = (0 : Int32)) ∧ ((xs 3) = (0 : Int32)) ∧ (rcmp 4 (0 : Int32) (xs 4) = true) ∧ ((xs 1) = (3 : Int32)) ∧ ((xs 2) = (0 : Int32)) ∧ ((xs 3) = (0 : Int32)) ∧ (rcmp 4 (0 : Int32) (xs 4) = true) ∧ True from ⟨h0, t1_3, t2_0, t3_0, b4, t1_3, t2_0, t3_0, b4, trivial⟩)
        | false =>
          exact rOk_of rr163 (show ((rop 3 (xs 0) (31 : Int32)) = (4 : Int32)) ∧ ((xs 1) = (3 : Int32)) ∧ ((xs 2) = (0 : Int32)) ∧ ((xs 3) = (0 : Int32)) ∧ (rcmp 4 (0 : Int32) (xs 4) = false) ∧ (rcmp 4 (xs 4) (0 : Int32) = true) ∧ ((xs 1) = (3 : Int32)) ∧ ((xs 2) = (0 : Int32)) ∧ ((xs 3) = (0 : Int32)) ∧ (rcmp 4 (0 : Int32) (xs 4) = false) ∧ (rcmp 4 (xs 4) (0 : Int32) = true) ∧ True from ⟨h0, t1_3, t2_0, t3_0, b4, (rg4t (by have z0 := rine t4_0; have z1 := ri4f b4; have y0 := li_0; omega)), t1_3, t2_0, t3_0, b4, (rg4t (by have z0 := rine t4_0; have z1 := ri4f b4; have y0 := li_0; omega)), trivial⟩)
      cases b3 : rcmp 4 (0 : Int32) (xs 3) with
      | true =>
        exact rOk_of rr162 (show ((rop 3 (xs 0) (31 : Int32)) = (4 : Int32)) ∧ ((xs 1) = (3 : Int32)) ∧ ((xs 2) = (0 : Int32)) ∧ (rcmp 4 (0 : Int32) (xs 3) = true) ∧ ((xs 1) = (3 : Int32)) ∧ ((xs 2) = (0 : Int32)) ∧ (rcmp 2 (xs 3) (0 : Int32) = true) ∧ True from ⟨h0, t1_3, t2_0, b3, t1_3, t2_0, (rg2t (by have z0 := rine t3_0; have z1 := ri4t b3; have y0 := li_0; omega)), trivial⟩)
      | false =>
        cases b4 : rcmp 4 (xs 3) (xs 4) with
        | true =>
          exact rOk_of rr161 (show ((rop 3 (xs 0) (31 : Int32)) = (4 : Int32)) ∧ ((xs 1) = (3 : Int32)) ∧ ((xs 2) = (0 : Int32)) ∧ (rcmp 4 (0 : Int32) (xs 3) = false) ∧ (rcmp 4 (xs 3) (xs 4) = true) ∧ ((xs 1) = (3 : Int32)) ∧ ((xs 2) = (0 : Int32)) ∧ (rcmp 2 (xs 3) (0 : Int32) = false) ∧ (rcmp 4 (xs 3) (xs 4) = true) ∧ True from ⟨h0, t1_3, t2_0, b3, b4, t1_3, t2_0, (rg2f (by have z0 := rine t3_0; have z1 := ri4f b3; have z2 := ri4t b4; have y0 := li_0; omega)), b4, trivial⟩)
        | false =>
          exact rOk_of rr160 (show ((rop 3 (xs 0) (31 : Int32)) = (4 : Int32)) ∧ ((xs 1) = (3 : Int32)) ∧ ((xs 2) = (0 : Int32)) ∧ (rcmp 4 (0 : Int32) (xs 3) = false) ∧ (rcmp 4 (xs 3) (xs 4) = false) ∧ (rcmp 4 (xs 4) (0 : Int32) = true) ∧ ((xs 1) = (3 : Int32)) ∧ ((xs 2) = (0 : Int32)) ∧ (rcmp 2 (xs 3) (0 : Int32) = false) ∧ (rcmp 4 (xs 3) (xs 4) = false) ∧ (rcmp 4 (xs 4) (0 : Int32) = true) ∧ True from ⟨h0, t1_3, t2_0, b3, b4, (rg4t (by have z0 := rine t3_0; have z1 := ri4f b3; have z2 := ri4f b4; have y0 := li_0; omega)), t1_3, t2_0, (rg2f (by have z0 := rine t3_0; have z1 := ri4f b3; have z2 := ri4f b4; have y0 := li_0; omega)), b4, (rg4t (by have z0 := rine t3_0; have z1 := ri4f b3; have z2 := ri4f b4; have y0 := li_0; omega)), trivial⟩)
    by_cases t2_1 : (xs 2) = (1 : Int32)
    · by_cases t3_0 : (xs 3) = (0 : Int32)
      · by_cases t4_0 : (xs 4) = (0 : Int32)
        · exact rOk_of rr171 (show ((rop 3 (xs 0) (31 : Int32)) = (4 : Int32)) ∧ ((xs 1) = (3 : Int32)) ∧ ((xs 2) = (1 : Int32)) ∧ ((xs 3) = (0 : Int32)) ∧ ((xs 4) = (0 : Int32)) ∧ ((xs 1) = (3 : Int32)) ∧ ((xs 2) = (1 : Int32)) ∧ ((xs 3) = (0 : Int32)) ∧ ((xs 4) = (0 : Int32)) ∧ True from ⟨h0, t1_3, t2_1, t3_0, t4_0, t1_3, t2_1, t3_0, t4_0, trivial⟩)
        cases b4 : rcmp 4 (0 : Int32) (xs 4) with
        | true =>
          exact rOk_of rr170 (show ((rop 3 (xs 0) (31 : Int32)) = (4 : Int32)) ∧ ((xs 1) = (3 : Int32)) ∧ ((xs 2) = (1 : Int32)) ∧ ((xs 3) = (0 : Int32)) ∧ (rcmp 4 (0 : Int32) (xs 4) = true) ∧ ((xs 1) = (3 : Int32)) ∧ ((xs 2) = (1 : Int32)) ∧ ((xs 3) = (0 : Int32)) ∧ (rcmp 4 (0 : Int32) (xs 4) = true) ∧ True from ⟨h0, t1_3, t2_1, t3_0, b4, t1_3, t2_1, t3_0, b4, trivial⟩)
        | false =>
          exact rOk_of rr169 (show ((rop 3 (xs 0) (31 : Int32)) = (4 : Int32)) ∧ ((xs 1) = (3 : Int32)) ∧ ((xs 2) = (1 : Int32)) ∧ ((xs 3) = (0 : Int32)) ∧ (rcmp 4 (0 : Int32) (xs 4) = false) ∧ (rcmp 4 (xs 4) (0 : Int32) = true) ∧ ((xs 1) = (3 : Int32)) ∧ ((xs 2) = (1 : Int32)) ∧ ((xs 3) = (0 : Int32)) ∧ (rcmp 4 (0 : Int32) (xs 4) = false) ∧ (rcmp 4 (xs 4) (0 : Int32) = true) ∧ True from ⟨h0, t1_3, t2_1, t3_0, b4, (rg4t (by have z0 := rine t4_0; have z1 := ri4f b4; have y0 := li_0; omega)), t1_3, t2_1, t3_0, b4, (rg4t (by have z0 := rine t4_0; have z1 := ri4f b4; have y0 := li_0; omega)), trivial⟩)
      cases b3 : rcmp 4 (0 : Int32) (xs 3) with
      | true =>
        exact rOk_of rr168 (show ((rop 3 (xs 0) (31 : Int32)) = (4 : Int32)) ∧ ((xs 1) = (3 : Int32)) ∧ ((xs 2) = (1 : Int32)) ∧ (rcmp 4 (0 : Int32) (xs 3) = true) ∧ ((xs 1) = (3 : Int32)) ∧ ((xs 2) = (1 : Int32)) ∧ (rcmp 2 (xs 3) (0 : Int32) = true) ∧ True from ⟨h0, t1_3, t2_1, b3, t1_3, t2_1, (rg2t (by have z0 := rine t3_0; have z1 := ri4t b3; have y0 := li_0; omega)), trivial⟩)
      | false =>
        cases b4 : rcmp 4 (xs 3) (xs 4) with
        | true =>
          exact rOk_of rr167 (show ((rop 3 (xs 0) (31 : Int32)) = (4 : Int32)) ∧ ((xs 1) = (3 : Int32)) ∧ ((xs 2) = (1 : Int32)) ∧ (rcmp 4 (0 : Int32) (xs 3) = false) ∧ (rcmp 4 (xs 3) (xs 4) = true) ∧ ((xs 1) = (3 : Int32)) ∧ ((xs 2) = (1 : Int32)) ∧ (rcmp 2 (xs 3) (0 : Int32) = false) ∧ (rcmp 4 (xs 3) (xs 4) = true) ∧ True from ⟨h0, t1_3, t2_1, b3, b4, t1_3, t2_1, (rg2f (by have z0 := rine t3_0; have z1 := ri4f b3; have z2 := ri4t b4; have y0 := li_0; omega)), b4, trivial⟩)
        | false =>
          exact rOk_of rr166 (show ((rop 3 (xs 0) (31 : Int32)) = (4 : Int32)) ∧ ((xs 1) = (3 : Int32)) ∧ ((xs 2) = (1 : Int32)) ∧ (rcmp 4 (0 : Int32) (xs 3) = false) ∧ (rcmp 4 (xs 3) (xs 4) = false) ∧ (rcmp 4 (xs 4) (0 : Int32) = true) ∧ ((xs 1) = (3 : Int32)) ∧ ((xs 2) = (1 : Int32)) ∧ (rcmp 2 (xs 3) (0 : Int32) = false) ∧ (rcmp 4 (xs 3) (xs 4) = false) ∧ (rcmp 4 (xs 4) (0 : Int32) = true) ∧ True from ⟨h0, t1_3, t2_1, b3, b4, (rg4t (by have z0 := rine t3_0; have z1 := ri4f b3; have z2 := ri4f b4; have y0 := li_0; omega)), t1_3, t2_1, (rg2f (by have z0 := rine t3_0; have z1 := ri4f b3; have z2 := ri4f b4; have y0 := li_0; omega)), b4, (rg4t (by have z0 := rine t3_0; have z1 := ri4f b3; have z2 := ri4f b4; have y0 := li_0; omega)), trivial⟩)
    by_cases t2_2 : (xs 2) = (2 : Int32)
    · by_cases t3_0 : (xs 3) = (0 : Int32)
      · by_cases t4_0 : (xs 4) = (0 : Int32)
        · exact rOk_of rr177 (show ((rop 3 (xs 0) (31 : Int32)) = (4 : Int32)) ∧ ((xs 1) = (3 : Int32)) ∧ ((xs 2) = (2 : Int32)) ∧ ((xs 3) = (0 : Int32)) ∧ ((xs 4) = (0 : Int32)) ∧ ((xs 1) = (3 : Int32)) ∧ ((xs 2) = (2 : Int32)) ∧ ((xs 3) = (0 : Int32)) ∧ ((xs 4) = (0 : Int32)) ∧ True from ⟨h0, t1_3, t2_2, t3_0, t4_0, t1_3, t2_2, t3_0, t4_0, trivial⟩)
        cases b4 : rcmp 4 (0 : Int32) (xs 4) with
        | true =>
          exact rOk_of rr176 (show ((rop 3 (xs 0) (31 : Int32)) = (4 : Int32)) ∧ ((xs 1) = (3 : Int32)) ∧ ((xs 2) = (2 : Int32)) ∧ ((xs 3) = (0 : Int32)) ∧ (rcmp 4 (0 : Int32) (xs 4) = true) ∧ ((xs 1) = (3 : Int32)) ∧ ((xs 2) = (2 : Int32)) ∧ ((xs 3) = (0 : Int32)) ∧ (rcmp 4 (0 : Int32) (xs 4) = true) ∧ True from ⟨h0, t1_3, t2_2, t3_0, b4, t1_3, t2_2, t3_0, b4, trivial⟩)
        | false =>
          exact rOk_of rr175 (show ((rop 3 (xs 0) (31 : Int32)) = (4 : Int32)) ∧ ((xs 1) = (3 : Int32)) ∧ ((xs 2) = (2 : Int32)) ∧ ((xs 3) = (0 : Int32)) ∧ (rcmp 4 (0 : Int32) (xs 4) = false) ∧ (rcmp 4 (xs 4) (0 : Int32) = true) ∧ ((xs 1) = (3 : Int32)) ∧ ((xs 2) = (2 : Int32)) ∧ ((xs 3) = (0 : Int32)) ∧ (rcmp 4 (0 : Int32) (xs 4) = false) ∧ (rcmp 4 (xs 4) (0 : Int32) = true) ∧ True from ⟨h0, t1_3, t2_2, t3_0, b4, (rg4t (by have z0 := rine t4_0; have z1 := ri4f b4; have y0 := li_0; omega)), t1_3, t2_2, t3_0, b4, (rg4t (by have z0 := rine t4_0; have z1 := ri4f b4; have y0 := li_0; omega)), trivial⟩)
      cases b3 : rcmp 4 (0 : Int32) (xs 3) with
      | true =>
        exact rOk_of rr174 (show ((rop 3 (xs 0) (31 : Int32)) = (4 : Int32)) ∧ ((xs 1) = (3 : Int32)) ∧ ((xs 2) = (2 : Int32)) ∧ (rcmp 4 (0 : Int32) (xs 3) = true) ∧ ((xs 1) = (3 : Int32)) ∧ ((xs 2) = (2 : Int32)) ∧ (rcmp 2 (xs 3) (0 : Int32) = true) ∧ True from ⟨h0, t1_3, t2_2, b3, t1_3, t2_2, (rg2t (by have z0 := rine t3_0; have z1 := ri4t b3; have y0 := li_0; omega)), trivial⟩)
      | false =>
        cases b4 : rcmp 4 (xs 3) (xs 4) with
        | true =>
          exact rOk_of rr173 (show ((rop 3 (xs 0) (31 : Int32)) = (4 : Int32)) ∧ ((xs 1) = (3 : Int32)) ∧ ((xs 2) = (2 : Int32)) ∧ (rcmp 4 (0 : Int32) (xs 3) = false) ∧ (rcmp 4 (xs 3) (xs 4) = true) ∧ ((xs 1) = (3 : Int32)) ∧ ((xs 2) = (2 : Int32)) ∧ (rcmp 2 (xs 3) (0 : Int32) = false) ∧ (rcmp 4 (xs 3) (xs 4) = true) ∧ True from ⟨h0, t1_3, t2_2, b3, b4, t1_3, t2_2, (rg2f (by have z0 := rine t3_0; have z1 := ri4f b3; have z2 := ri4t b4; have y0 := li_0; omega)), b4, trivial⟩)
        | false =>
          exact rOk_of rr172 (show ((rop 3 (xs 0) (31 : Int32)) = (4 : Int32)) ∧ ((xs 1) = (3 : Int32)) ∧ ((xs 2) = (2 : Int32)) ∧ (rcmp 4 (0 : Int32) (xs 3) = false) ∧ (rcmp 4 (xs 3) (xs 4) = false) ∧ (rcmp 4 (xs 4) (0 : Int32) = true) ∧ ((xs 1) = (3 : Int32)) ∧ ((xs 2) = (2 : Int32)) ∧ (rcmp 2 (xs 3) (0 : Int32) = false) ∧ (rcmp 4 (xs 3) (xs 4) = false) ∧ (rcmp 4 (xs 4) (0 : Int32) = true) ∧ True from ⟨h0, t1_3, t2_2, b3, b4, (rg4t (by have z0 := rine t3_0; have z1 := ri4f b3; have z2 := ri4f b4; have y0 := li_0; omega)), t1_3, t2_2, (rg2f (by have z0 := rine t3_0; have z1 := ri4f b3; have z2 := ri4f b4; have y0 := li_0; omega)), b4, (rg4t (by have z0 := rine t3_0; have z1 := ri4f b3; have z2 := ri4f b4; have y0 := li_0; omega)), trivial⟩)
    by_cases t2_3 : (xs 2) = (3 : Int32)
    · by_cases t3_0 : (xs 3) = (0 : Int32)
      · by_cases t4_0 : (xs 4) = (0 : Int32)
        · exact rOk_of rr183 (show ((rop 3 (xs 0) (31 : Int32)) = (4 : Int32)) ∧ ((xs 1) = (3 : Int32)) ∧ ((xs 2) = (3 : Int32)) ∧ ((xs 3) = (0 : Int32)) ∧ ((xs 4) = (0 : Int32)) ∧ ((xs 1) = (3 : Int32)) ∧ ((xs 2) = (3 : Int32)) ∧ ((xs 3) = (0 : Int32)) ∧ ((xs 4) = (0 : Int32)) ∧ True from ⟨h0, t1_3, t2_3, t3_0, t4_0, t1_3, t2_3, t3_0, t4_0, trivial⟩)
        cases b4 : rcmp 4 (0 : Int32) (xs 4) with
        | true =>
          exact rOk_of rr182 (show ((rop 3 (xs 0) (31 : Int32)) = (4 : Int32)) ∧ ((xs 1) = (3 : Int32)) ∧ ((xs 2) = (3 : Int32)) ∧ ((xs 3) = (0 : Int32)) ∧ (rcmp 4 (0 : Int32) (xs 4) = true) ∧ ((xs 1) = (3 : Int32)) ∧ ((xs 2) = (3 : Int32)) ∧ ((xs 3) = (0 : Int32)) ∧ (rcmp 4 (0 : Int32) (xs 4) = true) ∧ True from ⟨h0, t1_3, t2_3, t3_0, b4, t1_3, t2_3, t3_0, b4, trivial⟩)
        | false =>
          exact rOk_of rr181 (show ((rop 3 (xs 0) (31 : Int32)) = (4 : Int32)) ∧ ((xs 1) = (3 : Int32)) ∧ ((xs 2) = (3 : Int32)) ∧ ((xs 3) = (0 : Int32)) ∧ (rcmp 4 (0 : Int32) (xs 4) = false) ∧ (rcmp 4 (xs 4) (0 : Int32) = true) ∧ ((xs 1) = (3 : Int32)) ∧ ((xs 2) = (3 : Int32)) ∧ ((xs 3) = (0 : Int32)) ∧ (rcmp 4 (0 : Int32) (xs 4) = false) ∧ (rcmp 4 (xs 4) (0 : Int32) = true) ∧ True from ⟨h0, t1_3, t2_3, t3_0, b4, (rg4t (by have z0 := rine t4_0; have z1 := ri4f b4; have y0 := li_0; omega)), t1_3, t2_3, t3_0, b4, (rg4t (by have z0 := rine t4_0; have z1 := ri4f b4; have y0 := li_0; omega)), trivial⟩)
      cases b3 : rcmp 4 (0 : Int32) (xs 3) with
      | true =>
        exact rOk_of rr180 (show ((rop 3 (xs 0) (31 : Int32)) = (4 : Int32)) ∧ ((xs 1) = (3 : Int32)) ∧ ((xs 2) = (3 : Int32)) ∧ (rcmp 4 (0 : Int32) (xs 3) = true) ∧ ((xs 1) = (3 : Int32)) ∧ ((xs 2) = (3 : Int32)) ∧ (rcmp 2 (xs 3) (0 : Int32) = true) ∧ True from ⟨h0, t1_3, t2_3, b3, t1_3, t2_3, (rg2t (by have z0 := rine t3_0; have z1 := ri4t b3; have y0 := li_0; omega)), trivial⟩)
      | false =>
        cases b4 : rcmp 4 (xs 3) (xs 4) with
        | true =>
          exact rOk_of rr179 (show ((rop 3 (xs 0) (31 : Int32)) = (4 : Int32)) ∧ ((xs 1) = (3 : Int32)) ∧ ((xs 2) = (3 : Int32)) ∧ (rcmp 4 (0 : Int32) (xs 3) = false) ∧ (rcmp 4 (xs 3) (xs 4) = true) ∧ ((xs 1) = (3 : Int32)) ∧ ((xs 2) = (3 : Int32)) ∧ (rcmp 2 (xs 3) (0 : Int32) = false) ∧ (rcmp 4 (xs 3) (xs 4) = true) ∧ True from ⟨h0, t1_3, t2_3, b3, b4, t1_3, t2_3, (rg2f (by have z0 := rine t3_0; have z1 := ri4f b3; have z2 := ri4t b4; have y0 := li_0; omega)), b4, trivial⟩)
        | false =>
          exact rOk_of rr178 (show ((rop 3 (xs 0) (31 : Int32)) = (4 : Int32)) ∧ ((xs 1) = (3 : Int32)) ∧ ((xs 2) = (3 : Int32)) ∧ (rcmp 4 (0 : Int32) (xs 3) = false) ∧ (rcmp 4 (xs 3) (xs 4) = false) ∧ (rcmp 4 (xs 4) (0 : Int32) = true) ∧ ((xs 1) = (3 : Int32)) ∧ ((xs 2) = (3 : Int32)) ∧ (rcmp 2 (xs 3) (0 : Int32) = false) ∧ (rcmp 4 (xs 3) (xs 4) = false) ∧ (rcmp 4 (xs 4) (0 : Int32) = true) ∧ True from ⟨h0, t1_3, t2_3, b3, b4, (rg4t (by have z0 := rine t3_0; have z1 := ri4f b3; have z2 := ri4f b4; have y0 := li_0; omega)), t1_3, t2_3, (rg2f (by have z0 := rine t3_0; have z1 := ri4f b3; have z2 := ri4f b4; have y0 := li_0; omega)), b4, (rg4t (by have z0 := rine t3_0; have z1 := ri4f b3; have z2 := ri4f b4; have y0 := li_0; omega)), trivial⟩)
    cases b2 : rcmp 2 (xs 2) (0 : Int32) with
    | true =>
      exact rOk_of rr159 (show ((rop 3 (xs 0) (31 : Int32)) = (4 : Int32)) ∧ ((xs 1) = (3 : Int32)) ∧ (rcmp 2 (xs 2) (0 : Int32) = true) ∧ ((xs 1) = (3 : Int32)) ∧ (rcmp 2 (xs 2) (0 : Int32) = true) ∧ True from ⟨h0, t1_3, b2, t1_3, b2, trivial⟩)
    | false =>
      exact rOk_of rr158 (show ((rop 3 (xs 0) (31 : Int32)) = (4 : Int32)) ∧ ((xs 1) = (3 : Int32)) ∧ (rcmp 2 (xs 2) (0 : Int32) = false) ∧ (rcmp 4 (xs 2) (3 : Int32) = true) ∧ ((xs 1) = (3 : Int32)) ∧ (rcmp 2 (xs 2) (0 : Int32) = false) ∧ (rcmp 3 (xs 2) (4 : Int32) = true) ∧ True from ⟨h0, t1_3, b2, (rg4t (by have z0 := rine t2_0; have z1 := rine t2_1; have z2 := rine t2_2; have z3 := rine t2_3; have z4 := ri2f b2; have y0 := li_0; have y1 := li_1; have y2 := li_2; have y3 := li_3; omega)), t1_3, b2, (rg3t (by have z0 := rine t2_0; have z1 := rine t2_1; have z2 := rine t2_2; have z3 := rine t2_3; have z4 := ri2f b2; have y0 := li_0; have y1 := li_1; have y2 := li_2; have y3 := li_3; have y4 := li_4; omega)), trivial⟩)
  cases b1 : rcmp 2 (xs 1) (0 : Int32) with
  | true =>
    exact rOk_of rr79 (show ((rop 3 (xs 0) (31 : Int32)) = (4 : Int32)) ∧ (rcmp 2 (xs 1) (0 : Int32) = true) ∧ (rcmp 2 (xs 1) (0 : Int32) = true) ∧ True from ⟨h0, b1, b1, trivial⟩)
  | false =>
    exact rOk_of rr78 (show ((rop 3 (xs 0) (31 : Int32)) = (4 : Int32)) ∧ (rcmp 2 (xs 1) (0 : Int32) = false) ∧ (rcmp 4 (xs 1) (3 : Int32) = true) ∧ (rcmp 2 (xs 1) (0 : Int32) = false) ∧ (rcmp 3 (xs 1) (4 : Int32) = true) ∧ True from ⟨h0, b1, (rg4t (by have z0 := rine t1_0; have z1 := rine t1_1; have z2 := rine t1_2; have z3 := rine t1_3; have z4 := ri2f b1; have y0 := li_0; have y1 := li_1; have y2 := li_2; have y3 := li_3; omega)), b1, (rg3t (by have z0 := rine t1_0; have z1 := rine t1_1; have z2 := rine t1_2; have z3 := rine t1_3; have z4 := ri2f b1; have y0 := li_0; have y1 := li_1; have y2 := li_2; have y3 := li_3; have y4 := li_4; omega)), trivial⟩)
