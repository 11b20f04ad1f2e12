set_option maxHeartbeats 4000000 in
set_option maxRecDepth 100000 in
theorem cov12 (xs : Nat → Int32) (h0 : (rop 3 (xs 0) (31 : Int32)) = (12 : Int32)) : rOk 6 xs := by
  by_cases t1_0 : (xs 1) = (0 : Int32)
  · by_cases t2_0 : (xs 2) = (0 : Int32)
    · by_cases t3_0 : (xs 3) = (0 : Int32)
      · cases b4 : rcmp 0 (xs 4) (0 : Int32) with
        | true =>
          exact rOk_of rr396 (show ((rop 3 (xs 0) (31 : Int32)) = (12 : Int32)) ∧ ((xs 1) = (0 : Int32)) ∧ ((xs 2) = (0 : Int32)) ∧ ((xs 3) = (0 : Int32)) ∧ (rcmp 0 (xs 4) (0 : Int32) = true) ∧ ((xs 1) = (0 : Int32)) ∧ ((xs 2) = (0 : Int32)) ∧ ((xs 3) = (0 : Int32)) ∧ (rcmp 0 (xs 4) (0 : Int32) = true) ∧ True from ⟨h0, t1_0, t2_0, t3_0, b4, t1_0, t2_0, t3_0, b4, trivial⟩)
        | false =>
          exact rOk_of rr395 (show ((rop 3 (xs 0) (31 : Int32)) = (12 : Int32)) ∧ ((xs 1) = (0 : Int32)) ∧ ((xs 2) = (0 : Int32)) ∧ ((xs 3) = (0 : Int32)) ∧ (rcmp 0 (xs 4) (0 : Int32) = false) ∧ ((xs 1) = (0 : Int32)) ∧ ((xs 2) = (0 : Int32)) ∧ ((xs 3) = (0 : Int32)) ∧ (rcmp 0 (xs 4) (0 : Int32) = false) ∧ True from ⟨h0, t1_0, t2_0, t3_0, b4, t1_0, t2_0, t3_0, b4, trivial⟩)
      cases b3 : rcmp 0 (xs 4) (0 : Int32) with
      | true =>
        cases b4 : rcmp 4 (0 : Int32) (xs 3) with
        | true =>
          exact rOk_of rr394 (show ((rop 3 (xs 0) (31 : Int32)) = (12 : Int32)) ∧ ((xs 1) = (0 : Int32)) ∧ ((xs 2) = (0 : Int32)) ∧ (rcmp 0 (xs 4) (0 : Int32) = true) ∧ (rcmp 4 (0 : Int32) (xs 3) = true) ∧ ((xs 1) = (0 : Int32)) ∧ ((xs 2) = (0 : Int32)) ∧ (rcmp 0 (xs 4) (0 : Int32) = true) ∧ (rcmp 4 (0 : Int32) (xs 3) = true) ∧ True from ⟨h0, t1_0, t2_0, b3, b4, t1_0, t2_0, b3, b4, trivial⟩)
        | false =>
          exact rOk_of rr393 (show ((rop 3 (xs 0) (31 : Int32)) = (12 : Int32)) ∧ ((xs 1) = (0 : Int32)) ∧ ((xs 2) = (0 : Int32)) ∧ (rcmp 0 (xs 4) (0 : Int32) = true) ∧ (rcmp 4 (0 : Int32) (xs 3) = false) ∧ (rcmp 4 (xs 3) (0 : Int32) = true) ∧ ((xs 1) = (0 : Int32)) ∧ ((xs 2) = (0 : Int32)) ∧ (rcmp 0 (xs 4) (0 : Int32) = true) ∧ (rcmp 4 (0 : Int32) (xs 3) = false) ∧ (rcmp 4 (xs 3) (0 : Int32) = true) ∧ True from ⟨h0, t1_0, t2_0, b3, b4, (rg4t (by have z0 := rine t3_0; have z1 := ri4f b4; have y0 := li_0; omega)), t1_0, t2_0, b3, b4, (rg4t (by have z0 := rine t3_0; have z1 := ri4f b4; have y0 := li_0; omega)), trivial⟩)
      | false =>
        cases b4 : rcmp 4 (0 : Int32) (xs 3) with
        | true =>
          exact rOk_of rr392 (show ((rop 3 (xs 0) (31 : Int32)) = (12 : Int32)) ∧ ((xs 1) = (0 : Int32)) ∧ ((xs 2) = (0 : Int32)) ∧ (rcmp 0 (xs 4) (0 : Int32) = false) ∧ (rcmp 4 (0 : Int32) (xs 3) = true) ∧ ((xs 1) = (0 : Int32)) ∧ ((xs 2) = (0 : Int32)) ∧ (rcmp 0 (xs 4) (0 : Int32) = false) ∧ (rcmp 4 (0 : Int32) (xs 3) = true) ∧ True from ⟨h0, t1_0, t2_0, b3, b4, t1_0, t2_0, b3, b4, trivial⟩)
        | false =>
          exact rOk_of rr391 (show ((rop 3 (xs 0) (31 : Int32)) = (12 : Int32)) ∧ ((xs 1) = (0 : Int32)) ∧ ((xs 2) = (0 : Int32)) ∧ (rcmp 0 (xs 4) (0 : Int32) = false) ∧ (rcmp 4 (0 : Int32) (xs 3) = false) ∧ (rcmp 4 (xs 3) (0 : Int32) = true) ∧ ((xs 1) = (0 : Int32)) ∧ ((xs 2) = (0 : Int32)) ∧ (rcmp 0 (xs 4) (0 : Int32) = false) ∧ (rcmp 4 (0 : Int32) (xs 3) = false) ∧ (rcmp 4 (xs 3) (0 : Int32) = true) ∧ True from ⟨h0, t1_0, t2_0, b3, b4, (rg4t (by have z0 := rine t3_0; have z1 := ri4f b4; have y0 := li_0; omega)), t1_0, t2_0, b3, b4, (rg4t (by have z0 := rine t3_0; have z1 := ri4f b4; have y0 := li_0; omega)), trivial⟩)
    cases b2 : rcmp 0 (xs 4) (0 : Int32) with
    | true =>
      cases b3 : rcmp 4 (0 : Int32) (xs 2) with
      | true =>
        exact rOk_of rr390 (show ((rop 3 (xs 0) (31 : Int32)) = (12 : Int32)) ∧ ((xs 1) = (0 : Int32)) ∧ (rcmp 0 (xs 4) (0 : Int32) = true) ∧ (rcmp 4 (0 : Int32) (xs 2) = true) ∧ ((xs 1) = (0 : Int32)) ∧ (rcmp 0 (xs 4) (0 : Int32) = true) ∧ (rcmp 2 (xs 2) (0 : Int32) = true) ∧ True from ⟨h0, t1_0, b2, b3, t1_0, b2, (rg2t (by have z0 := rine t2_0; have z1 := ri4t b3; have y0 := li_0; omega)), trivial⟩)
      | false =>
        cases b4 : rcmp 4 (xs 2) (xs 3) with
        | true =>
          exact rOk_of rr389 (show ((rop 3 (xs 0) (31 : Int32)) = (12 : Int32)) ∧ ((xs 1) = (0 : Int32)) ∧ (rcmp 0 (xs 4) (0 : Int32) = true) ∧ (rcmp 4 (0 : Int32) (xs 2) = false) ∧ (rcmp 4 (xs 2) (xs 3) = true) ∧ ((xs 1) = (0 : Int32)) ∧ (rcmp 0 (xs 4) (0 : Int32) = true) ∧ (rcmp 2 (xs 2) (0 : Int32) = false) ∧ (rcmp 4 (xs 2) (xs 3) = true) ∧ True from ⟨h0, t1_0, b2, b3, b4, t1_0, b2, (rg2f (by have z0 := rine t2_0; have z1 := ri4f b3; have z2 := ri4t b4; have y0 := li_0; omega)), b4, trivial⟩)
        | false =>
          exact rOk_of rr388 (show ((rop 3 (xs 0) (31 : Int32)) = (12 : Int32)) ∧ ((xs 1) = (0 : Int32)) ∧ (rcmp 0 (xs 4) (0 : Int32) = true) ∧ (rcmp 4 (0 : Int32) (xs 2) = false) ∧ (rcmp 4 (xs 2) (xs 3) = false) ∧ (rcmp 4 (xs 3) (0 : Int32) = true) ∧ ((xs 1) = (0 : Int32)) ∧ (rcmp 0 (xs 4) (0 : Int32) = true) ∧ (rcmp 2 (xs 2) (0 : Int32) = false) ∧ (rcmp 4 (xs 2) (xs 3) = false) ∧ (rcmp 4 (xs 3) (0 : Int32) = true) ∧ True from ⟨h0, t1_0, b2, b3, b4, (rg4t (by have z0 := rine t2_0; have z1 := ri4f b3; have z2 := ri4f b4; have y0 := li_0; omega)), t1_0, b2, (rg2f (by have z0 := rine t2_0; have z1 := ri4f b3; have z2 := ri4f b4; have y0 := li_0; omega)), b4, (rg4t (by have z0 := rine t2_0; have z1 := ri4f b3; have z2 := ri4f b4; have y0 := li_0; omega)), trivial⟩)
    | false =>
      cases b3 : rcmp 4 (0 : Int32) (xs 2) with
      | true =>
        exact rOk_of rr387 (show ((rop 3 (xs 0) (31 : Int32)) = (12 : Int32)) ∧ ((xs 1) = (0 : Int32)) ∧ (rcmp 0 (xs 4) (0 : Int32) = false) ∧ (rcmp 4 (0 : Int32) (xs 2) = true) ∧ ((xs 1) = (0 : Int32)) ∧ (rcmp 0 (xs 4) (0 : Int32) = false) ∧ (rcmp 2 (xs 2) (0 : Int32) = true) ∧ True from ⟨h0, t1_0, b2, b3, t1_0, b2, (rg2t (by have z0 := rine t2_0; have z1 := ri4t b3; have y0 := li_0; omega)), trivial⟩)
      | false =>
        cases b4 : rcmp 4 (xs 2) (xs 3) with
        | true =>
          exact rOk_of rr386 (show ((rop 3 (xs 0) (31 : Int32)) = (12 : Int32)) ∧ ((xs 1) = (0 : Int32)) ∧ (rcmp 0 (xs 4) (0 : Int32) = false) ∧ (rcmp 4 (0 : Int32) (xs 2) = false) ∧ (rcmp 4 (xs 2) (xs 3) = true) ∧ ((xs 1) = (0 : Int32)) ∧ (rcmp 0 (xs 4) (0 : Int32) = false) ∧ (rcmp 2 (xs 2) (0 : Int32) = false) ∧ (rcmp 4 (xs 2) (xs 3) = true) ∧ True from ⟨h0, t1_0, b2, b3, b4, t1_0, b2, (rg2f (by have z0 := rine t2_0; have z1 := ri4f b3; have z2 := ri4t b4; have y0 := li_0; omega)), b4, trivial⟩)
        | false =>
          exact rOk_of rr385 (show ((rop 3 (xs 0) (31 : Int32)) = (12 : Int32)) ∧ ((xs 1) = (0 : Int32)) ∧ (rcmp 0 (xs 4) (0 : Int32) = false) ∧ (rcmp 4 (0 : Int32) (xs 2) = false) ∧ (rcmp 4 (xs 2) (xs 3) = false) ∧ (rcmp 4 (xs 3) (0 : Int32) = true) ∧ ((xs 1) = (0 : Int32)) ∧ (rcmp 0 (xs 4) (0 : Int32) = false) ∧ (rcmp 2 (xs 2) (0 : Int32) = false) ∧ (rcmp 4 (xs 2) (xs 3) = false) ∧ (rcmp 4 (xs 3) (0 : Int32) = true) ∧ True from ⟨h0, t1_0, b2, b3, b4, (rg4t (by have z0 := rine t2_0; have z1 := ri4f b3; have z2 := ri4f b4; have y0 := li_0; omega)), t1_0, b2, (rg2f (by have z0 := rine t2_0; have z1 := ri4f b3; have z2 := ri4f b4; have y0 := li_0; omega)), b4, (rg4t (by have z0 := rine t2_0; have z1 := ri4f b3; have z2 := ri4f b4; have y0 := li_0; omega)), trivial⟩)
  by_cases t1_1 : (xs 1) = (1 : Int32)
  · by_cases t2_0 : (xs 2) = (0 : Int32)
    · by_cases t3_0 : (xs 3) = (0 : Int32)
      · cases b4 : rcmp 0 (xs 4) (0 : Int32) with
        | true =>
          exact rOk_of rr408 (show ((rop 3 (xs 0) (31 : Int32)) = (12 : Int32)) ∧ ((xs 1) = (1 : Int32)) ∧ ((xs 2) = (0 : Int32)) ∧ ((xs 3) = (0 : Int32)) ∧ (rcmp 0 (xs 4) (0 : Int32) = true) ∧ ((xs 1) = (1 : Int32)) ∧ ((xs 2) = (0 : Int32)) ∧ ((xs 3) = (0 : Int32)) ∧ (rcmp 0 (xs 4) (0 : Int32) = true) ∧ True from ⟨h0, t1_1, t2_0, t3_0, b4, t1_1, t2_0, t3_0, b4, trivial⟩)
        | false =>
          exact rOk_of rr407 (show ((rop 3 (xs 0) (31 : Int32)) = (12 : Int32)) ∧ ((xs 1) = (1 : Int32)) ∧ ((xs 2) = (0 : Int32)) ∧ ((xs 3) = (0 : Int32)) ∧ (rcmp 0 (xs 4) (0 : Int32) = false) ∧ ((xs 1) = (1 : Int32)) ∧ ((xs 2) = (0 : Int32)) ∧ ((xs 3) = (0 : Int32)) ∧ (rcmp 0 (xs 4) (0 : Int32) = false) ∧ True from ⟨h0, t1_1, t2_0, t3_0, b4, t1_1, t2_0, t3_0, b4, trivial⟩)
      cases b3 : rcmp 0 (xs 4) (0 : Int32) with
      | true =>
        cases b4 : rcmp 4 (0 : Int32) (xs 3) with
        | true =>
          exact rOk_of rr406 (show ((rop 3 (xs 0) (31 : Int32)) = (12 : Int32)) ∧ ((xs 1) = (1 : Int32)) ∧ ((xs 2) = (0 : Int32)) ∧ (rcmp 0 (xs 4) (0 : Int32) = true) ∧ (rcmp 4 (0 : Int32) (xs 3) = true) ∧ ((xs 1) = (1 : Int32)) ∧ ((xs 2) = (0 : Int32)) ∧ (rcmp 0 (xs 4) (0 : Int32) = true) ∧ (rcmp 4 (0 : Int32) (xs 3) = true) ∧ True from ⟨h0, t1_1, t2_0, b3, b4, t1_1, t2_0, b3, b4, trivial⟩)
        | false =>
          exact rOk_of rr405 (show ((rop 3 (xs 0) (31 : Int32)) = (12 : Int32)) ∧ ((xs 1) = (1 : Int32)) ∧ ((xs 2) = (0 : Int32)) ∧ (rcmp 0 (xs 4) (0 : Int32) = true) ∧ (rcmp 4 (0 : Int32) (xs 3) = false) ∧ (rcmp 4 (xs 3) (0 : Int32) = true) ∧ ((xs 1) = (1 : Int32)) ∧ ((xs 2) = (0 : Int32)) ∧ (rcmp 0 (xs 4) (0 : Int32) = true) ∧ (rcmp 4 (0 : Int32) (xs 3) = false) ∧ (rcmp 4 (xs 3) (0 : Int32) = true) ∧ True from ⟨h0, t1_1, t2_0, b3, b4, (rg4t (by have z0 := rine t3_0; have z1 := ri4f b4; have y0 := li_0; omega)), t1_1, t2_0, b3, b4, (rg4t (by have z0 := rine t3_0; have z1 := ri4f b4; have y0 := li_0; omega)), trivial⟩)
      | false =>
        cases b4 : rcmp 4 (0 : Int32) (xs 3) with
        | true =>
          exact rOk_of rr404 (show ((rop 3 (xs 0) (31 : Int32)) = (12 : Int32)) ∧ ((xs 1) = (1 : Int32)) ∧ ((xs 2) = (0 : Int32)) ∧ (rcmp 0 (xs 4) (0 : Int32) = false) ∧ (rcmp 4 (0 : Int32) (xs 3) = true) ∧ ((xs 1) = (1 : Int32)) ∧ ((xs 2) = (0 : Int32)) ∧ (rcmp 0 (xs 4) (0 : Int32) = false) ∧ (rcmp 4 (0 : Int32) (xs 3) = true) ∧ True from ⟨h0, t1_1, t2_0, b3, b4, t1_1, t2_0, b3, b4, trivial⟩)
        | false =>
          exact rOk_of rr403 (show ((rop 3 (xs 0) (31 : Int32)) = (12 : Int32)) ∧ ((xs 1) = (1 : Int32)) ∧ ((xs 2) = (0 : Int32)) ∧ (rcmp 0 (xs 4) (0 : Int32) = false) ∧ (rcmp 4 (0 : Int32) (xs 3) = false) ∧ (rcmp 4 (xs 3) (0 : Int32) = true) ∧ ((xs 1) = (1 : Int32)) ∧ ((xs 2) = (0 : Int32)) ∧ (rcmp 0 (xs 4) (0 : Int32) = false) ∧ (rcmp 4 (0 : Int32) (xs 3) = false) ∧ (rcmp 4 (xs 3) (0 : Int32) = true) ∧ True from ⟨h0, t1_1, t2_0, b3, b4, (rg4t (by have z0 := rine t3_0; have z1 := ri4f b4; have y0 := li_0; omega)), t1_1, t2_0, b3, b4, (rg4t (by have z0 := rine t3_0; have z1 := ri4f b4; have y0 := li_0; omega)), trivial⟩)
    cases b2 : rcmp 0 (xs 4) (0 : Int32) with
    | true =>
      cases b3 : rcmp 4 (0 : Int32) (xs 2) with
      | true =>
        exact rOk_of rr402 (show ((rop 3 (xs 0) (31 : Int32)) = (12 : Int32)) ∧ ((xs 1) = (1 : Int32)) ∧ (rcmp 0 (xs 4) (0 : Int32) = true) ∧ (rcmp 4 (0 : Int32) (xs 2) = true) ∧ ((xs 1) = (1 : Int32)) ∧ (rcmp 0 (xs 4) (0 : Int32) = true) ∧ (rcmp 2 (xs 2) (0 : Int32) = true) ∧ True from ⟨h0, t1_1, b2, b3, t1_1, b2, (rg2t (by have z0 := rine t2_0; have z1 := ri4t b3; have y0 := li_0; omega)), trivial⟩)
      | false =>
        cases b4 : rcmp 4 (xs 2) (xs 3) with
        | true =>
          exact rOk_of rr401 (show ((rop 3 (xs 0) (31 : Int32)) = (12 : Int32)) ∧ ((xs 1) = (1 : Int32)) ∧ (rcmp 0 (xs 4) (0 : Int32) = true) ∧ (rcmp 4 (0 : Int32) (xs 2) = false) ∧ (rcmp 4 (xs 2) (xs 3) = true) ∧ ((xs 1) = (1 : Int32)) ∧ (rcmp 0 (xs 4) (0 : Int32) = true) ∧ (rcmp 2 (xs 2) (0 : Int32) = false) ∧ (rcmp 4 (xs 2) (xs 3) = true) ∧ True from ⟨h0, t1_1, b2, b3, b4, t1_1, b2, (rg2f (by have z0 := rine t2_0; have z1 := ri4f b3; have z2 := ri4t b4; have y0 := li_0; omega)), b4, trivial⟩)
        | false =>
          exact rOk_of rr400 (show ((rop 3 (xs 0) (31 : Int32)) = (12 : Int32)) ∧ ((xs 1) = (1 : Int32)) ∧ (rcmp 0 (xs 4) (0 : Int32) = true) ∧ (rcmp 4 (0 : Int32) (xs 2) = false) ∧ (rcmp 4 (xs 2) (xs 3) = false) ∧ (rcmp 4 (xs 3) (0 : Int32) = true) ∧ ((xs 1) = (1 : Int32)) ∧ (rcmp 0 (xs 4) (0 : Int32) = true) ∧ (rcmp 2 (xs 2) (0 : Int32) = false) ∧ (rcmp 4 (xs 2) (xs 3) = false) ∧ (rcmp 4 (xs 3) (0 : Int32) = true) ∧ True from ⟨h0, t1_1, b2, b3, b4, (rg4t (by have z0 := rine t2_0; have z1 := ri4f b3; have z2 := ri4f b4; have y0 := li_0; omega)), t1_1, b2, (rg2f (by have z0 := rine t2_0; have z1 := ri4f b3; have z2 := ri4f b4; have y0 := li_0; omega)), b4, (rg4t (by have z0 := rine t2_0; have z1 := ri4f b3; have z2 := ri4f b4; have y0 := li_0; omega)), trivial⟩)
    | false =>
      cases b3 : rcmp 4 (0 : Int32) (xs 2) with
      | true =>
        exact rOk_of rr399 (show ((rop 3 (xs 0) (31 : Int32)) = (12 : Int32)) ∧ ((xs 1) = (1 : Int32)) ∧ (rcmp 0 (xs 4) (0 : Int32) = false) ∧ (rcmp 4 (0 : Int32) (xs 2) = true) ∧ ((xs 1) = (1 : Int32)) ∧ (rcmp 0 (xs 4) (0 : Int32) = false) ∧ (rcmp 2 (xs 2) (0 : Int32) = true) ∧ True from ⟨h0, t1_1, b2, b3, t1_1, b2, (rg2t (by have z0 := rine t2_0; have z1 := ri4t b3; have y0 := li_0; omega)), trivial⟩)
      | false =>
        cases b4 : rcmp 4 (xs 2) (xs 3) with
        | true =>
          exact rOk_of rr398 (show ((rop 3 (xs 0) (31 : Int32)) = (12 : Int32)) ∧ ((xs 1) = (1 : Int32)) ∧ (rcmp 0 (xs 4) (0 : Int32) = false) ∧ (rcmp 4 (0 : Int32) (xs 2) = false) ∧ (rcmp 4 (xs 2) (xs 3) = true) ∧ ((xs 1) = (1 : Int32)) ∧ (rcmp 0 (xs 4) (0 : Int32) = false) ∧ (rcmp 2 (xs 2) (0 : Int32) = false) ∧ (rcmp 4 (xs 2) (xs 3) = true) ∧ True from ⟨h0, t1_1, b2, b3, b4, t1_1, b2, (rg2f (by have z0 := rine t2_0; have z1 := ri4f b3; have z2 := ri4t b4; have y0 := li_0; omega)), b4, trivial⟩)
        | false =>
          exact rOk_of rr397 (show ((rop 3 (xs 0) (31 : Int32)) = (12 : Int32)) ∧ ((xs 1) = (1 : Int32)) ∧ (rcmp 0 (xs 4) (0 : Int32) = false) ∧ (rcmp 4 (0 : Int32) (xs 2) = false) ∧ (rcmp 4 (xs 2) (xs 3) = false) ∧ (rcmp 4 (xs 3) (0 : Int32) = true) ∧ ((xs 1) = (1 : Int32)) ∧ (rcmp 0 (xs 4) (0 : Int32) = false) ∧ (rcmp 2 (xs 2) (0 : Int32) = false) ∧ (rcmp 4 (xs 2) (xs 3) = false) ∧ (rcmp 4 (xs 3) (0 : Int32) = true) ∧ True from ⟨h0, t1_1, b2, b3, b4, (rg4t (by have z0 := rine t2_0; have z1 := ri4f b3; have z2 := ri4f b4; have y0 := li_0; omega)), t1_1, b2, (rg2f (by have z0 := rine t2_0; have z1 := ri4f b3; have z2 := ri4f b4; have y0 := li_0; omega)), b4, (rg4t (by have z0 := rine t2_0; have z1 := ri4f b3; have z2 := ri4f b4; have y0 := li_0; omega)), trivial⟩)
  by_cases t1_2 : (xs 1) = (2 : Int32)
  · by_cases t2_0 : (xs 2) = (0 : Int32)
    · by_cases t3_0 : (xs 3) = (0 : Int32)
      · cases b4 : rcmp 0 (xs 4) (0 : Int32) with
        | true =>
          exact rOk_of rr420 (show ((rop 3 (xs 0) (31 : Int32)) = (12 : Int32)) ∧ ((xs 1) = (2 : Int32)) ∧ ((xs 2) = (0 : Int32)) ∧ ((xs 3) = (0 : Int32)) ∧ (rcmp 0 (xs 4) (0 : Int32) = true) ∧ ((xs 1) = (2 : Int32)) ∧ ((xs 2) = (0 : Int32)) ∧ ((xs 3) = (0 : Int32)) ∧ (rcmp 0 (xs 4) (0 : Int32) = true) ∧ True from ⟨h0, t1_2, t2_0, t3_0, b4, t1_2, t2_0, t3_0, b4, trivial⟩)
        | false =>
          exact rOk_of rr419 (show ((rop 3 (xs 0) (31 : Int32)) = (12 : Int32)) ∧ ((xs 1) = (2 : Int32)) ∧ ((xs 2) = (0 : Int32)) ∧ ((xs 3) = (0 : Int32)) ∧ (rcmp 0 (xs 4) (0 : Int32) = false) ∧ ((xs 1) = (2 : Int32)) ∧ ((xs 2) = (0 : Int32)) ∧ ((xs 3) = (0 : Int32)) ∧ (rcmp 0 (xs 4) (0 : Int32) = false) ∧ True from ⟨h0, t1_2, t2_0, t3_0, b4, t1_2, t2_0, t3_0, b4, trivial⟩)
      cases b3 : rcmp 0 (xs 4) (0 : Int32) with
      | true =>
        cases b4 : rcmp 4 (0 : Int32) (xs 3) with
        | true =>
          exact rOk_of rr418 (show ((rop 3 (xs 0) (31 : Int32)) = (12 : Int32)) ∧ ((xs 1) = (2 : Int32)) ∧ ((xs 2) = (0 : Int32)) ∧ (rcmp 0 (xs 4) (0 : Int32) = true) ∧ (rcmp 4 (0 : Int32) (xs 3) = true) ∧ ((xs 1) = (2 : Int32)) ∧ ((xs 2) = (0 : Int32)) ∧ (rcmp 0 (xs 4) (0 : Int32) = true) ∧ (rcmp 4 (0 : Int32) (xs 3) = true) ∧ True from ⟨h0, t1_2, t2_0, b3, b4, t1_2, t2_0, b3, b4, trivial⟩)
        | false =>
          exact rOk_of rr417 (show ((rop 3 (xs 0) (31 : Int32)) = (12 : Int32)) ∧ ((xs 1) = (2 : Int32)) ∧ ((xs 2) = (0 : Int32)) ∧ (rcmp 0 (xs 4) (0 : Int32) = true) ∧ (rcmp 4 (0 : Int32) (xs 3) = false) ∧ (rcmp 4 (xs 3) (0 : Int32) = true) ∧ ((xs 1) = (2 : Int32)) ∧ ((xs 2) = (0 : Int32)) ∧ (rcmp 0 (xs 4) (0 : Int32) = true) ∧ (rcmp 4 (0 : Int32) (xs 3) = false) ∧ (rcmp 4 (xs 3) (0 : Int32) = true) ∧ True from ⟨h0, t1_2, t2_0, b3, b4, (rg4t (by have z0 := rine t3_0; have z1 := ri4f b4; have y0 := li_0; omega)), t1_2, t2_0, b3, b4, (rg4t (by have z0 := rine t3_0; have z1 := ri4f b4; have y0 := li_0; omega)), trivial⟩)
      | false =>
        cases b4 : rcmp 4 (0 : Int32) (xs 3) with
        | true =>
          exact rOk_of rr416 (show ((rop 3 (xs 0) (31 : Int32)) = (12 : Int32)) ∧ ((xs 1) = (2 : Int32)) ∧ ((xs 2) = (0 : Int32)) ∧ (rcmp 0 (xs 4) (0 : Int32) = false) ∧ (rcmp 4 (0 : Int32) (xs 3) = true) ∧ ((xs 1) = (2 : Int32)) ∧ ((xs 2) = (0 : Int32)) ∧ (rcmp 0 (xs 4) (0 : Int32) = false) ∧ (rcmp 4 (0 : Int32) (xs 3) = true) ∧ True from ⟨h0, t1_2, t2_0, b3, b4, t1_2, t2_0, b3, b4, trivial⟩)
        | false =>
          exact rOk_of rr415 (show ((rop 3 (xs 0) (31 : Int32)) = (12 : Int32)) ∧ ((xs 1) = (2 : Int32)) ∧ ((xs 2) = (0 : Int32)) ∧ (rcmp 0 (xs 4) (0 : Int32) = false) ∧ (rcmp 4 (0 : Int32) (xs 3) = false) ∧ (rcmp 4 (xs 3) (0 : Int32) = true) ∧ ((xs 1) = (2 : Int32)) ∧ ((xs 2) = (0 : Int32)) ∧ (rcmp 0 (xs 4) (0 : Int32) = false) ∧ (rcmp 4 (0 : Int32) (xs 3) = false) ∧ (rcmp 4 (xs 3) (0 : Int32) = true) ∧ True from ⟨h0, t1_2, t2_0, b3, b4, (rg4t (by have z0 := rine t3_0; have z1 := ri4f b4; have y0 := li_0; omega)), t1_2, t2_0, b3, b4, (rg4t (by have z0 := rine t3_0; have z1 := ri4f b4; have y0 := li_0; omega)), trivial⟩)
    cases b2 : rcmp 0 (xs 4) (0 : Int32) with
    | true =>
      cases b3 : rcmp 4 (0 : Int32) (xs 2) with
      | true =>
        exact rOk_of rr414 (show ((rop 3 (xs 0) (31 : Int32)) = (12 : Int32)) ∧ ((xs 1) = (2 : Int32)) ∧ (rcmp 0 (xs 4) (0 : Int32) = true) ∧ (rcmp 4 (0 : Int32) (xs 2) = true) ∧ ((xs 1) = (2 : Int32)) ∧ (rcmp 0 (xs 4) (0 : Int32) = true) ∧ (rcmp 2 (xs 2) (0 : Int32) = true) ∧ True from ⟨h0, t1_2, b2, b3, t1_2, b2, (rg2t (by have z0 := rine t2_0; have z1 := ri4t b3; have y0 := li_0; omega)), trivial⟩)
      | false =>
        cases b4 : rcmp 4 (xs 2) (xs 3) with
        | true =>
          exact rOk_of rr413 (show ((rop 3 (xs 0) (31 : Int32)) = (12 : Int32)) ∧ ((xs 1) = (2 : Int32)) ∧ (rcmp 0 (xs 4) (0 : Int32) = true) ∧ (rcmp 4 (0 : Int32) (xs 2) = false) ∧ (rcmp 4 (xs 2) (xs 3) = true) ∧ ((xs 1) = (2 : Int32)) ∧ (rcmp 0 (xs 4) (0 : Int32) = true) ∧ (rcmp 2 (xs 2) (0 : Int32) = false) ∧ (rcmp 4 (xs 2) (xs 3) = true) ∧ True from ⟨h0, t1_2, b2, b3, b4, t1_2, b2, (rg2f (by have z0 := rine t2_0; have z1 := ri4f b3; have z2 := ri4t b4; have y0 := li_0; omega)), b4, trivial⟩)
        | false =>
          exact rOk_of rr412 (show ((rop 3 (xs 0) (31 : Int32)) = (12 : Int32)) ∧ ((xs 1) = (2 : Int32)) ∧ (rcmp 0 (xs 4) (0 : Int32) = true) ∧ (rcmp 4 (0 : Int32) (xs 2) = false) ∧ (rcmp 4 (xs 2) (xs 3) = false) ∧ (rcmp 4 (xs 3) (0 : Int32) = true) ∧ ((xs 1) = (2 : Int32)) ∧ (rcmp 0 (xs 4) (0 : Int32) = true) ∧ (rcmp 2 (xs 2) (0 : Int32) = false) ∧ (rcmp 4 (xs 2) (xs 3) = false) ∧ (rcmp 4 (xs 3) (0 : Int32) = true) ∧ True from ⟨h0, t1_2, b2, b3, b4, (rg4t (by have z0 := rine t2_0; have z1 := ri4f b3; have z2 := ri4f b4; have y0 := li_0; omega)), t1_2, b2, (rg2f (by have z0 := rine t2_0; have z1 := ri4f b3; have z2 := ri4f b4; have y0 := li_0; omega)), b4, (rg4t (by have z0 := rine t2_0; have z1 := ri4f b3; have z2 := ri4f b4; have y0 := li_0; omega)), trivial⟩)
    | false =>
      cases b3 : rcmp 4 (0 : Int32) (xs 2) with
      | true =>
        exact rOk_of rr411 (show ((rop 3 (xs 0) (31 : Int32)) = (12 : Int32)) ∧ ((xs 1) = (2 : Int32)) ∧ (rcmp 0 (xs 4) (0 : Int32) = false) ∧ (rcmp 4 (0 : Int32) (xs 2) = true) ∧ ((xs 1) = (2 : Int32)) ∧ (rcmp 0 (xs 4) (0 : Int32) = false) ∧ (rcmp 2 (xs 2) (0 : Int32) = true) ∧ True from ⟨h0, t1_2, b2, b3, t1_2, b2, (rg2t (by have z0 := rine t2_0; have z1 := ri4t b3; have y0 := li_0; omega)), trivial⟩)
      | false =>
        cases b4 : rcmp 4 (xs 2) (xs 3) with
        | true =>
          exact rOk_of rr410 (show ((rop 3 (xs 0) (31 : Int32)) = (12 : Int32)) ∧ ((xs 1) = (2 : Int32)) ∧ (rcmp 0 (xs 4) (0 : Int32) = false) ∧ (rcmp 4 (0 : Int32) (xs 2) = false) ∧ (rcmp 4 (xs 2) (xs 3) = true) ∧ ((xs 1) = (2 : Int32)) ∧ (rcmp 0 (xs 4) (0 : Int32) = false) ∧ (rcmp 2 (xs 2) (0 : Int32) = false) ∧ (rcmp 4 (xs 2) (xs 3) = true) ∧ True from ⟨h0, t1_2, b2, b3, b4, t1_2, b2, (rg2f (by have z0 := rine t2_0; have z1 := ri4f b3; have z2 := ri4t b4; have y0 := li_0; omega)), b4, trivial⟩)
        | false =>
          exact rOk_of rr409 (show ((rop 3 (xs 0) (31 : Int32)) = (12 : Int32)) ∧ ((xs 1) = (2 : Int32)) ∧ (rcmp 0 (xs 4) (0 : Int32) = false) ∧ (rcmp 4 (0 : Int32) (xs 2) = false) ∧ (rcmp 4 (xs 2) (xs 3) = false) ∧ (rcmp 4 (xs 3) (0 : Int32) = true) ∧ ((xs 1) = (2 : Int32)) ∧ (rcmp 0 (xs 4) (0 : Int32) = false) ∧ (rcmp 2 (xs 2) (0 : Int32) = false) ∧ (rcmp 4 (xs 2) (xs 3) = false) ∧ (rcmp 4 (xs 3) (0 : Int32) = true) ∧ True from ⟨h0, t1_2, b2, b3, b4, (rg4t (by have z0 := rine t2_0; have z1 := ri4f b3; have z2 := ri4f b4; have y0 := li_0; omega)), t1_2, b2, (rg2f (by have z0 := rine t2_0; have z1 := ri4f b3; have z2 := ri4f b4; have y0 := li_0; omega)), b4, (rg4t (by have z0 := rine t2_0; have z1 := ri4f b3; have z2 := ri4f b4; have y0 := li_0; omega)), trivial⟩)
  by_cases t1_3 : (xs 1) = (3 : Int32)
  · by_cases t2_0 : (xs 2) = (0 : Int32)
    · by_cases t3_0 : (xs 3) = (0 : Int32)
      · cases b4 : rcmp 0 (xs 4) (0 : Int32) with
        | true =>
          exact rOk_of rr432 (show ((rop 3 (xs 0) (31 : Int32)) = (12 : Int32)) ∧ ((xs 1) = (3 : Int32)) ∧ ((xs 2) = (0 : Int32)) ∧ ((xs 3) = (0 : Int32)) ∧ (rcmp 0 (xs 4) (0 : Int32) = true) ∧ ((xs 1) = (3 : Int32)) ∧ ((xs 2) = (0 : Int32)) ∧ ((xs 3) = (0 : Int32)) ∧ (rcmp 0 (xs 4) (0 : Int32) = true) ∧ True from ⟨h0, t1_3, t2_0, t3_0, b4, t1_3, t2_0, t3_0, b4, trivial⟩)
        | false =>
          exact rOk_of rr431 (show ((rop 3 (xs 0) (31 : Int32)) = (12 : Int32)) ∧ ((xs 1) = (3 : Int32)) ∧ ((xs 2) = (0 : Int32)) ∧ ((xs 3) = (0 : Int32)) ∧ (rcmp 0 (xs 4) (0 : Int32) = false) ∧ ((xs 1) = (3 : Int32)) ∧ ((xs 2) = (0 : Int32)) ∧ ((xs 3) = (0 : Int32)) ∧ (rcmp 0 (xs 4) (0 : Int32) = false) ∧ True from ⟨h0, t1_3, t2_0, t3_0, b4, t1_3, t2_0, t3_0, b4, trivial⟩)
      cases b3 : rcmp 0 (xs 4) (0 : Int32) with
      | true =>
        cases b4 : rcmp 4 (0 : Int32) (xs 3) with
        | true =>
          exact rOk_of rr430 (show ((rop 3 (xs 0) (31 : Int32)) = (12 : Int32)) ∧ ((xs 1) = (3 : Int32)) ∧ ((xs 2) = (0 : Int32)) ∧ (rcmp 0 (xs 4) (0 : Int32) = true) ∧ (rcmp 4 (0 : Int32) (xs 3) = true) ∧ ((xs 1) = (3 : Int32)) ∧ ((xs 2) = (0 : Int32)) ∧ (rcmp 0 (xs 4) (0 : Int32) = true) ∧ (rcmp 4 (0 : Int32) (xs 3) = true) ∧ True from ⟨h0, t1_3, t2_0, b3, b4, t1_3, t2_0, b3, b4, trivial⟩)
        | false =>
          exact rOk_of rr429 (show ((rop 3 (xs 0) (31 : Int32)) = (12 : Int32)) ∧ ((xs 1) = (3 : Int32)) ∧ ((xs 2) = (0 : Int32)) ∧ (rcmp 0 (xs 4) (0 : Int32) = true) ∧ (rcmp 4 (0 : Int32) (xs 3) = false) ∧ (rcmp 4 (xs 3) (0 : Int32) = true) ∧ ((xs 1) = (3 : Int32)) ∧ ((xs 2) = (0 : Int32)) ∧ (rcmp 0 (xs 4) (0 : Int32) = true) ∧ (rcmp 4 (0 : Int32) (xs 3) = false) ∧ (rcmp 4 (xs 3) (0 : Int32) = true) ∧ True from ⟨h0, t1_3, t2_0, b3, b4, (rg4t (by have z0 := rine t3_0; have z1 := ri4f b4; have y0 := li_0; omega)), t1_3, t2_0, b3, b4, (rg4t (by have z0 := rine t3_0; have z1 := ri4f b4; have y0 := li_0; omega)), trivial⟩)
      | false =>
        cases b4 : rcmp 4 (0 : Int32) (xs 3) with
        | true =>
          exact rOk_of rr428 (show ((rop 3 (xs 0) (31 : Int32)) = (12 : Int32)) ∧ ((xs 1) = (3 : Int32)) ∧ ((xs 2) = (0 : Int32)) ∧ (rcmp 0 (xs 4) (0 : Int32) = false) ∧ (rcmp 4 (0 : Int32) (xs 3) = true) ∧ ((xs 1) = (3 : Int32)) ∧ ((xs 2) = (0 : Int32)) ∧ (rcmp 0 (xs 4) (0 : Int32) = false) ∧ (rcmp 4 (0 : Int32) (xs 3) = true) ∧ True from ⟨h0, t1_3, t2_0, b3, b4, t1_3, t2_0, b3, b4, trivial⟩)
        | false =>
          exact rOk_of rr427 (show ((rop 3 (xs 0) (31 : Int32)) = (12 : Int32)) ∧ ((xs 1) = (3 : Int32)) ∧ ((xs 2) = (0 : Int32)) ∧ (rcmp 0 (xs 4) (0 : Int32) = false) ∧ (rcmp 4 (0 : Int32) (xs 3) = false) ∧ (rcmp 4 (xs 3) (0 : Int32) = true) ∧ ((xs 1) = (3 : Int32)) ∧ ((xs 2) = (0 : Int32)) ∧ (rcmp 0 (xs 4) (0 : Int32) = false) ∧ (rcmp 4 (0 : Int32) (xs 3) = false) ∧ (rcmp 4 (xs 3) (0 : Int32) = true) ∧ True from ⟨h0, t1_3, t2_0, b3, b4, (rg4t (by have z0 := rine t3_0; have z1 := ri4f b4; have y0 := li_0; omega)), t1_3, t2_0, b3, b4, (rg4t (by have z0 := rine t3_0; have z1 := ri4f b4; have y0 := li_0; omega)), trivial⟩)
    cases b2 : rcmp 0 (xs 4) (0 : Int32) with
    | true =>
      cases b3 : rcmp 4 (0 : Int32) (xs 2) with
      | true =>
        exact rOk_of rr426 (show ((rop 3 (xs 0) (31 : Int32)) = (12 : Int32)) ∧ ((xs 1) = (3 : Int32)) ∧ (rcmp 0 (xs 4) (0 : Int32) = true) ∧ (rcmp 4 (0 : Int32) (xs 2) = true) ∧ ((xs 1) = (3 : Int32)) ∧ (rcmp 0 (xs 4) (0 : Int32) = true) ∧ (rcmp 2 (xs 2) (0 : Int32) = true) ∧ True from ⟨h0, t1_3, b2, b3, t1_3, b2, (rg2t (by have z0 := rine t2_0; have z1 := ri4t b3; have y0 := li_0; omega)), trivial⟩)
      | false =>
        cases b4 : rcmp 4 (xs 2) (xs 3) with
        | true =>
          exact rOk_of rr425 (show ((rop 3 (xs 0) (31 : Int32)) = (12 : Int32)) ∧ ((xs 1) = (3 : Int32)) ∧ (rcmp 0 (xs 4) (0 : Int32) = true) ∧ (rcmp 4 (0 : Int32) (xs 2) = false) ∧ (rcmp 4 (xs 2) (xs 3) = true) ∧ ((xs 1) = (3 : Int32)) ∧ (rcmp 0 (xs 4) (0 : Int32) = true) ∧ (rcmp 2 (xs 2) (0 : Int32) = false) ∧ (rcmp 4 (xs 2) (xs 3) = true) ∧ True from ⟨h0, t1_3, b2, b3, b4, t1_3, b2, (rg2f (by have z0 := rine t2_0; have z1 := ri4f b3; have z2 := ri4t b4; have y0 := li_0; omega)), b4, trivial⟩)
        | false =>
          exact rOk_of rr424 (show ((rop 3 (xs 0) (31 : Int32)) = (12 : Int32)) ∧ ((xs 1) = (3 : Int32)) ∧ (rcmp 0 (xs 4) (0 : Int32) = true) ∧ (rcmp 4 (0 : Int32) (xs 2) = false) ∧ (rcmp 4 (xs 2) (xs 3) = false) ∧ (rcmp 4 (xs 3) (0 : Int32) = true) ∧ ((xs 1) = (3 : Int32)) ∧ (rcmp 0 (xs 4) (0 : Int32) = true) ∧ (rcmp 2 (xs 2) (0 : Int32) = false) ∧ (rcmp 4 (xs 2) (xs 3) = false) ∧ (rcmp 4 (xs 3) (0 : Int32) = true) ∧ True from ⟨h0, t1_3, b2, b3, b4, (rg4t (by have z0 := rine t2_0; have z1 := ri4f b3; have z2 := ri4f b4; have y0 := li_0; omega)), t1_3, b2, (rg2f (by have z0 := rine t2_0; have z1 := ri4f b3; have z2 := ri4f b4; have y0 := li_0; omega)), b4, (rg4t (by have z0 := rine t2_0; have z1 := ri4f b3; have z2 := ri4f b4; have y0 := li_0; omega)), trivial⟩)
    | false =>
      cases b3 : rcmp 4 (0 : Int32) (xs 2) with
      | true =>
        exact rOk_of rr423 (show ((rop 3 (xs 0) (31 : Int32)) = (12 : Int32)) ∧ ((xs 1) = (3 : Int32)) ∧ (rcmp 0 (xs 4) (0 : Int32) = false) ∧ (rcmp 4 (0 : Int32) (xs 2) = true) ∧ ((xs 1) = (3 : Int32)) ∧ (rcmp 0 (xs 4) (0 : Int32) = false) ∧ (rcmp 2 (xs 2) (0 : Int32) = true) ∧ True from ⟨h0, t1_3, b2, b3, t1_3, b2, (rg2t (by have z0 := rine t2_0; have z1 := ri4t b3; have y0 := li_0; omega)), trivial⟩)
      | false =>
        cases b4 : rcmp 4 (xs 2) (xs 3) with
        | true =>
          exact rOk_of rr422 (show ((rop 3 (xs 0) (31 : Int32)) = (12 : Int32)) ∧ ((xs 1) = (3 : Int32)) ∧ (rcmp 0 (xs 4) (0 : Int32) = false) ∧ (rcmp 4 (0 : Int32) (xs 2) = false) ∧ (rcmp 4 (xs 2) (xs 3) = true) ∧ ((xs 1) = (3 : Int32)) ∧ (rcmp 0 (xs 4) (0 : Int32) = false) ∧ (rcmp 2 (xs 2) (0 : Int32) = false) ∧ (rcmp 4 (xs 2) (xs 3) = true) ∧ True from ⟨h0, t1_3, b2, b3, b4, t1_3, b2, (rg2f (by have z0 := rine t2_0; have z1 := ri4f b3; have z2 := ri4t b4; have y0 := li_0; omega)), b4, trivial⟩)
        | false =>
          exact rOk_of rr421 (show ((rop 3 (xs 0) (31 : Int32)) = (12 : Int32)) ∧ ((xs 1) = (3 : Int32)) ∧ (rcmp 0 (xs 4) (0 : Int32) = false) ∧ (rcmp 4 (0 : Int32) (xs 2) = false) ∧ (rcmp 4 (xs 2) (xs 3) = false) ∧ (rcmp 4 (xs 3) (0 : Int32) = true) ∧ ((xs 1) = (3 : Int32)) ∧ (rcmp 0 (xs 4) (0 : Int32) = false) ∧ (rcmp 2 (xs 2) (0 : Int32) = false) ∧ (rcmp 4 (xs 2) (xs 3) = false) ∧ (rcmp 4 (xs 3) (0 : Int32) = true) ∧ True from ⟨h0, t1_3, b2, b3, b4, (rg4t (by have z0 := rine t2_0; have z1 := ri4f b3; have z2 := ri4f b4; have y0 := li_0; omega)), t1_3, b2, (rg2f (by have z0 := rine t2_0; have z1 := ri4f b3; have z2 := ri4f b4; have y0 := li_0; omega)), b4, (rg4t (by have z0 := rine t2_0; have z1 := ri4f b3; have z2 := ri4f b4; have y0 := li_0; omega)), trivial⟩)
  cases b1 : rcmp 0 (xs 4) (0 : Int32) with
  | true =>
    cases b2 : rcmp 2 (xs 1) (0 : Int32) with
    | true =>
      exact rOk_of rr384 (show ((rop 3 (xs 0) (31 : Int32)) = (12 : Int32)) ∧ (rcmp 0 (xs 4) (0 : Int32) = true) ∧ (rcmp 2 (xs 1) (0 : Int32) = true) ∧ (rcmp 0 (xs 4) (0 : Int32) = true) ∧ (rcmp 2 (xs 1) (0 : Int32) = true) ∧ True from ⟨h0, b1, b2, b1, b2, trivial⟩)
    | false =>
      exact rOk_of rr383 (show ((rop 3 (xs 0) (31 : Int32)) = (12 : Int32)) ∧ (rcmp 0 (xs 4) (0 : Int32) = true) ∧ (rcmp 2 (xs 1) (0 : Int32) = false) ∧ (rcmp 4 (xs 1) (3 : Int32) = true) ∧ (rcmp 0 (xs 4) (0 : Int32) = true) ∧ (rcmp 2 (xs 1) (0 : Int32) = false) ∧ (rcmp 3 (xs 1) (4 : Int32) = true) ∧ True from ⟨h0, b1, b2, (rg4t (by have z0 := rine t1_0; have z1 := rine t1_1; have z2 := rine t1_2; have z3 := rine t1_3; have z4 := ri2f b2; have y0 := li_0; have y1 := li_1; have y2 := li_2; have y3 := li_3; omega)), b1, b2, (rg3t (by have z0 := rine t1_0; have z1 := rine t1_1; have z2 := rine t1_2; have z3 := rine t1_3; have z4 := ri2f b2; have y0 := li_0; have y1 := li_1; have y2 := li_2; have y3 := li_3; have y4 := li_4; omega)), trivial⟩)
  | false =>
    cases b2 : rcmp 2 (xs 1) (0 : Int32) with
    | true =>
      exact rOk_of rr382 (show ((rop 3 (xs 0) (31 : Int32)) = (12 : Int32)) ∧ (rcmp 0 (xs 4) (0 : Int32) = false) ∧ (rcmp 2 (xs 1) (0 : Int32) = true) ∧ (rcmp 0 (xs 4) (0 : Int32) = false) ∧ (rcmp 2 (xs 1) (0 : Int32) = true) ∧ True from ⟨h0, b1, b2, b1, b2, trivial⟩)
    | false =>
      exact rOk_of rr381 (show ((rop 3 (xs 0) (31 : Int32)) = (12 : Int32)) ∧ (rcmp 0 (xs 4) (0 : Int32) = false) ∧ (rcmp 2 (xs 1) (0 : Int32) = false) ∧ (rcmp 4 (xs 1) (3 : Int32) = true) ∧ (rcmp 0 (xs 4) (0 : Int32) = false) ∧ (rcmp 2 (xs 1) (0 : Int32) = false) ∧ (rcmp 3 (xs 1) (4 : Int32) = true) ∧ True from ⟨h0, b1, b2, (rg4t (by have z0 := rine t1_0; have z1 := rine t1_1; have z2 := rine t1_2; have z3 := rine t1_3; have z4 := ri2f b2; have y0 := li_0; have y1 := li_1; have y2 := li_2; have y3 := li_3; omega)), b1, b2, (rg3t (by have z0 := rine t1_0; have z1 := rine t1_1; have z2 := rine t1_2; have z3 := rine t1_3; have z4 := ri2f b2; have y0 := li_0; have y1 := li_1; have y2 := li_2; have y3 := li_3; have y4 := li_4; omega)), trivial⟩)
