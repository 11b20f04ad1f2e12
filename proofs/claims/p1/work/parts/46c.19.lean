set_option maxHeartbeats 4000000 in
set_option maxRecDepth 100000 in
theorem cov19 (xs : Nat → Int32) (h0 : (rop 3 (xs 0) (31 : Int32)) = (19 : Int32)) : rOk 6 xs := by
  by_cases t1_0 : (xs 1) = (0 : Int32)
  · by_cases t2_0 : (xs 2) = (0 : Int32)
    · cases b3 : rcmp 2 (xs 3) (0 : Int32) with
      | true =>
        exact rOk_of rr880 (show ((rop 3 (xs 0) (31 : Int32)) = (19 : Int32)) ∧ ((xs 1) = (0 : Int32)) ∧ ((xs 2) = (0 : Int32)) ∧ (rcmp 2 (xs 3) (0 : Int32) = true) ∧ ((xs 1) = (0 : Int32)) ∧ ((xs 2) = (0 : Int32)) ∧ (rcmp 2 (xs 3) (0 : Int32) = true) ∧ True from ⟨h0, t1_0, t2_0, b3, t1_0, t2_0, b3, trivial⟩)
      | false =>
        cases b4 : rcmp 5 (xs 3) (65536 : Int32) with
        | true =>
          exact rOk_of rr879 (show ((rop 3 (xs 0) (31 : Int32)) = (19 : Int32)) ∧ ((xs 1) = (0 : Int32)) ∧ ((xs 2) = (0 : Int32)) ∧ (rcmp 2 (xs 3) (0 : Int32) = false) ∧ (rcmp 5 (xs 3) (65536 : Int32) = true) ∧ ((xs 1) = (0 : Int32)) ∧ ((xs 2) = (0 : Int32)) ∧ (rcmp 2 (xs 3) (0 : Int32) = false) ∧ (rcmp 4 (xs 3) (65536 : Int32) = false) ∧ True from ⟨h0, t1_0, t2_0, b3, b4, t1_0, t2_0, b3, (rg4f (by have z0 := ri2f b3; have z1 := ri5t b4; have y0 := li_0; have y1 := li_65536; omega)), trivial⟩)
        | false =>
          exact rOk_of rr878 (show ((rop 3 (xs 0) (31 : Int32)) = (19 : Int32)) ∧ ((xs 1) = (0 : Int32)) ∧ ((xs 2) = (0 : Int32)) ∧ (rcmp 2 (xs 3) (0 : Int32) = false) ∧ (rcmp 5 (xs 3) (65536 : Int32) = false) ∧ ((xs 1) = (0 : Int32)) ∧ ((xs 2) = (0 : Int32)) ∧ (rcmp 2 (xs 3) (0 : Int32) = false) ∧ (rcmp 4 (xs 3) (65536 : Int32) = true) ∧ True from ⟨h0, t1_0, t2_0, b3, b4, t1_0, t2_0, b3, (rg4t (by have z0 := ri2f b3; have z1 := ri5f b4; have y0 := li_0; have y1 := li_65536; omega)), trivial⟩)
    by_cases t2_1 : (xs 2) = (1 : Int32)
    · cases b3 : rcmp 2 (xs 3) (0 : Int32) with
      | true =>
        exact rOk_of rr883 (show ((rop 3 (xs 0) (31 : Int32)) = (19 : Int32)) ∧ ((xs 1) = (0 : Int32)) ∧ ((xs 2) = (1 : Int32)) ∧ (rcmp 2 (xs 3) (0 : Int32) = true) ∧ ((xs 1) = (0 : Int32)) ∧ ((xs 2) = (1 : Int32)) ∧ (rcmp 2 (xs 3) (0 : Int32) = true) ∧ True from ⟨h0, t1_0, t2_1, b3, t1_0, t2_1, b3, trivial⟩)
      | false =>
        cases b4 : rcmp 5 (xs 3) (65536 : Int32) with
        | true =>
          exact rOk_of rr882 (show ((rop 3 (xs 0) (31 : Int32)) = (19 : Int32)) ∧ ((xs 1) = (0 : Int32)) ∧ ((xs 2) = (1 : Int32)) ∧ (rcmp 2 (xs 3) (0 : Int32) = false) ∧ (rcmp 5 (xs 3) (65536 : Int32) = true) ∧ ((xs 1) = (0 : Int32)) ∧ ((xs 2) = (1 : Int32)) ∧ (rcmp 2 (xs 3) (0 : Int32) = false) ∧ (rcmp 4 (xs 3) (65536 : Int32) = false) ∧ True from ⟨h0, t1_0, t2_1, b3, b4, t1_0, t2_1, b3, (rg4f (by have z0 := ri2f b3; have z1 := ri5t b4; have y0 := li_0; have y1 := li_65536; omega)), trivial⟩)
        | false =>
          exact rOk_of rr881 (show ((rop 3 (xs 0) (31 : Int32)) = (19 : Int32)) ∧ ((xs 1) = (0 : Int32)) ∧ ((xs 2) = (1 : Int32)) ∧ (rcmp 2 (xs 3) (0 : Int32) = false) ∧ (rcmp 5 (xs 3) (65536 : Int32) = false) ∧ ((xs 1) = (0 : Int32)) ∧ ((xs 2) = (1 : Int32)) ∧ (rcmp 2 (xs 3) (0 : Int32) = false) ∧ (rcmp 4 (xs 3) (65536 : Int32) = true) ∧ True from ⟨h0, t1_0, t2_1, b3, b4, t1_0, t2_1, b3, (rg4t (by have z0 := ri2f b3; have z1 := ri5f b4; have y0 := li_0; have y1 := li_65536; omega)), trivial⟩)
    by_cases t2_2 : (xs 2) = (2 : Int32)
    · cases b3 : rcmp 2 (xs 3) (0 : Int32) with
      | true =>
        exact rOk_of rr886 (show ((rop 3 (xs 0) (31 : Int32)) = (19 : Int32)) ∧ ((xs 1) = (0 : Int32)) ∧ ((xs 2) = (2 : Int32)) ∧ (rcmp 2 (xs 3) (0 : Int32) = true) ∧ ((xs 1) = (0 : Int32)) ∧ ((xs 2) = (2 : Int32)) ∧ (rcmp 2 (xs 3) (0 : Int32) = true) ∧ True from ⟨h0, t1_0, t2_2, b3, t1_0, t2_2, b3, trivial⟩)
      | false =>
        cases b4 : rcmp 5 (xs 3) (65536 : Int32) with
        | true =>
          exact rOk_of rr885 (show ((rop 3 (xs 0) (31 : Int32)) = (19 : Int32)) ∧ ((xs 1) = (0 : Int32)) ∧ ((xs 2) = (2 : Int32)) ∧ (rcmp 2 (xs 3) (0 : Int32) = false) ∧ (rcmp 5 (xs 3) (65536 : Int32) = true) ∧ ((xs 1) = (0 : Int32)) ∧ ((xs 2) = (2 : Int32)) ∧ (rcmp 2 (xs 3) (0 : Int32) = false) ∧ (rcmp 4 (xs 3) (65536 : Int32) = false) ∧ True from ⟨h0, t1_0, t2_2, b3, b4, t1_0, t2_2, b3, (rg4f (by have z0 := ri2f b3; have z1 := ri5t b4; have y0 := li_0; have y1 := li_65536; omega)), trivial⟩)
        | false =>
          exact rOk_of rr884 (show ((rop 3 (xs 0) (31 : Int32)) = (19 : Int32)) ∧ ((xs 1) = (0 : Int32)) ∧ ((xs 2) = (2 : Int32)) ∧ (rcmp 2 (xs 3) (0 : Int32) = false) ∧ (rcmp 5 (xs 3) (65536 : Int32) = false) ∧ ((xs 1) = (0 : Int32)) ∧ ((xs 2) = (2 : Int32)) ∧ (rcmp 2 (xs 3) (0 : Int32) = false) ∧ (rcmp 4 (xs 3) (65536 : Int32) = true) ∧ True from ⟨h0, t1_0, t2_2, b3, b4, t1_0, t2_2, b3, (rg4t (by have z0 := ri2f b3; have z1 := ri5f b4; have y0 := li_0; have y1 := li_65536; omega)), trivial⟩)
    by_cases t2_3 : (xs 2) = (3 : Int32)
    · cases b3 : rcmp 2 (xs 3) (0 : Int32) with
      | true =>
        exact rOk_of rr889 (show ((rop 3 (xs 0) (31 : Int32)) = (19 : Int32)) ∧ ((xs 1) = (0 : Int32)) ∧ ((xs 2) = (3 : Int32)) ∧ (rcmp 2 (xs 3) (0 : Int32) = true) ∧ ((xs 1) = (0 : Int32)) ∧ ((xs 2) = (3 : Int32)) ∧ (rcmp 2 (xs 3) (0 : Int32) = true) ∧ True from ⟨h0, t1_0, t2_3, b3, t1_0, t2_3, b3, trivial⟩)
      | false =>
        cases b4 : rcmp 5 (xs 3) (65536 : Int32) with
        | true =>
          exact rOk_of rr888 (show ((rop 3 (xs 0) (31 : Int32)) = (19 : Int32)) ∧ ((xs 1) = (0 : Int32)) ∧ ((xs 2) = (3 : Int32)) ∧ (rcmp 2 (xs 3) (0 : Int32) = false) ∧ (rcmp 5 (xs 3) (65536 : Int32) = true) ∧ ((xs 1) = (0 : Int32)) ∧ ((xs 2) = (3 : Int32)) ∧ (rcmp 2 (xs 3) (0 : Int32) = false) ∧ (rcmp 4 (xs 3) (65536 : Int32) = false) ∧ True from ⟨h0, t1_0, t2_3, b3, b4, t1_0, t2_3, b3, (rg4f (by have z0 := ri2f b3; have z1 := ri5t b4; have y0 := li_0; have y1 := li_65536; omega)), trivial⟩)
        | false =>
          exact rOk_of rr887 (show ((rop 3 (xs 0) (31 : Int32)) = (19 : Int32)) ∧ ((xs 1) = (0 : Int32)) ∧ ((xs 2) = (3 : Int32)) ∧ (rcmp 2 (xs 3) (0 : Int32) = false) ∧ (rcmp 5 (xs 3) (65536 : Int32) = false) ∧ ((xs 1) = (0 : Int32)) ∧ ((xs 2) = (3 : Int32)) ∧ (rcmp 2 (xs 3) (0 : Int32) = false) ∧ (rcmp 4 (xs 3) (65536 : Int32) = true) ∧ True from ⟨h0, t1_0, t2_3, b3, b4, t1_0, t2_3, b3, (rg4t (by have z0 := ri2f b3; have z1 := ri5f b4; have y0 := li_0; have y1 := li_65536; omega)), trivial⟩)
    cases b2 : rcmp 2 (xs 2) (0 : Int32) with
    | true =>
      exact rOk_of rr877 (show ((rop 3 (xs 0) (31 : Int32)) = (19 : Int32)) ∧ ((xs 1) = (0 : Int32)) ∧ (rcmp 2 (xs 2) (0 : Int32) = true) ∧ ((xs 1) = (0 : Int32)) ∧ (rcmp 2 (xs 2) (0 : Int32) = true) ∧ True from ⟨h0, t1_0, b2, t1_0, b2, trivial⟩)
    | false =>
      exact rOk_of rr876 (show ((rop 3 (xs 0) (31 : Int32)) = (19 : Int32)) ∧ ((xs 1) = (0 : Int32)) ∧ (rcmp 2 (xs 2) (0 : Int32) = false) ∧ (rcmp 4 (xs 2) (3 : Int32) = true) ∧ ((xs 1) = (0 : Int32)) ∧ (rcmp 2 (xs 2) (0 : Int32) = false) ∧ (rcmp 3 (xs 2) (4 : Int32) = true) ∧ True from ⟨h0, t1_0, b2, (rg4t (by have z0 := rine t2_0; have z1 := rine t2_1; have z2 := rine t2_2; have z3 := rine t2_3; have z4 := ri2f b2; have y0 := li_0; have y1 := li_1; have y2 := li_2; have y3 := li_3; omega)), t1_0, b2, (rg3t (by have z0 := rine t2_0; have z1 := rine t2_1; have z2 := rine t2_2; have z3 := rine t2_3; have z4 := ri2f b2; have y0 := li_0; have y1 := li_1; have y2 := li_2; have y3 := li_3; have y4 := li_4; omega)), trivial⟩)
  by_cases t1_1 : (xs 1) = (1 : Int32)
  · by_cases t2_0 : (xs 2) = (0 : Int32)
    · cases b3 : rcmp 2 (xs 3) (0 : Int32) with
      | true =>
        exact rOk_of rr894 (show ((rop 3 (xs 0) (31 : Int32)) = (19 : Int32)) ∧ ((xs 1) = (1 : Int32)) ∧ ((xs 2) = (0 : Int32)) ∧ (rcmp 2 (xs 3) (0 : Int32) = true) ∧ ((xs 1) = (1 : Int32)) ∧ ((xs 2) = (0 : Int32)) ∧ (rcmp 2 (xs 3) (0 : Int32) = true) ∧ True from ⟨h0, t1_1, t2_0, b3, t1_1, t2_0, b3, trivial⟩)
      | false =>
        cases b4 : rcmp 5 (xs 3) (65536 : Int32) with
        | true =>
          exact rOk_of rr893 (show ((rop 3 (xs 0) (31 : Int32)) = (19 : Int32)) ∧ ((xs 1) = (1 : Int32)) ∧ ((xs 2) = (0 : Int32)) ∧ (rcmp 2 (xs 3) (0 : Int32) = false) ∧ (rcmp 5 (xs 3) (65536 : Int32) = true) ∧ ((xs 1) = (1 : Int32)) ∧ ((xs 2) = (0 : Int32)) ∧ (rcmp 2 (xs 3) (0 : Int32) = false) ∧ (rcmp 4 (xs 3) (65536 : Int32) = false) ∧ True from ⟨h0, t1_1, t2_0, b3, b4, t1_1, t2_0, b3, (rg4f (by have z0 := ri2f b3; have z1 := ri5t b4; have y0 := li_0; have y1 := li_65536; omega)), trivial⟩)
        | false =>
          exact rOk_of rr892 (show ((rop 3 (xs 0) (31 : Int32)) = (19 : Int32)) ∧ ((xs 1) = (1 : Int32)) ∧ ((xs 2) = (0 : Int32)) ∧ (rcmp 2 (xs 3) (0 : Int32) = false) ∧ (rcmp 5 (xs 3) (65536 : Int32) = false) ∧ ((xs 1) = (1 : Int32)) ∧ ((xs 2) = (0 : Int32)) ∧ (rcmp 2 (xs 3) (0 : Int32) = false) ∧ (rcmp 4 (xs 3) (65536 : Int32) = true) ∧ True from ⟨h0, t1_1, t2_0, b3, b4, t1_1, t2_0, b3, (rg4t (by have z0 := ri2f b3; have z1 := ri5f b4; have y0 := li_0; have y1 := li_65536; omega)), trivial⟩)
    by_cases t2_1 : (xs 2) = (1 : Int32)
    · cases b3 : rcmp 2 (xs 3) (0 : Int32) with
      | true =>
        exact rOk_of rr897 (show ((rop 3 (xs 0) (31 : Int32)) = (19 : Int32)) ∧ ((xs 1) = (1 : Int32)) ∧ ((xs 2) = (1 : Int32)) ∧ (rcmp 2 (xs 3) (0 : Int32) = true) ∧ ((xs 1) = (1 : Int32)) ∧ ((xs 2) = (1 : Int32)) ∧ (rcmp 2 (xs 3) (0 : Int32) = true) ∧ True from ⟨h0, t1_1, t2_1, b3, t1_1, t2_1, b3, trivial⟩)
      | false =>
        cases b4 : rcmp 5 (xs 3) (65536 : Int32) with
        | true =>
          exact rOk_of rr896 (show ((rop 3 (xs 0) (31 : Int32)) = (19 : Int32)) ∧ ((xs 1) = (1 : Int32)) ∧ ((xs 2) = (1 : Int32)) ∧ (rcmp 2 (xs 3) (0 : Int32) = false) ∧ (rcmp 5 (xs 3) (65536 : Int32) = true) ∧ ((xs 1) = (1 : Int32)) ∧ ((xs 2) = (1 : Int32)) ∧ (rcmp 2 (xs 3) (0 : Int32) = false) ∧ (rcmp 4 (xs 3) (65536 : Int32) = false) ∧ True from ⟨h0, t1_1, t2_1, b3, b4, t1_1, t2_1, b3, (rg4f (by have z0 := ri2f b3; have z1 := ri5t b4; have y0 := li_0; have y1 := li_65536; omega)), trivial⟩)
        | false =>
          exact rOk_of rr895 (show ((rop 3 (xs 0) (31 : Int32)) = (19 : Int32)) ∧ ((xs 1) = (1 : Int32)) ∧ ((xs 2) = (1 : Int32)) ∧ (rcmp 2 (xs 3) (0 : Int32) = false) ∧ (rcmp 5 (xs 3) (65536 : Int32) = false) ∧ ((xs 1) = (1 : Int32)) ∧ ((xs 2) = (1 : Int32)) ∧ (rcmp 2 (xs 3) (0 : Int32) = false) ∧ (rcmp 4 (xs 3) (65536 : Int32) = true) ∧ True from ⟨h0, t1_1, t2_1, b3, b4, t1_1, t2_1, b3, (rg4t (by have z0 := ri2f b3; have z1 := ri5f b4; have y0 := li_0; have y1 := li_65536; omega)), trivial⟩)
    by_cases t2_2 : (xs 2) = (2 : Int32)
    · cases b3 : rcmp 2 (xs 3) (0 : Int32) with
      | true =>
        exact rOk_of rr900 (show ((rop 3 (xs 0) (31 : Int32)) = (19 : Int32)) ∧ ((xs 1) = (1 : Int32)) ∧ ((xs 2) = (2 : Int32)) ∧ (rcmp 2 (xs 3) (0 : Int32) = true) ∧ ((xs 1) = (1 : Int32)) ∧ ((xs 2) = (2 : Int32)) ∧ (rcmp 2 (xs 3) (0 : Int32) = true) ∧ True from ⟨h0, t1_1, t2_2, b3, t1_1, t2_2, b3, trivial⟩)
      | false =>
        cases b4 : rcmp 5 (xs 3) (65536 : Int32) with
        | true =>
          exact rOk_of rr899 (show ((rop 3 (xs 0) (31 : Int32)) = (19 : Int32)) ∧ ((xs 1) = (1 : Int32)) ∧ ((xs 2) = (2 : Int32)) ∧ (rcmp 2 (xs 3) (0 : Int32) = false) ∧ (rcmp 5 (xs 3) (65536 : Int32) = true) ∧ ((xs 1) = (1 : Int32)) ∧ ((xs 2) = (2 : Int32)) ∧ (rcmp 2 (xs 3) (0 : Int32) = false) ∧ (rcmp 4 (xs 3) (65536 : Int32) = false) ∧ True from ⟨h0, t1_1, t2_2, b3, b4, t1_1, t2_2, b3, (rg4f (by have z0 := ri2f b3; have z1 := ri5t b4; have y0 := li_0; have y1 := li_65536; omega)), trivial⟩)
        | false =>
          exact rOk_of rr898 (show ((rop 3 (xs 0) (31 : Int32)) = (19 : Int32)) ∧ ((xs 1) = (1 : Int32)) ∧ ((xs 2) = (2 : Int32)) ∧ (rcmp 2 (xs 3) (0 : Int32) = false) ∧ (rcmp 5 (xs 3) (65536 : Int32) = false) ∧ ((xs 1) = (1 : Int32)) ∧ ((xs 2) = (2 : Int32)) ∧ (rcmp 2 (xs 3) (0 : Int32) = false) ∧ (rcmp 4 (xs 3) (65536 : Int32) = true) ∧ True from ⟨h0, t1_1, t2_2, b3, b4, t1_1, t2_2, b3, (rg4t (by have z0 := ri2f b3; have z1 := ri5f b4; have y0 := li_0; have y1 := li_65536; omega)), trivial⟩)
    by_cases t2_3 : (xs 2) = (3 : Int32)
    · cases b3 : rcmp 2 (xs 3) (0 : Int32) with
      | true =>
        exact rOk_of rr903 (show ((rop 3 (xs 0) (31 : Int32)) = (19 : Int32)) ∧ ((xs 1) = (1 : Int32)) ∧ ((xs 2) = (3 : Int32)) ∧ (rcmp 2 (xs 3) (0 : Int32) = true) ∧ ((xs 1) = (1 : Int32)) ∧ ((xs 2) = (3 : Int32)) ∧ (rcmp 2 (xs 3) (0 : Int32) = true) ∧ True from ⟨h0, t1_1, t2_3, b3, t1_1, t2_3, b3, trivial⟩)
      | false =>
        cases b4 : rcmp 5 (xs 3) (65536 : Int32) with
        | true =>
          exact rOk_of rr902 (show ((rop 3 (xs 0) (31 : Int32)) = (19 : Int32)) ∧ ((xs 1) = (1 : Int32)) ∧ ((xs 2) = (3 : Int32)) ∧ (rcmp 2 (xs 3) (0 : Int32) = false) ∧ (rcmp 5 (xs 3) (65536 : Int32) = true) ∧ ((xs 1) = (1 : Int32)) ∧ ((xs 2) = (3 : Int32)) ∧ (rcmp 2 (xs 3) (0 : Int32) = false) ∧ (rcmp 4 (xs 3) (65536 : Int32) = false) ∧ True from ⟨h0, t1_1, t2_3, b3, b4, t1_1, t2_3, b3, (rg4f (by have z0 := ri2f b3; have z1 := ri5t b4; have y0 := li_0; have y1 := li_65536; omega)), trivial⟩)
        | false =>
          exact rOk_of rr901 (show ((rop 3 (xs 0) (31 : Int32)) = (19 : Int32)) ∧ ((xs 1) = (1 : Int32)) ∧ ((xs 2) = (3 : Int32)) ∧ (rcmp 2 (xs 3) (0 : Int32) = false) ∧ (rcmp 5 (xs 3) (65536 : Int32) = false) ∧ ((xs 1) = (1 : Int32)) ∧ ((xs 2) = (3 : Int32)) ∧ (rcmp 2 (xs 3) (0 : Int32) = false) ∧ (rcmp 4 (xs 3) (65536 : Int32) = true) ∧ True from ⟨h0, t1_1, t2_3, b3, b4, t1_1, t2_3, b3, (rg4t (by have z0 := ri2f b3; have z1 := ri5f b4; have y0 := li_0; have y1 := li_65536; omega)), trivial⟩)
    cases b2 : rcmp 2 (xs 2) (0 : Int32) with
    | true =>
      exact rOk_of rr891 (show ((rop 3 (xs 0) (31 : Int32)) = (19 : Int32)) ∧ ((xs 1) = (1 : Int32)) ∧ (rcmp 2 (xs 2) (0 : Int32) = true) ∧ ((xs 1) = (1 : Int32)) ∧ (rcmp 2 (xs 2) (0 : Int32) = true) ∧ True from ⟨h0, t1_1, b2, t1_1, b2, trivial⟩)
    | false =>
      exact rOk_of rr890 (show ((rop 3 (xs 0) (31 : Int32)) = (19 : Int32)) ∧ ((xs 1) = (1 : Int32)) ∧ (rcmp 2 (xs 2) (0 : Int32) = false) ∧ (rcmp 4 (xs 2) (3 : Int32) = true) ∧ ((xs 1) = (1 : Int32)) ∧ (rcmp 2 (xs 2) (0 : Int32) = false) ∧ (rcmp 3 (xs 2) (4 : Int32) = true) ∧ True from ⟨h0, t1_1, b2, (rg4t (by have z0 := rine t2_0; have z1 := rine t2_1; have z2 := rine t2_2; have z3 := rine t2_3; have z4 := ri2f b2; have y0 := li_0; have y1 := li_1; have y2 := li_2; have y3 := li_3; omega)), t1_1, b2, (rg3t (by have z0 := rine t2_0; have z1 := rine t2_1; have z2 := rine t2_2; have z3 := rine t2_3; have z4 := ri2f b2; have y0 := li_0; have y1 := li_1; have y2 := li_2; have y3 := li_3; have y4 := li_4; omega)), trivial⟩)
  by_cases t1_2 : (xs 1) = (2 : Int32)
  · by_cases t2_0 : (xs 2) = (0 : Int32)
    · cases b3 : rcmp 2 (xs 3) (0 : Int32) with
      | true =>
        exact rOk_of rr908 (show ((rop 3 (xs 0) (31 : Int32)) = (19 : Int32)) ∧ ((xs 1) = (2 : Int32)) ∧ ((xs 2) = (0 : Int32)) ∧ (rcmp 2 (xs 3) (0 : Int32) = true) ∧ ((xs 1) = (2 : Int32)) ∧ ((xs 2) = (0 : Int32)) ∧ (rcmp 2 (xs 3) (0 : Int32) = true) ∧ True from ⟨h0, t1_2, t2_0, b3, t1_2, t2_0, b3, trivial⟩)
      | false =>
        cases b4 : rcmp 5 (xs 3) (65536 : Int32) with
        | true =>
          exact rOk_of rr907 (show ((rop 3 (xs 0) (31 : Int32)) = (19 : Int32)) ∧ ((xs 1) = (2 : Int32)) ∧ ((xs 2) = (0 : Int32)) ∧ (rcmp 2 (xs 3) (0 : Int32) = false) ∧ (rcmp 5 (xs 3) (65536 : Int32) = true) ∧ ((xs 1) = (2 : Int32)) ∧ ((xs 2) = (0 : Int32)) ∧ (rcmp 2 (xs 3) (0 : Int32) = false) ∧ (rcmp 4 (xs 3) (65536 : Int32) = false) ∧ True from ⟨h0, t1_2, t2_0, b3, b4, t1_2, t2_0, b3, (rg4f (by have z0 := ri2f b3; have z1 := ri5t b4; have y0 := li_0; have y1 := li_65536; omega)), trivial⟩)
        | false =>
          exact rOk_of rr906 (show ((rop 3 (xs 0) (31 : Int32)) = (19 : Int32)) ∧ ((xs 1) = (2 : Int32)) ∧ ((xs 2) = (0 : Int32)) ∧ (rcmp 2 (xs 3) (0 : Int32) = false) ∧ (rcmp 5 (xs 3) (65536 : Int32) = false) ∧ ((xs 1) = (2 : Int32)) ∧ ((xs 2) = (0 : Int32)) ∧ (rcmp 2 (xs 3) (0 : Int32) = false) ∧ (rcmp 4 (xs 3) (65536 : Int32) = true) ∧ True from ⟨h0, t1_2, t2_0, b3, b4, t1_2, t2_0, b3, (rg4t (by have z0 := ri2f b3; have z1 := ri5f b4; have y0 := li_0; have y1 := li_65536; omega)), trivial⟩)
    by_cases t2_1 : (xs 2) = (1 : Int32)
    · cases b3 : rcmp 2 (xs 3) (0 : Int32) with
      | true =>
        exact rOk_of rr911 (show ((rop 3 (xs 0) (31 : Int32)) = (19 : Int32)) ∧ ((xs 1) = (2 : Int32)) ∧ ((xs 2) = (1 : Int32)) ∧ (rcmp 2 (xs 3) (0 : Int32) = true) ∧ ((xs 1) = (2 : Int32)) ∧ ((xs 2) = (1 : Int32)) ∧ (rcmp 2 (xs 3) (0 : Int32) = true) ∧ True from ⟨h0, t1_2, t2_1, b3, t1_2, t2_1, b3, trivial⟩)
      | false =>
        cases b4 : rcmp 5 (xs 3) (65536 : Int32) with
        | true =>
          exact rOk_of rr910 (show ((rop 3 (xs 0) (31 : Int32)) = (19 : Int32)) ∧ ((xs 1) = (2 : Int32)) ∧ ((xs 2) = (1 : Int32)) ∧ (rcmp 2 (xs 3) (0 : Int32) = false) ∧ (rcmp 5 (xs 3) (65536 : Int32) = true) ∧ ((xs 1) = (2 : Int32)) ∧ ((xs 2) = (1 : Int32)) ∧ (rcmp 2 (xs 3) (0 : Int32) = false) ∧ (rcmp 4 (xs 3) (65536 : Int32) = false) ∧ True from ⟨h0, t1_2, t2_1, b3, b4, t1_2, t2_1, b3, (rg4f (by have z0 := ri2f b3; have z1 := ri5t b4; have y0 := li_0; have y1 := li_65536; omega)), trivial⟩)
        | false =>
          exact rOk_of rr909 (show ((rop 3 (xs 0) (31 : Int32)) = (19 : Int32)) ∧ ((xs 1) = (2 : Int32)) ∧ ((xs 2) = (1 : Int32)) ∧ (rcmp 2 (xs 3) (0 : Int32) = false) ∧ (rcmp 5 (xs 3) (65536 : Int32) = false) ∧ ((xs 1) = (2 : Int32)) ∧ ((xs 2) = (1 : Int32)) ∧ (rcmp 2 (xs 3) (0 : Int32) = false) ∧ (rcmp 4 (xs 3) (65536 : Int32) = true) ∧ True from ⟨h0, t1_2, t2_1, b3, b4, t1_2, t2_1, b3, (rg4t (by have z0 := ri2f b3; have z1 := ri5f b4; have y0 := li_0; have y1 := li_65536; omega)), trivial⟩)
    by_cases t2_2 : (xs 2) = (2 : Int32)
    · cases b3 : rcmp 2 (xs 3) (0 : Int32) with
      | true =>
        exact rOk_of rr914 (show ((rop 3 (xs 0) (31 : Int32)) = (19 : Int32)) ∧ ((xs 1) = (2 : Int32)) ∧ ((xs 2) = (2 : Int32)) ∧ (rcmp 2 (xs 3) (0 : Int32) = true) ∧ ((xs 1) = (2 : Int32)) ∧ ((xs 2) = (2 : Int32)) ∧ (rcmp 2 (xs 3) (0 : Int32) = true) ∧ True from ⟨h0, t1_2, t2_2, b3, t1_2, t2_2, b3, trivial⟩)
      | false =>
        cases b4 : rcmp 5 (xs 3) (65536 : Int32) with
        | true =>
          exact rOk_of rr913 (show ((rop 3 (xs 0) (31 : Int32)) = (19 : Int32)) ∧ ((xs 1) = (2 : Int32)) ∧ ((xs 2) = (2 : Int32)) ∧ (rcmp 2 (xs 3) (0 : Int32) = false) ∧ (rcmp 5 (xs 3) (65536 : Int32) = true) ∧ ((xs 1) = (2 : Int32)) ∧ ((xs 2) = (2 : Int32)) ∧ (rcmp 2 (xs 3) (0 : Int32) = false) ∧ (rcmp 4 (xs 3) (65536 : Int32) = false) ∧ True from ⟨h0, t1_2, t2_2, b3, b4, t1_2, t2_2, b3, (rg4f (by have z0 := ri2f b3; have z1 := ri5t b4; have y0 := li_0; have y1 := li_65536; omega)), trivial⟩)
        | false =>
          exact rOk_of rr912 (show ((rop 3 (xs 0) (31 : Int32)) = (19 : Int32)) ∧ ((xs 1) = (2 : Int32)) ∧ ((xs 2) = (2 : Int32)) ∧ (rcmp 2 (xs 3) (0 : Int32) = false) ∧ (rcmp 5 (xs 3) (65536 : Int32) = false) ∧ ((xs 1) = (2 : Int32)) ∧ ((xs 2) = (2 : Int32)) ∧ (rcmp 2 (xs 3) (0 : Int32) = false) ∧ (rcmp 4 (xs 3) (65536 : Int32) = true) ∧ True from ⟨h0, t1_2, t2_2, b3, b4, t1_2, t2_2, b3, (rg4t (by have z0 := ri2f b3; have z1 := ri5f b4; have y0 := li_0; have y1 := li_65536; omega)), trivial⟩)
    by_cases t2_3 : (xs 2) = (3 : Int32)
    · cases b3 : rcmp 2 (xs 3) (0 : Int32) with
      | true =>
        exact rOk_of rr917 (show ((rop 3 (xs 0) (31 : Int32)) = (19 : Int32)) ∧ ((xs 1) = (2 : Int32)) ∧ ((xs 2) = (3 : Int32)) ∧ (rcmp 2 (xs 3) (0 : Int32) = true) ∧ ((xs 1) = (2 : Int32)) ∧ ((xs 2) = (3 : Int32)) ∧ (rcmp 2 (xs 3) (0 : Int32) = true) ∧ True from ⟨h0, t1_2, t2_3, b3, t1_2, t2_3, b3, trivial⟩)
      | false =>
        cases b4 : rcmp 5 (xs 3) (65536 : Int32) with
        | true =>
          exact rOk_of rr916 (show ((rop 3 (xs 0) (31 : Int32)) = (19 : Int32)) ∧ ((xs 1) = (2 : Int32)) ∧ ((xs 2) = (3 : Int32)) ∧ (rcmp 2 (xs 3) (0 : Int32) = false) ∧ (rcmp 5 (xs 3) (65536 : Int32) = true) ∧ ((xs 1) = (2 : Int32)) ∧ ((xs 2) = (3 : Int32)) ∧ (rcmp 2 (xs 3) (0 : Int32) = false) ∧ (rcmp 4 (xs 3) (65536 : Int32) = false) ∧ True from ⟨h0, t1_2, t2_3, b3, b4, t1_2, t2_3, b3, (rg4f (by have z0 := ri2f b3; have z1 := ri5t b4; have y0 := li_0; have y1 := li_65536; omega)), trivial⟩)
        | false =>
          exact rOk_of rr915 (show ((rop 3 (xs 0) (31 : Int32)) = (19 : Int32)) ∧ ((xs 1) = (2 : Int32)) ∧ ((xs 2) = (3 : Int32)) ∧ (rcmp 2 (xs 3) (0 : Int32) = false) ∧ (rcmp 5 (xs 3) (65536 : Int32) = false) ∧ ((xs 1) = (2 : Int32)) ∧ ((xs 2) = (3 : Int32)) ∧ (rcmp 2 (xs 3) (0 : Int32) = false) ∧ (rcmp 4 (xs 3) (65536 : Int32) = true) ∧ True from ⟨h0, t1_2, t2_3, b3, b4, t1_2, t2_3, b3, (rg4t (by have z0 := ri2f b3; have z1 := ri5f b4; have y0 := li_0; have y1 := li_65536; omega)), trivial⟩)
    cases b2 : rcmp 2 (xs 2) (0 : Int32) with
    | true =>
      exact rOk_of rr905 (show ((rop 3 (xs 0) (31 : Int32)) = (19 : Int32)) ∧ ((xs 1) = (2 : Int32)) ∧ (rcmp 2 (xs 2) (0 : Int32) = true) ∧ ((xs 1) = (2 : Int32)) ∧ (rcmp 2 (xs 2) (0 : Int32) = true) ∧ True from ⟨h0, t1_2, b2, t1_2, b2, trivial⟩)
    | false =>
      exact rOk_of rr904 (show ((rop 3 (xs 0) (31 : Int32)) = (19 : Int32)) ∧ ((xs 1) = (2 : Int32)) ∧ (rcmp 2 (xs 2) (0 : Int32) = false) ∧ (rcmp 4 (xs 2) (3 : Int32) = true) ∧ ((xs 1) = (2 : Int32)) ∧ (rcmp 2 (xs 2) (0 : Int32) = false) ∧ (rcmp 3 (xs 2) (4 : Int32) = true) ∧ True from ⟨h0, t1_2, b2, (rg4t (by have z0 := rine t2_0; have z1 := rine t2_1; have z2 := rine t2_2; have z3 := rine t2_3; have z4 := ri2f b2; have y0 := li_0; have y1 := li_1; have y2 := li_2; have y3 := li_3; omega)), t1_2, b2, (rg3t (by have z0 := rine t2_0; have z1 := rine t2_1; have z2 := rine t2_2; have z3 := rine t2_3; have z4 := ri2f b2; have y0 := li_0; have y1 := li_1; have y2 := li_2; have y3 := li_3; have y4 := li_4; omega)), trivial⟩)
  by_cases t1_3 : (xs 1) = (3 : Int32)
  · by_cases t2_0 : (xs 2) = (0 : Int32)
    · cases b3 : rcmp 2 (xs 3) (0 : Int32) with
      | true =>
        exact rOk_of rr922 (show ((rop 3 (xs 0) (31 : Int32)) = (19 : Int32)) ∧ ((xs 1) = (3 : Int32)) ∧ ((xs 2) = (0 : Int32)) ∧ (rcmp 2 (xs 3) (0 : Int32) = true) ∧ ((xs 1) = (3 : Int32)) ∧ ((xs 2) = (0 : Int32)) ∧ (rcmp 2 (xs 3) (0 : Int32) = true) ∧ True from ⟨h0, t1_3, t2_0, b3, t1_3, t2_0, b3, trivial⟩)
      | false =>
        cases b4 : rcmp 5 (xs 3) (65536 : Int32) with
        | true =>
          exact rOk_of rr921 (show ((rop 3 (xs 0) (31 : Int32)) = (19 : Int32)) ∧ ((xs 1) = (3 : Int32)) ∧ ((xs 2) = (0 : Int32)) ∧ (rcmp 2 (xs 3) (0 : Int32) = false) ∧ (rcmp 5 (xs 3) (65536 : Int32) = true) ∧ ((xs 1) = (3 : Int32)) ∧ ((xs 2) = (0 : Int32)) ∧ (rcmp 2 (xs 3) (0 : Int32) = false) ∧ (rcmp 4 (xs 3) (65536 : Int32) = false) ∧ True from ⟨h0, t1_3, t2_0, b3, b4, t1_3, t2_0, b3, (rg4f (by have z0 := ri2f b3; have z1 := ri5t b4; have y0 := li_0; have y1 := li_65536; omega)), trivial⟩)
        | false =>
          exact rOk_of rr920 (show ((rop 3 (xs 0) (31 : Int32)) = (19 : Int32)) ∧ ((xs 1) = (3 : Int32)) ∧ ((xs 2) = (0 : Int32)) ∧ (rcmp 2 (xs 3) (0 : Int32) = false) ∧ (rcmp 5 (xs 3) (65536 : Int32) = false) ∧ ((xs 1) = (3 : Int32)) ∧ ((xs 2) = (0 : Int32)) ∧ (rcmp 2 (xs 3) (0 : Int32) = false) ∧ (rcmp 4 (xs 3) (65536 : Int32) = true) ∧ True from ⟨h0, t1_3, t2_0, b3, b4, t1_3, t2_0, b3, (rg4t (by have z0 := ri2f b3; have z1 := ri5f b4; have y0 := li_0; have y1 := li_65536; omega)), trivial⟩)
    by_cases t2_1 : (xs 2) = (1 : Int32)
    · cases b3 : rcmp 2 (xs 3) (0 : Int32) with
      | true =>
        exact rOk_of rr925 (show ((rop 3 (xs 0) (31 : Int32)) = (19 : Int32)) ∧ ((xs 1) = (3 : Int32)) ∧ ((xs 2) = (1 : Int32)) ∧ (rcmp 2 (xs 3) (0 : Int32) = true) ∧ ((xs 1) = (3 : Int32)) ∧ ((xs 2) = (1 : Int32)) ∧ (rcmp 2 (xs 3) (0 : Int32) = true) ∧ True from ⟨h0, t1_3, t2_1, b3, t1_3, t2_1, b3, trivial⟩)
      | false =>
        cases b4 : rcmp 5 (xs 3) (65536 : Int32) with
        | true =>
          exact rOk_of rr924 (show ((rop 3 (xs 0) (31 : Int32)) = (19 : Int32)) ∧ ((xs 1) = (3 : Int32)) ∧ ((xs 2) = (1 : Int32)) ∧ (rcmp 2 (xs 3) (0 : Int32) = false) ∧ (rcmp 5 (xs 3) (65536 : Int32) = true) ∧ ((xs 1) = (3 : Int32)) ∧ ((xs 2) = (1 : Int32)) ∧ (rcmp 2 (xs 3) (0 : Int32) = false) ∧ (rcmp 4 (xs 3) (65536 : Int32) = false) ∧ True from ⟨h0, t1_3, t2_1, b3, b4, t1_3, t2_1, b3, (rg4f (by have z0 := ri2f b3; have z1 := ri5t b4; have y0 := li_0; have y1 := li_65536; omega)), trivial⟩)
        | false =>
          exact rOk_of rr923 (show ((rop 3 (xs 0) (31 : Int32)) = (19 : Int32)) ∧ ((xs 1) = (3 : Int32)) ∧ ((xs 2) = (1 : Int32)) ∧ (rcmp 2 (xs 3) (0 : Int32) = false) ∧ (rcmp 5 (xs 3) (65536 : Int32) = false) ∧ ((xs 1) = (3 : Int32)) ∧ ((xs 2) = (1 : Int32)) ∧ (rcmp 2 (xs 3) (0 : Int32) = false) ∧ (rcmp 4 (xs 3) (65536 : Int32) = true) ∧ True from ⟨h0, t1_3, t2_1, b3, b4, t1_3, t2_1, b3, (rg4t (by have z0 := ri2f b3; have z1 := ri5f b4; have y0 := li_0; have y1 := li_65536; omega)), trivial⟩)
    by_cases t2_2 : (xs 2) = (2 : Int32)
    · cases b3 : rcmp 2 (xs 3) (0 : Int32) with
      | true =>
        exact rOk_of rr928 (show ((rop 3 (xs 0) (31 : Int32)) = (19 : Int32)) ∧ ((xs 1) = (3 : Int32)) ∧ ((xs 2) = (2 : Int32)) ∧ (rcmp 2 (xs 3) (0 : Int32) = true) ∧ ((xs 1) = (3 : Int32)) ∧ ((xs 2) = (2 : Int32)) ∧ (rcmp 2 (xs 3) (0 : Int32) = true) ∧ True from ⟨h0, t1_3, t2_2, b3, t1_3, t2_2, b3, trivial⟩)
      | false =>
        cases b4 : rcmp 5 (xs 3) (65536 : Int32) with
        | true =>
          exact rOk_of rr927 (show ((rop 3 (xs 0) (31 : Int32)) = (19 : Int32)) ∧ ((xs 1) = (3 : Int32)) ∧ ((xs 2) = (2 : Int32)) ∧ (rcmp 2 (xs 3) (0 : Int32) = false) ∧ (rcmp 5 (xs 3) (65536 : Int32) = true) ∧ ((xs 1) = (3 : Int32)) ∧ ((xs 2) = (2 : Int32)) ∧ (rcmp 2 (xs 3) (0 : Int32) = false) ∧ (rcmp 4 (xs 3) (65536 : Int32) = false) ∧ True from ⟨h0, t1_3, t2_2, b3, b4, t1_3, t2_2, b3, (rg4f (by have z0 := ri2f b3; have z1 := ri5t b4; have y0 := li_0; have y1 := li_65536; omega)), trivial⟩)
        | false =>
          exact rOk_of rr926 (show ((rop 3 (xs 0) (31 : Int32)) = (19 : Int32)) ∧ ((xs 1) = (3 : Int32)) ∧ ((xs 2) = (2 : Int32)) ∧ (rcmp 2 (xs 3) (0 : Int32) = false) ∧ (rcmp 5 (xs 3) (65536 : Int32) = false) ∧ ((xs 1) = (3 : Int32)) ∧ ((xs 2) = (2 : Int32)) ∧ (rcmp 2 (xs 3) (0 : Int32) = false) ∧ (rcmp 4 (xs 3) (65536 : Int32) = true) ∧ True from ⟨h0, t1_3, t2_2, b3, b4, t1_3, t2_2, b3, (rg4t (by have z0 := ri2f b3; have z1 := ri5f b4; have y0 := li_0; have y1 := li_65536; omega)), trivial⟩)
    by_cases t2_3 : (xs 2) = (3 : Int32)
    · cases b3 : rcmp 2 (xs 3) (0 : Int32) with
      | true =>
        exact rOk_of rr931 (show ((rop 3 (xs 0) (31 : Int32)) = (19 : Int32)) ∧ ((xs 1) = (3 : Int32)) ∧ ((xs 2) = (3 : Int32)) ∧ (rcmp 2 (xs 3) (0 : Int32) = true) ∧ ((xs 1) = (3 : Int32)) ∧ ((xs 2) = (3 : Int32)) ∧ (rcmp 2 (xs 3) (0 : Int32) = true) ∧ True from ⟨h0, t1_3, t2_3, b3, t1_3, t2_3, b3, trivial⟩)
      | false =>
        cases b4 : rcmp 5 (xs 3) (65536 : Int32) with
        | true =>
          exact rOk_of rr930 (show ((rop 3 (xs 0) (31 : Int32)) = (19 : Int32)) ∧ ((xs 1) = (3 : Int32)) ∧ ((xs 2) = (3 : Int32)) ∧ (rcmp 2 (xs 3) (0 : Int32) = false) ∧ (rcmp 5 (xs 3) (65536 : Int32) = true) ∧ ((xs 1) = (3 : Int32)) ∧ ((xs 2) = (3 : Int32)) ∧ (rcmp 2 (xs 3) (0 : Int32) = false) ∧ (rcmp 4 (xs 3) (65536 : Int32) = false) ∧ True from ⟨h0, t1_3, t2_3, b3, b4, t1_3, t2_3, b3, (rg4f (by have z0 := ri2f b3; have z1 := ri5t b4; have y0 := li_0; have y1 := li_65536; omega)), trivial⟩)
        | false =>
          exact rOk_of rr929 (show ((rop 3 (xs 0) (31 : Int32)) = (19 : Int32)) ∧ ((xs 1) = (3 : Int32)) ∧ ((xs 2) = (3 : Int32)) ∧ (rcmp 2 (xs 3) (0 : Int32) = false) ∧ (rcmp 5 (xs 3) (65536 : Int32) = false) ∧ ((xs 1) = (3 : Int32)) ∧ ((xs 2) = (3 : Int32)) ∧ (rcmp 2 (xs 3) (0 : Int32) = false) ∧ (rcmp 4 (xs 3) (65536 : Int32) = true) ∧ True from ⟨h0, t1_3, t2_3, b3, b4, t1_3, t2_3, b3, (rg4t (by have z0 := ri2f b3; have z1 := ri5f b4; have y0 := li_0; have y1 := li_65536; omega)), trivial⟩)
    cases b2 : rcmp 2 (xs 2) (0 : Int32) with
    | true =>
      exact rOk_of rr919 (show ((rop 3 (xs 0) (31 : Int32)) = (19 : Int32)) ∧ ((xs 1) = (3 : Int32)) ∧ (rcmp 2 (xs 2) (0 : Int32) = true) ∧ ((xs 1) = (3 : Int32)) ∧ (rcmp 2 (xs 2) (0 : Int32) = true) ∧ True from ⟨h0, t1_3, b2, t1_3, b2, trivial⟩)
    | false =>
      exact rOk_of rr918 (show ((rop 3 (xs 0) (31 : Int32)) = (19 : Int32)) ∧ ((xs 1) = (3 : Int32)) ∧ (rcmp 2 (xs 2) (0 : Int32) = false) ∧ (rcmp 4 (xs 2) (3 : Int32) = true) ∧ ((xs 1) = (3 : Int32)) ∧ (rcmp 2 (xs 2) (0 : Int32) = false) ∧ (rcmp 3 (xs 2) (4 : Int32) = true) ∧ True from ⟨h0, t1_3, b2, (rg4t (by have z0 := rine t2_0; have z1 := rine t2_1; have z2 := rine t2_2; have z3 := rine t2_3; have z4 := ri2f b2; have y0 := li_0; have y1 := li_1; have y2 := li_2; have y3 := li_3; omega)), t1_3, b2, (rg3t (by have z0 := rine t2_0; have z1 := rine t2_1; have z2 := rine t2_2; have z3 := rine t2_3; have z4 := ri2f b2; have y0 := li_0; have y1 := li_1; have y2 := li_2; have y3 := li_3; have y4 := li_4; omega)), trivial⟩)
  cases b1 : rcmp 2 (xs 1) (0 : Int32) with
  | true =>
    exact rOk_of rr875 (show ((rop 3 (xs 0) (31 : Int32)) = (19 : Int32)) ∧ (rcmp 2 (xs 1) (0 : Int32) = true) ∧ (rcmp 2 (xs 1) (0 : Int32) = true) ∧ True from ⟨h0, b1, b1, trivial⟩)
  | false =>
    exact rOk_of rr874 (show ((rop 3 (xs 0) (31 : Int32)) = (19 : Int32)) ∧ (rcmp 2 (xs 1) (0 : Int32) = false) ∧ (rcmp 4 (xs 1) (3 : Int32) = true) ∧ (rcmp 2 (xs 1) (0 : Int32) = false) ∧ (rcmp 3 (xs 1) (4 : Int32) = true) ∧ True from ⟨h0, b1, (rg4t (by have z0 := rine t1_0; have z1 := rine t1_1; have z2 := rine t1_2; have z3 := rine t1_3; have z4 := ri2f b1; have y0 := li_0; have y1 := li_1; have y2 := li_2; have y3 := li_3; omega)), b1, (rg3t (by have z0 := rine t1_0; have z1 := rine t1_1; have z2 := rine t1_2; have z3 := rine t1_3; have z4 := ri2f b1; have y0 := li_0; have y1 := li_1; have y2 := li_2; have y3 := li_3; have y4 := li_4; omega)), trivial⟩)
