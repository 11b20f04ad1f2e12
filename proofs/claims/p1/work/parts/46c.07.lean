set_option maxHeartbeats 4000000 in
set_option maxRecDepth 100000 in
theorem cov7 (xs : Nat → Int32) (h0 : (rop 3 (xs 0) (31 : Int32)) = (7 : Int32)) : rOk 6 xs := by
  by_cases t1_0 : (xs 1) = (0 : Int32)
  · by_cases t2_0 : (xs 2) = (0 : Int32)
    · exact rOk_of rr204 (show ((rop 3 (xs 0) (31 : Int32)) = (7 : Int32)) ∧ ((xs 1) = (0 : Int32)) ∧ ((xs 2) = (0 : Int32)) ∧ ((xs 1) = (0 : Int32)) ∧ ((xs 2) = (0 : Int32)) ∧ True from ⟨h0, t1_0, t2_0, t1_0, t2_0, trivial⟩)
    by_cases t2_1 : (xs 2) = (1 : Int32)
    · exact rOk_of rr205 (show ((rop 3 (xs 0) (31 : Int32)) = (7 : Int32)) ∧ ((xs 1) = (0 : Int32)) ∧ ((xs 2) = (1 : Int32)) ∧ ((xs 1) = (0 : Int32)) ∧ ((xs 2) = (1 : Int32)) ∧ True from ⟨h0, t1_0, t2_1, t1_0, t2_1, trivial⟩)
    by_cases t2_2 : (xs 2) = (2 : Int32)
    · exact rOk_of rr206 (show ((rop 3 (xs 0) (31 : Int32)) = (7 : Int32)) ∧ ((xs 1) = (0 : Int32)) ∧ ((xs 2) = (2 : Int32)) ∧ ((xs 1) = (0 : Int32)) ∧ ((xs 2) = (2 : Int32)) ∧ True from ⟨h0, t1_0, t2_2, t1_0, t2_2, trivial⟩)
    by_cases t2_3 : (xs 2) = (3 : Int32)
    · exact rOk_of rr207 (show ((rop 3 (xs 0) (31 : Int32)) = (7 : Int32)) ∧ ((xs 1) = (0 : Int32)) ∧ ((xs 2) = (3 : Int32)) ∧ ((xs 1) = (0 : Int32)) ∧ ((xs 2) = (3 : Int32)) ∧ True from ⟨h0, t1_0, t2_3, t1_0, t2_3, trivial⟩)
    cases b2 : rcmp 2 (xs 2) (0 : Int32) with
    | true =>
      exact rOk_of rr203 (show ((rop 3 (xs 0) (31 : Int32)) = (7 : Int32)) ∧ ((xs 1) = (0 : Int32)) ∧ (rcmp 2 (xs 2) (0 : Int32) = true) ∧ ((xs 1) = (0 : Int32)) ∧ (rcmp 2 (xs 2) (0 : Int32) = true) ∧ True from ⟨h0, t1_0, b2, t1_0, b2, trivial⟩)
    | false =>
      exact rOk_of rr202 (show ((rop 3 (xs 0) (31 : Int32)) = (7 : Int32)) ∧ ((xs 1) = (0 : Int32)) ∧ (rcmp 2 (xs 2) (0 : Int32) = false) ∧ (rcmp 4 (xs 2) (3 : Int32) = true) ∧ ((xs 1) = (0 : Int32)) ∧ (rcmp 2 (xs 2) (0 : Int32) = false) ∧ (rcmp 3 (xs 2) (4 : Int32) = true) ∧ True from ⟨h0, t1_0, b2, (rg4t (by have z0 := rine t2_0; have z1 := rine t2_1; have z2 := rine t2_2; have z3 := rine t2_3; have z4 := ri2f b2; have y0 := li_0; have y1 := li_1; have y2 := li_2; have y3 := li_3; omega)), t1_0, b2, (rg3t (by have z0 := rine t2_0; have z1 := rine t2_1; have z2 := rine t2_2; have z3 := rine t2_3; have z4 := ri2f b2; have y0 := li_0; have y1 := li_1; have y2 := li_2; have y3 := li_3; have y4 := li_4; omega)), trivial⟩)
  by_cases t1_1 : (xs 1) = (1 : Int32)
  · by_cases t2_0 : (xs 2) = (0 : Int32)
    · exact rOk_of rr210 (show ((rop 3 (xs 0) (31 : Int32)) = (7 : Int32)) ∧ ((xs 1) = (1 : Int32)) ∧ ((xs 2) = (0 : Int32)) ∧ ((xs 1) = (1 : Int32)) ∧ ((xs 2) = (0 : Int32)) ∧ True from ⟨h0, t1_1, t2_0, t1_1, t2_0, trivial⟩)
    by_cases t2_1 : (xs 2) = (1 : Int32)
    · exact rOk_of rr211 (show ((rop 3 (xs 0) (31 : Int32)) = (7 : Int32)) ∧ ((xs 1) = (1 : Int32)) ∧ ((xs 2) = (1 : Int32)) ∧ ((xs 1) = (1 : Int32)) ∧ ((xs 2) = (1 : Int32)) ∧ True from ⟨h0, t1_1, t2_1, t1_1, t2_1, trivial⟩)
    by_cases t2_2 : (xs 2) = (2 : Int32)
    · exact rOk_of rr212 (show ((rop 3 (xs 0) (31 : Int32)) = (7 : Int32)) ∧ ((xs 1) = (1 : Int32)) ∧ ((xs 2) = (2 : Int32)) ∧ ((xs 1) = (1 : Int32)) ∧ ((xs 2) = (2 : Int32)) ∧ True from ⟨h0, t1_1, t2_2, t1_1, t2_2, trivial⟩)
    by_cases t2_3 : (xs 2) = (3 : Int32)
    · exact rOk_of rr213 (show ((rop 3 (xs 0) (31 : Int32)) = (7 : Int32)) ∧ ((xs 1) = (1 : Int32)) ∧ ((xs 2) = (3 : Int32)) ∧ ((xs 1) = (1 : Int32)) ∧ ((xs 2) = (3 : Int32)) ∧ True from ⟨h0, t1_1, t2_3, t1_1, t2_3, trivial⟩)
    cases b2 : rcmp 2 (xs 2) (0 : Int32) with
    | true =>
      exact rOk_of rr209 (show ((rop 3 (xs 0) (31 : Int32)) = (7 : Int32)) ∧ ((xs 1) = (1 : Int32)) ∧ (rcmp 2 (xs 2) (0 : Int32) = true) ∧ ((xs 1) = (1 : Int32)) ∧ (rcmp 2 (xs 2) (0 : Int32) = true) ∧ True from ⟨h0, t1_1, b2, t1_1, b2, trivial⟩)
    | false =>
      exact rOk_of rr208 (show ((rop 3 (xs 0) (31 : Int32)) = (7 : Int32)) ∧ ((xs 1) = (1 : Int32)) ∧ (rcmp 2 (xs 2) (0 : Int32) = false) ∧ (rcmp 4 (xs 2) (3 : Int32) = true) ∧ ((xs 1) = (1 : Int32)) ∧ (rcmp 2 (xs 2) (0 : Int32) = false) ∧ (rcmp 3 (xs 2) (4 : Int32) = true) ∧ True from ⟨h0, t1_1, b2, (rg4t (by have z0 := rine t2_0; have z1 := rine t2_1; have z2 := rine t2_2; have z3 := rine t2_3; have z4 := ri2f b2; have y0 := li_0; have y1 := li_1; have y2 := li_2; have y3 := li_3; omega)), t1_1, b2, (rg3t (by have z0 := rine t2_0; have z1 := rine t2_1; have z2 := rine t2_2; have z3 := rine t2_3; have z4 := ri2f b2; have y0 := li_0; have y1 := li_1; have y2 := li_2; have y3 := li_3; have y4 := li_4; omega)), trivial⟩)
  by_cases t1_2 : (xs 1) = (2 : Int32)
  · by_cases t2_0 : (xs 2) = (0 : Int32)
    · exact rOk_of rr216 (show ((rop 3 (xs 0) (31 : Int32)) = (7 : Int32)) ∧ ((xs 1) = (2 : Int32)) ∧ ((xs 2) = (0 : Int32)) ∧ ((xs 1) = (2 : Int32)) ∧ ((xs 2) = (0 : Int32)) ∧ True from ⟨h0, t1_2, t2_0, t1_2, t2_0, trivial⟩)
    by_cases t2_1 : (xs 2) = (1 : Int32)
    · exact rOk_of rr217 (show ((rop 3 (xs 0) (31 : Int32)) = (7 : Int32)) ∧ ((xs 1) = (2 : Int32)) ∧ ((xs 2) = (1 : Int32)) ∧ ((xs 1) = (2 : Int32)) ∧ ((xs 2) = (1 : Int32)) ∧ True from ⟨h0, t1_2, t2_1, t1_2, t2_1, trivial⟩)
    by_cases t2_2 : (xs 2) = (2 : Int32)
    · exact rOk_of rr218 (show ((rop 3 (xs 0) (31 : Int32)) = (7 : Int32)) ∧ ((xs 1) = (2 : Int32)) ∧ ((xs 2) = (2 : Int32)) ∧ ((xs 1) = (2 : Int32)) ∧ ((xs 2) = (2 : Int32)) ∧ True from ⟨h0, t1_2, t2_2, t1_2, t2_2, trivial⟩)
    by_cases t2_3 : (xs 2) = (3 : Int32)
    · exact rOk_of rr219 (show ((rop 3 (xs 0) (31 : Int32)) = (7 : Int32)) ∧ ((xs 1) = (2 : Int32)) ∧ ((xs 2) = (3 : Int32)) ∧ ((xs 1) = (2 : Int32)) ∧ ((xs 2) = (3 : Int32)) ∧ True from ⟨h0, t1_2, t2_3, t1_2, t2_3, trivial⟩)
    cases b2 : rcmp 2 (xs 2) (0 : Int32) with
    | true =>
      exact rOk_of rr215 (show ((rop 3 (xs 0) (31 : Int32)) = (7 : Int32)) ∧ ((xs 1) = (2 : Int32)) ∧ (rcmp 2 (xs 2) (0 : Int32) = true) ∧ ((xs 1) = (2 : Int32)) ∧ (rcmp 2 (xs 2) (0 : Int32) = true) ∧ True from ⟨h0, t1_2, b2, t1_2, b2, trivial⟩)
    | false =>
      exact rOk_of rr214 (show ((rop 3 (xs 0) (31 : Int32)) = (7 : Int32)) ∧ ((xs 1) = (2 : Int32)) ∧ (rcmp 2 (xs 2) (0 : Int32) = false) ∧ (rcmp 4 (xs 2) (3 : Int32) = true) ∧ ((xs 1) = (2 : Int32)) ∧ (rcmp 2 (xs 2) (0 : Int32) = false) ∧ (rcmp 3 (xs 2) (4 : Int32) = true) ∧ True from ⟨h0, t1_2, b2, (rg4t (by have z0 := rine t2_0; have z1 := rine t2_1; have z2 := rine t2_2; have z3 := rine t2_3; have z4 := ri2f b2; have y0 := li_0; have y1 := li_1; have y2 := li_2; have y3 := li_3; omega)), t1_2, b2, (rg3t (by have z0 := rine t2_0; have z1 := rine t2_1; have z2 := rine t2_2; have z3 := rine t2_3; have z4 := ri2f b2; have y0 := li_0; have y1 := li_1; have y2 := li_2; have y3 := li_3; have y4 := li_4; omega)), trivial⟩)
  by_cases t1_3 : (xs 1) = (3 : Int32)
  · by_cases t2_0 : (xs 2) = (0 : Int32)
    · exact rOk_of rr222 (show ((rop 3 (xs 0) (31 : Int32)) = (7 : Int32)) ∧ ((xs 1) = (3 : Int32)) ∧ ((xs 2) = (0 : Int32)) ∧ ((xs 1) = (3 : Int32)) ∧ ((xs 2) = (0 : Int32)) ∧ True from ⟨h0, t1_3, t2_0, t1_3, t2_0, trivial⟩)
    by_cases t2_1 : (xs 2) = (1 : Int32)
    · exact rOk_of rr223 (show ((rop 3 (xs 0) (31 : Int32)) = (7 : Int32)) ∧ ((xs 1) = (3 : Int32)) ∧ ((xs 2) = (1 : Int32)) ∧ ((xs 1) = (3 : Int32)) ∧ ((xs 2) = (1 : Int32)) ∧ True from ⟨h0, t1_3, t2_1, t1_3, t2_1, trivial⟩)
    by_cases t2_2 : (xs 2) = (2 : Int32)
    · exact rOk_of rr224 (show ((rop 3 (xs 0) (31 : Int32)) = (7 : Int32)) ∧ ((xs 1) = (3 : Int32)) ∧ ((xs 2) = (2 : Int32)) ∧ ((xs 1) = (3 : Int32)) ∧ ((xs 2) = (2 : Int32)) ∧ True from ⟨h0, t1_3, t2_2, t1_3, t2_2, trivial⟩)
    by_cases t2_3 : (xs 2) = (3 : Int32)
    · exact rOk_of rr225 (show ((rop 3 (xs 0) (31 : Int32)) = (7 : Int32)) ∧ ((xs 1) = (3 : Int32)) ∧ ((xs 2) = (3 : Int32)) ∧ ((xs 1) = (3 : Int32)) ∧ ((xs 2) = (3 : Int32)) ∧ True from ⟨h0, t1_3, t2_3, t1_3, t2_3, trivial⟩)
    cases b2 : rcmp 2 (xs 2) (0 : Int32) with
    | true =>
      exact rOk_of rr221 (show ((rop 3 (xs 0) (31 : Int32)) = (7 : Int32)) ∧ ((xs 1) = (3 : Int32)) ∧ (rcmp 2 (xs 2) (0 : Int32) = true) ∧ ((xs 1) = (3 : Int32)) ∧ (rcmp 2 (xs 2) (0 : Int32) = true) ∧ True from ⟨h0, t1_3, b2, t1_3, b2, trivial⟩)
    | false =>
      exact rOk_of rr220 (show ((rop 3 (xs 0) (31 : Int32)) = (7 : Int32)) ∧ ((xs 1) = (3 : Int32)) ∧ (rcmp 2 (xs 2) (0 : Int32) = false) ∧ (rcmp 4 (xs 2) (3 : Int32) = true) ∧ ((xs 1) = (3 : Int32)) ∧ (rcmp 2 (xs 2) (0 : Int32) = false) ∧ (rcmp 3 (xs 2) (4 : Int32) = true) ∧ True from ⟨h0, t1_3, b2, (rg4t (by have z0 := rine t2_0; have z1 := rine t2_1; have z2 := rine t2_2; have z3 := rine t2_3; have z4 := ri2f b2; have y0 := li_0; have y1 := li_1; have y2 := li_2; have y3 := li_3; omega)), t1_3, b2, (rg3t (by have z0 := rine t2_0; have z1 := rine t2_1; have z2 := rine t2_2; have z3 := rine t2_3; have z4 := ri2f b2; have y0 := li_0; have y1 := li_1; have y2 := li_2; have y3 := li_3; have y4 := li_4; omega)), trivial⟩)
  cases b1 : rcmp 2 (xs 1) (0 : Int32) with
  | true =>
    exact rOk_of rr201 (show ((rop 3 (xs 0) (31 : Int32)) = (7 : Int32)) ∧ (rcmp 2 (xs 1) (0 : Int32) = true) ∧ (rcmp 2 (xs 1) (0 : Int32) = true) ∧ True from ⟨h0, b1, b1, trivial⟩)
  | false =>
    exact rOk_of rr200 (show ((rop 3 (xs 0) (31 : Int32)) = (7 : Int32)) ∧ (rcmp 2 (xs 1) (0 : Int32) = false) ∧ (rcmp 4 (xs 1) (3 : Int32) = true) ∧ (rcmp 2 (xs 1) (0 : Int32) = false) ∧ (rcmp 3 (xs 1) (4 : Int32) = true) ∧ True from ⟨h0, b1, (rg4t (by have z0 := rine t1_0; have z1 := rine t1_1; have z2 := rine t1_2; have z3 := rine t1_3; have z4 := ri2f b1; have y0 := li_0; have y1 := li_1; have y2 := li_2; have y3 := li_3; omega)), b1, (rg3t (by have z0 := rine t1_0; have z1 := rine t1_1; have z2 := rine t1_2; have z3 := rine t1_3; have z4 := ri2f b1; have y0 := li_0; have y1 := li_1; have y2 := li_2; have y3 := li_3; have y4 := li_4; omega)), trivial⟩)
