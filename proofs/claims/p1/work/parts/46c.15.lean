set_option maxHeartbeats 4000000 in
set_option maxRecDepth 100000 in
theorem cov15 (xs : Nat → Int32) (h0 : (rop 3 (xs 0) (31 : Int32)) = (15 : Int32)) : rOk 6 xs := by
  by_cases t1_0 : (xs 1) = (0 : Int32)
  · exact rOk_of rr446 (show ((rop 3 (xs 0) (31 : Int32)) = (15 : Int32)) ∧ ((xs 1) = (0 : Int32)) ∧ ((xs 1) = (0 : Int32)) ∧ True from ⟨h0, t1_0, t1_0, trivial⟩)
  by_cases t1_1 : (xs 1) = (1 : Int32)
  · exact rOk_of rr447 (show ((rop 3 (xs 0) (31 : Int32)) = (15 : Int32)) ∧ ((xs 1) = (1 : Int32)) ∧ ((xs 1) = (1 : Int32)) ∧ True from ⟨h0, t1_1, t1_1, trivial⟩)
  exact rOk_of rr445 (show ((rop 3 (xs 0) (31 : Int32)) = (15 : Int32)) ∧ (rcmp 1 (xs 1) (0 : Int32) = true) ∧ (rcmp 1 (xs 1) (1 : Int32) = true) ∧ (rcmp 1 (xs 1) (0 : Int32) = true) ∧ (rcmp 1 (xs 1) (1 : Int32) = true) ∧ (rcmp 0 (xs 1) (0 : Int32) = false) ∧ (rcmp 1 (xs 1) (1 : Int32) = true) ∧ True from ⟨h0, (rg1t (by have z0 := rine t1_0; have z1 := rine t1_1; have y0 := li_0; have y1 := li_1; omega)), (rg1t (by have z0 := rine t1_0; have z1 := rine t1_1; have y0 := li_0; have y1 := li_1; omega)), (rg1t (by have z0 := rine t1_0; have z1 := rine t1_1; have y0 := li_0; have y1 := li_1; omega)), (rg1t (by have z0 := rine t1_0; have z1 := rine t1_1; have y0 := li_0; have y1 := li_1; omega)), (rg0f (by have z0 := rine t1_0; have z1 := rine t1_1; have y0 := li_0; have y1 := li_1; omega)), (rg1t (by have z0 := rine t1_0; have z1 := rine t1_1; have y0 := li_0; have y1 := li_1; omega)), trivial⟩)
