set_option maxHeartbeats 4000000 in
set_option maxRecDepth 100000 in
theorem cov23 (xs : Nat → Int32) (h0 : (rop 3 (xs 0) (31 : Int32)).toInt < ((2147483648 : Nat) : Int) - 2147483648 ∨ ((2147483670 : Nat) : Int) - 2147483648 < (rop 3 (xs 0) (31 : Int32)).toInt) : rOk 6 xs := by
  exact rOk_of rr979 (show ((rop 3 (xs 0) (31 : Int32)).toInt < ((2147483648 : Nat) : Int) - 2147483648 ∨ ((2147483670 : Nat) : Int) - 2147483648 < (rop 3 (xs 0) (31 : Int32)).toInt) ∧ True from ⟨h0, trivial⟩)
