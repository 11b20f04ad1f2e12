def DIFF (lit : Int → Int) (n : Int) : Prop := ∃ k, 0 ≤ k ∧ k < n ∧ lit k ≠ lit 0
