/-! one more -/
def TI1 (x a : Int) : Prop := x = -1 ∨ x = a
