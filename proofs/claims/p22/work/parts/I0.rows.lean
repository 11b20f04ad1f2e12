/-! what stands in a table, not for omega's eyes -/
def TI2 (x a b : Int) : Prop := x = -1 ∨ x = a ∨ x = b
def TI3 (x a b c : Int) : Prop := x = -1 ∨ x = a ∨ x = b ∨ x = c
def ORB (x a o g : Int) : Prop := x ≠ a ∨ o ≤ g
def SLB (x a : Int) (p : Prop) : Prop := x ≠ a ∨ p
