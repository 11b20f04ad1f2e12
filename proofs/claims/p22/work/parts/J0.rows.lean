/-! the packer of states -/
def DIF (d : Int → Int) (a b : Int) : Prop := ∃ i, a < i ∧ i < b ∧ d i ≠ d a
def M03 (m : Int → Int) : Prop := ∀ i, 0 ≤ i → i < 3 → 0 ≤ m i ∧ m i ≤ 3
theorem prod_bd {x y a b : Int} (x0 : 0 ≤ x) (x1 : x ≤ a) (y0 : 0 ≤ y) (y1 : y ≤ b) : 0 ≤ x * y ∧ x * y ≤ a * b := ⟨Int.mul_nonneg x0 y0, Int.mul_le_mul x1 y1 y0 (by omega)⟩
