/-! one more -/
def TI1 (x a : Int) : Prop := x = -1 ∨ x = a
theorem HIDe {p : Prop} (h : HID p) : p := h
theorem nrng {n : Nat} {t : Int} (h : n ≤ 1000000) (e : (n : Int) = t) : 0 ≤ t ∧ t ≤ 1000000 := by omega
theorem krg_e {f t lo hi : Int} (h : lo ≤ f ∧ f ≤ hi) (e : f = t) : lo ≤ t ∧ t ≤ hi := e ▸ h
