/-! for printed parts whose facts are named (wip/fast.py) -/
theorem rngE {x y lo hi : Int} (h : lo ≤ x ∧ x ≤ hi) (e : x = y) : lo ≤ y ∧ y ≤ hi := e ▸ h
theorem nleE {n : Nat} {x : Int} (h : n ≤ 1000000) (e : (n : Int) = x) : 0 ≤ x ∧ x ≤ 1000000 := by omega
theorem msE {a b : Int} {m : Nat} (h : b.toNat = m) (h1 : a < b) (h2 : 0 < b) : a.toNat < m := by omega
theorem ltb {a b : Nat} (h : Nat.ble (a + 1) b = true) : a < b := Nat.le_of_ble_eq_true h
