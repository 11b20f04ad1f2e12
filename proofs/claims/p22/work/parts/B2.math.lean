/-- a number of so many bytes (up to seven) -/
def NBY (n r : Int) : Prop := n ≤ 7 → 0 ≤ r ∧ r < p2 (8 * n)
theorem p2_8s {k : Int} (h : 0 ≤ k) : p2 (8 * (k + 1)) = 256 * p2 (8 * k) := by
  rw [show 8 * (k + 1) = 8 * k + 1 + 1 + 1 + 1 + 1 + 1 + 1 + 1 by omega]
  rw [p2_s (by omega), p2_s (by omega), p2_s (by omega), p2_s (by omega), p2_s (by omega), p2_s (by omega), p2_s (by omega), p2_s (by omega)]
  omega
theorem nb1 {r : Int} (h : NBY 1 r) : 0 ≤ r ∧ r ≤ 255 := by have := h (by omega); rw [show p2 (8 * 1) = 256 from by decide] at this; omega
theorem nb2 {r : Int} (h : NBY 2 r) : 0 ≤ r ∧ r ≤ 65535 := by have := h (by omega); rw [show p2 (8 * 2) = 65536 from by decide] at this; omega
theorem nb3 {r : Int} (h : NBY 3 r) : 0 ≤ r ∧ r ≤ 16777215 := by have := h (by omega); rw [show p2 (8 * 3) = 16777216 from by decide] at this; omega
theorem nb4 {r : Int} (h : NBY 4 r) : 0 ≤ r ∧ r ≤ 4294967295 := by have := h (by omega); rw [show p2 (8 * 4) = 4294967296 from by decide] at this; omega
theorem nb5 {r : Int} (h : NBY 5 r) : 0 ≤ r ∧ r ≤ 1099511627775 := by have := h (by omega); rw [show p2 (8 * 5) = 1099511627776 from by decide] at this; omega
theorem NBY_0 {n : Int} (h : n ≤ 0) : NBY 0 0 := fun _ => ⟨by omega, by decide⟩
theorem NBY_step {k r z : Int} (h : NBY k r) (hk : 0 ≤ k) (hz : k + 1 ≤ 7 → 0 ≤ r → r < p2 (8 * k) → 0 ≤ z ∧ z ≤ 256 * r + 255) : NBY (k + 1) z := fun q => by
  have w := h (by omega)
  have e := hz q w.1 w.2
  rw [p2_8s hk]
  omega
