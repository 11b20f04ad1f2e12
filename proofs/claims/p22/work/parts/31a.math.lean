/-! numbers in bytes, the lowest first -/
def nm (g : Int → Int) (a : Int) : Nat → Int
  | 0 => 0
  | n + 1 => g a + 256 * nm g (a + 1) n
theorem nm_s {g : Int → Int} {a a' a2 k kₚ : Int} (e1 : a' = a) (e2 : kₚ = k + 1) (h : 0 ≤ k) (e3 : a2 = a + 1) : nm g a' kₚ.toNat = g a + 256 * nm g a2 k.toNat := by
  subst e1 e2 e3
  rw [show (k + 1).toNat = k.toNat + 1 by omega]
  rfl
theorem nm_nn {g : Int → Int} (hB : ∀ i, (0 : Int) ≤ g i ∧ g i ≤ 255) : ∀ {n : Nat} {a : Int}, 0 ≤ nm g a n
  | 0, _ => by show (0 : Int) ≤ 0; omega
  | n + 1, a => by
    have := nm_nn hB (n := n) (a := a + 1)
    have := hB a
    show 0 ≤ g a + 256 * nm g (a + 1) n
    omega
theorem nm_up {g : Int → Int} (hB : ∀ i, (0 : Int) ≤ g i ∧ g i ≤ 255) {m : Int} {n : Nat} (h : ∀ a, nm g a n ≤ m) (a : Int) : nm g a (n + 1) ≤ 256 * m + 255 := by
  have := h (a + 1)
  have := hB a
  show g a + 256 * nm g (a + 1) n ≤ _
  omega
theorem nm_b {g : Int → Int} {a k : Int} (hB : ∀ i, (0 : Int) ≤ g i ∧ g i ≤ 255) : 0 ≤ nm g a k.toNat ∧ (k ≤ 0 → nm g a k.toNat = 0) ∧ (k ≤ 1 → nm g a k.toNat ≤ 255) ∧ (k ≤ 2 → nm g a k.toNat ≤ 65535) ∧ (k ≤ 3 → nm g a k.toNat ≤ 16777215) ∧ (k ≤ 4 → nm g a k.toNat ≤ 4294967295) ∧ (k ≤ 5 → nm g a k.toNat ≤ 1099511627775) ∧ (k ≤ 6 → nm g a k.toNat ≤ 281474976710655) ∧ (k ≤ 7 → nm g a k.toNat ≤ 72057594037927935) := by
  have b0 : ∀ a, nm g a 0 ≤ 0 := fun a => by show (0 : Int) ≤ 0; omega
  have b1 : ∀ a, nm g a 1 ≤ 255 := fun a => nm_up hB b0 a
  have b2 : ∀ a, nm g a 2 ≤ 65535 := fun a => nm_up hB b1 a
  have b3 : ∀ a, nm g a 3 ≤ 16777215 := fun a => nm_up hB b2 a
  have b4 : ∀ a, nm g a 4 ≤ 4294967295 := fun a => nm_up hB b3 a
  have b5 : ∀ a, nm g a 5 ≤ 1099511627775 := fun a => nm_up hB b4 a
  have b6 : ∀ a, nm g a 6 ≤ 281474976710655 := fun a => nm_up hB b5 a
  have b7 : ∀ a, nm g a 7 ≤ 72057594037927935 := fun a => nm_up hB b6 a
  have nn := nm_nn hB (n := k.toNat) (a := a)
  by_cases h : k ≤ 7
  · rcases (show k.toNat = 0 ∨ k.toNat = 1 ∨ k.toNat = 2 ∨ k.toNat = 3 ∨ k.toNat = 4 ∨ k.toNat = 5 ∨ k.toNat = 6 ∨ k.toNat = 7 by omega) with e | e | e | e | e | e | e | e <;> rw [e] at nn ⊢
    · have := b0 a; omega
    · have := b1 a; omega
    · have := b2 a; omega
    · have := b3 a; omega
    · have := b4 a; omega
    · have := b5 a; omega
    · have := b6 a; omega
    · have := b7 a; omega
  · omega
theorem nm_2 {g : Int → Int} {a : Int} : nm g a (2 : Int).toNat = g a + 256 * g (a + 1) := by
  show g a + 256 * (g (a + 1) + 256 * 0) = _
  omega
