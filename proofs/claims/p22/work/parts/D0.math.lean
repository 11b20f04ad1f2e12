theorem FDI_part {li le di : Int → Int} {n tot l i : Int} (h : FDI li le di n tot l) (hl : 0 ≤ l) (i0 : 0 ≤ i) (i1 : i < n) : 0 ≤ su (fun j => li j + le j) i.toNat ∧ su (fun j => li j + le j) (i + 1).toNat = su (fun j => li j + le j) i.toNat + (li i + le i) ∧ su (fun j => li j + le j) i.toNat + (li i + le i) ≤ tot := by
  have a : ∀ m : Nat, (m : Int) ≤ n → 0 ≤ su (fun j => li j + le j) m := fun m hm => su_nonneg (fun j x y => by have := h.1 j x (by omega); omega)
  have s := su_s (f := fun j => li j + le j) (i := i) i0
  have b : ∀ k : Nat, i + 1 + k ≤ n → su (fun j => li j + le j) (i + 1).toNat ≤ su (fun j => li j + le j) ((i + 1).toNat + k) := fun k => by
    induction k with
    | zero => intro _; exact Int.le_refl _
    | succ k ih =>
      intro hk
      have w := ih (by omega)
      have q := h.1 (((i + 1).toNat + k : Nat) : Int) (by omega) (by omega)
      show _ ≤ su (fun j => li j + le j) ((i + 1).toNat + k) + (li (((i + 1).toNat + k : Nat) : Int) + le (((i + 1).toNat + k : Nat) : Int))
      omega
  have w := b (n - (i + 1)).toNat (by omega)
  rw [show (i + 1).toNat + (n - (i + 1)).toNat = n.toNat by omega, h.2] at w
  exact ⟨a i.toNat (by omega), s, by omega⟩
theorem NBY_up {n m r : Int} (h : NBY n r) (h1 : n ≤ m) (h0 : 0 ≤ n) : NBY m r := fun q => by
  have w := h (by omega)
  have := p2_mono (x := 8 * n) (y := 8 * m) (by omega)
  exact ⟨w.1, by omega⟩
