def mp (P : Int → Int) (s : Int) : Int := su (fun i => mass (P i)) s.toNat
theorem mp_s {P : Int → Int} {s : Int} (h : 0 ≤ s) : mp P (s + 1) = mp P s + mass (P s) := su_s h
theorem mp_le {P : Int → Int} {s t : Int} (h0 : 0 ≤ s) (h : s ≤ t) : 0 ≤ mp P s ∧ mp P s ≤ mp P t := su_le_all (f := fun i => mass (P i)) h0 h (fun i _ => by have := mass_eq (P i); omega)
theorem mp_SH {g : Int → Int} {a o l : Int} (h : SH g a 64 o l) : mp (sh g a) 64 = p2 o := h.2.2.2.2
theorem mp_zero {P : Int → Int} {s : Int} (h0 : 0 ≤ s) : ∀ (z : Nat), (∀ j, s ≤ j → j < s + z → P j = 0) → mp P (s + z) = mp P s
  | 0, _ => by rw [show s + ((0 : Nat) : Int) = s by omega]
  | z + 1, h => by
    rw [show s + ((z + 1 : Nat) : Int) = s + (z : Int) + 1 by omega, mp_s (by omega), mp_zero h0 z (fun j a b => h j a (by omega)), h (s + z) (by omega) (by omega)]
    have : mass 0 = 0 := by decide
    omega
theorem mp_zeroI {P : Int → Int} {s z t : Int} (h0 : 0 ≤ s) (hz : 0 ≤ z) (h : ∀ j, s ≤ j → j < s + z → P j = 0) (e : t = s + z) : mp P t = mp P s := by
  have := mp_zero h0 z.toNat (fun j a b => h j a (by omega))
  rw [show s + ((z.toNat : Nat) : Int) = t by omega] at this
  exact this
theorem nz_ex {P : Int → Int} {s : Int} (h0 : 0 ≤ s) (h1 : s ≤ 64) (h : mp P s < mp P 64) : ∃ k, 0 ≤ k ∧ k < 64 - s ∧ P (s + k) ≠ 0 := by
  by_cases q : ∃ k, 0 ≤ k ∧ k < 64 - s ∧ P (s + k) ≠ 0
  · exact q
  · exfalso
    have := mp_zeroI (P := P) (s := s) (z := 64 - s) (t := 64) h0 (by omega) (fun j a b => by
      by_cases w : P j = 0
      · exact w
      · exact absurd ⟨j - s, by omega, by omega, by rw [show s + (j - s) = j by omega]; exact w⟩ q) (by omega)
    omega
