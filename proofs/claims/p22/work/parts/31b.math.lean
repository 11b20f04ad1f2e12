/-! the highest bit -/
def HI (a l x : Int) : Prop := (l = -1 → x = a) ∧ (l = -1 ∨ p2 l ≤ a) ∧ x * p2 (l + 1) ≤ a ∧ a < (x + 1) * p2 (l + 1)
theorem HI_0 {a : Int} : HI a (-1) a := by
  refine ⟨fun _ => rfl, .inl rfl, ?_, ?_⟩
  · rw [show p2 (-1 + 1) = 1 from by decide]; omega
  · rw [show p2 (-1 + 1) = 1 from by decide]; omega
theorem HI_s {a l x : Int} (h : HI a l x) (hx : 1 ≤ x) (hl : -1 ≤ l) (ha : a ≤ 2147483647) : HI a (l + 1) (x / 2) ∧ l + 1 ≤ 30 := by
  obtain ⟨h1, h2, h3, h4⟩ := h
  have hp := p2_pos (l + 1)
  have e := p2_s (y := l + 1) (by omega)
  have a1 : 1 * p2 (l + 1) ≤ x * p2 (l + 1) := Int.mul_le_mul_of_nonneg_right hx (by omega)
  have a2 : (x / 2 * 2) * p2 (l + 1) ≤ x * p2 (l + 1) := Int.mul_le_mul_of_nonneg_right (by omega) (by omega)
  have a3 : (x + 1) * p2 (l + 1) ≤ ((x / 2 + 1) * 2) * p2 (l + 1) := Int.mul_le_mul_of_nonneg_right (by omega) (by omega)
  rw [Int.mul_assoc] at a2 a3
  have hb : l + 1 < 31 := p2_lt (by omega) (by rw [show p2 31 = 2147483648 from by decide]; omega)
  refine ⟨⟨fun q => by omega, .inr (by omega), ?_, ?_⟩, by omega⟩
  · rw [e]; omega
  · rw [e]; omega
theorem HI_end {a l x : Int} (h : HI a l x) (hx : x = 0) (hl : -1 ≤ l) (ha : 0 ≤ a) : a = 0 ∧ l = -1 ∨ 1 ≤ a ∧ 0 ≤ l ∧ p2 l ≤ a ∧ a < 2 * p2 l := by
  obtain ⟨h1, h2, h3, h4⟩ := h
  by_cases e : l = -1
  · left; have := h1 e; omega
  · right
    have := p2_pos l
    rw [hx, p2_s (by omega)] at h4
    omega
theorem su_zero : ∀ m : Nat, su (fun _ => 0) m = 0
  | 0 => rfl
  | m + 1 => by show su (fun _ => 0) m + 0 = 0; rw [su_zero m]; rfl
theorem su_mass0 {g : Int → Int} {n : Nat} (hn : n = 256) (h : ∀ i, (0 : Int) ≤ i → i < 256 → g i = 0) : su (fun i => mass (g i)) n = 0 := by
  subst hn
  have e : su (fun i => mass (g i)) 256 = su (fun _ => 0) 256 := su_congr (fun i a b => by rw [h i a (by omega)]; decide)
  rw [e]
  exact su_zero _
theorem su_mass_nn {g : Int → Int} {n : Nat} : 0 ≤ su (fun i => mass (g i)) n := su_nonneg (fun i _ _ => by have := mass_eq (g i); omega)
theorem su_mass_upd {g : Int → Int} {j v : Int} {n : Nat} (h0 : 0 ≤ j) (h1 : j < n) (hg : g j = 0) : su (fun i => mass (upd1 g j v i)) n = su (fun i => mass (g i)) n + mass v := by
  rw [su_upd (f := fun i => mass (g i)) (h := fun i => mass (upd1 g j v i)) h0 h1 (fun i _ _ c => by rw [upd1_o c])]
  rw [upd1_s, hg, show mass 0 = 0 from by decide]
  omega
theorem share_z {g : Int → Int} {l : Int} (h : ∀ i, (0 : Int) ≤ i → i < l → g (0 + i) = 0) : ∀ i, (0 : Int) ≤ i → i < l + 1 → upd1 g l 0 (0 + i) = 0 := by
  intro i a b
  by_cases e : i = l
  · subst e; rw [Int.zero_add, upd1_s]
  · rw [upd1_o (by omega)]; exact h i a (by omega)
theorem SH_of {g : Int → Int} {o last : Int} (ho : 5 ≤ o ∧ o ≤ 9) (hg : ∀ i, (0 : Int) ≤ i → i < 256 → -1 ≤ g i) (hz : ∀ i, last + 1 ≤ i → i < 256 → g i = 0) (hl : 0 ≤ last ∧ last ≤ 63) (hs : su (fun i => mass (g i)) 256 = p2 o) : SH g 0 64 o last := by
  refine ⟨ho.1, ho.2, fun i a b => by rw [Int.zero_add]; exact hg i a (by omega), fun i a b c => by rw [Int.zero_add]; exact hz i (by omega) (by omega), ?_⟩
  rw [← hs]
  have e := su_split (f := fun i => mass (g i)) (n := 64) (k := 192) (fun i a b => by
    have : g i = 0 := hz i (by omega) (by omega)
    show mass (g i) = 0
    rw [this]; decide)
  show su (fun i => mass (g (0 + i))) 64 = su (fun i => mass (g i)) (64 + 192)
  rw [e]
  exact su_congr (fun i _ _ => by rw [Int.zero_add])
