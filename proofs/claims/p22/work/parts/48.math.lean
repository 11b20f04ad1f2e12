def DW (formed : Int) (dl dp dor : Int → Int) : Prop := formed = 1 → (∃ T, CI dl T) ∧ (∀ t, 0 ≤ t → t < 3 → PS dp dor t)
def CX (ce l : Int → Int) : Prop := ∀ s, 0 ≤ s → s < 256 → l s ≠ 0 → ∃ k, 0 ≤ k ∧ k < 2048 ∧ ce k = s
def CP (ce l : Int → Int) (T w s lim : Int) : Prop := ∀ x, 0 ≤ x → x < 256 → l x ≠ 0 → (T + 1 - l x < w ∨ T + 1 - l x = w ∧ x < s) → ∃ k, 0 ≤ k ∧ k < lim ∧ ce k = x
theorem CP_upd {ce l : Int → Int} {T w s lim lim2 v : Int} (h : CP ce l T w s lim) (hl : lim2 = lim + 1) : CP (upd1 ce lim v) l T w s lim2 := by
  subst hl
  intro x a b c d
  obtain ⟨k, k0, k1, k2⟩ := h x a b c d
  exact ⟨k, k0, by omega, by rw [upd1_o (by omega)]; exact k2⟩
theorem CP_s {ce l : Int → Int} {T w s s2 lim : Int} (h : CP ce l T w s lim) (hs : s2 = s + 1) (h0 : 0 ≤ s) (q : l s ≠ 0 → T + 1 - l s = w → ∃ k, 0 ≤ k ∧ k < lim ∧ ce k = s) : CP ce l T w s2 lim := by
  subst hs
  intro x a b c d
  by_cases e : x = s ∧ T + 1 - l x = w
  · obtain ⟨e1, e2⟩ := e
    subst e1
    exact q c e2
  · exact h x a b c (by omega)
theorem CP_w {ce l : Int → Int} {T w w2 lim : Int} (h : CP ce l T w 256 lim) (hw : w2 = w + 1) : CP ce l T w2 0 lim := by
  subst hw
  intro x a b c d
  exact h x a b c (by omega)
theorem CP_0 {ce l : Int → Int} {T : Int} (h : ∀ i, (0 : Int) ≤ i → i < 256 → 0 ≤ l i ∧ l i ≤ T) : CP ce l T 1 0 0 := by
  intro x a b c d
  have := h x a b
  omega
theorem CX_of {ce l : Int → Int} {T w lim : Int} (h : CP ce l T w 0 lim) (hw : T < w) (hl : lim ≤ 2048) (hg : ∀ i, (0 : Int) ≤ i → i < 256 → 0 ≤ l i ∧ l i ≤ T) : CX ce l := by
  intro s a b c
  have := hg s a b
  obtain ⟨k, k0, k1, k2⟩ := h s a b c (by omega)
  exact ⟨k, k0, by omega, k2⟩
/-- a cell of a symbol is met after at most m -/
def FC (ce : Int → Int) (s p : Int) (m : Nat) : Prop := ∃ j : Nat, j ≤ m ∧ ce (p + j) = s ∧ p + j < 2048
theorem FC_next {ce : Int → Int} {s p p2 : Int} {m : Nat} (h : FC ce s p m) (h0 : ce p ≠ s) (e : p2 = p + 1) : 1 ≤ m ∧ FC ce s p2 (m - 1) := by
  subst e
  obtain ⟨j, hj, hc, hl⟩ := h
  cases j with
  | zero =>
    rw [show p + ((0 : Nat) : Int) = p by omega] at hc
    exact absurd hc h0
  | succ j =>
    refine ⟨by omega, j, by omega, ?_, by omega⟩
    rw [show p + 1 + (j : Int) = p + ((j + 1 : Nat) : Int) by omega]
    exact hc
theorem FC_lt {ce : Int → Int} {s p : Int} {m : Nat} (h : FC ce s p m) : p < 2048 := by
  obtain ⟨j, hj, hc, hl⟩ := h
  omega
theorem FC_ex {ce l : Int → Int} {s : Int} (h : CX ce l) (a : 0 ≤ s) (b : s < 256) (c : l s ≠ 0) : ∃ m : Nat, FC ce s 0 m := by
  obtain ⟨k, k0, k1, k2⟩ := h s a b c
  exact ⟨k.toNat, k.toNat, Nat.le_refl _, by rw [show (0 : Int) + (k.toNat : Int) = k by omega]; exact k2, by omega⟩
def pos1 (x : Int) : Int := if x = 0 then 0 else 1
theorem pos1_eq (x : Int) : x = 0 ∧ pos1 x = 0 ∨ x ≠ 0 ∧ pos1 x = 1 := by
  unfold pos1
  by_cases h : x = 0
  · rw [if_pos h]; omega
  · rw [if_neg h]; omega
theorem su_upd1 {g : Int → Int} (f : Int → Int) {j v : Int} {n : Nat} (h0 : 0 ≤ j) (h1 : j < n) : su (fun i => f (upd1 g j v i)) n = su (fun i => f (g i)) n + (f v - f (g j)) := by
  rw [su_upd (f := fun i => f (g i)) (h := fun i => f (upd1 g j v i)) h0 h1 (fun i _ _ c => by rw [upd1_o c])]
  rw [upd1_s]
theorem su_z {g : Int → Int} (f : Int → Int) (hf : f 0 = 0) {n : Nat} (h : ∀ i, (0 : Int) ≤ i → i < n → g i = 0) : su (fun i => f (g i)) n = 0 := by
  rw [su_congr (h := fun _ => 0) (fun i a b => by rw [h i a b, hf])]
  exact su_zero _
def KK (t i : Int) : Int := if t = 0 then K0 i else if t = 1 then K1 i else K2 i
