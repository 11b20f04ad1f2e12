/-! places of different things differ -/
theorem dneZ {V : vV} {σ : rS} {D N : Nat → Nat} {F : hF} {A : hA} (H : HW V σ D N F A) (x y : Nat) (hx : Nat.blt x V.length = true) (hy : Nat.blt y V.length = true) (h : Nat.beq x y = false) : ((D x : Nat) : Int) ≠ ((D y : Nat) : Int) := fun q => by
  have e := H.inj x y (blt_of hx) (blt_of hy) (by omega)
  subst e
  rw [Nat.beq_refl] at h
  cases h
def NNS (f : Int → Int) (k : Int) : Prop := ∀ j, 0 ≤ j → j < k → 0 ≤ f j ∧ f j ≤ 65535
theorem NNS_s {f : Int → Int} {k k2 : Int} (h : NNS f k) (e : k2 = k + 1) (hk : 0 ≤ f k ∧ f k ≤ 65535) : NNS f k2 := fun j a b => by
  by_cases w : j = k
  · subst w; exact hk
  · exact h j a (by omega)
theorem NNS_at {f : Int → Int} {i : Int} (h : NNS f 3) (a : 0 ≤ i) (b : i < 3) : su f (i + 1).toNat ≤ su f (3 : Int).toNat ∧ 0 ≤ f i ∧ f i ≤ 65535 := by
  refine ⟨?_, h i a b⟩
  have h0 := h 0 (by omega) (by omega)
  have h1 := h 1 (by omega) (by omega)
  have h2 := h 2 (by omega) (by omega)
  have e : su f (3 : Int).toNat = ((0 + f 0) + f 1) + f 2 := rfl
  rcases (show i = 0 ∨ i = 1 ∨ i = 2 by omega) with q | q | q <;> subst q
  · have : su f ((0 : Int) + 1).toNat = 0 + f 0 := rfl
    omega
  · have : su f ((1 : Int) + 1).toNat = (0 + f 0) + f 1 := rfl
    omega
  · have : su f ((2 : Int) + 1).toNat = ((0 + f 0) + f 1) + f 2 := rfl
    omega
theorem SZD_of {po ma mo sa us sy nu pl sym S G L K : Int} (h : SHZD po ma mo sa us sy nu pl sym S G) (hL : L ≤ K) (hK : p2 K = G) : SZD po ma mo sa us sy nu pl sym L ∧ sym = S := by
  obtain ⟨a, b, c, d, e, f, g, i, j, k, l⟩ := h
  have := p2_mono hL
  exact ⟨⟨a, b, c, d, e, f, g, by omega⟩, k⟩
