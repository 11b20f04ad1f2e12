/-! what stays, over a part -/
theorem SF_glu {ι : List Nat} {l lₚ : List (Nat × Nat)} {F Fₚ F1 : hF} (h : SF l (pul ι F) Fₚ) (e : ∀ y k, F1 y k = glu ι F Fₚ y k) (hm : l.all (fun p => lₚ.any (fun q => Nat.beq q.1 (ι.getD p.1 0) && Nat.beq q.2 p.2)) = true) : SF lₚ F F1 := by
  intro y k hn
  rw [e]
  cases hf : fnd y ι with
  | none => rw [glu_n hf]
  | some x =>
    obtain ⟨x1, x2⟩ := fnd_lt hf
    rw [glu_s hf, h x k ?_]
    · show F (ι.getD x 0) k = F y k
      rw [x2]
    · cases hb : l.any (fun q => Nat.beq q.1 x && Nat.beq q.2 k) with
      | false => rfl
      | true =>
        obtain ⟨p, hp, hq⟩ := List.any_eq_true.mp hb
        rw [Bool.and_eq_true] at hq
        have w := List.all_eq_true.mp hm p hp
        rw [Nat.eq_of_beq_eq_true hq.1, Nat.eq_of_beq_eq_true hq.2, x2, hn] at w
        cases w
theorem SA_glu {ι : List Nat} {l lₚ : List Nat} {A Aₚ A1 : hA} (h : SA l (pul ι A) Aₚ) (e : ∀ y, A1 y = glu ι A Aₚ y) (hm : l.all (fun p => lₚ.any (fun q => Nat.beq q (ι.getD p 0))) = true) : SA lₚ A A1 := by
  intro y hn i
  rw [e]
  cases hf : fnd y ι with
  | none => rw [glu_n hf]
  | some x =>
    obtain ⟨x1, x2⟩ := fnd_lt hf
    rw [glu_s hf, h x ?_ i]
    · show A (ι.getD x 0) i = A y i
      rw [x2]
    · cases hb : l.any (fun q => Nat.beq q x) with
      | false => rfl
      | true =>
        obtain ⟨p, hp, hq⟩ := List.any_eq_true.mp hb
        have w := List.all_eq_true.mp hm p hp
        rw [Nat.eq_of_beq_eq_true hq, x2, hn] at w
        cases w
theorem SD_glu {ι : List Nat} {l lₚ : List Nat} {D Dₚ D1 : Nat → Nat} (h : SD l (pul ι D) Dₚ) (e : ∀ y, D1 y = glu ι D Dₚ y) (hm : l.all (fun p => lₚ.any (fun q => Nat.beq q (ι.getD p 0))) = true) : SD lₚ D D1 := by
  intro y hn
  rw [e]
  cases hf : fnd y ι with
  | none => rw [glu_n hf]
  | some x =>
    obtain ⟨x1, x2⟩ := fnd_lt hf
    rw [glu_s hf, h x ?_]
    · show D (ι.getD x 0) = D y
      rw [x2]
    · cases hb : l.any (fun q => Nat.beq q x) with
      | false => rfl
      | true =>
        obtain ⟨p, hp, hq⟩ := List.any_eq_true.mp hb
        have w := List.all_eq_true.mp hm p hp
        rw [Nat.eq_of_beq_eq_true hq, x2, hn] at w
        cases w
