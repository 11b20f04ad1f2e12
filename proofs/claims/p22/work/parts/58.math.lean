def SE (g : Int → Int) : Prop := (0 ≤ g 0 ∧ g 0 ≤ 3) ∧ (3 ≤ g 1 ∧ g 1 ≤ 8) ∧ (1 ≤ g 2 ∧ g 2 ≤ 65536) ∧ (64 ≤ g 3 ∧ g 3 < 128) ∧ (4 ≤ g 4 ∧ g 4 ≤ 7) ∧ (0 ≤ g 6 ∧ g 6 ≤ 255) ∧ (0 ≤ g 7 ∧ g 7 ≤ 15) ∧ (0 ≤ g 8 ∧ g 8 ≤ 11)
theorem SE_upd {g : Int → Int} {a v : Int} (h : SE g) (h1 : (a = 0 → 0 ≤ v ∧ v ≤ 3) ∧ (a = 1 → 3 ≤ v ∧ v ≤ 8) ∧ (a = 2 → 1 ≤ v ∧ v ≤ 65536) ∧ (a = 3 → 64 ≤ v ∧ v < 128) ∧ (a = 4 → 4 ≤ v ∧ v ≤ 7) ∧ (a = 6 → 0 ≤ v ∧ v ≤ 255) ∧ (a = 7 → 0 ≤ v ∧ v ≤ 15) ∧ (a = 8 → 0 ≤ v ∧ v ≤ 11)) : SE (upd1 g a v) := by
  have q : ∀ i lo hi : Int, (a = i → lo ≤ v ∧ v ≤ hi) → (lo ≤ g i ∧ g i ≤ hi) → lo ≤ upd1 g a v i ∧ upd1 g a v i ≤ hi := by
    intro i lo hi x y
    by_cases e : i = a
    · subst e; rw [upd1_s]; exact x rfl
    · rw [upd1_o e]; exact y
  obtain ⟨a0, a1, a2, a3, a4, a6, a7, a8⟩ := h
  obtain ⟨b0, b1, b2, b3, b4, b6, b7, b8⟩ := h1
  have c3 := q 3 64 127 (fun e => by have := b3 e; omega) (by omega)
  exact ⟨q 0 0 3 b0 a0, q 1 3 8 b1 a1, q 2 1 65536 b2 a2, by omega, q 4 4 7 b4 a4, q 6 0 255 b6 a6, q 7 0 15 b7 a7, q 8 0 11 b8 a8⟩
