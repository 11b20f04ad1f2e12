/-! the settings -/
def SETI (s : Int → Int) : Prop := (0 ≤ s 0 ∧ s 0 ≤ 3) ∧ (3 ≤ s 1 ∧ s 1 ≤ 8) ∧ (1 ≤ s 2 ∧ s 2 ≤ 65536) ∧ (4 ≤ s 4 ∧ s 4 ≤ 7) ∧ (0 ≤ s 6 ∧ s 6 ≤ 255) ∧ (0 ≤ s 7 ∧ s 7 ≤ 15) ∧ (0 ≤ s 8 ∧ s 8 ≤ 11)
def MBQ (w v : Int) : Prop := w = 0 ∧ 0 ≤ v ∧ v ≤ 3 ∨ w = 1 ∧ 3 ≤ v ∧ v ≤ 8 ∨ w = 2 ∧ 1 ≤ v ∧ v ≤ 65536 ∨ w = 3 ∨ w = 4 ∧ 4 ≤ v ∧ v ≤ 7 ∨ w = 6 ∧ 0 ≤ v ∧ v ≤ 255 ∨ w = 7 ∧ 0 ≤ v ∧ v ≤ 15 ∨ w = 8 ∧ 0 ≤ v ∧ v ≤ 11 ∨ w = 5 ∨ 9 ≤ w
theorem SETI_upd {s : Int → Int} {w v : Int} (h : SETI s) (m : MBQ w v) : SETI (upd1 s w v) := by
  have e : ∀ k : Int, upd1 s w v k = if k = w then v else s k := fun k => by
    by_cases q : k = w
    · subst q; rw [upd1_s, if_pos rfl]
    · rw [upd1_o q, if_neg q]
  obtain ⟨h0, h1, h2, h4, h6, h7, h8⟩ := h
  unfold MBQ at m
  unfold SETI
  simp only [e]
  refine ⟨?_, ?_, ?_, ?_, ?_, ?_, ?_⟩ <;> split <;> omega
theorem SETI_f {s : Int → Int} (h : SETI s) : 0 ≤ s 0 ∧ s 0 ≤ 3 ∧ 3 ≤ s 1 ∧ s 1 ≤ 8 ∧ 1 ≤ s 2 ∧ s 2 ≤ 65536 ∧ 4 ≤ s 4 ∧ s 4 ≤ 7 ∧ 0 ≤ s 6 ∧ s 6 ≤ 255 ∧ 0 ≤ s 7 ∧ s 7 ≤ 15 ∧ 0 ≤ s 8 ∧ s 8 ≤ 11 := by
  obtain ⟨h0, h1, h2, h4, h6, h7, h8⟩ := h
  exact ⟨h0.1, h0.2, h1.1, h1.2, h2.1, h2.2, h4.1, h4.2, h6.1, h6.2, h7.1, h7.2, h8.1, h8.2⟩
