/-! what a setting may be -/
def mlo (w : Int) : Int := if w = 0 then 0 else if w = 1 then 3 else if w = 2 then 1 else if w = 4 then 4 else if w = 6 then 0 else if w = 7 then 0 else if w = 8 then 0 else -2147483648
def mhi (w : Int) : Int := if w = 0 then 3 else if w = 1 then 8 else if w = 2 then 65536 else if w = 4 then 7 else if w = 6 then 255 else if w = 7 then 15 else if w = 8 then 11 else 2147483647
theorem mlo_df {w : Int} (h : w ≠ 0 ∧ w ≠ 1 ∧ w ≠ 2 ∧ w ≠ 4 ∧ w ≠ 6 ∧ w ≠ 7 ∧ w ≠ 8) : mlo w = -2147483648 ∧ mhi w = 2147483647 := by
  obtain ⟨h0, h1, h2, h4, h6, h7, h8⟩ := h
  unfold mlo mhi
  rw [if_neg h0, if_neg h1, if_neg h2, if_neg h4, if_neg h6, if_neg h7, if_neg h8, if_neg h0, if_neg h1, if_neg h2, if_neg h4, if_neg h6, if_neg h7, if_neg h8]
  exact ⟨rfl, rfl⟩
theorem MBQ_of {w v : Int} (hw : 0 ≤ w) (h : w = 3 ∨ mlo w ≤ v ∧ v ≤ mhi w) : MBQ w v := by
  unfold MBQ
  by_cases h0 : w = 0
  · subst h0; have h : (0 : Int) = 3 ∨ 0 ≤ v ∧ v ≤ 3 := h; omega
  by_cases h1 : w = 1
  · subst h1; have h : (1 : Int) = 3 ∨ 3 ≤ v ∧ v ≤ 8 := h; omega
  by_cases h2 : w = 2
  · subst h2; have h : (2 : Int) = 3 ∨ 1 ≤ v ∧ v ≤ 65536 := h; omega
  by_cases h4 : w = 4
  · subst h4; have h : (4 : Int) = 3 ∨ 4 ≤ v ∧ v ≤ 7 := h; omega
  by_cases h6 : w = 6
  · subst h6; have h : (6 : Int) = 3 ∨ 0 ≤ v ∧ v ≤ 255 := h; omega
  by_cases h7 : w = 7
  · subst h7; have h : (7 : Int) = 3 ∨ 0 ≤ v ∧ v ≤ 15 := h; omega
  by_cases h8 : w = 8
  · subst h8; have h : (8 : Int) = 3 ∨ 0 ≤ v ∧ v ≤ 11 := h; omega
  clear h
  omega
theorem SE_of {g : Int → Int} {w v : Int} (hs : SE g) (h : w = 3 ∧ 64 ≤ v ∧ v ≤ 127 ∨ w ≠ 3 ∧ mlo w ≤ v ∧ v ≤ mhi w) : SE (upd1 g w v) := by
  refine SE_upd hs ?_
  rcases h with ⟨h3, h⟩ | ⟨h3, h⟩
  · subst h3
    refine ⟨fun q => ?_, fun q => ?_, fun q => ?_, fun q => ?_, fun q => ?_, fun q => ?_, fun q => ?_, fun q => ?_⟩ <;> omega
  · refine ⟨fun q => ?_, fun q => ?_, fun q => ?_, fun q => absurd q h3, fun q => ?_, fun q => ?_, fun q => ?_, fun q => ?_⟩ <;> (subst q; exact h)
/-- what a call of set leaves of the settings -/
def UPD (z : Int) (w w' : Int → Int) (k v : Int) : Prop := z = 1 ∧ w' = upd1 w k v ∨ z = 0 ∧ w' = w
/-- the settings of both sides are the same -/
def EQS (w w' : Int → Int) : Prop := ∀ k, 0 ≤ k → k < 10 → w k = w' k
theorem EQS_upd {z : Int} {w w' v v' : Int → Int} {k x : Int} (h : EQS w w') (a : UPD z w v k x) (b : UPD z w' v' k x) : EQS v v' := by
  rcases a with ⟨a1, a2⟩ | ⟨a1, a2⟩
  · rcases b with ⟨b1, b2⟩ | ⟨b1, b2⟩
    · subst a2
      subst b2
      intro j h0 h1
      by_cases q : j = k
      · rw [q, upd1_s, upd1_s]
      · rw [upd1_o q, upd1_o q]
        exact h j h0 h1
    · omega
  · rcases b with ⟨b1, b2⟩ | ⟨b1, b2⟩
    · omega
    · subst a2
      subst b2
      exact h
