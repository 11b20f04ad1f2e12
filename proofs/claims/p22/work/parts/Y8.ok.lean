/-! the law on every script: it ends, and answers 1 -/
/-- the heap that the law begins with: the static arrays, and the script -/
noncomputable def scrW (L : Nat) (xs : Nat → Int32) : rO := (List.range L).map (fun j => (j, .int (xs j)))
noncomputable def statW (L : Nat) (xs : Nat → Int32) : rS := mstat ++ [.inr (1, L, .int 0, scrW L xs)]
theorem scrW_lk (xs : Nat → Int32) : ∀ (l : List Nat) (j : Nat), rlk (l.map (fun j => (j, Value.int (xs j)))) (.int 0) j = if j ∈ l then .int (xs j) else .int 0
  | [], j => by
    rw [if_neg (by simp)]
    rfl
  | a :: l, j => by
    show @Bool.rec (fun _ => Value) (rlk (l.map (fun j => (j, Value.int (xs j)))) (.int 0) j) (.int (xs a)) (Nat.beq a j) = _
    by_cases h : a = j
    · subst h
      rw [Nat.beq_refl, if_pos (by simp)]
    · rw [beqf h]
      show rlk (l.map (fun j => (j, Value.int (xs j)))) (.int 0) j = _
      rw [scrW_lk xs l j]
      by_cases q : j ∈ l
      · rw [if_pos q, if_pos (by simp [q])]
      · rw [if_neg q, if_neg (by simp; exact ⟨fun e => h e.symm, q⟩)]
theorem statW_len {L : Nat} {xs : Nat → Int32} : (statW L xs).length = 12 := by
  unfold statW
  rw [List.length_append, mstat_len]
  rfl
theorem statW_T {L : Nat} {xs : Nat → Int32} : STC (statW L xs) := fun b hb => by
  refine ⟨.int 0, mov 0 (stl b), ?_, fun j => ?_⟩
  · unfold statW
    rw [rat_ap (by rw [mstat_len]; exact hb)]
    exact mstat_at hb
  · have e := mov_lk (stl b) 0 j
    rw [Nat.zero_add] at e
    exact e
theorem statW_S {L : Nat} {xs : Nat → Int32} : SCR (statW L xs) L (fun j => if j < L then (xs j).toInt else 0) := by
  refine ⟨.int 0, scrW L xs, ?_, fun j => ?_⟩
  · unfold statW
    have := rat_ae (σ := mstat) (q := .inr (1, L, .int 0, scrW L xs))
    rw [mstat_len] at this
    exact this
  · unfold scrW
    rw [scrW_lk]
    show _ = I (if j < L then (xs j).toInt else 0)
    by_cases h : j < L
    · rw [if_pos (List.mem_range.mpr h), if_pos h]
      exact congrArg Value.int (toI_of _).symm
    · rw [if_neg (fun q => h (List.mem_range.mp q)), if_neg h]
      rfl
theorem law_ok {L : Nat} (hL : L ≤ 3072) (xs : Nat → Int32) : ∃ σₚ cₚ sₚ, Ev PP 455 14 0 (rargs 0 [.ref 11]) [] (statW L xs) 0 0 (some (I 1), σₚ, 0, [], cₚ, sₚ) ∧ cₚ ≤ 600000 ∧ sₚ ≤ 7302250 := by
  have w := law_start (d := 0) (L := L) (xs := fun j => if j < L then (xs j).toInt else 0) (σ := statW L xs) (Q := fun v σ c s => v = some (I 1) ∧ c ≤ 600000 ∧ s ≤ 7302250) statW_T statW_S statW_len (fun j => by
    show inr (if j < L then (xs j).toInt else 0)
    split
    · exact toI_inr _
    · decide) hL (fun g σ D N F A c s X h1 h2 => by
    have b := PB X
    exact ⟨rfl, by omega, by omega⟩)
  obtain ⟨v, σₚ, cₚ, sₚ, h, rfl, h1, h2⟩ := w
  exact ⟨σₚ, cₚ, sₚ, h, h1, h2⟩
