section
/-! T2.inv -/
abbrev QF0_0 (Dc : DcS) (D N : Nat → Nat) (F : hF) (A : hA) : Prop := 0 ≤ (F 2 1) ∧ (F 2 1) ≤ ((N 3 : Int)) ∧ ((N 3 : Int)) ≤ 65536
theorem QF0_0_eq {Dc : DcS} {D N Dₚ Nₚ : Nat → Nat} {F Fₚ : hF} {A Aₚ : hA} (h : EQD [(2, 1)] [] [3] [] D N F A Dₚ Nₚ Fₚ Aₚ) (q : QF0_0 Dc D N F A) : QF0_0 Dc Dₚ Nₚ Fₚ Aₚ := by
  obtain ⟨hf, ha, hn, hd⟩ := h
  have ef0 : Fₚ 2 1 = F 2 1 := hf (2, 1) (List.mem_of_getElem? (i := 0) rfl)
  have en0 : Nₚ 3 = N 3 := hn 3 (List.mem_of_getElem? (i := 0) rfl)
  show 0 ≤ (Fₚ 2 1) ∧ (Fₚ 2 1) ≤ ((Nₚ 3 : Int)) ∧ ((Nₚ 3 : Int)) ≤ 65536
  rw [ef0, en0]
  exact q
abbrev QF0_1 (Dc : DcS) (D N : Nat → Nat) (F : hF) (A : hA) : Prop := 0 ≤ (F 4 1) ∧ (F 4 1) ≤ ((N 5 : Int)) ∧ ((N 5 : Int)) ≤ 65536
theorem QF0_1_eq {Dc : DcS} {D N Dₚ Nₚ : Nat → Nat} {F Fₚ : hF} {A Aₚ : hA} (h : EQD [(4, 1)] [] [5] [] D N F A Dₚ Nₚ Fₚ Aₚ) (q : QF0_1 Dc D N F A) : QF0_1 Dc Dₚ Nₚ Fₚ Aₚ := by
  obtain ⟨hf, ha, hn, hd⟩ := h
  have ef0 : Fₚ 4 1 = F 4 1 := hf (4, 1) (List.mem_of_getElem? (i := 0) rfl)
  have en0 : Nₚ 5 = N 5 := hn 5 (List.mem_of_getElem? (i := 0) rfl)
  show 0 ≤ (Fₚ 4 1) ∧ (Fₚ 4 1) ≤ ((Nₚ 5 : Int)) ∧ ((Nₚ 5 : Int)) ≤ 65536
  rw [ef0, en0]
  exact q
abbrev QF0_2 (Dc : DcS) (D N : Nat → Nat) (F : hF) (A : hA) : Prop := 0 ≤ (F 6 1) ∧ (F 6 1) ≤ ((N 7 : Int)) ∧ ((N 7 : Int)) ≤ 65536
theorem QF0_2_eq {Dc : DcS} {D N Dₚ Nₚ : Nat → Nat} {F Fₚ : hF} {A Aₚ : hA} (h : EQD [(6, 1)] [] [7] [] D N F A Dₚ Nₚ Fₚ Aₚ) (q : QF0_2 Dc D N F A) : QF0_2 Dc Dₚ Nₚ Fₚ Aₚ := by
  obtain ⟨hf, ha, hn, hd⟩ := h
  have ef0 : Fₚ 6 1 = F 6 1 := hf (6, 1) (List.mem_of_getElem? (i := 0) rfl)
  have en0 : Nₚ 7 = N 7 := hn 7 (List.mem_of_getElem? (i := 0) rfl)
  show 0 ≤ (Fₚ 6 1) ∧ (Fₚ 6 1) ≤ ((Nₚ 7 : Int)) ∧ ((Nₚ 7 : Int)) ≤ 65536
  rw [ef0, en0]
  exact q
abbrev QF0_3 (Dc : DcS) (D N : Nat → Nat) (F : hF) (A : hA) : Prop := 0 ≤ (F 8 1) ∧ (F 8 1) ≤ ((N 9 : Int)) ∧ ((N 9 : Int)) ≤ 65536
theorem QF0_3_eq {Dc : DcS} {D N Dₚ Nₚ : Nat → Nat} {F Fₚ : hF} {A Aₚ : hA} (h : EQD [(8, 1)] [] [9] [] D N F A Dₚ Nₚ Fₚ Aₚ) (q : QF0_3 Dc D N F A) : QF0_3 Dc Dₚ Nₚ Fₚ Aₚ := by
  obtain ⟨hf, ha, hn, hd⟩ := h
  have ef0 : Fₚ 8 1 = F 8 1 := hf (8, 1) (List.mem_of_getElem? (i := 0) rfl)
  have en0 : Nₚ 9 = N 9 := hn 9 (List.mem_of_getElem? (i := 0) rfl)
  show 0 ≤ (Fₚ 8 1) ∧ (Fₚ 8 1) ≤ ((Nₚ 9 : Int)) ∧ ((Nₚ 9 : Int)) ≤ 65536
  rw [ef0, en0]
  exact q
abbrev QF0_4 (Dc : DcS) (D N : Nat → Nat) (F : hF) (A : hA) : Prop := 0 ≤ (F 11 1) ∧ (F 11 1) ≤ ((N 12 : Int)) ∧ ((N 12 : Int)) ≤ 65536
theorem QF0_4_eq {Dc : DcS} {D N Dₚ Nₚ : Nat → Nat} {F Fₚ : hF} {A Aₚ : hA} (h : EQD [(11, 1)] [] [12] [] D N F A Dₚ Nₚ Fₚ Aₚ) (q : QF0_4 Dc D N F A) : QF0_4 Dc Dₚ Nₚ Fₚ Aₚ := by
  obtain ⟨hf, ha, hn, hd⟩ := h
  have ef0 : Fₚ 11 1 = F 11 1 := hf (11, 1) (List.mem_of_getElem? (i := 0) rfl)
  have en0 : Nₚ 12 = N 12 := hn 12 (List.mem_of_getElem? (i := 0) rfl)
  show 0 ≤ (Fₚ 11 1) ∧ (Fₚ 11 1) ≤ ((Nₚ 12 : Int)) ∧ ((Nₚ 12 : Int)) ≤ 65536
  rw [ef0, en0]
  exact q
abbrev QF0_5 (Dc : DcS) (D N : Nat → Nat) (F : hF) (A : hA) : Prop := 0 ≤ (F 25 1) ∧ (F 25 1) ≤ ((N 26 : Int)) ∧ ((N 26 : Int)) ≤ 65536
theorem QF0_5_eq {Dc : DcS} {D N Dₚ Nₚ : Nat → Nat} {F Fₚ : hF} {A Aₚ : hA} (h : EQD [(25, 1)] [] [26] [] D N F A Dₚ Nₚ Fₚ Aₚ) (q : QF0_5 Dc D N F A) : QF0_5 Dc Dₚ Nₚ Fₚ Aₚ := by
  obtain ⟨hf, ha, hn, hd⟩ := h
  have ef0 : Fₚ 25 1 = F 25 1 := hf (25, 1) (List.mem_of_getElem? (i := 0) rfl)
  have en0 : Nₚ 26 = N 26 := hn 26 (List.mem_of_getElem? (i := 0) rfl)
  show 0 ≤ (Fₚ 25 1) ∧ (Fₚ 25 1) ≤ ((Nₚ 26 : Int)) ∧ ((Nₚ 26 : Int)) ≤ 65536
  rw [ef0, en0]
  exact q
abbrev QF0_6 (Dc : DcS) (D N : Nat → Nat) (F : hF) (A : hA) : Prop := 0 ≤ (F 27 1) ∧ (F 27 1) ≤ ((N 28 : Int)) ∧ ((N 28 : Int)) ≤ 65536
theorem QF0_6_eq {Dc : DcS} {D N Dₚ Nₚ : Nat → Nat} {F Fₚ : hF} {A Aₚ : hA} (h : EQD [(27, 1)] [] [28] [] D N F A Dₚ Nₚ Fₚ Aₚ) (q : QF0_6 Dc D N F A) : QF0_6 Dc Dₚ Nₚ Fₚ Aₚ := by
  obtain ⟨hf, ha, hn, hd⟩ := h
  have ef0 : Fₚ 27 1 = F 27 1 := hf (27, 1) (List.mem_of_getElem? (i := 0) rfl)
  have en0 : Nₚ 28 = N 28 := hn 28 (List.mem_of_getElem? (i := 0) rfl)
  show 0 ≤ (Fₚ 27 1) ∧ (Fₚ 27 1) ≤ ((Nₚ 28 : Int)) ∧ ((Nₚ 28 : Int)) ≤ 65536
  rw [ef0, en0]
  exact q
abbrev QF0_7 (Dc : DcS) (D N : Nat → Nat) (F : hF) (A : hA) : Prop := 0 ≤ (F 14 1) ∧ (F 14 1) ≤ ((N 15 : Int)) ∧ ((N 15 : Int)) ≤ 65536
theorem QF0_7_eq {Dc : DcS} {D N Dₚ Nₚ : Nat → Nat} {F Fₚ : hF} {A Aₚ : hA} (h : EQD [(14, 1)] [] [15] [] D N F A Dₚ Nₚ Fₚ Aₚ) (q : QF0_7 Dc D N F A) : QF0_7 Dc Dₚ Nₚ Fₚ Aₚ := by
  obtain ⟨hf, ha, hn, hd⟩ := h
  have ef0 : Fₚ 14 1 = F 14 1 := hf (14, 1) (List.mem_of_getElem? (i := 0) rfl)
  have en0 : Nₚ 15 = N 15 := hn 15 (List.mem_of_getElem? (i := 0) rfl)
  show 0 ≤ (Fₚ 14 1) ∧ (Fₚ 14 1) ≤ ((Nₚ 15 : Int)) ∧ ((Nₚ 15 : Int)) ≤ 65536
  rw [ef0, en0]
  exact q
abbrev QF0_8 (Dc : DcS) (D N : Nat → Nat) (F : hF) (A : hA) : Prop := 0 ≤ (F 20 1) ∧ (F 20 1) ≤ ((N 21 : Int)) ∧ ((N 21 : Int)) ≤ 65536
theorem QF0_8_eq {Dc : DcS} {D N Dₚ Nₚ : Nat → Nat} {F Fₚ : hF} {A Aₚ : hA} (h : EQD [(20, 1)] [] [21] [] D N F A Dₚ Nₚ Fₚ Aₚ) (q : QF0_8 Dc D N F A) : QF0_8 Dc Dₚ Nₚ Fₚ Aₚ := by
  obtain ⟨hf, ha, hn, hd⟩ := h
  have ef0 : Fₚ 20 1 = F 20 1 := hf (20, 1) (List.mem_of_getElem? (i := 0) rfl)
  have en0 : Nₚ 21 = N 21 := hn 21 (List.mem_of_getElem? (i := 0) rfl)
  show 0 ≤ (Fₚ 20 1) ∧ (Fₚ 20 1) ≤ ((Nₚ 21 : Int)) ∧ ((Nₚ 21 : Int)) ≤ 65536
  rw [ef0, en0]
  exact q
abbrev QF0_9 (Dc : DcS) (D N : Nat → Nat) (F : hF) (A : hA) : Prop := ((N 1 : Int)) = 4
theorem QF0_9_eq {Dc : DcS} {D N Dₚ Nₚ : Nat → Nat} {F Fₚ : hF} {A Aₚ : hA} (h : EQD [] [] [1] [] D N F A Dₚ Nₚ Fₚ Aₚ) (q : QF0_9 Dc D N F A) : QF0_9 Dc Dₚ Nₚ Fₚ Aₚ := by
  obtain ⟨hf, ha, hn, hd⟩ := h
  have en0 : Nₚ 1 = N 1 := hn 1 (List.mem_of_getElem? (i := 0) rfl)
  show ((Nₚ 1 : Int)) = 4
  rw [en0]
  exact q
abbrev QF0_10 (Dc : DcS) (D N : Nat → Nat) (F : hF) (A : hA) : Prop := ((N 10 : Int)) = 10
theorem QF0_10_eq {Dc : DcS} {D N Dₚ Nₚ : Nat → Nat} {F Fₚ : hF} {A Aₚ : hA} (h : EQD [] [] [10] [] D N F A Dₚ Nₚ Fₚ Aₚ) (q : QF0_10 Dc D N F A) : QF0_10 Dc Dₚ Nₚ Fₚ Aₚ := by
  obtain ⟨hf, ha, hn, hd⟩ := h
  have en0 : Nₚ 10 = N 10 := hn 10 (List.mem_of_getElem? (i := 0) rfl)
  show ((Nₚ 10 : Int)) = 10
  rw [en0]
  exact q
abbrev QF0_11 (Dc : DcS) (D N : Nat → Nat) (F : hF) (A : hA) : Prop := ((N 29 : Int)) = 13
theorem QF0_11_eq {Dc : DcS} {D N Dₚ Nₚ : Nat → Nat} {F Fₚ : hF} {A Aₚ : hA} (h : EQD [] [] [29] [] D N F A Dₚ Nₚ Fₚ Aₚ) (q : QF0_11 Dc D N F A) : QF0_11 Dc Dₚ Nₚ Fₚ Aₚ := by
  obtain ⟨hf, ha, hn, hd⟩ := h
  have en0 : Nₚ 29 = N 29 := hn 29 (List.mem_of_getElem? (i := 0) rfl)
  show ((Nₚ 29 : Int)) = 13
  rw [en0]
  exact q
abbrev QF0_12 (Dc : DcS) (D N : Nat → Nat) (F : hF) (A : hA) : Prop := ((N 30 : Int)) = 5
theorem QF0_12_eq {Dc : DcS} {D N Dₚ Nₚ : Nat → Nat} {F Fₚ : hF} {A Aₚ : hA} (h : EQD [] [] [30] [] D N F A Dₚ Nₚ Fₚ Aₚ) (q : QF0_12 Dc D N F A) : QF0_12 Dc Dₚ Nₚ Fₚ Aₚ := by
  obtain ⟨hf, ha, hn, hd⟩ := h
  have en0 : Nₚ 30 = N 30 := hn 30 (List.mem_of_getElem? (i := 0) rfl)
  show ((Nₚ 30 : Int)) = 5
  rw [en0]
  exact q
abbrev QF0_13 (Dc : DcS) (D N : Nat → Nat) (F : hF) (A : hA) : Prop := ((N 31 : Int)) = 5
theorem QF0_13_eq {Dc : DcS} {D N Dₚ Nₚ : Nat → Nat} {F Fₚ : hF} {A Aₚ : hA} (h : EQD [] [] [31] [] D N F A Dₚ Nₚ Fₚ Aₚ) (q : QF0_13 Dc D N F A) : QF0_13 Dc Dₚ Nₚ Fₚ Aₚ := by
  obtain ⟨hf, ha, hn, hd⟩ := h
  have en0 : Nₚ 31 = N 31 := hn 31 (List.mem_of_getElem? (i := 0) rfl)
  show ((Nₚ 31 : Int)) = 5
  rw [en0]
  exact q
abbrev QF0_14 (Dc : DcS) (D N : Nat → Nat) (F : hF) (A : hA) : Prop := ((N 32 : Int)) = 2
theorem QF0_14_eq {Dc : DcS} {D N Dₚ Nₚ : Nat → Nat} {F Fₚ : hF} {A Aₚ : hA} (h : EQD [] [] [32] [] D N F A Dₚ Nₚ Fₚ Aₚ) (q : QF0_14 Dc D N F A) : QF0_14 Dc Dₚ Nₚ Fₚ Aₚ := by
  obtain ⟨hf, ha, hn, hd⟩ := h
  have en0 : Nₚ 32 = N 32 := hn 32 (List.mem_of_getElem? (i := 0) rfl)
  show ((Nₚ 32 : Int)) = 2
  rw [en0]
  exact q
abbrev QF0_15 (Dc : DcS) (D N : Nat → Nat) (F : hF) (A : hA) : Prop := ((N 17 : Int)) = 3 ∧ ((N 18 : Int)) = 3
theorem QF0_15_eq {Dc : DcS} {D N Dₚ Nₚ : Nat → Nat} {F Fₚ : hF} {A Aₚ : hA} (h : EQD [] [] [17, 18] [] D N F A Dₚ Nₚ Fₚ Aₚ) (q : QF0_15 Dc D N F A) : QF0_15 Dc Dₚ Nₚ Fₚ Aₚ := by
  obtain ⟨hf, ha, hn, hd⟩ := h
  have en0 : Nₚ 17 = N 17 := hn 17 (List.mem_of_getElem? (i := 0) rfl)
  have en1 : Nₚ 18 = N 18 := hn 18 (List.mem_of_getElem? (i := 1) rfl)
  show ((Nₚ 17 : Int)) = 3 ∧ ((Nₚ 18 : Int)) = 3
  rw [en0, en1]
  exact q
abbrev QF0_16 (Dc : DcS) (D N : Nat → Nat) (F : hF) (A : hA) : Prop := ((N 23 : Int)) = 3 ∧ ((N 24 : Int)) = 3
theorem QF0_16_eq {Dc : DcS} {D N Dₚ Nₚ : Nat → Nat} {F Fₚ : hF} {A Aₚ : hA} (h : EQD [] [] [23, 24] [] D N F A Dₚ Nₚ Fₚ Aₚ) (q : QF0_16 Dc D N F A) : QF0_16 Dc Dₚ Nₚ Fₚ Aₚ := by
  obtain ⟨hf, ha, hn, hd⟩ := h
  have en0 : Nₚ 23 = N 23 := hn 23 (List.mem_of_getElem? (i := 0) rfl)
  have en1 : Nₚ 24 = N 24 := hn 24 (List.mem_of_getElem? (i := 1) rfl)
  show ((Nₚ 23 : Int)) = 3 ∧ ((Nₚ 24 : Int)) = 3
  rw [en0, en1]
  exact q
abbrev QF0_17 (Dc : DcS) (D N : Nat → Nat) (F : hF) (A : hA) : Prop := (F 2 2) = 0
theorem QF0_17_eq {Dc : DcS} {D N Dₚ Nₚ : Nat → Nat} {F Fₚ : hF} {A Aₚ : hA} (h : EQD [(2, 2)] [] [] [] D N F A Dₚ Nₚ Fₚ Aₚ) (q : QF0_17 Dc D N F A) : QF0_17 Dc Dₚ Nₚ Fₚ Aₚ := by
  obtain ⟨hf, ha, hn, hd⟩ := h
  have ef0 : Fₚ 2 2 = F 2 2 := hf (2, 2) (List.mem_of_getElem? (i := 0) rfl)
  show (Fₚ 2 2) = 0
  rw [ef0]
  exact q
abbrev QF0_18 (Dc : DcS) (D N : Nat → Nat) (F : hF) (A : hA) : Prop := (F 4 2) = 0
theorem QF0_18_eq {Dc : DcS} {D N Dₚ Nₚ : Nat → Nat} {F Fₚ : hF} {A Aₚ : hA} (h : EQD [(4, 2)] [] [] [] D N F A Dₚ Nₚ Fₚ Aₚ) (q : QF0_18 Dc D N F A) : QF0_18 Dc Dₚ Nₚ Fₚ Aₚ := by
  obtain ⟨hf, ha, hn, hd⟩ := h
  have ef0 : Fₚ 4 2 = F 4 2 := hf (4, 2) (List.mem_of_getElem? (i := 0) rfl)
  show (Fₚ 4 2) = 0
  rw [ef0]
  exact q
abbrev QF0_19 (Dc : DcS) (D N : Nat → Nat) (F : hF) (A : hA) : Prop := (F 6 2) = 0
theorem QF0_19_eq {Dc : DcS} {D N Dₚ Nₚ : Nat → Nat} {F Fₚ : hF} {A Aₚ : hA} (h : EQD [(6, 2)] [] [] [] D N F A Dₚ Nₚ Fₚ Aₚ) (q : QF0_19 Dc D N F A) : QF0_19 Dc Dₚ Nₚ Fₚ Aₚ := by
  obtain ⟨hf, ha, hn, hd⟩ := h
  have ef0 : Fₚ 6 2 = F 6 2 := hf (6, 2) (List.mem_of_getElem? (i := 0) rfl)
  show (Fₚ 6 2) = 0
  rw [ef0]
  exact q
abbrev QF0_20 (Dc : DcS) (D N : Nat → Nat) (F : hF) (A : hA) : Prop := (F 8 2) = 0
theorem QF0_20_eq {Dc : DcS} {D N Dₚ Nₚ : Nat → Nat} {F Fₚ : hF} {A Aₚ : hA} (h : EQD [(8, 2)] [] [] [] D N F A Dₚ Nₚ Fₚ Aₚ) (q : QF0_20 Dc D N F A) : QF0_20 Dc Dₚ Nₚ Fₚ Aₚ := by
  obtain ⟨hf, ha, hn, hd⟩ := h
  have ef0 : Fₚ 8 2 = F 8 2 := hf (8, 2) (List.mem_of_getElem? (i := 0) rfl)
  show (Fₚ 8 2) = 0
  rw [ef0]
  exact q
abbrev QF0_21 (Dc : DcS) (D N : Nat → Nat) (F : hF) (A : hA) : Prop := DCK Dc (sc ((A 15)) 0 ((F 14 1))) ((F 13 2)) ((A 18))
theorem QF0_21_eq {Dc : DcS} {D N Dₚ Nₚ : Nat → Nat} {F Fₚ : hF} {A Aₚ : hA} (h : EQD [(13, 2), (14, 1)] [15, 18] [] [] D N F A Dₚ Nₚ Fₚ Aₚ) (q : QF0_21 Dc D N F A) : QF0_21 Dc Dₚ Nₚ Fₚ Aₚ := by
  obtain ⟨hf, ha, hn, hd⟩ := h
  have ef0 : Fₚ 13 2 = F 13 2 := hf (13, 2) (List.mem_of_getElem? (i := 0) rfl)
  have ef1 : Fₚ 14 1 = F 14 1 := hf (14, 1) (List.mem_of_getElem? (i := 1) rfl)
  have ea0 : Aₚ 15 = A 15 := ha 15 (List.mem_of_getElem? (i := 0) rfl)
  have ea1 : Aₚ 18 = A 18 := ha 18 (List.mem_of_getElem? (i := 1) rfl)
  show DCK Dc (sc ((Aₚ 15)) 0 ((Fₚ 14 1))) ((Fₚ 13 2)) ((Aₚ 18))
  rw [ef0, ef1, ea0, ea1]
  exact q
abbrev QF0_22 (Dc : DcS) (D N : Nat → Nat) (F : hF) (A : hA) : Prop := DCo Dc
theorem QF0_22_eq {Dc : DcS} {D N Dₚ Nₚ : Nat → Nat} {F Fₚ : hF} {A Aₚ : hA} (h : EQD [] [] [] [] D N F A Dₚ Nₚ Fₚ Aₚ) (q : QF0_22 Dc D N F A) : QF0_22 Dc Dₚ Nₚ Fₚ Aₚ := by
  exact q
abbrev QF0_23 (Dc : DcS) (D N : Nat → Nat) (F : hF) (A : hA) : Prop := DCl Dc
theorem QF0_23_eq {Dc : DcS} {D N Dₚ Nₚ : Nat → Nat} {F Fₚ : hF} {A Aₚ : hA} (h : EQD [] [] [] [] D N F A Dₚ Nₚ Fₚ Aₚ) (q : QF0_23 Dc D N F A) : QF0_23 Dc Dₚ Nₚ Fₚ Aₚ := by
  exact q
abbrev QF0_24 (Dc : DcS) (D N : Nat → Nat) (F : hF) (A : hA) : Prop := SETI ((A 10))
theorem QF0_24_eq {Dc : DcS} {D N Dₚ Nₚ : Nat → Nat} {F Fₚ : hF} {A Aₚ : hA} (h : EQD [] [10] [] [] D N F A Dₚ Nₚ Fₚ Aₚ) (q : QF0_24 Dc D N F A) : QF0_24 Dc Dₚ Nₚ Fₚ Aₚ := by
  obtain ⟨hf, ha, hn, hd⟩ := h
  have ea0 : Aₚ 10 = A 10 := ha 10 (List.mem_of_getElem? (i := 0) rfl)
  show SETI ((Aₚ 10))
  rw [ea0]
  exact q
def INV0 (Dc : DcS) (D N : Nat → Nat) (F : hF) (A : hA) : Prop := QF0_0 Dc D N F A ∧ QF0_1 Dc D N F A ∧ QF0_2 Dc D N F A ∧ QF0_3 Dc D N F A ∧ QF0_4 Dc D N F A ∧ QF0_5 Dc D N F A ∧ QF0_6 Dc D N F A ∧ QF0_7 Dc D N F A ∧ QF0_8 Dc D N F A ∧ QF0_9 Dc D N F A ∧ QF0_10 Dc D N F A ∧ QF0_11 Dc D N F A ∧ QF0_12 Dc D N F A ∧ QF0_13 Dc D N F A ∧ QF0_14 Dc D N F A ∧ QF0_15 Dc D N F A ∧ QF0_16 Dc D N F A ∧ QF0_17 Dc D N F A ∧ QF0_18 Dc D N F A ∧ QF0_19 Dc D N F A ∧ QF0_20 Dc D N F A ∧ QF0_21 Dc D N F A ∧ QF0_22 Dc D N F A ∧ QF0_23 Dc D N F A ∧ QF0_24 Dc D N F A
theorem INV0_eq {Dc : DcS} {D N Dₚ Nₚ : Nat → Nat} {F Fₚ : hF} {A Aₚ : hA} (h : EQD [(2, 1), (2, 2), (4, 1), (4, 2), (6, 1), (6, 2), (8, 1), (8, 2), (11, 1), (13, 2), (14, 1), (20, 1), (25, 1), (27, 1)] [10, 15, 18] [1, 3, 5, 7, 9, 10, 12, 15, 17, 18, 21, 23, 24, 26, 28, 29, 30, 31, 32] [] D N F A Dₚ Nₚ Fₚ Aₚ) (q : INV0 Dc D N F A) : INV0 Dc Dₚ Nₚ Fₚ Aₚ := ⟨QF0_0_eq (EQD_sub (by decide +kernel) h) q.1, QF0_1_eq (EQD_sub (by decide +kernel) h) q.2.1, QF0_2_eq (EQD_sub (by decide +kernel) h) q.2.2.1, QF0_3_eq (EQD_sub (by decide +kernel) h) q.2.2.2.1, QF0_4_eq (EQD_sub (by decide +kernel) h) q.2.2.2.2.1, QF0_5_eq (EQD_sub (by decide +kernel) h) q.2.2.2.2.2.1, QF0_6_eq (EQD_sub (by decide +kernel) h) q.2.2.2.2.2.2.1, QF0_7_eq (EQD_sub (by decide +kernel) h) q.2.2.2.2.2.2.2.1, QF0_8_eq (EQD_sub (by decide +kernel) h) q.2.2.2.2.2.2.2.2.1, QF0_9_eq (EQD_sub (by decide +kernel) h) q.2.2.2.2.2.2.2.2.2.1, QF0_10_eq (EQD_sub (by decide +kernel) h) q.2.2.2.2.2.2.2.2.2.2.1, QF0_11_eq (EQD_sub (by decide +kernel) h) q.2.2.2.2.2.2.2.2.2.2.2.1, QF0_12_eq (EQD_sub (by decide +kernel) h) q.2.2.2.2.2.2.2.2.2.2.2.2.1, QF0_13_eq (EQD_sub (by decide +kernel) h) q.2.2.2.2.2.2.2.2.2.2.2.2.2.1, QF0_14_eq (EQD_sub (by decide +kernel) h) q.2.2.2.2.2.2.2.2.2.2.2.2.2.2.1, QF0_15_eq (EQD_sub (by decide +kernel) h) q.2.2.2.2.2.2.2.2.2.2.2.2.2.2.2.1, QF0_16_eq (EQD_sub (by decide +kernel) h) q.2.2.2.2.2.2.2.2.2.2.2.2.2.2.2.2.1, QF0_17_eq (EQD_sub (by decide +kernel) h) q.2.2.2.2.2.2.2.2.2.2.2.2.2.2.2.2.2.1, QF0_18_eq (EQD_sub (by decide +kernel) h) q.2.2.2.2.2.2.2.2.2.2.2.2.2.2.2.2.2.2.1, QF0_19_eq (EQD_sub (by decide +kernel) h) q.2.2.2.2.2.2.2.2.2.2.2.2.2.2.2.2.2.2.2.1, QF0_20_eq (EQD_sub (by decide +kernel) h) q.2.2.2.2.2.2.2.2.2.2.2.2.2.2.2.2.2.2.2.2.1, QF0_21_eq (EQD_sub (by decide +kernel) h) q.2.2.2.2.2.2.2.2.2.2.2.2.2.2.2.2.2.2.2.2.2.1, QF0_22_eq (EQD_sub (by decide +kernel) h) q.2.2.2.2.2.2.2.2.2.2.2.2.2.2.2.2.2.2.2.2.2.2.1, QF0_23_eq (EQD_sub (by decide +kernel) h) q.2.2.2.2.2.2.2.2.2.2.2.2.2.2.2.2.2.2.2.2.2.2.2.1, QF0_24_eq (EQD_sub (by decide +kernel) h) q.2.2.2.2.2.2.2.2.2.2.2.2.2.2.2.2.2.2.2.2.2.2.2.2⟩
abbrev QF1_0 (D N : Nat → Nat) (F : hF) (A : hA) : Prop := 0 ≤ (F 34 1) ∧ (F 34 1) ≤ ((N 35 : Int)) ∧ ((N 35 : Int)) ≤ 65536
theorem QF1_0_eq {D N Dₚ Nₚ : Nat → Nat} {F Fₚ : hF} {A Aₚ : hA} (h : EQD [(34, 1)] [] [35] [] D N F A Dₚ Nₚ Fₚ Aₚ) (q : QF1_0 D N F A) : QF1_0 Dₚ Nₚ Fₚ Aₚ := by
  obtain ⟨hf, ha, hn, hd⟩ := h
  have ef0 : Fₚ 34 1 = F 34 1 := hf (34, 1) (List.mem_of_getElem? (i := 0) rfl)
  have en0 : Nₚ 35 = N 35 := hn 35 (List.mem_of_getElem? (i := 0) rfl)
  show 0 ≤ (Fₚ 34 1) ∧ (Fₚ 34 1) ≤ ((Nₚ 35 : Int)) ∧ ((Nₚ 35 : Int)) ≤ 65536
  rw [ef0, en0]
  exact q
abbrev QF1_1 (D N : Nat → Nat) (F : hF) (A : hA) : Prop := ((N 39 : Int)) = 0 ∨ ((N 39 : Int)) = 2048
theorem QF1_1_eq {D N Dₚ Nₚ : Nat → Nat} {F Fₚ : hF} {A Aₚ : hA} (h : EQD [] [] [39] [] D N F A Dₚ Nₚ Fₚ Aₚ) (q : QF1_1 D N F A) : QF1_1 Dₚ Nₚ Fₚ Aₚ := by
  obtain ⟨hf, ha, hn, hd⟩ := h
  have en0 : Nₚ 39 = N 39 := hn 39 (List.mem_of_getElem? (i := 0) rfl)
  show ((Nₚ 39 : Int)) = 0 ∨ ((Nₚ 39 : Int)) = 2048
  rw [en0]
  exact q
abbrev QF1_2 (D N : Nat → Nat) (F : hF) (A : hA) : Prop := ((N 40 : Int)) ≤ 16384
theorem QF1_2_eq {D N Dₚ Nₚ : Nat → Nat} {F Fₚ : hF} {A Aₚ : hA} (h : EQD [] [] [40] [] D N F A Dₚ Nₚ Fₚ Aₚ) (q : QF1_2 D N F A) : QF1_2 Dₚ Nₚ Fₚ Aₚ := by
  obtain ⟨hf, ha, hn, hd⟩ := h
  have en0 : Nₚ 40 = N 40 := hn 40 (List.mem_of_getElem? (i := 0) rfl)
  show ((Nₚ 40 : Int)) ≤ 16384
  rw [en0]
  exact q
abbrev QF1_3 (D N : Nat → Nat) (F : hF) (A : hA) : Prop := ((N 36 : Int)) = ((N 37 : Int)) ∧ ((N 38 : Int)) = ((N 37 : Int)) ∧ ((N 37 : Int)) ≤ 65536 ∧ (((N 37 : Int)) = 0 ∨ 64 ≤ ((N 37 : Int))) ∧ lgq (((N 37 : Int))) = 0
theorem QF1_3_eq {D N Dₚ Nₚ : Nat → Nat} {F Fₚ : hF} {A Aₚ : hA} (h : EQD [] [] [36, 37, 38] [] D N F A Dₚ Nₚ Fₚ Aₚ) (q : QF1_3 D N F A) : QF1_3 Dₚ Nₚ Fₚ Aₚ := by
  obtain ⟨hf, ha, hn, hd⟩ := h
  have en0 : Nₚ 36 = N 36 := hn 36 (List.mem_of_getElem? (i := 0) rfl)
  have en1 : Nₚ 37 = N 37 := hn 37 (List.mem_of_getElem? (i := 1) rfl)
  have en2 : Nₚ 38 = N 38 := hn 38 (List.mem_of_getElem? (i := 2) rfl)
  show ((Nₚ 36 : Int)) = ((Nₚ 37 : Int)) ∧ ((Nₚ 38 : Int)) = ((Nₚ 37 : Int)) ∧ ((Nₚ 37 : Int)) ≤ 65536 ∧ (((Nₚ 37 : Int)) = 0 ∨ 64 ≤ ((Nₚ 37 : Int))) ∧ lgq (((Nₚ 37 : Int))) = 0
  rw [en0, en1, en2]
  exact q
def INV1 (D N : Nat → Nat) (F : hF) (A : hA) : Prop := QF1_0 D N F A ∧ QF1_1 D N F A ∧ QF1_2 D N F A ∧ QF1_3 D N F A
theorem INV1_eq {D N Dₚ Nₚ : Nat → Nat} {F Fₚ : hF} {A Aₚ : hA} (h : EQD [(34, 1)] [] [35, 36, 37, 38, 39, 40] [] D N F A Dₚ Nₚ Fₚ Aₚ) (q : INV1 D N F A) : INV1 Dₚ Nₚ Fₚ Aₚ := ⟨QF1_0_eq (EQD_sub (by decide +kernel) h) q.1, QF1_1_eq (EQD_sub (by decide +kernel) h) q.2.1, QF1_2_eq (EQD_sub (by decide +kernel) h) q.2.2.1, QF1_3_eq (EQD_sub (by decide +kernel) h) q.2.2.2⟩
abbrev QF2_0 (D N : Nat → Nat) (F : hF) (A : hA) : Prop := 0 ≤ (F 42 1) ∧ (F 42 1) ≤ ((N 43 : Int)) ∧ ((N 43 : Int)) ≤ 65536
theorem QF2_0_eq {D N Dₚ Nₚ : Nat → Nat} {F Fₚ : hF} {A Aₚ : hA} (h : EQD [(42, 1)] [] [43] [] D N F A Dₚ Nₚ Fₚ Aₚ) (q : QF2_0 D N F A) : QF2_0 Dₚ Nₚ Fₚ Aₚ := by
  obtain ⟨hf, ha, hn, hd⟩ := h
  have ef0 : Fₚ 42 1 = F 42 1 := hf (42, 1) (List.mem_of_getElem? (i := 0) rfl)
  have en0 : Nₚ 43 = N 43 := hn 43 (List.mem_of_getElem? (i := 0) rfl)
  show 0 ≤ (Fₚ 42 1) ∧ (Fₚ 42 1) ≤ ((Nₚ 43 : Int)) ∧ ((Nₚ 43 : Int)) ≤ 65536
  rw [ef0, en0]
  exact q
def INV2 (D N : Nat → Nat) (F : hF) (A : hA) : Prop := QF2_0 D N F A
theorem INV2_eq {D N Dₚ Nₚ : Nat → Nat} {F Fₚ : hF} {A Aₚ : hA} (h : EQD [(42, 1)] [] [43] [] D N F A Dₚ Nₚ Fₚ Aₚ) (q : INV2 D N F A) : INV2 Dₚ Nₚ Fₚ Aₚ := QF2_0_eq (EQD_sub (by decide +kernel) h) q
abbrev QF3_0 (D N : Nat → Nat) (F : hF) (A : hA) : Prop := 0 ≤ (F 45 1) ∧ (F 45 1) ≤ ((N 46 : Int)) ∧ ((N 46 : Int)) ≤ 65536
theorem QF3_0_eq {D N Dₚ Nₚ : Nat → Nat} {F Fₚ : hF} {A Aₚ : hA} (h : EQD [(45, 1)] [] [46] [] D N F A Dₚ Nₚ Fₚ Aₚ) (q : QF3_0 D N F A) : QF3_0 Dₚ Nₚ Fₚ Aₚ := by
  obtain ⟨hf, ha, hn, hd⟩ := h
  have ef0 : Fₚ 45 1 = F 45 1 := hf (45, 1) (List.mem_of_getElem? (i := 0) rfl)
  have en0 : Nₚ 46 = N 46 := hn 46 (List.mem_of_getElem? (i := 0) rfl)
  show 0 ≤ (Fₚ 45 1) ∧ (Fₚ 45 1) ≤ ((Nₚ 46 : Int)) ∧ ((Nₚ 46 : Int)) ≤ 65536
  rw [ef0, en0]
  exact q
def INV3 (D N : Nat → Nat) (F : hF) (A : hA) : Prop := QF3_0 D N F A
theorem INV3_eq {D N Dₚ Nₚ : Nat → Nat} {F Fₚ : hF} {A Aₚ : hA} (h : EQD [(45, 1)] [] [46] [] D N F A Dₚ Nₚ Fₚ Aₚ) (q : INV3 D N F A) : INV3 Dₚ Nₚ Fₚ Aₚ := QF3_0_eq (EQD_sub (by decide +kernel) h) q
abbrev QF4_0 (D N : Nat → Nat) (F : hF) (A : hA) : Prop := ((N 47 : Int)) = 3
theorem QF4_0_eq {D N Dₚ Nₚ : Nat → Nat} {F Fₚ : hF} {A Aₚ : hA} (h : EQD [] [] [47] [] D N F A Dₚ Nₚ Fₚ Aₚ) (q : QF4_0 D N F A) : QF4_0 Dₚ Nₚ Fₚ Aₚ := by
  obtain ⟨hf, ha, hn, hd⟩ := h
  have en0 : Nₚ 47 = N 47 := hn 47 (List.mem_of_getElem? (i := 0) rfl)
  show ((Nₚ 47 : Int)) = 3
  rw [en0]
  exact q
abbrev QF4_1 (D N : Nat → Nat) (F : hF) (A : hA) : Prop := SL ((A 49)) ((F 48 1)) ((F 48 0)) ((A 50)) ((A 51)) ((A 52)) ((A 54)) ((A 55)) ((A 56))
theorem QF4_1_eq {D N Dₚ Nₚ : Nat → Nat} {F Fₚ : hF} {A Aₚ : hA} (h : EQD [(48, 0), (48, 1)] [49, 50, 51, 52, 54, 55, 56] [] [] D N F A Dₚ Nₚ Fₚ Aₚ) (q : QF4_1 D N F A) : QF4_1 Dₚ Nₚ Fₚ Aₚ := by
  obtain ⟨hf, ha, hn, hd⟩ := h
  have ef0 : Fₚ 48 0 = F 48 0 := hf (48, 0) (List.mem_of_getElem? (i := 0) rfl)
  have ef1 : Fₚ 48 1 = F 48 1 := hf (48, 1) (List.mem_of_getElem? (i := 1) rfl)
  have ea0 : Aₚ 49 = A 49 := ha 49 (List.mem_of_getElem? (i := 0) rfl)
  have ea1 : Aₚ 50 = A 50 := ha 50 (List.mem_of_getElem? (i := 1) rfl)
  have ea2 : Aₚ 51 = A 51 := ha 51 (List.mem_of_getElem? (i := 2) rfl)
  have ea3 : Aₚ 52 = A 52 := ha 52 (List.mem_of_getElem? (i := 3) rfl)
  have ea4 : Aₚ 54 = A 54 := ha 54 (List.mem_of_getElem? (i := 4) rfl)
  have ea5 : Aₚ 55 = A 55 := ha 55 (List.mem_of_getElem? (i := 5) rfl)
  have ea6 : Aₚ 56 = A 56 := ha 56 (List.mem_of_getElem? (i := 6) rfl)
  show SL ((Aₚ 49)) ((Fₚ 48 1)) ((Fₚ 48 0)) ((Aₚ 50)) ((Aₚ 51)) ((Aₚ 52)) ((Aₚ 54)) ((Aₚ 55)) ((Aₚ 56))
  rw [ef0, ef1, ea0, ea1, ea2, ea3, ea4, ea5, ea6]
  exact q
abbrev QF4_2 (D N : Nat → Nat) (F : hF) (A : hA) : Prop := SZD (((N 49 : Int))) (((N 50 : Int))) (((N 51 : Int))) (((N 52 : Int))) (((N 53 : Int))) (((N 54 : Int))) (((N 55 : Int))) (((N 56 : Int))) ((F 48 1)) ((F 48 0))
theorem QF4_2_eq {D N Dₚ Nₚ : Nat → Nat} {F Fₚ : hF} {A Aₚ : hA} (h : EQD [(48, 0), (48, 1)] [] [49, 50, 51, 52, 53, 54, 55, 56] [] D N F A Dₚ Nₚ Fₚ Aₚ) (q : QF4_2 D N F A) : QF4_2 Dₚ Nₚ Fₚ Aₚ := by
  obtain ⟨hf, ha, hn, hd⟩ := h
  have ef0 : Fₚ 48 0 = F 48 0 := hf (48, 0) (List.mem_of_getElem? (i := 0) rfl)
  have ef1 : Fₚ 48 1 = F 48 1 := hf (48, 1) (List.mem_of_getElem? (i := 1) rfl)
  have en0 : Nₚ 49 = N 49 := hn 49 (List.mem_of_getElem? (i := 0) rfl)
  have en1 : Nₚ 50 = N 50 := hn 50 (List.mem_of_getElem? (i := 1) rfl)
  have en2 : Nₚ 51 = N 51 := hn 51 (List.mem_of_getElem? (i := 2) rfl)
  have en3 : Nₚ 52 = N 52 := hn 52 (List.mem_of_getElem? (i := 3) rfl)
  have en4 : Nₚ 53 = N 53 := hn 53 (List.mem_of_getElem? (i := 4) rfl)
  have en5 : Nₚ 54 = N 54 := hn 54 (List.mem_of_getElem? (i := 5) rfl)
  have en6 : Nₚ 55 = N 55 := hn 55 (List.mem_of_getElem? (i := 6) rfl)
  have en7 : Nₚ 56 = N 56 := hn 56 (List.mem_of_getElem? (i := 7) rfl)
  show SZD (((Nₚ 49 : Int))) (((Nₚ 50 : Int))) (((Nₚ 51 : Int))) (((Nₚ 52 : Int))) (((Nₚ 53 : Int))) (((Nₚ 54 : Int))) (((Nₚ 55 : Int))) (((Nₚ 56 : Int))) ((Fₚ 48 1)) ((Fₚ 48 0))
  rw [ef0, ef1, en0, en1, en2, en3, en4, en5, en6, en7]
  exact q
abbrev QF4_3 (D N : Nat → Nat) (F : hF) (A : hA) : Prop := (F 48 1) ≤ 36
theorem QF4_3_eq {D N Dₚ Nₚ : Nat → Nat} {F Fₚ : hF} {A Aₚ : hA} (h : EQD [(48, 1)] [] [] [] D N F A Dₚ Nₚ Fₚ Aₚ) (q : QF4_3 D N F A) : QF4_3 Dₚ Nₚ Fₚ Aₚ := by
  obtain ⟨hf, ha, hn, hd⟩ := h
  have ef0 : Fₚ 48 1 = F 48 1 := hf (48, 1) (List.mem_of_getElem? (i := 0) rfl)
  show (Fₚ 48 1) ≤ 36
  rw [ef0]
  exact q
abbrev QF4_4 (D N : Nat → Nat) (F : hF) (A : hA) : Prop := SL ((A 58)) ((F 57 1)) ((F 57 0)) ((A 59)) ((A 60)) ((A 61)) ((A 63)) ((A 64)) ((A 65))
theorem QF4_4_eq {D N Dₚ Nₚ : Nat → Nat} {F Fₚ : hF} {A Aₚ : hA} (h : EQD [(57, 0), (57, 1)] [58, 59, 60, 61, 63, 64, 65] [] [] D N F A Dₚ Nₚ Fₚ Aₚ) (q : QF4_4 D N F A) : QF4_4 Dₚ Nₚ Fₚ Aₚ := by
  obtain ⟨hf, ha, hn, hd⟩ := h
  have ef0 : Fₚ 57 0 = F 57 0 := hf (57, 0) (List.mem_of_getElem? (i := 0) rfl)
  have ef1 : Fₚ 57 1 = F 57 1 := hf (57, 1) (List.mem_of_getElem? (i := 1) rfl)
  have ea0 : Aₚ 58 = A 58 := ha 58 (List.mem_of_getElem? (i := 0) rfl)
  have ea1 : Aₚ 59 = A 59 := ha 59 (List.mem_of_getElem? (i := 1) rfl)
  have ea2 : Aₚ 60 = A 60 := ha 60 (List.mem_of_getElem? (i := 2) rfl)
  have ea3 : Aₚ 61 = A 61 := ha 61 (List.mem_of_getElem? (i := 3) rfl)
  have ea4 : Aₚ 63 = A 63 := ha 63 (List.mem_of_getElem? (i := 4) rfl)
  have ea5 : Aₚ 64 = A 64 := ha 64 (List.mem_of_getElem? (i := 5) rfl)
  have ea6 : Aₚ 65 = A 65 := ha 65 (List.mem_of_getElem? (i := 6) rfl)
  show SL ((Aₚ 58)) ((Fₚ 57 1)) ((Fₚ 57 0)) ((Aₚ 59)) ((Aₚ 60)) ((Aₚ 61)) ((Aₚ 63)) ((Aₚ 64)) ((Aₚ 65))
  rw [ef0, ef1, ea0, ea1, ea2, ea3, ea4, ea5, ea6]
  exact q
abbrev QF4_5 (D N : Nat → Nat) (F : hF) (A : hA) : Prop := SZD (((N 58 : Int))) (((N 59 : Int))) (((N 60 : Int))) (((N 61 : Int))) (((N 62 : Int))) (((N 63 : Int))) (((N 64 : Int))) (((N 65 : Int))) ((F 57 1)) ((F 57 0))
theorem QF4_5_eq {D N Dₚ Nₚ : Nat → Nat} {F Fₚ : hF} {A Aₚ : hA} (h : EQD [(57, 0), (57, 1)] [] [58, 59, 60, 61, 62, 63, 64, 65] [] D N F A Dₚ Nₚ Fₚ Aₚ) (q : QF4_5 D N F A) : QF4_5 Dₚ Nₚ Fₚ Aₚ := by
  obtain ⟨hf, ha, hn, hd⟩ := h
  have ef0 : Fₚ 57 0 = F 57 0 := hf (57, 0) (List.mem_of_getElem? (i := 0) rfl)
  have ef1 : Fₚ 57 1 = F 57 1 := hf (57, 1) (List.mem_of_getElem? (i := 1) rfl)
  have en0 : Nₚ 58 = N 58 := hn 58 (List.mem_of_getElem? (i := 0) rfl)
  have en1 : Nₚ 59 = N 59 := hn 59 (List.mem_of_getElem? (i := 1) rfl)
  have en2 : Nₚ 60 = N 60 := hn 60 (List.mem_of_getElem? (i := 2) rfl)
  have en3 : Nₚ 61 = N 61 := hn 61 (List.mem_of_getElem? (i := 3) rfl)
  have en4 : Nₚ 62 = N 62 := hn 62 (List.mem_of_getElem? (i := 4) rfl)
  have en5 : Nₚ 63 = N 63 := hn 63 (List.mem_of_getElem? (i := 5) rfl)
  have en6 : Nₚ 64 = N 64 := hn 64 (List.mem_of_getElem? (i := 6) rfl)
  have en7 : Nₚ 65 = N 65 := hn 65 (List.mem_of_getElem? (i := 7) rfl)
  show SZD (((Nₚ 58 : Int))) (((Nₚ 59 : Int))) (((Nₚ 60 : Int))) (((Nₚ 61 : Int))) (((Nₚ 62 : Int))) (((Nₚ 63 : Int))) (((Nₚ 64 : Int))) (((Nₚ 65 : Int))) ((Fₚ 57 1)) ((Fₚ 57 0))
  rw [ef0, ef1, en0, en1, en2, en3, en4, en5, en6, en7]
  exact q
abbrev QF4_6 (D N : Nat → Nat) (F : hF) (A : hA) : Prop := (F 57 1) ≤ 32
theorem QF4_6_eq {D N Dₚ Nₚ : Nat → Nat} {F Fₚ : hF} {A Aₚ : hA} (h : EQD [(57, 1)] [] [] [] D N F A Dₚ Nₚ Fₚ Aₚ) (q : QF4_6 D N F A) : QF4_6 Dₚ Nₚ Fₚ Aₚ := by
  obtain ⟨hf, ha, hn, hd⟩ := h
  have ef0 : Fₚ 57 1 = F 57 1 := hf (57, 1) (List.mem_of_getElem? (i := 0) rfl)
  show (Fₚ 57 1) ≤ 32
  rw [ef0]
  exact q
abbrev QF4_7 (D N : Nat → Nat) (F : hF) (A : hA) : Prop := SL ((A 67)) ((F 66 1)) ((F 66 0)) ((A 68)) ((A 69)) ((A 70)) ((A 72)) ((A 73)) ((A 74))
theorem QF4_7_eq {D N Dₚ Nₚ : Nat → Nat} {F Fₚ : hF} {A Aₚ : hA} (h : EQD [(66, 0), (66, 1)] [67, 68, 69, 70, 72, 73, 74] [] [] D N F A Dₚ Nₚ Fₚ Aₚ) (q : QF4_7 D N F A) : QF4_7 Dₚ Nₚ Fₚ Aₚ := by
  obtain ⟨hf, ha, hn, hd⟩ := h
  have ef0 : Fₚ 66 0 = F 66 0 := hf (66, 0) (List.mem_of_getElem? (i := 0) rfl)
  have ef1 : Fₚ 66 1 = F 66 1 := hf (66, 1) (List.mem_of_getElem? (i := 1) rfl)
  have ea0 : Aₚ 67 = A 67 := ha 67 (List.mem_of_getElem? (i := 0) rfl)
  have ea1 : Aₚ 68 = A 68 := ha 68 (List.mem_of_getElem? (i := 1) rfl)
  have ea2 : Aₚ 69 = A 69 := ha 69 (List.mem_of_getElem? (i := 2) rfl)
  have ea3 : Aₚ 70 = A 70 := ha 70 (List.mem_of_getElem? (i := 3) rfl)
  have ea4 : Aₚ 72 = A 72 := ha 72 (List.mem_of_getElem? (i := 4) rfl)
  have ea5 : Aₚ 73 = A 73 := ha 73 (List.mem_of_getElem? (i := 5) rfl)
  have ea6 : Aₚ 74 = A 74 := ha 74 (List.mem_of_getElem? (i := 6) rfl)
  show SL ((Aₚ 67)) ((Fₚ 66 1)) ((Fₚ 66 0)) ((Aₚ 68)) ((Aₚ 69)) ((Aₚ 70)) ((Aₚ 72)) ((Aₚ 73)) ((Aₚ 74))
  rw [ef0, ef1, ea0, ea1, ea2, ea3, ea4, ea5, ea6]
  exact q
abbrev QF4_8 (D N : Nat → Nat) (F : hF) (A : hA) : Prop := SZD (((N 67 : Int))) (((N 68 : Int))) (((N 69 : Int))) (((N 70 : Int))) (((N 71 : Int))) (((N 72 : Int))) (((N 73 : Int))) (((N 74 : Int))) ((F 66 1)) ((F 66 0))
theorem QF4_8_eq {D N Dₚ Nₚ : Nat → Nat} {F Fₚ : hF} {A Aₚ : hA} (h : EQD [(66, 0), (66, 1)] [] [67, 68, 69, 70, 71, 72, 73, 74] [] D N F A Dₚ Nₚ Fₚ Aₚ) (q : QF4_8 D N F A) : QF4_8 Dₚ Nₚ Fₚ Aₚ := by
  obtain ⟨hf, ha, hn, hd⟩ := h
  have ef0 : Fₚ 66 0 = F 66 0 := hf (66, 0) (List.mem_of_getElem? (i := 0) rfl)
  have ef1 : Fₚ 66 1 = F 66 1 := hf (66, 1) (List.mem_of_getElem? (i := 1) rfl)
  have en0 : Nₚ 67 = N 67 := hn 67 (List.mem_of_getElem? (i := 0) rfl)
  have en1 : Nₚ 68 = N 68 := hn 68 (List.mem_of_getElem? (i := 1) rfl)
  have en2 : Nₚ 69 = N 69 := hn 69 (List.mem_of_getElem? (i := 2) rfl)
  have en3 : Nₚ 70 = N 70 := hn 70 (List.mem_of_getElem? (i := 3) rfl)
  have en4 : Nₚ 71 = N 71 := hn 71 (List.mem_of_getElem? (i := 4) rfl)
  have en5 : Nₚ 72 = N 72 := hn 72 (List.mem_of_getElem? (i := 5) rfl)
  have en6 : Nₚ 73 = N 73 := hn 73 (List.mem_of_getElem? (i := 6) rfl)
  have en7 : Nₚ 74 = N 74 := hn 74 (List.mem_of_getElem? (i := 7) rfl)
  show SZD (((Nₚ 67 : Int))) (((Nₚ 68 : Int))) (((Nₚ 69 : Int))) (((Nₚ 70 : Int))) (((Nₚ 71 : Int))) (((Nₚ 72 : Int))) (((Nₚ 73 : Int))) (((Nₚ 74 : Int))) ((Fₚ 66 1)) ((Fₚ 66 0))
  rw [ef0, ef1, en0, en1, en2, en3, en4, en5, en6, en7]
  exact q
abbrev QF4_9 (D N : Nat → Nat) (F : hF) (A : hA) : Prop := (F 66 1) ≤ 53
theorem QF4_9_eq {D N Dₚ Nₚ : Nat → Nat} {F Fₚ : hF} {A Aₚ : hA} (h : EQD [(66, 1)] [] [] [] D N F A Dₚ Nₚ Fₚ Aₚ) (q : QF4_9 D N F A) : QF4_9 Dₚ Nₚ Fₚ Aₚ := by
  obtain ⟨hf, ha, hn, hd⟩ := h
  have ef0 : Fₚ 66 1 = F 66 1 := hf (66, 1) (List.mem_of_getElem? (i := 0) rfl)
  show (Fₚ 66 1) ≤ 53
  rw [ef0]
  exact q
abbrev QF4_10 (D N : Nat → Nat) (F : hF) (A : hA) : Prop := SHX (KNX 0) ((F 48 0)) ((F 48 1)) ((A 49))
theorem QF4_10_eq {D N Dₚ Nₚ : Nat → Nat} {F Fₚ : hF} {A Aₚ : hA} (h : EQD [(48, 0), (48, 1)] [49] [] [] D N F A Dₚ Nₚ Fₚ Aₚ) (q : QF4_10 D N F A) : QF4_10 Dₚ Nₚ Fₚ Aₚ := by
  obtain ⟨hf, ha, hn, hd⟩ := h
  have ef0 : Fₚ 48 0 = F 48 0 := hf (48, 0) (List.mem_of_getElem? (i := 0) rfl)
  have ef1 : Fₚ 48 1 = F 48 1 := hf (48, 1) (List.mem_of_getElem? (i := 1) rfl)
  have ea0 : Aₚ 49 = A 49 := ha 49 (List.mem_of_getElem? (i := 0) rfl)
  show SHX (KNX 0) ((Fₚ 48 0)) ((Fₚ 48 1)) ((Aₚ 49))
  rw [ef0, ef1, ea0]
  exact q
abbrev QF4_11 (D N : Nat → Nat) (F : hF) (A : hA) : Prop := SHX (KNX 1) ((F 57 0)) ((F 57 1)) ((A 58))
theorem QF4_11_eq {D N Dₚ Nₚ : Nat → Nat} {F Fₚ : hF} {A Aₚ : hA} (h : EQD [(57, 0), (57, 1)] [58] [] [] D N F A Dₚ Nₚ Fₚ Aₚ) (q : QF4_11 D N F A) : QF4_11 Dₚ Nₚ Fₚ Aₚ := by
  obtain ⟨hf, ha, hn, hd⟩ := h
  have ef0 : Fₚ 57 0 = F 57 0 := hf (57, 0) (List.mem_of_getElem? (i := 0) rfl)
  have ef1 : Fₚ 57 1 = F 57 1 := hf (57, 1) (List.mem_of_getElem? (i := 1) rfl)
  have ea0 : Aₚ 58 = A 58 := ha 58 (List.mem_of_getElem? (i := 0) rfl)
  show SHX (KNX 1) ((Fₚ 57 0)) ((Fₚ 57 1)) ((Aₚ 58))
  rw [ef0, ef1, ea0]
  exact q
abbrev QF4_12 (D N : Nat → Nat) (F : hF) (A : hA) : Prop := SHX (KNX 2) ((F 66 0)) ((F 66 1)) ((A 67))
theorem QF4_12_eq {D N Dₚ Nₚ : Nat → Nat} {F Fₚ : hF} {A Aₚ : hA} (h : EQD [(66, 0), (66, 1)] [67] [] [] D N F A Dₚ Nₚ Fₚ Aₚ) (q : QF4_12 D N F A) : QF4_12 Dₚ Nₚ Fₚ Aₚ := by
  obtain ⟨hf, ha, hn, hd⟩ := h
  have ef0 : Fₚ 66 0 = F 66 0 := hf (66, 0) (List.mem_of_getElem? (i := 0) rfl)
  have ef1 : Fₚ 66 1 = F 66 1 := hf (66, 1) (List.mem_of_getElem? (i := 1) rfl)
  have ea0 : Aₚ 67 = A 67 := ha 67 (List.mem_of_getElem? (i := 0) rfl)
  show SHX (KNX 2) ((Fₚ 66 0)) ((Fₚ 66 1)) ((Aₚ 67))
  rw [ef0, ef1, ea0]
  exact q
def INV4 (D N : Nat → Nat) (F : hF) (A : hA) : Prop := QF4_0 D N F A ∧ QF4_1 D N F A ∧ QF4_2 D N F A ∧ QF4_3 D N F A ∧ QF4_4 D N F A ∧ QF4_5 D N F A ∧ QF4_6 D N F A ∧ QF4_7 D N F A ∧ QF4_8 D N F A ∧ QF4_9 D N F A ∧ QF4_10 D N F A ∧ QF4_11 D N F A ∧ QF4_12 D N F A
theorem INV4_eq {D N Dₚ Nₚ : Nat → Nat} {F Fₚ : hF} {A Aₚ : hA} (h : EQD [(48, 0), (48, 1), (57, 0), (57, 1), (66, 0), (66, 1)] [49, 50, 51, 52, 54, 55, 56, 58, 59, 60, 61, 63, 64, 65, 67, 68, 69, 70, 72, 73, 74] [47, 49, 50, 51, 52, 53, 54, 55, 56, 58, 59, 60, 61, 62, 63, 64, 65, 67, 68, 69, 70, 71, 72, 73, 74] [] D N F A Dₚ Nₚ Fₚ Aₚ) (q : INV4 D N F A) : INV4 Dₚ Nₚ Fₚ Aₚ := ⟨QF4_0_eq (EQD_sub (by decide +kernel) h) q.1, QF4_1_eq (EQD_sub (by decide +kernel) h) q.2.1, QF4_2_eq (EQD_sub (by decide +kernel) h) q.2.2.1, QF4_3_eq (EQD_sub (by decide +kernel) h) q.2.2.2.1, QF4_4_eq (EQD_sub (by decide +kernel) h) q.2.2.2.2.1, QF4_5_eq (EQD_sub (by decide +kernel) h) q.2.2.2.2.2.1, QF4_6_eq (EQD_sub (by decide +kernel) h) q.2.2.2.2.2.2.1, QF4_7_eq (EQD_sub (by decide +kernel) h) q.2.2.2.2.2.2.2.1, QF4_8_eq (EQD_sub (by decide +kernel) h) q.2.2.2.2.2.2.2.2.1, QF4_9_eq (EQD_sub (by decide +kernel) h) q.2.2.2.2.2.2.2.2.2.1, QF4_10_eq (EQD_sub (by decide +kernel) h) q.2.2.2.2.2.2.2.2.2.2.1, QF4_11_eq (EQD_sub (by decide +kernel) h) q.2.2.2.2.2.2.2.2.2.2.2.1, QF4_12_eq (EQD_sub (by decide +kernel) h) q.2.2.2.2.2.2.2.2.2.2.2.2⟩
abbrev QF5_0 (D N : Nat → Nat) (F : hF) (A : hA) : Prop := 0 ≤ (F 185 1) ∧ (F 185 1) ≤ ((N 186 : Int)) ∧ ((N 186 : Int)) ≤ 65536
theorem QF5_0_eq {D N Dₚ Nₚ : Nat → Nat} {F Fₚ : hF} {A Aₚ : hA} (h : EQD [(185, 1)] [] [186] [] D N F A Dₚ Nₚ Fₚ Aₚ) (q : QF5_0 D N F A) : QF5_0 Dₚ Nₚ Fₚ Aₚ := by
  obtain ⟨hf, ha, hn, hd⟩ := h
  have ef0 : Fₚ 185 1 = F 185 1 := hf (185, 1) (List.mem_of_getElem? (i := 0) rfl)
  have en0 : Nₚ 186 = N 186 := hn 186 (List.mem_of_getElem? (i := 0) rfl)
  show 0 ≤ (Fₚ 185 1) ∧ (Fₚ 185 1) ≤ ((Nₚ 186 : Int)) ∧ ((Nₚ 186 : Int)) ≤ 65536
  rw [ef0, en0]
  exact q
abbrev QF5_1 (D N : Nat → Nat) (F : hF) (A : hA) : Prop := 0 ≤ (F 187 1) ∧ (F 187 1) ≤ ((N 188 : Int)) ∧ ((N 188 : Int)) ≤ 65536
theorem QF5_1_eq {D N Dₚ Nₚ : Nat → Nat} {F Fₚ : hF} {A Aₚ : hA} (h : EQD [(187, 1)] [] [188] [] D N F A Dₚ Nₚ Fₚ Aₚ) (q : QF5_1 D N F A) : QF5_1 Dₚ Nₚ Fₚ Aₚ := by
  obtain ⟨hf, ha, hn, hd⟩ := h
  have ef0 : Fₚ 187 1 = F 187 1 := hf (187, 1) (List.mem_of_getElem? (i := 0) rfl)
  have en0 : Nₚ 188 = N 188 := hn 188 (List.mem_of_getElem? (i := 0) rfl)
  show 0 ≤ (Fₚ 187 1) ∧ (Fₚ 187 1) ≤ ((Nₚ 188 : Int)) ∧ ((Nₚ 188 : Int)) ≤ 65536
  rw [ef0, en0]
  exact q
abbrev QF5_2 (D N : Nat → Nat) (F : hF) (A : hA) : Prop := 0 ≤ (F 189 1) ∧ (F 189 1) ≤ ((N 190 : Int)) ∧ ((N 190 : Int)) ≤ 65536
theorem QF5_2_eq {D N Dₚ Nₚ : Nat → Nat} {F Fₚ : hF} {A Aₚ : hA} (h : EQD [(189, 1)] [] [190] [] D N F A Dₚ Nₚ Fₚ Aₚ) (q : QF5_2 D N F A) : QF5_2 Dₚ Nₚ Fₚ Aₚ := by
  obtain ⟨hf, ha, hn, hd⟩ := h
  have ef0 : Fₚ 189 1 = F 189 1 := hf (189, 1) (List.mem_of_getElem? (i := 0) rfl)
  have en0 : Nₚ 190 = N 190 := hn 190 (List.mem_of_getElem? (i := 0) rfl)
  show 0 ≤ (Fₚ 189 1) ∧ (Fₚ 189 1) ≤ ((Nₚ 190 : Int)) ∧ ((Nₚ 190 : Int)) ≤ 65536
  rw [ef0, en0]
  exact q
abbrev QF5_3 (D N : Nat → Nat) (F : hF) (A : hA) : Prop := ((N 191 : Int)) = 256 ∧ ((N 192 : Int)) = 53 ∧ ((N 199 : Int)) = 13 ∧ ((N 198 : Int)) = 3 ∧ ((N 76 : Int)) = 2 ∧ ((N 180 : Int)) = 3 ∧ ((N 181 : Int)) = 3 ∧ ((N 183 : Int)) = 3 ∧ ((N 184 : Int)) = 3 ∧ ((N 123 : Int)) = 3 ∧ ((N 151 : Int)) = 3
theorem QF5_3_eq {D N Dₚ Nₚ : Nat → Nat} {F Fₚ : hF} {A Aₚ : hA} (h : EQD [] [] [76, 123, 151, 180, 181, 183, 184, 191, 192, 198, 199] [] D N F A Dₚ Nₚ Fₚ Aₚ) (q : QF5_3 D N F A) : QF5_3 Dₚ Nₚ Fₚ Aₚ := by
  obtain ⟨hf, ha, hn, hd⟩ := h
  have en0 : Nₚ 76 = N 76 := hn 76 (List.mem_of_getElem? (i := 0) rfl)
  have en1 : Nₚ 123 = N 123 := hn 123 (List.mem_of_getElem? (i := 1) rfl)
  have en2 : Nₚ 151 = N 151 := hn 151 (List.mem_of_getElem? (i := 2) rfl)
  have en3 : Nₚ 180 = N 180 := hn 180 (List.mem_of_getElem? (i := 3) rfl)
  have en4 : Nₚ 181 = N 181 := hn 181 (List.mem_of_getElem? (i := 4) rfl)
  have en5 : Nₚ 183 = N 183 := hn 183 (List.mem_of_getElem? (i := 5) rfl)
  have en6 : Nₚ 184 = N 184 := hn 184 (List.mem_of_getElem? (i := 6) rfl)
  have en7 : Nₚ 191 = N 191 := hn 191 (List.mem_of_getElem? (i := 7) rfl)
  have en8 : Nₚ 192 = N 192 := hn 192 (List.mem_of_getElem? (i := 8) rfl)
  have en9 : Nₚ 198 = N 198 := hn 198 (List.mem_of_getElem? (i := 9) rfl)
  have en10 : Nₚ 199 = N 199 := hn 199 (List.mem_of_getElem? (i := 10) rfl)
  show ((Nₚ 191 : Int)) = 256 ∧ ((Nₚ 192 : Int)) = 53 ∧ ((Nₚ 199 : Int)) = 13 ∧ ((Nₚ 198 : Int)) = 3 ∧ ((Nₚ 76 : Int)) = 2 ∧ ((Nₚ 180 : Int)) = 3 ∧ ((Nₚ 181 : Int)) = 3 ∧ ((Nₚ 183 : Int)) = 3 ∧ ((Nₚ 184 : Int)) = 3 ∧ ((Nₚ 123 : Int)) = 3 ∧ ((Nₚ 151 : Int)) = 3
  rw [en0, en1, en2, en3, en4, en5, en6, en7, en8, en9, en10]
  exact q
abbrev QF5_4 (D N : Nat → Nat) (F : hF) (A : hA) : Prop := ((N 193 : Int)) = 3 ∧ ((N 194 : Int)) = ((N 197 : Int)) ∧ ((N 195 : Int)) = ((N 197 : Int)) ∧ ((N 196 : Int)) = ((N 197 : Int)) ∧ lgq (((N 197 : Int))) = 0 ∧ ((N 197 : Int)) ≤ 16384
theorem QF5_4_eq {D N Dₚ Nₚ : Nat → Nat} {F Fₚ : hF} {A Aₚ : hA} (h : EQD [] [] [193, 194, 195, 196, 197] [] D N F A Dₚ Nₚ Fₚ Aₚ) (q : QF5_4 D N F A) : QF5_4 Dₚ Nₚ Fₚ Aₚ := by
  obtain ⟨hf, ha, hn, hd⟩ := h
  have en0 : Nₚ 193 = N 193 := hn 193 (List.mem_of_getElem? (i := 0) rfl)
  have en1 : Nₚ 194 = N 194 := hn 194 (List.mem_of_getElem? (i := 1) rfl)
  have en2 : Nₚ 195 = N 195 := hn 195 (List.mem_of_getElem? (i := 2) rfl)
  have en3 : Nₚ 196 = N 196 := hn 196 (List.mem_of_getElem? (i := 3) rfl)
  have en4 : Nₚ 197 = N 197 := hn 197 (List.mem_of_getElem? (i := 4) rfl)
  show ((Nₚ 193 : Int)) = 3 ∧ ((Nₚ 194 : Int)) = ((Nₚ 197 : Int)) ∧ ((Nₚ 195 : Int)) = ((Nₚ 197 : Int)) ∧ ((Nₚ 196 : Int)) = ((Nₚ 197 : Int)) ∧ lgq (((Nₚ 197 : Int))) = 0 ∧ ((Nₚ 197 : Int)) ≤ 16384
  rw [en0, en1, en2, en3, en4]
  exact q
abbrev QF5_5 (D N : Nat → Nat) (F : hF) (A : hA) : Prop := CDZD (((N 78 : Int))) (((N 79 : Int))) (((N 80 : Int))) (((N 81 : Int))) (((N 82 : Int))) (((N 97 : Int))) (((N 98 : Int))) (((N 99 : Int)))
theorem QF5_5_eq {D N Dₚ Nₚ : Nat → Nat} {F Fₚ : hF} {A Aₚ : hA} (h : EQD [] [] [78, 79, 80, 81, 82, 97, 98, 99] [] D N F A Dₚ Nₚ Fₚ Aₚ) (q : QF5_5 D N F A) : QF5_5 Dₚ Nₚ Fₚ Aₚ := by
  obtain ⟨hf, ha, hn, hd⟩ := h
  have en0 : Nₚ 78 = N 78 := hn 78 (List.mem_of_getElem? (i := 0) rfl)
  have en1 : Nₚ 79 = N 79 := hn 79 (List.mem_of_getElem? (i := 1) rfl)
  have en2 : Nₚ 80 = N 80 := hn 80 (List.mem_of_getElem? (i := 2) rfl)
  have en3 : Nₚ 81 = N 81 := hn 81 (List.mem_of_getElem? (i := 3) rfl)
  have en4 : Nₚ 82 = N 82 := hn 82 (List.mem_of_getElem? (i := 4) rfl)
  have en5 : Nₚ 97 = N 97 := hn 97 (List.mem_of_getElem? (i := 5) rfl)
  have en6 : Nₚ 98 = N 98 := hn 98 (List.mem_of_getElem? (i := 6) rfl)
  have en7 : Nₚ 99 = N 99 := hn 99 (List.mem_of_getElem? (i := 7) rfl)
  show CDZD (((Nₚ 78 : Int))) (((Nₚ 79 : Int))) (((Nₚ 80 : Int))) (((Nₚ 81 : Int))) (((Nₚ 82 : Int))) (((Nₚ 97 : Int))) (((Nₚ 98 : Int))) (((Nₚ 99 : Int)))
  rw [en0, en1, en2, en3, en4, en5, en6, en7]
  exact q
abbrev QF5_6 (D N : Nat → Nat) (F : hF) (A : hA) : Prop := SHZD (((N 84 : Int))) (((N 85 : Int))) (((N 86 : Int))) (((N 87 : Int))) (((N 88 : Int))) (((N 89 : Int))) (((N 90 : Int))) (((N 91 : Int))) ((F 83 1)) 12 64
theorem QF5_6_eq {D N Dₚ Nₚ : Nat → Nat} {F Fₚ : hF} {A Aₚ : hA} (h : EQD [(83, 1)] [] [84, 85, 86, 87, 88, 89, 90, 91] [] D N F A Dₚ Nₚ Fₚ Aₚ) (q : QF5_6 D N F A) : QF5_6 Dₚ Nₚ Fₚ Aₚ := by
  obtain ⟨hf, ha, hn, hd⟩ := h
  have ef0 : Fₚ 83 1 = F 83 1 := hf (83, 1) (List.mem_of_getElem? (i := 0) rfl)
  have en0 : Nₚ 84 = N 84 := hn 84 (List.mem_of_getElem? (i := 0) rfl)
  have en1 : Nₚ 85 = N 85 := hn 85 (List.mem_of_getElem? (i := 1) rfl)
  have en2 : Nₚ 86 = N 86 := hn 86 (List.mem_of_getElem? (i := 2) rfl)
  have en3 : Nₚ 87 = N 87 := hn 87 (List.mem_of_getElem? (i := 3) rfl)
  have en4 : Nₚ 88 = N 88 := hn 88 (List.mem_of_getElem? (i := 4) rfl)
  have en5 : Nₚ 89 = N 89 := hn 89 (List.mem_of_getElem? (i := 5) rfl)
  have en6 : Nₚ 90 = N 90 := hn 90 (List.mem_of_getElem? (i := 6) rfl)
  have en7 : Nₚ 91 = N 91 := hn 91 (List.mem_of_getElem? (i := 7) rfl)
  show SHZD (((Nₚ 84 : Int))) (((Nₚ 85 : Int))) (((Nₚ 86 : Int))) (((Nₚ 87 : Int))) (((Nₚ 88 : Int))) (((Nₚ 89 : Int))) (((Nₚ 90 : Int))) (((Nₚ 91 : Int))) ((Fₚ 83 1)) 12 64
  rw [ef0, en0, en1, en2, en3, en4, en5, en6, en7]
  exact q
abbrev QF5_7 (D N : Nat → Nat) (F : hF) (A : hA) : Prop := 0 ≤ (F 92 1) ∧ (F 92 1) ≤ ((N 93 : Int)) ∧ ((N 93 : Int)) ≤ 65536
theorem QF5_7_eq {D N Dₚ Nₚ : Nat → Nat} {F Fₚ : hF} {A Aₚ : hA} (h : EQD [(92, 1)] [] [93] [] D N F A Dₚ Nₚ Fₚ Aₚ) (q : QF5_7 D N F A) : QF5_7 Dₚ Nₚ Fₚ Aₚ := by
  obtain ⟨hf, ha, hn, hd⟩ := h
  have ef0 : Fₚ 92 1 = F 92 1 := hf (92, 1) (List.mem_of_getElem? (i := 0) rfl)
  have en0 : Nₚ 93 = N 93 := hn 93 (List.mem_of_getElem? (i := 0) rfl)
  show 0 ≤ (Fₚ 92 1) ∧ (Fₚ 92 1) ≤ ((Nₚ 93 : Int)) ∧ ((Nₚ 93 : Int)) ≤ 65536
  rw [ef0, en0]
  exact q
abbrev QF5_8 (D N : Nat → Nat) (F : hF) (A : hA) : Prop := 0 ≤ (F 94 1) ∧ (F 94 1) ≤ ((N 95 : Int)) ∧ ((N 95 : Int)) ≤ 65536
theorem QF5_8_eq {D N Dₚ Nₚ : Nat → Nat} {F Fₚ : hF} {A Aₚ : hA} (h : EQD [(94, 1)] [] [95] [] D N F A Dₚ Nₚ Fₚ Aₚ) (q : QF5_8 D N F A) : QF5_8 Dₚ Nₚ Fₚ Aₚ := by
  obtain ⟨hf, ha, hn, hd⟩ := h
  have ef0 : Fₚ 94 1 = F 94 1 := hf (94, 1) (List.mem_of_getElem? (i := 0) rfl)
  have en0 : Nₚ 95 = N 95 := hn 95 (List.mem_of_getElem? (i := 0) rfl)
  show 0 ≤ (Fₚ 94 1) ∧ (Fₚ 94 1) ≤ ((Nₚ 95 : Int)) ∧ ((Nₚ 95 : Int)) ≤ 65536
  rw [ef0, en0]
  exact q
abbrev QF5_9 (D N : Nat → Nat) (F : hF) (A : hA) : Prop := CEL ((A 80))
theorem QF5_9_eq {D N Dₚ Nₚ : Nat → Nat} {F Fₚ : hF} {A Aₚ : hA} (h : EQD [] [80] [] [] D N F A Dₚ Nₚ Fₚ Aₚ) (q : QF5_9 D N F A) : QF5_9 Dₚ Nₚ Fₚ Aₚ := by
  obtain ⟨hf, ha, hn, hd⟩ := h
  have ea0 : Aₚ 80 = A 80 := ha 80 (List.mem_of_getElem? (i := 0) rfl)
  show CEL ((Aₚ 80))
  rw [ea0]
  exact q
abbrev QF5_10 (D N : Nat → Nat) (F : hF) (A : hA) : Prop := CDZD (((N 101 : Int))) (((N 102 : Int))) (((N 103 : Int))) (((N 104 : Int))) (((N 105 : Int))) (((N 120 : Int))) (((N 121 : Int))) (((N 122 : Int)))
theorem QF5_10_eq {D N Dₚ Nₚ : Nat → Nat} {F Fₚ : hF} {A Aₚ : hA} (h : EQD [] [] [101, 102, 103, 104, 105, 120, 121, 122] [] D N F A Dₚ Nₚ Fₚ Aₚ) (q : QF5_10 D N F A) : QF5_10 Dₚ Nₚ Fₚ Aₚ := by
  obtain ⟨hf, ha, hn, hd⟩ := h
  have en0 : Nₚ 101 = N 101 := hn 101 (List.mem_of_getElem? (i := 0) rfl)
  have en1 : Nₚ 102 = N 102 := hn 102 (List.mem_of_getElem? (i := 1) rfl)
  have en2 : Nₚ 103 = N 103 := hn 103 (List.mem_of_getElem? (i := 2) rfl)
  have en3 : Nₚ 104 = N 104 := hn 104 (List.mem_of_getElem? (i := 3) rfl)
  have en4 : Nₚ 105 = N 105 := hn 105 (List.mem_of_getElem? (i := 4) rfl)
  have en5 : Nₚ 120 = N 120 := hn 120 (List.mem_of_getElem? (i := 5) rfl)
  have en6 : Nₚ 121 = N 121 := hn 121 (List.mem_of_getElem? (i := 6) rfl)
  have en7 : Nₚ 122 = N 122 := hn 122 (List.mem_of_getElem? (i := 7) rfl)
  show CDZD (((Nₚ 101 : Int))) (((Nₚ 102 : Int))) (((Nₚ 103 : Int))) (((Nₚ 104 : Int))) (((Nₚ 105 : Int))) (((Nₚ 120 : Int))) (((Nₚ 121 : Int))) (((Nₚ 122 : Int)))
  rw [en0, en1, en2, en3, en4, en5, en6, en7]
  exact q
abbrev QF5_11 (D N : Nat → Nat) (F : hF) (A : hA) : Prop := SHZD (((N 107 : Int))) (((N 108 : Int))) (((N 109 : Int))) (((N 110 : Int))) (((N 111 : Int))) (((N 112 : Int))) (((N 113 : Int))) (((N 114 : Int))) ((F 106 1)) 12 64
theorem QF5_11_eq {D N Dₚ Nₚ : Nat → Nat} {F Fₚ : hF} {A Aₚ : hA} (h : EQD [(106, 1)] [] [107, 108, 109, 110, 111, 112, 113, 114] [] D N F A Dₚ Nₚ Fₚ Aₚ) (q : QF5_11 D N F A) : QF5_11 Dₚ Nₚ Fₚ Aₚ := by
  obtain ⟨hf, ha, hn, hd⟩ := h
  have ef0 : Fₚ 106 1 = F 106 1 := hf (106, 1) (List.mem_of_getElem? (i := 0) rfl)
  have en0 : Nₚ 107 = N 107 := hn 107 (List.mem_of_getElem? (i := 0) rfl)
  have en1 : Nₚ 108 = N 108 := hn 108 (List.mem_of_getElem? (i := 1) rfl)
  have en2 : Nₚ 109 = N 109 := hn 109 (List.mem_of_getElem? (i := 2) rfl)
  have en3 : Nₚ 110 = N 110 := hn 110 (List.mem_of_getElem? (i := 3) rfl)
  have en4 : Nₚ 111 = N 111 := hn 111 (List.mem_of_getElem? (i := 4) rfl)
  have en5 : Nₚ 112 = N 112 := hn 112 (List.mem_of_getElem? (i := 5) rfl)
  have en6 : Nₚ 113 = N 113 := hn 113 (List.mem_of_getElem? (i := 6) rfl)
  have en7 : Nₚ 114 = N 114 := hn 114 (List.mem_of_getElem? (i := 7) rfl)
  show SHZD (((Nₚ 107 : Int))) (((Nₚ 108 : Int))) (((Nₚ 109 : Int))) (((Nₚ 110 : Int))) (((Nₚ 111 : Int))) (((Nₚ 112 : Int))) (((Nₚ 113 : Int))) (((Nₚ 114 : Int))) ((Fₚ 106 1)) 12 64
  rw [ef0, en0, en1, en2, en3, en4, en5, en6, en7]
  exact q
abbrev QF5_12 (D N : Nat → Nat) (F : hF) (A : hA) : Prop := 0 ≤ (F 115 1) ∧ (F 115 1) ≤ ((N 116 : Int)) ∧ ((N 116 : Int)) ≤ 65536
theorem QF5_12_eq {D N Dₚ Nₚ : Nat → Nat} {F Fₚ : hF} {A Aₚ : hA} (h : EQD [(115, 1)] [] [116] [] D N F A Dₚ Nₚ Fₚ Aₚ) (q : QF5_12 D N F A) : QF5_12 Dₚ Nₚ Fₚ Aₚ := by
  obtain ⟨hf, ha, hn, hd⟩ := h
  have ef0 : Fₚ 115 1 = F 115 1 := hf (115, 1) (List.mem_of_getElem? (i := 0) rfl)
  have en0 : Nₚ 116 = N 116 := hn 116 (List.mem_of_getElem? (i := 0) rfl)
  show 0 ≤ (Fₚ 115 1) ∧ (Fₚ 115 1) ≤ ((Nₚ 116 : Int)) ∧ ((Nₚ 116 : Int)) ≤ 65536
  rw [ef0, en0]
  exact q
abbrev QF5_13 (D N : Nat → Nat) (F : hF) (A : hA) : Prop := 0 ≤ (F 117 1) ∧ (F 117 1) ≤ ((N 118 : Int)) ∧ ((N 118 : Int)) ≤ 65536
theorem QF5_13_eq {D N Dₚ Nₚ : Nat → Nat} {F Fₚ : hF} {A Aₚ : hA} (h : EQD [(117, 1)] [] [118] [] D N F A Dₚ Nₚ Fₚ Aₚ) (q : QF5_13 D N F A) : QF5_13 Dₚ Nₚ Fₚ Aₚ := by
  obtain ⟨hf, ha, hn, hd⟩ := h
  have ef0 : Fₚ 117 1 = F 117 1 := hf (117, 1) (List.mem_of_getElem? (i := 0) rfl)
  have en0 : Nₚ 118 = N 118 := hn 118 (List.mem_of_getElem? (i := 0) rfl)
  show 0 ≤ (Fₚ 117 1) ∧ (Fₚ 117 1) ≤ ((Nₚ 118 : Int)) ∧ ((Nₚ 118 : Int)) ≤ 65536
  rw [ef0, en0]
  exact q
abbrev QF5_14 (D N : Nat → Nat) (F : hF) (A : hA) : Prop := CEL ((A 103))
theorem QF5_14_eq {D N Dₚ Nₚ : Nat → Nat} {F Fₚ : hF} {A Aₚ : hA} (h : EQD [] [103] [] [] D N F A Dₚ Nₚ Fₚ Aₚ) (q : QF5_14 D N F A) : QF5_14 Dₚ Nₚ Fₚ Aₚ := by
  obtain ⟨hf, ha, hn, hd⟩ := h
  have ea0 : Aₚ 103 = A 103 := ha 103 (List.mem_of_getElem? (i := 0) rfl)
  show CEL ((Aₚ 103))
  rw [ea0]
  exact q
abbrev QF5_15 (D N : Nat → Nat) (F : hF) (A : hA) : Prop := SHZD (((N 125 : Int))) (((N 126 : Int))) (((N 127 : Int))) (((N 128 : Int))) (((N 129 : Int))) (((N 130 : Int))) (((N 131 : Int))) (((N 132 : Int))) ((F 124 1)) 36 512
theorem QF5_15_eq {D N Dₚ Nₚ : Nat → Nat} {F Fₚ : hF} {A Aₚ : hA} (h : EQD [(124, 1)] [] [125, 126, 127, 128, 129, 130, 131, 132] [] D N F A Dₚ Nₚ Fₚ Aₚ) (q : QF5_15 D N F A) : QF5_15 Dₚ Nₚ Fₚ Aₚ := by
  obtain ⟨hf, ha, hn, hd⟩ := h
  have ef0 : Fₚ 124 1 = F 124 1 := hf (124, 1) (List.mem_of_getElem? (i := 0) rfl)
  have en0 : Nₚ 125 = N 125 := hn 125 (List.mem_of_getElem? (i := 0) rfl)
  have en1 : Nₚ 126 = N 126 := hn 126 (List.mem_of_getElem? (i := 1) rfl)
  have en2 : Nₚ 127 = N 127 := hn 127 (List.mem_of_getElem? (i := 2) rfl)
  have en3 : Nₚ 128 = N 128 := hn 128 (List.mem_of_getElem? (i := 3) rfl)
  have en4 : Nₚ 129 = N 129 := hn 129 (List.mem_of_getElem? (i := 4) rfl)
  have en5 : Nₚ 130 = N 130 := hn 130 (List.mem_of_getElem? (i := 5) rfl)
  have en6 : Nₚ 131 = N 131 := hn 131 (List.mem_of_getElem? (i := 6) rfl)
  have en7 : Nₚ 132 = N 132 := hn 132 (List.mem_of_getElem? (i := 7) rfl)
  show SHZD (((Nₚ 125 : Int))) (((Nₚ 126 : Int))) (((Nₚ 127 : Int))) (((Nₚ 128 : Int))) (((Nₚ 129 : Int))) (((Nₚ 130 : Int))) (((Nₚ 131 : Int))) (((Nₚ 132 : Int))) ((Fₚ 124 1)) 36 512
  rw [ef0, en0, en1, en2, en3, en4, en5, en6, en7]
  exact q
abbrev QF5_16 (D N : Nat → Nat) (F : hF) (A : hA) : Prop := SHZD (((N 153 : Int))) (((N 154 : Int))) (((N 155 : Int))) (((N 156 : Int))) (((N 157 : Int))) (((N 158 : Int))) (((N 159 : Int))) (((N 160 : Int))) ((F 152 1)) 36 512
theorem QF5_16_eq {D N Dₚ Nₚ : Nat → Nat} {F Fₚ : hF} {A Aₚ : hA} (h : EQD [(152, 1)] [] [153, 154, 155, 156, 157, 158, 159, 160] [] D N F A Dₚ Nₚ Fₚ Aₚ) (q : QF5_16 D N F A) : QF5_16 Dₚ Nₚ Fₚ Aₚ := by
  obtain ⟨hf, ha, hn, hd⟩ := h
  have ef0 : Fₚ 152 1 = F 152 1 := hf (152, 1) (List.mem_of_getElem? (i := 0) rfl)
  have en0 : Nₚ 153 = N 153 := hn 153 (List.mem_of_getElem? (i := 0) rfl)
  have en1 : Nₚ 154 = N 154 := hn 154 (List.mem_of_getElem? (i := 1) rfl)
  have en2 : Nₚ 155 = N 155 := hn 155 (List.mem_of_getElem? (i := 2) rfl)
  have en3 : Nₚ 156 = N 156 := hn 156 (List.mem_of_getElem? (i := 3) rfl)
  have en4 : Nₚ 157 = N 157 := hn 157 (List.mem_of_getElem? (i := 4) rfl)
  have en5 : Nₚ 158 = N 158 := hn 158 (List.mem_of_getElem? (i := 5) rfl)
  have en6 : Nₚ 159 = N 159 := hn 159 (List.mem_of_getElem? (i := 6) rfl)
  have en7 : Nₚ 160 = N 160 := hn 160 (List.mem_of_getElem? (i := 7) rfl)
  show SHZD (((Nₚ 153 : Int))) (((Nₚ 154 : Int))) (((Nₚ 155 : Int))) (((Nₚ 156 : Int))) (((Nₚ 157 : Int))) (((Nₚ 158 : Int))) (((Nₚ 159 : Int))) (((Nₚ 160 : Int))) ((Fₚ 152 1)) 36 512
  rw [ef0, en0, en1, en2, en3, en4, en5, en6, en7]
  exact q
abbrev QF5_17 (D N : Nat → Nat) (F : hF) (A : hA) : Prop := SHZD (((N 134 : Int))) (((N 135 : Int))) (((N 136 : Int))) (((N 137 : Int))) (((N 138 : Int))) (((N 139 : Int))) (((N 140 : Int))) (((N 141 : Int))) ((F 133 1)) 32 256
theorem QF5_17_eq {D N Dₚ Nₚ : Nat → Nat} {F Fₚ : hF} {A Aₚ : hA} (h : EQD [(133, 1)] [] [134, 135, 136, 137, 138, 139, 140, 141] [] D N F A Dₚ Nₚ Fₚ Aₚ) (q : QF5_17 D N F A) : QF5_17 Dₚ Nₚ Fₚ Aₚ := by
  obtain ⟨hf, ha, hn, hd⟩ := h
  have ef0 : Fₚ 133 1 = F 133 1 := hf (133, 1) (List.mem_of_getElem? (i := 0) rfl)
  have en0 : Nₚ 134 = N 134 := hn 134 (List.mem_of_getElem? (i := 0) rfl)
  have en1 : Nₚ 135 = N 135 := hn 135 (List.mem_of_getElem? (i := 1) rfl)
  have en2 : Nₚ 136 = N 136 := hn 136 (List.mem_of_getElem? (i := 2) rfl)
  have en3 : Nₚ 137 = N 137 := hn 137 (List.mem_of_getElem? (i := 3) rfl)
  have en4 : Nₚ 138 = N 138 := hn 138 (List.mem_of_getElem? (i := 4) rfl)
  have en5 : Nₚ 139 = N 139 := hn 139 (List.mem_of_getElem? (i := 5) rfl)
  have en6 : Nₚ 140 = N 140 := hn 140 (List.mem_of_getElem? (i := 6) rfl)
  have en7 : Nₚ 141 = N 141 := hn 141 (List.mem_of_getElem? (i := 7) rfl)
  show SHZD (((Nₚ 134 : Int))) (((Nₚ 135 : Int))) (((Nₚ 136 : Int))) (((Nₚ 137 : Int))) (((Nₚ 138 : Int))) (((Nₚ 139 : Int))) (((Nₚ 140 : Int))) (((Nₚ 141 : Int))) ((Fₚ 133 1)) 32 256
  rw [ef0, en0, en1, en2, en3, en4, en5, en6, en7]
  exact q
abbrev QF5_18 (D N : Nat → Nat) (F : hF) (A : hA) : Prop := SHZD (((N 162 : Int))) (((N 163 : Int))) (((N 164 : Int))) (((N 165 : Int))) (((N 166 : Int))) (((N 167 : Int))) (((N 168 : Int))) (((N 169 : Int))) ((F 161 1)) 32 256
theorem QF5_18_eq {D N Dₚ Nₚ : Nat → Nat} {F Fₚ : hF} {A Aₚ : hA} (h : EQD [(161, 1)] [] [162, 163, 164, 165, 166, 167, 168, 169] [] D N F A Dₚ Nₚ Fₚ Aₚ) (q : QF5_18 D N F A) : QF5_18 Dₚ Nₚ Fₚ Aₚ := by
  obtain ⟨hf, ha, hn, hd⟩ := h
  have ef0 : Fₚ 161 1 = F 161 1 := hf (161, 1) (List.mem_of_getElem? (i := 0) rfl)
  have en0 : Nₚ 162 = N 162 := hn 162 (List.mem_of_getElem? (i := 0) rfl)
  have en1 : Nₚ 163 = N 163 := hn 163 (List.mem_of_getElem? (i := 1) rfl)
  have en2 : Nₚ 164 = N 164 := hn 164 (List.mem_of_getElem? (i := 2) rfl)
  have en3 : Nₚ 165 = N 165 := hn 165 (List.mem_of_getElem? (i := 3) rfl)
  have en4 : Nₚ 166 = N 166 := hn 166 (List.mem_of_getElem? (i := 4) rfl)
  have en5 : Nₚ 167 = N 167 := hn 167 (List.mem_of_getElem? (i := 5) rfl)
  have en6 : Nₚ 168 = N 168 := hn 168 (List.mem_of_getElem? (i := 6) rfl)
  have en7 : Nₚ 169 = N 169 := hn 169 (List.mem_of_getElem? (i := 7) rfl)
  show SHZD (((Nₚ 162 : Int))) (((Nₚ 163 : Int))) (((Nₚ 164 : Int))) (((Nₚ 165 : Int))) (((Nₚ 166 : Int))) (((Nₚ 167 : Int))) (((Nₚ 168 : Int))) (((Nₚ 169 : Int))) ((Fₚ 161 1)) 32 256
  rw [ef0, en0, en1, en2, en3, en4, en5, en6, en7]
  exact q
abbrev QF5_19 (D N : Nat → Nat) (F : hF) (A : hA) : Prop := SHZD (((N 143 : Int))) (((N 144 : Int))) (((N 145 : Int))) (((N 146 : Int))) (((N 147 : Int))) (((N 148 : Int))) (((N 149 : Int))) (((N 150 : Int))) ((F 142 1)) 53 512
theorem QF5_19_eq {D N Dₚ Nₚ : Nat → Nat} {F Fₚ : hF} {A Aₚ : hA} (h : EQD [(142, 1)] [] [143, 144, 145, 146, 147, 148, 149, 150] [] D N F A Dₚ Nₚ Fₚ Aₚ) (q : QF5_19 D N F A) : QF5_19 Dₚ Nₚ Fₚ Aₚ := by
  obtain ⟨hf, ha, hn, hd⟩ := h
  have ef0 : Fₚ 142 1 = F 142 1 := hf (142, 1) (List.mem_of_getElem? (i := 0) rfl)
  have en0 : Nₚ 143 = N 143 := hn 143 (List.mem_of_getElem? (i := 0) rfl)
  have en1 : Nₚ 144 = N 144 := hn 144 (List.mem_of_getElem? (i := 1) rfl)
  have en2 : Nₚ 145 = N 145 := hn 145 (List.mem_of_getElem? (i := 2) rfl)
  have en3 : Nₚ 146 = N 146 := hn 146 (List.mem_of_getElem? (i := 3) rfl)
  have en4 : Nₚ 147 = N 147 := hn 147 (List.mem_of_getElem? (i := 4) rfl)
  have en5 : Nₚ 148 = N 148 := hn 148 (List.mem_of_getElem? (i := 5) rfl)
  have en6 : Nₚ 149 = N 149 := hn 149 (List.mem_of_getElem? (i := 6) rfl)
  have en7 : Nₚ 150 = N 150 := hn 150 (List.mem_of_getElem? (i := 7) rfl)
  show SHZD (((Nₚ 143 : Int))) (((Nₚ 144 : Int))) (((Nₚ 145 : Int))) (((Nₚ 146 : Int))) (((Nₚ 147 : Int))) (((Nₚ 148 : Int))) (((Nₚ 149 : Int))) (((Nₚ 150 : Int))) ((Fₚ 142 1)) 53 512
  rw [ef0, en0, en1, en2, en3, en4, en5, en6, en7]
  exact q
abbrev QF5_20 (D N : Nat → Nat) (F : hF) (A : hA) : Prop := SHZD (((N 171 : Int))) (((N 172 : Int))) (((N 173 : Int))) (((N 174 : Int))) (((N 175 : Int))) (((N 176 : Int))) (((N 177 : Int))) (((N 178 : Int))) ((F 170 1)) 53 512
theorem QF5_20_eq {D N Dₚ Nₚ : Nat → Nat} {F Fₚ : hF} {A Aₚ : hA} (h : EQD [(170, 1)] [] [171, 172, 173, 174, 175, 176, 177, 178] [] D N F A Dₚ Nₚ Fₚ Aₚ) (q : QF5_20 D N F A) : QF5_20 Dₚ Nₚ Fₚ Aₚ := by
  obtain ⟨hf, ha, hn, hd⟩ := h
  have ef0 : Fₚ 170 1 = F 170 1 := hf (170, 1) (List.mem_of_getElem? (i := 0) rfl)
  have en0 : Nₚ 171 = N 171 := hn 171 (List.mem_of_getElem? (i := 0) rfl)
  have en1 : Nₚ 172 = N 172 := hn 172 (List.mem_of_getElem? (i := 1) rfl)
  have en2 : Nₚ 173 = N 173 := hn 173 (List.mem_of_getElem? (i := 2) rfl)
  have en3 : Nₚ 174 = N 174 := hn 174 (List.mem_of_getElem? (i := 3) rfl)
  have en4 : Nₚ 175 = N 175 := hn 175 (List.mem_of_getElem? (i := 4) rfl)
  have en5 : Nₚ 176 = N 176 := hn 176 (List.mem_of_getElem? (i := 5) rfl)
  have en6 : Nₚ 177 = N 177 := hn 177 (List.mem_of_getElem? (i := 6) rfl)
  have en7 : Nₚ 178 = N 178 := hn 178 (List.mem_of_getElem? (i := 7) rfl)
  show SHZD (((Nₚ 171 : Int))) (((Nₚ 172 : Int))) (((Nₚ 173 : Int))) (((Nₚ 174 : Int))) (((Nₚ 175 : Int))) (((Nₚ 176 : Int))) (((Nₚ 177 : Int))) (((Nₚ 178 : Int))) ((Fₚ 170 1)) 53 512
  rw [ef0, en0, en1, en2, en3, en4, en5, en6, en7]
  exact q
abbrev QF5_21 (D N : Nat → Nat) (F : hF) (A : hA) : Prop := 0 ≤ ((A 198)) 0 ∧ ((A 198)) 0 ≤ 3 ∧ 0 ≤ ((A 198)) 1 ∧ ((A 198)) 1 ≤ 3 ∧ 0 ≤ ((A 198)) 2 ∧ ((A 198)) 2 ≤ 3
theorem QF5_21_eq {D N Dₚ Nₚ : Nat → Nat} {F Fₚ : hF} {A Aₚ : hA} (h : EQD [] [198] [] [] D N F A Dₚ Nₚ Fₚ Aₚ) (q : QF5_21 D N F A) : QF5_21 Dₚ Nₚ Fₚ Aₚ := by
  obtain ⟨hf, ha, hn, hd⟩ := h
  have ea0 : Aₚ 198 = A 198 := ha 198 (List.mem_of_getElem? (i := 0) rfl)
  show 0 ≤ ((Aₚ 198)) 0 ∧ ((Aₚ 198)) 0 ≤ 3 ∧ 0 ≤ ((Aₚ 198)) 1 ∧ ((Aₚ 198)) 1 ≤ 3 ∧ 0 ≤ ((Aₚ 198)) 2 ∧ ((Aₚ 198)) 2 ≤ 3
  rw [ea0]
  exact q
def INV5 (D N : Nat → Nat) (F : hF) (A : hA) : Prop := QF5_0 D N F A ∧ QF5_1 D N F A ∧ QF5_2 D N F A ∧ QF5_3 D N F A ∧ QF5_4 D N F A ∧ QF5_5 D N F A ∧ QF5_6 D N F A ∧ QF5_7 D N F A ∧ QF5_8 D N F A ∧ QF5_9 D N F A ∧ QF5_10 D N F A ∧ QF5_11 D N F A ∧ QF5_12 D N F A ∧ QF5_13 D N F A ∧ QF5_14 D N F A ∧ QF5_15 D N F A ∧ QF5_16 D N F A ∧ QF5_17 D N F A ∧ QF5_18 D N F A ∧ QF5_19 D N F A ∧ QF5_20 D N F A ∧ QF5_21 D N F A
theorem INV5_eq {D N Dₚ Nₚ : Nat → Nat} {F Fₚ : hF} {A Aₚ : hA} (h : EQD [(83, 1), (92, 1), (94, 1), (106, 1), (115, 1), (117, 1), (124, 1), (133, 1), (142, 1), (152, 1), (161, 1), (170, 1), (185, 1), (187, 1), (189, 1)] [80, 103, 198] [76, 78, 79, 80, 81, 82, 84, 85, 86, 87, 88, 89, 90, 91, 93, 95, 97, 98, 99, 101, 102, 103, 104, 105, 107, 108, 109, 110, 111, 112, 113, 114, 116, 118, 120, 121, 122, 123, 125, 126, 127, 128, 129, 130, 131, 132, 134, 135, 136, 137, 138, 139, 140, 141, 143, 144, 145, 146, 147, 148, 149, 150, 151, 153, 154, 155, 156, 157, 158, 159, 160, 162, 163, 164, 165, 166, 167, 168, 169, 171, 172, 173, 174, 175, 176, 177, 178, 180, 181, 183, 184, 186, 188, 190, 191, 192, 193, 194, 195, 196, 197, 198, 199] [] D N F A Dₚ Nₚ Fₚ Aₚ) (q : INV5 D N F A) : INV5 Dₚ Nₚ Fₚ Aₚ := ⟨QF5_0_eq (EQD_sub (by decide +kernel) h) q.1, QF5_1_eq (EQD_sub (by decide +kernel) h) q.2.1, QF5_2_eq (EQD_sub (by decide +kernel) h) q.2.2.1, QF5_3_eq (EQD_sub (by decide +kernel) h) q.2.2.2.1, QF5_4_eq (EQD_sub (by decide +kernel) h) q.2.2.2.2.1, QF5_5_eq (EQD_sub (by decide +kernel) h) q.2.2.2.2.2.1, QF5_6_eq (EQD_sub (by decide +kernel) h) q.2.2.2.2.2.2.1, QF5_7_eq (EQD_sub (by decide +kernel) h) q.2.2.2.2.2.2.2.1, QF5_8_eq (EQD_sub (by decide +kernel) h) q.2.2.2.2.2.2.2.2.1, QF5_9_eq (EQD_sub (by decide +kernel) h) q.2.2.2.2.2.2.2.2.2.1, QF5_10_eq (EQD_sub (by decide +kernel) h) q.2.2.2.2.2.2.2.2.2.2.1, QF5_11_eq (EQD_sub (by decide +kernel) h) q.2.2.2.2.2.2.2.2.2.2.2.1, QF5_12_eq (EQD_sub (by decide +kernel) h) q.2.2.2.2.2.2.2.2.2.2.2.2.1, QF5_13_eq (EQD_sub (by decide +kernel) h) q.2.2.2.2.2.2.2.2.2.2.2.2.2.1, QF5_14_eq (EQD_sub (by decide +kernel) h) q.2.2.2.2.2.2.2.2.2.2.2.2.2.2.1, QF5_15_eq (EQD_sub (by decide +kernel) h) q.2.2.2.2.2.2.2.2.2.2.2.2.2.2.2.1, QF5_16_eq (EQD_sub (by decide +kernel) h) q.2.2.2.2.2.2.2.2.2.2.2.2.2.2.2.2.1, QF5_17_eq (EQD_sub (by decide +kernel) h) q.2.2.2.2.2.2.2.2.2.2.2.2.2.2.2.2.2.1, QF5_18_eq (EQD_sub (by decide +kernel) h) q.2.2.2.2.2.2.2.2.2.2.2.2.2.2.2.2.2.2.1, QF5_19_eq (EQD_sub (by decide +kernel) h) q.2.2.2.2.2.2.2.2.2.2.2.2.2.2.2.2.2.2.2.1, QF5_20_eq (EQD_sub (by decide +kernel) h) q.2.2.2.2.2.2.2.2.2.2.2.2.2.2.2.2.2.2.2.2.1, QF5_21_eq (EQD_sub (by decide +kernel) h) q.2.2.2.2.2.2.2.2.2.2.2.2.2.2.2.2.2.2.2.2.2⟩
abbrev QF6_0 (D N : Nat → Nat) (F : hF) (A : hA) : Prop := 0 ≤ (F 200 15)
theorem QF6_0_eq {D N Dₚ Nₚ : Nat → Nat} {F Fₚ : hF} {A Aₚ : hA} (h : EQD [(200, 15)] [] [] [] D N F A Dₚ Nₚ Fₚ Aₚ) (q : QF6_0 D N F A) : QF6_0 Dₚ Nₚ Fₚ Aₚ := by
  obtain ⟨hf, ha, hn, hd⟩ := h
  have ef0 : Fₚ 200 15 = F 200 15 := hf (200, 15) (List.mem_of_getElem? (i := 0) rfl)
  show 0 ≤ (Fₚ 200 15)
  rw [ef0]
  exact q
abbrev QF6_1 (D N : Nat → Nat) (F : hF) (A : hA) : Prop := 0 ≤ (F 255 1) ∧ (F 255 1) ≤ ((N 256 : Int)) ∧ ((N 256 : Int)) ≤ 65536
theorem QF6_1_eq {D N Dₚ Nₚ : Nat → Nat} {F Fₚ : hF} {A Aₚ : hA} (h : EQD [(255, 1)] [] [256] [] D N F A Dₚ Nₚ Fₚ Aₚ) (q : QF6_1 D N F A) : QF6_1 Dₚ Nₚ Fₚ Aₚ := by
  obtain ⟨hf, ha, hn, hd⟩ := h
  have ef0 : Fₚ 255 1 = F 255 1 := hf (255, 1) (List.mem_of_getElem? (i := 0) rfl)
  have en0 : Nₚ 256 = N 256 := hn 256 (List.mem_of_getElem? (i := 0) rfl)
  show 0 ≤ (Fₚ 255 1) ∧ (Fₚ 255 1) ≤ ((Nₚ 256 : Int)) ∧ ((Nₚ 256 : Int)) ≤ 65536
  rw [ef0, en0]
  exact q
abbrev QF6_2 (D N : Nat → Nat) (F : hF) (A : hA) : Prop := ((N 254 : Int)) = 3 ∧ ((N 258 : Int)) = 3 ∧ ((N 253 : Int)) = 3 ∧ ((N 224 : Int)) = 3
theorem QF6_2_eq {D N Dₚ Nₚ : Nat → Nat} {F Fₚ : hF} {A Aₚ : hA} (h : EQD [] [] [224, 253, 254, 258] [] D N F A Dₚ Nₚ Fₚ Aₚ) (q : QF6_2 D N F A) : QF6_2 Dₚ Nₚ Fₚ Aₚ := by
  obtain ⟨hf, ha, hn, hd⟩ := h
  have en0 : Nₚ 224 = N 224 := hn 224 (List.mem_of_getElem? (i := 0) rfl)
  have en1 : Nₚ 253 = N 253 := hn 253 (List.mem_of_getElem? (i := 1) rfl)
  have en2 : Nₚ 254 = N 254 := hn 254 (List.mem_of_getElem? (i := 2) rfl)
  have en3 : Nₚ 258 = N 258 := hn 258 (List.mem_of_getElem? (i := 3) rfl)
  show ((Nₚ 254 : Int)) = 3 ∧ ((Nₚ 258 : Int)) = 3 ∧ ((Nₚ 253 : Int)) = 3 ∧ ((Nₚ 224 : Int)) = 3
  rw [en0, en1, en2, en3]
  exact q
abbrev QF6_3 (D N : Nat → Nat) (F : hF) (A : hA) : Prop := SHZD (((N 226 : Int))) (((N 227 : Int))) (((N 228 : Int))) (((N 229 : Int))) (((N 230 : Int))) (((N 231 : Int))) (((N 232 : Int))) (((N 233 : Int))) ((F 225 1)) 36 512
theorem QF6_3_eq {D N Dₚ Nₚ : Nat → Nat} {F Fₚ : hF} {A Aₚ : hA} (h : EQD [(225, 1)] [] [226, 227, 228, 229, 230, 231, 232, 233] [] D N F A Dₚ Nₚ Fₚ Aₚ) (q : QF6_3 D N F A) : QF6_3 Dₚ Nₚ Fₚ Aₚ := by
  obtain ⟨hf, ha, hn, hd⟩ := h
  have ef0 : Fₚ 225 1 = F 225 1 := hf (225, 1) (List.mem_of_getElem? (i := 0) rfl)
  have en0 : Nₚ 226 = N 226 := hn 226 (List.mem_of_getElem? (i := 0) rfl)
  have en1 : Nₚ 227 = N 227 := hn 227 (List.mem_of_getElem? (i := 1) rfl)
  have en2 : Nₚ 228 = N 228 := hn 228 (List.mem_of_getElem? (i := 2) rfl)
  have en3 : Nₚ 229 = N 229 := hn 229 (List.mem_of_getElem? (i := 3) rfl)
  have en4 : Nₚ 230 = N 230 := hn 230 (List.mem_of_getElem? (i := 4) rfl)
  have en5 : Nₚ 231 = N 231 := hn 231 (List.mem_of_getElem? (i := 5) rfl)
  have en6 : Nₚ 232 = N 232 := hn 232 (List.mem_of_getElem? (i := 6) rfl)
  have en7 : Nₚ 233 = N 233 := hn 233 (List.mem_of_getElem? (i := 7) rfl)
  show SHZD (((Nₚ 226 : Int))) (((Nₚ 227 : Int))) (((Nₚ 228 : Int))) (((Nₚ 229 : Int))) (((Nₚ 230 : Int))) (((Nₚ 231 : Int))) (((Nₚ 232 : Int))) (((Nₚ 233 : Int))) ((Fₚ 225 1)) 36 512
  rw [ef0, en0, en1, en2, en3, en4, en5, en6, en7]
  exact q
abbrev QF6_4 (D N : Nat → Nat) (F : hF) (A : hA) : Prop := SHZD (((N 235 : Int))) (((N 236 : Int))) (((N 237 : Int))) (((N 238 : Int))) (((N 239 : Int))) (((N 240 : Int))) (((N 241 : Int))) (((N 242 : Int))) ((F 234 1)) 32 256
theorem QF6_4_eq {D N Dₚ Nₚ : Nat → Nat} {F Fₚ : hF} {A Aₚ : hA} (h : EQD [(234, 1)] [] [235, 236, 237, 238, 239, 240, 241, 242] [] D N F A Dₚ Nₚ Fₚ Aₚ) (q : QF6_4 D N F A) : QF6_4 Dₚ Nₚ Fₚ Aₚ := by
  obtain ⟨hf, ha, hn, hd⟩ := h
  have ef0 : Fₚ 234 1 = F 234 1 := hf (234, 1) (List.mem_of_getElem? (i := 0) rfl)
  have en0 : Nₚ 235 = N 235 := hn 235 (List.mem_of_getElem? (i := 0) rfl)
  have en1 : Nₚ 236 = N 236 := hn 236 (List.mem_of_getElem? (i := 1) rfl)
  have en2 : Nₚ 237 = N 237 := hn 237 (List.mem_of_getElem? (i := 2) rfl)
  have en3 : Nₚ 238 = N 238 := hn 238 (List.mem_of_getElem? (i := 3) rfl)
  have en4 : Nₚ 239 = N 239 := hn 239 (List.mem_of_getElem? (i := 4) rfl)
  have en5 : Nₚ 240 = N 240 := hn 240 (List.mem_of_getElem? (i := 5) rfl)
  have en6 : Nₚ 241 = N 241 := hn 241 (List.mem_of_getElem? (i := 6) rfl)
  have en7 : Nₚ 242 = N 242 := hn 242 (List.mem_of_getElem? (i := 7) rfl)
  show SHZD (((Nₚ 235 : Int))) (((Nₚ 236 : Int))) (((Nₚ 237 : Int))) (((Nₚ 238 : Int))) (((Nₚ 239 : Int))) (((Nₚ 240 : Int))) (((Nₚ 241 : Int))) (((Nₚ 242 : Int))) ((Fₚ 234 1)) 32 256
  rw [ef0, en0, en1, en2, en3, en4, en5, en6, en7]
  exact q
abbrev QF6_5 (D N : Nat → Nat) (F : hF) (A : hA) : Prop := SHZD (((N 244 : Int))) (((N 245 : Int))) (((N 246 : Int))) (((N 247 : Int))) (((N 248 : Int))) (((N 249 : Int))) (((N 250 : Int))) (((N 251 : Int))) ((F 243 1)) 53 512
theorem QF6_5_eq {D N Dₚ Nₚ : Nat → Nat} {F Fₚ : hF} {A Aₚ : hA} (h : EQD [(243, 1)] [] [244, 245, 246, 247, 248, 249, 250, 251] [] D N F A Dₚ Nₚ Fₚ Aₚ) (q : QF6_5 D N F A) : QF6_5 Dₚ Nₚ Fₚ Aₚ := by
  obtain ⟨hf, ha, hn, hd⟩ := h
  have ef0 : Fₚ 243 1 = F 243 1 := hf (243, 1) (List.mem_of_getElem? (i := 0) rfl)
  have en0 : Nₚ 244 = N 244 := hn 244 (List.mem_of_getElem? (i := 0) rfl)
  have en1 : Nₚ 245 = N 245 := hn 245 (List.mem_of_getElem? (i := 1) rfl)
  have en2 : Nₚ 246 = N 246 := hn 246 (List.mem_of_getElem? (i := 2) rfl)
  have en3 : Nₚ 247 = N 247 := hn 247 (List.mem_of_getElem? (i := 3) rfl)
  have en4 : Nₚ 248 = N 248 := hn 248 (List.mem_of_getElem? (i := 4) rfl)
  have en5 : Nₚ 249 = N 249 := hn 249 (List.mem_of_getElem? (i := 5) rfl)
  have en6 : Nₚ 250 = N 250 := hn 250 (List.mem_of_getElem? (i := 6) rfl)
  have en7 : Nₚ 251 = N 251 := hn 251 (List.mem_of_getElem? (i := 7) rfl)
  show SHZD (((Nₚ 244 : Int))) (((Nₚ 245 : Int))) (((Nₚ 246 : Int))) (((Nₚ 247 : Int))) (((Nₚ 248 : Int))) (((Nₚ 249 : Int))) (((Nₚ 250 : Int))) (((Nₚ 251 : Int))) ((Fₚ 243 1)) 53 512
  rw [ef0, en0, en1, en2, en3, en4, en5, en6, en7]
  exact q
abbrev QF6_6 (D N : Nat → Nat) (F : hF) (A : hA) : Prop := CDZD (((N 202 : Int))) (((N 203 : Int))) (((N 204 : Int))) (((N 205 : Int))) (((N 206 : Int))) (((N 221 : Int))) (((N 222 : Int))) (((N 223 : Int)))
theorem QF6_6_eq {D N Dₚ Nₚ : Nat → Nat} {F Fₚ : hF} {A Aₚ : hA} (h : EQD [] [] [202, 203, 204, 205, 206, 221, 222, 223] [] D N F A Dₚ Nₚ Fₚ Aₚ) (q : QF6_6 D N F A) : QF6_6 Dₚ Nₚ Fₚ Aₚ := by
  obtain ⟨hf, ha, hn, hd⟩ := h
  have en0 : Nₚ 202 = N 202 := hn 202 (List.mem_of_getElem? (i := 0) rfl)
  have en1 : Nₚ 203 = N 203 := hn 203 (List.mem_of_getElem? (i := 1) rfl)
  have en2 : Nₚ 204 = N 204 := hn 204 (List.mem_of_getElem? (i := 2) rfl)
  have en3 : Nₚ 205 = N 205 := hn 205 (List.mem_of_getElem? (i := 3) rfl)
  have en4 : Nₚ 206 = N 206 := hn 206 (List.mem_of_getElem? (i := 4) rfl)
  have en5 : Nₚ 221 = N 221 := hn 221 (List.mem_of_getElem? (i := 5) rfl)
  have en6 : Nₚ 222 = N 222 := hn 222 (List.mem_of_getElem? (i := 6) rfl)
  have en7 : Nₚ 223 = N 223 := hn 223 (List.mem_of_getElem? (i := 7) rfl)
  show CDZD (((Nₚ 202 : Int))) (((Nₚ 203 : Int))) (((Nₚ 204 : Int))) (((Nₚ 205 : Int))) (((Nₚ 206 : Int))) (((Nₚ 221 : Int))) (((Nₚ 222 : Int))) (((Nₚ 223 : Int)))
  rw [en0, en1, en2, en3, en4, en5, en6, en7]
  exact q
abbrev QF6_7 (D N : Nat → Nat) (F : hF) (A : hA) : Prop := SHZD (((N 208 : Int))) (((N 209 : Int))) (((N 210 : Int))) (((N 211 : Int))) (((N 212 : Int))) (((N 213 : Int))) (((N 214 : Int))) (((N 215 : Int))) ((F 207 1)) 12 64
theorem QF6_7_eq {D N Dₚ Nₚ : Nat → Nat} {F Fₚ : hF} {A Aₚ : hA} (h : EQD [(207, 1)] [] [208, 209, 210, 211, 212, 213, 214, 215] [] D N F A Dₚ Nₚ Fₚ Aₚ) (q : QF6_7 D N F A) : QF6_7 Dₚ Nₚ Fₚ Aₚ := by
  obtain ⟨hf, ha, hn, hd⟩ := h
  have ef0 : Fₚ 207 1 = F 207 1 := hf (207, 1) (List.mem_of_getElem? (i := 0) rfl)
  have en0 : Nₚ 208 = N 208 := hn 208 (List.mem_of_getElem? (i := 0) rfl)
  have en1 : Nₚ 209 = N 209 := hn 209 (List.mem_of_getElem? (i := 1) rfl)
  have en2 : Nₚ 210 = N 210 := hn 210 (List.mem_of_getElem? (i := 2) rfl)
  have en3 : Nₚ 211 = N 211 := hn 211 (List.mem_of_getElem? (i := 3) rfl)
  have en4 : Nₚ 212 = N 212 := hn 212 (List.mem_of_getElem? (i := 4) rfl)
  have en5 : Nₚ 213 = N 213 := hn 213 (List.mem_of_getElem? (i := 5) rfl)
  have en6 : Nₚ 214 = N 214 := hn 214 (List.mem_of_getElem? (i := 6) rfl)
  have en7 : Nₚ 215 = N 215 := hn 215 (List.mem_of_getElem? (i := 7) rfl)
  show SHZD (((Nₚ 208 : Int))) (((Nₚ 209 : Int))) (((Nₚ 210 : Int))) (((Nₚ 211 : Int))) (((Nₚ 212 : Int))) (((Nₚ 213 : Int))) (((Nₚ 214 : Int))) (((Nₚ 215 : Int))) ((Fₚ 207 1)) 12 64
  rw [ef0, en0, en1, en2, en3, en4, en5, en6, en7]
  exact q
abbrev QF6_8 (D N : Nat → Nat) (F : hF) (A : hA) : Prop := CEL ((A 204))
theorem QF6_8_eq {D N Dₚ Nₚ : Nat → Nat} {F Fₚ : hF} {A Aₚ : hA} (h : EQD [] [204] [] [] D N F A Dₚ Nₚ Fₚ Aₚ) (q : QF6_8 D N F A) : QF6_8 Dₚ Nₚ Fₚ Aₚ := by
  obtain ⟨hf, ha, hn, hd⟩ := h
  have ea0 : Aₚ 204 = A 204 := ha 204 (List.mem_of_getElem? (i := 0) rfl)
  show CEL ((Aₚ 204))
  rw [ea0]
  exact q
def INV6 (D N : Nat → Nat) (F : hF) (A : hA) : Prop := QF6_0 D N F A ∧ QF6_1 D N F A ∧ QF6_2 D N F A ∧ QF6_3 D N F A ∧ QF6_4 D N F A ∧ QF6_5 D N F A ∧ QF6_6 D N F A ∧ QF6_7 D N F A ∧ QF6_8 D N F A
theorem INV6_eq {D N Dₚ Nₚ : Nat → Nat} {F Fₚ : hF} {A Aₚ : hA} (h : EQD [(200, 15), (207, 1), (225, 1), (234, 1), (243, 1), (255, 1)] [204] [202, 203, 204, 205, 206, 208, 209, 210, 211, 212, 213, 214, 215, 221, 222, 223, 224, 226, 227, 228, 229, 230, 231, 232, 233, 235, 236, 237, 238, 239, 240, 241, 242, 244, 245, 246, 247, 248, 249, 250, 251, 253, 254, 256, 258] [] D N F A Dₚ Nₚ Fₚ Aₚ) (q : INV6 D N F A) : INV6 Dₚ Nₚ Fₚ Aₚ := ⟨QF6_0_eq (EQD_sub (by decide +kernel) h) q.1, QF6_1_eq (EQD_sub (by decide +kernel) h) q.2.1, QF6_2_eq (EQD_sub (by decide +kernel) h) q.2.2.1, QF6_3_eq (EQD_sub (by decide +kernel) h) q.2.2.2.1, QF6_4_eq (EQD_sub (by decide +kernel) h) q.2.2.2.2.1, QF6_5_eq (EQD_sub (by decide +kernel) h) q.2.2.2.2.2.1, QF6_6_eq (EQD_sub (by decide +kernel) h) q.2.2.2.2.2.2.1, QF6_7_eq (EQD_sub (by decide +kernel) h) q.2.2.2.2.2.2.2.1, QF6_8_eq (EQD_sub (by decide +kernel) h) q.2.2.2.2.2.2.2.2⟩
abbrev QF7_0 (Dc : DcS) (D N : Nat → Nat) (F : hF) (A : hA) : Prop := ((N 282 : Int)) = 3
theorem QF7_0_eq {Dc : DcS} {D N Dₚ Nₚ : Nat → Nat} {F Fₚ : hF} {A Aₚ : hA} (h : EQD [] [] [282] [] D N F A Dₚ Nₚ Fₚ Aₚ) (q : QF7_0 Dc D N F A) : QF7_0 Dc Dₚ Nₚ Fₚ Aₚ := by
  obtain ⟨hf, ha, hn, hd⟩ := h
  have en0 : Nₚ 282 = N 282 := hn 282 (List.mem_of_getElem? (i := 0) rfl)
  show ((Nₚ 282 : Int)) = 3
  rw [en0]
  exact q
abbrev QF7_1 (Dc : DcS) (D N : Nat → Nat) (F : hF) (A : hA) : Prop := CDZD (((N 260 : Int))) (((N 261 : Int))) (((N 262 : Int))) (((N 263 : Int))) (((N 264 : Int))) (((N 279 : Int))) (((N 280 : Int))) (((N 281 : Int)))
theorem QF7_1_eq {Dc : DcS} {D N Dₚ Nₚ : Nat → Nat} {F Fₚ : hF} {A Aₚ : hA} (h : EQD [] [] [260, 261, 262, 263, 264, 279, 280, 281] [] D N F A Dₚ Nₚ Fₚ Aₚ) (q : QF7_1 Dc D N F A) : QF7_1 Dc Dₚ Nₚ Fₚ Aₚ := by
  obtain ⟨hf, ha, hn, hd⟩ := h
  have en0 : Nₚ 260 = N 260 := hn 260 (List.mem_of_getElem? (i := 0) rfl)
  have en1 : Nₚ 261 = N 261 := hn 261 (List.mem_of_getElem? (i := 1) rfl)
  have en2 : Nₚ 262 = N 262 := hn 262 (List.mem_of_getElem? (i := 2) rfl)
  have en3 : Nₚ 263 = N 263 := hn 263 (List.mem_of_getElem? (i := 3) rfl)
  have en4 : Nₚ 264 = N 264 := hn 264 (List.mem_of_getElem? (i := 4) rfl)
  have en5 : Nₚ 279 = N 279 := hn 279 (List.mem_of_getElem? (i := 5) rfl)
  have en6 : Nₚ 280 = N 280 := hn 280 (List.mem_of_getElem? (i := 6) rfl)
  have en7 : Nₚ 281 = N 281 := hn 281 (List.mem_of_getElem? (i := 7) rfl)
  show CDZD (((Nₚ 260 : Int))) (((Nₚ 261 : Int))) (((Nₚ 262 : Int))) (((Nₚ 263 : Int))) (((Nₚ 264 : Int))) (((Nₚ 279 : Int))) (((Nₚ 280 : Int))) (((Nₚ 281 : Int)))
  rw [en0, en1, en2, en3, en4, en5, en6, en7]
  exact q
abbrev QF7_2 (Dc : DcS) (D N : Nat → Nat) (F : hF) (A : hA) : Prop := SHZD (((N 266 : Int))) (((N 267 : Int))) (((N 268 : Int))) (((N 269 : Int))) (((N 270 : Int))) (((N 271 : Int))) (((N 272 : Int))) (((N 273 : Int))) ((F 265 1)) 12 64
theorem QF7_2_eq {Dc : DcS} {D N Dₚ Nₚ : Nat → Nat} {F Fₚ : hF} {A Aₚ : hA} (h : EQD [(265, 1)] [] [266, 267, 268, 269, 270, 271, 272, 273] [] D N F A Dₚ Nₚ Fₚ Aₚ) (q : QF7_2 Dc D N F A) : QF7_2 Dc Dₚ Nₚ Fₚ Aₚ := by
  obtain ⟨hf, ha, hn, hd⟩ := h
  have ef0 : Fₚ 265 1 = F 265 1 := hf (265, 1) (List.mem_of_getElem? (i := 0) rfl)
  have en0 : Nₚ 266 = N 266 := hn 266 (List.mem_of_getElem? (i := 0) rfl)
  have en1 : Nₚ 267 = N 267 := hn 267 (List.mem_of_getElem? (i := 1) rfl)
  have en2 : Nₚ 268 = N 268 := hn 268 (List.mem_of_getElem? (i := 2) rfl)
  have en3 : Nₚ 269 = N 269 := hn 269 (List.mem_of_getElem? (i := 3) rfl)
  have en4 : Nₚ 270 = N 270 := hn 270 (List.mem_of_getElem? (i := 4) rfl)
  have en5 : Nₚ 271 = N 271 := hn 271 (List.mem_of_getElem? (i := 5) rfl)
  have en6 : Nₚ 272 = N 272 := hn 272 (List.mem_of_getElem? (i := 6) rfl)
  have en7 : Nₚ 273 = N 273 := hn 273 (List.mem_of_getElem? (i := 7) rfl)
  show SHZD (((Nₚ 266 : Int))) (((Nₚ 267 : Int))) (((Nₚ 268 : Int))) (((Nₚ 269 : Int))) (((Nₚ 270 : Int))) (((Nₚ 271 : Int))) (((Nₚ 272 : Int))) (((Nₚ 273 : Int))) ((Fₚ 265 1)) 12 64
  rw [ef0, en0, en1, en2, en3, en4, en5, en6, en7]
  exact q
abbrev QF7_3 (Dc : DcS) (D N : Nat → Nat) (F : hF) (A : hA) : Prop := SHZD (((N 284 : Int))) (((N 285 : Int))) (((N 286 : Int))) (((N 287 : Int))) (((N 288 : Int))) (((N 289 : Int))) (((N 290 : Int))) (((N 291 : Int))) ((F 283 1)) 36 512
theorem QF7_3_eq {Dc : DcS} {D N Dₚ Nₚ : Nat → Nat} {F Fₚ : hF} {A Aₚ : hA} (h : EQD [(283, 1)] [] [284, 285, 286, 287, 288, 289, 290, 291] [] D N F A Dₚ Nₚ Fₚ Aₚ) (q : QF7_3 Dc D N F A) : QF7_3 Dc Dₚ Nₚ Fₚ Aₚ := by
  obtain ⟨hf, ha, hn, hd⟩ := h
  have ef0 : Fₚ 283 1 = F 283 1 := hf (283, 1) (List.mem_of_getElem? (i := 0) rfl)
  have en0 : Nₚ 284 = N 284 := hn 284 (List.mem_of_getElem? (i := 0) rfl)
  have en1 : Nₚ 285 = N 285 := hn 285 (List.mem_of_getElem? (i := 1) rfl)
  have en2 : Nₚ 286 = N 286 := hn 286 (List.mem_of_getElem? (i := 2) rfl)
  have en3 : Nₚ 287 = N 287 := hn 287 (List.mem_of_getElem? (i := 3) rfl)
  have en4 : Nₚ 288 = N 288 := hn 288 (List.mem_of_getElem? (i := 4) rfl)
  have en5 : Nₚ 289 = N 289 := hn 289 (List.mem_of_getElem? (i := 5) rfl)
  have en6 : Nₚ 290 = N 290 := hn 290 (List.mem_of_getElem? (i := 6) rfl)
  have en7 : Nₚ 291 = N 291 := hn 291 (List.mem_of_getElem? (i := 7) rfl)
  show SHZD (((Nₚ 284 : Int))) (((Nₚ 285 : Int))) (((Nₚ 286 : Int))) (((Nₚ 287 : Int))) (((Nₚ 288 : Int))) (((Nₚ 289 : Int))) (((Nₚ 290 : Int))) (((Nₚ 291 : Int))) ((Fₚ 283 1)) 36 512
  rw [ef0, en0, en1, en2, en3, en4, en5, en6, en7]
  exact q
abbrev QF7_4 (Dc : DcS) (D N : Nat → Nat) (F : hF) (A : hA) : Prop := SHZD (((N 293 : Int))) (((N 294 : Int))) (((N 295 : Int))) (((N 296 : Int))) (((N 297 : Int))) (((N 298 : Int))) (((N 299 : Int))) (((N 300 : Int))) ((F 292 1)) 32 256
theorem QF7_4_eq {Dc : DcS} {D N Dₚ Nₚ : Nat → Nat} {F Fₚ : hF} {A Aₚ : hA} (h : EQD [(292, 1)] [] [293, 294, 295, 296, 297, 298, 299, 300] [] D N F A Dₚ Nₚ Fₚ Aₚ) (q : QF7_4 Dc D N F A) : QF7_4 Dc Dₚ Nₚ Fₚ Aₚ := by
  obtain ⟨hf, ha, hn, hd⟩ := h
  have ef0 : Fₚ 292 1 = F 292 1 := hf (292, 1) (List.mem_of_getElem? (i := 0) rfl)
  have en0 : Nₚ 293 = N 293 := hn 293 (List.mem_of_getElem? (i := 0) rfl)
  have en1 : Nₚ 294 = N 294 := hn 294 (List.mem_of_getElem? (i := 1) rfl)
  have en2 : Nₚ 295 = N 295 := hn 295 (List.mem_of_getElem? (i := 2) rfl)
  have en3 : Nₚ 296 = N 296 := hn 296 (List.mem_of_getElem? (i := 3) rfl)
  have en4 : Nₚ 297 = N 297 := hn 297 (List.mem_of_getElem? (i := 4) rfl)
  have en5 : Nₚ 298 = N 298 := hn 298 (List.mem_of_getElem? (i := 5) rfl)
  have en6 : Nₚ 299 = N 299 := hn 299 (List.mem_of_getElem? (i := 6) rfl)
  have en7 : Nₚ 300 = N 300 := hn 300 (List.mem_of_getElem? (i := 7) rfl)
  show SHZD (((Nₚ 293 : Int))) (((Nₚ 294 : Int))) (((Nₚ 295 : Int))) (((Nₚ 296 : Int))) (((Nₚ 297 : Int))) (((Nₚ 298 : Int))) (((Nₚ 299 : Int))) (((Nₚ 300 : Int))) ((Fₚ 292 1)) 32 256
  rw [ef0, en0, en1, en2, en3, en4, en5, en6, en7]
  exact q
abbrev QF7_5 (Dc : DcS) (D N : Nat → Nat) (F : hF) (A : hA) : Prop := SHZD (((N 302 : Int))) (((N 303 : Int))) (((N 304 : Int))) (((N 305 : Int))) (((N 306 : Int))) (((N 307 : Int))) (((N 308 : Int))) (((N 309 : Int))) ((F 301 1)) 53 512
theorem QF7_5_eq {Dc : DcS} {D N Dₚ Nₚ : Nat → Nat} {F Fₚ : hF} {A Aₚ : hA} (h : EQD [(301, 1)] [] [302, 303, 304, 305, 306, 307, 308, 309] [] D N F A Dₚ Nₚ Fₚ Aₚ) (q : QF7_5 Dc D N F A) : QF7_5 Dc Dₚ Nₚ Fₚ Aₚ := by
  obtain ⟨hf, ha, hn, hd⟩ := h
  have ef0 : Fₚ 301 1 = F 301 1 := hf (301, 1) (List.mem_of_getElem? (i := 0) rfl)
  have en0 : Nₚ 302 = N 302 := hn 302 (List.mem_of_getElem? (i := 0) rfl)
  have en1 : Nₚ 303 = N 303 := hn 303 (List.mem_of_getElem? (i := 1) rfl)
  have en2 : Nₚ 304 = N 304 := hn 304 (List.mem_of_getElem? (i := 2) rfl)
  have en3 : Nₚ 305 = N 305 := hn 305 (List.mem_of_getElem? (i := 3) rfl)
  have en4 : Nₚ 306 = N 306 := hn 306 (List.mem_of_getElem? (i := 4) rfl)
  have en5 : Nₚ 307 = N 307 := hn 307 (List.mem_of_getElem? (i := 5) rfl)
  have en6 : Nₚ 308 = N 308 := hn 308 (List.mem_of_getElem? (i := 6) rfl)
  have en7 : Nₚ 309 = N 309 := hn 309 (List.mem_of_getElem? (i := 7) rfl)
  show SHZD (((Nₚ 302 : Int))) (((Nₚ 303 : Int))) (((Nₚ 304 : Int))) (((Nₚ 305 : Int))) (((Nₚ 306 : Int))) (((Nₚ 307 : Int))) (((Nₚ 308 : Int))) (((Nₚ 309 : Int))) ((Fₚ 301 1)) 53 512
  rw [ef0, en0, en1, en2, en3, en4, en5, en6, en7]
  exact q
abbrev QF7_6 (Dc : DcS) (D N : Nat → Nat) (F : hF) (A : hA) : Prop := CEL ((A 262))
theorem QF7_6_eq {Dc : DcS} {D N Dₚ Nₚ : Nat → Nat} {F Fₚ : hF} {A Aₚ : hA} (h : EQD [] [262] [] [] D N F A Dₚ Nₚ Fₚ Aₚ) (q : QF7_6 Dc D N F A) : QF7_6 Dc Dₚ Nₚ Fₚ Aₚ := by
  obtain ⟨hf, ha, hn, hd⟩ := h
  have ea0 : Aₚ 262 = A 262 := ha 262 (List.mem_of_getElem? (i := 0) rfl)
  show CEL ((Aₚ 262))
  rw [ea0]
  exact q
abbrev QF7_7 (Dc : DcS) (D N : Nat → Nat) (F : hF) (A : hA) : Prop := HID ((F 16 0) = -1 ∨ (F 16 0) = (((D 259 : Nat) : Int)) ∧ 0 ≤ (F 259 3) ∧ (F 259 3) ≤ 11)
theorem QF7_7_eq {Dc : DcS} {D N Dₚ Nₚ : Nat → Nat} {F Fₚ : hF} {A Aₚ : hA} (h : EQD [(16, 0), (259, 3)] [] [] [259] D N F A Dₚ Nₚ Fₚ Aₚ) (q : QF7_7 Dc D N F A) : QF7_7 Dc Dₚ Nₚ Fₚ Aₚ := by
  obtain ⟨hf, ha, hn, hd⟩ := h
  have ef0 : Fₚ 16 0 = F 16 0 := hf (16, 0) (List.mem_of_getElem? (i := 0) rfl)
  have ef1 : Fₚ 259 3 = F 259 3 := hf (259, 3) (List.mem_of_getElem? (i := 1) rfl)
  have ed0 : Dₚ 259 = D 259 := hd 259 (List.mem_of_getElem? (i := 0) rfl)
  show HID ((Fₚ 16 0) = -1 ∨ (Fₚ 16 0) = (((Dₚ 259 : Nat) : Int)) ∧ 0 ≤ (Fₚ 259 3) ∧ (Fₚ 259 3) ≤ 11)
  rw [ef0, ef1, ed0]
  exact q
abbrev QF7_8 (Dc : DcS) (D N : Nat → Nat) (F : hF) (A : hA) : Prop := HID ((F 16 0) = -1 ∨ LNG ((A 260)) ((F 259 3)))
theorem QF7_8_eq {Dc : DcS} {D N Dₚ Nₚ : Nat → Nat} {F Fₚ : hF} {A Aₚ : hA} (h : EQD [(16, 0), (259, 3)] [260] [] [] D N F A Dₚ Nₚ Fₚ Aₚ) (q : QF7_8 Dc D N F A) : QF7_8 Dc Dₚ Nₚ Fₚ Aₚ := by
  obtain ⟨hf, ha, hn, hd⟩ := h
  have ef0 : Fₚ 16 0 = F 16 0 := hf (16, 0) (List.mem_of_getElem? (i := 0) rfl)
  have ef1 : Fₚ 259 3 = F 259 3 := hf (259, 3) (List.mem_of_getElem? (i := 1) rfl)
  have ea0 : Aₚ 260 = A 260 := ha 260 (List.mem_of_getElem? (i := 0) rfl)
  show HID ((Fₚ 16 0) = -1 ∨ LNG ((Aₚ 260)) ((Fₚ 259 3)))
  rw [ef0, ef1, ea0]
  exact q
abbrev QF7_9 (Dc : DcS) (D N : Nat → Nat) (F : hF) (A : hA) : Prop := HID (((A 17)) 0 = -1 ∨ ((A 17)) 0 = (((D 283 : Nat) : Int)))
theorem QF7_9_eq {Dc : DcS} {D N Dₚ Nₚ : Nat → Nat} {F Fₚ : hF} {A Aₚ : hA} (h : EQD [] [17] [] [283] D N F A Dₚ Nₚ Fₚ Aₚ) (q : QF7_9 Dc D N F A) : QF7_9 Dc Dₚ Nₚ Fₚ Aₚ := by
  obtain ⟨hf, ha, hn, hd⟩ := h
  have ea0 : Aₚ 17 = A 17 := ha 17 (List.mem_of_getElem? (i := 0) rfl)
  have ed0 : Dₚ 283 = D 283 := hd 283 (List.mem_of_getElem? (i := 0) rfl)
  show HID (((Aₚ 17)) 0 = -1 ∨ ((Aₚ 17)) 0 = (((Dₚ 283 : Nat) : Int)))
  rw [ea0, ed0]
  exact q
abbrev QF7_10 (Dc : DcS) (D N : Nat → Nat) (F : hF) (A : hA) : Prop := HID (((A 17)) 1 = -1 ∨ ((A 17)) 1 = (((D 292 : Nat) : Int)))
theorem QF7_10_eq {Dc : DcS} {D N Dₚ Nₚ : Nat → Nat} {F Fₚ : hF} {A Aₚ : hA} (h : EQD [] [17] [] [292] D N F A Dₚ Nₚ Fₚ Aₚ) (q : QF7_10 Dc D N F A) : QF7_10 Dc Dₚ Nₚ Fₚ Aₚ := by
  obtain ⟨hf, ha, hn, hd⟩ := h
  have ea0 : Aₚ 17 = A 17 := ha 17 (List.mem_of_getElem? (i := 0) rfl)
  have ed0 : Dₚ 292 = D 292 := hd 292 (List.mem_of_getElem? (i := 0) rfl)
  show HID (((Aₚ 17)) 1 = -1 ∨ ((Aₚ 17)) 1 = (((Dₚ 292 : Nat) : Int)))
  rw [ea0, ed0]
  exact q
abbrev QF7_11 (Dc : DcS) (D N : Nat → Nat) (F : hF) (A : hA) : Prop := HID (((A 17)) 2 = -1 ∨ ((A 17)) 2 = (((D 301 : Nat) : Int)))
theorem QF7_11_eq {Dc : DcS} {D N Dₚ Nₚ : Nat → Nat} {F Fₚ : hF} {A Aₚ : hA} (h : EQD [] [17] [] [301] D N F A Dₚ Nₚ Fₚ Aₚ) (q : QF7_11 Dc D N F A) : QF7_11 Dc Dₚ Nₚ Fₚ Aₚ := by
  obtain ⟨hf, ha, hn, hd⟩ := h
  have ea0 : Aₚ 17 = A 17 := ha 17 (List.mem_of_getElem? (i := 0) rfl)
  have ed0 : Dₚ 301 = D 301 := hd 301 (List.mem_of_getElem? (i := 0) rfl)
  show HID (((Aₚ 17)) 2 = -1 ∨ ((Aₚ 17)) 2 = (((Dₚ 301 : Nat) : Int)))
  rw [ea0, ed0]
  exact q
abbrev QF7_12 (Dc : DcS) (D N : Nat → Nat) (F : hF) (A : hA) : Prop := HID (((A 17)) 0 = -1 ∨ SL ((A 284)) ((F 283 1)) ((F 283 0)) ((A 285)) ((A 286)) ((A 287)) ((A 289)) ((A 290)) ((A 291)))
theorem QF7_12_eq {Dc : DcS} {D N Dₚ Nₚ : Nat → Nat} {F Fₚ : hF} {A Aₚ : hA} (h : EQD [(283, 0), (283, 1)] [17, 284, 285, 286, 287, 289, 290, 291] [] [] D N F A Dₚ Nₚ Fₚ Aₚ) (q : QF7_12 Dc D N F A) : QF7_12 Dc Dₚ Nₚ Fₚ Aₚ := by
  obtain ⟨hf, ha, hn, hd⟩ := h
  have ef0 : Fₚ 283 0 = F 283 0 := hf (283, 0) (List.mem_of_getElem? (i := 0) rfl)
  have ef1 : Fₚ 283 1 = F 283 1 := hf (283, 1) (List.mem_of_getElem? (i := 1) rfl)
  have ea0 : Aₚ 17 = A 17 := ha 17 (List.mem_of_getElem? (i := 0) rfl)
  have ea1 : Aₚ 284 = A 284 := ha 284 (List.mem_of_getElem? (i := 1) rfl)
  have ea2 : Aₚ 285 = A 285 := ha 285 (List.mem_of_getElem? (i := 2) rfl)
  have ea3 : Aₚ 286 = A 286 := ha 286 (List.mem_of_getElem? (i := 3) rfl)
  have ea4 : Aₚ 287 = A 287 := ha 287 (List.mem_of_getElem? (i := 4) rfl)
  have ea5 : Aₚ 289 = A 289 := ha 289 (List.mem_of_getElem? (i := 5) rfl)
  have ea6 : Aₚ 290 = A 290 := ha 290 (List.mem_of_getElem? (i := 6) rfl)
  have ea7 : Aₚ 291 = A 291 := ha 291 (List.mem_of_getElem? (i := 7) rfl)
  show HID (((Aₚ 17)) 0 = -1 ∨ SL ((Aₚ 284)) ((Fₚ 283 1)) ((Fₚ 283 0)) ((Aₚ 285)) ((Aₚ 286)) ((Aₚ 287)) ((Aₚ 289)) ((Aₚ 290)) ((Aₚ 291)))
  rw [ef0, ef1, ea0, ea1, ea2, ea3, ea4, ea5, ea6, ea7]
  exact q
abbrev QF7_13 (Dc : DcS) (D N : Nat → Nat) (F : hF) (A : hA) : Prop := HID (((A 17)) 1 = -1 ∨ SL ((A 293)) ((F 292 1)) ((F 292 0)) ((A 294)) ((A 295)) ((A 296)) ((A 298)) ((A 299)) ((A 300)))
theorem QF7_13_eq {Dc : DcS} {D N Dₚ Nₚ : Nat → Nat} {F Fₚ : hF} {A Aₚ : hA} (h : EQD [(292, 0), (292, 1)] [17, 293, 294, 295, 296, 298, 299, 300] [] [] D N F A Dₚ Nₚ Fₚ Aₚ) (q : QF7_13 Dc D N F A) : QF7_13 Dc Dₚ Nₚ Fₚ Aₚ := by
  obtain ⟨hf, ha, hn, hd⟩ := h
  have ef0 : Fₚ 292 0 = F 292 0 := hf (292, 0) (List.mem_of_getElem? (i := 0) rfl)
  have ef1 : Fₚ 292 1 = F 292 1 := hf (292, 1) (List.mem_of_getElem? (i := 1) rfl)
  have ea0 : Aₚ 17 = A 17 := ha 17 (List.mem_of_getElem? (i := 0) rfl)
  have ea1 : Aₚ 293 = A 293 := ha 293 (List.mem_of_getElem? (i := 1) rfl)
  have ea2 : Aₚ 294 = A 294 := ha 294 (List.mem_of_getElem? (i := 2) rfl)
  have ea3 : Aₚ 295 = A 295 := ha 295 (List.mem_of_getElem? (i := 3) rfl)
  have ea4 : Aₚ 296 = A 296 := ha 296 (List.mem_of_getElem? (i := 4) rfl)
  have ea5 : Aₚ 298 = A 298 := ha 298 (List.mem_of_getElem? (i := 5) rfl)
  have ea6 : Aₚ 299 = A 299 := ha 299 (List.mem_of_getElem? (i := 6) rfl)
  have ea7 : Aₚ 300 = A 300 := ha 300 (List.mem_of_getElem? (i := 7) rfl)
  show HID (((Aₚ 17)) 1 = -1 ∨ SL ((Aₚ 293)) ((Fₚ 292 1)) ((Fₚ 292 0)) ((Aₚ 294)) ((Aₚ 295)) ((Aₚ 296)) ((Aₚ 298)) ((Aₚ 299)) ((Aₚ 300)))
  rw [ef0, ef1, ea0, ea1, ea2, ea3, ea4, ea5, ea6, ea7]
  exact q
abbrev QF7_14 (Dc : DcS) (D N : Nat → Nat) (F : hF) (A : hA) : Prop := HID (((A 17)) 2 = -1 ∨ SL ((A 302)) ((F 301 1)) ((F 301 0)) ((A 303)) ((A 304)) ((A 305)) ((A 307)) ((A 308)) ((A 309)))
theorem QF7_14_eq {Dc : DcS} {D N Dₚ Nₚ : Nat → Nat} {F Fₚ : hF} {A Aₚ : hA} (h : EQD [(301, 0), (301, 1)] [17, 302, 303, 304, 305, 307, 308, 309] [] [] D N F A Dₚ Nₚ Fₚ Aₚ) (q : QF7_14 Dc D N F A) : QF7_14 Dc Dₚ Nₚ Fₚ Aₚ := by
  obtain ⟨hf, ha, hn, hd⟩ := h
  have ef0 : Fₚ 301 0 = F 301 0 := hf (301, 0) (List.mem_of_getElem? (i := 0) rfl)
  have ef1 : Fₚ 301 1 = F 301 1 := hf (301, 1) (List.mem_of_getElem? (i := 1) rfl)
  have ea0 : Aₚ 17 = A 17 := ha 17 (List.mem_of_getElem? (i := 0) rfl)
  have ea1 : Aₚ 302 = A 302 := ha 302 (List.mem_of_getElem? (i := 1) rfl)
  have ea2 : Aₚ 303 = A 303 := ha 303 (List.mem_of_getElem? (i := 2) rfl)
  have ea3 : Aₚ 304 = A 304 := ha 304 (List.mem_of_getElem? (i := 3) rfl)
  have ea4 : Aₚ 305 = A 305 := ha 305 (List.mem_of_getElem? (i := 4) rfl)
  have ea5 : Aₚ 307 = A 307 := ha 307 (List.mem_of_getElem? (i := 5) rfl)
  have ea6 : Aₚ 308 = A 308 := ha 308 (List.mem_of_getElem? (i := 6) rfl)
  have ea7 : Aₚ 309 = A 309 := ha 309 (List.mem_of_getElem? (i := 7) rfl)
  show HID (((Aₚ 17)) 2 = -1 ∨ SL ((Aₚ 302)) ((Fₚ 301 1)) ((Fₚ 301 0)) ((Aₚ 303)) ((Aₚ 304)) ((Aₚ 305)) ((Aₚ 307)) ((Aₚ 308)) ((Aₚ 309)))
  rw [ef0, ef1, ea0, ea1, ea2, ea3, ea4, ea5, ea6, ea7]
  exact q
abbrev QF7_15 (Dc : DcS) (D N : Nat → Nat) (F : hF) (A : hA) : Prop := HID (((A 17)) 0 = -1 ∨ (F 283 0) ≤ 9)
theorem QF7_15_eq {Dc : DcS} {D N Dₚ Nₚ : Nat → Nat} {F Fₚ : hF} {A Aₚ : hA} (h : EQD [(283, 0)] [17] [] [] D N F A Dₚ Nₚ Fₚ Aₚ) (q : QF7_15 Dc D N F A) : QF7_15 Dc Dₚ Nₚ Fₚ Aₚ := by
  obtain ⟨hf, ha, hn, hd⟩ := h
  have ef0 : Fₚ 283 0 = F 283 0 := hf (283, 0) (List.mem_of_getElem? (i := 0) rfl)
  have ea0 : Aₚ 17 = A 17 := ha 17 (List.mem_of_getElem? (i := 0) rfl)
  show HID (((Aₚ 17)) 0 = -1 ∨ (Fₚ 283 0) ≤ 9)
  rw [ef0, ea0]
  exact q
abbrev QF7_16 (Dc : DcS) (D N : Nat → Nat) (F : hF) (A : hA) : Prop := HID (((A 17)) 1 = -1 ∨ (F 292 0) ≤ 8)
theorem QF7_16_eq {Dc : DcS} {D N Dₚ Nₚ : Nat → Nat} {F Fₚ : hF} {A Aₚ : hA} (h : EQD [(292, 0)] [17] [] [] D N F A Dₚ Nₚ Fₚ Aₚ) (q : QF7_16 Dc D N F A) : QF7_16 Dc Dₚ Nₚ Fₚ Aₚ := by
  obtain ⟨hf, ha, hn, hd⟩ := h
  have ef0 : Fₚ 292 0 = F 292 0 := hf (292, 0) (List.mem_of_getElem? (i := 0) rfl)
  have ea0 : Aₚ 17 = A 17 := ha 17 (List.mem_of_getElem? (i := 0) rfl)
  show HID (((Aₚ 17)) 1 = -1 ∨ (Fₚ 292 0) ≤ 8)
  rw [ef0, ea0]
  exact q
abbrev QF7_17 (Dc : DcS) (D N : Nat → Nat) (F : hF) (A : hA) : Prop := HID (((A 17)) 2 = -1 ∨ (F 301 0) ≤ 9)
theorem QF7_17_eq {Dc : DcS} {D N Dₚ Nₚ : Nat → Nat} {F Fₚ : hF} {A Aₚ : hA} (h : EQD [(301, 0)] [17] [] [] D N F A Dₚ Nₚ Fₚ Aₚ) (q : QF7_17 Dc D N F A) : QF7_17 Dc Dₚ Nₚ Fₚ Aₚ := by
  obtain ⟨hf, ha, hn, hd⟩ := h
  have ef0 : Fₚ 301 0 = F 301 0 := hf (301, 0) (List.mem_of_getElem? (i := 0) rfl)
  have ea0 : Aₚ 17 = A 17 := ha 17 (List.mem_of_getElem? (i := 0) rfl)
  show HID (((Aₚ 17)) 2 = -1 ∨ (Fₚ 301 0) ≤ 9)
  rw [ef0, ea0]
  exact q
abbrev QF7_18 (Dc : DcS) (D N : Nat → Nat) (F : hF) (A : hA) : Prop := DCQ Dc.2.2.1 ((F 16 0)) ((F 259 3)) ((A 262))
theorem QF7_18_eq {Dc : DcS} {D N Dₚ Nₚ : Nat → Nat} {F Fₚ : hF} {A Aₚ : hA} (h : EQD [(16, 0), (259, 3)] [262] [] [] D N F A Dₚ Nₚ Fₚ Aₚ) (q : QF7_18 Dc D N F A) : QF7_18 Dc Dₚ Nₚ Fₚ Aₚ := by
  obtain ⟨hf, ha, hn, hd⟩ := h
  have ef0 : Fₚ 16 0 = F 16 0 := hf (16, 0) (List.mem_of_getElem? (i := 0) rfl)
  have ef1 : Fₚ 259 3 = F 259 3 := hf (259, 3) (List.mem_of_getElem? (i := 1) rfl)
  have ea0 : Aₚ 262 = A 262 := ha 262 (List.mem_of_getElem? (i := 0) rfl)
  show DCQ Dc.2.2.1 ((Fₚ 16 0)) ((Fₚ 259 3)) ((Aₚ 262))
  rw [ef0, ef1, ea0]
  exact q
abbrev QF7_19 (Dc : DcS) (D N : Nat → Nat) (F : hF) (A : hA) : Prop := DCT (Dc.2.2.2.1 0) (((A 17)) 0) ((F 283 0)) ((F 283 1)) ((A 284))
theorem QF7_19_eq {Dc : DcS} {D N Dₚ Nₚ : Nat → Nat} {F Fₚ : hF} {A Aₚ : hA} (h : EQD [(283, 0), (283, 1)] [17, 284] [] [] D N F A Dₚ Nₚ Fₚ Aₚ) (q : QF7_19 Dc D N F A) : QF7_19 Dc Dₚ Nₚ Fₚ Aₚ := by
  obtain ⟨hf, ha, hn, hd⟩ := h
  have ef0 : Fₚ 283 0 = F 283 0 := hf (283, 0) (List.mem_of_getElem? (i := 0) rfl)
  have ef1 : Fₚ 283 1 = F 283 1 := hf (283, 1) (List.mem_of_getElem? (i := 1) rfl)
  have ea0 : Aₚ 17 = A 17 := ha 17 (List.mem_of_getElem? (i := 0) rfl)
  have ea1 : Aₚ 284 = A 284 := ha 284 (List.mem_of_getElem? (i := 1) rfl)
  show DCT (Dc.2.2.2.1 0) (((Aₚ 17)) 0) ((Fₚ 283 0)) ((Fₚ 283 1)) ((Aₚ 284))
  rw [ef0, ef1, ea0, ea1]
  exact q
abbrev QF7_20 (Dc : DcS) (D N : Nat → Nat) (F : hF) (A : hA) : Prop := DCT (Dc.2.2.2.1 1) (((A 17)) 1) ((F 292 0)) ((F 292 1)) ((A 293))
theorem QF7_20_eq {Dc : DcS} {D N Dₚ Nₚ : Nat → Nat} {F Fₚ : hF} {A Aₚ : hA} (h : EQD [(292, 0), (292, 1)] [17, 293] [] [] D N F A Dₚ Nₚ Fₚ Aₚ) (q : QF7_20 Dc D N F A) : QF7_20 Dc Dₚ Nₚ Fₚ Aₚ := by
  obtain ⟨hf, ha, hn, hd⟩ := h
  have ef0 : Fₚ 292 0 = F 292 0 := hf (292, 0) (List.mem_of_getElem? (i := 0) rfl)
  have ef1 : Fₚ 292 1 = F 292 1 := hf (292, 1) (List.mem_of_getElem? (i := 1) rfl)
  have ea0 : Aₚ 17 = A 17 := ha 17 (List.mem_of_getElem? (i := 0) rfl)
  have ea1 : Aₚ 293 = A 293 := ha 293 (List.mem_of_getElem? (i := 1) rfl)
  show DCT (Dc.2.2.2.1 1) (((Aₚ 17)) 1) ((Fₚ 292 0)) ((Fₚ 292 1)) ((Aₚ 293))
  rw [ef0, ef1, ea0, ea1]
  exact q
abbrev QF7_21 (Dc : DcS) (D N : Nat → Nat) (F : hF) (A : hA) : Prop := DCT (Dc.2.2.2.1 2) (((A 17)) 2) ((F 301 0)) ((F 301 1)) ((A 302))
theorem QF7_21_eq {Dc : DcS} {D N Dₚ Nₚ : Nat → Nat} {F Fₚ : hF} {A Aₚ : hA} (h : EQD [(301, 0), (301, 1)] [17, 302] [] [] D N F A Dₚ Nₚ Fₚ Aₚ) (q : QF7_21 Dc D N F A) : QF7_21 Dc Dₚ Nₚ Fₚ Aₚ := by
  obtain ⟨hf, ha, hn, hd⟩ := h
  have ef0 : Fₚ 301 0 = F 301 0 := hf (301, 0) (List.mem_of_getElem? (i := 0) rfl)
  have ef1 : Fₚ 301 1 = F 301 1 := hf (301, 1) (List.mem_of_getElem? (i := 1) rfl)
  have ea0 : Aₚ 17 = A 17 := ha 17 (List.mem_of_getElem? (i := 0) rfl)
  have ea1 : Aₚ 302 = A 302 := ha 302 (List.mem_of_getElem? (i := 1) rfl)
  show DCT (Dc.2.2.2.1 2) (((Aₚ 17)) 2) ((Fₚ 301 0)) ((Fₚ 301 1)) ((Aₚ 302))
  rw [ef0, ef1, ea0, ea1]
  exact q
abbrev QF7_22 (Dc : DcS) (D N : Nat → Nat) (F : hF) (A : hA) : Prop := DCW Dc.2.2.1 ((F 16 0)) ((F 259 3)) ((A 260)) ((A 262)) ((A 261))
theorem QF7_22_eq {Dc : DcS} {D N Dₚ Nₚ : Nat → Nat} {F Fₚ : hF} {A Aₚ : hA} (h : EQD [(16, 0), (259, 3)] [260, 261, 262] [] [] D N F A Dₚ Nₚ Fₚ Aₚ) (q : QF7_22 Dc D N F A) : QF7_22 Dc Dₚ Nₚ Fₚ Aₚ := by
  obtain ⟨hf, ha, hn, hd⟩ := h
  have ef0 : Fₚ 16 0 = F 16 0 := hf (16, 0) (List.mem_of_getElem? (i := 0) rfl)
  have ef1 : Fₚ 259 3 = F 259 3 := hf (259, 3) (List.mem_of_getElem? (i := 1) rfl)
  have ea0 : Aₚ 260 = A 260 := ha 260 (List.mem_of_getElem? (i := 0) rfl)
  have ea1 : Aₚ 261 = A 261 := ha 261 (List.mem_of_getElem? (i := 1) rfl)
  have ea2 : Aₚ 262 = A 262 := ha 262 (List.mem_of_getElem? (i := 2) rfl)
  show DCW Dc.2.2.1 ((Fₚ 16 0)) ((Fₚ 259 3)) ((Aₚ 260)) ((Aₚ 262)) ((Aₚ 261))
  rw [ef0, ef1, ea0, ea1, ea2]
  exact q
def INV7 (Dc : DcS) (D N : Nat → Nat) (F : hF) (A : hA) : Prop := QF7_0 Dc D N F A ∧ QF7_1 Dc D N F A ∧ QF7_2 Dc D N F A ∧ QF7_3 Dc D N F A ∧ QF7_4 Dc D N F A ∧ QF7_5 Dc D N F A ∧ QF7_6 Dc D N F A ∧ QF7_7 Dc D N F A ∧ QF7_8 Dc D N F A ∧ QF7_9 Dc D N F A ∧ QF7_10 Dc D N F A ∧ QF7_11 Dc D N F A ∧ QF7_12 Dc D N F A ∧ QF7_13 Dc D N F A ∧ QF7_14 Dc D N F A ∧ QF7_15 Dc D N F A ∧ QF7_16 Dc D N F A ∧ QF7_17 Dc D N F A ∧ QF7_18 Dc D N F A ∧ QF7_19 Dc D N F A ∧ QF7_20 Dc D N F A ∧ QF7_21 Dc D N F A ∧ QF7_22 Dc D N F A
theorem INV7_eq {Dc : DcS} {D N Dₚ Nₚ : Nat → Nat} {F Fₚ : hF} {A Aₚ : hA} (h : EQD [(16, 0), (259, 3), (265, 1), (283, 0), (283, 1), (292, 0), (292, 1), (301, 0), (301, 1)] [17, 260, 261, 262, 284, 285, 286, 287, 289, 290, 291, 293, 294, 295, 296, 298, 299, 300, 302, 303, 304, 305, 307, 308, 309] [260, 261, 262, 263, 264, 266, 267, 268, 269, 270, 271, 272, 273, 279, 280, 281, 282, 284, 285, 286, 287, 288, 289, 290, 291, 293, 294, 295, 296, 297, 298, 299, 300, 302, 303, 304, 305, 306, 307, 308, 309] [259, 283, 292, 301] D N F A Dₚ Nₚ Fₚ Aₚ) (q : INV7 Dc D N F A) : INV7 Dc Dₚ Nₚ Fₚ Aₚ := ⟨QF7_0_eq (EQD_sub (by decide +kernel) h) q.1, QF7_1_eq (EQD_sub (by decide +kernel) h) q.2.1, QF7_2_eq (EQD_sub (by decide +kernel) h) q.2.2.1, QF7_3_eq (EQD_sub (by decide +kernel) h) q.2.2.2.1, QF7_4_eq (EQD_sub (by decide +kernel) h) q.2.2.2.2.1, QF7_5_eq (EQD_sub (by decide +kernel) h) q.2.2.2.2.2.1, QF7_6_eq (EQD_sub (by decide +kernel) h) q.2.2.2.2.2.2.1, QF7_7_eq (EQD_sub (by decide +kernel) h) q.2.2.2.2.2.2.2.1, QF7_8_eq (EQD_sub (by decide +kernel) h) q.2.2.2.2.2.2.2.2.1, QF7_9_eq (EQD_sub (by decide +kernel) h) q.2.2.2.2.2.2.2.2.2.1, QF7_10_eq (EQD_sub (by decide +kernel) h) q.2.2.2.2.2.2.2.2.2.2.1, QF7_11_eq (EQD_sub (by decide +kernel) h) q.2.2.2.2.2.2.2.2.2.2.2.1, QF7_12_eq (EQD_sub (by decide +kernel) h) q.2.2.2.2.2.2.2.2.2.2.2.2.1, QF7_13_eq (EQD_sub (by decide +kernel) h) q.2.2.2.2.2.2.2.2.2.2.2.2.2.1, QF7_14_eq (EQD_sub (by decide +kernel) h) q.2.2.2.2.2.2.2.2.2.2.2.2.2.2.1, QF7_15_eq (EQD_sub (by decide +kernel) h) q.2.2.2.2.2.2.2.2.2.2.2.2.2.2.2.1, QF7_16_eq (EQD_sub (by decide +kernel) h) q.2.2.2.2.2.2.2.2.2.2.2.2.2.2.2.2.1, QF7_17_eq (EQD_sub (by decide +kernel) h) q.2.2.2.2.2.2.2.2.2.2.2.2.2.2.2.2.2.1, QF7_18_eq (EQD_sub (by decide +kernel) h) q.2.2.2.2.2.2.2.2.2.2.2.2.2.2.2.2.2.2.1, QF7_19_eq (EQD_sub (by decide +kernel) h) q.2.2.2.2.2.2.2.2.2.2.2.2.2.2.2.2.2.2.2.1, QF7_20_eq (EQD_sub (by decide +kernel) h) q.2.2.2.2.2.2.2.2.2.2.2.2.2.2.2.2.2.2.2.2.1, QF7_21_eq (EQD_sub (by decide +kernel) h) q.2.2.2.2.2.2.2.2.2.2.2.2.2.2.2.2.2.2.2.2.2.1, QF7_22_eq (EQD_sub (by decide +kernel) h) q.2.2.2.2.2.2.2.2.2.2.2.2.2.2.2.2.2.2.2.2.2.2⟩
abbrev QF8_0 (D N : Nat → Nat) (F : hF) (A : hA) : Prop := ((N 333 : Int)) = 3
theorem QF8_0_eq {D N Dₚ Nₚ : Nat → Nat} {F Fₚ : hF} {A Aₚ : hA} (h : EQD [] [] [333] [] D N F A Dₚ Nₚ Fₚ Aₚ) (q : QF8_0 D N F A) : QF8_0 Dₚ Nₚ Fₚ Aₚ := by
  obtain ⟨hf, ha, hn, hd⟩ := h
  have en0 : Nₚ 333 = N 333 := hn 333 (List.mem_of_getElem? (i := 0) rfl)
  show ((Nₚ 333 : Int)) = 3
  rw [en0]
  exact q
abbrev QF8_1 (D N : Nat → Nat) (F : hF) (A : hA) : Prop := CDZD (((N 311 : Int))) (((N 312 : Int))) (((N 313 : Int))) (((N 314 : Int))) (((N 315 : Int))) (((N 330 : Int))) (((N 331 : Int))) (((N 332 : Int)))
theorem QF8_1_eq {D N Dₚ Nₚ : Nat → Nat} {F Fₚ : hF} {A Aₚ : hA} (h : EQD [] [] [311, 312, 313, 314, 315, 330, 331, 332] [] D N F A Dₚ Nₚ Fₚ Aₚ) (q : QF8_1 D N F A) : QF8_1 Dₚ Nₚ Fₚ Aₚ := by
  obtain ⟨hf, ha, hn, hd⟩ := h
  have en0 : Nₚ 311 = N 311 := hn 311 (List.mem_of_getElem? (i := 0) rfl)
  have en1 : Nₚ 312 = N 312 := hn 312 (List.mem_of_getElem? (i := 1) rfl)
  have en2 : Nₚ 313 = N 313 := hn 313 (List.mem_of_getElem? (i := 2) rfl)
  have en3 : Nₚ 314 = N 314 := hn 314 (List.mem_of_getElem? (i := 3) rfl)
  have en4 : Nₚ 315 = N 315 := hn 315 (List.mem_of_getElem? (i := 4) rfl)
  have en5 : Nₚ 330 = N 330 := hn 330 (List.mem_of_getElem? (i := 5) rfl)
  have en6 : Nₚ 331 = N 331 := hn 331 (List.mem_of_getElem? (i := 6) rfl)
  have en7 : Nₚ 332 = N 332 := hn 332 (List.mem_of_getElem? (i := 7) rfl)
  show CDZD (((Nₚ 311 : Int))) (((Nₚ 312 : Int))) (((Nₚ 313 : Int))) (((Nₚ 314 : Int))) (((Nₚ 315 : Int))) (((Nₚ 330 : Int))) (((Nₚ 331 : Int))) (((Nₚ 332 : Int)))
  rw [en0, en1, en2, en3, en4, en5, en6, en7]
  exact q
abbrev QF8_2 (D N : Nat → Nat) (F : hF) (A : hA) : Prop := SHZD (((N 317 : Int))) (((N 318 : Int))) (((N 319 : Int))) (((N 320 : Int))) (((N 321 : Int))) (((N 322 : Int))) (((N 323 : Int))) (((N 324 : Int))) ((F 316 1)) 12 64
theorem QF8_2_eq {D N Dₚ Nₚ : Nat → Nat} {F Fₚ : hF} {A Aₚ : hA} (h : EQD [(316, 1)] [] [317, 318, 319, 320, 321, 322, 323, 324] [] D N F A Dₚ Nₚ Fₚ Aₚ) (q : QF8_2 D N F A) : QF8_2 Dₚ Nₚ Fₚ Aₚ := by
  obtain ⟨hf, ha, hn, hd⟩ := h
  have ef0 : Fₚ 316 1 = F 316 1 := hf (316, 1) (List.mem_of_getElem? (i := 0) rfl)
  have en0 : Nₚ 317 = N 317 := hn 317 (List.mem_of_getElem? (i := 0) rfl)
  have en1 : Nₚ 318 = N 318 := hn 318 (List.mem_of_getElem? (i := 1) rfl)
  have en2 : Nₚ 319 = N 319 := hn 319 (List.mem_of_getElem? (i := 2) rfl)
  have en3 : Nₚ 320 = N 320 := hn 320 (List.mem_of_getElem? (i := 3) rfl)
  have en4 : Nₚ 321 = N 321 := hn 321 (List.mem_of_getElem? (i := 4) rfl)
  have en5 : Nₚ 322 = N 322 := hn 322 (List.mem_of_getElem? (i := 5) rfl)
  have en6 : Nₚ 323 = N 323 := hn 323 (List.mem_of_getElem? (i := 6) rfl)
  have en7 : Nₚ 324 = N 324 := hn 324 (List.mem_of_getElem? (i := 7) rfl)
  show SHZD (((Nₚ 317 : Int))) (((Nₚ 318 : Int))) (((Nₚ 319 : Int))) (((Nₚ 320 : Int))) (((Nₚ 321 : Int))) (((Nₚ 322 : Int))) (((Nₚ 323 : Int))) (((Nₚ 324 : Int))) ((Fₚ 316 1)) 12 64
  rw [ef0, en0, en1, en2, en3, en4, en5, en6, en7]
  exact q
abbrev QF8_3 (D N : Nat → Nat) (F : hF) (A : hA) : Prop := SHZD (((N 335 : Int))) (((N 336 : Int))) (((N 337 : Int))) (((N 338 : Int))) (((N 339 : Int))) (((N 340 : Int))) (((N 341 : Int))) (((N 342 : Int))) ((F 334 1)) 36 512
theorem QF8_3_eq {D N Dₚ Nₚ : Nat → Nat} {F Fₚ : hF} {A Aₚ : hA} (h : EQD [(334, 1)] [] [335, 336, 337, 338, 339, 340, 341, 342] [] D N F A Dₚ Nₚ Fₚ Aₚ) (q : QF8_3 D N F A) : QF8_3 Dₚ Nₚ Fₚ Aₚ := by
  obtain ⟨hf, ha, hn, hd⟩ := h
  have ef0 : Fₚ 334 1 = F 334 1 := hf (334, 1) (List.mem_of_getElem? (i := 0) rfl)
  have en0 : Nₚ 335 = N 335 := hn 335 (List.mem_of_getElem? (i := 0) rfl)
  have en1 : Nₚ 336 = N 336 := hn 336 (List.mem_of_getElem? (i := 1) rfl)
  have en2 : Nₚ 337 = N 337 := hn 337 (List.mem_of_getElem? (i := 2) rfl)
  have en3 : Nₚ 338 = N 338 := hn 338 (List.mem_of_getElem? (i := 3) rfl)
  have en4 : Nₚ 339 = N 339 := hn 339 (List.mem_of_getElem? (i := 4) rfl)
  have en5 : Nₚ 340 = N 340 := hn 340 (List.mem_of_getElem? (i := 5) rfl)
  have en6 : Nₚ 341 = N 341 := hn 341 (List.mem_of_getElem? (i := 6) rfl)
  have en7 : Nₚ 342 = N 342 := hn 342 (List.mem_of_getElem? (i := 7) rfl)
  show SHZD (((Nₚ 335 : Int))) (((Nₚ 336 : Int))) (((Nₚ 337 : Int))) (((Nₚ 338 : Int))) (((Nₚ 339 : Int))) (((Nₚ 340 : Int))) (((Nₚ 341 : Int))) (((Nₚ 342 : Int))) ((Fₚ 334 1)) 36 512
  rw [ef0, en0, en1, en2, en3, en4, en5, en6, en7]
  exact q
abbrev QF8_4 (D N : Nat → Nat) (F : hF) (A : hA) : Prop := SHZD (((N 344 : Int))) (((N 345 : Int))) (((N 346 : Int))) (((N 347 : Int))) (((N 348 : Int))) (((N 349 : Int))) (((N 350 : Int))) (((N 351 : Int))) ((F 343 1)) 32 256
theorem QF8_4_eq {D N Dₚ Nₚ : Nat → Nat} {F Fₚ : hF} {A Aₚ : hA} (h : EQD [(343, 1)] [] [344, 345, 346, 347, 348, 349, 350, 351] [] D N F A Dₚ Nₚ Fₚ Aₚ) (q : QF8_4 D N F A) : QF8_4 Dₚ Nₚ Fₚ Aₚ := by
  obtain ⟨hf, ha, hn, hd⟩ := h
  have ef0 : Fₚ 343 1 = F 343 1 := hf (343, 1) (List.mem_of_getElem? (i := 0) rfl)
  have en0 : Nₚ 344 = N 344 := hn 344 (List.mem_of_getElem? (i := 0) rfl)
  have en1 : Nₚ 345 = N 345 := hn 345 (List.mem_of_getElem? (i := 1) rfl)
  have en2 : Nₚ 346 = N 346 := hn 346 (List.mem_of_getElem? (i := 2) rfl)
  have en3 : Nₚ 347 = N 347 := hn 347 (List.mem_of_getElem? (i := 3) rfl)
  have en4 : Nₚ 348 = N 348 := hn 348 (List.mem_of_getElem? (i := 4) rfl)
  have en5 : Nₚ 349 = N 349 := hn 349 (List.mem_of_getElem? (i := 5) rfl)
  have en6 : Nₚ 350 = N 350 := hn 350 (List.mem_of_getElem? (i := 6) rfl)
  have en7 : Nₚ 351 = N 351 := hn 351 (List.mem_of_getElem? (i := 7) rfl)
  show SHZD (((Nₚ 344 : Int))) (((Nₚ 345 : Int))) (((Nₚ 346 : Int))) (((Nₚ 347 : Int))) (((Nₚ 348 : Int))) (((Nₚ 349 : Int))) (((Nₚ 350 : Int))) (((Nₚ 351 : Int))) ((Fₚ 343 1)) 32 256
  rw [ef0, en0, en1, en2, en3, en4, en5, en6, en7]
  exact q
abbrev QF8_5 (D N : Nat → Nat) (F : hF) (A : hA) : Prop := SHZD (((N 353 : Int))) (((N 354 : Int))) (((N 355 : Int))) (((N 356 : Int))) (((N 357 : Int))) (((N 358 : Int))) (((N 359 : Int))) (((N 360 : Int))) ((F 352 1)) 53 512
theorem QF8_5_eq {D N Dₚ Nₚ : Nat → Nat} {F Fₚ : hF} {A Aₚ : hA} (h : EQD [(352, 1)] [] [353, 354, 355, 356, 357, 358, 359, 360] [] D N F A Dₚ Nₚ Fₚ Aₚ) (q : QF8_5 D N F A) : QF8_5 Dₚ Nₚ Fₚ Aₚ := by
  obtain ⟨hf, ha, hn, hd⟩ := h
  have ef0 : Fₚ 352 1 = F 352 1 := hf (352, 1) (List.mem_of_getElem? (i := 0) rfl)
  have en0 : Nₚ 353 = N 353 := hn 353 (List.mem_of_getElem? (i := 0) rfl)
  have en1 : Nₚ 354 = N 354 := hn 354 (List.mem_of_getElem? (i := 1) rfl)
  have en2 : Nₚ 355 = N 355 := hn 355 (List.mem_of_getElem? (i := 2) rfl)
  have en3 : Nₚ 356 = N 356 := hn 356 (List.mem_of_getElem? (i := 3) rfl)
  have en4 : Nₚ 357 = N 357 := hn 357 (List.mem_of_getElem? (i := 4) rfl)
  have en5 : Nₚ 358 = N 358 := hn 358 (List.mem_of_getElem? (i := 5) rfl)
  have en6 : Nₚ 359 = N 359 := hn 359 (List.mem_of_getElem? (i := 6) rfl)
  have en7 : Nₚ 360 = N 360 := hn 360 (List.mem_of_getElem? (i := 7) rfl)
  show SHZD (((Nₚ 353 : Int))) (((Nₚ 354 : Int))) (((Nₚ 355 : Int))) (((Nₚ 356 : Int))) (((Nₚ 357 : Int))) (((Nₚ 358 : Int))) (((Nₚ 359 : Int))) (((Nₚ 360 : Int))) ((Fₚ 352 1)) 53 512
  rw [ef0, en0, en1, en2, en3, en4, en5, en6, en7]
  exact q
abbrev QF8_6 (D N : Nat → Nat) (F : hF) (A : hA) : Prop := CEL ((A 313))
theorem QF8_6_eq {D N Dₚ Nₚ : Nat → Nat} {F Fₚ : hF} {A Aₚ : hA} (h : EQD [] [313] [] [] D N F A Dₚ Nₚ Fₚ Aₚ) (q : QF8_6 D N F A) : QF8_6 Dₚ Nₚ Fₚ Aₚ := by
  obtain ⟨hf, ha, hn, hd⟩ := h
  have ea0 : Aₚ 313 = A 313 := ha 313 (List.mem_of_getElem? (i := 0) rfl)
  show CEL ((Aₚ 313))
  rw [ea0]
  exact q
def INV8 (D N : Nat → Nat) (F : hF) (A : hA) : Prop := QF8_0 D N F A ∧ QF8_1 D N F A ∧ QF8_2 D N F A ∧ QF8_3 D N F A ∧ QF8_4 D N F A ∧ QF8_5 D N F A ∧ QF8_6 D N F A
theorem INV8_eq {D N Dₚ Nₚ : Nat → Nat} {F Fₚ : hF} {A Aₚ : hA} (h : EQD [(316, 1), (334, 1), (343, 1), (352, 1)] [313] [311, 312, 313, 314, 315, 317, 318, 319, 320, 321, 322, 323, 324, 330, 331, 332, 333, 335, 336, 337, 338, 339, 340, 341, 342, 344, 345, 346, 347, 348, 349, 350, 351, 353, 354, 355, 356, 357, 358, 359, 360] [] D N F A Dₚ Nₚ Fₚ Aₚ) (q : INV8 D N F A) : INV8 Dₚ Nₚ Fₚ Aₚ := ⟨QF8_0_eq (EQD_sub (by decide +kernel) h) q.1, QF8_1_eq (EQD_sub (by decide +kernel) h) q.2.1, QF8_2_eq (EQD_sub (by decide +kernel) h) q.2.2.1, QF8_3_eq (EQD_sub (by decide +kernel) h) q.2.2.2.1, QF8_4_eq (EQD_sub (by decide +kernel) h) q.2.2.2.2.1, QF8_5_eq (EQD_sub (by decide +kernel) h) q.2.2.2.2.2.1, QF8_6_eq (EQD_sub (by decide +kernel) h) q.2.2.2.2.2.2⟩
abbrev QF9_0 (Dc : DcS) (D N : Nat → Nat) (F : hF) (A : hA) : Prop := (F 16 0) = -1
theorem QF9_0_eq {Dc : DcS} {D N Dₚ Nₚ : Nat → Nat} {F Fₚ : hF} {A Aₚ : hA} (h : EQD [(16, 0)] [] [] [] D N F A Dₚ Nₚ Fₚ Aₚ) (q : QF9_0 Dc D N F A) : QF9_0 Dc Dₚ Nₚ Fₚ Aₚ := by
  obtain ⟨hf, ha, hn, hd⟩ := h
  have ef0 : Fₚ 16 0 = F 16 0 := hf (16, 0) (List.mem_of_getElem? (i := 0) rfl)
  show (Fₚ 16 0) = -1
  rw [ef0]
  exact q
abbrev QF9_1 (Dc : DcS) (D N : Nat → Nat) (F : hF) (A : hA) : Prop := ((A 17)) 0 = -1
theorem QF9_1_eq {Dc : DcS} {D N Dₚ Nₚ : Nat → Nat} {F Fₚ : hF} {A Aₚ : hA} (h : EQD [] [17] [] [] D N F A Dₚ Nₚ Fₚ Aₚ) (q : QF9_1 Dc D N F A) : QF9_1 Dc Dₚ Nₚ Fₚ Aₚ := by
  obtain ⟨hf, ha, hn, hd⟩ := h
  have ea0 : Aₚ 17 = A 17 := ha 17 (List.mem_of_getElem? (i := 0) rfl)
  show ((Aₚ 17)) 0 = -1
  rw [ea0]
  exact q
abbrev QF9_2 (Dc : DcS) (D N : Nat → Nat) (F : hF) (A : hA) : Prop := ((A 17)) 1 = -1
theorem QF9_2_eq {Dc : DcS} {D N Dₚ Nₚ : Nat → Nat} {F Fₚ : hF} {A Aₚ : hA} (h : EQD [] [17] [] [] D N F A Dₚ Nₚ Fₚ Aₚ) (q : QF9_2 Dc D N F A) : QF9_2 Dc Dₚ Nₚ Fₚ Aₚ := by
  obtain ⟨hf, ha, hn, hd⟩ := h
  have ea0 : Aₚ 17 = A 17 := ha 17 (List.mem_of_getElem? (i := 0) rfl)
  show ((Aₚ 17)) 1 = -1
  rw [ea0]
  exact q
abbrev QF9_3 (Dc : DcS) (D N : Nat → Nat) (F : hF) (A : hA) : Prop := ((A 17)) 2 = -1
theorem QF9_3_eq {Dc : DcS} {D N Dₚ Nₚ : Nat → Nat} {F Fₚ : hF} {A Aₚ : hA} (h : EQD [] [17] [] [] D N F A Dₚ Nₚ Fₚ Aₚ) (q : QF9_3 Dc D N F A) : QF9_3 Dc Dₚ Nₚ Fₚ Aₚ := by
  obtain ⟨hf, ha, hn, hd⟩ := h
  have ea0 : Aₚ 17 = A 17 := ha 17 (List.mem_of_getElem? (i := 0) rfl)
  show ((Aₚ 17)) 2 = -1
  rw [ea0]
  exact q
abbrev QF9_4 (Dc : DcS) (D N : Nat → Nat) (F : hF) (A : hA) : Prop := Dc.2.2.1.1 = 0
theorem QF9_4_eq {Dc : DcS} {D N Dₚ Nₚ : Nat → Nat} {F Fₚ : hF} {A Aₚ : hA} (h : EQD [] [] [] [] D N F A Dₚ Nₚ Fₚ Aₚ) (q : QF9_4 Dc D N F A) : QF9_4 Dc Dₚ Nₚ Fₚ Aₚ := by
  exact q
abbrev QF9_5 (Dc : DcS) (D N : Nat → Nat) (F : hF) (A : hA) : Prop := (Dc.2.2.2.1 0).1 < 0
theorem QF9_5_eq {Dc : DcS} {D N Dₚ Nₚ : Nat → Nat} {F Fₚ : hF} {A Aₚ : hA} (h : EQD [] [] [] [] D N F A Dₚ Nₚ Fₚ Aₚ) (q : QF9_5 Dc D N F A) : QF9_5 Dc Dₚ Nₚ Fₚ Aₚ := by
  exact q
abbrev QF9_6 (Dc : DcS) (D N : Nat → Nat) (F : hF) (A : hA) : Prop := (Dc.2.2.2.1 1).1 < 0
theorem QF9_6_eq {Dc : DcS} {D N Dₚ Nₚ : Nat → Nat} {F Fₚ : hF} {A Aₚ : hA} (h : EQD [] [] [] [] D N F A Dₚ Nₚ Fₚ Aₚ) (q : QF9_6 Dc D N F A) : QF9_6 Dc Dₚ Nₚ Fₚ Aₚ := by
  exact q
abbrev QF9_7 (Dc : DcS) (D N : Nat → Nat) (F : hF) (A : hA) : Prop := (Dc.2.2.2.1 2).1 < 0
theorem QF9_7_eq {Dc : DcS} {D N Dₚ Nₚ : Nat → Nat} {F Fₚ : hF} {A Aₚ : hA} (h : EQD [] [] [] [] D N F A Dₚ Nₚ Fₚ Aₚ) (q : QF9_7 Dc D N F A) : QF9_7 Dc Dₚ Nₚ Fₚ Aₚ := by
  exact q
def INV9 (Dc : DcS) (D N : Nat → Nat) (F : hF) (A : hA) : Prop := QF9_0 Dc D N F A ∧ QF9_1 Dc D N F A ∧ QF9_2 Dc D N F A ∧ QF9_3 Dc D N F A ∧ QF9_4 Dc D N F A ∧ QF9_5 Dc D N F A ∧ QF9_6 Dc D N F A ∧ QF9_7 Dc D N F A
theorem INV9_eq {Dc : DcS} {D N Dₚ Nₚ : Nat → Nat} {F Fₚ : hF} {A Aₚ : hA} (h : EQD [(16, 0)] [17] [] [] D N F A Dₚ Nₚ Fₚ Aₚ) (q : INV9 Dc D N F A) : INV9 Dc Dₚ Nₚ Fₚ Aₚ := ⟨QF9_0_eq (EQD_sub (by decide +kernel) h) q.1, QF9_1_eq (EQD_sub (by decide +kernel) h) q.2.1, QF9_2_eq (EQD_sub (by decide +kernel) h) q.2.2.1, QF9_3_eq (EQD_sub (by decide +kernel) h) q.2.2.2.1, QF9_4_eq (EQD_sub (by decide +kernel) h) q.2.2.2.2.1, QF9_5_eq (EQD_sub (by decide +kernel) h) q.2.2.2.2.2.1, QF9_6_eq (EQD_sub (by decide +kernel) h) q.2.2.2.2.2.2.1, QF9_7_eq (EQD_sub (by decide +kernel) h) q.2.2.2.2.2.2.2⟩
def PHI (Dc : DcS) (g : Nat → Bool) (σ : rS) (D N : Nat → Nat) (F : hF) (A : hA) : Prop := HWs (SPH g) VPH σ D N F A ∧ STC σ ∧ g 0 = true ∧ PFI g D F A ∧ ABS g F ∧ NZ g N ∧ GI g ∧ INV0 Dc D N F A ∧ (g 1 = true → INV1 D N F A) ∧ (g 2 = true → INV2 D N F A) ∧ (g 3 = true → INV3 D N F A) ∧ (g 4 = true → INV4 D N F A) ∧ (g 5 = true → INV5 D N F A) ∧ (g 6 = true → INV6 D N F A) ∧ (g 7 = true → INV7 Dc D N F A) ∧ (g 8 = true → INV8 D N F A) ∧ (g 7 = false → INV9 Dc D N F A)


end
section
/-! T2a.shw -/
noncomputable def rwC (F : hF) (A : hA) : Int → List Int := rw4 (sc (A 3) 0 (F 2 1)) (sc (A 5) 0 (F 4 1)) (sc (A 7) 0 (F 6 1)) (sc (A 9) 0 (F 8 1))
noncomputable def paC (F : hF) (A : hA) : List Int := sc (A 12) 0 (F 11 1)
def k5C (A : hA) : C5t := (A 30 0, A 30 1, A 30 2, A 30 3, A 30 4)
section shwx
variable {g : Nat → Bool} {D N Dₚ Nₚ D2 N2 : Nat → Nat} {F Fₚ F2 : hF} {A Aₚ A2 : hA} {LF : List (Nat × Nat)} {LA : List Nat}
theorem EQD_tr (h : EQD LF LA [] [] D N F A Dₚ Nₚ Fₚ Aₚ) (k : EQD LF LA [] [] Dₚ Nₚ Fₚ Aₚ D2 N2 F2 A2) : EQD LF LA [] [] D N F A D2 N2 F2 A2 := ⟨fun q hq => (k.1 q hq).trans (h.1 q hq), fun x hx => (k.2.1 x hx).trans (h.2.1 x hx), fun _ h => absurd h List.not_mem_nil, fun _ h => absurd h List.not_mem_nil⟩
theorem EQD_c {q : Nat × Nat} (hq : Fₚ q.1 q.2 = F q.1 q.2) (h : EQD LF LA [] [] D N F A Dₚ Nₚ Fₚ Aₚ) : EQD (q :: LF) LA [] [] D N F A Dₚ Nₚ Fₚ Aₚ := ⟨fun p hp => (List.mem_cons.mp hp).elim (fun e => by rw [e]; exact hq) (fun e => h.1 p e), h.2.1, h.2.2.1, h.2.2.2⟩
theorem EQD_re : EQD LF LA [] [] D N F A D N F A := ⟨fun _ _ => rfl, fun _ _ => rfl, fun _ _ => rfl, fun _ _ => rfl⟩
theorem nbr : ∀ n : Nat, Nat.beq n n = true
  | 0 => rfl
  | n + 1 => nbr n
theorem KEP_EQ {x0 : Nat} (K : KEP g x0 D N F A Dₚ Nₚ Fₚ Aₚ) (h0 : Fₚ 0 18 = F 0 18) (hg : g 0 = true) (h : (LF.all (fun q => decide (q = (0, 18)) || (Nat.blt q.1 VPH.length && (Nat.beq (GPH.getD q.1 0) 0 && !(Nat.beq q.1 x0)))) && LA.all (fun x => Nat.blt x VPH.length && (Nat.beq (GPH.getD x 0) 0 && !(Nat.beq x x0)))) = true) : EQD LF LA [] [] D N F A Dₚ Nₚ Fₚ Aₚ := by
  rw [Bool.and_eq_true, List.all_eq_true, List.all_eq_true] at h
  refine ⟨fun q hq => ?_, fun x hx => ?_, fun _ h => absurd h List.not_mem_nil, fun _ h => absurd h List.not_mem_nil⟩
  · have w := h.1 q hq
    rw [Bool.or_eq_true] at w
    rcases w with w | w
    · have e := of_decide_eq_true w
      subst e
      exact h0
    · rw [Bool.and_eq_true, Bool.and_eq_true] at w
      have a := K q.1 (blt_of w.1) (show g (GPH.getD q.1 0) = true by rw [Nat.eq_of_beq_eq_true w.2.1]; exact hg)
      exact congrFun (a.2 (fun e => by have w2 := w.2.2; rw [e, nbr] at w2; exact absurd w2 (by decide))).2.2 q.2
  · have w := h.2 x hx
    rw [Bool.and_eq_true, Bool.and_eq_true] at w
    have a := K x (blt_of w.1) (show g (GPH.getD x 0) = true by rw [Nat.eq_of_beq_eq_true w.2.1]; exact hg)
    exact (a.2 (fun e => by have w2 := w.2.2; rw [e, nbr] at w2; exact absurd w2 (by decide))).2.1
theorem rwC_e (h : EQD [(2, 1), (4, 1), (6, 1), (8, 1)] [3, 5, 7, 9] [] [] D N F A Dₚ Nₚ Fₚ Aₚ) : rwC Fₚ Aₚ = rwC F A := by
  unfold rwC
  rw [h.1 (2, 1) (by decide), h.1 (4, 1) (by decide), h.1 (6, 1) (by decide), h.1 (8, 1) (by decide), h.2.1 3 (by decide), h.2.1 5 (by decide), h.2.1 7 (by decide), h.2.1 9 (by decide)]
theorem paC_e (h : EQD [(11, 1)] [12] [] [] D N F A Dₚ Nₚ Fₚ Aₚ) : paC Fₚ Aₚ = paC F A := by
  unfold paC
  rw [h.1 (11, 1) (by decide), h.2.1 12 (by decide)]
theorem k5C_e (h : EQD [] [30] [] [] D N F A Dₚ Nₚ Fₚ Aₚ) : k5C Aₚ = k5C A := by
  unfold k5C
  rw [h.2.1 30 (by decide)]
end shwx
theorem okd_of {d : Int} (h : 0 ≤ d ∧ d ≤ 3) : okd d := h


end
