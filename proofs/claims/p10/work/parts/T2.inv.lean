/-! what holds between calls -/
abbrev QF0_0 (D N : Nat → Nat) (F : hF) (A : hA) : Prop := 0 ≤ (F 2 1) ∧ (F 2 1) ≤ ((N 3 : Int)) ∧ ((N 3 : Int)) ≤ 65536
theorem QF0_0_eq {D N D' N' : Nat → Nat} {F F' : hF} {A A' : hA} (h : EQD [(2, 1)] [] [3] [] D N F A D' N' F' A') (q : QF0_0 D N F A) : QF0_0 D' N' F' A' := by
  obtain ⟨hf, ha, hn, hd⟩ := h
  have ef0 : F' 2 1 = F 2 1 := hf (2, 1) (List.mem_of_getElem? (i := 0) rfl)
  have en0 : N' 3 = N 3 := hn 3 (List.mem_of_getElem? (i := 0) rfl)
  show 0 ≤ (F' 2 1) ∧ (F' 2 1) ≤ ((N' 3 : Int)) ∧ ((N' 3 : Int)) ≤ 65536
  rw [ef0, en0]
  exact q
abbrev QF0_1 (D N : Nat → Nat) (F : hF) (A : hA) : Prop := 0 ≤ (F 4 1) ∧ (F 4 1) ≤ ((N 5 : Int)) ∧ ((N 5 : Int)) ≤ 65536
theorem QF0_1_eq {D N D' N' : Nat → Nat} {F F' : hF} {A A' : hA} (h : EQD [(4, 1)] [] [5] [] D N F A D' N' F' A') (q : QF0_1 D N F A) : QF0_1 D' N' F' A' := by
  obtain ⟨hf, ha, hn, hd⟩ := h
  have ef0 : F' 4 1 = F 4 1 := hf (4, 1) (List.mem_of_getElem? (i := 0) rfl)
  have en0 : N' 5 = N 5 := hn 5 (List.mem_of_getElem? (i := 0) rfl)
  show 0 ≤ (F' 4 1) ∧ (F' 4 1) ≤ ((N' 5 : Int)) ∧ ((N' 5 : Int)) ≤ 65536
  rw [ef0, en0]
  exact q
abbrev QF0_2 (D N : Nat → Nat) (F : hF) (A : hA) : Prop := 0 ≤ (F 6 1) ∧ (F 6 1) ≤ ((N 7 : Int)) ∧ ((N 7 : Int)) ≤ 65536
theorem QF0_2_eq {D N D' N' : Nat → Nat} {F F' : hF} {A A' : hA} (h : EQD [(6, 1)] [] [7] [] D N F A D' N' F' A') (q : QF0_2 D N F A) : QF0_2 D' N' F' A' := by
  obtain ⟨hf, ha, hn, hd⟩ := h
  have ef0 : F' 6 1 = F 6 1 := hf (6, 1) (List.mem_of_getElem? (i := 0) rfl)
  have en0 : N' 7 = N 7 := hn 7 (List.mem_of_getElem? (i := 0) rfl)
  show 0 ≤ (F' 6 1) ∧ (F' 6 1) ≤ ((N' 7 : Int)) ∧ ((N' 7 : Int)) ≤ 65536
  rw [ef0, en0]
  exact q
abbrev QF0_3 (D N : Nat → Nat) (F : hF) (A : hA) : Prop := 0 ≤ (F 8 1) ∧ (F 8 1) ≤ ((N 9 : Int)) ∧ ((N 9 : Int)) ≤ 65536
theorem QF0_3_eq {D N D' N' : Nat → Nat} {F F' : hF} {A A' : hA} (h : EQD [(8, 1)] [] [9] [] D N F A D' N' F' A') (q : QF0_3 D N F A) : QF0_3 D' N' F' A' := by
  obtain ⟨hf, ha, hn, hd⟩ := h
  have ef0 : F' 8 1 = F 8 1 := hf (8, 1) (List.mem_of_getElem? (i := 0) rfl)
  have en0 : N' 9 = N 9 := hn 9 (List.mem_of_getElem? (i := 0) rfl)
  show 0 ≤ (F' 8 1) ∧ (F' 8 1) ≤ ((N' 9 : Int)) ∧ ((N' 9 : Int)) ≤ 65536
  rw [ef0, en0]
  exact q
abbrev QF0_4 (D N : Nat → Nat) (F : hF) (A : hA) : Prop := 0 ≤ (F 11 1) ∧ (F 11 1) ≤ ((N 12 : Int)) ∧ ((N 12 : Int)) ≤ 65536
theorem QF0_4_eq {D N D' N' : Nat → Nat} {F F' : hF} {A A' : hA} (h : EQD [(11, 1)] [] [12] [] D N F A D' N' F' A') (q : QF0_4 D N F A) : QF0_4 D' N' F' A' := by
  obtain ⟨hf, ha, hn, hd⟩ := h
  have ef0 : F' 11 1 = F 11 1 := hf (11, 1) (List.mem_of_getElem? (i := 0) rfl)
  have en0 : N' 12 = N 12 := hn 12 (List.mem_of_getElem? (i := 0) rfl)
  show 0 ≤ (F' 11 1) ∧ (F' 11 1) ≤ ((N' 12 : Int)) ∧ ((N' 12 : Int)) ≤ 65536
  rw [ef0, en0]
  exact q
abbrev QF0_5 (D N : Nat → Nat) (F : hF) (A : hA) : Prop := 0 ≤ (F 25 1) ∧ (F 25 1) ≤ ((N 26 : Int)) ∧ ((N 26 : Int)) ≤ 65536
theorem QF0_5_eq {D N D' N' : Nat → Nat} {F F' : hF} {A A' : hA} (h : EQD [(25, 1)] [] [26] [] D N F A D' N' F' A') (q : QF0_5 D N F A) : QF0_5 D' N' F' A' := by
  obtain ⟨hf, ha, hn, hd⟩ := h
  have ef0 : F' 25 1 = F 25 1 := hf (25, 1) (List.mem_of_getElem? (i := 0) rfl)
  have en0 : N' 26 = N 26 := hn 26 (List.mem_of_getElem? (i := 0) rfl)
  show 0 ≤ (F' 25 1) ∧ (F' 25 1) ≤ ((N' 26 : Int)) ∧ ((N' 26 : Int)) ≤ 65536
  rw [ef0, en0]
  exact q
abbrev QF0_6 (D N : Nat → Nat) (F : hF) (A : hA) : Prop := 0 ≤ (F 27 1) ∧ (F 27 1) ≤ ((N 28 : Int)) ∧ ((N 28 : Int)) ≤ 65536
theorem QF0_6_eq {D N D' N' : Nat → Nat} {F F' : hF} {A A' : hA} (h : EQD [(27, 1)] [] [28] [] D N F A D' N' F' A') (q : QF0_6 D N F A) : QF0_6 D' N' F' A' := by
  obtain ⟨hf, ha, hn, hd⟩ := h
  have ef0 : F' 27 1 = F 27 1 := hf (27, 1) (List.mem_of_getElem? (i := 0) rfl)
  have en0 : N' 28 = N 28 := hn 28 (List.mem_of_getElem? (i := 0) rfl)
  show 0 ≤ (F' 27 1) ∧ (F' 27 1) ≤ ((N' 28 : Int)) ∧ ((N' 28 : Int)) ≤ 65536
  rw [ef0, en0]
  exact q
abbrev QF0_7 (D N : Nat → Nat) (F : hF) (A : hA) : Prop := 0 ≤ (F 14 1) ∧ (F 14 1) ≤ ((N 15 : Int)) ∧ ((N 15 : Int)) ≤ 65536
theorem QF0_7_eq {D N D' N' : Nat → Nat} {F F' : hF} {A A' : hA} (h : EQD [(14, 1)] [] [15] [] D N F A D' N' F' A') (q : QF0_7 D N F A) : QF0_7 D' N' F' A' := by
  obtain ⟨hf, ha, hn, hd⟩ := h
  have ef0 : F' 14 1 = F 14 1 := hf (14, 1) (List.mem_of_getElem? (i := 0) rfl)
  have en0 : N' 15 = N 15 := hn 15 (List.mem_of_getElem? (i := 0) rfl)
  show 0 ≤ (F' 14 1) ∧ (F' 14 1) ≤ ((N' 15 : Int)) ∧ ((N' 15 : Int)) ≤ 65536
  rw [ef0, en0]
  exact q
abbrev QF0_8 (D N : Nat → Nat) (F : hF) (A : hA) : Prop := 0 ≤ (F 20 1) ∧ (F 20 1) ≤ ((N 21 : Int)) ∧ ((N 21 : Int)) ≤ 65536
theorem QF0_8_eq {D N D' N' : Nat → Nat} {F F' : hF} {A A' : hA} (h : EQD [(20, 1)] [] [21] [] D N F A D' N' F' A') (q : QF0_8 D N F A) : QF0_8 D' N' F' A' := by
  obtain ⟨hf, ha, hn, hd⟩ := h
  have ef0 : F' 20 1 = F 20 1 := hf (20, 1) (List.mem_of_getElem? (i := 0) rfl)
  have en0 : N' 21 = N 21 := hn 21 (List.mem_of_getElem? (i := 0) rfl)
  show 0 ≤ (F' 20 1) ∧ (F' 20 1) ≤ ((N' 21 : Int)) ∧ ((N' 21 : Int)) ≤ 65536
  rw [ef0, en0]
  exact q
abbrev QF0_9 (D N : Nat → Nat) (F : hF) (A : hA) : Prop := ((N 1 : Int)) = 4
theorem QF0_9_eq {D N D' N' : Nat → Nat} {F F' : hF} {A A' : hA} (h : EQD [] [] [1] [] D N F A D' N' F' A') (q : QF0_9 D N F A) : QF0_9 D' N' F' A' := by
  obtain ⟨hf, ha, hn, hd⟩ := h
  have en0 : N' 1 = N 1 := hn 1 (List.mem_of_getElem? (i := 0) rfl)
  show ((N' 1 : Int)) = 4
  rw [en0]
  exact q
abbrev QF0_10 (D N : Nat → Nat) (F : hF) (A : hA) : Prop := ((N 10 : Int)) = 10
theorem QF0_10_eq {D N D' N' : Nat → Nat} {F F' : hF} {A A' : hA} (h : EQD [] [] [10] [] D N F A D' N' F' A') (q : QF0_10 D N F A) : QF0_10 D' N' F' A' := by
  obtain ⟨hf, ha, hn, hd⟩ := h
  have en0 : N' 10 = N 10 := hn 10 (List.mem_of_getElem? (i := 0) rfl)
  show ((N' 10 : Int)) = 10
  rw [en0]
  exact q
abbrev QF0_11 (D N : Nat → Nat) (F : hF) (A : hA) : Prop := ((N 29 : Int)) = 13
theorem QF0_11_eq {D N D' N' : Nat → Nat} {F F' : hF} {A A' : hA} (h : EQD [] [] [29] [] D N F A D' N' F' A') (q : QF0_11 D N F A) : QF0_11 D' N' F' A' := by
  obtain ⟨hf, ha, hn, hd⟩ := h
  have en0 : N' 29 = N 29 := hn 29 (List.mem_of_getElem? (i := 0) rfl)
  show ((N' 29 : Int)) = 13
  rw [en0]
  exact q
abbrev QF0_12 (D N : Nat → Nat) (F : hF) (A : hA) : Prop := ((N 30 : Int)) = 5
theorem QF0_12_eq {D N D' N' : Nat → Nat} {F F' : hF} {A A' : hA} (h : EQD [] [] [30] [] D N F A D' N' F' A') (q : QF0_12 D N F A) : QF0_12 D' N' F' A' := by
  obtain ⟨hf, ha, hn, hd⟩ := h
  have en0 : N' 30 = N 30 := hn 30 (List.mem_of_getElem? (i := 0) rfl)
  show ((N' 30 : Int)) = 5
  rw [en0]
  exact q
abbrev QF0_13 (D N : Nat → Nat) (F : hF) (A : hA) : Prop := ((N 31 : Int)) = 5
theorem QF0_13_eq {D N D' N' : Nat → Nat} {F F' : hF} {A A' : hA} (h : EQD [] [] [31] [] D N F A D' N' F' A') (q : QF0_13 D N F A) : QF0_13 D' N' F' A' := by
  obtain ⟨hf, ha, hn, hd⟩ := h
  have en0 : N' 31 = N 31 := hn 31 (List.mem_of_getElem? (i := 0) rfl)
  show ((N' 31 : Int)) = 5
  rw [en0]
  exact q
abbrev QF0_14 (D N : Nat → Nat) (F : hF) (A : hA) : Prop := ((N 32 : Int)) = 2
theorem QF0_14_eq {D N D' N' : Nat → Nat} {F F' : hF} {A A' : hA} (h : EQD [] [] [32] [] D N F A D' N' F' A') (q : QF0_14 D N F A) : QF0_14 D' N' F' A' := by
  obtain ⟨hf, ha, hn, hd⟩ := h
  have en0 : N' 32 = N 32 := hn 32 (List.mem_of_getElem? (i := 0) rfl)
  show ((N' 32 : Int)) = 2
  rw [en0]
  exact q
abbrev QF0_15 (D N : Nat → Nat) (F : hF) (A : hA) : Prop := ((N 17 : Int)) = 3 ∧ ((N 18 : Int)) = 3
theorem QF0_15_eq {D N D' N' : Nat → Nat} {F F' : hF} {A A' : hA} (h : EQD [] [] [17, 18] [] D N F A D' N' F' A') (q : QF0_15 D N F A) : QF0_15 D' N' F' A' := by
  obtain ⟨hf, ha, hn, hd⟩ := h
  have en0 : N' 17 = N 17 := hn 17 (List.mem_of_getElem? (i := 0) rfl)
  have en1 : N' 18 = N 18 := hn 18 (List.mem_of_getElem? (i := 1) rfl)
  show ((N' 17 : Int)) = 3 ∧ ((N' 18 : Int)) = 3
  rw [en0, en1]
  exact q
abbrev QF0_16 (D N : Nat → Nat) (F : hF) (A : hA) : Prop := ((N 23 : Int)) = 3 ∧ ((N 24 : Int)) = 3
theorem QF0_16_eq {D N D' N' : Nat → Nat} {F F' : hF} {A A' : hA} (h : EQD [] [] [23, 24] [] D N F A D' N' F' A') (q : QF0_16 D N F A) : QF0_16 D' N' F' A' := by
  obtain ⟨hf, ha, hn, hd⟩ := h
  have en0 : N' 23 = N 23 := hn 23 (List.mem_of_getElem? (i := 0) rfl)
  have en1 : N' 24 = N 24 := hn 24 (List.mem_of_getElem? (i := 1) rfl)
  show ((N' 23 : Int)) = 3 ∧ ((N' 24 : Int)) = 3
  rw [en0, en1]
  exact q
abbrev QF0_17 (D N : Nat → Nat) (F : hF) (A : hA) : Prop := SETI ((A 10))
theorem QF0_17_eq {D N D' N' : Nat → Nat} {F F' : hF} {A A' : hA} (h : EQD [] [10] [] [] D N F A D' N' F' A') (q : QF0_17 D N F A) : QF0_17 D' N' F' A' := by
  obtain ⟨hf, ha, hn, hd⟩ := h
  have ea0 : A' 10 = A 10 := ha 10 (List.mem_of_getElem? (i := 0) rfl)
  show SETI ((A' 10))
  rw [ea0]
  exact q
def INV0 (D N : Nat → Nat) (F : hF) (A : hA) : Prop := QF0_0 D N F A ∧ QF0_1 D N F A ∧ QF0_2 D N F A ∧ QF0_3 D N F A ∧ QF0_4 D N F A ∧ QF0_5 D N F A ∧ QF0_6 D N F A ∧ QF0_7 D N F A ∧ QF0_8 D N F A ∧ QF0_9 D N F A ∧ QF0_10 D N F A ∧ QF0_11 D N F A ∧ QF0_12 D N F A ∧ QF0_13 D N F A ∧ QF0_14 D N F A ∧ QF0_15 D N F A ∧ QF0_16 D N F A ∧ QF0_17 D N F A
theorem INV0_eq {D N D' N' : Nat → Nat} {F F' : hF} {A A' : hA} (h : EQD [(2, 1), (4, 1), (6, 1), (8, 1), (11, 1), (14, 1), (20, 1), (25, 1), (27, 1)] [10] [1, 3, 5, 7, 9, 10, 12, 15, 17, 18, 21, 23, 24, 26, 28, 29, 30, 31, 32] [] D N F A D' N' F' A') (q : INV0 D N F A) : INV0 D' N' F' A' := ⟨QF0_0_eq (EQD_sub (by decide +kernel) h) q.1, QF0_1_eq (EQD_sub (by decide +kernel) h) q.2.1, QF0_2_eq (EQD_sub (by decide +kernel) h) q.2.2.1, QF0_3_eq (EQD_sub (by decide +kernel) h) q.2.2.2.1, QF0_4_eq (EQD_sub (by decide +kernel) h) q.2.2.2.2.1, QF0_5_eq (EQD_sub (by decide +kernel) h) q.2.2.2.2.2.1, QF0_6_eq (EQD_sub (by decide +kernel) h) q.2.2.2.2.2.2.1, QF0_7_eq (EQD_sub (by decide +kernel) h) q.2.2.2.2.2.2.2.1, QF0_8_eq (EQD_sub (by decide +kernel) h) q.2.2.2.2.2.2.2.2.1, QF0_9_eq (EQD_sub (by decide +kernel) h) q.2.2.2.2.2.2.2.2.2.1, QF0_10_eq (EQD_sub (by decide +kernel) h) q.2.2.2.2.2.2.2.2.2.2.1, QF0_11_eq (EQD_sub (by decide +kernel) h) q.2.2.2.2.2.2.2.2.2.2.2.1, QF0_12_eq (EQD_sub (by decide +kernel) h) q.2.2.2.2.2.2.2.2.2.2.2.2.1, QF0_13_eq (EQD_sub (by decide +kernel) h) q.2.2.2.2.2.2.2.2.2.2.2.2.2.1, QF0_14_eq (EQD_sub (by decide +kernel) h) q.2.2.2.2.2.2.2.2.2.2.2.2.2.2.1, QF0_15_eq (EQD_sub (by decide +kernel) h) q.2.2.2.2.2.2.2.2.2.2.2.2.2.2.2.1, QF0_16_eq (EQD_sub (by decide +kernel) h) q.2.2.2.2.2.2.2.2.2.2.2.2.2.2.2.2.1, QF0_17_eq (EQD_sub (by decide +kernel) h) q.2.2.2.2.2.2.2.2.2.2.2.2.2.2.2.2.2⟩
abbrev QF1_0 (D N : Nat → Nat) (F : hF) (A : hA) : Prop := 0 ≤ (F 34 1) ∧ (F 34 1) ≤ ((N 35 : Int)) ∧ ((N 35 : Int)) ≤ 65536
theorem QF1_0_eq {D N D' N' : Nat → Nat} {F F' : hF} {A A' : hA} (h : EQD [(34, 1)] [] [35] [] D N F A D' N' F' A') (q : QF1_0 D N F A) : QF1_0 D' N' F' A' := by
  obtain ⟨hf, ha, hn, hd⟩ := h
  have ef0 : F' 34 1 = F 34 1 := hf (34, 1) (List.mem_of_getElem? (i := 0) rfl)
  have en0 : N' 35 = N 35 := hn 35 (List.mem_of_getElem? (i := 0) rfl)
  show 0 ≤ (F' 34 1) ∧ (F' 34 1) ≤ ((N' 35 : Int)) ∧ ((N' 35 : Int)) ≤ 65536
  rw [ef0, en0]
  exact q
abbrev QF1_1 (D N : Nat → Nat) (F : hF) (A : hA) : Prop := ((N 39 : Int)) = 0 ∨ ((N 39 : Int)) = 2048
theorem QF1_1_eq {D N D' N' : Nat → Nat} {F F' : hF} {A A' : hA} (h : EQD [] [] [39] [] D N F A D' N' F' A') (q : QF1_1 D N F A) : QF1_1 D' N' F' A' := by
  obtain ⟨hf, ha, hn, hd⟩ := h
  have en0 : N' 39 = N 39 := hn 39 (List.mem_of_getElem? (i := 0) rfl)
  show ((N' 39 : Int)) = 0 ∨ ((N' 39 : Int)) = 2048
  rw [en0]
  exact q
abbrev QF1_2 (D N : Nat → Nat) (F : hF) (A : hA) : Prop := ((N 40 : Int)) ≤ 16384
theorem QF1_2_eq {D N D' N' : Nat → Nat} {F F' : hF} {A A' : hA} (h : EQD [] [] [40] [] D N F A D' N' F' A') (q : QF1_2 D N F A) : QF1_2 D' N' F' A' := by
  obtain ⟨hf, ha, hn, hd⟩ := h
  have en0 : N' 40 = N 40 := hn 40 (List.mem_of_getElem? (i := 0) rfl)
  show ((N' 40 : Int)) ≤ 16384
  rw [en0]
  exact q
abbrev QF1_3 (D N : Nat → Nat) (F : hF) (A : hA) : Prop := ((N 36 : Int)) = ((N 37 : Int)) ∧ ((N 38 : Int)) = ((N 37 : Int)) ∧ ((N 37 : Int)) ≤ 65536 ∧ (((N 37 : Int)) = 0 ∨ 64 ≤ ((N 37 : Int))) ∧ lgq (((N 37 : Int))) = 0
theorem QF1_3_eq {D N D' N' : Nat → Nat} {F F' : hF} {A A' : hA} (h : EQD [] [] [36, 37, 38] [] D N F A D' N' F' A') (q : QF1_3 D N F A) : QF1_3 D' N' F' A' := by
  obtain ⟨hf, ha, hn, hd⟩ := h
  have en0 : N' 36 = N 36 := hn 36 (List.mem_of_getElem? (i := 0) rfl)
  have en1 : N' 37 = N 37 := hn 37 (List.mem_of_getElem? (i := 1) rfl)
  have en2 : N' 38 = N 38 := hn 38 (List.mem_of_getElem? (i := 2) rfl)
  show ((N' 36 : Int)) = ((N' 37 : Int)) ∧ ((N' 38 : Int)) = ((N' 37 : Int)) ∧ ((N' 37 : Int)) ≤ 65536 ∧ (((N' 37 : Int)) = 0 ∨ 64 ≤ ((N' 37 : Int))) ∧ lgq (((N' 37 : Int))) = 0
  rw [en0, en1, en2]
  exact q
def INV1 (D N : Nat → Nat) (F : hF) (A : hA) : Prop := QF1_0 D N F A ∧ QF1_1 D N F A ∧ QF1_2 D N F A ∧ QF1_3 D N F A
theorem INV1_eq {D N D' N' : Nat → Nat} {F F' : hF} {A A' : hA} (h : EQD [(34, 1)] [] [35, 36, 37, 38, 39, 40] [] D N F A D' N' F' A') (q : INV1 D N F A) : INV1 D' N' F' A' := ⟨QF1_0_eq (EQD_sub (by decide +kernel) h) q.1, QF1_1_eq (EQD_sub (by decide +kernel) h) q.2.1, QF1_2_eq (EQD_sub (by decide +kernel) h) q.2.2.1, QF1_3_eq (EQD_sub (by decide +kernel) h) q.2.2.2⟩
abbrev QF2_0 (D N : Nat → Nat) (F : hF) (A : hA) : Prop := 0 ≤ (F 42 1) ∧ (F 42 1) ≤ ((N 43 : Int)) ∧ ((N 43 : Int)) ≤ 65536
theorem QF2_0_eq {D N D' N' : Nat → Nat} {F F' : hF} {A A' : hA} (h : EQD [(42, 1)] [] [43] [] D N F A D' N' F' A') (q : QF2_0 D N F A) : QF2_0 D' N' F' A' := by
  obtain ⟨hf, ha, hn, hd⟩ := h
  have ef0 : F' 42 1 = F 42 1 := hf (42, 1) (List.mem_of_getElem? (i := 0) rfl)
  have en0 : N' 43 = N 43 := hn 43 (List.mem_of_getElem? (i := 0) rfl)
  show 0 ≤ (F' 42 1) ∧ (F' 42 1) ≤ ((N' 43 : Int)) ∧ ((N' 43 : Int)) ≤ 65536
  rw [ef0, en0]
  exact q
def INV2 (D N : Nat → Nat) (F : hF) (A : hA) : Prop := QF2_0 D N F A
theorem INV2_eq {D N D' N' : Nat → Nat} {F F' : hF} {A A' : hA} (h : EQD [(42, 1)] [] [43] [] D N F A D' N' F' A') (q : INV2 D N F A) : INV2 D' N' F' A' := QF2_0_eq (EQD_sub (by decide +kernel) h) q
abbrev QF3_0 (D N : Nat → Nat) (F : hF) (A : hA) : Prop := 0 ≤ (F 45 1) ∧ (F 45 1) ≤ ((N 46 : Int)) ∧ ((N 46 : Int)) ≤ 65536
theorem QF3_0_eq {D N D' N' : Nat → Nat} {F F' : hF} {A A' : hA} (h : EQD [(45, 1)] [] [46] [] D N F A D' N' F' A') (q : QF3_0 D N F A) : QF3_0 D' N' F' A' := by
  obtain ⟨hf, ha, hn, hd⟩ := h
  have ef0 : F' 45 1 = F 45 1 := hf (45, 1) (List.mem_of_getElem? (i := 0) rfl)
  have en0 : N' 46 = N 46 := hn 46 (List.mem_of_getElem? (i := 0) rfl)
  show 0 ≤ (F' 45 1) ∧ (F' 45 1) ≤ ((N' 46 : Int)) ∧ ((N' 46 : Int)) ≤ 65536
  rw [ef0, en0]
  exact q
def INV3 (D N : Nat → Nat) (F : hF) (A : hA) : Prop := QF3_0 D N F A
theorem INV3_eq {D N D' N' : Nat → Nat} {F F' : hF} {A A' : hA} (h : EQD [(45, 1)] [] [46] [] D N F A D' N' F' A') (q : INV3 D N F A) : INV3 D' N' F' A' := QF3_0_eq (EQD_sub (by decide +kernel) h) q
abbrev QF4_0 (D N : Nat → Nat) (F : hF) (A : hA) : Prop := ((N 47 : Int)) = 3
theorem QF4_0_eq {D N D' N' : Nat → Nat} {F F' : hF} {A A' : hA} (h : EQD [] [] [47] [] D N F A D' N' F' A') (q : QF4_0 D N F A) : QF4_0 D' N' F' A' := by
  obtain ⟨hf, ha, hn, hd⟩ := h
  have en0 : N' 47 = N 47 := hn 47 (List.mem_of_getElem? (i := 0) rfl)
  show ((N' 47 : Int)) = 3
  rw [en0]
  exact q
abbrev QF4_1 (D N : Nat → Nat) (F : hF) (A : hA) : Prop := SL ((A 49)) ((F 48 1)) ((F 48 0)) ((A 50)) ((A 51)) ((A 52)) ((A 54)) ((A 55)) ((A 56))
theorem QF4_1_eq {D N D' N' : Nat → Nat} {F F' : hF} {A A' : hA} (h : EQD [(48, 0), (48, 1)] [49, 50, 51, 52, 54, 55, 56] [] [] D N F A D' N' F' A') (q : QF4_1 D N F A) : QF4_1 D' N' F' A' := by
  obtain ⟨hf, ha, hn, hd⟩ := h
  have ef0 : F' 48 0 = F 48 0 := hf (48, 0) (List.mem_of_getElem? (i := 0) rfl)
  have ef1 : F' 48 1 = F 48 1 := hf (48, 1) (List.mem_of_getElem? (i := 1) rfl)
  have ea0 : A' 49 = A 49 := ha 49 (List.mem_of_getElem? (i := 0) rfl)
  have ea1 : A' 50 = A 50 := ha 50 (List.mem_of_getElem? (i := 1) rfl)
  have ea2 : A' 51 = A 51 := ha 51 (List.mem_of_getElem? (i := 2) rfl)
  have ea3 : A' 52 = A 52 := ha 52 (List.mem_of_getElem? (i := 3) rfl)
  have ea4 : A' 54 = A 54 := ha 54 (List.mem_of_getElem? (i := 4) rfl)
  have ea5 : A' 55 = A 55 := ha 55 (List.mem_of_getElem? (i := 5) rfl)
  have ea6 : A' 56 = A 56 := ha 56 (List.mem_of_getElem? (i := 6) rfl)
  show SL ((A' 49)) ((F' 48 1)) ((F' 48 0)) ((A' 50)) ((A' 51)) ((A' 52)) ((A' 54)) ((A' 55)) ((A' 56))
  rw [ef0, ef1, ea0, ea1, ea2, ea3, ea4, ea5, ea6]
  exact q
abbrev QF4_2 (D N : Nat → Nat) (F : hF) (A : hA) : Prop := SZD (((N 49 : Int))) (((N 50 : Int))) (((N 51 : Int))) (((N 52 : Int))) (((N 53 : Int))) (((N 54 : Int))) (((N 55 : Int))) (((N 56 : Int))) ((F 48 1)) ((F 48 0))
theorem QF4_2_eq {D N D' N' : Nat → Nat} {F F' : hF} {A A' : hA} (h : EQD [(48, 0), (48, 1)] [] [49, 50, 51, 52, 53, 54, 55, 56] [] D N F A D' N' F' A') (q : QF4_2 D N F A) : QF4_2 D' N' F' A' := by
  obtain ⟨hf, ha, hn, hd⟩ := h
  have ef0 : F' 48 0 = F 48 0 := hf (48, 0) (List.mem_of_getElem? (i := 0) rfl)
  have ef1 : F' 48 1 = F 48 1 := hf (48, 1) (List.mem_of_getElem? (i := 1) rfl)
  have en0 : N' 49 = N 49 := hn 49 (List.mem_of_getElem? (i := 0) rfl)
  have en1 : N' 50 = N 50 := hn 50 (List.mem_of_getElem? (i := 1) rfl)
  have en2 : N' 51 = N 51 := hn 51 (List.mem_of_getElem? (i := 2) rfl)
  have en3 : N' 52 = N 52 := hn 52 (List.mem_of_getElem? (i := 3) rfl)
  have en4 : N' 53 = N 53 := hn 53 (List.mem_of_getElem? (i := 4) rfl)
  have en5 : N' 54 = N 54 := hn 54 (List.mem_of_getElem? (i := 5) rfl)
  have en6 : N' 55 = N 55 := hn 55 (List.mem_of_getElem? (i := 6) rfl)
  have en7 : N' 56 = N 56 := hn 56 (List.mem_of_getElem? (i := 7) rfl)
  show SZD (((N' 49 : Int))) (((N' 50 : Int))) (((N' 51 : Int))) (((N' 52 : Int))) (((N' 53 : Int))) (((N' 54 : Int))) (((N' 55 : Int))) (((N' 56 : Int))) ((F' 48 1)) ((F' 48 0))
  rw [ef0, ef1, en0, en1, en2, en3, en4, en5, en6, en7]
  exact q
abbrev QF4_3 (D N : Nat → Nat) (F : hF) (A : hA) : Prop := (F 48 1) ≤ 36
theorem QF4_3_eq {D N D' N' : Nat → Nat} {F F' : hF} {A A' : hA} (h : EQD [(48, 1)] [] [] [] D N F A D' N' F' A') (q : QF4_3 D N F A) : QF4_3 D' N' F' A' := by
  obtain ⟨hf, ha, hn, hd⟩ := h
  have ef0 : F' 48 1 = F 48 1 := hf (48, 1) (List.mem_of_getElem? (i := 0) rfl)
  show (F' 48 1) ≤ 36
  rw [ef0]
  exact q
abbrev QF4_4 (D N : Nat → Nat) (F : hF) (A : hA) : Prop := SL ((A 58)) ((F 57 1)) ((F 57 0)) ((A 59)) ((A 60)) ((A 61)) ((A 63)) ((A 64)) ((A 65))
theorem QF4_4_eq {D N D' N' : Nat → Nat} {F F' : hF} {A A' : hA} (h : EQD [(57, 0), (57, 1)] [58, 59, 60, 61, 63, 64, 65] [] [] D N F A D' N' F' A') (q : QF4_4 D N F A) : QF4_4 D' N' F' A' := by
  obtain ⟨hf, ha, hn, hd⟩ := h
  have ef0 : F' 57 0 = F 57 0 := hf (57, 0) (List.mem_of_getElem? (i := 0) rfl)
  have ef1 : F' 57 1 = F 57 1 := hf (57, 1) (List.mem_of_getElem? (i := 1) rfl)
  have ea0 : A' 58 = A 58 := ha 58 (List.mem_of_getElem? (i := 0) rfl)
  have ea1 : A' 59 = A 59 := ha 59 (List.mem_of_getElem? (i := 1) rfl)
  have ea2 : A' 60 = A 60 := ha 60 (List.mem_of_getElem? (i := 2) rfl)
  have ea3 : A' 61 = A 61 := ha 61 (List.mem_of_getElem? (i := 3) rfl)
  have ea4 : A' 63 = A 63 := ha 63 (List.mem_of_getElem? (i := 4) rfl)
  have ea5 : A' 64 = A 64 := ha 64 (List.mem_of_getElem? (i := 5) rfl)
  have ea6 : A' 65 = A 65 := ha 65 (List.mem_of_getElem? (i := 6) rfl)
  show SL ((A' 58)) ((F' 57 1)) ((F' 57 0)) ((A' 59)) ((A' 60)) ((A' 61)) ((A' 63)) ((A' 64)) ((A' 65))
  rw [ef0, ef1, ea0, ea1, ea2, ea3, ea4, ea5, ea6]
  exact q
abbrev QF4_5 (D N : Nat → Nat) (F : hF) (A : hA) : Prop := SZD (((N 58 : Int))) (((N 59 : Int))) (((N 60 : Int))) (((N 61 : Int))) (((N 62 : Int))) (((N 63 : Int))) (((N 64 : Int))) (((N 65 : Int))) ((F 57 1)) ((F 57 0))
theorem QF4_5_eq {D N D' N' : Nat → Nat} {F F' : hF} {A A' : hA} (h : EQD [(57, 0), (57, 1)] [] [58, 59, 60, 61, 62, 63, 64, 65] [] D N F A D' N' F' A') (q : QF4_5 D N F A) : QF4_5 D' N' F' A' := by
  obtain ⟨hf, ha, hn, hd⟩ := h
  have ef0 : F' 57 0 = F 57 0 := hf (57, 0) (List.mem_of_getElem? (i := 0) rfl)
  have ef1 : F' 57 1 = F 57 1 := hf (57, 1) (List.mem_of_getElem? (i := 1) rfl)
  have en0 : N' 58 = N 58 := hn 58 (List.mem_of_getElem? (i := 0) rfl)
  have en1 : N' 59 = N 59 := hn 59 (List.mem_of_getElem? (i := 1) rfl)
  have en2 : N' 60 = N 60 := hn 60 (List.mem_of_getElem? (i := 2) rfl)
  have en3 : N' 61 = N 61 := hn 61 (List.mem_of_getElem? (i := 3) rfl)
  have en4 : N' 62 = N 62 := hn 62 (List.mem_of_getElem? (i := 4) rfl)
  have en5 : N' 63 = N 63 := hn 63 (List.mem_of_getElem? (i := 5) rfl)
  have en6 : N' 64 = N 64 := hn 64 (List.mem_of_getElem? (i := 6) rfl)
  have en7 : N' 65 = N 65 := hn 65 (List.mem_of_getElem? (i := 7) rfl)
  show SZD (((N' 58 : Int))) (((N' 59 : Int))) (((N' 60 : Int))) (((N' 61 : Int))) (((N' 62 : Int))) (((N' 63 : Int))) (((N' 64 : Int))) (((N' 65 : Int))) ((F' 57 1)) ((F' 57 0))
  rw [ef0, ef1, en0, en1, en2, en3, en4, en5, en6, en7]
  exact q
abbrev QF4_6 (D N : Nat → Nat) (F : hF) (A : hA) : Prop := (F 57 1) ≤ 32
theorem QF4_6_eq {D N D' N' : Nat → Nat} {F F' : hF} {A A' : hA} (h : EQD [(57, 1)] [] [] [] D N F A D' N' F' A') (q : QF4_6 D N F A) : QF4_6 D' N' F' A' := by
  obtain ⟨hf, ha, hn, hd⟩ := h
  have ef0 : F' 57 1 = F 57 1 := hf (57, 1) (List.mem_of_getElem? (i := 0) rfl)
  show (F' 57 1) ≤ 32
  rw [ef0]
  exact q
abbrev QF4_7 (D N : Nat → Nat) (F : hF) (A : hA) : Prop := SL ((A 67)) ((F 66 1)) ((F 66 0)) ((A 68)) ((A 69)) ((A 70)) ((A 72)) ((A 73)) ((A 74))
theorem QF4_7_eq {D N D' N' : Nat → Nat} {F F' : hF} {A A' : hA} (h : EQD [(66, 0), (66, 1)] [67, 68, 69, 70, 72, 73, 74] [] [] D N F A D' N' F' A') (q : QF4_7 D N F A) : QF4_7 D' N' F' A' := by
  obtain ⟨hf, ha, hn, hd⟩ := h
  have ef0 : F' 66 0 = F 66 0 := hf (66, 0) (List.mem_of_getElem? (i := 0) rfl)
  have ef1 : F' 66 1 = F 66 1 := hf (66, 1) (List.mem_of_getElem? (i := 1) rfl)
  have ea0 : A' 67 = A 67 := ha 67 (List.mem_of_getElem? (i := 0) rfl)
  have ea1 : A' 68 = A 68 := ha 68 (List.mem_of_getElem? (i := 1) rfl)
  have ea2 : A' 69 = A 69 := ha 69 (List.mem_of_getElem? (i := 2) rfl)
  have ea3 : A' 70 = A 70 := ha 70 (List.mem_of_getElem? (i := 3) rfl)
  have ea4 : A' 72 = A 72 := ha 72 (List.mem_of_getElem? (i := 4) rfl)
  have ea5 : A' 73 = A 73 := ha 73 (List.mem_of_getElem? (i := 5) rfl)
  have ea6 : A' 74 = A 74 := ha 74 (List.mem_of_getElem? (i := 6) rfl)
  show SL ((A' 67)) ((F' 66 1)) ((F' 66 0)) ((A' 68)) ((A' 69)) ((A' 70)) ((A' 72)) ((A' 73)) ((A' 74))
  rw [ef0, ef1, ea0, ea1, ea2, ea3, ea4, ea5, ea6]
  exact q
abbrev QF4_8 (D N : Nat → Nat) (F : hF) (A : hA) : Prop := SZD (((N 67 : Int))) (((N 68 : Int))) (((N 69 : Int))) (((N 70 : Int))) (((N 71 : Int))) (((N 72 : Int))) (((N 73 : Int))) (((N 74 : Int))) ((F 66 1)) ((F 66 0))
theorem QF4_8_eq {D N D' N' : Nat → Nat} {F F' : hF} {A A' : hA} (h : EQD [(66, 0), (66, 1)] [] [67, 68, 69, 70, 71, 72, 73, 74] [] D N F A D' N' F' A') (q : QF4_8 D N F A) : QF4_8 D' N' F' A' := by
  obtain ⟨hf, ha, hn, hd⟩ := h
  have ef0 : F' 66 0 = F 66 0 := hf (66, 0) (List.mem_of_getElem? (i := 0) rfl)
  have ef1 : F' 66 1 = F 66 1 := hf (66, 1) (List.mem_of_getElem? (i := 1) rfl)
  have en0 : N' 67 = N 67 := hn 67 (List.mem_of_getElem? (i := 0) rfl)
  have en1 : N' 68 = N 68 := hn 68 (List.mem_of_getElem? (i := 1) rfl)
  have en2 : N' 69 = N 69 := hn 69 (List.mem_of_getElem? (i := 2) rfl)
  have en3 : N' 70 = N 70 := hn 70 (List.mem_of_getElem? (i := 3) rfl)
  have en4 : N' 71 = N 71 := hn 71 (List.mem_of_getElem? (i := 4) rfl)
  have en5 : N' 72 = N 72 := hn 72 (List.mem_of_getElem? (i := 5) rfl)
  have en6 : N' 73 = N 73 := hn 73 (List.mem_of_getElem? (i := 6) rfl)
  have en7 : N' 74 = N 74 := hn 74 (List.mem_of_getElem? (i := 7) rfl)
  show SZD (((N' 67 : Int))) (((N' 68 : Int))) (((N' 69 : Int))) (((N' 70 : Int))) (((N' 71 : Int))) (((N' 72 : Int))) (((N' 73 : Int))) (((N' 74 : Int))) ((F' 66 1)) ((F' 66 0))
  rw [ef0, ef1, en0, en1, en2, en3, en4, en5, en6, en7]
  exact q
abbrev QF4_9 (D N : Nat → Nat) (F : hF) (A : hA) : Prop := (F 66 1) ≤ 53
theorem QF4_9_eq {D N D' N' : Nat → Nat} {F F' : hF} {A A' : hA} (h : EQD [(66, 1)] [] [] [] D N F A D' N' F' A') (q : QF4_9 D N F A) : QF4_9 D' N' F' A' := by
  obtain ⟨hf, ha, hn, hd⟩ := h
  have ef0 : F' 66 1 = F 66 1 := hf (66, 1) (List.mem_of_getElem? (i := 0) rfl)
  show (F' 66 1) ≤ 53
  rw [ef0]
  exact q
def INV4 (D N : Nat → Nat) (F : hF) (A : hA) : Prop := QF4_0 D N F A ∧ QF4_1 D N F A ∧ QF4_2 D N F A ∧ QF4_3 D N F A ∧ QF4_4 D N F A ∧ QF4_5 D N F A ∧ QF4_6 D N F A ∧ QF4_7 D N F A ∧ QF4_8 D N F A ∧ QF4_9 D N F A
theorem INV4_eq {D N D' N' : Nat → Nat} {F F' : hF} {A A' : hA} (h : EQD [(48, 0), (48, 1), (57, 0), (57, 1), (66, 0), (66, 1)] [49, 50, 51, 52, 54, 55, 56, 58, 59, 60, 61, 63, 64, 65, 67, 68, 69, 70, 72, 73, 74] [47, 49, 50, 51, 52, 53, 54, 55, 56, 58, 59, 60, 61, 62, 63, 64, 65, 67, 68, 69, 70, 71, 72, 73, 74] [] D N F A D' N' F' A') (q : INV4 D N F A) : INV4 D' N' F' A' := ⟨QF4_0_eq (EQD_sub (by decide +kernel) h) q.1, QF4_1_eq (EQD_sub (by decide +kernel) h) q.2.1, QF4_2_eq (EQD_sub (by decide +kernel) h) q.2.2.1, QF4_3_eq (EQD_sub (by decide +kernel) h) q.2.2.2.1, QF4_4_eq (EQD_sub (by decide +kernel) h) q.2.2.2.2.1, QF4_5_eq (EQD_sub (by decide +kernel) h) q.2.2.2.2.2.1, QF4_6_eq (EQD_sub (by decide +kernel) h) q.2.2.2.2.2.2.1, QF4_7_eq (EQD_sub (by decide +kernel) h) q.2.2.2.2.2.2.2.1, QF4_8_eq (EQD_sub (by decide +kernel) h) q.2.2.2.2.2.2.2.2.1, QF4_9_eq (EQD_sub (by decide +kernel) h) q.2.2.2.2.2.2.2.2.2⟩
abbrev QF5_0 (D N : Nat → Nat) (F : hF) (A : hA) : Prop := 0 ≤ (F 185 1) ∧ (F 185 1) ≤ ((N 186 : Int)) ∧ ((N 186 : Int)) ≤ 65536
theorem QF5_0_eq {D N D' N' : Nat → Nat} {F F' : hF} {A A' : hA} (h : EQD [(185, 1)] [] [186] [] D N F A D' N' F' A') (q : QF5_0 D N F A) : QF5_0 D' N' F' A' := by
  obtain ⟨hf, ha, hn, hd⟩ := h
  have ef0 : F' 185 1 = F 185 1 := hf (185, 1) (List.mem_of_getElem? (i := 0) rfl)
  have en0 : N' 186 = N 186 := hn 186 (List.mem_of_getElem? (i := 0) rfl)
  show 0 ≤ (F' 185 1) ∧ (F' 185 1) ≤ ((N' 186 : Int)) ∧ ((N' 186 : Int)) ≤ 65536
  rw [ef0, en0]
  exact q
abbrev QF5_1 (D N : Nat → Nat) (F : hF) (A : hA) : Prop := 0 ≤ (F 187 1) ∧ (F 187 1) ≤ ((N 188 : Int)) ∧ ((N 188 : Int)) ≤ 65536
theorem QF5_1_eq {D N D' N' : Nat → Nat} {F F' : hF} {A A' : hA} (h : EQD [(187, 1)] [] [188] [] D N F A D' N' F' A') (q : QF5_1 D N F A) : QF5_1 D' N' F' A' := by
  obtain ⟨hf, ha, hn, hd⟩ := h
  have ef0 : F' 187 1 = F 187 1 := hf (187, 1) (List.mem_of_getElem? (i := 0) rfl)
  have en0 : N' 188 = N 188 := hn 188 (List.mem_of_getElem? (i := 0) rfl)
  show 0 ≤ (F' 187 1) ∧ (F' 187 1) ≤ ((N' 188 : Int)) ∧ ((N' 188 : Int)) ≤ 65536
  rw [ef0, en0]
  exact q
abbrev QF5_2 (D N : Nat → Nat) (F : hF) (A : hA) : Prop := 0 ≤ (F 189 1) ∧ (F 189 1) ≤ ((N 190 : Int)) ∧ ((N 190 : Int)) ≤ 65536
theorem QF5_2_eq {D N D' N' : Nat → Nat} {F F' : hF} {A A' : hA} (h : EQD [(189, 1)] [] [190] [] D N F A D' N' F' A') (q : QF5_2 D N F A) : QF5_2 D' N' F' A' := by
  obtain ⟨hf, ha, hn, hd⟩ := h
  have ef0 : F' 189 1 = F 189 1 := hf (189, 1) (List.mem_of_getElem? (i := 0) rfl)
  have en0 : N' 190 = N 190 := hn 190 (List.mem_of_getElem? (i := 0) rfl)
  show 0 ≤ (F' 189 1) ∧ (F' 189 1) ≤ ((N' 190 : Int)) ∧ ((N' 190 : Int)) ≤ 65536
  rw [ef0, en0]
  exact q
abbrev QF5_3 (D N : Nat → Nat) (F : hF) (A : hA) : Prop := ((N 191 : Int)) = 256 ∧ ((N 192 : Int)) = 53 ∧ ((N 199 : Int)) = 13 ∧ ((N 198 : Int)) = 3 ∧ ((N 76 : Int)) = 2 ∧ ((N 180 : Int)) = 3 ∧ ((N 181 : Int)) = 3 ∧ ((N 183 : Int)) = 3 ∧ ((N 184 : Int)) = 3 ∧ ((N 123 : Int)) = 3 ∧ ((N 151 : Int)) = 3
theorem QF5_3_eq {D N D' N' : Nat → Nat} {F F' : hF} {A A' : hA} (h : EQD [] [] [76, 123, 151, 180, 181, 183, 184, 191, 192, 198, 199] [] D N F A D' N' F' A') (q : QF5_3 D N F A) : QF5_3 D' N' F' A' := by
  obtain ⟨hf, ha, hn, hd⟩ := h
  have en0 : N' 76 = N 76 := hn 76 (List.mem_of_getElem? (i := 0) rfl)
  have en1 : N' 123 = N 123 := hn 123 (List.mem_of_getElem? (i := 1) rfl)
  have en2 : N' 151 = N 151 := hn 151 (List.mem_of_getElem? (i := 2) rfl)
  have en3 : N' 180 = N 180 := hn 180 (List.mem_of_getElem? (i := 3) rfl)
  have en4 : N' 181 = N 181 := hn 181 (List.mem_of_getElem? (i := 4) rfl)
  have en5 : N' 183 = N 183 := hn 183 (List.mem_of_getElem? (i := 5) rfl)
  have en6 : N' 184 = N 184 := hn 184 (List.mem_of_getElem? (i := 6) rfl)
  have en7 : N' 191 = N 191 := hn 191 (List.mem_of_getElem? (i := 7) rfl)
  have en8 : N' 192 = N 192 := hn 192 (List.mem_of_getElem? (i := 8) rfl)
  have en9 : N' 198 = N 198 := hn 198 (List.mem_of_getElem? (i := 9) rfl)
  have en10 : N' 199 = N 199 := hn 199 (List.mem_of_getElem? (i := 10) rfl)
  show ((N' 191 : Int)) = 256 ∧ ((N' 192 : Int)) = 53 ∧ ((N' 199 : Int)) = 13 ∧ ((N' 198 : Int)) = 3 ∧ ((N' 76 : Int)) = 2 ∧ ((N' 180 : Int)) = 3 ∧ ((N' 181 : Int)) = 3 ∧ ((N' 183 : Int)) = 3 ∧ ((N' 184 : Int)) = 3 ∧ ((N' 123 : Int)) = 3 ∧ ((N' 151 : Int)) = 3
  rw [en0, en1, en2, en3, en4, en5, en6, en7, en8, en9, en10]
  exact q
abbrev QF5_4 (D N : Nat → Nat) (F : hF) (A : hA) : Prop := ((N 193 : Int)) = 3 ∧ ((N 194 : Int)) = ((N 197 : Int)) ∧ ((N 195 : Int)) = ((N 197 : Int)) ∧ ((N 196 : Int)) = ((N 197 : Int)) ∧ lgq (((N 197 : Int))) = 0 ∧ ((N 197 : Int)) ≤ 16384
theorem QF5_4_eq {D N D' N' : Nat → Nat} {F F' : hF} {A A' : hA} (h : EQD [] [] [193, 194, 195, 196, 197] [] D N F A D' N' F' A') (q : QF5_4 D N F A) : QF5_4 D' N' F' A' := by
  obtain ⟨hf, ha, hn, hd⟩ := h
  have en0 : N' 193 = N 193 := hn 193 (List.mem_of_getElem? (i := 0) rfl)
  have en1 : N' 194 = N 194 := hn 194 (List.mem_of_getElem? (i := 1) rfl)
  have en2 : N' 195 = N 195 := hn 195 (List.mem_of_getElem? (i := 2) rfl)
  have en3 : N' 196 = N 196 := hn 196 (List.mem_of_getElem? (i := 3) rfl)
  have en4 : N' 197 = N 197 := hn 197 (List.mem_of_getElem? (i := 4) rfl)
  show ((N' 193 : Int)) = 3 ∧ ((N' 194 : Int)) = ((N' 197 : Int)) ∧ ((N' 195 : Int)) = ((N' 197 : Int)) ∧ ((N' 196 : Int)) = ((N' 197 : Int)) ∧ lgq (((N' 197 : Int))) = 0 ∧ ((N' 197 : Int)) ≤ 16384
  rw [en0, en1, en2, en3, en4]
  exact q
abbrev QF5_5 (D N : Nat → Nat) (F : hF) (A : hA) : Prop := CDZD (((N 78 : Int))) (((N 79 : Int))) (((N 80 : Int))) (((N 81 : Int))) (((N 82 : Int))) (((N 97 : Int))) (((N 98 : Int))) (((N 99 : Int)))
theorem QF5_5_eq {D N D' N' : Nat → Nat} {F F' : hF} {A A' : hA} (h : EQD [] [] [78, 79, 80, 81, 82, 97, 98, 99] [] D N F A D' N' F' A') (q : QF5_5 D N F A) : QF5_5 D' N' F' A' := by
  obtain ⟨hf, ha, hn, hd⟩ := h
  have en0 : N' 78 = N 78 := hn 78 (List.mem_of_getElem? (i := 0) rfl)
  have en1 : N' 79 = N 79 := hn 79 (List.mem_of_getElem? (i := 1) rfl)
  have en2 : N' 80 = N 80 := hn 80 (List.mem_of_getElem? (i := 2) rfl)
  have en3 : N' 81 = N 81 := hn 81 (List.mem_of_getElem? (i := 3) rfl)
  have en4 : N' 82 = N 82 := hn 82 (List.mem_of_getElem? (i := 4) rfl)
  have en5 : N' 97 = N 97 := hn 97 (List.mem_of_getElem? (i := 5) rfl)
  have en6 : N' 98 = N 98 := hn 98 (List.mem_of_getElem? (i := 6) rfl)
  have en7 : N' 99 = N 99 := hn 99 (List.mem_of_getElem? (i := 7) rfl)
  show CDZD (((N' 78 : Int))) (((N' 79 : Int))) (((N' 80 : Int))) (((N' 81 : Int))) (((N' 82 : Int))) (((N' 97 : Int))) (((N' 98 : Int))) (((N' 99 : Int)))
  rw [en0, en1, en2, en3, en4, en5, en6, en7]
  exact q
abbrev QF5_6 (D N : Nat → Nat) (F : hF) (A : hA) : Prop := SHZD (((N 84 : Int))) (((N 85 : Int))) (((N 86 : Int))) (((N 87 : Int))) (((N 88 : Int))) (((N 89 : Int))) (((N 90 : Int))) (((N 91 : Int))) ((F 83 1)) 12 64
theorem QF5_6_eq {D N D' N' : Nat → Nat} {F F' : hF} {A A' : hA} (h : EQD [(83, 1)] [] [84, 85, 86, 87, 88, 89, 90, 91] [] D N F A D' N' F' A') (q : QF5_6 D N F A) : QF5_6 D' N' F' A' := by
  obtain ⟨hf, ha, hn, hd⟩ := h
  have ef0 : F' 83 1 = F 83 1 := hf (83, 1) (List.mem_of_getElem? (i := 0) rfl)
  have en0 : N' 84 = N 84 := hn 84 (List.mem_of_getElem? (i := 0) rfl)
  have en1 : N' 85 = N 85 := hn 85 (List.mem_of_getElem? (i := 1) rfl)
  have en2 : N' 86 = N 86 := hn 86 (List.mem_of_getElem? (i := 2) rfl)
  have en3 : N' 87 = N 87 := hn 87 (List.mem_of_getElem? (i := 3) rfl)
  have en4 : N' 88 = N 88 := hn 88 (List.mem_of_getElem? (i := 4) rfl)
  have en5 : N' 89 = N 89 := hn 89 (List.mem_of_getElem? (i := 5) rfl)
  have en6 : N' 90 = N 90 := hn 90 (List.mem_of_getElem? (i := 6) rfl)
  have en7 : N' 91 = N 91 := hn 91 (List.mem_of_getElem? (i := 7) rfl)
  show SHZD (((N' 84 : Int))) (((N' 85 : Int))) (((N' 86 : Int))) (((N' 87 : Int))) (((N' 88 : Int))) (((N' 89 : Int))) (((N' 90 : Int))) (((N' 91 : Int))) ((F' 83 1)) 12 64
  rw [ef0, en0, en1, en2, en3, en4, en5, en6, en7]
  exact q
abbrev QF5_7 (D N : Nat → Nat) (F : hF) (A : hA) : Prop := 0 ≤ (F 92 1) ∧ (F 92 1) ≤ ((N 93 : Int)) ∧ ((N 93 : Int)) ≤ 65536
theorem QF5_7_eq {D N D' N' : Nat → Nat} {F F' : hF} {A A' : hA} (h : EQD [(92, 1)] [] [93] [] D N F A D' N' F' A') (q : QF5_7 D N F A) : QF5_7 D' N' F' A' := by
  obtain ⟨hf, ha, hn, hd⟩ := h
  have ef0 : F' 92 1 = F 92 1 := hf (92, 1) (List.mem_of_getElem? (i := 0) rfl)
  have en0 : N' 93 = N 93 := hn 93 (List.mem_of_getElem? (i := 0) rfl)
  show 0 ≤ (F' 92 1) ∧ (F' 92 1) ≤ ((N' 93 : Int)) ∧ ((N' 93 : Int)) ≤ 65536
  rw [ef0, en0]
  exact q
abbrev QF5_8 (D N : Nat → Nat) (F : hF) (A : hA) : Prop := 0 ≤ (F 94 1) ∧ (F 94 1) ≤ ((N 95 : Int)) ∧ ((N 95 : Int)) ≤ 65536
theorem QF5_8_eq {D N D' N' : Nat → Nat} {F F' : hF} {A A' : hA} (h : EQD [(94, 1)] [] [95] [] D N F A D' N' F' A') (q : QF5_8 D N F A) : QF5_8 D' N' F' A' := by
  obtain ⟨hf, ha, hn, hd⟩ := h
  have ef0 : F' 94 1 = F 94 1 := hf (94, 1) (List.mem_of_getElem? (i := 0) rfl)
  have en0 : N' 95 = N 95 := hn 95 (List.mem_of_getElem? (i := 0) rfl)
  show 0 ≤ (F' 94 1) ∧ (F' 94 1) ≤ ((N' 95 : Int)) ∧ ((N' 95 : Int)) ≤ 65536
  rw [ef0, en0]
  exact q
abbrev QF5_9 (D N : Nat → Nat) (F : hF) (A : hA) : Prop := CEL ((A 80))
theorem QF5_9_eq {D N D' N' : Nat → Nat} {F F' : hF} {A A' : hA} (h : EQD [] [80] [] [] D N F A D' N' F' A') (q : QF5_9 D N F A) : QF5_9 D' N' F' A' := by
  obtain ⟨hf, ha, hn, hd⟩ := h
  have ea0 : A' 80 = A 80 := ha 80 (List.mem_of_getElem? (i := 0) rfl)
  show CEL ((A' 80))
  rw [ea0]
  exact q
abbrev QF5_10 (D N : Nat → Nat) (F : hF) (A : hA) : Prop := CDZD (((N 101 : Int))) (((N 102 : Int))) (((N 103 : Int))) (((N 104 : Int))) (((N 105 : Int))) (((N 120 : Int))) (((N 121 : Int))) (((N 122 : Int)))
theorem QF5_10_eq {D N D' N' : Nat → Nat} {F F' : hF} {A A' : hA} (h : EQD [] [] [101, 102, 103, 104, 105, 120, 121, 122] [] D N F A D' N' F' A') (q : QF5_10 D N F A) : QF5_10 D' N' F' A' := by
  obtain ⟨hf, ha, hn, hd⟩ := h
  have en0 : N' 101 = N 101 := hn 101 (List.mem_of_getElem? (i := 0) rfl)
  have en1 : N' 102 = N 102 := hn 102 (List.mem_of_getElem? (i := 1) rfl)
  have en2 : N' 103 = N 103 := hn 103 (List.mem_of_getElem? (i := 2) rfl)
  have en3 : N' 104 = N 104 := hn 104 (List.mem_of_getElem? (i := 3) rfl)
  have en4 : N' 105 = N 105 := hn 105 (List.mem_of_getElem? (i := 4) rfl)
  have en5 : N' 120 = N 120 := hn 120 (List.mem_of_getElem? (i := 5) rfl)
  have en6 : N' 121 = N 121 := hn 121 (List.mem_of_getElem? (i := 6) rfl)
  have en7 : N' 122 = N 122 := hn 122 (List.mem_of_getElem? (i := 7) rfl)
  show CDZD (((N' 101 : Int))) (((N' 102 : Int))) (((N' 103 : Int))) (((N' 104 : Int))) (((N' 105 : Int))) (((N' 120 : Int))) (((N' 121 : Int))) (((N' 122 : Int)))
  rw [en0, en1, en2, en3, en4, en5, en6, en7]
  exact q
abbrev QF5_11 (D N : Nat → Nat) (F : hF) (A : hA) : Prop := SHZD (((N 107 : Int))) (((N 108 : Int))) (((N 109 : Int))) (((N 110 : Int))) (((N 111 : Int))) (((N 112 : Int))) (((N 113 : Int))) (((N 114 : Int))) ((F 106 1)) 12 64
theorem QF5_11_eq {D N D' N' : Nat → Nat} {F F' : hF} {A A' : hA} (h : EQD [(106, 1)] [] [107, 108, 109, 110, 111, 112, 113, 114] [] D N F A D' N' F' A') (q : QF5_11 D N F A) : QF5_11 D' N' F' A' := by
  obtain ⟨hf, ha, hn, hd⟩ := h
  have ef0 : F' 106 1 = F 106 1 := hf (106, 1) (List.mem_of_getElem? (i := 0) rfl)
  have en0 : N' 107 = N 107 := hn 107 (List.mem_of_getElem? (i := 0) rfl)
  have en1 : N' 108 = N 108 := hn 108 (List.mem_of_getElem? (i := 1) rfl)
  have en2 : N' 109 = N 109 := hn 109 (List.mem_of_getElem? (i := 2) rfl)
  have en3 : N' 110 = N 110 := hn 110 (List.mem_of_getElem? (i := 3) rfl)
  have en4 : N' 111 = N 111 := hn 111 (List.mem_of_getElem? (i := 4) rfl)
  have en5 : N' 112 = N 112 := hn 112 (List.mem_of_getElem? (i := 5) rfl)
  have en6 : N' 113 = N 113 := hn 113 (List.mem_of_getElem? (i := 6) rfl)
  have en7 : N' 114 = N 114 := hn 114 (List.mem_of_getElem? (i := 7) rfl)
  show SHZD (((N' 107 : Int))) (((N' 108 : Int))) (((N' 109 : Int))) (((N' 110 : Int))) (((N' 111 : Int))) (((N' 112 : Int))) (((N' 113 : Int))) (((N' 114 : Int))) ((F' 106 1)) 12 64
  rw [ef0, en0, en1, en2, en3, en4, en5, en6, en7]
  exact q
abbrev QF5_12 (D N : Nat → Nat) (F : hF) (A : hA) : Prop := 0 ≤ (F 115 1) ∧ (F 115 1) ≤ ((N 116 : Int)) ∧ ((N 116 : Int)) ≤ 65536
theorem QF5_12_eq {D N D' N' : Nat → Nat} {F F' : hF} {A A' : hA} (h : EQD [(115, 1)] [] [116] [] D N F A D' N' F' A') (q : QF5_12 D N F A) : QF5_12 D' N' F' A' := by
  obtain ⟨hf, ha, hn, hd⟩ := h
  have ef0 : F' 115 1 = F 115 1 := hf (115, 1) (List.mem_of_getElem? (i := 0) rfl)
  have en0 : N' 116 = N 116 := hn 116 (List.mem_of_getElem? (i := 0) rfl)
  show 0 ≤ (F' 115 1) ∧ (F' 115 1) ≤ ((N' 116 : Int)) ∧ ((N' 116 : Int)) ≤ 65536
  rw [ef0, en0]
  exact q
abbrev QF5_13 (D N : Nat → Nat) (F : hF) (A : hA) : Prop := 0 ≤ (F 117 1) ∧ (F 117 1) ≤ ((N 118 : Int)) ∧ ((N 118 : Int)) ≤ 65536
theorem QF5_13_eq {D N D' N' : Nat → Nat} {F F' : hF} {A A' : hA} (h : EQD [(117, 1)] [] [118] [] D N F A D' N' F' A') (q : QF5_13 D N F A) : QF5_13 D' N' F' A' := by
  obtain ⟨hf, ha, hn, hd⟩ := h
  have ef0 : F' 117 1 = F 117 1 := hf (117, 1) (List.mem_of_getElem? (i := 0) rfl)
  have en0 : N' 118 = N 118 := hn 118 (List.mem_of_getElem? (i := 0) rfl)
  show 0 ≤ (F' 117 1) ∧ (F' 117 1) ≤ ((N' 118 : Int)) ∧ ((N' 118 : Int)) ≤ 65536
  rw [ef0, en0]
  exact q
abbrev QF5_14 (D N : Nat → Nat) (F : hF) (A : hA) : Prop := CEL ((A 103))
theorem QF5_14_eq {D N D' N' : Nat → Nat} {F F' : hF} {A A' : hA} (h : EQD [] [103] [] [] D N F A D' N' F' A') (q : QF5_14 D N F A) : QF5_14 D' N' F' A' := by
  obtain ⟨hf, ha, hn, hd⟩ := h
  have ea0 : A' 103 = A 103 := ha 103 (List.mem_of_getElem? (i := 0) rfl)
  show CEL ((A' 103))
  rw [ea0]
  exact q
abbrev QF5_15 (D N : Nat → Nat) (F : hF) (A : hA) : Prop := SHZD (((N 125 : Int))) (((N 126 : Int))) (((N 127 : Int))) (((N 128 : Int))) (((N 129 : Int))) (((N 130 : Int))) (((N 131 : Int))) (((N 132 : Int))) ((F 124 1)) 36 512
theorem QF5_15_eq {D N D' N' : Nat → Nat} {F F' : hF} {A A' : hA} (h : EQD [(124, 1)] [] [125, 126, 127, 128, 129, 130, 131, 132] [] D N F A D' N' F' A') (q : QF5_15 D N F A) : QF5_15 D' N' F' A' := by
  obtain ⟨hf, ha, hn, hd⟩ := h
  have ef0 : F' 124 1 = F 124 1 := hf (124, 1) (List.mem_of_getElem? (i := 0) rfl)
  have en0 : N' 125 = N 125 := hn 125 (List.mem_of_getElem? (i := 0) rfl)
  have en1 : N' 126 = N 126 := hn 126 (List.mem_of_getElem? (i := 1) rfl)
  have en2 : N' 127 = N 127 := hn 127 (List.mem_of_getElem? (i := 2) rfl)
  have en3 : N' 128 = N 128 := hn 128 (List.mem_of_getElem? (i := 3) rfl)
  have en4 : N' 129 = N 129 := hn 129 (List.mem_of_getElem? (i := 4) rfl)
  have en5 : N' 130 = N 130 := hn 130 (List.mem_of_getElem? (i := 5) rfl)
  have en6 : N' 131 = N 131 := hn 131 (List.mem_of_getElem? (i := 6) rfl)
  have en7 : N' 132 = N 132 := hn 132 (List.mem_of_getElem? (i := 7) rfl)
  show SHZD (((N' 125 : Int))) (((N' 126 : Int))) (((N' 127 : Int))) (((N' 128 : Int))) (((N' 129 : Int))) (((N' 130 : Int))) (((N' 131 : Int))) (((N' 132 : Int))) ((F' 124 1)) 36 512
  rw [ef0, en0, en1, en2, en3, en4, en5, en6, en7]
  exact q
abbrev QF5_16 (D N : Nat → Nat) (F : hF) (A : hA) : Prop := SHZD (((N 153 : Int))) (((N 154 : Int))) (((N 155 : Int))) (((N 156 : Int))) (((N 157 : Int))) (((N 158 : Int))) (((N 159 : Int))) (((N 160 : Int))) ((F 152 1)) 36 512
theorem QF5_16_eq {D N D' N' : Nat → Nat} {F F' : hF} {A A' : hA} (h : EQD [(152, 1)] [] [153, 154, 155, 156, 157, 158, 159, 160] [] D N F A D' N' F' A') (q : QF5_16 D N F A) : QF5_16 D' N' F' A' := by
  obtain ⟨hf, ha, hn, hd⟩ := h
  have ef0 : F' 152 1 = F 152 1 := hf (152, 1) (List.mem_of_getElem? (i := 0) rfl)
  have en0 : N' 153 = N 153 := hn 153 (List.mem_of_getElem? (i := 0) rfl)
  have en1 : N' 154 = N 154 := hn 154 (List.mem_of_getElem? (i := 1) rfl)
  have en2 : N' 155 = N 155 := hn 155 (List.mem_of_getElem? (i := 2) rfl)
  have en3 : N' 156 = N 156 := hn 156 (List.mem_of_getElem? (i := 3) rfl)
  have en4 : N' 157 = N 157 := hn 157 (List.mem_of_getElem? (i := 4) rfl)
  have en5 : N' 158 = N 158 := hn 158 (List.mem_of_getElem? (i := 5) rfl)
  have en6 : N' 159 = N 159 := hn 159 (List.mem_of_getElem? (i := 6) rfl)
  have en7 : N' 160 = N 160 := hn 160 (List.mem_of_getElem? (i := 7) rfl)
  show SHZD (((N' 153 : Int))) (((N' 154 : Int))) (((N' 155 : Int))) (((N' 156 : Int))) (((N' 157 : Int))) (((N' 158 : Int))) (((N' 159 : Int))) (((N' 160 : Int))) ((F' 152 1)) 36 512
  rw [ef0, en0, en1, en2, en3, en4, en5, en6, en7]
  exact q
abbrev QF5_17 (D N : Nat → Nat) (F : hF) (A : hA) : Prop := SHZD (((N 134 : Int))) (((N 135 : Int))) (((N 136 : Int))) (((N 137 : Int))) (((N 138 : Int))) (((N 139 : Int))) (((N 140 : Int))) (((N 141 : Int))) ((F 133 1)) 32 256
theorem QF5_17_eq {D N D' N' : Nat → Nat} {F F' : hF} {A A' : hA} (h : EQD [(133, 1)] [] [134, 135, 136, 137, 138, 139, 140, 141] [] D N F A D' N' F' A') (q : QF5_17 D N F A) : QF5_17 D' N' F' A' := by
  obtain ⟨hf, ha, hn, hd⟩ := h
  have ef0 : F' 133 1 = F 133 1 := hf (133, 1) (List.mem_of_getElem? (i := 0) rfl)
  have en0 : N' 134 = N 134 := hn 134 (List.mem_of_getElem? (i := 0) rfl)
  have en1 : N' 135 = N 135 := hn 135 (List.mem_of_getElem? (i := 1) rfl)
  have en2 : N' 136 = N 136 := hn 136 (List.mem_of_getElem? (i := 2) rfl)
  have en3 : N' 137 = N 137 := hn 137 (List.mem_of_getElem? (i := 3) rfl)
  have en4 : N' 138 = N 138 := hn 138 (List.mem_of_getElem? (i := 4) rfl)
  have en5 : N' 139 = N 139 := hn 139 (List.mem_of_getElem? (i := 5) rfl)
  have en6 : N' 140 = N 140 := hn 140 (List.mem_of_getElem? (i := 6) rfl)
  have en7 : N' 141 = N 141 := hn 141 (List.mem_of_getElem? (i := 7) rfl)
  show SHZD (((N' 134 : Int))) (((N' 135 : Int))) (((N' 136 : Int))) (((N' 137 : Int))) (((N' 138 : Int))) (((N' 139 : Int))) (((N' 140 : Int))) (((N' 141 : Int))) ((F' 133 1)) 32 256
  rw [ef0, en0, en1, en2, en3, en4, en5, en6, en7]
  exact q
abbrev QF5_18 (D N : Nat → Nat) (F : hF) (A : hA) : Prop := SHZD (((N 162 : Int))) (((N 163 : Int))) (((N 164 : Int))) (((N 165 : Int))) (((N 166 : Int))) (((N 167 : Int))) (((N 168 : Int))) (((N 169 : Int))) ((F 161 1)) 32 256
theorem QF5_18_eq {D N D' N' : Nat → Nat} {F F' : hF} {A A' : hA} (h : EQD [(161, 1)] [] [162, 163, 164, 165, 166, 167, 168, 169] [] D N F A D' N' F' A') (q : QF5_18 D N F A) : QF5_18 D' N' F' A' := by
  obtain ⟨hf, ha, hn, hd⟩ := h
  have ef0 : F' 161 1 = F 161 1 := hf (161, 1) (List.mem_of_getElem? (i := 0) rfl)
  have en0 : N' 162 = N 162 := hn 162 (List.mem_of_getElem? (i := 0) rfl)
  have en1 : N' 163 = N 163 := hn 163 (List.mem_of_getElem? (i := 1) rfl)
  have en2 : N' 164 = N 164 := hn 164 (List.mem_of_getElem? (i := 2) rfl)
  have en3 : N' 165 = N 165 := hn 165 (List.mem_of_getElem? (i := 3) rfl)
  have en4 : N' 166 = N 166 := hn 166 (List.mem_of_getElem? (i := 4) rfl)
  have en5 : N' 167 = N 167 := hn 167 (List.mem_of_getElem? (i := 5) rfl)
  have en6 : N' 168 = N 168 := hn 168 (List.mem_of_getElem? (i := 6) rfl)
  have en7 : N' 169 = N 169 := hn 169 (List.mem_of_getElem? (i := 7) rfl)
  show SHZD (((N' 162 : Int))) (((N' 163 : Int))) (((N' 164 : Int))) (((N' 165 : Int))) (((N' 166 : Int))) (((N' 167 : Int))) (((N' 168 : Int))) (((N' 169 : Int))) ((F' 161 1)) 32 256
  rw [ef0, en0, en1, en2, en3, en4, en5, en6, en7]
  exact q
abbrev QF5_19 (D N : Nat → Nat) (F : hF) (A : hA) : Prop := SHZD (((N 143 : Int))) (((N 144 : Int))) (((N 145 : Int))) (((N 146 : Int))) (((N 147 : Int))) (((N 148 : Int))) (((N 149 : Int))) (((N 150 : Int))) ((F 142 1)) 53 512
theorem QF5_19_eq {D N D' N' : Nat → Nat} {F F' : hF} {A A' : hA} (h : EQD [(142, 1)] [] [143, 144, 145, 146, 147, 148, 149, 150] [] D N F A D' N' F' A') (q : QF5_19 D N F A) : QF5_19 D' N' F' A' := by
  obtain ⟨hf, ha, hn, hd⟩ := h
  have ef0 : F' 142 1 = F 142 1 := hf (142, 1) (List.mem_of_getElem? (i := 0) rfl)
  have en0 : N' 143 = N 143 := hn 143 (List.mem_of_getElem? (i := 0) rfl)
  have en1 : N' 144 = N 144 := hn 144 (List.mem_of_getElem? (i := 1) rfl)
  have en2 : N' 145 = N 145 := hn 145 (List.mem_of_getElem? (i := 2) rfl)
  have en3 : N' 146 = N 146 := hn 146 (List.mem_of_getElem? (i := 3) rfl)
  have en4 : N' 147 = N 147 := hn 147 (List.mem_of_getElem? (i := 4) rfl)
  have en5 : N' 148 = N 148 := hn 148 (List.mem_of_getElem? (i := 5) rfl)
  have en6 : N' 149 = N 149 := hn 149 (List.mem_of_getElem? (i := 6) rfl)
  have en7 : N' 150 = N 150 := hn 150 (List.mem_of_getElem? (i := 7) rfl)
  show SHZD (((N' 143 : Int))) (((N' 144 : Int))) (((N' 145 : Int))) (((N' 146 : Int))) (((N' 147 : Int))) (((N' 148 : Int))) (((N' 149 : Int))) (((N' 150 : Int))) ((F' 142 1)) 53 512
  rw [ef0, en0, en1, en2, en3, en4, en5, en6, en7]
  exact q
abbrev QF5_20 (D N : Nat → Nat) (F : hF) (A : hA) : Prop := SHZD (((N 171 : Int))) (((N 172 : Int))) (((N 173 : Int))) (((N 174 : Int))) (((N 175 : Int))) (((N 176 : Int))) (((N 177 : Int))) (((N 178 : Int))) ((F 170 1)) 53 512
theorem QF5_20_eq {D N D' N' : Nat → Nat} {F F' : hF} {A A' : hA} (h : EQD [(170, 1)] [] [171, 172, 173, 174, 175, 176, 177, 178] [] D N F A D' N' F' A') (q : QF5_20 D N F A) : QF5_20 D' N' F' A' := by
  obtain ⟨hf, ha, hn, hd⟩ := h
  have ef0 : F' 170 1 = F 170 1 := hf (170, 1) (List.mem_of_getElem? (i := 0) rfl)
  have en0 : N' 171 = N 171 := hn 171 (List.mem_of_getElem? (i := 0) rfl)
  have en1 : N' 172 = N 172 := hn 172 (List.mem_of_getElem? (i := 1) rfl)
  have en2 : N' 173 = N 173 := hn 173 (List.mem_of_getElem? (i := 2) rfl)
  have en3 : N' 174 = N 174 := hn 174 (List.mem_of_getElem? (i := 3) rfl)
  have en4 : N' 175 = N 175 := hn 175 (List.mem_of_getElem? (i := 4) rfl)
  have en5 : N' 176 = N 176 := hn 176 (List.mem_of_getElem? (i := 5) rfl)
  have en6 : N' 177 = N 177 := hn 177 (List.mem_of_getElem? (i := 6) rfl)
  have en7 : N' 178 = N 178 := hn 178 (List.mem_of_getElem? (i := 7) rfl)
  show SHZD (((N' 171 : Int))) (((N' 172 : Int))) (((N' 173 : Int))) (((N' 174 : Int))) (((N' 175 : Int))) (((N' 176 : Int))) (((N' 177 : Int))) (((N' 178 : Int))) ((F' 170 1)) 53 512
  rw [ef0, en0, en1, en2, en3, en4, en5, en6, en7]
  exact q
abbrev QF5_21 (D N : Nat → Nat) (F : hF) (A : hA) : Prop := 0 ≤ ((A 198)) 0 ∧ ((A 198)) 0 ≤ 3 ∧ 0 ≤ ((A 198)) 1 ∧ ((A 198)) 1 ≤ 3 ∧ 0 ≤ ((A 198)) 2 ∧ ((A 198)) 2 ≤ 3
theorem QF5_21_eq {D N D' N' : Nat → Nat} {F F' : hF} {A A' : hA} (h : EQD [] [198] [] [] D N F A D' N' F' A') (q : QF5_21 D N F A) : QF5_21 D' N' F' A' := by
  obtain ⟨hf, ha, hn, hd⟩ := h
  have ea0 : A' 198 = A 198 := ha 198 (List.mem_of_getElem? (i := 0) rfl)
  show 0 ≤ ((A' 198)) 0 ∧ ((A' 198)) 0 ≤ 3 ∧ 0 ≤ ((A' 198)) 1 ∧ ((A' 198)) 1 ≤ 3 ∧ 0 ≤ ((A' 198)) 2 ∧ ((A' 198)) 2 ≤ 3
  rw [ea0]
  exact q
def INV5 (D N : Nat → Nat) (F : hF) (A : hA) : Prop := QF5_0 D N F A ∧ QF5_1 D N F A ∧ QF5_2 D N F A ∧ QF5_3 D N F A ∧ QF5_4 D N F A ∧ QF5_5 D N F A ∧ QF5_6 D N F A ∧ QF5_7 D N F A ∧ QF5_8 D N F A ∧ QF5_9 D N F A ∧ QF5_10 D N F A ∧ QF5_11 D N F A ∧ QF5_12 D N F A ∧ QF5_13 D N F A ∧ QF5_14 D N F A ∧ QF5_15 D N F A ∧ QF5_16 D N F A ∧ QF5_17 D N F A ∧ QF5_18 D N F A ∧ QF5_19 D N F A ∧ QF5_20 D N F A ∧ QF5_21 D N F A
theorem INV5_eq {D N D' N' : Nat → Nat} {F F' : hF} {A A' : hA} (h : EQD [(83, 1), (92, 1), (94, 1), (106, 1), (115, 1), (117, 1), (124, 1), (133, 1), (142, 1), (152, 1), (161, 1), (170, 1), (185, 1), (187, 1), (189, 1)] [80, 103, 198] [76, 78, 79, 80, 81, 82, 84, 85, 86, 87, 88, 89, 90, 91, 93, 95, 97, 98, 99, 101, 102, 103, 104, 105, 107, 108, 109, 110, 111, 112, 113, 114, 116, 118, 120, 121, 122, 123, 125, 126, 127, 128, 129, 130, 131, 132, 134, 135, 136, 137, 138, 139, 140, 141, 143, 144, 145, 146, 147, 148, 149, 150, 151, 153, 154, 155, 156, 157, 158, 159, 160, 162, 163, 164, 165, 166, 167, 168, 169, 171, 172, 173, 174, 175, 176, 177, 178, 180, 181, 183, 184, 186, 188, 190, 191, 192, 193, 194, 195, 196, 197, 198, 199] [] D N F A D' N' F' A') (q : INV5 D N F A) : INV5 D' N' F' A' := ⟨QF5_0_eq (EQD_sub (by decide +kernel) h) q.1, QF5_1_eq (EQD_sub (by decide +kernel) h) q.2.1, QF5_2_eq (EQD_sub (by decide +kernel) h) q.2.2.1, QF5_3_eq (EQD_sub (by decide +kernel) h) q.2.2.2.1, QF5_4_eq (EQD_sub (by decide +kernel) h) q.2.2.2.2.1, QF5_5_eq (EQD_sub (by decide +kernel) h) q.2.2.2.2.2.1, QF5_6_eq (EQD_sub (by decide +kernel) h) q.2.2.2.2.2.2.1, QF5_7_eq (EQD_sub (by decide +kernel) h) q.2.2.2.2.2.2.2.1, QF5_8_eq (EQD_sub (by decide +kernel) h) q.2.2.2.2.2.2.2.2.1, QF5_9_eq (EQD_sub (by decide +kernel) h) q.2.2.2.2.2.2.2.2.2.1, QF5_10_eq (EQD_sub (by decide +kernel) h) q.2.2.2.2.2.2.2.2.2.2.1, QF5_11_eq (EQD_sub (by decide +kernel) h) q.2.2.2.2.2.2.2.2.2.2.2.1, QF5_12_eq (EQD_sub (by decide +kernel) h) q.2.2.2.2.2.2.2.2.2.2.2.2.1, QF5_13_eq (EQD_sub (by decide +kernel) h) q.2.2.2.2.2.2.2.2.2.2.2.2.2.1, QF5_14_eq (EQD_sub (by decide +kernel) h) q.2.2.2.2.2.2.2.2.2.2.2.2.2.2.1, QF5_15_eq (EQD_sub (by decide +kernel) h) q.2.2.2.2.2.2.2.2.2.2.2.2.2.2.2.1, QF5_16_eq (EQD_sub (by decide +kernel) h) q.2.2.2.2.2.2.2.2.2.2.2.2.2.2.2.2.1, QF5_17_eq (EQD_sub (by decide +kernel) h) q.2.2.2.2.2.2.2.2.2.2.2.2.2.2.2.2.2.1, QF5_18_eq (EQD_sub (by decide +kernel) h) q.2.2.2.2.2.2.2.2.2.2.2.2.2.2.2.2.2.2.1, QF5_19_eq (EQD_sub (by decide +kernel) h) q.2.2.2.2.2.2.2.2.2.2.2.2.2.2.2.2.2.2.2.1, QF5_20_eq (EQD_sub (by decide +kernel) h) q.2.2.2.2.2.2.2.2.2.2.2.2.2.2.2.2.2.2.2.2.1, QF5_21_eq (EQD_sub (by decide +kernel) h) q.2.2.2.2.2.2.2.2.2.2.2.2.2.2.2.2.2.2.2.2.2⟩
abbrev QF6_0 (D N : Nat → Nat) (F : hF) (A : hA) : Prop := 0 ≤ (F 200 15)
theorem QF6_0_eq {D N D' N' : Nat → Nat} {F F' : hF} {A A' : hA} (h : EQD [(200, 15)] [] [] [] D N F A D' N' F' A') (q : QF6_0 D N F A) : QF6_0 D' N' F' A' := by
  obtain ⟨hf, ha, hn, hd⟩ := h
  have ef0 : F' 200 15 = F 200 15 := hf (200, 15) (List.mem_of_getElem? (i := 0) rfl)
  show 0 ≤ (F' 200 15)
  rw [ef0]
  exact q
abbrev QF6_1 (D N : Nat → Nat) (F : hF) (A : hA) : Prop := 0 ≤ (F 255 1) ∧ (F 255 1) ≤ ((N 256 : Int)) ∧ ((N 256 : Int)) ≤ 65536
theorem QF6_1_eq {D N D' N' : Nat → Nat} {F F' : hF} {A A' : hA} (h : EQD [(255, 1)] [] [256] [] D N F A D' N' F' A') (q : QF6_1 D N F A) : QF6_1 D' N' F' A' := by
  obtain ⟨hf, ha, hn, hd⟩ := h
  have ef0 : F' 255 1 = F 255 1 := hf (255, 1) (List.mem_of_getElem? (i := 0) rfl)
  have en0 : N' 256 = N 256 := hn 256 (List.mem_of_getElem? (i := 0) rfl)
  show 0 ≤ (F' 255 1) ∧ (F' 255 1) ≤ ((N' 256 : Int)) ∧ ((N' 256 : Int)) ≤ 65536
  rw [ef0, en0]
  exact q
abbrev QF6_2 (D N : Nat → Nat) (F : hF) (A : hA) : Prop := ((N 254 : Int)) = 3 ∧ ((N 258 : Int)) = 3 ∧ ((N 253 : Int)) = 3 ∧ ((N 224 : Int)) = 3
theorem QF6_2_eq {D N D' N' : Nat → Nat} {F F' : hF} {A A' : hA} (h : EQD [] [] [224, 253, 254, 258] [] D N F A D' N' F' A') (q : QF6_2 D N F A) : QF6_2 D' N' F' A' := by
  obtain ⟨hf, ha, hn, hd⟩ := h
  have en0 : N' 224 = N 224 := hn 224 (List.mem_of_getElem? (i := 0) rfl)
  have en1 : N' 253 = N 253 := hn 253 (List.mem_of_getElem? (i := 1) rfl)
  have en2 : N' 254 = N 254 := hn 254 (List.mem_of_getElem? (i := 2) rfl)
  have en3 : N' 258 = N 258 := hn 258 (List.mem_of_getElem? (i := 3) rfl)
  show ((N' 254 : Int)) = 3 ∧ ((N' 258 : Int)) = 3 ∧ ((N' 253 : Int)) = 3 ∧ ((N' 224 : Int)) = 3
  rw [en0, en1, en2, en3]
  exact q
abbrev QF6_3 (D N : Nat → Nat) (F : hF) (A : hA) : Prop := SHZD (((N 226 : Int))) (((N 227 : Int))) (((N 228 : Int))) (((N 229 : Int))) (((N 230 : Int))) (((N 231 : Int))) (((N 232 : Int))) (((N 233 : Int))) ((F 225 1)) 36 512
theorem QF6_3_eq {D N D' N' : Nat → Nat} {F F' : hF} {A A' : hA} (h : EQD [(225, 1)] [] [226, 227, 228, 229, 230, 231, 232, 233] [] D N F A D' N' F' A') (q : QF6_3 D N F A) : QF6_3 D' N' F' A' := by
  obtain ⟨hf, ha, hn, hd⟩ := h
  have ef0 : F' 225 1 = F 225 1 := hf (225, 1) (List.mem_of_getElem? (i := 0) rfl)
  have en0 : N' 226 = N 226 := hn 226 (List.mem_of_getElem? (i := 0) rfl)
  have en1 : N' 227 = N 227 := hn 227 (List.mem_of_getElem? (i := 1) rfl)
  have en2 : N' 228 = N 228 := hn 228 (List.mem_of_getElem? (i := 2) rfl)
  have en3 : N' 229 = N 229 := hn 229 (List.mem_of_getElem? (i := 3) rfl)
  have en4 : N' 230 = N 230 := hn 230 (List.mem_of_getElem? (i := 4) rfl)
  have en5 : N' 231 = N 231 := hn 231 (List.mem_of_getElem? (i := 5) rfl)
  have en6 : N' 232 = N 232 := hn 232 (List.mem_of_getElem? (i := 6) rfl)
  have en7 : N' 233 = N 233 := hn 233 (List.mem_of_getElem? (i := 7) rfl)
  show SHZD (((N' 226 : Int))) (((N' 227 : Int))) (((N' 228 : Int))) (((N' 229 : Int))) (((N' 230 : Int))) (((N' 231 : Int))) (((N' 232 : Int))) (((N' 233 : Int))) ((F' 225 1)) 36 512
  rw [ef0, en0, en1, en2, en3, en4, en5, en6, en7]
  exact q
abbrev QF6_4 (D N : Nat → Nat) (F : hF) (A : hA) : Prop := SHZD (((N 235 : Int))) (((N 236 : Int))) (((N 237 : Int))) (((N 238 : Int))) (((N 239 : Int))) (((N 240 : Int))) (((N 241 : Int))) (((N 242 : Int))) ((F 234 1)) 32 256
theorem QF6_4_eq {D N D' N' : Nat → Nat} {F F' : hF} {A A' : hA} (h : EQD [(234, 1)] [] [235, 236, 237, 238, 239, 240, 241, 242] [] D N F A D' N' F' A') (q : QF6_4 D N F A) : QF6_4 D' N' F' A' := by
  obtain ⟨hf, ha, hn, hd⟩ := h
  have ef0 : F' 234 1 = F 234 1 := hf (234, 1) (List.mem_of_getElem? (i := 0) rfl)
  have en0 : N' 235 = N 235 := hn 235 (List.mem_of_getElem? (i := 0) rfl)
  have en1 : N' 236 = N 236 := hn 236 (List.mem_of_getElem? (i := 1) rfl)
  have en2 : N' 237 = N 237 := hn 237 (List.mem_of_getElem? (i := 2) rfl)
  have en3 : N' 238 = N 238 := hn 238 (List.mem_of_getElem? (i := 3) rfl)
  have en4 : N' 239 = N 239 := hn 239 (List.mem_of_getElem? (i := 4) rfl)
  have en5 : N' 240 = N 240 := hn 240 (List.mem_of_getElem? (i := 5) rfl)
  have en6 : N' 241 = N 241 := hn 241 (List.mem_of_getElem? (i := 6) rfl)
  have en7 : N' 242 = N 242 := hn 242 (List.mem_of_getElem? (i := 7) rfl)
  show SHZD (((N' 235 : Int))) (((N' 236 : Int))) (((N' 237 : Int))) (((N' 238 : Int))) (((N' 239 : Int))) (((N' 240 : Int))) (((N' 241 : Int))) (((N' 242 : Int))) ((F' 234 1)) 32 256
  rw [ef0, en0, en1, en2, en3, en4, en5, en6, en7]
  exact q
abbrev QF6_5 (D N : Nat → Nat) (F : hF) (A : hA) : Prop := SHZD (((N 244 : Int))) (((N 245 : Int))) (((N 246 : Int))) (((N 247 : Int))) (((N 248 : Int))) (((N 249 : Int))) (((N 250 : Int))) (((N 251 : Int))) ((F 243 1)) 53 512
theorem QF6_5_eq {D N D' N' : Nat → Nat} {F F' : hF} {A A' : hA} (h : EQD [(243, 1)] [] [244, 245, 246, 247, 248, 249, 250, 251] [] D N F A D' N' F' A') (q : QF6_5 D N F A) : QF6_5 D' N' F' A' := by
  obtain ⟨hf, ha, hn, hd⟩ := h
  have ef0 : F' 243 1 = F 243 1 := hf (243, 1) (List.mem_of_getElem? (i := 0) rfl)
  have en0 : N' 244 = N 244 := hn 244 (List.mem_of_getElem? (i := 0) rfl)
  have en1 : N' 245 = N 245 := hn 245 (List.mem_of_getElem? (i := 1) rfl)
  have en2 : N' 246 = N 246 := hn 246 (List.mem_of_getElem? (i := 2) rfl)
  have en3 : N' 247 = N 247 := hn 247 (List.mem_of_getElem? (i := 3) rfl)
  have en4 : N' 248 = N 248 := hn 248 (List.mem_of_getElem? (i := 4) rfl)
  have en5 : N' 249 = N 249 := hn 249 (List.mem_of_getElem? (i := 5) rfl)
  have en6 : N' 250 = N 250 := hn 250 (List.mem_of_getElem? (i := 6) rfl)
  have en7 : N' 251 = N 251 := hn 251 (List.mem_of_getElem? (i := 7) rfl)
  show SHZD (((N' 244 : Int))) (((N' 245 : Int))) (((N' 246 : Int))) (((N' 247 : Int))) (((N' 248 : Int))) (((N' 249 : Int))) (((N' 250 : Int))) (((N' 251 : Int))) ((F' 243 1)) 53 512
  rw [ef0, en0, en1, en2, en3, en4, en5, en6, en7]
  exact q
abbrev QF6_6 (D N : Nat → Nat) (F : hF) (A : hA) : Prop := CDZD (((N 202 : Int))) (((N 203 : Int))) (((N 204 : Int))) (((N 205 : Int))) (((N 206 : Int))) (((N 221 : Int))) (((N 222 : Int))) (((N 223 : Int)))
theorem QF6_6_eq {D N D' N' : Nat → Nat} {F F' : hF} {A A' : hA} (h : EQD [] [] [202, 203, 204, 205, 206, 221, 222, 223] [] D N F A D' N' F' A') (q : QF6_6 D N F A) : QF6_6 D' N' F' A' := by
  obtain ⟨hf, ha, hn, hd⟩ := h
  have en0 : N' 202 = N 202 := hn 202 (List.mem_of_getElem? (i := 0) rfl)
  have en1 : N' 203 = N 203 := hn 203 (List.mem_of_getElem? (i := 1) rfl)
  have en2 : N' 204 = N 204 := hn 204 (List.mem_of_getElem? (i := 2) rfl)
  have en3 : N' 205 = N 205 := hn 205 (List.mem_of_getElem? (i := 3) rfl)
  have en4 : N' 206 = N 206 := hn 206 (List.mem_of_getElem? (i := 4) rfl)
  have en5 : N' 221 = N 221 := hn 221 (List.mem_of_getElem? (i := 5) rfl)
  have en6 : N' 222 = N 222 := hn 222 (List.mem_of_getElem? (i := 6) rfl)
  have en7 : N' 223 = N 223 := hn 223 (List.mem_of_getElem? (i := 7) rfl)
  show CDZD (((N' 202 : Int))) (((N' 203 : Int))) (((N' 204 : Int))) (((N' 205 : Int))) (((N' 206 : Int))) (((N' 221 : Int))) (((N' 222 : Int))) (((N' 223 : Int)))
  rw [en0, en1, en2, en3, en4, en5, en6, en7]
  exact q
abbrev QF6_7 (D N : Nat → Nat) (F : hF) (A : hA) : Prop := SHZD (((N 208 : Int))) (((N 209 : Int))) (((N 210 : Int))) (((N 211 : Int))) (((N 212 : Int))) (((N 213 : Int))) (((N 214 : Int))) (((N 215 : Int))) ((F 207 1)) 12 64
theorem QF6_7_eq {D N D' N' : Nat → Nat} {F F' : hF} {A A' : hA} (h : EQD [(207, 1)] [] [208, 209, 210, 211, 212, 213, 214, 215] [] D N F A D' N' F' A') (q : QF6_7 D N F A) : QF6_7 D' N' F' A' := by
  obtain ⟨hf, ha, hn, hd⟩ := h
  have ef0 : F' 207 1 = F 207 1 := hf (207, 1) (List.mem_of_getElem? (i := 0) rfl)
  have en0 : N' 208 = N 208 := hn 208 (List.mem_of_getElem? (i := 0) rfl)
  have en1 : N' 209 = N 209 := hn 209 (List.mem_of_getElem? (i := 1) rfl)
  have en2 : N' 210 = N 210 := hn 210 (List.mem_of_getElem? (i := 2) rfl)
  have en3 : N' 211 = N 211 := hn 211 (List.mem_of_getElem? (i := 3) rfl)
  have en4 : N' 212 = N 212 := hn 212 (List.mem_of_getElem? (i := 4) rfl)
  have en5 : N' 213 = N 213 := hn 213 (List.mem_of_getElem? (i := 5) rfl)
  have en6 : N' 214 = N 214 := hn 214 (List.mem_of_getElem? (i := 6) rfl)
  have en7 : N' 215 = N 215 := hn 215 (List.mem_of_getElem? (i := 7) rfl)
  show SHZD (((N' 208 : Int))) (((N' 209 : Int))) (((N' 210 : Int))) (((N' 211 : Int))) (((N' 212 : Int))) (((N' 213 : Int))) (((N' 214 : Int))) (((N' 215 : Int))) ((F' 207 1)) 12 64
  rw [ef0, en0, en1, en2, en3, en4, en5, en6, en7]
  exact q
abbrev QF6_8 (D N : Nat → Nat) (F : hF) (A : hA) : Prop := CEL ((A 204))
theorem QF6_8_eq {D N D' N' : Nat → Nat} {F F' : hF} {A A' : hA} (h : EQD [] [204] [] [] D N F A D' N' F' A') (q : QF6_8 D N F A) : QF6_8 D' N' F' A' := by
  obtain ⟨hf, ha, hn, hd⟩ := h
  have ea0 : A' 204 = A 204 := ha 204 (List.mem_of_getElem? (i := 0) rfl)
  show CEL ((A' 204))
  rw [ea0]
  exact q
def INV6 (D N : Nat → Nat) (F : hF) (A : hA) : Prop := QF6_0 D N F A ∧ QF6_1 D N F A ∧ QF6_2 D N F A ∧ QF6_3 D N F A ∧ QF6_4 D N F A ∧ QF6_5 D N F A ∧ QF6_6 D N F A ∧ QF6_7 D N F A ∧ QF6_8 D N F A
theorem INV6_eq {D N D' N' : Nat → Nat} {F F' : hF} {A A' : hA} (h : EQD [(200, 15), (207, 1), (225, 1), (234, 1), (243, 1), (255, 1)] [204] [202, 203, 204, 205, 206, 208, 209, 210, 211, 212, 213, 214, 215, 221, 222, 223, 224, 226, 227, 228, 229, 230, 231, 232, 233, 235, 236, 237, 238, 239, 240, 241, 242, 244, 245, 246, 247, 248, 249, 250, 251, 253, 254, 256, 258] [] D N F A D' N' F' A') (q : INV6 D N F A) : INV6 D' N' F' A' := ⟨QF6_0_eq (EQD_sub (by decide +kernel) h) q.1, QF6_1_eq (EQD_sub (by decide +kernel) h) q.2.1, QF6_2_eq (EQD_sub (by decide +kernel) h) q.2.2.1, QF6_3_eq (EQD_sub (by decide +kernel) h) q.2.2.2.1, QF6_4_eq (EQD_sub (by decide +kernel) h) q.2.2.2.2.1, QF6_5_eq (EQD_sub (by decide +kernel) h) q.2.2.2.2.2.1, QF6_6_eq (EQD_sub (by decide +kernel) h) q.2.2.2.2.2.2.1, QF6_7_eq (EQD_sub (by decide +kernel) h) q.2.2.2.2.2.2.2.1, QF6_8_eq (EQD_sub (by decide +kernel) h) q.2.2.2.2.2.2.2.2⟩
abbrev QF7_0 (D N : Nat → Nat) (F : hF) (A : hA) : Prop := ((N 282 : Int)) = 3
theorem QF7_0_eq {D N D' N' : Nat → Nat} {F F' : hF} {A A' : hA} (h : EQD [] [] [282] [] D N F A D' N' F' A') (q : QF7_0 D N F A) : QF7_0 D' N' F' A' := by
  obtain ⟨hf, ha, hn, hd⟩ := h
  have en0 : N' 282 = N 282 := hn 282 (List.mem_of_getElem? (i := 0) rfl)
  show ((N' 282 : Int)) = 3
  rw [en0]
  exact q
abbrev QF7_1 (D N : Nat → Nat) (F : hF) (A : hA) : Prop := CDZD (((N 260 : Int))) (((N 261 : Int))) (((N 262 : Int))) (((N 263 : Int))) (((N 264 : Int))) (((N 279 : Int))) (((N 280 : Int))) (((N 281 : Int)))
theorem QF7_1_eq {D N D' N' : Nat → Nat} {F F' : hF} {A A' : hA} (h : EQD [] [] [260, 261, 262, 263, 264, 279, 280, 281] [] D N F A D' N' F' A') (q : QF7_1 D N F A) : QF7_1 D' N' F' A' := by
  obtain ⟨hf, ha, hn, hd⟩ := h
  have en0 : N' 260 = N 260 := hn 260 (List.mem_of_getElem? (i := 0) rfl)
  have en1 : N' 261 = N 261 := hn 261 (List.mem_of_getElem? (i := 1) rfl)
  have en2 : N' 262 = N 262 := hn 262 (List.mem_of_getElem? (i := 2) rfl)
  have en3 : N' 263 = N 263 := hn 263 (List.mem_of_getElem? (i := 3) rfl)
  have en4 : N' 264 = N 264 := hn 264 (List.mem_of_getElem? (i := 4) rfl)
  have en5 : N' 279 = N 279 := hn 279 (List.mem_of_getElem? (i := 5) rfl)
  have en6 : N' 280 = N 280 := hn 280 (List.mem_of_getElem? (i := 6) rfl)
  have en7 : N' 281 = N 281 := hn 281 (List.mem_of_getElem? (i := 7) rfl)
  show CDZD (((N' 260 : Int))) (((N' 261 : Int))) (((N' 262 : Int))) (((N' 263 : Int))) (((N' 264 : Int))) (((N' 279 : Int))) (((N' 280 : Int))) (((N' 281 : Int)))
  rw [en0, en1, en2, en3, en4, en5, en6, en7]
  exact q
abbrev QF7_2 (D N : Nat → Nat) (F : hF) (A : hA) : Prop := SHZD (((N 266 : Int))) (((N 267 : Int))) (((N 268 : Int))) (((N 269 : Int))) (((N 270 : Int))) (((N 271 : Int))) (((N 272 : Int))) (((N 273 : Int))) ((F 265 1)) 12 64
theorem QF7_2_eq {D N D' N' : Nat → Nat} {F F' : hF} {A A' : hA} (h : EQD [(265, 1)] [] [266, 267, 268, 269, 270, 271, 272, 273] [] D N F A D' N' F' A') (q : QF7_2 D N F A) : QF7_2 D' N' F' A' := by
  obtain ⟨hf, ha, hn, hd⟩ := h
  have ef0 : F' 265 1 = F 265 1 := hf (265, 1) (List.mem_of_getElem? (i := 0) rfl)
  have en0 : N' 266 = N 266 := hn 266 (List.mem_of_getElem? (i := 0) rfl)
  have en1 : N' 267 = N 267 := hn 267 (List.mem_of_getElem? (i := 1) rfl)
  have en2 : N' 268 = N 268 := hn 268 (List.mem_of_getElem? (i := 2) rfl)
  have en3 : N' 269 = N 269 := hn 269 (List.mem_of_getElem? (i := 3) rfl)
  have en4 : N' 270 = N 270 := hn 270 (List.mem_of_getElem? (i := 4) rfl)
  have en5 : N' 271 = N 271 := hn 271 (List.mem_of_getElem? (i := 5) rfl)
  have en6 : N' 272 = N 272 := hn 272 (List.mem_of_getElem? (i := 6) rfl)
  have en7 : N' 273 = N 273 := hn 273 (List.mem_of_getElem? (i := 7) rfl)
  show SHZD (((N' 266 : Int))) (((N' 267 : Int))) (((N' 268 : Int))) (((N' 269 : Int))) (((N' 270 : Int))) (((N' 271 : Int))) (((N' 272 : Int))) (((N' 273 : Int))) ((F' 265 1)) 12 64
  rw [ef0, en0, en1, en2, en3, en4, en5, en6, en7]
  exact q
abbrev QF7_3 (D N : Nat → Nat) (F : hF) (A : hA) : Prop := SHZD (((N 284 : Int))) (((N 285 : Int))) (((N 286 : Int))) (((N 287 : Int))) (((N 288 : Int))) (((N 289 : Int))) (((N 290 : Int))) (((N 291 : Int))) ((F 283 1)) 36 512
theorem QF7_3_eq {D N D' N' : Nat → Nat} {F F' : hF} {A A' : hA} (h : EQD [(283, 1)] [] [284, 285, 286, 287, 288, 289, 290, 291] [] D N F A D' N' F' A') (q : QF7_3 D N F A) : QF7_3 D' N' F' A' := by
  obtain ⟨hf, ha, hn, hd⟩ := h
  have ef0 : F' 283 1 = F 283 1 := hf (283, 1) (List.mem_of_getElem? (i := 0) rfl)
  have en0 : N' 284 = N 284 := hn 284 (List.mem_of_getElem? (i := 0) rfl)
  have en1 : N' 285 = N 285 := hn 285 (List.mem_of_getElem? (i := 1) rfl)
  have en2 : N' 286 = N 286 := hn 286 (List.mem_of_getElem? (i := 2) rfl)
  have en3 : N' 287 = N 287 := hn 287 (List.mem_of_getElem? (i := 3) rfl)
  have en4 : N' 288 = N 288 := hn 288 (List.mem_of_getElem? (i := 4) rfl)
  have en5 : N' 289 = N 289 := hn 289 (List.mem_of_getElem? (i := 5) rfl)
  have en6 : N' 290 = N 290 := hn 290 (List.mem_of_getElem? (i := 6) rfl)
  have en7 : N' 291 = N 291 := hn 291 (List.mem_of_getElem? (i := 7) rfl)
  show SHZD (((N' 284 : Int))) (((N' 285 : Int))) (((N' 286 : Int))) (((N' 287 : Int))) (((N' 288 : Int))) (((N' 289 : Int))) (((N' 290 : Int))) (((N' 291 : Int))) ((F' 283 1)) 36 512
  rw [ef0, en0, en1, en2, en3, en4, en5, en6, en7]
  exact q
abbrev QF7_4 (D N : Nat → Nat) (F : hF) (A : hA) : Prop := SHZD (((N 293 : Int))) (((N 294 : Int))) (((N 295 : Int))) (((N 296 : Int))) (((N 297 : Int))) (((N 298 : Int))) (((N 299 : Int))) (((N 300 : Int))) ((F 292 1)) 32 256
theorem QF7_4_eq {D N D' N' : Nat → Nat} {F F' : hF} {A A' : hA} (h : EQD [(292, 1)] [] [293, 294, 295, 296, 297, 298, 299, 300] [] D N F A D' N' F' A') (q : QF7_4 D N F A) : QF7_4 D' N' F' A' := by
  obtain ⟨hf, ha, hn, hd⟩ := h
  have ef0 : F' 292 1 = F 292 1 := hf (292, 1) (List.mem_of_getElem? (i := 0) rfl)
  have en0 : N' 293 = N 293 := hn 293 (List.mem_of_getElem? (i := 0) rfl)
  have en1 : N' 294 = N 294 := hn 294 (List.mem_of_getElem? (i := 1) rfl)
  have en2 : N' 295 = N 295 := hn 295 (List.mem_of_getElem? (i := 2) rfl)
  have en3 : N' 296 = N 296 := hn 296 (List.mem_of_getElem? (i := 3) rfl)
  have en4 : N' 297 = N 297 := hn 297 (List.mem_of_getElem? (i := 4) rfl)
  have en5 : N' 298 = N 298 := hn 298 (List.mem_of_getElem? (i := 5) rfl)
  have en6 : N' 299 = N 299 := hn 299 (List.mem_of_getElem? (i := 6) rfl)
  have en7 : N' 300 = N 300 := hn 300 (List.mem_of_getElem? (i := 7) rfl)
  show SHZD (((N' 293 : Int))) (((N' 294 : Int))) (((N' 295 : Int))) (((N' 296 : Int))) (((N' 297 : Int))) (((N' 298 : Int))) (((N' 299 : Int))) (((N' 300 : Int))) ((F' 292 1)) 32 256
  rw [ef0, en0, en1, en2, en3, en4, en5, en6, en7]
  exact q
abbrev QF7_5 (D N : Nat → Nat) (F : hF) (A : hA) : Prop := SHZD (((N 302 : Int))) (((N 303 : Int))) (((N 304 : Int))) (((N 305 : Int))) (((N 306 : Int))) (((N 307 : Int))) (((N 308 : Int))) (((N 309 : Int))) ((F 301 1)) 53 512
theorem QF7_5_eq {D N D' N' : Nat → Nat} {F F' : hF} {A A' : hA} (h : EQD [(301, 1)] [] [302, 303, 304, 305, 306, 307, 308, 309] [] D N F A D' N' F' A') (q : QF7_5 D N F A) : QF7_5 D' N' F' A' := by
  obtain ⟨hf, ha, hn, hd⟩ := h
  have ef0 : F' 301 1 = F 301 1 := hf (301, 1) (List.mem_of_getElem? (i := 0) rfl)
  have en0 : N' 302 = N 302 := hn 302 (List.mem_of_getElem? (i := 0) rfl)
  have en1 : N' 303 = N 303 := hn 303 (List.mem_of_getElem? (i := 1) rfl)
  have en2 : N' 304 = N 304 := hn 304 (List.mem_of_getElem? (i := 2) rfl)
  have en3 : N' 305 = N 305 := hn 305 (List.mem_of_getElem? (i := 3) rfl)
  have en4 : N' 306 = N 306 := hn 306 (List.mem_of_getElem? (i := 4) rfl)
  have en5 : N' 307 = N 307 := hn 307 (List.mem_of_getElem? (i := 5) rfl)
  have en6 : N' 308 = N 308 := hn 308 (List.mem_of_getElem? (i := 6) rfl)
  have en7 : N' 309 = N 309 := hn 309 (List.mem_of_getElem? (i := 7) rfl)
  show SHZD (((N' 302 : Int))) (((N' 303 : Int))) (((N' 304 : Int))) (((N' 305 : Int))) (((N' 306 : Int))) (((N' 307 : Int))) (((N' 308 : Int))) (((N' 309 : Int))) ((F' 301 1)) 53 512
  rw [ef0, en0, en1, en2, en3, en4, en5, en6, en7]
  exact q
abbrev QF7_6 (D N : Nat → Nat) (F : hF) (A : hA) : Prop := CEL ((A 262))
theorem QF7_6_eq {D N D' N' : Nat → Nat} {F F' : hF} {A A' : hA} (h : EQD [] [262] [] [] D N F A D' N' F' A') (q : QF7_6 D N F A) : QF7_6 D' N' F' A' := by
  obtain ⟨hf, ha, hn, hd⟩ := h
  have ea0 : A' 262 = A 262 := ha 262 (List.mem_of_getElem? (i := 0) rfl)
  show CEL ((A' 262))
  rw [ea0]
  exact q
abbrev QF7_7 (D N : Nat → Nat) (F : hF) (A : hA) : Prop := HID ((F 16 0) = -1 ∨ (F 16 0) = (((D 259 : Nat) : Int)) ∧ 0 ≤ (F 259 3) ∧ (F 259 3) ≤ 11)
theorem QF7_7_eq {D N D' N' : Nat → Nat} {F F' : hF} {A A' : hA} (h : EQD [(16, 0), (259, 3)] [] [] [259] D N F A D' N' F' A') (q : QF7_7 D N F A) : QF7_7 D' N' F' A' := by
  obtain ⟨hf, ha, hn, hd⟩ := h
  have ef0 : F' 16 0 = F 16 0 := hf (16, 0) (List.mem_of_getElem? (i := 0) rfl)
  have ef1 : F' 259 3 = F 259 3 := hf (259, 3) (List.mem_of_getElem? (i := 1) rfl)
  have ed0 : D' 259 = D 259 := hd 259 (List.mem_of_getElem? (i := 0) rfl)
  show HID ((F' 16 0) = -1 ∨ (F' 16 0) = (((D' 259 : Nat) : Int)) ∧ 0 ≤ (F' 259 3) ∧ (F' 259 3) ≤ 11)
  rw [ef0, ef1, ed0]
  exact q
abbrev QF7_8 (D N : Nat → Nat) (F : hF) (A : hA) : Prop := HID ((F 16 0) = -1 ∨ LNG ((A 260)) ((F 259 3)))
theorem QF7_8_eq {D N D' N' : Nat → Nat} {F F' : hF} {A A' : hA} (h : EQD [(16, 0), (259, 3)] [260] [] [] D N F A D' N' F' A') (q : QF7_8 D N F A) : QF7_8 D' N' F' A' := by
  obtain ⟨hf, ha, hn, hd⟩ := h
  have ef0 : F' 16 0 = F 16 0 := hf (16, 0) (List.mem_of_getElem? (i := 0) rfl)
  have ef1 : F' 259 3 = F 259 3 := hf (259, 3) (List.mem_of_getElem? (i := 1) rfl)
  have ea0 : A' 260 = A 260 := ha 260 (List.mem_of_getElem? (i := 0) rfl)
  show HID ((F' 16 0) = -1 ∨ LNG ((A' 260)) ((F' 259 3)))
  rw [ef0, ef1, ea0]
  exact q
abbrev QF7_9 (D N : Nat → Nat) (F : hF) (A : hA) : Prop := HID (((A 17)) 0 = -1 ∨ ((A 17)) 0 = (((D 283 : Nat) : Int)))
theorem QF7_9_eq {D N D' N' : Nat → Nat} {F F' : hF} {A A' : hA} (h : EQD [] [17] [] [283] D N F A D' N' F' A') (q : QF7_9 D N F A) : QF7_9 D' N' F' A' := by
  obtain ⟨hf, ha, hn, hd⟩ := h
  have ea0 : A' 17 = A 17 := ha 17 (List.mem_of_getElem? (i := 0) rfl)
  have ed0 : D' 283 = D 283 := hd 283 (List.mem_of_getElem? (i := 0) rfl)
  show HID (((A' 17)) 0 = -1 ∨ ((A' 17)) 0 = (((D' 283 : Nat) : Int)))
  rw [ea0, ed0]
  exact q
abbrev QF7_10 (D N : Nat → Nat) (F : hF) (A : hA) : Prop := HID (((A 17)) 1 = -1 ∨ ((A 17)) 1 = (((D 292 : Nat) : Int)))
theorem QF7_10_eq {D N D' N' : Nat → Nat} {F F' : hF} {A A' : hA} (h : EQD [] [17] [] [292] D N F A D' N' F' A') (q : QF7_10 D N F A) : QF7_10 D' N' F' A' := by
  obtain ⟨hf, ha, hn, hd⟩ := h
  have ea0 : A' 17 = A 17 := ha 17 (List.mem_of_getElem? (i := 0) rfl)
  have ed0 : D' 292 = D 292 := hd 292 (List.mem_of_getElem? (i := 0) rfl)
  show HID (((A' 17)) 1 = -1 ∨ ((A' 17)) 1 = (((D' 292 : Nat) : Int)))
  rw [ea0, ed0]
  exact q
abbrev QF7_11 (D N : Nat → Nat) (F : hF) (A : hA) : Prop := HID (((A 17)) 2 = -1 ∨ ((A 17)) 2 = (((D 301 : Nat) : Int)))
theorem QF7_11_eq {D N D' N' : Nat → Nat} {F F' : hF} {A A' : hA} (h : EQD [] [17] [] [301] D N F A D' N' F' A') (q : QF7_11 D N F A) : QF7_11 D' N' F' A' := by
  obtain ⟨hf, ha, hn, hd⟩ := h
  have ea0 : A' 17 = A 17 := ha 17 (List.mem_of_getElem? (i := 0) rfl)
  have ed0 : D' 301 = D 301 := hd 301 (List.mem_of_getElem? (i := 0) rfl)
  show HID (((A' 17)) 2 = -1 ∨ ((A' 17)) 2 = (((D' 301 : Nat) : Int)))
  rw [ea0, ed0]
  exact q
abbrev QF7_12 (D N : Nat → Nat) (F : hF) (A : hA) : Prop := HID (((A 17)) 0 = -1 ∨ SL ((A 284)) ((F 283 1)) ((F 283 0)) ((A 285)) ((A 286)) ((A 287)) ((A 289)) ((A 290)) ((A 291)))
theorem QF7_12_eq {D N D' N' : Nat → Nat} {F F' : hF} {A A' : hA} (h : EQD [(283, 0), (283, 1)] [17, 284, 285, 286, 287, 289, 290, 291] [] [] D N F A D' N' F' A') (q : QF7_12 D N F A) : QF7_12 D' N' F' A' := by
  obtain ⟨hf, ha, hn, hd⟩ := h
  have ef0 : F' 283 0 = F 283 0 := hf (283, 0) (List.mem_of_getElem? (i := 0) rfl)
  have ef1 : F' 283 1 = F 283 1 := hf (283, 1) (List.mem_of_getElem? (i := 1) rfl)
  have ea0 : A' 17 = A 17 := ha 17 (List.mem_of_getElem? (i := 0) rfl)
  have ea1 : A' 284 = A 284 := ha 284 (List.mem_of_getElem? (i := 1) rfl)
  have ea2 : A' 285 = A 285 := ha 285 (List.mem_of_getElem? (i := 2) rfl)
  have ea3 : A' 286 = A 286 := ha 286 (List.mem_of_getElem? (i := 3) rfl)
  have ea4 : A' 287 = A 287 := ha 287 (List.mem_of_getElem? (i := 4) rfl)
  have ea5 : A' 289 = A 289 := ha 289 (List.mem_of_getElem? (i := 5) rfl)
  have ea6 : A' 290 = A 290 := ha 290 (List.mem_of_getElem? (i := 6) rfl)
  have ea7 : A' 291 = A 291 := ha 291 (List.mem_of_getElem? (i := 7) rfl)
  show HID (((A' 17)) 0 = -1 ∨ SL ((A' 284)) ((F' 283 1)) ((F' 283 0)) ((A' 285)) ((A' 286)) ((A' 287)) ((A' 289)) ((A' 290)) ((A' 291)))
  rw [ef0, ef1, ea0, ea1, ea2, ea3, ea4, ea5, ea6, ea7]
  exact q
abbrev QF7_13 (D N : Nat → Nat) (F : hF) (A : hA) : Prop := HID (((A 17)) 1 = -1 ∨ SL ((A 293)) ((F 292 1)) ((F 292 0)) ((A 294)) ((A 295)) ((A 296)) ((A 298)) ((A 299)) ((A 300)))
theorem QF7_13_eq {D N D' N' : Nat → Nat} {F F' : hF} {A A' : hA} (h : EQD [(292, 0), (292, 1)] [17, 293, 294, 295, 296, 298, 299, 300] [] [] D N F A D' N' F' A') (q : QF7_13 D N F A) : QF7_13 D' N' F' A' := by
  obtain ⟨hf, ha, hn, hd⟩ := h
  have ef0 : F' 292 0 = F 292 0 := hf (292, 0) (List.mem_of_getElem? (i := 0) rfl)
  have ef1 : F' 292 1 = F 292 1 := hf (292, 1) (List.mem_of_getElem? (i := 1) rfl)
  have ea0 : A' 17 = A 17 := ha 17 (List.mem_of_getElem? (i := 0) rfl)
  have ea1 : A' 293 = A 293 := ha 293 (List.mem_of_getElem? (i := 1) rfl)
  have ea2 : A' 294 = A 294 := ha 294 (List.mem_of_getElem? (i := 2) rfl)
  have ea3 : A' 295 = A 295 := ha 295 (List.mem_of_getElem? (i := 3) rfl)
  have ea4 : A' 296 = A 296 := ha 296 (List.mem_of_getElem? (i := 4) rfl)
  have ea5 : A' 298 = A 298 := ha 298 (List.mem_of_getElem? (i := 5) rfl)
  have ea6 : A' 299 = A 299 := ha 299 (List.mem_of_getElem? (i := 6) rfl)
  have ea7 : A' 300 = A 300 := ha 300 (List.mem_of_getElem? (i := 7) rfl)
  show HID (((A' 17)) 1 = -1 ∨ SL ((A' 293)) ((F' 292 1)) ((F' 292 0)) ((A' 294)) ((A' 295)) ((A' 296)) ((A' 298)) ((A' 299)) ((A' 300)))
  rw [ef0, ef1, ea0, ea1, ea2, ea3, ea4, ea5, ea6, ea7]
  exact q
abbrev QF7_14 (D N : Nat → Nat) (F : hF) (A : hA) : Prop := HID (((A 17)) 2 = -1 ∨ SL ((A 302)) ((F 301 1)) ((F 301 0)) ((A 303)) ((A 304)) ((A 305)) ((A 307)) ((A 308)) ((A 309)))
theorem QF7_14_eq {D N D' N' : Nat → Nat} {F F' : hF} {A A' : hA} (h : EQD [(301, 0), (301, 1)] [17, 302, 303, 304, 305, 307, 308, 309] [] [] D N F A D' N' F' A') (q : QF7_14 D N F A) : QF7_14 D' N' F' A' := by
  obtain ⟨hf, ha, hn, hd⟩ := h
  have ef0 : F' 301 0 = F 301 0 := hf (301, 0) (List.mem_of_getElem? (i := 0) rfl)
  have ef1 : F' 301 1 = F 301 1 := hf (301, 1) (List.mem_of_getElem? (i := 1) rfl)
  have ea0 : A' 17 = A 17 := ha 17 (List.mem_of_getElem? (i := 0) rfl)
  have ea1 : A' 302 = A 302 := ha 302 (List.mem_of_getElem? (i := 1) rfl)
  have ea2 : A' 303 = A 303 := ha 303 (List.mem_of_getElem? (i := 2) rfl)
  have ea3 : A' 304 = A 304 := ha 304 (List.mem_of_getElem? (i := 3) rfl)
  have ea4 : A' 305 = A 305 := ha 305 (List.mem_of_getElem? (i := 4) rfl)
  have ea5 : A' 307 = A 307 := ha 307 (List.mem_of_getElem? (i := 5) rfl)
  have ea6 : A' 308 = A 308 := ha 308 (List.mem_of_getElem? (i := 6) rfl)
  have ea7 : A' 309 = A 309 := ha 309 (List.mem_of_getElem? (i := 7) rfl)
  show HID (((A' 17)) 2 = -1 ∨ SL ((A' 302)) ((F' 301 1)) ((F' 301 0)) ((A' 303)) ((A' 304)) ((A' 305)) ((A' 307)) ((A' 308)) ((A' 309)))
  rw [ef0, ef1, ea0, ea1, ea2, ea3, ea4, ea5, ea6, ea7]
  exact q
abbrev QF7_15 (D N : Nat → Nat) (F : hF) (A : hA) : Prop := HID (((A 17)) 0 = -1 ∨ (F 283 0) ≤ 9)
theorem QF7_15_eq {D N D' N' : Nat → Nat} {F F' : hF} {A A' : hA} (h : EQD [(283, 0)] [17] [] [] D N F A D' N' F' A') (q : QF7_15 D N F A) : QF7_15 D' N' F' A' := by
  obtain ⟨hf, ha, hn, hd⟩ := h
  have ef0 : F' 283 0 = F 283 0 := hf (283, 0) (List.mem_of_getElem? (i := 0) rfl)
  have ea0 : A' 17 = A 17 := ha 17 (List.mem_of_getElem? (i := 0) rfl)
  show HID (((A' 17)) 0 = -1 ∨ (F' 283 0) ≤ 9)
  rw [ef0, ea0]
  exact q
abbrev QF7_16 (D N : Nat → Nat) (F : hF) (A : hA) : Prop := HID (((A 17)) 1 = -1 ∨ (F 292 0) ≤ 8)
theorem QF7_16_eq {D N D' N' : Nat → Nat} {F F' : hF} {A A' : hA} (h : EQD [(292, 0)] [17] [] [] D N F A D' N' F' A') (q : QF7_16 D N F A) : QF7_16 D' N' F' A' := by
  obtain ⟨hf, ha, hn, hd⟩ := h
  have ef0 : F' 292 0 = F 292 0 := hf (292, 0) (List.mem_of_getElem? (i := 0) rfl)
  have ea0 : A' 17 = A 17 := ha 17 (List.mem_of_getElem? (i := 0) rfl)
  show HID (((A' 17)) 1 = -1 ∨ (F' 292 0) ≤ 8)
  rw [ef0, ea0]
  exact q
abbrev QF7_17 (D N : Nat → Nat) (F : hF) (A : hA) : Prop := HID (((A 17)) 2 = -1 ∨ (F 301 0) ≤ 9)
theorem QF7_17_eq {D N D' N' : Nat → Nat} {F F' : hF} {A A' : hA} (h : EQD [(301, 0)] [17] [] [] D N F A D' N' F' A') (q : QF7_17 D N F A) : QF7_17 D' N' F' A' := by
  obtain ⟨hf, ha, hn, hd⟩ := h
  have ef0 : F' 301 0 = F 301 0 := hf (301, 0) (List.mem_of_getElem? (i := 0) rfl)
  have ea0 : A' 17 = A 17 := ha 17 (List.mem_of_getElem? (i := 0) rfl)
  show HID (((A' 17)) 2 = -1 ∨ (F' 301 0) ≤ 9)
  rw [ef0, ea0]
  exact q
def INV7 (D N : Nat → Nat) (F : hF) (A : hA) : Prop := QF7_0 D N F A ∧ QF7_1 D N F A ∧ QF7_2 D N F A ∧ QF7_3 D N F A ∧ QF7_4 D N F A ∧ QF7_5 D N F A ∧ QF7_6 D N F A ∧ QF7_7 D N F A ∧ QF7_8 D N F A ∧ QF7_9 D N F A ∧ QF7_10 D N F A ∧ QF7_11 D N F A ∧ QF7_12 D N F A ∧ QF7_13 D N F A ∧ QF7_14 D N F A ∧ QF7_15 D N F A ∧ QF7_16 D N F A ∧ QF7_17 D N F A
theorem INV7_eq {D N D' N' : Nat → Nat} {F F' : hF} {A A' : hA} (h : EQD [(16, 0), (259, 3), (265, 1), (283, 0), (283, 1), (292, 0), (292, 1), (301, 0), (301, 1)] [17, 260, 262, 284, 285, 286, 287, 289, 290, 291, 293, 294, 295, 296, 298, 299, 300, 302, 303, 304, 305, 307, 308, 309] [260, 261, 262, 263, 264, 266, 267, 268, 269, 270, 271, 272, 273, 279, 280, 281, 282, 284, 285, 286, 287, 288, 289, 290, 291, 293, 294, 295, 296, 297, 298, 299, 300, 302, 303, 304, 305, 306, 307, 308, 309] [259, 283, 292, 301] D N F A D' N' F' A') (q : INV7 D N F A) : INV7 D' N' F' A' := ⟨QF7_0_eq (EQD_sub (by decide +kernel) h) q.1, QF7_1_eq (EQD_sub (by decide +kernel) h) q.2.1, QF7_2_eq (EQD_sub (by decide +kernel) h) q.2.2.1, QF7_3_eq (EQD_sub (by decide +kernel) h) q.2.2.2.1, QF7_4_eq (EQD_sub (by decide +kernel) h) q.2.2.2.2.1, QF7_5_eq (EQD_sub (by decide +kernel) h) q.2.2.2.2.2.1, QF7_6_eq (EQD_sub (by decide +kernel) h) q.2.2.2.2.2.2.1, QF7_7_eq (EQD_sub (by decide +kernel) h) q.2.2.2.2.2.2.2.1, QF7_8_eq (EQD_sub (by decide +kernel) h) q.2.2.2.2.2.2.2.2.1, QF7_9_eq (EQD_sub (by decide +kernel) h) q.2.2.2.2.2.2.2.2.2.1, QF7_10_eq (EQD_sub (by decide +kernel) h) q.2.2.2.2.2.2.2.2.2.2.1, QF7_11_eq (EQD_sub (by decide +kernel) h) q.2.2.2.2.2.2.2.2.2.2.2.1, QF7_12_eq (EQD_sub (by decide +kernel) h) q.2.2.2.2.2.2.2.2.2.2.2.2.1, QF7_13_eq (EQD_sub (by decide +kernel) h) q.2.2.2.2.2.2.2.2.2.2.2.2.2.1, QF7_14_eq (EQD_sub (by decide +kernel) h) q.2.2.2.2.2.2.2.2.2.2.2.2.2.2.1, QF7_15_eq (EQD_sub (by decide +kernel) h) q.2.2.2.2.2.2.2.2.2.2.2.2.2.2.2.1, QF7_16_eq (EQD_sub (by decide +kernel) h) q.2.2.2.2.2.2.2.2.2.2.2.2.2.2.2.2.1, QF7_17_eq (EQD_sub (by decide +kernel) h) q.2.2.2.2.2.2.2.2.2.2.2.2.2.2.2.2.2⟩
abbrev QF8_0 (D N : Nat → Nat) (F : hF) (A : hA) : Prop := ((N 333 : Int)) = 3
theorem QF8_0_eq {D N D' N' : Nat → Nat} {F F' : hF} {A A' : hA} (h : EQD [] [] [333] [] D N F A D' N' F' A') (q : QF8_0 D N F A) : QF8_0 D' N' F' A' := by
  obtain ⟨hf, ha, hn, hd⟩ := h
  have en0 : N' 333 = N 333 := hn 333 (List.mem_of_getElem? (i := 0) rfl)
  show ((N' 333 : Int)) = 3
  rw [en0]
  exact q
abbrev QF8_1 (D N : Nat → Nat) (F : hF) (A : hA) : Prop := CDZD (((N 311 : Int))) (((N 312 : Int))) (((N 313 : Int))) (((N 314 : Int))) (((N 315 : Int))) (((N 330 : Int))) (((N 331 : Int))) (((N 332 : Int)))
theorem QF8_1_eq {D N D' N' : Nat → Nat} {F F' : hF} {A A' : hA} (h : EQD [] [] [311, 312, 313, 314, 315, 330, 331, 332] [] D N F A D' N' F' A') (q : QF8_1 D N F A) : QF8_1 D' N' F' A' := by
  obtain ⟨hf, ha, hn, hd⟩ := h
  have en0 : N' 311 = N 311 := hn 311 (List.mem_of_getElem? (i := 0) rfl)
  have en1 : N' 312 = N 312 := hn 312 (List.mem_of_getElem? (i := 1) rfl)
  have en2 : N' 313 = N 313 := hn 313 (List.mem_of_getElem? (i := 2) rfl)
  have en3 : N' 314 = N 314 := hn 314 (List.mem_of_getElem? (i := 3) rfl)
  have en4 : N' 315 = N 315 := hn 315 (List.mem_of_getElem? (i := 4) rfl)
  have en5 : N' 330 = N 330 := hn 330 (List.mem_of_getElem? (i := 5) rfl)
  have en6 : N' 331 = N 331 := hn 331 (List.mem_of_getElem? (i := 6) rfl)
  have en7 : N' 332 = N 332 := hn 332 (List.mem_of_getElem? (i := 7) rfl)
  show CDZD (((N' 311 : Int))) (((N' 312 : Int))) (((N' 313 : Int))) (((N' 314 : Int))) (((N' 315 : Int))) (((N' 330 : Int))) (((N' 331 : Int))) (((N' 332 : Int)))
  rw [en0, en1, en2, en3, en4, en5, en6, en7]
  exact q
abbrev QF8_2 (D N : Nat → Nat) (F : hF) (A : hA) : Prop := SHZD (((N 317 : Int))) (((N 318 : Int))) (((N 319 : Int))) (((N 320 : Int))) (((N 321 : Int))) (((N 322 : Int))) (((N 323 : Int))) (((N 324 : Int))) ((F 316 1)) 12 64
theorem QF8_2_eq {D N D' N' : Nat → Nat} {F F' : hF} {A A' : hA} (h : EQD [(316, 1)] [] [317, 318, 319, 320, 321, 322, 323, 324] [] D N F A D' N' F' A') (q : QF8_2 D N F A) : QF8_2 D' N' F' A' := by
  obtain ⟨hf, ha, hn, hd⟩ := h
  have ef0 : F' 316 1 = F 316 1 := hf (316, 1) (List.mem_of_getElem? (i := 0) rfl)
  have en0 : N' 317 = N 317 := hn 317 (List.mem_of_getElem? (i := 0) rfl)
  have en1 : N' 318 = N 318 := hn 318 (List.mem_of_getElem? (i := 1) rfl)
  have en2 : N' 319 = N 319 := hn 319 (List.mem_of_getElem? (i := 2) rfl)
  have en3 : N' 320 = N 320 := hn 320 (List.mem_of_getElem? (i := 3) rfl)
  have en4 : N' 321 = N 321 := hn 321 (List.mem_of_getElem? (i := 4) rfl)
  have en5 : N' 322 = N 322 := hn 322 (List.mem_of_getElem? (i := 5) rfl)
  have en6 : N' 323 = N 323 := hn 323 (List.mem_of_getElem? (i := 6) rfl)
  have en7 : N' 324 = N 324 := hn 324 (List.mem_of_getElem? (i := 7) rfl)
  show SHZD (((N' 317 : Int))) (((N' 318 : Int))) (((N' 319 : Int))) (((N' 320 : Int))) (((N' 321 : Int))) (((N' 322 : Int))) (((N' 323 : Int))) (((N' 324 : Int))) ((F' 316 1)) 12 64
  rw [ef0, en0, en1, en2, en3, en4, en5, en6, en7]
  exact q
abbrev QF8_3 (D N : Nat → Nat) (F : hF) (A : hA) : Prop := SHZD (((N 335 : Int))) (((N 336 : Int))) (((N 337 : Int))) (((N 338 : Int))) (((N 339 : Int))) (((N 340 : Int))) (((N 341 : Int))) (((N 342 : Int))) ((F 334 1)) 36 512
theorem QF8_3_eq {D N D' N' : Nat → Nat} {F F' : hF} {A A' : hA} (h : EQD [(334, 1)] [] [335, 336, 337, 338, 339, 340, 341, 342] [] D N F A D' N' F' A') (q : QF8_3 D N F A) : QF8_3 D' N' F' A' := by
  obtain ⟨hf, ha, hn, hd⟩ := h
  have ef0 : F' 334 1 = F 334 1 := hf (334, 1) (List.mem_of_getElem? (i := 0) rfl)
  have en0 : N' 335 = N 335 := hn 335 (List.mem_of_getElem? (i := 0) rfl)
  have en1 : N' 336 = N 336 := hn 336 (List.mem_of_getElem? (i := 1) rfl)
  have en2 : N' 337 = N 337 := hn 337 (List.mem_of_getElem? (i := 2) rfl)
  have en3 : N' 338 = N 338 := hn 338 (List.mem_of_getElem? (i := 3) rfl)
  have en4 : N' 339 = N 339 := hn 339 (List.mem_of_getElem? (i := 4) rfl)
  have en5 : N' 340 = N 340 := hn 340 (List.mem_of_getElem? (i := 5) rfl)
  have en6 : N' 341 = N 341 := hn 341 (List.mem_of_getElem? (i := 6) rfl)
  have en7 : N' 342 = N 342 := hn 342 (List.mem_of_getElem? (i := 7) rfl)
  show SHZD (((N' 335 : Int))) (((N' 336 : Int))) (((N' 337 : Int))) (((N' 338 : Int))) (((N' 339 : Int))) (((N' 340 : Int))) (((N' 341 : Int))) (((N' 342 : Int))) ((F' 334 1)) 36 512
  rw [ef0, en0, en1, en2, en3, en4, en5, en6, en7]
  exact q
abbrev QF8_4 (D N : Nat → Nat) (F : hF) (A : hA) : Prop := SHZD (((N 344 : Int))) (((N 345 : Int))) (((N 346 : Int))) (((N 347 : Int))) (((N 348 : Int))) (((N 349 : Int))) (((N 350 : Int))) (((N 351 : Int))) ((F 343 1)) 32 256
theorem QF8_4_eq {D N D' N' : Nat → Nat} {F F' : hF} {A A' : hA} (h : EQD [(343, 1)] [] [344, 345, 346, 347, 348, 349, 350, 351] [] D N F A D' N' F' A') (q : QF8_4 D N F A) : QF8_4 D' N' F' A' := by
  obtain ⟨hf, ha, hn, hd⟩ := h
  have ef0 : F' 343 1 = F 343 1 := hf (343, 1) (List.mem_of_getElem? (i := 0) rfl)
  have en0 : N' 344 = N 344 := hn 344 (List.mem_of_getElem? (i := 0) rfl)
  have en1 : N' 345 = N 345 := hn 345 (List.mem_of_getElem? (i := 1) rfl)
  have en2 : N' 346 = N 346 := hn 346 (List.mem_of_getElem? (i := 2) rfl)
  have en3 : N' 347 = N 347 := hn 347 (List.mem_of_getElem? (i := 3) rfl)
  have en4 : N' 348 = N 348 := hn 348 (List.mem_of_getElem? (i := 4) rfl)
  have en5 : N' 349 = N 349 := hn 349 (List.mem_of_getElem? (i := 5) rfl)
  have en6 : N' 350 = N 350 := hn 350 (List.mem_of_getElem? (i := 6) rfl)
  have en7 : N' 351 = N 351 := hn 351 (List.mem_of_getElem? (i := 7) rfl)
  show SHZD (((N' 344 : Int))) (((N' 345 : Int))) (((N' 346 : Int))) (((N' 347 : Int))) (((N' 348 : Int))) (((N' 349 : Int))) (((N' 350 : Int))) (((N' 351 : Int))) ((F' 343 1)) 32 256
  rw [ef0, en0, en1, en2, en3, en4, en5, en6, en7]
  exact q
abbrev QF8_5 (D N : Nat → Nat) (F : hF) (A : hA) : Prop := SHZD (((N 353 : Int))) (((N 354 : Int))) (((N 355 : Int))) (((N 356 : Int))) (((N 357 : Int))) (((N 358 : Int))) (((N 359 : Int))) (((N 360 : Int))) ((F 352 1)) 53 512
theorem QF8_5_eq {D N D' N' : Nat → Nat} {F F' : hF} {A A' : hA} (h : EQD [(352, 1)] [] [353, 354, 355, 356, 357, 358, 359, 360] [] D N F A D' N' F' A') (q : QF8_5 D N F A) : QF8_5 D' N' F' A' := by
  obtain ⟨hf, ha, hn, hd⟩ := h
  have ef0 : F' 352 1 = F 352 1 := hf (352, 1) (List.mem_of_getElem? (i := 0) rfl)
  have en0 : N' 353 = N 353 := hn 353 (List.mem_of_getElem? (i := 0) rfl)
  have en1 : N' 354 = N 354 := hn 354 (List.mem_of_getElem? (i := 1) rfl)
  have en2 : N' 355 = N 355 := hn 355 (List.mem_of_getElem? (i := 2) rfl)
  have en3 : N' 356 = N 356 := hn 356 (List.mem_of_getElem? (i := 3) rfl)
  have en4 : N' 357 = N 357 := hn 357 (List.mem_of_getElem? (i := 4) rfl)
  have en5 : N' 358 = N 358 := hn 358 (List.mem_of_getElem? (i := 5) rfl)
  have en6 : N' 359 = N 359 := hn 359 (List.mem_of_getElem? (i := 6) rfl)
  have en7 : N' 360 = N 360 := hn 360 (List.mem_of_getElem? (i := 7) rfl)
  show SHZD (((N' 353 : Int))) (((N' 354 : Int))) (((N' 355 : Int))) (((N' 356 : Int))) (((N' 357 : Int))) (((N' 358 : Int))) (((N' 359 : Int))) (((N' 360 : Int))) ((F' 352 1)) 53 512
  rw [ef0, en0, en1, en2, en3, en4, en5, en6, en7]
  exact q
abbrev QF8_6 (D N : Nat → Nat) (F : hF) (A : hA) : Prop := CEL ((A 313))
theorem QF8_6_eq {D N D' N' : Nat → Nat} {F F' : hF} {A A' : hA} (h : EQD [] [313] [] [] D N F A D' N' F' A') (q : QF8_6 D N F A) : QF8_6 D' N' F' A' := by
  obtain ⟨hf, ha, hn, hd⟩ := h
  have ea0 : A' 313 = A 313 := ha 313 (List.mem_of_getElem? (i := 0) rfl)
  show CEL ((A' 313))
  rw [ea0]
  exact q
def INV8 (D N : Nat → Nat) (F : hF) (A : hA) : Prop := QF8_0 D N F A ∧ QF8_1 D N F A ∧ QF8_2 D N F A ∧ QF8_3 D N F A ∧ QF8_4 D N F A ∧ QF8_5 D N F A ∧ QF8_6 D N F A
theorem INV8_eq {D N D' N' : Nat → Nat} {F F' : hF} {A A' : hA} (h : EQD [(316, 1), (334, 1), (343, 1), (352, 1)] [313] [311, 312, 313, 314, 315, 317, 318, 319, 320, 321, 322, 323, 324, 330, 331, 332, 333, 335, 336, 337, 338, 339, 340, 341, 342, 344, 345, 346, 347, 348, 349, 350, 351, 353, 354, 355, 356, 357, 358, 359, 360] [] D N F A D' N' F' A') (q : INV8 D N F A) : INV8 D' N' F' A' := ⟨QF8_0_eq (EQD_sub (by decide +kernel) h) q.1, QF8_1_eq (EQD_sub (by decide +kernel) h) q.2.1, QF8_2_eq (EQD_sub (by decide +kernel) h) q.2.2.1, QF8_3_eq (EQD_sub (by decide +kernel) h) q.2.2.2.1, QF8_4_eq (EQD_sub (by decide +kernel) h) q.2.2.2.2.1, QF8_5_eq (EQD_sub (by decide +kernel) h) q.2.2.2.2.2.1, QF8_6_eq (EQD_sub (by decide +kernel) h) q.2.2.2.2.2.2⟩
abbrev QF9_0 (D N : Nat → Nat) (F : hF) (A : hA) : Prop := (F 16 0) = -1
theorem QF9_0_eq {D N D' N' : Nat → Nat} {F F' : hF} {A A' : hA} (h : EQD [(16, 0)] [] [] [] D N F A D' N' F' A') (q : QF9_0 D N F A) : QF9_0 D' N' F' A' := by
  obtain ⟨hf, ha, hn, hd⟩ := h
  have ef0 : F' 16 0 = F 16 0 := hf (16, 0) (List.mem_of_getElem? (i := 0) rfl)
  show (F' 16 0) = -1
  rw [ef0]
  exact q
abbrev QF9_1 (D N : Nat → Nat) (F : hF) (A : hA) : Prop := ((A 17)) 0 = -1
theorem QF9_1_eq {D N D' N' : Nat → Nat} {F F' : hF} {A A' : hA} (h : EQD [] [17] [] [] D N F A D' N' F' A') (q : QF9_1 D N F A) : QF9_1 D' N' F' A' := by
  obtain ⟨hf, ha, hn, hd⟩ := h
  have ea0 : A' 17 = A 17 := ha 17 (List.mem_of_getElem? (i := 0) rfl)
  show ((A' 17)) 0 = -1
  rw [ea0]
  exact q
abbrev QF9_2 (D N : Nat → Nat) (F : hF) (A : hA) : Prop := ((A 17)) 1 = -1
theorem QF9_2_eq {D N D' N' : Nat → Nat} {F F' : hF} {A A' : hA} (h : EQD [] [17] [] [] D N F A D' N' F' A') (q : QF9_2 D N F A) : QF9_2 D' N' F' A' := by
  obtain ⟨hf, ha, hn, hd⟩ := h
  have ea0 : A' 17 = A 17 := ha 17 (List.mem_of_getElem? (i := 0) rfl)
  show ((A' 17)) 1 = -1
  rw [ea0]
  exact q
abbrev QF9_3 (D N : Nat → Nat) (F : hF) (A : hA) : Prop := ((A 17)) 2 = -1
theorem QF9_3_eq {D N D' N' : Nat → Nat} {F F' : hF} {A A' : hA} (h : EQD [] [17] [] [] D N F A D' N' F' A') (q : QF9_3 D N F A) : QF9_3 D' N' F' A' := by
  obtain ⟨hf, ha, hn, hd⟩ := h
  have ea0 : A' 17 = A 17 := ha 17 (List.mem_of_getElem? (i := 0) rfl)
  show ((A' 17)) 2 = -1
  rw [ea0]
  exact q
def INV9 (D N : Nat → Nat) (F : hF) (A : hA) : Prop := QF9_0 D N F A ∧ QF9_1 D N F A ∧ QF9_2 D N F A ∧ QF9_3 D N F A
theorem INV9_eq {D N D' N' : Nat → Nat} {F F' : hF} {A A' : hA} (h : EQD [(16, 0)] [17] [] [] D N F A D' N' F' A') (q : INV9 D N F A) : INV9 D' N' F' A' := ⟨QF9_0_eq (EQD_sub (by decide +kernel) h) q.1, QF9_1_eq (EQD_sub (by decide +kernel) h) q.2.1, QF9_2_eq (EQD_sub (by decide +kernel) h) q.2.2.1, QF9_3_eq (EQD_sub (by decide +kernel) h) q.2.2.2⟩
def PHI (g : Nat → Bool) (σ : rS) (D N : Nat → Nat) (F : hF) (A : hA) : Prop := HWs (SPH g) VPH σ D N F A ∧ STC σ ∧ g 0 = true ∧ PFI g D F A ∧ ABS g F ∧ NZ g N ∧ GI g ∧ INV0 D N F A ∧ (g 1 = true → INV1 D N F A) ∧ (g 2 = true → INV2 D N F A) ∧ (g 3 = true → INV3 D N F A) ∧ (g 4 = true → INV4 D N F A) ∧ (g 5 = true → INV5 D N F A) ∧ (g 6 = true → INV6 D N F A) ∧ (g 7 = true → INV7 D N F A) ∧ (g 8 = true → INV8 D N F A) ∧ (g 7 = false → INV9 D N F A)
