abbrev V24 : vV := []
theorem len_V24_oz_R1cls : (V24).length = 0 := by decide +kernel
/-- PackHouse.isRow:  -/
theorem C24 {σE : rS} {D N : Nat → Nat} {F : hF} {A : hA} {d c s : Nat} {Q : wQ} (H : HW V24 σE D N F A) {a1 : Int} (h0 : inr (a1)) (k : ∀ (z : Int) (σ : rS) (Fₚ : hF) (Aₚ : hA), HW V24 σ D N Fₚ Aₚ → OUT (V24).length D N σE c s D N σ c s → SF [] F Fₚ → SA [] A Aₚ → ((z) = 0 ∨ (z) = 1) → ((z) = 1 ∧ 0 ≤ (a1) ∧ (a1) ≤ 3 ∨ (z) = 0) → Q (some (I z)) σ c s) : Ew 24 (d + 0) 0 (rargs 0 [I a1]) [] σE c s Q := by
  have O := OUT_refl (n := (V24).length) (D := D) (N := N) (σ := σE) (c := c) (s := s)
  have HE := H
  refine Ew_of (pcₚ := 1) (fun _ => x_iload_n rfl rfl) ?_
  refine w_iflt (t := 13) rfl rfl (show inr (a1) from h0) (fun b1 => ?_) (fun b1 => ?_)
  · refine Ew_of (pcₚ := 14) (fun _ => x_iconst rfl) ?_
    exact w_ireturn rfl (k (0) _ _ _ H O (SF_refl) (SA_refl) (show (0) = 0 ∨ (0) = 1 by first | exact q_1 | omega) (show (0) = 1 ∧ 0 ≤ a1 ∧ a1 ≤ 3 ∨ (0) = 0 by first | exact q_4211 | omega))
  · refine Ew_of (pcₚ := 5) (fun _ => x_iload_n rfl rfl) ?_
    refine Ew_of (pcₚ := 6) (fun _ => x_iconst rfl) ?_
    refine w_icmpgt (t := 13) rfl rfl (show inr (a1) from h0) (show inr (3) from q_66) (fun b2 => ?_) (fun b2 => ?_)
    · refine Ew_of (pcₚ := 14) (fun _ => x_iconst rfl) ?_
      exact w_ireturn rfl (k (0) _ _ _ H O (SF_refl) (SA_refl) (show (0) = 0 ∨ (0) = 1 by first | exact q_1 | omega) (show (0) = 1 ∧ 0 ≤ a1 ∧ a1 ≤ 3 ∨ (0) = 0 by first | exact q_4211 | omega))
    · refine Ew_of (pcₚ := 10) (fun _ => x_iconst rfl) ?_
      refine Ew_of (pcₚ := 14) (fun _ => x_goto rfl rfl) ?_
      exact w_ireturn rfl (k (1) _ _ _ H O (SF_refl) (SA_refl) (show (1) = 0 ∨ (1) = 1 by first | exact q_5 | omega) (show (1) = 1 ∧ 0 ≤ a1 ∧ a1 ≤ 3 ∨ (1) = 0 by first | exact q_4212 b1 b2 | omega))
abbrev V25 : vV := []
theorem len_V25_oz_R1cls : (V25).length = 0 := by decide +kernel
/-- PackHouse.isSetting:  -/
theorem C25 {σE : rS} {D N : Nat → Nat} {F : hF} {A : hA} {d c s : Nat} {Q : wQ} (H : HW V25 σE D N F A) {a1 : Int} (h0 : inr (a1)) (k : ∀ (z : Int) (σ : rS) (Fₚ : hF) (Aₚ : hA), HW V25 σ D N Fₚ Aₚ → OUT (V25).length D N σE c s D N σ c s → SF [] F Fₚ → SA [] A Aₚ → ((z) = 0 ∨ (z) = 1) → ((z) = 1 ∧ 0 ≤ (a1) ∧ (a1) ≤ 9 ∨ (z) = 0) → Q (some (I z)) σ c s) : Ew 25 (d + 0) 0 (rargs 0 [I a1]) [] σE c s Q := by
  have O := OUT_refl (n := (V25).length) (D := D) (N := N) (σ := σE) (c := c) (s := s)
  have HE := H
  refine Ew_of (pcₚ := 1) (fun _ => x_iload_n rfl rfl) ?_
  refine w_iflt (t := 14) rfl rfl (show inr (a1) from h0) (fun b1 => ?_) (fun b1 => ?_)
  · refine Ew_of (pcₚ := 15) (fun _ => x_iconst rfl) ?_
    exact w_ireturn rfl (k (0) _ _ _ H O (SF_refl) (SA_refl) (show (0) = 0 ∨ (0) = 1 by first | exact q_1 | omega) (show (0) = 1 ∧ 0 ≤ a1 ∧ a1 ≤ 9 ∨ (0) = 0 by first | exact q_4213 | omega))
  · refine Ew_of (pcₚ := 5) (fun _ => x_iload_n rfl rfl) ?_
    refine Ew_of (pcₚ := 7) (fun _ => x_bipush (z := 9) rfl (by decide)) ?_
    refine w_icmpgt (t := 14) rfl rfl (show inr (a1) from h0) (show inr (9) from q_19) (fun b2 => ?_) (fun b2 => ?_)
    · refine Ew_of (pcₚ := 15) (fun _ => x_iconst rfl) ?_
      exact w_ireturn rfl (k (0) _ _ _ H O (SF_refl) (SA_refl) (show (0) = 0 ∨ (0) = 1 by first | exact q_1 | omega) (show (0) = 1 ∧ 0 ≤ a1 ∧ a1 ≤ 9 ∨ (0) = 0 by first | exact q_4213 | omega))
    · refine Ew_of (pcₚ := 11) (fun _ => x_iconst rfl) ?_
      refine Ew_of (pcₚ := 15) (fun _ => x_goto rfl rfl) ?_
      exact w_ireturn rfl (k (1) _ _ _ H O (SF_refl) (SA_refl) (show (1) = 0 ∨ (1) = 1 by first | exact q_5 | omega) (show (1) = 1 ∧ 0 ≤ a1 ∧ a1 ≤ 9 ∨ (1) = 0 by first | exact q_4214 b1 b2 | omega))
abbrev V26 : vV := []
theorem len_V26_oz_R1cls : (V26).length = 0 := by decide +kernel
theorem oz_R1cls_3 : vsub V26 V213 [] = true := by decide +kernel
def oz_R1clsl_0 : List (Nat × Nat) := []
theorem oz_R1cls_4 : (oz_R1clsl_0).all (fun p => !tbz 0 (Nat.add (Nat.mul 32 p.1) p.2)) = true := by decide +kernel
def oz_R1clsl_1 : List Nat := []
theorem oz_R1cls_5 : (oz_R1clsl_1).all (fun p => !tbz 0 p) = true := by decide +kernel
theorem oz_R1cls_6 : okc oz_R1clsl_1 0 = true := by decide +kernel
/-- PackHouse.mayBe:  -/
theorem C26 {σE : rS} {D N : Nat → Nat} {F : hF} {A : hA} {d c s : Nat} {Q : wQ} (H : HW V26 σE D N F A) {a1 a2 : Int} (h0 : inr (a1)) (h1 : inr (a2)) (k : ∀ (z : Int) (σ : rS) (Fₚ : hF) (Aₚ : hA), HW V26 σ D N Fₚ Aₚ → OUT (V26).length D N σE c s D N σ c s → SF [] F Fₚ → SA [] A Aₚ → ((z) = 0 ∨ (z) = 1) → ((z) = 0 ∨ ((a1) = 0 ∧ 0 ≤ (a2) ∧ (a2) ≤ 3 ∨ (a1) = 1 ∧ 3 ≤ (a2) ∧ (a2) ≤ 8 ∨ (a1) = 2 ∧ 1 ≤ (a2) ∧ (a2) ≤ 65536 ∨ (a1) = 3 ∨ (a1) = 4 ∧ 4 ≤ (a2) ∧ (a2) ≤ 7 ∨ (a1) = 6 ∧ 0 ≤ (a2) ∧ (a2) ≤ 255 ∨ (a1) = 7 ∧ 0 ≤ (a2) ∧ (a2) ≤ 15 ∨ (a1) = 8 ∧ 0 ≤ (a2) ∧ (a2) ≤ 11 ∨ (a1) < 0 ∨ (a1) = 5 ∨ 9 ≤ (a1))) → Q (some (I z)) σ c s) : Ew 26 (d + 1) 0 (rargs 0 [I a1, I a2]) [] σE c s Q := by
  have O := OUT_refl (n := (V26).length) (D := D) (N := N) (σ := σE) (c := c) (s := s)
  have HE := H
  refine Ew_of (pcₚ := 1) (fun _ => x_iload_n rfl rfl) ?_
  by_cases b1 : a1 = 0
  · refine w_tsk 0 52 rfl (show inr (a1) from h0) (by omega) (by decide) rfl rfl ?_
    refine Ew_of (pcₚ := 53) (fun _ => x_iload_n rfl rfl) ?_
    refine w_iflt (t := 65) rfl rfl (show inr (a2) from h1) (fun b2 => ?_) (fun b2 => ?_)
    · refine Ew_of (pcₚ := 66) (fun _ => x_iconst rfl) ?_
      exact w_ireturn rfl (k (0) _ _ _ H O (SF_refl) (SA_refl) (show (0) = 0 ∨ (0) = 1 by first | exact q_1 | omega) (show (0) = 0 ∨ (a1 = 0 ∧ 0 ≤ a2 ∧ a2 ≤ 3 ∨ a1 = 1 ∧ 3 ≤ a2 ∧ a2 ≤ 8 ∨ a1 = 2 ∧ 1 ≤ a2 ∧ a2 ≤ 65536 ∨ a1 = 3 ∨ a1 = 4 ∧ 4 ≤ a2 ∧ a2 ≤ 7 ∨ a1 = 6 ∧ 0 ≤ a2 ∧ a2 ≤ 255 ∨ a1 = 7 ∧ 0 ≤ a2 ∧ a2 ≤ 15 ∨ a1 = 8 ∧ 0 ≤ a2 ∧ a2 ≤ 11 ∨ a1 < 0 ∨ a1 = 5 ∨ 9 ≤ a1) by first | exact q_4215 | omega))
    · refine Ew_of (pcₚ := 57) (fun _ => x_iload_n rfl rfl) ?_
      refine Ew_of (pcₚ := 58) (fun _ => x_iconst rfl) ?_
      refine w_icmpgt (t := 65) rfl rfl (show inr (a2) from h1) (show inr (3) from q_66) (fun b3 => ?_) (fun b3 => ?_)
      · refine Ew_of (pcₚ := 66) (fun _ => x_iconst rfl) ?_
        exact w_ireturn rfl (k (0) _ _ _ H O (SF_refl) (SA_refl) (show (0) = 0 ∨ (0) = 1 by first | exact q_1 | omega) (show (0) = 0 ∨ (a1 = 0 ∧ 0 ≤ a2 ∧ a2 ≤ 3 ∨ a1 = 1 ∧ 3 ≤ a2 ∧ a2 ≤ 8 ∨ a1 = 2 ∧ 1 ≤ a2 ∧ a2 ≤ 65536 ∨ a1 = 3 ∨ a1 = 4 ∧ 4 ≤ a2 ∧ a2 ≤ 7 ∨ a1 = 6 ∧ 0 ≤ a2 ∧ a2 ≤ 255 ∨ a1 = 7 ∧ 0 ≤ a2 ∧ a2 ≤ 15 ∨ a1 = 8 ∧ 0 ≤ a2 ∧ a2 ≤ 11 ∨ a1 < 0 ∨ a1 = 5 ∨ 9 ≤ a1) by first | exact q_4215 | omega))
      · refine Ew_of (pcₚ := 62) (fun _ => x_iconst rfl) ?_
        refine Ew_of (pcₚ := 66) (fun _ => x_goto rfl rfl) ?_
        exact w_ireturn rfl (k (1) _ _ _ H O (SF_refl) (SA_refl) (show (1) = 0 ∨ (1) = 1 by first | exact q_5 | omega) (show (1) = 0 ∨ (a1 = 0 ∧ 0 ≤ a2 ∧ a2 ≤ 3 ∨ a1 = 1 ∧ 3 ≤ a2 ∧ a2 ≤ 8 ∨ a1 = 2 ∧ 1 ≤ a2 ∧ a2 ≤ 65536 ∨ a1 = 3 ∨ a1 = 4 ∧ 4 ≤ a2 ∧ a2 ≤ 7 ∨ a1 = 6 ∧ 0 ≤ a2 ∧ a2 ≤ 255 ∨ a1 = 7 ∧ 0 ≤ a2 ∧ a2 ≤ 15 ∨ a1 = 8 ∧ 0 ≤ a2 ∧ a2 ≤ 11 ∨ a1 < 0 ∨ a1 = 5 ∨ 9 ≤ a1) by first | exact q_4216 b1 b2 b3 | omega))
  ·
    by_cases b4 : a1 = 1
    · refine w_tsk 1 67 rfl (show inr (a1) from h0) (by omega) (by decide) rfl rfl ?_
      refine Ew_of (pcₚ := 68) (fun _ => x_iload_n rfl rfl) ?_
      refine Ew_of (pcₚ := 69) (fun _ => x_iconst rfl) ?_
      refine w_icmplt (t := 82) rfl rfl (show inr (a2) from h1) (show inr (3) from q_66) (fun b5 => ?_) (fun b5 => ?_)
      · refine Ew_of (pcₚ := 83) (fun _ => x_iconst rfl) ?_
        exact w_ireturn rfl (k (0) _ _ _ H O (SF_refl) (SA_refl) (show (0) = 0 ∨ (0) = 1 by first | exact q_1 | omega) (show (0) = 0 ∨ (a1 = 0 ∧ 0 ≤ a2 ∧ a2 ≤ 3 ∨ a1 = 1 ∧ 3 ≤ a2 ∧ a2 ≤ 8 ∨ a1 = 2 ∧ 1 ≤ a2 ∧ a2 ≤ 65536 ∨ a1 = 3 ∨ a1 = 4 ∧ 4 ≤ a2 ∧ a2 ≤ 7 ∨ a1 = 6 ∧ 0 ≤ a2 ∧ a2 ≤ 255 ∨ a1 = 7 ∧ 0 ≤ a2 ∧ a2 ≤ 15 ∨ a1 = 8 ∧ 0 ≤ a2 ∧ a2 ≤ 11 ∨ a1 < 0 ∨ a1 = 5 ∨ 9 ≤ a1) by first | exact q_4215 | omega))
      · refine Ew_of (pcₚ := 73) (fun _ => x_iload_n rfl rfl) ?_
        refine Ew_of (pcₚ := 75) (fun _ => x_bipush (z := 8) rfl (by decide)) ?_
        refine w_icmpgt (t := 82) rfl rfl (show inr (a2) from h1) (show inr (8) from q_96) (fun b6 => ?_) (fun b6 => ?_)
        · refine Ew_of (pcₚ := 83) (fun _ => x_iconst rfl) ?_
          exact w_ireturn rfl (k (0) _ _ _ H O (SF_refl) (SA_refl) (show (0) = 0 ∨ (0) = 1 by first | exact q_1 | omega) (show (0) = 0 ∨ (a1 = 0 ∧ 0 ≤ a2 ∧ a2 ≤ 3 ∨ a1 = 1 ∧ 3 ≤ a2 ∧ a2 ≤ 8 ∨ a1 = 2 ∧ 1 ≤ a2 ∧ a2 ≤ 65536 ∨ a1 = 3 ∨ a1 = 4 ∧ 4 ≤ a2 ∧ a2 ≤ 7 ∨ a1 = 6 ∧ 0 ≤ a2 ∧ a2 ≤ 255 ∨ a1 = 7 ∧ 0 ≤ a2 ∧ a2 ≤ 15 ∨ a1 = 8 ∧ 0 ≤ a2 ∧ a2 ≤ 11 ∨ a1 < 0 ∨ a1 = 5 ∨ 9 ≤ a1) by first | exact q_4215 | omega))
        · refine Ew_of (pcₚ := 79) (fun _ => x_iconst rfl) ?_
          refine Ew_of (pcₚ := 83) (fun _ => x_goto rfl rfl) ?_
          exact w_ireturn rfl (k (1) _ _ _ H O (SF_refl) (SA_refl) (show (1) = 0 ∨ (1) = 1 by first | exact q_5 | omega) (show (1) = 0 ∨ (a1 = 0 ∧ 0 ≤ a2 ∧ a2 ≤ 3 ∨ a1 = 1 ∧ 3 ≤ a2 ∧ a2 ≤ 8 ∨ a1 = 2 ∧ 1 ≤ a2 ∧ a2 ≤ 65536 ∨ a1 = 3 ∨ a1 = 4 ∧ 4 ≤ a2 ∧ a2 ≤ 7 ∨ a1 = 6 ∧ 0 ≤ a2 ∧ a2 ≤ 255 ∨ a1 = 7 ∧ 0 ≤ a2 ∧ a2 ≤ 15 ∨ a1 = 8 ∧ 0 ≤ a2 ∧ a2 ≤ 11 ∨ a1 < 0 ∨ a1 = 5 ∨ 9 ≤ a1) by first | exact q_4217 b4 b5 b6 | omega))
    ·
      by_cases b7 : a1 = 2
      · refine w_tsk 2 84 rfl (show inr (a1) from h0) (by omega) (by decide) rfl rfl ?_
        refine Ew_of (pcₚ := 85) (fun _ => x_iload_n rfl rfl) ?_
        refine Ew_of (pcₚ := 86) (fun _ => x_iconst rfl) ?_
        refine w_icmplt (t := 99) rfl rfl (show inr (a2) from h1) (show inr (1) from q_23) (fun b8 => ?_) (fun b8 => ?_)
        · refine Ew_of (pcₚ := 100) (fun _ => x_iconst rfl) ?_
          exact w_ireturn rfl (k (0) _ _ _ H O (SF_refl) (SA_refl) (show (0) = 0 ∨ (0) = 1 by first | exact q_1 | omega) (show (0) = 0 ∨ (a1 = 0 ∧ 0 ≤ a2 ∧ a2 ≤ 3 ∨ a1 = 1 ∧ 3 ≤ a2 ∧ a2 ≤ 8 ∨ a1 = 2 ∧ 1 ≤ a2 ∧ a2 ≤ 65536 ∨ a1 = 3 ∨ a1 = 4 ∧ 4 ≤ a2 ∧ a2 ≤ 7 ∨ a1 = 6 ∧ 0 ≤ a2 ∧ a2 ≤ 255 ∨ a1 = 7 ∧ 0 ≤ a2 ∧ a2 ≤ 15 ∨ a1 = 8 ∧ 0 ≤ a2 ∧ a2 ≤ 11 ∨ a1 < 0 ∨ a1 = 5 ∨ 9 ≤ a1) by first | exact q_4215 | omega))
        · refine Ew_of (pcₚ := 90) (fun _ => x_iload_n rfl rfl) ?_
          refine Ew_of (pcₚ := 92) (fun _ => x_ldc (z := 65536) rfl (by decide)) ?_
          refine w_icmpgt (t := 99) rfl rfl (show inr (a2) from h1) (show inr (65536) from q_35) (fun b9 => ?_) (fun b9 => ?_)
          · refine Ew_of (pcₚ := 100) (fun _ => x_iconst rfl) ?_
            exact w_ireturn rfl (k (0) _ _ _ H O (SF_refl) (SA_refl) (show (0) = 0 ∨ (0) = 1 by first | exact q_1 | omega) (show (0) = 0 ∨ (a1 = 0 ∧ 0 ≤ a2 ∧ a2 ≤ 3 ∨ a1 = 1 ∧ 3 ≤ a2 ∧ a2 ≤ 8 ∨ a1 = 2 ∧ 1 ≤ a2 ∧ a2 ≤ 65536 ∨ a1 = 3 ∨ a1 = 4 ∧ 4 ≤ a2 ∧ a2 ≤ 7 ∨ a1 = 6 ∧ 0 ≤ a2 ∧ a2 ≤ 255 ∨ a1 = 7 ∧ 0 ≤ a2 ∧ a2 ≤ 15 ∨ a1 = 8 ∧ 0 ≤ a2 ∧ a2 ≤ 11 ∨ a1 < 0 ∨ a1 = 5 ∨ 9 ≤ a1) by first | exact q_4215 | omega))
          · refine Ew_of (pcₚ := 96) (fun _ => x_iconst rfl) ?_
            refine Ew_of (pcₚ := 100) (fun _ => x_goto rfl rfl) ?_
            exact w_ireturn rfl (k (1) _ _ _ H O (SF_refl) (SA_refl) (show (1) = 0 ∨ (1) = 1 by first | exact q_5 | omega) (show (1) = 0 ∨ (a1 = 0 ∧ 0 ≤ a2 ∧ a2 ≤ 3 ∨ a1 = 1 ∧ 3 ≤ a2 ∧ a2 ≤ 8 ∨ a1 = 2 ∧ 1 ≤ a2 ∧ a2 ≤ 65536 ∨ a1 = 3 ∨ a1 = 4 ∧ 4 ≤ a2 ∧ a2 ≤ 7 ∨ a1 = 6 ∧ 0 ≤ a2 ∧ a2 ≤ 255 ∨ a1 = 7 ∧ 0 ≤ a2 ∧ a2 ≤ 15 ∨ a1 = 8 ∧ 0 ≤ a2 ∧ a2 ≤ 11 ∨ a1 < 0 ∨ a1 = 5 ∨ 9 ≤ a1) by first | exact q_4218 b7 b8 b9 | omega))
      ·
        by_cases b10 : a1 = 3
        · refine w_tsk 3 101 rfl (show inr (a1) from h0) (by omega) (by decide) rfl rfl ?_
          refine Ew_of (pcₚ := 102) (fun _ => x_iload_n rfl rfl) ?_
          refine w_stat24 rfl rfl (by rfl) (C213 (D := puc 0 D) (N := puc 0 N) (HW_subc H oz_R1cls_3 oz_R1cls_6) (show inr (a2) from h1) (fun z11 σ11 F11ₚ A11ₚ Hₚ Oₚ hS11 hA11 pz11_0 => ⟨rretB rfl pz11_0, ?_⟩))
          refine v_backc (c := c) (s := s) H oz_R1cls_3 oz_R1cls_6 Hₚ Oₚ (fun F11 A11 H Oₚ eF11 eA11 => ?_)
          have O := OUT_trans O Oₚ
          -- Tokens.areFlags
          have cF11 : SF oz_R1clsl_0 F F11 := SF_trans (SF_refl) (SF_gluc (ι := oz_R1clsl_1) oz_R1cls_6 hS11 eF11 (by decide +kernel)) (any_sub (lₚ := []) (by decide +kernel))
          have mF11 := SFm_of cF11 oz_R1cls_4
          have cA11 : SA oz_R1clsl_1 A A11 := SA_trans (SA_refl) (SA_gluc (ι := oz_R1clsl_1) oz_R1cls_6 hA11 eA11 (by decide +kernel)) (any_subA (lₚ := []) (by decide +kernel))
          have mA11 := SAm_of cA11 oz_R1cls_5
          exact w_ireturn rfl (k (z11) _ _ _ H O (cF11) (cA11) (show (z11) = 0 ∨ (z11) = 1 from pz11_0) (show (z11) = 0 ∨ (a1 = 0 ∧ 0 ≤ a2 ∧ a2 ≤ 3 ∨ a1 = 1 ∧ 3 ≤ a2 ∧ a2 ≤ 8 ∨ a1 = 2 ∧ 1 ≤ a2 ∧ a2 ≤ 65536 ∨ a1 = 3 ∨ a1 = 4 ∧ 4 ≤ a2 ∧ a2 ≤ 7 ∨ a1 = 6 ∧ 0 ≤ a2 ∧ a2 ≤ 255 ∨ a1 = 7 ∧ 0 ≤ a2 ∧ a2 ≤ 15 ∨ a1 = 8 ∧ 0 ≤ a2 ∧ a2 ≤ 11 ∨ a1 < 0 ∨ a1 = 5 ∨ 9 ≤ a1) from q_4219 b10))
        ·
          by_cases b12 : a1 = 4
          · refine w_tsk 4 106 rfl (show inr (a1) from h0) (by omega) (by decide) rfl rfl ?_
            refine Ew_of (pcₚ := 107) (fun _ => x_iload_n rfl rfl) ?_
            refine Ew_of (pcₚ := 108) (fun _ => x_iconst rfl) ?_
            refine w_icmplt (t := 121) rfl rfl (show inr (a2) from h1) (show inr (4) from q_2) (fun b13 => ?_) (fun b13 => ?_)
            · refine Ew_of (pcₚ := 122) (fun _ => x_iconst rfl) ?_
              exact w_ireturn rfl (k (0) _ _ _ H O (SF_refl) (SA_refl) (show (0) = 0 ∨ (0) = 1 by first | exact q_1 | omega) (show (0) = 0 ∨ (a1 = 0 ∧ 0 ≤ a2 ∧ a2 ≤ 3 ∨ a1 = 1 ∧ 3 ≤ a2 ∧ a2 ≤ 8 ∨ a1 = 2 ∧ 1 ≤ a2 ∧ a2 ≤ 65536 ∨ a1 = 3 ∨ a1 = 4 ∧ 4 ≤ a2 ∧ a2 ≤ 7 ∨ a1 = 6 ∧ 0 ≤ a2 ∧ a2 ≤ 255 ∨ a1 = 7 ∧ 0 ≤ a2 ∧ a2 ≤ 15 ∨ a1 = 8 ∧ 0 ≤ a2 ∧ a2 ≤ 11 ∨ a1 < 0 ∨ a1 = 5 ∨ 9 ≤ a1) by first | exact q_4215 | omega))
            · refine Ew_of (pcₚ := 112) (fun _ => x_iload_n rfl rfl) ?_
              refine Ew_of (pcₚ := 114) (fun _ => x_bipush (z := 7) rfl (by decide)) ?_
              refine w_icmpgt (t := 121) rfl rfl (show inr (a2) from h1) (show inr (7) from q_355) (fun b14 => ?_) (fun b14 => ?_)
              · refine Ew_of (pcₚ := 122) (fun _ => x_iconst rfl) ?_
                exact w_ireturn rfl (k (0) _ _ _ H O (SF_refl) (SA_refl) (show (0) = 0 ∨ (0) = 1 by first | exact q_1 | omega) (show (0) = 0 ∨ (a1 = 0 ∧ 0 ≤ a2 ∧ a2 ≤ 3 ∨ a1 = 1 ∧ 3 ≤ a2 ∧ a2 ≤ 8 ∨ a1 = 2 ∧ 1 ≤ a2 ∧ a2 ≤ 65536 ∨ a1 = 3 ∨ a1 = 4 ∧ 4 ≤ a2 ∧ a2 ≤ 7 ∨ a1 = 6 ∧ 0 ≤ a2 ∧ a2 ≤ 255 ∨ a1 = 7 ∧ 0 ≤ a2 ∧ a2 ≤ 15 ∨ a1 = 8 ∧ 0 ≤ a2 ∧ a2 ≤ 11 ∨ a1 < 0 ∨ a1 = 5 ∨ 9 ≤ a1) by first | exact q_4215 | omega))
              · refine Ew_of (pcₚ := 118) (fun _ => x_iconst rfl) ?_
                refine Ew_of (pcₚ := 122) (fun _ => x_goto rfl rfl) ?_
                exact w_ireturn rfl (k (1) _ _ _ H O (SF_refl) (SA_refl) (show (1) = 0 ∨ (1) = 1 by first | exact q_5 | omega) (show (1) = 0 ∨ (a1 = 0 ∧ 0 ≤ a2 ∧ a2 ≤ 3 ∨ a1 = 1 ∧ 3 ≤ a2 ∧ a2 ≤ 8 ∨ a1 = 2 ∧ 1 ≤ a2 ∧ a2 ≤ 65536 ∨ a1 = 3 ∨ a1 = 4 ∧ 4 ≤ a2 ∧ a2 ≤ 7 ∨ a1 = 6 ∧ 0 ≤ a2 ∧ a2 ≤ 255 ∨ a1 = 7 ∧ 0 ≤ a2 ∧ a2 ≤ 15 ∨ a1 = 8 ∧ 0 ≤ a2 ∧ a2 ≤ 11 ∨ a1 < 0 ∨ a1 = 5 ∨ 9 ≤ a1) by first | exact q_4220 b12 b13 b14 | omega))
          ·
            by_cases b15 : a1 = 5
            · refine w_tsk 5 172 rfl (show inr (a1) from h0) (by omega) (by decide) rfl rfl ?_
              refine Ew_of (pcₚ := 173) (fun _ => x_iconst rfl) ?_
              exact w_ireturn rfl (k (1) _ _ _ H O (SF_refl) (SA_refl) (show (1) = 0 ∨ (1) = 1 by first | exact q_5 | omega) (show (1) = 0 ∨ (a1 = 0 ∧ 0 ≤ a2 ∧ a2 ≤ 3 ∨ a1 = 1 ∧ 3 ≤ a2 ∧ a2 ≤ 8 ∨ a1 = 2 ∧ 1 ≤ a2 ∧ a2 ≤ 65536 ∨ a1 = 3 ∨ a1 = 4 ∧ 4 ≤ a2 ∧ a2 ≤ 7 ∨ a1 = 6 ∧ 0 ≤ a2 ∧ a2 ≤ 255 ∨ a1 = 7 ∧ 0 ≤ a2 ∧ a2 ≤ 15 ∨ a1 = 8 ∧ 0 ≤ a2 ∧ a2 ≤ 11 ∨ a1 < 0 ∨ a1 = 5 ∨ 9 ≤ a1) by first | exact q_4221 b15 | omega))
            ·
              by_cases b16 : a1 = 6
              · refine w_tsk 6 123 rfl (show inr (a1) from h0) (by omega) (by decide) rfl rfl ?_
                refine Ew_of (pcₚ := 124) (fun _ => x_iload_n rfl rfl) ?_
                refine w_iflt (t := 138) rfl rfl (show inr (a2) from h1) (fun b17 => ?_) (fun b17 => ?_)
                · refine Ew_of (pcₚ := 139) (fun _ => x_iconst rfl) ?_
                  exact w_ireturn rfl (k (0) _ _ _ H O (SF_refl) (SA_refl) (show (0) = 0 ∨ (0) = 1 by first | exact q_1 | omega) (show (0) = 0 ∨ (a1 = 0 ∧ 0 ≤ a2 ∧ a2 ≤ 3 ∨ a1 = 1 ∧ 3 ≤ a2 ∧ a2 ≤ 8 ∨ a1 = 2 ∧ 1 ≤ a2 ∧ a2 ≤ 65536 ∨ a1 = 3 ∨ a1 = 4 ∧ 4 ≤ a2 ∧ a2 ≤ 7 ∨ a1 = 6 ∧ 0 ≤ a2 ∧ a2 ≤ 255 ∨ a1 = 7 ∧ 0 ≤ a2 ∧ a2 ≤ 15 ∨ a1 = 8 ∧ 0 ≤ a2 ∧ a2 ≤ 11 ∨ a1 < 0 ∨ a1 = 5 ∨ 9 ≤ a1) by first | exact q_4215 | omega))
                · refine Ew_of (pcₚ := 128) (fun _ => x_iload_n rfl rfl) ?_
                  refine Ew_of (pcₚ := 131) (fun _ => x_sipush (z := 255) rfl (by decide)) ?_
                  refine w_icmpgt (t := 138) rfl rfl (show inr (a2) from h1) (show inr (255) from q_36) (fun b18 => ?_) (fun b18 => ?_)
                  · refine Ew_of (pcₚ := 139) (fun _ => x_iconst rfl) ?_
                    exact w_ireturn rfl (k (0) _ _ _ H O (SF_refl) (SA_refl) (show (0) = 0 ∨ (0) = 1 by first | exact q_1 | omega) (show (0) = 0 ∨ (a1 = 0 ∧ 0 ≤ a2 ∧ a2 ≤ 3 ∨ a1 = 1 ∧ 3 ≤ a2 ∧ a2 ≤ 8 ∨ a1 = 2 ∧ 1 ≤ a2 ∧ a2 ≤ 65536 ∨ a1 = 3 ∨ a1 = 4 ∧ 4 ≤ a2 ∧ a2 ≤ 7 ∨ a1 = 6 ∧ 0 ≤ a2 ∧ a2 ≤ 255 ∨ a1 = 7 ∧ 0 ≤ a2 ∧ a2 ≤ 15 ∨ a1 = 8 ∧ 0 ≤ a2 ∧ a2 ≤ 11 ∨ a1 < 0 ∨ a1 = 5 ∨ 9 ≤ a1) by first | exact q_4215 | omega))
                  · refine Ew_of (pcₚ := 135) (fun _ => x_iconst rfl) ?_
                    refine Ew_of (pcₚ := 139) (fun _ => x_goto rfl rfl) ?_
                    exact w_ireturn rfl (k (1) _ _ _ H O (SF_refl) (SA_refl) (show (1) = 0 ∨ (1) = 1 by first | exact q_5 | omega) (show (1) = 0 ∨ (a1 = 0 ∧ 0 ≤ a2 ∧ a2 ≤ 3 ∨ a1 = 1 ∧ 3 ≤ a2 ∧ a2 ≤ 8 ∨ a1 = 2 ∧ 1 ≤ a2 ∧ a2 ≤ 65536 ∨ a1 = 3 ∨ a1 = 4 ∧ 4 ≤ a2 ∧ a2 ≤ 7 ∨ a1 = 6 ∧ 0 ≤ a2 ∧ a2 ≤ 255 ∨ a1 = 7 ∧ 0 ≤ a2 ∧ a2 ≤ 15 ∨ a1 = 8 ∧ 0 ≤ a2 ∧ a2 ≤ 11 ∨ a1 < 0 ∨ a1 = 5 ∨ 9 ≤ a1) by first | exact q_4222 b16 b17 b18 | omega))
              ·
                by_cases b19 : a1 = 7
                · refine w_tsk 7 140 rfl (show inr (a1) from h0) (by omega) (by decide) rfl rfl ?_
                  refine Ew_of (pcₚ := 141) (fun _ => x_iload_n rfl rfl) ?_
                  refine w_iflt (t := 154) rfl rfl (show inr (a2) from h1) (fun b20 => ?_) (fun b20 => ?_)
                  · refine Ew_of (pcₚ := 155) (fun _ => x_iconst rfl) ?_
                    exact w_ireturn rfl (k (0) _ _ _ H O (SF_refl) (SA_refl) (show (0) = 0 ∨ (0) = 1 by first | exact q_1 | omega) (show (0) = 0 ∨ (a1 = 0 ∧ 0 ≤ a2 ∧ a2 ≤ 3 ∨ a1 = 1 ∧ 3 ≤ a2 ∧ a2 ≤ 8 ∨ a1 = 2 ∧ 1 ≤ a2 ∧ a2 ≤ 65536 ∨ a1 = 3 ∨ a1 = 4 ∧ 4 ≤ a2 ∧ a2 ≤ 7 ∨ a1 = 6 ∧ 0 ≤ a2 ∧ a2 ≤ 255 ∨ a1 = 7 ∧ 0 ≤ a2 ∧ a2 ≤ 15 ∨ a1 = 8 ∧ 0 ≤ a2 ∧ a2 ≤ 11 ∨ a1 < 0 ∨ a1 = 5 ∨ 9 ≤ a1) by first | exact q_4215 | omega))
                  · refine Ew_of (pcₚ := 145) (fun _ => x_iload_n rfl rfl) ?_
                    refine Ew_of (pcₚ := 147) (fun _ => x_bipush (z := 15) rfl (by decide)) ?_
                    refine w_icmpgt (t := 154) rfl rfl (show inr (a2) from h1) (show inr (15) from q_143) (fun b21 => ?_) (fun b21 => ?_)
                    · refine Ew_of (pcₚ := 155) (fun _ => x_iconst rfl) ?_
                      exact w_ireturn rfl (k (0) _ _ _ H O (SF_refl) (SA_refl) (show (0) = 0 ∨ (0) = 1 by first | exact q_1 | omega) (show (0) = 0 ∨ (a1 = 0 ∧ 0 ≤ a2 ∧ a2 ≤ 3 ∨ a1 = 1 ∧ 3 ≤ a2 ∧ a2 ≤ 8 ∨ a1 = 2 ∧ 1 ≤ a2 ∧ a2 ≤ 65536 ∨ a1 = 3 ∨ a1 = 4 ∧ 4 ≤ a2 ∧ a2 ≤ 7 ∨ a1 = 6 ∧ 0 ≤ a2 ∧ a2 ≤ 255 ∨ a1 = 7 ∧ 0 ≤ a2 ∧ a2 ≤ 15 ∨ a1 = 8 ∧ 0 ≤ a2 ∧ a2 ≤ 11 ∨ a1 < 0 ∨ a1 = 5 ∨ 9 ≤ a1) by first | exact q_4215 | omega))
                    · refine Ew_of (pcₚ := 151) (fun _ => x_iconst rfl) ?_
                      refine Ew_of (pcₚ := 155) (fun _ => x_goto rfl rfl) ?_
                      exact w_ireturn rfl (k (1) _ _ _ H O (SF_refl) (SA_refl) (show (1) = 0 ∨ (1) = 1 by first | exact q_5 | omega) (show (1) = 0 ∨ (a1 = 0 ∧ 0 ≤ a2 ∧ a2 ≤ 3 ∨ a1 = 1 ∧ 3 ≤ a2 ∧ a2 ≤ 8 ∨ a1 = 2 ∧ 1 ≤ a2 ∧ a2 ≤ 65536 ∨ a1 = 3 ∨ a1 = 4 ∧ 4 ≤ a2 ∧ a2 ≤ 7 ∨ a1 = 6 ∧ 0 ≤ a2 ∧ a2 ≤ 255 ∨ a1 = 7 ∧ 0 ≤ a2 ∧ a2 ≤ 15 ∨ a1 = 8 ∧ 0 ≤ a2 ∧ a2 ≤ 11 ∨ a1 < 0 ∨ a1 = 5 ∨ 9 ≤ a1) by first | exact q_4223 b19 b20 b21 | omega))
                ·
                  by_cases b22 : a1 = 8
                  · refine w_tsk 8 156 rfl (show inr (a1) from h0) (by omega) (by decide) rfl rfl ?_
                    refine Ew_of (pcₚ := 157) (fun _ => x_iload_n rfl rfl) ?_
                    refine w_iflt (t := 170) rfl rfl (show inr (a2) from h1) (fun b23 => ?_) (fun b23 => ?_)
                    · refine Ew_of (pcₚ := 171) (fun _ => x_iconst rfl) ?_
                      exact w_ireturn rfl (k (0) _ _ _ H O (SF_refl) (SA_refl) (show (0) = 0 ∨ (0) = 1 by first | exact q_1 | omega) (show (0) = 0 ∨ (a1 = 0 ∧ 0 ≤ a2 ∧ a2 ≤ 3 ∨ a1 = 1 ∧ 3 ≤ a2 ∧ a2 ≤ 8 ∨ a1 = 2 ∧ 1 ≤ a2 ∧ a2 ≤ 65536 ∨ a1 = 3 ∨ a1 = 4 ∧ 4 ≤ a2 ∧ a2 ≤ 7 ∨ a1 = 6 ∧ 0 ≤ a2 ∧ a2 ≤ 255 ∨ a1 = 7 ∧ 0 ≤ a2 ∧ a2 ≤ 15 ∨ a1 = 8 ∧ 0 ≤ a2 ∧ a2 ≤ 11 ∨ a1 < 0 ∨ a1 = 5 ∨ 9 ≤ a1) by first | exact q_4215 | omega))
                    · refine Ew_of (pcₚ := 161) (fun _ => x_iload_n rfl rfl) ?_
                      refine Ew_of (pcₚ := 163) (fun _ => x_bipush (z := 11) rfl (by decide)) ?_
                      refine w_icmpgt (t := 170) rfl rfl (show inr (a2) from h1) (show inr (11) from q_67) (fun b24 => ?_) (fun b24 => ?_)
                      · refine Ew_of (pcₚ := 171) (fun _ => x_iconst rfl) ?_
                        exact w_ireturn rfl (k (0) _ _ _ H O (SF_refl) (SA_refl) (show (0) = 0 ∨ (0) = 1 by first | exact q_1 | omega) (show (0) = 0 ∨ (a1 = 0 ∧ 0 ≤ a2 ∧ a2 ≤ 3 ∨ a1 = 1 ∧ 3 ≤ a2 ∧ a2 ≤ 8 ∨ a1 = 2 ∧ 1 ≤ a2 ∧ a2 ≤ 65536 ∨ a1 = 3 ∨ a1 = 4 ∧ 4 ≤ a2 ∧ a2 ≤ 7 ∨ a1 = 6 ∧ 0 ≤ a2 ∧ a2 ≤ 255 ∨ a1 = 7 ∧ 0 ≤ a2 ∧ a2 ≤ 15 ∨ a1 = 8 ∧ 0 ≤ a2 ∧ a2 ≤ 11 ∨ a1 < 0 ∨ a1 = 5 ∨ 9 ≤ a1) by first | exact q_4215 | omega))
                      · refine Ew_of (pcₚ := 167) (fun _ => x_iconst rfl) ?_
                        refine Ew_of (pcₚ := 171) (fun _ => x_goto rfl rfl) ?_
                        exact w_ireturn rfl (k (1) _ _ _ H O (SF_refl) (SA_refl) (show (1) = 0 ∨ (1) = 1 by first | exact q_5 | omega) (show (1) = 0 ∨ (a1 = 0 ∧ 0 ≤ a2 ∧ a2 ≤ 3 ∨ a1 = 1 ∧ 3 ≤ a2 ∧ a2 ≤ 8 ∨ a1 = 2 ∧ 1 ≤ a2 ∧ a2 ≤ 65536 ∨ a1 = 3 ∨ a1 = 4 ∧ 4 ≤ a2 ∧ a2 ≤ 7 ∨ a1 = 6 ∧ 0 ≤ a2 ∧ a2 ≤ 255 ∨ a1 = 7 ∧ 0 ≤ a2 ∧ a2 ≤ 15 ∨ a1 = 8 ∧ 0 ≤ a2 ∧ a2 ≤ 11 ∨ a1 < 0 ∨ a1 = 5 ∨ 9 ≤ a1) by first | exact q_4224 b22 b23 b24 | omega))
                  ·
                    refine w_tsd 172 rfl (show inr (a1) from h0) (by omega) rfl ?_
                    refine Ew_of (pcₚ := 173) (fun _ => x_iconst rfl) ?_
                    exact w_ireturn rfl (k (1) _ _ _ H O (SF_refl) (SA_refl) (show (1) = 0 ∨ (1) = 1 by first | exact q_5 | omega) (show (1) = 0 ∨ (a1 = 0 ∧ 0 ≤ a2 ∧ a2 ≤ 3 ∨ a1 = 1 ∧ 3 ≤ a2 ∧ a2 ≤ 8 ∨ a1 = 2 ∧ 1 ≤ a2 ∧ a2 ≤ 65536 ∨ a1 = 3 ∨ a1 = 4 ∧ 4 ≤ a2 ∧ a2 ≤ 7 ∨ a1 = 6 ∧ 0 ≤ a2 ∧ a2 ≤ 255 ∨ a1 = 7 ∧ 0 ≤ a2 ∧ a2 ≤ 15 ∨ a1 = 8 ∧ 0 ≤ a2 ∧ a2 ≤ 11 ∨ a1 < 0 ∨ a1 = 5 ∨ 9 ≤ a1) by omega))
