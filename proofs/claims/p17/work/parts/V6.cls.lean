theorem len_V24_oz_V6cls : (V24).length = 0 := by decide +kernel
/-- PackHouse.isRow:  -/
theorem C24x {σE : rS} {D N : Nat → Nat} {F : hF} {A : hA} {d c s : Nat} {Q : wQ} (H : HW V24 σE D N F A) {a1 : Int} (h0 : inr (a1)) (k : ∀ (z : Int) (σ : rS) (Fₚ : hF) (Aₚ : hA), HW V24 σ D N Fₚ Aₚ → OUT (V24).length D N σE c s D N σ c s → SF [] F Fₚ → SA [] A Aₚ → ((z) = 0 ∨ (z) = 1) → ((z) = 1 ∧ 0 ≤ (a1) ∧ (a1) ≤ 3 ∨ (z) = 0 ∧ ((a1) < 0 ∨ 3 < (a1))) → Q (some (I z)) σ c s) : Ew 24 (d + 0) 0 (rargs 0 [I a1]) [] σE c s Q := by
  have O := OUT_refl (n := (V24).length) (D := D) (N := N) (σ := σE) (c := c) (s := s)
  have HE := H
  refine Ew_of (pcₚ := 1) (fun _ => x_iload_n rfl rfl) ?_
  refine w_iflt (t := 13) rfl rfl (show inr (a1) from h0) (fun b1 => ?_) (fun b1 => ?_)
  · refine Ew_of (pcₚ := 14) (fun _ => x_iconst rfl) ?_
    exact w_ireturn rfl (k (0) _ _ _ H O (SF_refl) (SA_refl) (show (0) = 0 ∨ (0) = 1 by first | exact q_1 | omega) (show (0) = 1 ∧ 0 ≤ a1 ∧ a1 ≤ 3 ∨ (0) = 0 ∧ (a1 < 0 ∨ 3 < a1) by first | exact q_4417 b1 | omega))
  · refine Ew_of (pcₚ := 5) (fun _ => x_iload_n rfl rfl) ?_
    refine Ew_of (pcₚ := 6) (fun _ => x_iconst rfl) ?_
    refine w_icmpgt (t := 13) rfl rfl (show inr (a1) from h0) (show inr (3) from q_66) (fun b2 => ?_) (fun b2 => ?_)
    · refine Ew_of (pcₚ := 14) (fun _ => x_iconst rfl) ?_
      exact w_ireturn rfl (k (0) _ _ _ H O (SF_refl) (SA_refl) (show (0) = 0 ∨ (0) = 1 by first | exact q_1 | omega) (show (0) = 1 ∧ 0 ≤ a1 ∧ a1 ≤ 3 ∨ (0) = 0 ∧ (a1 < 0 ∨ 3 < a1) by first | exact q_4418 b2 | omega))
    · refine Ew_of (pcₚ := 10) (fun _ => x_iconst rfl) ?_
      refine Ew_of (pcₚ := 14) (fun _ => x_goto rfl rfl) ?_
      exact w_ireturn rfl (k (1) _ _ _ H O (SF_refl) (SA_refl) (show (1) = 0 ∨ (1) = 1 by first | exact q_5 | omega) (show (1) = 1 ∧ 0 ≤ a1 ∧ a1 ≤ 3 ∨ (1) = 0 ∧ (a1 < 0 ∨ 3 < a1) by first | exact q_4419 b1 b2 | omega))
theorem len_V25_oz_V6cls : (V25).length = 0 := by decide +kernel
/-- PackHouse.isSetting:  -/
theorem C25x {σE : rS} {D N : Nat → Nat} {F : hF} {A : hA} {d c s : Nat} {Q : wQ} (H : HW V25 σE D N F A) {a1 : Int} (h0 : inr (a1)) (k : ∀ (z : Int) (σ : rS) (Fₚ : hF) (Aₚ : hA), HW V25 σ D N Fₚ Aₚ → OUT (V25).length D N σE c s D N σ c s → SF [] F Fₚ → SA [] A Aₚ → ((z) = 0 ∨ (z) = 1) → ((z) = 1 ∧ 0 ≤ (a1) ∧ (a1) ≤ 9 ∨ (z) = 0 ∧ ((a1) < 0 ∨ 9 < (a1))) → Q (some (I z)) σ c s) : Ew 25 (d + 0) 0 (rargs 0 [I a1]) [] σE c s Q := by
  have O := OUT_refl (n := (V25).length) (D := D) (N := N) (σ := σE) (c := c) (s := s)
  have HE := H
  refine Ew_of (pcₚ := 1) (fun _ => x_iload_n rfl rfl) ?_
  refine w_iflt (t := 14) rfl rfl (show inr (a1) from h0) (fun b1 => ?_) (fun b1 => ?_)
  · refine Ew_of (pcₚ := 15) (fun _ => x_iconst rfl) ?_
    exact w_ireturn rfl (k (0) _ _ _ H O (SF_refl) (SA_refl) (show (0) = 0 ∨ (0) = 1 by first | exact q_1 | omega) (show (0) = 1 ∧ 0 ≤ a1 ∧ a1 ≤ 9 ∨ (0) = 0 ∧ (a1 < 0 ∨ 9 < a1) by first | exact q_4420 b1 | omega))
  · refine Ew_of (pcₚ := 5) (fun _ => x_iload_n rfl rfl) ?_
    refine Ew_of (pcₚ := 7) (fun _ => x_bipush (z := 9) rfl (by decide)) ?_
    refine w_icmpgt (t := 14) rfl rfl (show inr (a1) from h0) (show inr (9) from q_19) (fun b2 => ?_) (fun b2 => ?_)
    · refine Ew_of (pcₚ := 15) (fun _ => x_iconst rfl) ?_
      exact w_ireturn rfl (k (0) _ _ _ H O (SF_refl) (SA_refl) (show (0) = 0 ∨ (0) = 1 by first | exact q_1 | omega) (show (0) = 1 ∧ 0 ≤ a1 ∧ a1 ≤ 9 ∨ (0) = 0 ∧ (a1 < 0 ∨ 9 < a1) by first | exact q_4421 b2 | omega))
    · refine Ew_of (pcₚ := 11) (fun _ => x_iconst rfl) ?_
      refine Ew_of (pcₚ := 15) (fun _ => x_goto rfl rfl) ?_
      exact w_ireturn rfl (k (1) _ _ _ H O (SF_refl) (SA_refl) (show (1) = 0 ∨ (1) = 1 by first | exact q_5 | omega) (show (1) = 1 ∧ 0 ≤ a1 ∧ a1 ≤ 9 ∨ (1) = 0 ∧ (a1 < 0 ∨ 9 < a1) by first | exact q_4422 b1 b2 | omega))
theorem len_V213_oz_V6cls : (V213).length = 0 := by decide +kernel
/-- Tokens.areFlags:  -/
theorem C213x {σE : rS} {D N : Nat → Nat} {F : hF} {A : hA} {d c s : Nat} {Q : wQ} (H : HW V213 σE D N F A) {a1 : Int} (h0 : inr (a1)) (k : ∀ (z : Int) (σ : rS) (Fₚ : hF) (Aₚ : hA), HW V213 σ D N Fₚ Aₚ → OUT (V213).length D N σE c s D N σ c s → SF [] F Fₚ → SA [] A Aₚ → ((z) = 0 ∨ (z) = 1) → ((z) = 1 ∧ andI ((a1)) (-62) = 64 ∨ (z) = 0 ∧ andI ((a1)) (-62) ≠ 64) → Q (some (I z)) σ c s) : Ew 213 (d + 0) 0 (rargs 0 [I a1]) [] σE c s Q := by
  have O := OUT_refl (n := (V213).length) (D := D) (N := N) (σ := σE) (c := c) (s := s)
  have HE := H
  refine Ew_of (pcₚ := 1) (fun _ => x_iload_n rfl rfl) ?_
  refine Ew_of (pcₚ := 3) (fun _ => x_bipush (z := -62) rfl (by decide)) ?_
  refine w_iandE rfl (show inr (a1) from h0) (show inr ((-62)) from q_2924) (fun z1 gz1 gaz1 gbz1 gez1 => ?_)
  refine Ew_of (pcₚ := 6) (fun _ => x_bipush (z := 64) rfl (by decide)) ?_
  refine w_icmpne (t := 13) rfl rfl (show inr (z1) from gz1) (show inr (64) from q_51) (fun b2 => ?_) (fun b2 => ?_)
  · refine Ew_of (pcₚ := 14) (fun _ => x_iconst rfl) ?_
    exact w_ireturn rfl (k (0) _ _ _ H O (SF_refl) (SA_refl) (show (0) = 0 ∨ (0) = 1 by first | exact q_1 | omega) (show (0) = 1 ∧ andI (a1) (-62) = 64 ∨ (0) = 0 ∧ andI (a1) (-62) ≠ 64 by omega))
  · refine Ew_of (pcₚ := 10) (fun _ => x_iconst rfl) ?_
    refine Ew_of (pcₚ := 14) (fun _ => x_goto rfl rfl) ?_
    exact w_ireturn rfl (k (1) _ _ _ H O (SF_refl) (SA_refl) (show (1) = 0 ∨ (1) = 1 by first | exact q_5 | omega) (show (1) = 1 ∧ andI (a1) (-62) = 64 ∨ (1) = 0 ∧ andI (a1) (-62) ≠ 64 by first | exact q_4423 b2 gez1 | omega))
theorem len_V26_oz_V6cls : (V26).length = 0 := by decide +kernel
theorem oz_V6cls_4 : vsub V26 V213 [] = true := by decide +kernel
def oz_V6clsl_0 : List (Nat × Nat) := []
theorem oz_V6cls_5 : (oz_V6clsl_0).all (fun p => !tbz 0 (Nat.add (Nat.mul 32 p.1) p.2)) = true := by decide +kernel
def oz_V6clsl_1 : List Nat := []
theorem oz_V6cls_6 : (oz_V6clsl_1).all (fun p => !tbz 0 p) = true := by decide +kernel
theorem oz_V6cls_7 : okc oz_V6clsl_1 0 = true := by decide +kernel
/-- PackHouse.mayBe:  -/
theorem C26x {σE : rS} {D N : Nat → Nat} {F : hF} {A : hA} {d c s : Nat} {Q : wQ} (H : HW V26 σE D N F A) {a1 a2 : Int} (h0 : inr (a1)) (h1 : inr (a2)) (k : ∀ (z : Int) (σ : rS) (Fₚ : hF) (Aₚ : hA), HW V26 σ D N Fₚ Aₚ → OUT (V26).length D N σE c s D N σ c s → SF [] F Fₚ → SA [] A Aₚ → ((z) = 0 ∨ (z) = 1) → ((a1) = 3 ∧ ((z) = 1 ∧ andI ((a2)) (-62) = 64 ∨ (z) = 0 ∧ andI ((a2)) (-62) ≠ 64) ∨ (a1) ≠ 3 ∧ ((z) = 1 ∧ mlo ((a1)) ≤ (a2) ∧ (a2) ≤ mhi ((a1)) ∨ (z) = 0 ∧ ((a2) < mlo ((a1)) ∨ mhi ((a1)) < (a2)))) → Q (some (I z)) σ c s) : Ew 26 (d + 1) 0 (rargs 0 [I a1, I a2]) [] σE c s Q := by
  have O := OUT_refl (n := (V26).length) (D := D) (N := N) (σ := σE) (c := c) (s := s)
  have HE := H
  refine Ew_of (pcₚ := 1) (fun _ => x_iload_n rfl rfl) ?_
  by_cases b1 : a1 = 0
  · refine w_tsk 0 52 rfl (show inr (a1) from h0) (by omega) (by decide) rfl rfl ?_
    have hm : mlo ((a1)) = 0 ∧ mhi ((a1)) = 3 := by rw [show (a1) = (0 : Int) by omega]; decide
    refine Ew_of (pcₚ := 53) (fun _ => x_iload_n rfl rfl) ?_
    refine w_iflt (t := 65) rfl rfl (show inr (a2) from h1) (fun b2 => ?_) (fun b2 => ?_)
    · refine Ew_of (pcₚ := 66) (fun _ => x_iconst rfl) ?_
      exact w_ireturn rfl (k (0) _ _ _ H O (SF_refl) (SA_refl) (show (0) = 0 ∨ (0) = 1 by first | exact q_1 | omega) (show a1 = 3 ∧ ((0) = 1 ∧ andI (a2) (-62) = 64 ∨ (0) = 0 ∧ andI (a2) (-62) ≠ 64) ∨ a1 ≠ 3 ∧ ((0) = 1 ∧ mlo (a1) ≤ a2 ∧ a2 ≤ mhi (a1) ∨ (0) = 0 ∧ (a2 < mlo (a1) ∨ mhi (a1) < a2)) by first | exact q_4424 b1 b2 hm | omega))
    · refine Ew_of (pcₚ := 57) (fun _ => x_iload_n rfl rfl) ?_
      refine Ew_of (pcₚ := 58) (fun _ => x_iconst rfl) ?_
      refine w_icmpgt (t := 65) rfl rfl (show inr (a2) from h1) (show inr (3) from q_66) (fun b3 => ?_) (fun b3 => ?_)
      · refine Ew_of (pcₚ := 66) (fun _ => x_iconst rfl) ?_
        exact w_ireturn rfl (k (0) _ _ _ H O (SF_refl) (SA_refl) (show (0) = 0 ∨ (0) = 1 by first | exact q_1 | omega) (show a1 = 3 ∧ ((0) = 1 ∧ andI (a2) (-62) = 64 ∨ (0) = 0 ∧ andI (a2) (-62) ≠ 64) ∨ a1 ≠ 3 ∧ ((0) = 1 ∧ mlo (a1) ≤ a2 ∧ a2 ≤ mhi (a1) ∨ (0) = 0 ∧ (a2 < mlo (a1) ∨ mhi (a1) < a2)) by first | exact q_4425 b1 b3 hm | omega))
      · refine Ew_of (pcₚ := 62) (fun _ => x_iconst rfl) ?_
        refine Ew_of (pcₚ := 66) (fun _ => x_goto rfl rfl) ?_
        exact w_ireturn rfl (k (1) _ _ _ H O (SF_refl) (SA_refl) (show (1) = 0 ∨ (1) = 1 by first | exact q_5 | omega) (show a1 = 3 ∧ ((1) = 1 ∧ andI (a2) (-62) = 64 ∨ (1) = 0 ∧ andI (a2) (-62) ≠ 64) ∨ a1 ≠ 3 ∧ ((1) = 1 ∧ mlo (a1) ≤ a2 ∧ a2 ≤ mhi (a1) ∨ (1) = 0 ∧ (a2 < mlo (a1) ∨ mhi (a1) < a2)) by first | exact q_4426 b1 b2 b3 hm | omega))
  ·
    by_cases b4 : a1 = 1
    · refine w_tsk 1 67 rfl (show inr (a1) from h0) (by omega) (by decide) rfl rfl ?_
      have hm : mlo ((a1)) = 3 ∧ mhi ((a1)) = 8 := by rw [show (a1) = (1 : Int) by omega]; decide
      refine Ew_of (pcₚ := 68) (fun _ => x_iload_n rfl rfl) ?_
      refine Ew_of (pcₚ := 69) (fun _ => x_iconst rfl) ?_
      refine w_icmplt (t := 82) rfl rfl (show inr (a2) from h1) (show inr (3) from q_66) (fun b5 => ?_) (fun b5 => ?_)
      · refine Ew_of (pcₚ := 83) (fun _ => x_iconst rfl) ?_
        exact w_ireturn rfl (k (0) _ _ _ H O (SF_refl) (SA_refl) (show (0) = 0 ∨ (0) = 1 by first | exact q_1 | omega) (show a1 = 3 ∧ ((0) = 1 ∧ andI (a2) (-62) = 64 ∨ (0) = 0 ∧ andI (a2) (-62) ≠ 64) ∨ a1 ≠ 3 ∧ ((0) = 1 ∧ mlo (a1) ≤ a2 ∧ a2 ≤ mhi (a1) ∨ (0) = 0 ∧ (a2 < mlo (a1) ∨ mhi (a1) < a2)) by first | exact q_4427 b4 b5 hm | omega))
      · refine Ew_of (pcₚ := 73) (fun _ => x_iload_n rfl rfl) ?_
        refine Ew_of (pcₚ := 75) (fun _ => x_bipush (z := 8) rfl (by decide)) ?_
        refine w_icmpgt (t := 82) rfl rfl (show inr (a2) from h1) (show inr (8) from q_96) (fun b6 => ?_) (fun b6 => ?_)
        · refine Ew_of (pcₚ := 83) (fun _ => x_iconst rfl) ?_
          exact w_ireturn rfl (k (0) _ _ _ H O (SF_refl) (SA_refl) (show (0) = 0 ∨ (0) = 1 by first | exact q_1 | omega) (show a1 = 3 ∧ ((0) = 1 ∧ andI (a2) (-62) = 64 ∨ (0) = 0 ∧ andI (a2) (-62) ≠ 64) ∨ a1 ≠ 3 ∧ ((0) = 1 ∧ mlo (a1) ≤ a2 ∧ a2 ≤ mhi (a1) ∨ (0) = 0 ∧ (a2 < mlo (a1) ∨ mhi (a1) < a2)) by first | exact q_4428 b4 b6 hm | omega))
        · refine Ew_of (pcₚ := 79) (fun _ => x_iconst rfl) ?_
          refine Ew_of (pcₚ := 83) (fun _ => x_goto rfl rfl) ?_
          exact w_ireturn rfl (k (1) _ _ _ H O (SF_refl) (SA_refl) (show (1) = 0 ∨ (1) = 1 by first | exact q_5 | omega) (show a1 = 3 ∧ ((1) = 1 ∧ andI (a2) (-62) = 64 ∨ (1) = 0 ∧ andI (a2) (-62) ≠ 64) ∨ a1 ≠ 3 ∧ ((1) = 1 ∧ mlo (a1) ≤ a2 ∧ a2 ≤ mhi (a1) ∨ (1) = 0 ∧ (a2 < mlo (a1) ∨ mhi (a1) < a2)) by first | exact q_4429 b4 b5 b6 hm | omega))
    ·
      by_cases b7 : a1 = 2
      · refine w_tsk 2 84 rfl (show inr (a1) from h0) (by omega) (by decide) rfl rfl ?_
        have hm : mlo ((a1)) = 1 ∧ mhi ((a1)) = 65536 := by rw [show (a1) = (2 : Int) by omega]; decide
        refine Ew_of (pcₚ := 85) (fun _ => x_iload_n rfl rfl) ?_
        refine Ew_of (pcₚ := 86) (fun _ => x_iconst rfl) ?_
        refine w_icmplt (t := 99) rfl rfl (show inr (a2) from h1) (show inr (1) from q_23) (fun b8 => ?_) (fun b8 => ?_)
        · refine Ew_of (pcₚ := 100) (fun _ => x_iconst rfl) ?_
          exact w_ireturn rfl (k (0) _ _ _ H O (SF_refl) (SA_refl) (show (0) = 0 ∨ (0) = 1 by first | exact q_1 | omega) (show a1 = 3 ∧ ((0) = 1 ∧ andI (a2) (-62) = 64 ∨ (0) = 0 ∧ andI (a2) (-62) ≠ 64) ∨ a1 ≠ 3 ∧ ((0) = 1 ∧ mlo (a1) ≤ a2 ∧ a2 ≤ mhi (a1) ∨ (0) = 0 ∧ (a2 < mlo (a1) ∨ mhi (a1) < a2)) by first | exact q_4430 b7 b8 hm | omega))
        · refine Ew_of (pcₚ := 90) (fun _ => x_iload_n rfl rfl) ?_
          refine Ew_of (pcₚ := 92) (fun _ => x_ldc (z := 65536) rfl (by decide)) ?_
          refine w_icmpgt (t := 99) rfl rfl (show inr (a2) from h1) (show inr (65536) from q_35) (fun b9 => ?_) (fun b9 => ?_)
          · refine Ew_of (pcₚ := 100) (fun _ => x_iconst rfl) ?_
            exact w_ireturn rfl (k (0) _ _ _ H O (SF_refl) (SA_refl) (show (0) = 0 ∨ (0) = 1 by first | exact q_1 | omega) (show a1 = 3 ∧ ((0) = 1 ∧ andI (a2) (-62) = 64 ∨ (0) = 0 ∧ andI (a2) (-62) ≠ 64) ∨ a1 ≠ 3 ∧ ((0) = 1 ∧ mlo (a1) ≤ a2 ∧ a2 ≤ mhi (a1) ∨ (0) = 0 ∧ (a2 < mlo (a1) ∨ mhi (a1) < a2)) by first | exact q_4431 b7 b9 hm | omega))
          · refine Ew_of (pcₚ := 96) (fun _ => x_iconst rfl) ?_
            refine Ew_of (pcₚ := 100) (fun _ => x_goto rfl rfl) ?_
            exact w_ireturn rfl (k (1) _ _ _ H O (SF_refl) (SA_refl) (show (1) = 0 ∨ (1) = 1 by first | exact q_5 | omega) (show a1 = 3 ∧ ((1) = 1 ∧ andI (a2) (-62) = 64 ∨ (1) = 0 ∧ andI (a2) (-62) ≠ 64) ∨ a1 ≠ 3 ∧ ((1) = 1 ∧ mlo (a1) ≤ a2 ∧ a2 ≤ mhi (a1) ∨ (1) = 0 ∧ (a2 < mlo (a1) ∨ mhi (a1) < a2)) by first | exact q_4432 b7 b8 b9 hm | omega))
      ·
        by_cases b10 : a1 = 3
        · refine w_tsk 3 101 rfl (show inr (a1) from h0) (by omega) (by decide) rfl rfl ?_
          refine Ew_of (pcₚ := 102) (fun _ => x_iload_n rfl rfl) ?_
          refine w_stat24 rfl rfl (by rfl) (C213x (D := puc 0 D) (N := puc 0 N) (HW_subc H oz_V6cls_4 oz_V6cls_7) (show inr (a2) from h1) (fun z11 σ11 F11ₚ A11ₚ Hₚ Oₚ hS11 hA11 pz11_0 pz11_1 => ⟨rretB rfl pz11_0, ?_⟩))
          refine v_backc (c := c) (s := s) H oz_V6cls_4 oz_V6cls_7 Hₚ Oₚ (fun F11 A11 H Oₚ eF11 eA11 => ?_)
          have O := OUT_trans O Oₚ
          -- Tokens.areFlags
          have cF11 : SF oz_V6clsl_0 F F11 := SF_trans (SF_refl) (SF_gluc (ι := oz_V6clsl_1) oz_V6cls_7 hS11 eF11 (by decide +kernel)) (any_sub (lₚ := []) (by decide +kernel))
          have mF11 := SFm_of cF11 oz_V6cls_5
          have cA11 : SA oz_V6clsl_1 A A11 := SA_trans (SA_refl) (SA_gluc (ι := oz_V6clsl_1) oz_V6cls_7 hA11 eA11 (by decide +kernel)) (any_subA (lₚ := []) (by decide +kernel))
          have mA11 := SAm_of cA11 oz_V6cls_6
          exact w_ireturn rfl (k (z11) _ _ _ H O (cF11) (cA11) (show (z11) = 0 ∨ (z11) = 1 from pz11_0) (show a1 = 3 ∧ ((z11) = 1 ∧ andI (a2) (-62) = 64 ∨ (z11) = 0 ∧ andI (a2) (-62) ≠ 64) ∨ a1 ≠ 3 ∧ ((z11) = 1 ∧ mlo (a1) ≤ a2 ∧ a2 ≤ mhi (a1) ∨ (z11) = 0 ∧ (a2 < mlo (a1) ∨ mhi (a1) < a2)) from q_4433 b10 pz11_1))
        ·
          by_cases b12 : a1 = 4
          · refine w_tsk 4 106 rfl (show inr (a1) from h0) (by omega) (by decide) rfl rfl ?_
            have hm : mlo ((a1)) = 4 ∧ mhi ((a1)) = 7 := by rw [show (a1) = (4 : Int) by omega]; decide
            refine Ew_of (pcₚ := 107) (fun _ => x_iload_n rfl rfl) ?_
            refine Ew_of (pcₚ := 108) (fun _ => x_iconst rfl) ?_
            refine w_icmplt (t := 121) rfl rfl (show inr (a2) from h1) (show inr (4) from q_2) (fun b13 => ?_) (fun b13 => ?_)
            · refine Ew_of (pcₚ := 122) (fun _ => x_iconst rfl) ?_
              exact w_ireturn rfl (k (0) _ _ _ H O (SF_refl) (SA_refl) (show (0) = 0 ∨ (0) = 1 by first | exact q_1 | omega) (show a1 = 3 ∧ ((0) = 1 ∧ andI (a2) (-62) = 64 ∨ (0) = 0 ∧ andI (a2) (-62) ≠ 64) ∨ a1 ≠ 3 ∧ ((0) = 1 ∧ mlo (a1) ≤ a2 ∧ a2 ≤ mhi (a1) ∨ (0) = 0 ∧ (a2 < mlo (a1) ∨ mhi (a1) < a2)) by first | exact q_4434 b12 b13 hm | omega))
            · refine Ew_of (pcₚ := 112) (fun _ => x_iload_n rfl rfl) ?_
              refine Ew_of (pcₚ := 114) (fun _ => x_bipush (z := 7) rfl (by decide)) ?_
              refine w_icmpgt (t := 121) rfl rfl (show inr (a2) from h1) (show inr (7) from q_355) (fun b14 => ?_) (fun b14 => ?_)
              · refine Ew_of (pcₚ := 122) (fun _ => x_iconst rfl) ?_
                exact w_ireturn rfl (k (0) _ _ _ H O (SF_refl) (SA_refl) (show (0) = 0 ∨ (0) = 1 by first | exact q_1 | omega) (show a1 = 3 ∧ ((0) = 1 ∧ andI (a2) (-62) = 64 ∨ (0) = 0 ∧ andI (a2) (-62) ≠ 64) ∨ a1 ≠ 3 ∧ ((0) = 1 ∧ mlo (a1) ≤ a2 ∧ a2 ≤ mhi (a1) ∨ (0) = 0 ∧ (a2 < mlo (a1) ∨ mhi (a1) < a2)) by first | exact q_4435 b12 b14 hm | omega))
              · refine Ew_of (pcₚ := 118) (fun _ => x_iconst rfl) ?_
                refine Ew_of (pcₚ := 122) (fun _ => x_goto rfl rfl) ?_
                exact w_ireturn rfl (k (1) _ _ _ H O (SF_refl) (SA_refl) (show (1) = 0 ∨ (1) = 1 by first | exact q_5 | omega) (show a1 = 3 ∧ ((1) = 1 ∧ andI (a2) (-62) = 64 ∨ (1) = 0 ∧ andI (a2) (-62) ≠ 64) ∨ a1 ≠ 3 ∧ ((1) = 1 ∧ mlo (a1) ≤ a2 ∧ a2 ≤ mhi (a1) ∨ (1) = 0 ∧ (a2 < mlo (a1) ∨ mhi (a1) < a2)) by first | exact q_4436 b12 b13 b14 hm | omega))
          ·
            by_cases b15 : a1 = 5
            · refine w_tsk 5 172 rfl (show inr (a1) from h0) (by omega) (by decide) rfl rfl ?_
              have hm : mlo ((a1)) = -2147483648 ∧ mhi ((a1)) = 2147483647 := mlo_df (by omega)
              refine Ew_of (pcₚ := 173) (fun _ => x_iconst rfl) ?_
              exact w_ireturn rfl (k (1) _ _ _ H O (SF_refl) (SA_refl) (show (1) = 0 ∨ (1) = 1 by first | exact q_5 | omega) (show a1 = 3 ∧ ((1) = 1 ∧ andI (a2) (-62) = 64 ∨ (1) = 0 ∧ andI (a2) (-62) ≠ 64) ∨ a1 ≠ 3 ∧ ((1) = 1 ∧ mlo (a1) ≤ a2 ∧ a2 ≤ mhi (a1) ∨ (1) = 0 ∧ (a2 < mlo (a1) ∨ mhi (a1) < a2)) by first | exact q_4437 b15 h1 hm | omega))
            ·
              by_cases b16 : a1 = 6
              · refine w_tsk 6 123 rfl (show inr (a1) from h0) (by omega) (by decide) rfl rfl ?_
                have hm : mlo ((a1)) = 0 ∧ mhi ((a1)) = 255 := by rw [show (a1) = (6 : Int) by omega]; decide
                refine Ew_of (pcₚ := 124) (fun _ => x_iload_n rfl rfl) ?_
                refine w_iflt (t := 138) rfl rfl (show inr (a2) from h1) (fun b17 => ?_) (fun b17 => ?_)
                · refine Ew_of (pcₚ := 139) (fun _ => x_iconst rfl) ?_
                  exact w_ireturn rfl (k (0) _ _ _ H O (SF_refl) (SA_refl) (show (0) = 0 ∨ (0) = 1 by first | exact q_1 | omega) (show a1 = 3 ∧ ((0) = 1 ∧ andI (a2) (-62) = 64 ∨ (0) = 0 ∧ andI (a2) (-62) ≠ 64) ∨ a1 ≠ 3 ∧ ((0) = 1 ∧ mlo (a1) ≤ a2 ∧ a2 ≤ mhi (a1) ∨ (0) = 0 ∧ (a2 < mlo (a1) ∨ mhi (a1) < a2)) by first | exact q_4438 b16 b17 hm | omega))
                · refine Ew_of (pcₚ := 128) (fun _ => x_iload_n rfl rfl) ?_
                  refine Ew_of (pcₚ := 131) (fun _ => x_sipush (z := 255) rfl (by decide)) ?_
                  refine w_icmpgt (t := 138) rfl rfl (show inr (a2) from h1) (show inr (255) from q_36) (fun b18 => ?_) (fun b18 => ?_)
                  · refine Ew_of (pcₚ := 139) (fun _ => x_iconst rfl) ?_
                    exact w_ireturn rfl (k (0) _ _ _ H O (SF_refl) (SA_refl) (show (0) = 0 ∨ (0) = 1 by first | exact q_1 | omega) (show a1 = 3 ∧ ((0) = 1 ∧ andI (a2) (-62) = 64 ∨ (0) = 0 ∧ andI (a2) (-62) ≠ 64) ∨ a1 ≠ 3 ∧ ((0) = 1 ∧ mlo (a1) ≤ a2 ∧ a2 ≤ mhi (a1) ∨ (0) = 0 ∧ (a2 < mlo (a1) ∨ mhi (a1) < a2)) by first | exact q_4439 b16 b18 hm | omega))
                  · refine Ew_of (pcₚ := 135) (fun _ => x_iconst rfl) ?_
                    refine Ew_of (pcₚ := 139) (fun _ => x_goto rfl rfl) ?_
                    exact w_ireturn rfl (k (1) _ _ _ H O (SF_refl) (SA_refl) (show (1) = 0 ∨ (1) = 1 by first | exact q_5 | omega) (show a1 = 3 ∧ ((1) = 1 ∧ andI (a2) (-62) = 64 ∨ (1) = 0 ∧ andI (a2) (-62) ≠ 64) ∨ a1 ≠ 3 ∧ ((1) = 1 ∧ mlo (a1) ≤ a2 ∧ a2 ≤ mhi (a1) ∨ (1) = 0 ∧ (a2 < mlo (a1) ∨ mhi (a1) < a2)) by first | exact q_4440 b16 b17 b18 hm | omega))
              ·
                by_cases b19 : a1 = 7
                · refine w_tsk 7 140 rfl (show inr (a1) from h0) (by omega) (by decide) rfl rfl ?_
                  have hm : mlo ((a1)) = 0 ∧ mhi ((a1)) = 15 := by rw [show (a1) = (7 : Int) by omega]; decide
                  refine Ew_of (pcₚ := 141) (fun _ => x_iload_n rfl rfl) ?_
                  refine w_iflt (t := 154) rfl rfl (show inr (a2) from h1) (fun b20 => ?_) (fun b20 => ?_)
                  · refine Ew_of (pcₚ := 155) (fun _ => x_iconst rfl) ?_
                    exact w_ireturn rfl (k (0) _ _ _ H O (SF_refl) (SA_refl) (show (0) = 0 ∨ (0) = 1 by first | exact q_1 | omega) (show a1 = 3 ∧ ((0) = 1 ∧ andI (a2) (-62) = 64 ∨ (0) = 0 ∧ andI (a2) (-62) ≠ 64) ∨ a1 ≠ 3 ∧ ((0) = 1 ∧ mlo (a1) ≤ a2 ∧ a2 ≤ mhi (a1) ∨ (0) = 0 ∧ (a2 < mlo (a1) ∨ mhi (a1) < a2)) by first | exact q_4441 b19 b20 hm | omega))
                  · refine Ew_of (pcₚ := 145) (fun _ => x_iload_n rfl rfl) ?_
                    refine Ew_of (pcₚ := 147) (fun _ => x_bipush (z := 15) rfl (by decide)) ?_
                    refine w_icmpgt (t := 154) rfl rfl (show inr (a2) from h1) (show inr (15) from q_143) (fun b21 => ?_) (fun b21 => ?_)
                    · refine Ew_of (pcₚ := 155) (fun _ => x_iconst rfl) ?_
                      exact w_ireturn rfl (k (0) _ _ _ H O (SF_refl) (SA_refl) (show (0) = 0 ∨ (0) = 1 by first | exact q_1 | omega) (show a1 = 3 ∧ ((0) = 1 ∧ andI (a2) (-62) = 64 ∨ (0) = 0 ∧ andI (a2) (-62) ≠ 64) ∨ a1 ≠ 3 ∧ ((0) = 1 ∧ mlo (a1) ≤ a2 ∧ a2 ≤ mhi (a1) ∨ (0) = 0 ∧ (a2 < mlo (a1) ∨ mhi (a1) < a2)) by first | exact q_4442 b19 b21 hm | omega))
                    · refine Ew_of (pcₚ := 151) (fun _ => x_iconst rfl) ?_
                      refine Ew_of (pcₚ := 155) (fun _ => x_goto rfl rfl) ?_
                      exact w_ireturn rfl (k (1) _ _ _ H O (SF_refl) (SA_refl) (show (1) = 0 ∨ (1) = 1 by first | exact q_5 | omega) (show a1 = 3 ∧ ((1) = 1 ∧ andI (a2) (-62) = 64 ∨ (1) = 0 ∧ andI (a2) (-62) ≠ 64) ∨ a1 ≠ 3 ∧ ((1) = 1 ∧ mlo (a1) ≤ a2 ∧ a2 ≤ mhi (a1) ∨ (1) = 0 ∧ (a2 < mlo (a1) ∨ mhi (a1) < a2)) by first | exact q_4443 b19 b20 b21 hm | omega))
                ·
                  by_cases b22 : a1 = 8
                  · refine w_tsk 8 156 rfl (show inr (a1) from h0) (by omega) (by decide) rfl rfl ?_
                    have hm : mlo ((a1)) = 0 ∧ mhi ((a1)) = 11 := by rw [show (a1) = (8 : Int) by omega]; decide
                    refine Ew_of (pcₚ := 157) (fun _ => x_iload_n rfl rfl) ?_
                    refine w_iflt (t := 170) rfl rfl (show inr (a2) from h1) (fun b23 => ?_) (fun b23 => ?_)
                    · refine Ew_of (pcₚ := 171) (fun _ => x_iconst rfl) ?_
                      exact w_ireturn rfl (k (0) _ _ _ H O (SF_refl) (SA_refl) (show (0) = 0 ∨ (0) = 1 by first | exact q_1 | omega) (show a1 = 3 ∧ ((0) = 1 ∧ andI (a2) (-62) = 64 ∨ (0) = 0 ∧ andI (a2) (-62) ≠ 64) ∨ a1 ≠ 3 ∧ ((0) = 1 ∧ mlo (a1) ≤ a2 ∧ a2 ≤ mhi (a1) ∨ (0) = 0 ∧ (a2 < mlo (a1) ∨ mhi (a1) < a2)) by first | exact q_4444 b22 b23 hm | omega))
                    · refine Ew_of (pcₚ := 161) (fun _ => x_iload_n rfl rfl) ?_
                      refine Ew_of (pcₚ := 163) (fun _ => x_bipush (z := 11) rfl (by decide)) ?_
                      refine w_icmpgt (t := 170) rfl rfl (show inr (a2) from h1) (show inr (11) from q_67) (fun b24 => ?_) (fun b24 => ?_)
                      · refine Ew_of (pcₚ := 171) (fun _ => x_iconst rfl) ?_
                        exact w_ireturn rfl (k (0) _ _ _ H O (SF_refl) (SA_refl) (show (0) = 0 ∨ (0) = 1 by first | exact q_1 | omega) (show a1 = 3 ∧ ((0) = 1 ∧ andI (a2) (-62) = 64 ∨ (0) = 0 ∧ andI (a2) (-62) ≠ 64) ∨ a1 ≠ 3 ∧ ((0) = 1 ∧ mlo (a1) ≤ a2 ∧ a2 ≤ mhi (a1) ∨ (0) = 0 ∧ (a2 < mlo (a1) ∨ mhi (a1) < a2)) by first | exact q_4445 b22 b24 hm | omega))
                      · refine Ew_of (pcₚ := 167) (fun _ => x_iconst rfl) ?_
                        refine Ew_of (pcₚ := 171) (fun _ => x_goto rfl rfl) ?_
                        exact w_ireturn rfl (k (1) _ _ _ H O (SF_refl) (SA_refl) (show (1) = 0 ∨ (1) = 1 by first | exact q_5 | omega) (show a1 = 3 ∧ ((1) = 1 ∧ andI (a2) (-62) = 64 ∨ (1) = 0 ∧ andI (a2) (-62) ≠ 64) ∨ a1 ≠ 3 ∧ ((1) = 1 ∧ mlo (a1) ≤ a2 ∧ a2 ≤ mhi (a1) ∨ (1) = 0 ∧ (a2 < mlo (a1) ∨ mhi (a1) < a2)) by first | exact q_4446 b22 b23 b24 hm | omega))
                  ·
                    refine w_tsd 172 rfl (show inr (a1) from h0) (by omega) rfl ?_
                    have hm : mlo ((a1)) = -2147483648 ∧ mhi ((a1)) = 2147483647 := mlo_df (by omega)
                    refine Ew_of (pcₚ := 173) (fun _ => x_iconst rfl) ?_
                    exact w_ireturn rfl (k (1) _ _ _ H O (SF_refl) (SA_refl) (show (1) = 0 ∨ (1) = 1 by first | exact q_5 | omega) (show a1 = 3 ∧ ((1) = 1 ∧ andI (a2) (-62) = 64 ∨ (1) = 0 ∧ andI (a2) (-62) ≠ 64) ∨ a1 ≠ 3 ∧ ((1) = 1 ∧ mlo (a1) ≤ a2 ∧ a2 ≤ mhi (a1) ∨ (1) = 0 ∧ (a2 < mlo (a1) ∨ mhi (a1) < a2)) by omega))
theorem len_V9_oz_V6cls : (V9).length = 2 := by decide +kernel
theorem oz_V6cls_9 : vsub V9 V25 [] = true := by decide +kernel
theorem oz_V6cls_10 : vsub V9 V26 [] = true := by decide +kernel
def oz_V6clsl_2 : List Nat := [1]
theorem oz_V6cls_11 : (oz_V6clsl_2).all (fun p => !tbz 2 p) = true := by decide +kernel
/-- PackHouse.set: this, this.settings -/
theorem C9x {σE : rS} {D N : Nat → Nat} {F : hF} {A : hA} {d c s : Nat} {Q : wQ} (H : HW V9 σE D N F A) {a1 a2 : Int} (pf1 : HID (F 0 1 = (D 1 : Int))) (n1 : Int) (en1 : HID ((N 1 : Int) = n1)) (w1 : Int → Int) (ew1 : A 1 = w1) (h0 : inr (a1)) (h1 : inr (a2)) (h2 : SETI ((w1))) (h3 : (n1) = 10) (k : ∀ (z : Int) (σ : rS) (Fₚ : hF) (Aₚ : hA), HW V9 σ D N Fₚ Aₚ → OUT (V9).length D N σE c s D N σ c s → SF [] F Fₚ → SA [1] A Aₚ → ∀ v1 : Int → Int, Aₚ 1 = v1 → ((z) = 0 ∨ (z) = 1) → (SETI ((v1))) → ((a1) = 3 ∧ ((z) = 1 ∧ andI ((a2)) (-62) = 64 ∨ (z) = 0 ∧ andI ((a2)) (-62) ≠ 64) ∨ ((a1) < 0 ∨ 9 < (a1)) ∧ (z) = 0 ∨ 0 ≤ (a1) ∧ (a1) ≤ 9 ∧ (a1) ≠ 3 ∧ ((z) = 1 ∧ mlo ((a1)) ≤ (a2) ∧ (a2) ≤ mhi ((a1)) ∨ (z) = 0 ∧ ((a2) < mlo ((a1)) ∨ mhi ((a1)) < (a2)))) → (UPD ((z)) ((w1)) ((v1)) ((a1)) ((a2))) → Q (some (I z)) σ c s) : Ew 9 (d + 2) 0 (rargs 0 [.ref (D 0), I a1, I a2]) [] σE c s Q := by
  have O := OUT_refl (n := (V9).length) (D := D) (N := N) (σ := σE) (c := c) (s := s)
  have HE := H
  have r1 : HID ((0 : Int) ≤ n1 ∧ n1 ≤ 1000000) := nrng (H.nle 1 (ltn len_V9_oz_V6cls rfl)) (show (N 1 : Int) = n1 from en1)
  refine Ew_of (pcₚ := 1) (fun _ => x_iload_n rfl rfl) ?_
  refine w_stat24 rfl rfl (by rfl) (C25x (D := puc 0 D) (N := puc 0 N) (HW_subc H oz_V6cls_9 oz_V6cls_7) (show inr (a1) from h0) (fun z2 σ2 F2ₚ A2ₚ Hₚ Oₚ hS2 hA2 pz2_0 pz2_1 => ⟨rretB rfl pz2_0, ?_⟩))
  refine v_backc (c := c) (s := s) H oz_V6cls_9 oz_V6cls_7 Hₚ Oₚ (fun F2 A2 H Oₚ eF2 eA2 => ?_)
  have O := OUT_trans O Oₚ
  -- PackHouse.isSetting
  have cF2 : SF oz_V6clsl_0 F F2 := SF_trans (SF_refl) (SF_gluc (ι := oz_V6clsl_1) oz_V6cls_7 hS2 eF2 (by decide +kernel)) (any_sub (lₚ := []) (by decide +kernel))
  have mF2 := SFm_of cF2 oz_V6cls_5
  have cA2 : SA oz_V6clsl_2 A A2 := SA_trans (SA_refl) (SA_gluc (ι := oz_V6clsl_1) oz_V6cls_7 hA2 eA2 (by decide +kernel)) (any_subA (lₚ := []) (by decide +kernel))
  have mA2 := SAm_of cA2 oz_V6cls_11
  refine w_ifeq (t := 15) rfl rfl (show inr (z2) from q_15 pz2_0) (fun b3 => ?_) (fun b3 => ?_)
  · have hU : UPD 0 (w1) (w1) ((a1)) ((a2)) := .inr ⟨rfl, rfl⟩
    refine Ew_of (pcₚ := 16) (fun _ => x_iconst rfl) ?_
    exact w_ireturn rfl (k (0) _ _ _ H O (cF2) (cA2) (w1) (((show A2 1 = A 1 from (eA2 1))).trans (ew1)) (show (0) = 0 ∨ (0) = 1 by first | exact q_1 | omega) (show SETI ((w1)) from h2) (show a1 = 3 ∧ ((0) = 1 ∧ andI (a2) (-62) = 64 ∨ (0) = 0 ∧ andI (a2) (-62) ≠ 64) ∨ (a1 < 0 ∨ 9 < a1) ∧ (0) = 0 ∨ 0 ≤ a1 ∧ a1 ≤ 9 ∧ a1 ≠ 3 ∧ ((0) = 1 ∧ mlo (a1) ≤ a2 ∧ a2 ≤ mhi (a1) ∨ (0) = 0 ∧ (a2 < mlo (a1) ∨ mhi (a1) < a2)) by omega) (show UPD ((0)) ((w1)) ((w1)) (a1) (a2) from hU))
  · refine Ew_of (pcₚ := 8) (fun _ => x_iload_n rfl rfl) ?_
    refine Ew_of (pcₚ := 9) (fun _ => x_iload_n rfl rfl) ?_
    refine w_stat24 rfl rfl (by rfl) (C26x (D := puc 0 D) (N := puc 0 N) (HW_subc H oz_V6cls_10 oz_V6cls_7) (show inr (a1) from h0) (show inr (a2) from h1) (fun z4 σ4 F4ₚ A4ₚ Hₚ Oₚ hS4 hA4 pz4_0 pz4_1 => ⟨rretB rfl pz4_0, ?_⟩))
    refine v_backc (c := c) (s := s) H oz_V6cls_10 oz_V6cls_7 Hₚ Oₚ (fun F4 A4 H Oₚ eF4 eA4 => ?_)
    have O := OUT_trans O Oₚ
    -- PackHouse.mayBe
    have cF4 : SF oz_V6clsl_0 F F4 := SF_trans (cF2) (SF_gluc (ι := oz_V6clsl_1) oz_V6cls_7 hS4 eF4 (by decide +kernel)) (any_sub (lₚ := []) (by decide +kernel))
    have mF4 := SFm_of cF4 oz_V6cls_5
    have cA4 : SA oz_V6clsl_2 A A4 := SA_trans (cA2) (SA_gluc (ι := oz_V6clsl_1) oz_V6cls_7 hA4 eA4 (by decide +kernel)) (any_subA (lₚ := []) (by decide +kernel))
    have mA4 := SAm_of cA4 oz_V6cls_11
    refine w_ifne (t := 17) rfl rfl (show inr (z4) from q_15 pz4_0) (fun b5 => ?_) (fun b5 => ?_)
    · refine Ew_of (pcₚ := 18) (fun _ => x_aload_n rfl rfl) ?_
      refine v_g H (o := 0) (v := .ref (D 1)) rfl rfl rfl rfl rfl (vrf ((mF4 0 1 rfl).trans (pf1))) ?_
      refine Ew_of (pcₚ := 22) (fun _ => x_iload_n rfl rfl) ?_
      refine Ew_of (pcₚ := 23) (fun _ => x_iload_n rfl rfl) ?_
      refine v_sI H (o := 1) (z := a2) rfl rfl rfl rfl (n := n1) (en1) (show 0 ≤ a1 ∧ a1 < n1 by have qh0 := HIDe r1; omega) (show inr (a2) from h1) (fun σ H Oₚ => ?_)
      have O := OUT_trans O Oₚ
      have cAu6 : SA oz_V6clsl_2 A (updA A4 1 (a1) (a2)) := SA_upd (cA4) rfl
      have mAu6 := SAm_of cAu6 oz_V6cls_11
      have : SETI ((upd1 (w1) (a1) (a2))) := SETI_upd (by assumption) (MBQ_of (by omega) (by omega))
      have hU : UPD 1 (w1) ((upd1 (w1) (a1) (a2))) ((a1)) ((a2)) := .inl ⟨rfl, rfl⟩
      refine Ew_of (pcₚ := 25) (fun _ => x_iconst rfl) ?_
      exact w_ireturn rfl (k (1) _ _ _ H O (cF4) (cAu6) (upd1 (w1) (a1) (a2)) (congrArg (fun q => upd1 q (a1) (a2)) (((show A4 1 = A2 1 from (eA4 1))).trans (((show A2 1 = A 1 from (eA2 1))).trans (ew1)))) (show (1) = 0 ∨ (1) = 1 by first | exact q_5 | omega) (show SETI ((upd1 (w1) (a1) (a2))) by assumption) (show a1 = 3 ∧ ((1) = 1 ∧ andI (a2) (-62) = 64 ∨ (1) = 0 ∧ andI (a2) (-62) ≠ 64) ∨ (a1 < 0 ∨ 9 < a1) ∧ (1) = 0 ∨ 0 ≤ a1 ∧ a1 ≤ 9 ∧ a1 ≠ 3 ∧ ((1) = 1 ∧ mlo (a1) ≤ a2 ∧ a2 ≤ mhi (a1) ∨ (1) = 0 ∧ (a2 < mlo (a1) ∨ mhi (a1) < a2)) by omega) (show UPD ((1)) ((w1)) ((upd1 (w1) (a1) (a2))) (a1) (a2) from hU))
    · have hU : UPD 0 (w1) (w1) ((a1)) ((a2)) := .inr ⟨rfl, rfl⟩
      refine Ew_of (pcₚ := 16) (fun _ => x_iconst rfl) ?_
      exact w_ireturn rfl (k (0) _ _ _ H O (cF4) (cA4) (w1) (((show A4 1 = A2 1 from (eA4 1))).trans (((show A2 1 = A 1 from (eA2 1))).trans (ew1))) (show (0) = 0 ∨ (0) = 1 by first | exact q_1 | omega) (show SETI ((w1)) from h2) (show a1 = 3 ∧ ((0) = 1 ∧ andI (a2) (-62) = 64 ∨ (0) = 0 ∧ andI (a2) (-62) ≠ 64) ∨ (a1 < 0 ∨ 9 < a1) ∧ (0) = 0 ∨ 0 ≤ a1 ∧ a1 ≤ 9 ∧ a1 ≠ 3 ∧ ((0) = 1 ∧ mlo (a1) ≤ a2 ∧ a2 ≤ mhi (a1) ∨ (0) = 0 ∧ (a2 < mlo (a1) ∨ mhi (a1) < a2)) by omega) (show UPD ((0)) ((w1)) ((w1)) (a1) (a2) from hU))
theorem len_V10_oz_V6cls : (V10).length = 2 := by decide +kernel
theorem oz_V6cls_13 : vsub V10 V25 [] = true := by decide +kernel
/-- PackHouse.get: this, this.settings -/
theorem C10x {σE : rS} {D N : Nat → Nat} {F : hF} {A : hA} {d c s : Nat} {Q : wQ} (H : HW V10 σE D N F A) {a1 : Int} (pf1 : HID (F 0 1 = (D 1 : Int))) (n1 : Int) (en1 : HID ((N 1 : Int) = n1)) (w1 : Int → Int) (ew1 : A 1 = w1) (h0 : inr (a1)) (h1 : (n1) = 10) (k : ∀ (z : Int) (σ : rS) (Fₚ : hF) (Aₚ : hA), HW V10 σ D N Fₚ Aₚ → OUT (V10).length D N σE c s D N σ c s → SF [] F Fₚ → SA [] A Aₚ → (inr (z)) → (0 ≤ (a1) ∧ (a1) ≤ 9 ∧ (z) = ((w1)) ((a1)) ∨ ((a1) < 0 ∨ 9 < (a1)) ∧ (z) = -1) → Q (some (I z)) σ c s) : Ew 10 (d + 1) 0 (rargs 0 [.ref (D 0), I a1]) [] σE c s Q := by
  have O := OUT_refl (n := (V10).length) (D := D) (N := N) (σ := σE) (c := c) (s := s)
  have HE := H
  have r1 : HID ((0 : Int) ≤ n1 ∧ n1 ≤ 1000000) := nrng (H.nle 1 (ltn len_V10_oz_V6cls rfl)) (show (N 1 : Int) = n1 from en1)
  refine Ew_of (pcₚ := 1) (fun _ => x_iload_n rfl rfl) ?_
  refine w_stat24 rfl rfl (by rfl) (C25x (D := puc 0 D) (N := puc 0 N) (HW_subc H oz_V6cls_13 oz_V6cls_7) (show inr (a1) from h0) (fun z2 σ2 F2ₚ A2ₚ Hₚ Oₚ hS2 hA2 pz2_0 pz2_1 => ⟨rretB rfl pz2_0, ?_⟩))
  refine v_backc (c := c) (s := s) H oz_V6cls_13 oz_V6cls_7 Hₚ Oₚ (fun F2 A2 H Oₚ eF2 eA2 => ?_)
  have O := OUT_trans O Oₚ
  -- PackHouse.isSetting
  have cF2 : SF oz_V6clsl_0 F F2 := SF_trans (SF_refl) (SF_gluc (ι := oz_V6clsl_1) oz_V6cls_7 hS2 eF2 (by decide +kernel)) (any_sub (lₚ := []) (by decide +kernel))
  have mF2 := SFm_of cF2 oz_V6cls_5
  have cA2 : SA oz_V6clsl_1 A A2 := SA_trans (SA_refl) (SA_gluc (ι := oz_V6clsl_1) oz_V6cls_7 hA2 eA2 (by decide +kernel)) (any_subA (lₚ := []) (by decide +kernel))
  have mA2 := SAm_of cA2 oz_V6cls_6
  refine w_ifeq (t := 16) rfl rfl (show inr (z2) from q_15 pz2_0) (fun b3 => ?_) (fun b3 => ?_)
  · refine Ew_of (pcₚ := 17) (fun _ => x_iconst rfl) ?_
    exact w_ireturn rfl (k ((-1)) _ _ _ H O (cF2) (cA2) (show inr ((-1)) from q_16) (show 0 ≤ a1 ∧ a1 ≤ 9 ∧ ((-1)) = ((w1)) (a1) ∨ (a1 < 0 ∨ 9 < a1) ∧ ((-1)) = -1 by omega))
  · refine Ew_of (pcₚ := 8) (fun _ => x_aload_n rfl rfl) ?_
    refine v_g H (o := 0) (v := .ref (D 1)) rfl rfl rfl rfl rfl (vrf ((mF2 0 1 rfl).trans (pf1))) ?_
    refine Ew_of (pcₚ := 12) (fun _ => x_iload_n rfl rfl) ?_
    refine v_lI H (o := 1) rfl rfl rfl rfl (n := n1) (en1) (show 0 ≤ a1 ∧ a1 < n1 by have qh0 := HIDe r1; omega) (fun v4 ev4 (qv4 : HID _) => ?_)
    have ev4 : (w1) (a1) = v4 := (congrFun ((funext (mA2 1 rfl)).trans (ew1)) (a1)).symm.trans ev4
    refine Ew_of (pcₚ := 17) (fun _ => x_goto rfl rfl) ?_
    exact w_ireturn rfl (k (v4) _ _ _ H O (cF2) (cA2) (show inr (v4) from (HIDe qv4)) (show 0 ≤ a1 ∧ a1 ≤ 9 ∧ (v4) = ((w1)) (a1) ∨ (a1 < 0 ∨ 9 < a1) ∧ (v4) = -1 by have qh0 := HIDe qv4; omega))
theorem len_V14_oz_V6cls : (V14).length = 12 := by decide +kernel
theorem oz_V6cls_15 : vsub V14 V24 [] = true := by decide +kernel
theorem oz_V6cls_16 : vsub V14 V158_Row [10, 2, 11, 3] = true := by decide +kernel
theorem oz_V6cls_17 : vmov V14 [10, 2, 11, 3] [2] = true := by decide +kernel
theorem oz_V6cls_18 : vsub V14 V158_Row [10, 4, 11, 5] = true := by decide +kernel
theorem oz_V6cls_19 : vmov V14 [10, 4, 11, 5] [2] = true := by decide +kernel
theorem oz_V6cls_20 : vsub V14 V158_Row [10, 6, 11, 7] = true := by decide +kernel
theorem oz_V6cls_21 : vmov V14 [10, 6, 11, 7] [2] = true := by decide +kernel
theorem oz_V6cls_22 : vsub V14 V158_Row [10, 8, 11, 9] = true := by decide +kernel
theorem oz_V6cls_23 : vmov V14 [10, 8, 11, 9] [2] = true := by decide +kernel
def oz_V6clsl_3 : List (Nat × Nat) := [(10, 0), (10, 1), (10, 2), (10, 3), (10, 4)]
theorem oz_V6cls_24 : (oz_V6clsl_3).all (fun p => !tbz 66215598113548212554245672891256115552683840193056235868358289842488811499199857050711824695033856 (Nat.add (Nat.mul 32 p.1) p.2)) = true := by decide +kernel
def oz_V6clsl_4 : List Nat := [11]
theorem oz_V6cls_25 : (oz_V6clsl_4).all (fun p => !tbz 2048 p) = true := by decide +kernel
def oz_V6clsl_5 : List Nat := [10, 2, 11, 3]
theorem oz_V6cls_26 : okc oz_V6clsl_5 405537802 = true := by decide +kernel
def oz_V6clsl_6 : List Nat := [10, 4, 11, 5]
theorem oz_V6cls_27 : okc oz_V6clsl_6 673974282 = true := by decide +kernel
def oz_V6clsl_7 : List Nat := [10, 6, 11, 7]
theorem oz_V6cls_28 : okc oz_V6clsl_7 942410762 = true := by decide +kernel
def oz_V6clsl_8 : List Nat := [10, 8, 11, 9]
theorem oz_V6cls_29 : okc oz_V6clsl_8 1210847242 = true := by decide +kernel
/-- PackHouse.history: this, this.rows, this.rows.0, this.rows.0.bytes, this.rows.1, this.rows.1.bytes, this.rows.2, this.rows.2.bytes, this.rows.3, this.rows.3.bytes, this.past, this.past.bytes -/
theorem C14x {σE : rS} {D N : Nat → Nat} {F : hF} {A : hA} {d c s : Nat} {Q : wQ} (H : HW V14 σE D N F A) {a1 : Int} (pf1 : HID (F 0 0 = (D 1 : Int))) (pf2 : HID (A 1 0 = (D 2 : Int))) (pf3 : HID (F 2 0 = (D 3 : Int))) (pf4 : HID (A 1 1 = (D 4 : Int))) (pf5 : HID (F 4 0 = (D 5 : Int))) (pf6 : HID (A 1 2 = (D 6 : Int))) (pf7 : HID (F 6 0 = (D 7 : Int))) (pf8 : HID (A 1 3 = (D 8 : Int))) (pf9 : HID (F 8 0 = (D 9 : Int))) (pf10 : HID (F 0 2 = (D 10 : Int))) (pf11 : HID (F 10 0 = (D 11 : Int))) (n1 : Int) (en1 : HID ((N 1 : Int) = n1)) (n3 : Int) (en3 : HID ((N 3 : Int) = n3)) (n5 : Int) (en5 : HID ((N 5 : Int) = n5)) (n7 : Int) (en7 : HID ((N 7 : Int) = n7)) (n9 : Int) (en9 : HID ((N 9 : Int) = n9)) (n11 : Int) (en11 : HID ((N 11 : Int) = n11)) (u2_1 : Int) (eu2_1 : HID (F 2 1 = u2_1)) (u4_1 : Int) (eu4_1 : HID (F 4 1 = u4_1)) (u6_1 : Int) (eu6_1 : HID (F 6 1 = u6_1)) (u8_1 : Int) (eu8_1 : HID (F 8 1 = u8_1)) (u10_1 : Int) (eu10_1 : HID (F 10 1 = u10_1)) (h0 : inr (a1)) (h1 : (n1) = 4) (h2 : 0 ≤ (u2_1) ∧ (u2_1) ≤ (n3) ∧ (n3) ≤ 65536) (h3 : 0 ≤ (u4_1) ∧ (u4_1) ≤ (n5) ∧ (n5) ≤ 65536) (h4 : 0 ≤ (u6_1) ∧ (u6_1) ≤ (n7) ∧ (n7) ≤ 65536) (h5 : 0 ≤ (u8_1) ∧ (u8_1) ≤ (n9) ∧ (n9) ≤ 65536) (h6 : 0 ≤ (u10_1) ∧ (u10_1) ≤ (n11) ∧ (n11) ≤ 65536) (k : ∀ (z : Int) (σ : rS) (Dₚ Nₚ : Nat → Nat) (Fₚ : hF) (Aₚ : hA) (cₚ sₚ : Nat), HW V14 σ Dₚ Nₚ Fₚ Aₚ → OUT (V14).length D N σE c s Dₚ Nₚ σ cₚ sₚ → SD [11] D Dₚ → SD [11] N Nₚ → SF [(10, 0), (10, 1), (10, 2), (10, 3), (10, 4)] F Fₚ → SA [11] A Aₚ → Fₚ 10 0 = (Dₚ 11 : Int) → ∀ m11 : Int, (Nₚ 11 : Int) = m11 → ∀ y10_1 : Int, Fₚ 10 1 = y10_1 → ((z) = 0 ∨ (z) = 1) → (0 ≤ (u2_1) ∧ (u2_1) ≤ (n3) ∧ (n3) ≤ 65536) → (0 ≤ (u4_1) ∧ (u4_1) ≤ (n5) ∧ (n5) ≤ 65536) → (0 ≤ (u6_1) ∧ (u6_1) ≤ (n7) ∧ (n7) ≤ 65536) → (0 ≤ (u8_1) ∧ (u8_1) ≤ (n9) ∧ (n9) ≤ 65536) → (0 ≤ (y10_1) ∧ (y10_1) ≤ (m11) ∧ (m11) ≤ 65536) → ((z) = 1 ∧ 0 ≤ (a1) ∧ (a1) ≤ 3 ∨ (z) = 0 ∧ ((a1) < 0 ∨ 3 < (a1))) → Q (some (I z)) σ cₚ sₚ) : Ew 14 (d + 4) 0 (rargs 0 [.ref (D 0), I a1]) [] σE c s Q := by
  have O := OUT_refl (n := (V14).length) (D := D) (N := N) (σ := σE) (c := c) (s := s)
  have HE := H
  have r6 : HID ((0 : Int) ≤ n1 ∧ n1 ≤ 1000000) := nrng (H.nle 1 (ltn len_V14_oz_V6cls rfl)) (show (N 1 : Int) = n1 from en1)
  refine Ew_of (pcₚ := 1) (fun _ => x_iload_n rfl rfl) ?_
  refine w_stat24 rfl rfl (by rfl) (C24x (D := puc 0 D) (N := puc 0 N) (HW_subc H oz_V6cls_15 oz_V6cls_7) (show inr (a1) from h0) (fun z12 σ12 F12ₚ A12ₚ Hₚ Oₚ hS12 hA12 pz12_0 pz12_1 => ⟨rretB rfl pz12_0, ?_⟩))
  refine v_backc (c := c) (s := s) H oz_V6cls_15 oz_V6cls_7 Hₚ Oₚ (fun F12 A12 H Oₚ eF12 eA12 => ?_)
  have O := OUT_trans O Oₚ
  -- PackHouse.isRow
  have cF12 : SF oz_V6clsl_3 F F12 := SF_trans (SF_refl) (SF_gluc (ι := oz_V6clsl_1) oz_V6cls_7 hS12 eF12 (by decide +kernel)) (any_sub (lₚ := []) (by decide +kernel))
  have mF12 := SFm_of cF12 oz_V6cls_24
  have cA12 : SA oz_V6clsl_4 A A12 := SA_trans (SA_refl) (SA_gluc (ι := oz_V6clsl_1) oz_V6cls_7 hA12 eA12 (by decide +kernel)) (any_subA (lₚ := []) (by decide +kernel))
  have mA12 := SAm_of cA12 oz_V6cls_25
  refine w_ifne (t := 9) rfl rfl (show inr (z12) from q_15 pz12_0) (fun b13 => ?_) (fun b13 => ?_)
  · refine Ew_of (pcₚ := 10) (fun _ => x_aload_n rfl rfl) ?_
    refine v_g H (o := 0) (v := .ref (D 10)) rfl rfl rfl rfl rfl (vrf ((mF12 0 2 rfl).trans (pf10))) ?_
    refine Ew_of (pcₚ := 14) (fun _ => x_aload_n rfl rfl) ?_
    refine v_g H (o := 0) (v := .ref (D 1)) rfl rfl rfl rfl rfl (vrf ((mF12 0 0 rfl).trans (pf1))) ?_
    refine Ew_of (pcₚ := 18) (fun _ => x_iload_n rfl rfl) ?_
    rcases (show a1 = 0 ∨ a1 = 1 ∨ a1 = 2 ∨ a1 = 3 by omega) with b14 | b14 | b14 | b14
    · refine v_lR H (o := 1) rfl rfl rfl rfl rfl (n := n1) (en1) (show 0 ≤ a1 ∧ a1 < n1 from q_4225 (HIDe r6) b14 h1) (z := ((D 2 : Nat) : Int)) (v := .ref (D 2)) ((congrArg (A12 1) b14).trans ((mA12 1 rfl 0).trans (pf2))) (vrf rfl) ?_
      refine v_inv H (o := 10) rfl rfl rfl rfl rfl rfl (by rfl) (C158_Row (D := puc 405537802 D) (N := puc 405537802 N) (HW_subc H oz_V6cls_16 oz_V6cls_26) ((((show F12 10 0 = F 10 0 from (eF12 10 0)))).trans (pf11)) ((mF12 2 0 rfl).trans (pf3)) (n11) (en11) (n3) (en3) (u10_1) ((((show F12 10 1 = F 10 1 from (eF12 10 1))).trans (eu10_1))) (u2_1) (((mF12 2 1 rfl).trans (eu2_1))) (show 0 ≤ (u10_1) ∧ (u10_1) ≤ (n11) ∧ (n11) ≤ 65536 from h6) (show 0 ≤ (u2_1) ∧ (u2_1) ≤ (n3) ∧ (n3) ≤ 65536 from h2) (fun σ15 D15ₚ N15ₚ F15ₚ A15ₚ c15 s15 Hₚ Oₚ hD15 hN15 hS15 hA15 (pm15_2 : HID _) m15_2 (em15_2 : HID _) y15_0_1 (ey15_0_1 : HID _) pz15_0 pz15_1 => ⟨rfl, ?_⟩))
      refine v_backMc (c := c) (s := s) H oz_V6cls_16 oz_V6cls_26 Hₚ Oₚ hD15 oz_V6cls_17 (fun D15 N15 F15 A15 H Oₚ eD15 eN15 eF15 eA15 => ?_)
      have O := OUT_trans O Oₚ
      -- Row.become
      have cF15 : SF oz_V6clsl_3 F F15 := SF_trans (cF12) (SF_gluc (ι := oz_V6clsl_5) oz_V6cls_26 hS15 eF15 (by decide +kernel)) (any_sub (lₚ := [(10, 0), (10, 1), (10, 2), (10, 3), (10, 4)]) (by decide +kernel))
      have mF15 := SFm_of cF15 oz_V6cls_24
      have cA15 : SA oz_V6clsl_4 A A15 := SA_trans (cA12) (SA_gluc (ι := oz_V6clsl_5) oz_V6cls_26 hA15 eA15 (by decide +kernel)) (any_subA (lₚ := [11]) (by decide +kernel))
      have mA15 := SAm_of cA15 oz_V6cls_25
      have cD15 : SD oz_V6clsl_4 D D15 := SD_trans (SD_refl) (SD_gluc (ι := oz_V6clsl_5) oz_V6cls_26 hD15 eD15 (by decide +kernel)) (any_subA (lₚ := [11]) (by decide +kernel))
      have mD15 := SDm_of cD15 oz_V6cls_25
      have cN15 : SD oz_V6clsl_4 N N15 := SD_trans (SD_refl) (SD_gluc (ι := oz_V6clsl_5) oz_V6cls_26 hN15 eN15 (by decide +kernel)) (any_subA (lₚ := [11]) (by decide +kernel))
      have mN15 := SDm_of cN15 oz_V6cls_25
      have pf15_10_0 : HID (F15 10 0 = (D15 11 : Int)) := (eF15 10 0).trans (pm15_2.trans (congrArg (fun q : Nat => (q : Int)) (eD15 11).symm))
      refine Ew_of (pcₚ := 23) (fun _ => x_iconst rfl) ?_
      exact w_ireturn rfl (k (1) _ _ _ _ _ _ _ H O (cD15) (cN15) (cF15) (cA15) (pf15_10_0) (m15_2) ((congrArg (fun q : Nat => (q : Int)) (eN15 11)).trans em15_2) (y15_0_1) (((eF15 10 1).trans ey15_0_1)) (show (1) = 0 ∨ (1) = 1 by first | exact q_5 | omega) (show 0 ≤ (u2_1) ∧ (u2_1) ≤ (n3) ∧ (n3) ≤ 65536 from h2) (show 0 ≤ (u4_1) ∧ (u4_1) ≤ (n5) ∧ (n5) ≤ 65536 from h3) (show 0 ≤ (u6_1) ∧ (u6_1) ≤ (n7) ∧ (n7) ≤ 65536 from h4) (show 0 ≤ (u8_1) ∧ (u8_1) ≤ (n9) ∧ (n9) ≤ 65536 from h5) (show 0 ≤ (y15_0_1) ∧ (y15_0_1) ≤ (m15_2) ∧ (m15_2) ≤ 65536 from pz15_0) (show (1) = 1 ∧ 0 ≤ a1 ∧ a1 ≤ 3 ∨ (1) = 0 ∧ (a1 < 0 ∨ 3 < a1) by first | exact q_4447 b14 | omega))
    · refine v_lR H (o := 1) rfl rfl rfl rfl rfl (n := n1) (en1) (show 0 ≤ a1 ∧ a1 < n1 from q_4226 (HIDe r6) b14 h1) (z := ((D 4 : Nat) : Int)) (v := .ref (D 4)) ((congrArg (A12 1) b14).trans ((mA12 1 rfl 1).trans (pf4))) (vrf rfl) ?_
      refine v_inv H (o := 10) rfl rfl rfl rfl rfl rfl (by rfl) (C158_Row (D := puc 673974282 D) (N := puc 673974282 N) (HW_subc H oz_V6cls_18 oz_V6cls_27) ((((show F12 10 0 = F 10 0 from (eF12 10 0)))).trans (pf11)) ((mF12 4 0 rfl).trans (pf5)) (n11) (en11) (n5) (en5) (u10_1) ((((show F12 10 1 = F 10 1 from (eF12 10 1))).trans (eu10_1))) (u4_1) (((mF12 4 1 rfl).trans (eu4_1))) (show 0 ≤ (u10_1) ∧ (u10_1) ≤ (n11) ∧ (n11) ≤ 65536 from h6) (show 0 ≤ (u4_1) ∧ (u4_1) ≤ (n5) ∧ (n5) ≤ 65536 from h3) (fun σ18 D18ₚ N18ₚ F18ₚ A18ₚ c18 s18 Hₚ Oₚ hD18 hN18 hS18 hA18 (pm18_2 : HID _) m18_2 (em18_2 : HID _) y18_0_1 (ey18_0_1 : HID _) pz18_0 pz18_1 => ⟨rfl, ?_⟩))
      refine v_backMc (c := c) (s := s) H oz_V6cls_18 oz_V6cls_27 Hₚ Oₚ hD18 oz_V6cls_19 (fun D18 N18 F18 A18 H Oₚ eD18 eN18 eF18 eA18 => ?_)
      have O := OUT_trans O Oₚ
      -- Row.become
      have cF18 : SF oz_V6clsl_3 F F18 := SF_trans (cF12) (SF_gluc (ι := oz_V6clsl_6) oz_V6cls_27 hS18 eF18 (by decide +kernel)) (any_sub (lₚ := [(10, 0), (10, 1), (10, 2), (10, 3), (10, 4)]) (by decide +kernel))
      have mF18 := SFm_of cF18 oz_V6cls_24
      have cA18 : SA oz_V6clsl_4 A A18 := SA_trans (cA12) (SA_gluc (ι := oz_V6clsl_6) oz_V6cls_27 hA18 eA18 (by decide +kernel)) (any_subA (lₚ := [11]) (by decide +kernel))
      have mA18 := SAm_of cA18 oz_V6cls_25
      have cD18 : SD oz_V6clsl_4 D D18 := SD_trans (SD_refl) (SD_gluc (ι := oz_V6clsl_6) oz_V6cls_27 hD18 eD18 (by decide +kernel)) (any_subA (lₚ := [11]) (by decide +kernel))
      have mD18 := SDm_of cD18 oz_V6cls_25
      have cN18 : SD oz_V6clsl_4 N N18 := SD_trans (SD_refl) (SD_gluc (ι := oz_V6clsl_6) oz_V6cls_27 hN18 eN18 (by decide +kernel)) (any_subA (lₚ := [11]) (by decide +kernel))
      have mN18 := SDm_of cN18 oz_V6cls_25
      have pf18_10_0 : HID (F18 10 0 = (D18 11 : Int)) := (eF18 10 0).trans (pm18_2.trans (congrArg (fun q : Nat => (q : Int)) (eD18 11).symm))
      refine Ew_of (pcₚ := 23) (fun _ => x_iconst rfl) ?_
      exact w_ireturn rfl (k (1) _ _ _ _ _ _ _ H O (cD18) (cN18) (cF18) (cA18) (pf18_10_0) (m18_2) ((congrArg (fun q : Nat => (q : Int)) (eN18 11)).trans em18_2) (y18_0_1) (((eF18 10 1).trans ey18_0_1)) (show (1) = 0 ∨ (1) = 1 by first | exact q_5 | omega) (show 0 ≤ (u2_1) ∧ (u2_1) ≤ (n3) ∧ (n3) ≤ 65536 from h2) (show 0 ≤ (u4_1) ∧ (u4_1) ≤ (n5) ∧ (n5) ≤ 65536 from h3) (show 0 ≤ (u6_1) ∧ (u6_1) ≤ (n7) ∧ (n7) ≤ 65536 from h4) (show 0 ≤ (u8_1) ∧ (u8_1) ≤ (n9) ∧ (n9) ≤ 65536 from h5) (show 0 ≤ (y18_0_1) ∧ (y18_0_1) ≤ (m18_2) ∧ (m18_2) ≤ 65536 from pz18_0) (show (1) = 1 ∧ 0 ≤ a1 ∧ a1 ≤ 3 ∨ (1) = 0 ∧ (a1 < 0 ∨ 3 < a1) by first | exact q_4448 b14 | omega))
    · refine v_lR H (o := 1) rfl rfl rfl rfl rfl (n := n1) (en1) (show 0 ≤ a1 ∧ a1 < n1 from q_4227 (HIDe r6) b14 h1) (z := ((D 6 : Nat) : Int)) (v := .ref (D 6)) ((congrArg (A12 1) b14).trans ((mA12 1 rfl 2).trans (pf6))) (vrf rfl) ?_
      refine v_inv H (o := 10) rfl rfl rfl rfl rfl rfl (by rfl) (C158_Row (D := puc 942410762 D) (N := puc 942410762 N) (HW_subc H oz_V6cls_20 oz_V6cls_28) ((((show F12 10 0 = F 10 0 from (eF12 10 0)))).trans (pf11)) ((mF12 6 0 rfl).trans (pf7)) (n11) (en11) (n7) (en7) (u10_1) ((((show F12 10 1 = F 10 1 from (eF12 10 1))).trans (eu10_1))) (u6_1) (((mF12 6 1 rfl).trans (eu6_1))) (show 0 ≤ (u10_1) ∧ (u10_1) ≤ (n11) ∧ (n11) ≤ 65536 from h6) (show 0 ≤ (u6_1) ∧ (u6_1) ≤ (n7) ∧ (n7) ≤ 65536 from h4) (fun σ21 D21ₚ N21ₚ F21ₚ A21ₚ c21 s21 Hₚ Oₚ hD21 hN21 hS21 hA21 (pm21_2 : HID _) m21_2 (em21_2 : HID _) y21_0_1 (ey21_0_1 : HID _) pz21_0 pz21_1 => ⟨rfl, ?_⟩))
      refine v_backMc (c := c) (s := s) H oz_V6cls_20 oz_V6cls_28 Hₚ Oₚ hD21 oz_V6cls_21 (fun D21 N21 F21 A21 H Oₚ eD21 eN21 eF21 eA21 => ?_)
      have O := OUT_trans O Oₚ
      -- Row.become
      have cF21 : SF oz_V6clsl_3 F F21 := SF_trans (cF12) (SF_gluc (ι := oz_V6clsl_7) oz_V6cls_28 hS21 eF21 (by decide +kernel)) (any_sub (lₚ := [(10, 0), (10, 1), (10, 2), (10, 3), (10, 4)]) (by decide +kernel))
      have mF21 := SFm_of cF21 oz_V6cls_24
      have cA21 : SA oz_V6clsl_4 A A21 := SA_trans (cA12) (SA_gluc (ι := oz_V6clsl_7) oz_V6cls_28 hA21 eA21 (by decide +kernel)) (any_subA (lₚ := [11]) (by decide +kernel))
      have mA21 := SAm_of cA21 oz_V6cls_25
      have cD21 : SD oz_V6clsl_4 D D21 := SD_trans (SD_refl) (SD_gluc (ι := oz_V6clsl_7) oz_V6cls_28 hD21 eD21 (by decide +kernel)) (any_subA (lₚ := [11]) (by decide +kernel))
      have mD21 := SDm_of cD21 oz_V6cls_25
      have cN21 : SD oz_V6clsl_4 N N21 := SD_trans (SD_refl) (SD_gluc (ι := oz_V6clsl_7) oz_V6cls_28 hN21 eN21 (by decide +kernel)) (any_subA (lₚ := [11]) (by decide +kernel))
      have mN21 := SDm_of cN21 oz_V6cls_25
      have pf21_10_0 : HID (F21 10 0 = (D21 11 : Int)) := (eF21 10 0).trans (pm21_2.trans (congrArg (fun q : Nat => (q : Int)) (eD21 11).symm))
      refine Ew_of (pcₚ := 23) (fun _ => x_iconst rfl) ?_
      exact w_ireturn rfl (k (1) _ _ _ _ _ _ _ H O (cD21) (cN21) (cF21) (cA21) (pf21_10_0) (m21_2) ((congrArg (fun q : Nat => (q : Int)) (eN21 11)).trans em21_2) (y21_0_1) (((eF21 10 1).trans ey21_0_1)) (show (1) = 0 ∨ (1) = 1 by first | exact q_5 | omega) (show 0 ≤ (u2_1) ∧ (u2_1) ≤ (n3) ∧ (n3) ≤ 65536 from h2) (show 0 ≤ (u4_1) ∧ (u4_1) ≤ (n5) ∧ (n5) ≤ 65536 from h3) (show 0 ≤ (u6_1) ∧ (u6_1) ≤ (n7) ∧ (n7) ≤ 65536 from h4) (show 0 ≤ (u8_1) ∧ (u8_1) ≤ (n9) ∧ (n9) ≤ 65536 from h5) (show 0 ≤ (y21_0_1) ∧ (y21_0_1) ≤ (m21_2) ∧ (m21_2) ≤ 65536 from pz21_0) (show (1) = 1 ∧ 0 ≤ a1 ∧ a1 ≤ 3 ∨ (1) = 0 ∧ (a1 < 0 ∨ 3 < a1) by first | exact q_4449 b14 | omega))
    · refine v_lR H (o := 1) rfl rfl rfl rfl rfl (n := n1) (en1) (show 0 ≤ a1 ∧ a1 < n1 from q_4228 b14 h1) (z := ((D 8 : Nat) : Int)) (v := .ref (D 8)) ((congrArg (A12 1) b14).trans ((mA12 1 rfl 3).trans (pf8))) (vrf rfl) ?_
      refine v_inv H (o := 10) rfl rfl rfl rfl rfl rfl (by rfl) (C158_Row (D := puc 1210847242 D) (N := puc 1210847242 N) (HW_subc H oz_V6cls_22 oz_V6cls_29) ((((show F12 10 0 = F 10 0 from (eF12 10 0)))).trans (pf11)) ((mF12 8 0 rfl).trans (pf9)) (n11) (en11) (n9) (en9) (u10_1) ((((show F12 10 1 = F 10 1 from (eF12 10 1))).trans (eu10_1))) (u8_1) (((mF12 8 1 rfl).trans (eu8_1))) (show 0 ≤ (u10_1) ∧ (u10_1) ≤ (n11) ∧ (n11) ≤ 65536 from h6) (show 0 ≤ (u8_1) ∧ (u8_1) ≤ (n9) ∧ (n9) ≤ 65536 from h5) (fun σ24 D24ₚ N24ₚ F24ₚ A24ₚ c24 s24 Hₚ Oₚ hD24 hN24 hS24 hA24 (pm24_2 : HID _) m24_2 (em24_2 : HID _) y24_0_1 (ey24_0_1 : HID _) pz24_0 pz24_1 => ⟨rfl, ?_⟩))
      refine v_backMc (c := c) (s := s) H oz_V6cls_22 oz_V6cls_29 Hₚ Oₚ hD24 oz_V6cls_23 (fun D24 N24 F24 A24 H Oₚ eD24 eN24 eF24 eA24 => ?_)
      have O := OUT_trans O Oₚ
      -- Row.become
      have cF24 : SF oz_V6clsl_3 F F24 := SF_trans (cF12) (SF_gluc (ι := oz_V6clsl_8) oz_V6cls_29 hS24 eF24 (by decide +kernel)) (any_sub (lₚ := [(10, 0), (10, 1), (10, 2), (10, 3), (10, 4)]) (by decide +kernel))
      have mF24 := SFm_of cF24 oz_V6cls_24
      have cA24 : SA oz_V6clsl_4 A A24 := SA_trans (cA12) (SA_gluc (ι := oz_V6clsl_8) oz_V6cls_29 hA24 eA24 (by decide +kernel)) (any_subA (lₚ := [11]) (by decide +kernel))
      have mA24 := SAm_of cA24 oz_V6cls_25
      have cD24 : SD oz_V6clsl_4 D D24 := SD_trans (SD_refl) (SD_gluc (ι := oz_V6clsl_8) oz_V6cls_29 hD24 eD24 (by decide +kernel)) (any_subA (lₚ := [11]) (by decide +kernel))
      have mD24 := SDm_of cD24 oz_V6cls_25
      have cN24 : SD oz_V6clsl_4 N N24 := SD_trans (SD_refl) (SD_gluc (ι := oz_V6clsl_8) oz_V6cls_29 hN24 eN24 (by decide +kernel)) (any_subA (lₚ := [11]) (by decide +kernel))
      have mN24 := SDm_of cN24 oz_V6cls_25
      have pf24_10_0 : HID (F24 10 0 = (D24 11 : Int)) := (eF24 10 0).trans (pm24_2.trans (congrArg (fun q : Nat => (q : Int)) (eD24 11).symm))
      refine Ew_of (pcₚ := 23) (fun _ => x_iconst rfl) ?_
      exact w_ireturn rfl (k (1) _ _ _ _ _ _ _ H O (cD24) (cN24) (cF24) (cA24) (pf24_10_0) (m24_2) ((congrArg (fun q : Nat => (q : Int)) (eN24 11)).trans em24_2) (y24_0_1) (((eF24 10 1).trans ey24_0_1)) (show (1) = 0 ∨ (1) = 1 by first | exact q_5 | omega) (show 0 ≤ (u2_1) ∧ (u2_1) ≤ (n3) ∧ (n3) ≤ 65536 from h2) (show 0 ≤ (u4_1) ∧ (u4_1) ≤ (n5) ∧ (n5) ≤ 65536 from h3) (show 0 ≤ (u6_1) ∧ (u6_1) ≤ (n7) ∧ (n7) ≤ 65536 from h4) (show 0 ≤ (u8_1) ∧ (u8_1) ≤ (n9) ∧ (n9) ≤ 65536 from h5) (show 0 ≤ (y24_0_1) ∧ (y24_0_1) ≤ (m24_2) ∧ (m24_2) ≤ 65536 from pz24_0) (show (1) = 1 ∧ 0 ≤ a1 ∧ a1 ≤ 3 ∨ (1) = 0 ∧ (a1 < 0 ∨ 3 < a1) by first | exact q_4450 b14 | omega))
  · refine Ew_of (pcₚ := 8) (fun _ => x_iconst rfl) ?_
    exact w_ireturn rfl (k (0) _ _ _ _ _ _ _ H O (SD_refl) (SD_refl) (cF12) (cA12) ((((show F12 10 0 = F 10 0 from (eF12 10 0)))).trans (pf11)) (n11) (en11) (u10_1) ((((show F12 10 1 = F 10 1 from (eF12 10 1))).trans (eu10_1))) (show (0) = 0 ∨ (0) = 1 by first | exact q_1 | omega) (show 0 ≤ (u2_1) ∧ (u2_1) ≤ (n3) ∧ (n3) ≤ 65536 from h2) (show 0 ≤ (u4_1) ∧ (u4_1) ≤ (n5) ∧ (n5) ≤ 65536 from h3) (show 0 ≤ (u6_1) ∧ (u6_1) ≤ (n7) ∧ (n7) ≤ 65536 from h4) (show 0 ≤ (u8_1) ∧ (u8_1) ≤ (n9) ∧ (n9) ≤ 65536 from h5) (show 0 ≤ (u10_1) ∧ (u10_1) ≤ (n11) ∧ (n11) ≤ 65536 from h6) (show (0) = 1 ∧ 0 ≤ a1 ∧ a1 ≤ 3 ∨ (0) = 0 ∧ (a1 < 0 ∨ 3 < a1) by omega))
theorem len_V16_oz_V6cls : (V16).length = 7 := by decide +kernel
theorem oz_V6cls_31 : vsub V16 V114 [1, 2, 3, 4, 6] = true := by decide +kernel
theorem oz_V6cls_32 : vsub V16 V156 [5] = true := by decide +kernel
def oz_V6clsl_9 : List (Nat × Nat) := [(1, 2), (2, 0), (5, 1), (5, 2), (5, 3), (5, 4), (6, 1), (6, 2), (6, 3), (6, 4)]
theorem oz_V6cls_33 : (oz_V6clsl_9).all (fun p => !tbz 188313052105445472035000770242340537464577600667689901096960 (Nat.add (Nat.mul 32 p.1) p.2)) = true := by decide +kernel
def oz_V6clsl_10 : List Nat := [3, 4]
theorem oz_V6cls_34 : (oz_V6clsl_10).all (fun p => !tbz 24 p) = true := by decide +kernel
def oz_V6clsl_11 : List Nat := [1, 2, 3, 4, 6]
theorem oz_V6cls_35 : okc oz_V6clsl_11 412854518785 = true := by decide +kernel
def oz_V6clsl_12 : List Nat := [5]
theorem oz_V6cls_36 : okc oz_V6clsl_12 5 = true := by decide +kernel
/-- PackHouse.forget: this, this.dictionary, this.dictionary.stand, this.dictionary.stand.tables, this.dictionary.stand.latest, this.past, this.dictionary.content -/
theorem C16x {σE : rS} {D N : Nat → Nat} {F : hF} {A : hA} {d c s : Nat} {Q : wQ} (H : HW V16 σE D N F A) {a1 : Int} (pf1 : HID (F 0 3 = (D 1 : Int))) (pf2 : HID (F 1 1 = (D 2 : Int))) (pf3 : HID (F 2 1 = (D 3 : Int))) (pf4 : HID (F 2 2 = (D 4 : Int))) (pf5 : HID (F 0 2 = (D 5 : Int))) (pf6 : HID (F 1 0 = (D 6 : Int))) (n3 : Int) (en3 : HID ((N 3 : Int) = n3)) (n4 : Int) (en4 : HID ((N 4 : Int) = n4)) (u2_0 : Int) (eu2_0 : HID (F 2 0 = u2_0)) (u5_1 : Int) (eu5_1 : HID (F 5 1 = u5_1)) (u6_1 : Int) (eu6_1 : HID (F 6 1 = u6_1)) (w3 : Int → Int) (ew3 : A 3 = w3) (h0 : inr (a1)) (h1 : (n3) = 3 ∧ (n4) = 3) (h2 : 0 ≤ (u5_1)) (h3 : 0 ≤ (u6_1)) (k : ∀ (z : Int) (σ : rS) (Fₚ : hF) (Aₚ : hA), HW V16 σ D N Fₚ Aₚ → OUT (V16).length D N σE c s D N σ c s → SF [(1, 2), (2, 0), (5, 1), (5, 2), (5, 3), (5, 4), (6, 1), (6, 2), (6, 3), (6, 4)] F Fₚ → SA [3, 4] A Aₚ → ∀ y2_0 : Int, Fₚ 2 0 = y2_0 → ∀ y5_1 : Int, Fₚ 5 1 = y5_1 → ∀ y6_1 : Int, Fₚ 6 1 = y6_1 → ∀ v3 : Int → Int, Aₚ 3 = v3 → ((z) = 0 ∨ (z) = 1) → ((y5_1) = (u5_1) ∨ (y5_1) = 0) → ((y6_1) = (u6_1) ∨ (y6_1) = 0) → ((y2_0) = (u2_0) ∧ ((v3)) 0 = ((w3)) 0 ∧ ((v3)) 1 = ((w3)) 1 ∧ ((v3)) 2 = ((w3)) 2 ∨ (y2_0) = -1 ∧ ((v3)) 0 = -1 ∧ ((v3)) 1 = -1 ∧ ((v3)) 2 = -1) → ((z) = 1 ∧ ((a1) = 0 ∨ (a1) = 1) ∨ (z) = 0 ∧ (a1) ≠ 0 ∧ (a1) ≠ 1) → Q (some (I z)) σ c s) : Ew 16 (d + 2) 0 (rargs 0 [.ref (D 0), I a1]) [] σE c s Q := by
  have O := OUT_refl (n := (V16).length) (D := D) (N := N) (σ := σE) (c := c) (s := s)
  have HE := H
  refine Ew_of (pcₚ := 1) (fun _ => x_iload_n rfl rfl) ?_
  refine w_ifne (t := 14) rfl rfl (show inr (a1) from h0) (fun b5 => ?_) (fun b5 => ?_)
  · refine Ew_of (pcₚ := 15) (fun _ => x_iload_n rfl rfl) ?_
    refine Ew_of (pcₚ := 16) (fun _ => x_iconst rfl) ?_
    refine w_icmpne (t := 29) rfl rfl (show inr (a1) from h0) (show inr (1) from q_23) (fun b6 => ?_) (fun b6 => ?_)
    · refine Ew_of (pcₚ := 30) (fun _ => x_iconst rfl) ?_
      exact w_ireturn rfl (k (0) _ _ _ H O (SF_refl) (SA_refl) (u2_0) ((eu2_0)) (u5_1) ((eu5_1)) (u6_1) ((eu6_1)) (w3) (ew3) (show (0) = 0 ∨ (0) = 1 by first | exact q_1 | omega) (show (u5_1) = (u5_1) ∨ (u5_1) = 0 from q_4262) (show (u6_1) = (u6_1) ∨ (u6_1) = 0 from q_4262) (show (u2_0) = (u2_0) ∧ ((w3)) 0 = ((w3)) 0 ∧ ((w3)) 1 = ((w3)) 1 ∧ ((w3)) 2 = ((w3)) 2 ∨ (u2_0) = -1 ∧ ((w3)) 0 = -1 ∧ ((w3)) 1 = -1 ∧ ((w3)) 2 = -1 from q_4261) (show (0) = 1 ∧ (a1 = 0 ∨ a1 = 1) ∨ (0) = 0 ∧ a1 ≠ 0 ∧ a1 ≠ 1 by first | exact q_4451 b5 b6 | omega))
    · refine Ew_of (pcₚ := 20) (fun _ => x_aload_n rfl rfl) ?_
      refine v_g H (o := 0) (v := .ref (D 1)) rfl rfl rfl rfl rfl (vrf (pf1)) ?_
      refine v_inv H (o := 1) rfl rfl rfl rfl rfl rfl (by rfl) (C114 (D := puc 412854518785 D) (N := puc 412854518785 N) (HW_subc H oz_V6cls_31 oz_V6cls_35) (pf2) (pf3) (pf4) (pf6) (n3) (en3) (n4) (en4) (F 1 2) (rfl) (u2_0) ((eu2_0)) (u6_1) ((eu6_1)) (w3) (ew3) (show (n3) = 3 ∧ (n4) = 3 from h1) (fun σ8 F8ₚ A8ₚ Hₚ Oₚ hS8 hA8 y8_0_2 (ey8_0_2 : HID _) y8_1_0 (ey8_1_0 : HID _) y8_4_1 (ey8_4_1 : HID _) w8_2 ew8_2 pz8_0 pz8_1 pz8_2 pz8_3 => ⟨rfl, ?_⟩))
      refine v_backc (c := c) (s := s) H oz_V6cls_31 oz_V6cls_35 Hₚ Oₚ (fun F8 A8 H Oₚ eF8 eA8 => ?_)
      have O := OUT_trans O Oₚ
      -- Dictionary.clear
      have cF8 : SF oz_V6clsl_9 F F8 := SF_trans (SF_refl) (SF_gluc (ι := oz_V6clsl_11) oz_V6cls_35 hS8 eF8 (by decide +kernel)) (any_sub (lₚ := [(1, 2), (2, 0), (6, 1), (6, 2), (6, 3), (6, 4)]) (by decide +kernel))
      have mF8 := SFm_of cF8 oz_V6cls_33
      have cA8 : SA oz_V6clsl_10 A A8 := SA_trans (SA_refl) (SA_gluc (ι := oz_V6clsl_11) oz_V6cls_35 hA8 eA8 (by decide +kernel)) (any_subA (lₚ := [3, 4]) (by decide +kernel))
      have mA8 := SAm_of cA8 oz_V6cls_34
      refine Ew_of (pcₚ := 31) (fun _ => x_goto rfl rfl) ?_
      refine Ew_of (pcₚ := 32) (fun _ => x_iconst rfl) ?_
      exact w_ireturn rfl (k (1) _ _ _ H O (cF8) (cA8) (y8_1_0) (((eF8 2 0).trans ey8_1_0)) (u5_1) ((((show F8 5 1 = F 5 1 from (eF8 5 1))).trans (eu5_1))) (y8_4_1) (((eF8 6 1).trans ey8_4_1)) (w8_2) ((eA8 3).trans ew8_2) (show (1) = 0 ∨ (1) = 1 by first | exact q_5 | omega) (show (u5_1) = (u5_1) ∨ (u5_1) = 0 from q_4262) (show (y8_4_1) = (u6_1) ∨ (y8_4_1) = 0 from q_4264 pz8_3) (show (y8_1_0) = (u2_0) ∧ ((w8_2)) 0 = ((w3)) 0 ∧ ((w8_2)) 1 = ((w3)) 1 ∧ ((w8_2)) 2 = ((w3)) 2 ∨ (y8_1_0) = -1 ∧ ((w8_2)) 0 = -1 ∧ ((w8_2)) 1 = -1 ∧ ((w8_2)) 2 = -1 from q_4263 pz8_0 pz8_1) (show (1) = 1 ∧ (a1 = 0 ∨ a1 = 1) ∨ (1) = 0 ∧ a1 ≠ 0 ∧ a1 ≠ 1 by first | exact q_4452 b6 | omega))
  · refine Ew_of (pcₚ := 5) (fun _ => x_aload_n rfl rfl) ?_
    refine v_g H (o := 0) (v := .ref (D 5)) rfl rfl rfl rfl rfl (vrf (pf5)) ?_
    refine v_inv H (o := 5) rfl rfl rfl rfl rfl rfl (by rfl) (C156h (D := puc 5 D) (N := puc 5 N) (HW_subc H oz_V6cls_32 oz_V6cls_36) (u5_1) ((eu5_1)) (F 5 2) (rfl) (F 5 4) (rfl)  (fun σ13 F13ₚ A13ₚ Hₚ Oₚ hS13 hA13 y13_0_1 (ey13_0_1 : HID _) y13_0_2 (ey13_0_2 : HID _) y13_0_4 (ey13_0_4 : HID _) pz13_0 => ⟨rfl, ?_⟩))
    refine v_backc (c := c) (s := s) H oz_V6cls_32 oz_V6cls_36 Hₚ Oₚ (fun F13 A13 H Oₚ eF13 eA13 => ?_)
    have O := OUT_trans O Oₚ
    -- Row.clear
    have cF13 : SF oz_V6clsl_9 F F13 := SF_trans (SF_refl) (SF_gluc (ι := oz_V6clsl_12) oz_V6cls_36 hS13 eF13 (by decide +kernel)) (any_sub (lₚ := [(5, 1), (5, 2), (5, 3), (5, 4)]) (by decide +kernel))
    have mF13 := SFm_of cF13 oz_V6cls_33
    have cA13 : SA oz_V6clsl_10 A A13 := SA_trans (SA_refl) (SA_gluc (ι := oz_V6clsl_12) oz_V6cls_36 hA13 eA13 (by decide +kernel)) (any_subA (lₚ := []) (by decide +kernel))
    have mA13 := SAm_of cA13 oz_V6cls_34
    refine Ew_of (pcₚ := 31) (fun _ => x_goto rfl rfl) ?_
    refine Ew_of (pcₚ := 32) (fun _ => x_iconst rfl) ?_
    exact w_ireturn rfl (k (1) _ _ _ H O (cF13) (cA13) (u2_0) ((((show F13 2 0 = F 2 0 from (eF13 2 0))).trans (eu2_0))) (y13_0_1) (((eF13 5 1).trans ey13_0_1)) (u6_1) ((((show F13 6 1 = F 6 1 from (eF13 6 1))).trans (eu6_1))) (w3) (((show A13 3 = A 3 from (eA13 3))).trans (ew3)) (show (1) = 0 ∨ (1) = 1 by first | exact q_5 | omega) (show (y13_0_1) = (u5_1) ∨ (y13_0_1) = 0 from q_4265 pz13_0) (show (u6_1) = (u6_1) ∨ (u6_1) = 0 from q_4262) (show (u2_0) = (u2_0) ∧ ((w3)) 0 = ((w3)) 0 ∧ ((w3)) 1 = ((w3)) 1 ∧ ((w3)) 2 = ((w3)) 2 ∨ (u2_0) = -1 ∧ ((w3)) 0 = -1 ∧ ((w3)) 1 = -1 ∧ ((w3)) 2 = -1 from q_4261) (show (1) = 1 ∧ (a1 = 0 ∨ a1 = 1) ∨ (1) = 0 ∧ a1 ≠ 0 ∧ a1 ≠ 1 by first | exact q_4453 b5 | omega))
theorem len_V132_Ir_oz_V6cls : (V132_Ir).length = 1 := by decide +kernel
/-- Packer.windowFor: #1 -/
theorem C132_Irx {σE : rS} {D N : Nat → Nat} {F : hF} {A : hA} {d c s : Nat} {Q : wQ} (H : HW V132_Ir σE D N F A) {a2 : Int} (n0 : Int) (en0 : HID ((N 0 : Int) = n0)) (w0 : Int → Int) (ew0 : A 0 = w0) (h0 : inr (a2)) (h1 : (n0) = 10) (h2 : 0 ≤ ((w0)) 8 ∧ ((w0)) 8 ≤ 11) (h3 : 0 ≤ (a2) ∧ (a2) ≤ 16384) (k : ∀ (z : Int) (σ : rS) (Fₚ : hF) (Aₚ : hA), HW V132_Ir σ D N Fₚ Aₚ → OUT (V132_Ir).length D N σE c s D N σ c s → SF [] F Fₚ → SA [] A Aₚ → (inr (z)) → (0 ≤ (z) ∧ (z) ≤ 2097152) → ((z) = WND ((w0)) ((a2))) → ((a2) = 0 ∨ 1 ≤ (z)) → Q (some (I z)) σ c s) : Ew 132 (d + 0) 0 (rargs 0 [.ref (D 0), I a2]) [] σE c s Q := by
  have O := OUT_refl (n := (V132_Ir).length) (D := D) (N := N) (σ := σE) (c := c) (s := s)
  have HE := H
  have r1 : HID ((0 : Int) ≤ n0 ∧ n0 ≤ 1000000) := nrng (H.nle 0 (ltn len_V132_Ir_oz_V6cls rfl)) (show (N 0 : Int) = n0 from en0)
  refine Ew_of (pcₚ := 1) (fun _ => x_aload_n rfl rfl) ?_
  refine Ew_of (pcₚ := 3) (fun _ => x_bipush (z := 7) rfl (by decide)) ?_
  refine v_lI H (o := 0) rfl rfl rfl rfl (n := n0) (en0) (show 0 ≤ 7 ∧ 7 < n0 from q_4454 (HIDe r1) h1) (fun v2 ev2 (qv2 : HID _) => ?_)
  have ev2 : (w0) (7) = v2 := (congrFun (ew0) (7)).symm.trans ev2
  refine Ew_of (pcₚ := 5) (fun _ => x_iconst rfl) ?_
  have hw7 := ev2
  refine w_iandE rfl (show inr (v2) from (HIDe qv2)) (show inr (4) from q_2) (fun z3 gz3 gaz3 gbz3 gez3 => ?_)
  refine w_ifeq (t := 13) rfl rfl (show inr (z3) from gz3) (fun b4 => ?_) (fun b4 => ?_)
  · refine Ew_of (pcₚ := 14) (fun _ => x_iconst rfl) ?_
    refine Ew_of (pcₚ := 16) (fun _ => x_bipush (z := 10) rfl (by decide)) ?_
    refine Ew_of (pcₚ := 17) (fun _ => x_aload_n rfl rfl) ?_
    refine Ew_of (pcₚ := 19) (fun _ => x_bipush (z := 8) rfl (by decide)) ?_
    refine v_lI H (o := 0) rfl rfl rfl rfl (n := n0) (en0) (show 0 ≤ 8 ∧ 8 < n0 from q_4455 (HIDe r1) h1) (fun v5 ev5 (qv5 : HID _) => ?_)
    have ev5 : (w0) (8) = v5 := (congrFun (ew0) (8)).symm.trans ev5
    have hw8 := ev5
    refine w_iadd rfl ?_
    have hpw : p2 (((10 + v5))) ≤ p2 21 := p2_mono (by (have qg0 := HIDe qv5; omega))
    have hp21 : p2 21 = 2097152 := by decide
    have hpp := p2_pos (((10 + v5)))
    refine w_ishl1 rfl (show 0 ≤ (10 + v5) ∧ (10 + v5) ≤ 31 from q_3857 ev5 h2) ?_
    have hWN : ((p2 ((10 + v5))) : Int) = WND ((w0)) ((a2)) := by unfold WND; rw [hw7]; first | (rw [if_pos (by (have qg0 := HIDe qv5; omega)), hw8]) | (rw [if_neg (by (have qg0 := HIDe qv5; omega))])
    exact w_ireturn rfl (k (p2 ((10 + v5))) _ _ _ H O (SF_refl) (SA_refl) (show inr (p2 ((10 + v5))) by have qh0 := HIDe qv5; omega) (show 0 ≤ (p2 ((10 + v5))) ∧ (p2 ((10 + v5))) ≤ 2097152 by have qh0 := HIDe qv5; omega) (show (p2 ((10 + v5))) = WND ((w0)) (a2) by have qh0 := HIDe qv5; omega) (show a2 = 0 ∨ 1 ≤ (p2 ((10 + v5))) by have qh0 := HIDe qv5; omega))
  · refine Ew_of (pcₚ := 10) (fun _ => x_iload_n rfl rfl) ?_
    refine Ew_of (pcₚ := 22) (fun _ => x_goto rfl rfl) ?_
    have hWN : ((a2) : Int) = WND ((w0)) ((a2)) := by unfold WND; rw [hw7]; first | (rw [if_pos (by omega), hw8]) | (rw [if_neg (by omega)])
    exact w_ireturn rfl (k (a2) _ _ _ H O (SF_refl) (SA_refl) (show inr (a2) from h0) (show 0 ≤ (a2) ∧ (a2) ≤ 2097152 from q_3858 h3) (show (a2) = WND ((w0)) (a2) from hWN) (show a2 = 0 ∨ 1 ≤ (a2) by omega))
theorem len_V133_Ir_oz_V6cls : (V133_Ir).length = 1 := by decide +kernel
theorem oz_V6cls_39 : vsub V133_Ir V132_Ir [0] = true := by decide +kernel
def oz_V6clsl_13 : List Nat := [0]
theorem oz_V6cls_40 : okc oz_V6clsl_13 0 = true := by decide +kernel
/-- Packer.rowLength: #1 -/
theorem C133_Irx {σE : rS} {D N : Nat → Nat} {F : hF} {A : hA} {d c s : Nat} {Q : wQ} (H : HW V133_Ir σE D N F A) {a2 : Int} (n0 : Int) (en0 : HID ((N 0 : Int) = n0)) (w0 : Int → Int) (ew0 : A 0 = w0) (h0 : inr (a2)) (h1 : (n0) = 10) (h2 : 0 ≤ ((w0)) 8 ∧ ((w0)) 8 ≤ 11) (h3 : 1 ≤ ((w0)) 2 ∧ ((w0)) 2 ≤ 65536) (h4 : 0 ≤ (a2) ∧ (a2) ≤ 16384) (k : ∀ (z : Int) (σ : rS) (Fₚ : hF) (Aₚ : hA), HW V133_Ir σ D N Fₚ Aₚ → OUT (V133_Ir).length D N σE c s D N σ c s → SF [] F Fₚ → SA [] A Aₚ → (inr (z)) → (1 ≤ (z) ∧ (z) ≤ 65536) → ((a2) = 0 ∨ (z) = SMN (WND ((w0)) ((a2))) (((w0)) 2)) → Q (some (I z)) σ c s) : Ew 133 (d + 1) 0 (rargs 0 [.ref (D 0), I a2]) [] σE c s Q := by
  have O := OUT_refl (n := (V133_Ir).length) (D := D) (N := N) (σ := σE) (c := c) (s := s)
  have HE := H
  have r1 : HID ((0 : Int) ≤ n0 ∧ n0 ≤ 1000000) := nrng (H.nle 0 (ltn len_V133_Ir_oz_V6cls rfl)) (show (N 0 : Int) = n0 from en0)
  refine Ew_of (pcₚ := 2) (fun _ => x_ldc (z := 131072) rfl (by decide)) ?_
  refine Ew_of (pcₚ := 3) (fun _ => x_aload_n rfl rfl) ?_
  refine Ew_of (pcₚ := 4) (fun _ => x_iload_n rfl rfl) ?_
  refine w_stat24 rfl rfl (by rfl) (C132_Irx (D := puc 0 D) (N := puc 0 N) (HW_subc H oz_V6cls_39 oz_V6cls_40) (n0) (en0) (w0) (ew0) (show inr (a2) from h0) (show (n0) = 10 from h1) (show 0 ≤ ((w0)) 8 ∧ ((w0)) 8 ≤ 11 from h2) (show 0 ≤ (a2) ∧ (a2) ≤ 16384 from h4) (fun z2 σ2 F2ₚ A2ₚ Hₚ Oₚ hS2 hA2 pz2_0 pz2_1 pz2_2 pz2_3 => ⟨rfl, ?_⟩))
  refine v_backc (c := c) (s := s) H oz_V6cls_39 oz_V6cls_40 Hₚ Oₚ (fun F2 A2 H Oₚ eF2 eA2 => ?_)
  have O := OUT_trans O Oₚ
  -- Packer.windowFor
  have cF2 : SF oz_V6clsl_0 F F2 := SF_trans (SF_refl) (SF_gluc (ι := oz_V6clsl_13) oz_V6cls_40 hS2 eF2 (by decide +kernel)) (any_sub (lₚ := []) (by decide +kernel))
  have mF2 := SFm_of cF2 oz_V6cls_5
  have cA2 : SA oz_V6clsl_1 A A2 := SA_trans (SA_refl) (SA_gluc (ι := oz_V6clsl_13) oz_V6cls_40 hA2 eA2 (by decide +kernel)) (any_subA (lₚ := []) (by decide +kernel))
  have mA2 := SAm_of cA2 oz_V6cls_6
  refine v_min rfl rfl (show inr (131072) from q_1604) (show inr (z2) from pz2_0) (fun z3 gz3 => ?_)
  refine Ew_of (pcₚ := 11) (fun _ => x_istore_n rfl) ?_
  refine Ew_of (pcₚ := 12) (fun _ => x_iconst rfl) ?_
  refine Ew_of (pcₚ := 13) (fun _ => x_aload_n rfl (rk_o (rfl) rfl rfl)) ?_
  refine Ew_of (pcₚ := 14) (fun _ => x_iconst rfl) ?_
  refine v_lI H (o := 0) rfl rfl rfl rfl (n := n0) (en0) (show 0 ≤ 2 ∧ 2 < n0 from q_4250 (HIDe r1) h1) (fun v4 ev4 (qv4 : HID _) => ?_)
  have ev4 : (w0) (2) = v4 := (congrFun ((funext (mA2 0 rfl)).trans (ew0)) (2)).symm.trans ev4
  refine Ew_of (pcₚ := 16) (fun _ => x_iload_n rfl rk_s) ?_
  refine v_min rfl rfl (show inr (v4) from (HIDe qv4)) (show inr (z3) from q_3859 gz3 pz2_1) (fun z5 gz5 => ?_)
  refine v_max rfl rfl (show inr (1) from q_23) (show inr (z5) from q_4456 (HIDe qv4) gz3 gz5 pz2_1) (fun z6 gz6 => ?_)
  have hSM : (a2) = 0 ∨ ((z6) : Int) = SMN (WND ((w0)) ((a2))) (((w0)) 2) := by unfold SMN; by_cases q : WND ((w0)) ((a2)) < ((w0)) 2; (rw [if_pos q]; omega); (rw [if_neg q]; omega)
  exact w_ireturn rfl (k (z6) _ _ _ H O (cF2) (cA2) (show inr (z6) from q_4458 (HIDe qv4) gz5 gz6 hSM) (show 1 ≤ (z6) ∧ (z6) ≤ 65536 from q_4457 ev4 gz5 gz6 h3 hSM) (show a2 = 0 ∨ (z6) = SMN (WND ((w0)) (a2)) (((w0)) 2) from hSM))
theorem len_V34_oz_V6cls : (V34).length = 2 := by decide +kernel
theorem oz_V6cls_42 : vsub V34 V133_Ir [1] = true := by decide +kernel
theorem oz_V6cls_43 : okc oz_V6clsl_2 1 = true := by decide +kernel
/-- PackHouse.boundOf: this, this.settings -/
theorem C34x {σE : rS} {D N : Nat → Nat} {F : hF} {A : hA} {d c s : Nat} {Q : wQ} (H : HW V34 σE D N F A) {a1 a2 : Int} (pf1 : HID (F 0 1 = (D 1 : Int))) (n1 : Int) (en1 : HID ((N 1 : Int) = n1)) (w1 : Int → Int) (ew1 : A 1 = w1) (h0 : inr (a1)) (h1 : inr (a2)) (h2 : 0 ≤ (a2) ∧ (a2) ≤ 16384) (h3 : 0 ≤ (a1) ∧ (a1) ≤ 5) (h4 : 1 ≤ ((w1)) 2 ∧ ((w1)) 2 ≤ 65536) (h5 : 0 ≤ ((w1)) 8 ∧ ((w1)) 8 ≤ 11) (h6 : 0 ≤ ((w1)) 6 ∧ ((w1)) 6 ≤ 255) (h7 : (n1) = 10) (k : ∀ (z : Int) (σ : rS) (Fₚ : hF) (Aₚ : hA), HW V34 σ D N Fₚ Aₚ → OUT (V34).length D N σE c s D N σ c s → SF [] F Fₚ → SA [] A Aₚ → (inr (z)) → ((z) = BND ((w1)) ((a1)) ((a2))) → Q (some (I z)) σ c s) : Ew 34 (d + 2) 0 (rargs 0 [.ref (D 0), I a1, I a2]) [] σE c s Q := by
  have O := OUT_refl (n := (V34).length) (D := D) (N := N) (σ := σE) (c := c) (s := s)
  have HE := H
  have r1 : HID ((0 : Int) ≤ n1 ∧ n1 ≤ 1000000) := nrng (H.nle 1 (ltn len_V34_oz_V6cls rfl)) (show (N 1 : Int) = n1 from en1)
  refine Ew_of (pcₚ := 1) (fun _ => x_iload_n rfl rfl) ?_
  refine Ew_of (pcₚ := 2) (fun _ => x_aload_n rfl rfl) ?_
  refine v_g H (o := 0) (v := .ref (D 1)) rfl rfl rfl rfl rfl (vrf (pf1)) ?_
  refine Ew_of (pcₚ := 6) (fun _ => x_iconst rfl) ?_
  refine v_lI H (o := 1) rfl rfl rfl rfl (n := n1) (en1) (show 0 ≤ 2 ∧ 2 < n1 from q_4250 (HIDe r1) h7) (fun v2 ev2 (qv2 : HID _) => ?_)
  have ev2 : (w1) (2) = v2 := (congrFun (ew1) (2)).symm.trans ev2
  refine w_iadd rfl ?_
  refine Ew_of (pcₚ := 9) (fun _ => x_iconst rfl) ?_
  refine w_isub rfl ?_
  refine Ew_of (pcₚ := 11) (fun _ => x_aload_n rfl rfl) ?_
  refine v_g H (o := 0) (v := .ref (D 1)) rfl rfl rfl rfl rfl (vrf (pf1)) ?_
  refine Ew_of (pcₚ := 15) (fun _ => x_iconst rfl) ?_
  refine v_lI H (o := 1) rfl rfl rfl rfl (n := n1) (en1) (show 0 ≤ 2 ∧ 2 < n1 from q_4250 (HIDe r1) h7) (fun v3 ev3 (qv3 : HID _) => ?_)
  have ev3 : (w1) (2) = v3 := (congrFun (ew1) (2)).symm.trans ev3
  refine w_idiv rfl (show inr (((a2 + v2) - 1)) ∧ 0 ≤ ((a2 + v2) - 1) from q_4252 ev2 h2 h4) (show inr (v3) ∧ 0 < v3 from q_4251 (HIDe qv3) ev3 h4) ?_
  have hRW : (((((a2 + v2) - 1) / v3)) : Int) = RW (((w1)) 2) ((a2)) := by unfold RW; congr 1 <;> (have qg0 := HIDe qv2; have qg1 := HIDe qv3; omega)
  have hrl := RW_le (c := ((w1)) 2) (n := (a2)) (by omega) (by omega)
  refine Ew_of (pcₚ := 18) (fun _ => x_istore_n rfl) ?_
  refine Ew_of (pcₚ := 19) (fun _ => x_iload_n rfl (rk_o (rfl) rfl rfl)) ?_
  by_cases b4 : a1 = 0
  · refine w_tsk 0 52 rfl (show inr (a1) from h0) (by omega) (by decide) rfl rfl ?_
    refine Ew_of (pcₚ := 53) (fun _ => x_iload_n rfl (rk_o (rfl) rfl rfl)) ?_
    refine Ew_of (pcₚ := 54) (fun _ => x_iload_n rfl (rk_o (rfl) rfl rfl)) ?_
    refine Ew_of (pcₚ := 57) (fun _ => x_sipush (z := 255) rfl (by decide)) ?_
    refine w_idiv rfl (show inr (a2) ∧ 0 ≤ a2 from q_4253 h1 h2) (show inr (255) ∧ 0 < 255 from q_2054) ?_
    refine w_iadd rfl ?_
    refine Ew_of (pcₚ := 61) (fun _ => x_bipush (z := 16) rfl (by decide)) ?_
    refine w_iadd rfl ?_
    have hBN : ((((a2 + (a2 / 255)) + 16)) : Int) = BND ((w1)) ((a1)) ((a2)) := BND_0 (by omega)
    exact w_ireturn rfl (k (((a2 + (a2 / 255)) + 16)) _ _ _ H O (SF_refl) (SA_refl) (show inr (((a2 + (a2 / 255)) + 16)) from q_4254 h2) (show (((a2 + (a2 / 255)) + 16)) = BND ((w1)) (a1) (a2) from hBN))
  ·
    by_cases b5 : a1 = 1
    · refine w_tsk 1 63 rfl (show inr (a1) from h0) (by omega) (by decide) rfl rfl ?_
      refine Ew_of (pcₚ := 65) (fun _ => x_bipush (z := 27) rfl (by decide)) ?_
      refine Ew_of (pcₚ := 67) (fun _ => x_bipush (z := 8) rfl (by decide)) ?_
      refine Ew_of (pcₚ := 68) (fun _ => x_iload_n rfl rk_s) ?_
      refine w_imul rfl ?_
      refine w_iadd rfl ?_
      refine Ew_of (pcₚ := 71) (fun _ => x_iload_n rfl (rk_o (rfl) rfl rfl)) ?_
      refine w_iadd rfl ?_
      have hBN : ((((27 + (8 * (((a2 + v2) - 1) / v3))) + a2)) : Int) = BND ((w1)) ((a1)) ((a2)) := BND_1 (by (have qg0 := HIDe qv2; have qg1 := HIDe qv3; omega)) (by assumption)
      exact w_ireturn rfl (k (((27 + (8 * (((a2 + v2) - 1) / v3))) + a2)) _ _ _ H O (SF_refl) (SA_refl) (show inr (((27 + (8 * (((a2 + v2) - 1) / v3))) + a2)) by have qh0 := HIDe qv2; have qh1 := HIDe qv3; omega) (show (((27 + (8 * (((a2 + v2) - 1) / v3))) + a2)) = BND ((w1)) (a1) (a2) from hBN))
    ·
      by_cases b6 : a1 = 2
      · refine w_tsk 2 73 rfl (show inr (a1) from h0) (by omega) (by decide) rfl rfl ?_
        refine Ew_of (pcₚ := 75) (fun _ => x_bipush (z := 32) rfl (by decide)) ?_
        refine Ew_of (pcₚ := 76) (fun _ => x_iload_n rfl (rk_o (rfl) rfl rfl)) ?_
        refine w_iadd rfl ?_
        refine Ew_of (pcₚ := 78) (fun _ => x_iload_n rfl (rk_o (rfl) rfl rfl)) ?_
        refine Ew_of (pcₚ := 80) (fun _ => x_bipush (z := 6) rfl (by decide)) ?_
        refine w_idiv rfl (show inr (a2) ∧ 0 ≤ a2 from q_4253 h1 h2) (show inr (6) ∧ 0 < 6 from q_2058) ?_
        refine w_iadd rfl ?_
        have hBN : ((((32 + a2) + (a2 / 6))) : Int) = BND ((w1)) ((a1)) ((a2)) := BND_2 (by omega)
        exact w_ireturn rfl (k (((32 + a2) + (a2 / 6))) _ _ _ H O (SF_refl) (SA_refl) (show inr (((32 + a2) + (a2 / 6))) from q_4255 h2) (show (((32 + a2) + (a2 / 6))) = BND ((w1)) (a1) (a2) from hBN))
      ·
        by_cases b7 : a1 = 3
        · refine w_tsk 3 83 rfl (show inr (a1) from h0) (by omega) (by decide) rfl rfl ?_
          refine Ew_of (pcₚ := 85) (fun _ => x_bipush (z := 10) rfl (by decide)) ?_
          refine Ew_of (pcₚ := 86) (fun _ => x_iload_n rfl (rk_o (rfl) rfl rfl)) ?_
          refine w_iadd rfl ?_
          refine Ew_of (pcₚ := 89) (fun _ => x_bipush (z := 8) rfl (by decide)) ?_
          refine Ew_of (pcₚ := 90) (fun _ => x_iload_n rfl rk_s) ?_
          refine w_imul rfl ?_
          refine w_iadd rfl ?_
          refine Ew_of (pcₚ := 93) (fun _ => x_aload_n rfl (rk_o (rfl) rfl rfl)) ?_
          refine v_g H (o := 0) (v := .ref (D 1)) rfl rfl rfl rfl rfl (vrf (pf1)) ?_
          refine Ew_of (pcₚ := 98) (fun _ => x_bipush (z := 6) rfl (by decide)) ?_
          refine v_lI H (o := 1) rfl rfl rfl rfl (n := n1) (en1) (show 0 ≤ 6 ∧ 6 < n1 from q_4256 (HIDe r1) h7) (fun v8 ev8 (qv8 : HID _) => ?_)
          have ev8 : (w1) (6) = v8 := (congrFun (ew1) (6)).symm.trans ev8
          refine w_ifle (t := 116) rfl rfl (show inr (v8) from (HIDe qv8)) (fun b9 => ?_) (fun b9 => ?_)
          · refine Ew_of (pcₚ := 117) (fun _ => x_iconst rfl) ?_
            refine w_iadd rfl ?_
            have hBN : (((((10 + a2) + (8 * (((a2 + v2) - 1) / v3))) + 0)) : Int) = BND ((w1)) ((a1)) ((a2)) := BND_3 (by (have qg0 := HIDe qv2; have qg1 := HIDe qv3; omega)) (by assumption) (by first | exact .inl ⟨by (have qg0 := HIDe qv2; have qg1 := HIDe qv3; omega), by congr 1; (have qg0 := HIDe qv2; have qg1 := HIDe qv3; omega)⟩ | exact .inr ⟨by (have qg0 := HIDe qv2; have qg1 := HIDe qv3; omega), rfl⟩)
            exact w_ireturn rfl (k ((((10 + a2) + (8 * (((a2 + v2) - 1) / v3))) + 0)) _ _ _ H O (SF_refl) (SA_refl) (show inr ((((10 + a2) + (8 * (((a2 + v2) - 1) / v3))) + 0)) by have qh0 := HIDe qv2; have qh1 := HIDe qv3; omega) (show ((((10 + a2) + (8 * (((a2 + v2) - 1) / v3))) + 0)) = BND ((w1)) (a1) (a2) from hBN))
          · refine Ew_of (pcₚ := 103) (fun _ => x_iload_n rfl rk_s) ?_
            refine Ew_of (pcₚ := 104) (fun _ => x_iconst rfl) ?_
            refine Ew_of (pcₚ := 105) (fun _ => x_aload_n rfl (rk_o (rfl) rfl rfl)) ?_
            refine v_g H (o := 0) (v := .ref (D 1)) rfl rfl rfl rfl rfl (vrf (pf1)) ?_
            refine Ew_of (pcₚ := 110) (fun _ => x_bipush (z := 6) rfl (by decide)) ?_
            refine v_lI H (o := 1) rfl rfl rfl rfl (n := n1) (en1) (show 0 ≤ 6 ∧ 6 < n1 from q_4256 (HIDe r1) h7) (fun v10 ev10 (qv10 : HID _) => ?_)
            have ev10 : (w1) (6) = v10 := (congrFun (ew1) (6)).symm.trans ev10
            refine w_iadd rfl ?_
            have hm := RWm (r := (((((a2 + v2) - 1) / v3)) : Int)) (x := (((4 + v10)) : Int)) (n := (a2)) (by rw [hRW]; exact hrl) (by (have qg0 := HIDe qv10; have qg1 := HIDe qv2; have qg2 := HIDe qv3; omega)) (by (have qg0 := HIDe qv10; have qg1 := HIDe qv2; have qg2 := HIDe qv3; omega))
            refine w_imul rfl ?_
            refine Ew_of (pcₚ := 117) (fun _ => x_goto rfl rfl) ?_
            refine w_iadd rfl ?_
            have hBN : (((((10 + a2) + (8 * (((a2 + v2) - 1) / v3))) + ((((a2 + v2) - 1) / v3) * (4 + v10)))) : Int) = BND ((w1)) ((a1)) ((a2)) := BND_3 (by (have qg0 := HIDe qv10; have qg1 := HIDe qv2; have qg2 := HIDe qv3; omega)) (by assumption) (by first | exact .inl ⟨by (have qg0 := HIDe qv10; have qg1 := HIDe qv2; have qg2 := HIDe qv3; omega), by congr 1; (have qg0 := HIDe qv10; have qg1 := HIDe qv2; have qg2 := HIDe qv3; omega)⟩ | exact .inr ⟨by (have qg0 := HIDe qv10; have qg1 := HIDe qv2; have qg2 := HIDe qv3; omega), rfl⟩)
            exact w_ireturn rfl (k ((((10 + a2) + (8 * (((a2 + v2) - 1) / v3))) + ((((a2 + v2) - 1) / v3) * (4 + v10)))) _ _ _ H O (SF_refl) (SA_refl) (show inr ((((10 + a2) + (8 * (((a2 + v2) - 1) / v3))) + ((((a2 + v2) - 1) / v3) * (4 + v10)))) by have qh0 := HIDe qv10; have qh1 := HIDe qv2; have qh2 := HIDe qv3; omega) (show ((((10 + a2) + (8 * (((a2 + v2) - 1) / v3))) + ((((a2 + v2) - 1) / v3) * (4 + v10)))) = BND ((w1)) (a1) (a2) from hBN))
        ·
          by_cases b11 : a1 = 4
          · refine w_tsk 4 119 rfl (show inr (a1) from h0) (by omega) (by decide) rfl rfl ?_
            refine Ew_of (pcₚ := 120) (fun _ => x_aload_n rfl (rk_o (rfl) rfl rfl)) ?_
            refine v_g H (o := 0) (v := .ref (D 1)) rfl rfl rfl rfl rfl (vrf (pf1)) ?_
            refine Ew_of (pcₚ := 124) (fun _ => x_iload_n rfl (rk_o (rfl) rfl rfl)) ?_
            refine w_stat24 rfl rfl (by rfl) (C133_Irx (D := puc 1 D) (N := puc 1 N) (HW_subc H oz_V6cls_42 oz_V6cls_43) (n1) (en1) (w1) (ew1) (show inr (a2) from h1) (show (n1) = 10 from h7) (show 0 ≤ ((w1)) 8 ∧ ((w1)) 8 ≤ 11 from h5) (show 1 ≤ ((w1)) 2 ∧ ((w1)) 2 ≤ 65536 from h4) (show 0 ≤ (a2) ∧ (a2) ≤ 16384 from h2) (fun z12 σ12 F12ₚ A12ₚ Hₚ Oₚ hS12 hA12 pz12_0 pz12_1 pz12_2 => ⟨rfl, ?_⟩))
            refine v_backc (c := c) (s := s) H oz_V6cls_42 oz_V6cls_43 Hₚ Oₚ (fun F12 A12 H Oₚ eF12 eA12 => ?_)
            have O := OUT_trans O Oₚ
            -- Packer.rowLength
            have cF12 : SF oz_V6clsl_0 F F12 := SF_trans (SF_refl) (SF_gluc (ι := oz_V6clsl_2) oz_V6cls_43 hS12 eF12 (by decide +kernel)) (any_sub (lₚ := []) (by decide +kernel))
            have mF12 := SFm_of cF12 oz_V6cls_5
            have cA12 : SA oz_V6clsl_1 A A12 := SA_trans (SA_refl) (SA_gluc (ι := oz_V6clsl_2) oz_V6cls_43 hA12 eA12 (by decide +kernel)) (any_subA (lₚ := []) (by decide +kernel))
            have mA12 := SAm_of cA12 oz_V6cls_6
            refine Ew_of (pcₚ := 129) (fun _ => x_istore rfl) ?_
            refine Ew_of (pcₚ := 131) (fun _ => x_bipush (z := 22) rfl (by decide)) ?_
            refine Ew_of (pcₚ := 132) (fun _ => x_iconst rfl) ?_
            refine Ew_of (pcₚ := 133) (fun _ => x_iload_n rfl (rk_o (rk_o (rfl) rfl rfl) rfl rfl)) ?_
            refine w_ifne (t := 140) rfl rfl (show inr (a2) from h1) (fun b13 => ?_) (fun b13 => ?_)
            · refine Ew_of (pcₚ := 141) (fun _ => x_iload_n rfl (rk_o (rk_o (rfl) rfl rfl) rfl rfl)) ?_
              refine Ew_of (pcₚ := 143) (fun _ => x_iload rfl rk_s) ?_
              refine w_iadd rfl ?_
              refine Ew_of (pcₚ := 145) (fun _ => x_iconst rfl) ?_
              refine w_isub rfl ?_
              refine Ew_of (pcₚ := 148) (fun _ => x_iload rfl rk_s) ?_
              have hst : (a2) ≠ 0 := b13
              have hr4 := RW_le (c := (z12)) (n := (a2)) (by omega) (by omega)
              refine w_idiv rfl (show inr (((a2 + z12) - 1)) ∧ 0 ≤ ((a2 + z12) - 1) from q_4258 h2 pz12_1) (show inr (z12) ∧ 0 < z12 from q_4257 pz12_0 pz12_1) ?_
              have hq4 : (a2) = 0 ∧ (((((a2 + z12) - 1) / z12)) : Int) = 1 ∨ (a2) ≠ 0 ∧ (((((a2 + z12) - 1) / z12)) : Int) = RW ((z12)) ((a2)) := by first | exact .inl ⟨by omega, rfl⟩ | exact .inr ⟨by omega, rfl⟩
              have hr5 : 0 ≤ (((((a2 + z12) - 1) / z12)) : Int) ∧ (((((a2 + z12) - 1) / z12)) : Int) ≤ 16384 := by first | omega | (rcases hq4 with q | q; omega; (rw [q.2]; exact ⟨hr4.1, by omega⟩))
              refine w_imul rfl ?_
              refine w_iadd rfl ?_
              refine Ew_of (pcₚ := 152) (fun _ => x_iload_n rfl (rk_o (rk_o (rfl) rfl rfl) rfl rfl)) ?_
              refine w_iadd rfl ?_
              have hBN : ((((22 + (3 * (((a2 + z12) - 1) / z12))) + a2)) : Int) = BND ((w1)) ((a1)) ((a2)) := BND_4 (by omega) (by rcases hq4 with q | q; exact .inl q; exact .inr ⟨q.1, by rw [q.2, show (z12) = SMN (WND ((w1)) ((a2))) (((w1)) 2) by omega]⟩)
              exact w_ireturn rfl (k (((22 + (3 * (((a2 + z12) - 1) / z12))) + a2)) _ _ _ H O (cF12) (cA12) (show inr (((22 + (3 * (((a2 + z12) - 1) / z12))) + a2)) from q_4459 h2 hr5) (show (((22 + (3 * (((a2 + z12) - 1) / z12))) + a2)) = BND ((w1)) (a1) (a2) from hBN))
            · refine Ew_of (pcₚ := 137) (fun _ => x_iconst rfl) ?_
              refine Ew_of (pcₚ := 149) (fun _ => x_goto rfl rfl) ?_
              have hq4 : (a2) = 0 ∧ ((1) : Int) = 1 ∨ (a2) ≠ 0 ∧ ((1) : Int) = RW ((z12)) ((a2)) := by first | exact .inl ⟨by omega, rfl⟩ | exact .inr ⟨by omega, rfl⟩
              have hr5 : 0 ≤ ((1) : Int) ∧ ((1) : Int) ≤ 16384 := by first | omega | (rcases hq4 with q | q; omega; (rw [q.2]; exact ⟨hr4.1, by omega⟩))
              refine w_imul rfl ?_
              refine w_iadd rfl ?_
              refine Ew_of (pcₚ := 152) (fun _ => x_iload_n rfl (rk_o (rk_o (rfl) rfl rfl) rfl rfl)) ?_
              refine w_iadd rfl ?_
              have hBN : ((((22 + (3 * 1)) + a2)) : Int) = BND ((w1)) ((a1)) ((a2)) := BND_4 (by omega) (by rcases hq4 with q | q; exact .inl q; exact .inr ⟨q.1, by rw [q.2, show (z12) = SMN (WND ((w1)) ((a2))) (((w1)) 2) by omega]⟩)
              exact w_ireturn rfl (k (((22 + (3 * 1)) + a2)) _ _ _ H O (cF12) (cA12) (show inr (((22 + (3 * 1)) + a2)) from q_4460 b13) (show (((22 + (3 * 1)) + a2)) = BND ((w1)) (a1) (a2) from hBN))
          ·
            refine w_tsd 154 rfl (show inr (a1) from h0) (by omega) rfl ?_
            refine Ew_of (pcₚ := 157) (fun _ => x_sipush (z := 700) rfl (by decide)) ?_
            refine Ew_of (pcₚ := 158) (fun _ => x_iload_n rfl (rk_o (rfl) rfl rfl)) ?_
            refine w_iadd rfl ?_
            have hBN : (((700 + a2)) : Int) = BND ((w1)) ((a1)) ((a2)) := BND_5 (by omega)
            exact w_ireturn rfl (k ((700 + a2)) _ _ _ H O (SF_refl) (SA_refl) (show inr ((700 + a2)) from q_4259 h2) (show ((700 + a2)) = BND ((w1)) (a1) (a2) from hBN))
theorem len_V21_oz_V6cls : (V21).length = 2 := by decide +kernel
theorem oz_V6cls_45 : vsub V21 V34 [0, 1] = true := by decide +kernel
def oz_V6clsl_14 : List Nat := [0, 1]
theorem oz_V6cls_46 : okc oz_V6clsl_14 512 = true := by decide +kernel
/-- PackHouse.bound: this, this.settings -/
theorem C21x {σE : rS} {D N : Nat → Nat} {F : hF} {A : hA} {d c s : Nat} {Q : wQ} (H : HW V21 σE D N F A) {a1 a2 : Int} (pf1 : HID (F 0 1 = (D 1 : Int))) (n1 : Int) (en1 : HID ((N 1 : Int) = n1)) (w1 : Int → Int) (ew1 : A 1 = w1) (h0 : inr (a1)) (h1 : inr (a2)) (h2 : 1 ≤ ((w1)) 2 ∧ ((w1)) 2 ≤ 65536) (h3 : 0 ≤ ((w1)) 8 ∧ ((w1)) 8 ≤ 11) (h4 : 0 ≤ ((w1)) 6 ∧ ((w1)) 6 ≤ 255) (h5 : (n1) = 10) (k : ∀ (z : Int) (σ : rS) (Fₚ : hF) (Aₚ : hA), HW V21 σ D N Fₚ Aₚ → OUT (V21).length D N σE c s D N σ c s → SF [] F Fₚ → SA [] A Aₚ → (inr (z)) → ((z) = BNA ((w1)) ((a1)) ((a2))) → Q (some (I z)) σ c s) : Ew 21 (d + 3) 0 (rargs 0 [.ref (D 0), I a1, I a2]) [] σE c s Q := by
  have O := OUT_refl (n := (V21).length) (D := D) (N := N) (σ := σE) (c := c) (s := s)
  have HE := H
  refine Ew_of (pcₚ := 1) (fun _ => x_iload_n rfl rfl) ?_
  refine w_iflt (t := 20) rfl rfl (show inr (a1) from h0) (fun b2 => ?_) (fun b2 => ?_)
  · refine Ew_of (pcₚ := 21) (fun _ => x_iconst rfl) ?_
    refine Ew_of (pcₚ := 30) (fun _ => x_goto rfl rfl) ?_
    have hBN : (((-1)) : Int) = BNA ((w1)) ((a1)) ((a2)) := by unfold BNA; first | (rw [if_neg (by omega)]) | (rw [if_pos (by omega)]; assumption)
    exact w_ireturn rfl (k ((-1)) _ _ _ H O (SF_refl) (SA_refl) (show inr ((-1)) from q_16) (show ((-1)) = BNA ((w1)) (a1) (a2) from hBN))
  · refine Ew_of (pcₚ := 5) (fun _ => x_iload_n rfl rfl) ?_
    refine Ew_of (pcₚ := 6) (fun _ => x_iconst rfl) ?_
    refine w_icmpgt (t := 20) rfl rfl (show inr (a1) from h0) (show inr (5) from q_509) (fun b3 => ?_) (fun b3 => ?_)
    · refine Ew_of (pcₚ := 21) (fun _ => x_iconst rfl) ?_
      refine Ew_of (pcₚ := 30) (fun _ => x_goto rfl rfl) ?_
      have hBN : (((-1)) : Int) = BNA ((w1)) ((a1)) ((a2)) := by unfold BNA; first | (rw [if_neg (by omega)]) | (rw [if_pos (by omega)]; assumption)
      exact w_ireturn rfl (k ((-1)) _ _ _ H O (SF_refl) (SA_refl) (show inr ((-1)) from q_16) (show ((-1)) = BNA ((w1)) (a1) (a2) from hBN))
    · refine Ew_of (pcₚ := 10) (fun _ => x_iload_n rfl rfl) ?_
      refine w_iflt (t := 20) rfl rfl (show inr (a2) from h1) (fun b4 => ?_) (fun b4 => ?_)
      · refine Ew_of (pcₚ := 21) (fun _ => x_iconst rfl) ?_
        refine Ew_of (pcₚ := 30) (fun _ => x_goto rfl rfl) ?_
        have hBN : (((-1)) : Int) = BNA ((w1)) ((a1)) ((a2)) := by unfold BNA; first | (rw [if_neg (by omega)]) | (rw [if_pos (by omega)]; assumption)
        exact w_ireturn rfl (k ((-1)) _ _ _ H O (SF_refl) (SA_refl) (show inr ((-1)) from q_16) (show ((-1)) = BNA ((w1)) (a1) (a2) from hBN))
      · refine Ew_of (pcₚ := 14) (fun _ => x_iload_n rfl rfl) ?_
        refine Ew_of (pcₚ := 17) (fun _ => x_sipush (z := 16384) rfl (by decide)) ?_
        refine w_icmple (t := 24) rfl rfl (show inr (a2) from h1) (show inr (16384) from q_2050) (fun b5 => ?_) (fun b5 => ?_)
        · refine Ew_of (pcₚ := 25) (fun _ => x_aload_n rfl rfl) ?_
          refine Ew_of (pcₚ := 26) (fun _ => x_iload_n rfl rfl) ?_
          refine Ew_of (pcₚ := 27) (fun _ => x_iload_n rfl rfl) ?_
          refine v_inv H (o := 0) rfl rfl rfl rfl rfl rfl (by rfl) (C34x (D := puc 512 D) (N := puc 512 N) (HW_subc H oz_V6cls_45 oz_V6cls_46) (pf1) (n1) (en1) (w1) (ew1) (show inr (a1) from h0) (show inr (a2) from h1) (show 0 ≤ (a2) ∧ (a2) ≤ 16384 from q_4260 b4 b5) (show 0 ≤ (a1) ∧ (a1) ≤ 5 from q_4281 b2 b3) (show 1 ≤ ((w1)) 2 ∧ ((w1)) 2 ≤ 65536 from h2) (show 0 ≤ ((w1)) 8 ∧ ((w1)) 8 ≤ 11 from h3) (show 0 ≤ ((w1)) 6 ∧ ((w1)) 6 ≤ 255 from h4) (show (n1) = 10 from h5) (fun z6 σ6 F6ₚ A6ₚ Hₚ Oₚ hS6 hA6 pz6_0 pz6_1 => ⟨rfl, ?_⟩))
          refine v_backc (c := c) (s := s) H oz_V6cls_45 oz_V6cls_46 Hₚ Oₚ (fun F6 A6 H Oₚ eF6 eA6 => ?_)
          have O := OUT_trans O Oₚ
          -- PackHouse.boundOf
          have cF6 : SF oz_V6clsl_0 F F6 := SF_trans (SF_refl) (SF_gluc (ι := oz_V6clsl_14) oz_V6cls_46 hS6 eF6 (by decide +kernel)) (any_sub (lₚ := []) (by decide +kernel))
          have mF6 := SFm_of cF6 oz_V6cls_5
          have cA6 : SA oz_V6clsl_1 A A6 := SA_trans (SA_refl) (SA_gluc (ι := oz_V6clsl_14) oz_V6cls_46 hA6 eA6 (by decide +kernel)) (any_subA (lₚ := []) (by decide +kernel))
          have mA6 := SAm_of cA6 oz_V6cls_6
          have hBN : ((z6) : Int) = BNA ((w1)) ((a1)) ((a2)) := by unfold BNA; first | (rw [if_neg (by omega)]) | (rw [if_pos (by omega)]; assumption)
          exact w_ireturn rfl (k (z6) _ _ _ H O (cF6) (cA6) (show inr (z6) from pz6_0) (show (z6) = BNA ((w1)) (a1) (a2) from hBN))
        · refine Ew_of (pcₚ := 21) (fun _ => x_iconst rfl) ?_
          refine Ew_of (pcₚ := 30) (fun _ => x_goto rfl rfl) ?_
          have hBN : (((-1)) : Int) = BNA ((w1)) ((a1)) ((a2)) := by unfold BNA; first | (rw [if_neg (by omega)]) | (rw [if_pos (by omega)]; assumption)
          exact w_ireturn rfl (k ((-1)) _ _ _ H O (SF_refl) (SA_refl) (show inr ((-1)) from q_16) (show ((-1)) = BNA ((w1)) (a1) (a2) from hBN))
