abbrev V24 : vV := []
/-- PackHouse.isRow:  -/
theorem C24 {σE : rS} {D N : Nat → Nat} {F : hF} {A : hA} {d c s : Nat} {Q : wQ} (H : HW V24 σE D N F A) {a1 : Int} (h0 : inr (a1)) (k : ∀ (z : Int) (σ : rS) (F' : hF) (A' : hA), HW V24 σ D N F' A' → OUT (V24).length D N σE c s D N σ c s → SF [] F F' → SA [] A A' → ((z) = 0 ∨ (z) = 1) → ((z) = 1 ∧ 0 ≤ (a1) ∧ (a1) ≤ 3 ∨ (z) = 0) → Q (some (I z)) σ c s) : Ew 24 (d + 0) 0 (rargs 0 [I a1]) [] σE c s Q := by
  have O := OUT_refl (n := (V24).length) (D := D) (N := N) (σ := σE) (c := c) (s := s)
  have HE := H
  refine Ew_of (pc' := 1) (fun _ => x_iload_n rfl rfl) ?_
  refine w_iflt (t := 13) rfl rfl (show inr (a1) by omega) (fun b1 => ?_) (fun b1 => ?_)
  · refine Ew_of (pc' := 14) (fun _ => x_iconst rfl) ?_
    exact w_ireturn rfl (k (0) _ _ _ H O (SF_refl) (SA_refl) (show (0) = 0 ∨ (0) = 1 by omega) (show (0) = 1 ∧ 0 ≤ a1 ∧ a1 ≤ 3 ∨ (0) = 0 by omega))
  · refine Ew_of (pc' := 5) (fun _ => x_iload_n rfl rfl) ?_
    refine Ew_of (pc' := 6) (fun _ => x_iconst rfl) ?_
    refine w_icmpgt (t := 13) rfl rfl (show inr (a1) by omega) (show inr (3) by omega) (fun b2 => ?_) (fun b2 => ?_)
    · refine Ew_of (pc' := 14) (fun _ => x_iconst rfl) ?_
      exact w_ireturn rfl (k (0) _ _ _ H O (SF_refl) (SA_refl) (show (0) = 0 ∨ (0) = 1 by omega) (show (0) = 1 ∧ 0 ≤ a1 ∧ a1 ≤ 3 ∨ (0) = 0 by omega))
    · refine Ew_of (pc' := 10) (fun _ => x_iconst rfl) ?_
      refine Ew_of (pc' := 14) (fun _ => x_goto rfl rfl) ?_
      exact w_ireturn rfl (k (1) _ _ _ H O (SF_refl) (SA_refl) (show (1) = 0 ∨ (1) = 1 by omega) (show (1) = 1 ∧ 0 ≤ a1 ∧ a1 ≤ 3 ∨ (1) = 0 by omega))
abbrev V25 : vV := []
/-- PackHouse.isSetting:  -/
theorem C25 {σE : rS} {D N : Nat → Nat} {F : hF} {A : hA} {d c s : Nat} {Q : wQ} (H : HW V25 σE D N F A) {a1 : Int} (h0 : inr (a1)) (k : ∀ (z : Int) (σ : rS) (F' : hF) (A' : hA), HW V25 σ D N F' A' → OUT (V25).length D N σE c s D N σ c s → SF [] F F' → SA [] A A' → ((z) = 0 ∨ (z) = 1) → ((z) = 1 ∧ 0 ≤ (a1) ∧ (a1) ≤ 9 ∨ (z) = 0) → Q (some (I z)) σ c s) : Ew 25 (d + 0) 0 (rargs 0 [I a1]) [] σE c s Q := by
  have O := OUT_refl (n := (V25).length) (D := D) (N := N) (σ := σE) (c := c) (s := s)
  have HE := H
  refine Ew_of (pc' := 1) (fun _ => x_iload_n rfl rfl) ?_
  refine w_iflt (t := 14) rfl rfl (show inr (a1) by omega) (fun b1 => ?_) (fun b1 => ?_)
  · refine Ew_of (pc' := 15) (fun _ => x_iconst rfl) ?_
    exact w_ireturn rfl (k (0) _ _ _ H O (SF_refl) (SA_refl) (show (0) = 0 ∨ (0) = 1 by omega) (show (0) = 1 ∧ 0 ≤ a1 ∧ a1 ≤ 9 ∨ (0) = 0 by omega))
  · refine Ew_of (pc' := 5) (fun _ => x_iload_n rfl rfl) ?_
    refine Ew_of (pc' := 7) (fun _ => x_bipush (z := 9) rfl (by decide)) ?_
    refine w_icmpgt (t := 14) rfl rfl (show inr (a1) by omega) (show inr (9) by omega) (fun b2 => ?_) (fun b2 => ?_)
    · refine Ew_of (pc' := 15) (fun _ => x_iconst rfl) ?_
      exact w_ireturn rfl (k (0) _ _ _ H O (SF_refl) (SA_refl) (show (0) = 0 ∨ (0) = 1 by omega) (show (0) = 1 ∧ 0 ≤ a1 ∧ a1 ≤ 9 ∨ (0) = 0 by omega))
    · refine Ew_of (pc' := 11) (fun _ => x_iconst rfl) ?_
      refine Ew_of (pc' := 15) (fun _ => x_goto rfl rfl) ?_
      exact w_ireturn rfl (k (1) _ _ _ H O (SF_refl) (SA_refl) (show (1) = 0 ∨ (1) = 1 by omega) (show (1) = 1 ∧ 0 ≤ a1 ∧ a1 ≤ 9 ∨ (1) = 0 by omega))
abbrev V26 : vV := []
/-- PackHouse.mayBe:  -/
theorem C26 {σE : rS} {D N : Nat → Nat} {F : hF} {A : hA} {d c s : Nat} {Q : wQ} (H : HW V26 σE D N F A) {a1 a2 : Int} (h0 : inr (a1)) (h1 : inr (a2)) (k : ∀ (z : Int) (σ : rS) (F' : hF) (A' : hA), HW V26 σ D N F' A' → OUT (V26).length D N σE c s D N σ c s → SF [] F F' → SA [] A A' → ((z) = 0 ∨ (z) = 1) → ((z) = 0 ∨ ((a1) = 0 ∧ 0 ≤ (a2) ∧ (a2) ≤ 3 ∨ (a1) = 1 ∧ 3 ≤ (a2) ∧ (a2) ≤ 8 ∨ (a1) = 2 ∧ 1 ≤ (a2) ∧ (a2) ≤ 65536 ∨ (a1) = 3 ∨ (a1) = 4 ∧ 4 ≤ (a2) ∧ (a2) ≤ 7 ∨ (a1) = 6 ∧ 0 ≤ (a2) ∧ (a2) ≤ 255 ∨ (a1) = 7 ∧ 0 ≤ (a2) ∧ (a2) ≤ 15 ∨ (a1) = 8 ∧ 0 ≤ (a2) ∧ (a2) ≤ 11 ∨ (a1) < 0 ∨ (a1) = 5 ∨ 9 ≤ (a1))) → Q (some (I z)) σ c s) : Ew 26 (d + 1) 0 (rargs 0 [I a1, I a2]) [] σE c s Q := by
  have O := OUT_refl (n := (V26).length) (D := D) (N := N) (σ := σE) (c := c) (s := s)
  have HE := H
  refine Ew_of (pc' := 1) (fun _ => x_iload_n rfl rfl) ?_
  by_cases b1 : a1 = 0
  · refine w_tsk 0 52 rfl (show inr (a1) by omega) (by omega) (by decide) rfl rfl ?_
    refine Ew_of (pc' := 53) (fun _ => x_iload_n rfl rfl) ?_
    refine w_iflt (t := 65) rfl rfl (show inr (a2) by omega) (fun b2 => ?_) (fun b2 => ?_)
    · refine Ew_of (pc' := 66) (fun _ => x_iconst rfl) ?_
      exact w_ireturn rfl (k (0) _ _ _ H O (SF_refl) (SA_refl) (show (0) = 0 ∨ (0) = 1 by omega) (show (0) = 0 ∨ (a1 = 0 ∧ 0 ≤ a2 ∧ a2 ≤ 3 ∨ a1 = 1 ∧ 3 ≤ a2 ∧ a2 ≤ 8 ∨ a1 = 2 ∧ 1 ≤ a2 ∧ a2 ≤ 65536 ∨ a1 = 3 ∨ a1 = 4 ∧ 4 ≤ a2 ∧ a2 ≤ 7 ∨ a1 = 6 ∧ 0 ≤ a2 ∧ a2 ≤ 255 ∨ a1 = 7 ∧ 0 ≤ a2 ∧ a2 ≤ 15 ∨ a1 = 8 ∧ 0 ≤ a2 ∧ a2 ≤ 11 ∨ a1 < 0 ∨ a1 = 5 ∨ 9 ≤ a1) by omega))
    · refine Ew_of (pc' := 57) (fun _ => x_iload_n rfl rfl) ?_
      refine Ew_of (pc' := 58) (fun _ => x_iconst rfl) ?_
      refine w_icmpgt (t := 65) rfl rfl (show inr (a2) by omega) (show inr (3) by omega) (fun b3 => ?_) (fun b3 => ?_)
      · refine Ew_of (pc' := 66) (fun _ => x_iconst rfl) ?_
        exact w_ireturn rfl (k (0) _ _ _ H O (SF_refl) (SA_refl) (show (0) = 0 ∨ (0) = 1 by omega) (show (0) = 0 ∨ (a1 = 0 ∧ 0 ≤ a2 ∧ a2 ≤ 3 ∨ a1 = 1 ∧ 3 ≤ a2 ∧ a2 ≤ 8 ∨ a1 = 2 ∧ 1 ≤ a2 ∧ a2 ≤ 65536 ∨ a1 = 3 ∨ a1 = 4 ∧ 4 ≤ a2 ∧ a2 ≤ 7 ∨ a1 = 6 ∧ 0 ≤ a2 ∧ a2 ≤ 255 ∨ a1 = 7 ∧ 0 ≤ a2 ∧ a2 ≤ 15 ∨ a1 = 8 ∧ 0 ≤ a2 ∧ a2 ≤ 11 ∨ a1 < 0 ∨ a1 = 5 ∨ 9 ≤ a1) by omega))
      · refine Ew_of (pc' := 62) (fun _ => x_iconst rfl) ?_
        refine Ew_of (pc' := 66) (fun _ => x_goto rfl rfl) ?_
        exact w_ireturn rfl (k (1) _ _ _ H O (SF_refl) (SA_refl) (show (1) = 0 ∨ (1) = 1 by omega) (show (1) = 0 ∨ (a1 = 0 ∧ 0 ≤ a2 ∧ a2 ≤ 3 ∨ a1 = 1 ∧ 3 ≤ a2 ∧ a2 ≤ 8 ∨ a1 = 2 ∧ 1 ≤ a2 ∧ a2 ≤ 65536 ∨ a1 = 3 ∨ a1 = 4 ∧ 4 ≤ a2 ∧ a2 ≤ 7 ∨ a1 = 6 ∧ 0 ≤ a2 ∧ a2 ≤ 255 ∨ a1 = 7 ∧ 0 ≤ a2 ∧ a2 ≤ 15 ∨ a1 = 8 ∧ 0 ≤ a2 ∧ a2 ≤ 11 ∨ a1 < 0 ∨ a1 = 5 ∨ 9 ≤ a1) by omega))
  ·
    by_cases b4 : a1 = 1
    · refine w_tsk 1 67 rfl (show inr (a1) by omega) (by omega) (by decide) rfl rfl ?_
      refine Ew_of (pc' := 68) (fun _ => x_iload_n rfl rfl) ?_
      refine Ew_of (pc' := 69) (fun _ => x_iconst rfl) ?_
      refine w_icmplt (t := 82) rfl rfl (show inr (a2) by omega) (show inr (3) by omega) (fun b5 => ?_) (fun b5 => ?_)
      · refine Ew_of (pc' := 83) (fun _ => x_iconst rfl) ?_
        exact w_ireturn rfl (k (0) _ _ _ H O (SF_refl) (SA_refl) (show (0) = 0 ∨ (0) = 1 by omega) (show (0) = 0 ∨ (a1 = 0 ∧ 0 ≤ a2 ∧ a2 ≤ 3 ∨ a1 = 1 ∧ 3 ≤ a2 ∧ a2 ≤ 8 ∨ a1 = 2 ∧ 1 ≤ a2 ∧ a2 ≤ 65536 ∨ a1 = 3 ∨ a1 = 4 ∧ 4 ≤ a2 ∧ a2 ≤ 7 ∨ a1 = 6 ∧ 0 ≤ a2 ∧ a2 ≤ 255 ∨ a1 = 7 ∧ 0 ≤ a2 ∧ a2 ≤ 15 ∨ a1 = 8 ∧ 0 ≤ a2 ∧ a2 ≤ 11 ∨ a1 < 0 ∨ a1 = 5 ∨ 9 ≤ a1) by omega))
      · refine Ew_of (pc' := 73) (fun _ => x_iload_n rfl rfl) ?_
        refine Ew_of (pc' := 75) (fun _ => x_bipush (z := 8) rfl (by decide)) ?_
        refine w_icmpgt (t := 82) rfl rfl (show inr (a2) by omega) (show inr (8) by omega) (fun b6 => ?_) (fun b6 => ?_)
        · refine Ew_of (pc' := 83) (fun _ => x_iconst rfl) ?_
          exact w_ireturn rfl (k (0) _ _ _ H O (SF_refl) (SA_refl) (show (0) = 0 ∨ (0) = 1 by omega) (show (0) = 0 ∨ (a1 = 0 ∧ 0 ≤ a2 ∧ a2 ≤ 3 ∨ a1 = 1 ∧ 3 ≤ a2 ∧ a2 ≤ 8 ∨ a1 = 2 ∧ 1 ≤ a2 ∧ a2 ≤ 65536 ∨ a1 = 3 ∨ a1 = 4 ∧ 4 ≤ a2 ∧ a2 ≤ 7 ∨ a1 = 6 ∧ 0 ≤ a2 ∧ a2 ≤ 255 ∨ a1 = 7 ∧ 0 ≤ a2 ∧ a2 ≤ 15 ∨ a1 = 8 ∧ 0 ≤ a2 ∧ a2 ≤ 11 ∨ a1 < 0 ∨ a1 = 5 ∨ 9 ≤ a1) by omega))
        · refine Ew_of (pc' := 79) (fun _ => x_iconst rfl) ?_
          refine Ew_of (pc' := 83) (fun _ => x_goto rfl rfl) ?_
          exact w_ireturn rfl (k (1) _ _ _ H O (SF_refl) (SA_refl) (show (1) = 0 ∨ (1) = 1 by omega) (show (1) = 0 ∨ (a1 = 0 ∧ 0 ≤ a2 ∧ a2 ≤ 3 ∨ a1 = 1 ∧ 3 ≤ a2 ∧ a2 ≤ 8 ∨ a1 = 2 ∧ 1 ≤ a2 ∧ a2 ≤ 65536 ∨ a1 = 3 ∨ a1 = 4 ∧ 4 ≤ a2 ∧ a2 ≤ 7 ∨ a1 = 6 ∧ 0 ≤ a2 ∧ a2 ≤ 255 ∨ a1 = 7 ∧ 0 ≤ a2 ∧ a2 ≤ 15 ∨ a1 = 8 ∧ 0 ≤ a2 ∧ a2 ≤ 11 ∨ a1 < 0 ∨ a1 = 5 ∨ 9 ≤ a1) by omega))
    ·
      by_cases b7 : a1 = 2
      · refine w_tsk 2 84 rfl (show inr (a1) by omega) (by omega) (by decide) rfl rfl ?_
        refine Ew_of (pc' := 85) (fun _ => x_iload_n rfl rfl) ?_
        refine Ew_of (pc' := 86) (fun _ => x_iconst rfl) ?_
        refine w_icmplt (t := 99) rfl rfl (show inr (a2) by omega) (show inr (1) by omega) (fun b8 => ?_) (fun b8 => ?_)
        · refine Ew_of (pc' := 100) (fun _ => x_iconst rfl) ?_
          exact w_ireturn rfl (k (0) _ _ _ H O (SF_refl) (SA_refl) (show (0) = 0 ∨ (0) = 1 by omega) (show (0) = 0 ∨ (a1 = 0 ∧ 0 ≤ a2 ∧ a2 ≤ 3 ∨ a1 = 1 ∧ 3 ≤ a2 ∧ a2 ≤ 8 ∨ a1 = 2 ∧ 1 ≤ a2 ∧ a2 ≤ 65536 ∨ a1 = 3 ∨ a1 = 4 ∧ 4 ≤ a2 ∧ a2 ≤ 7 ∨ a1 = 6 ∧ 0 ≤ a2 ∧ a2 ≤ 255 ∨ a1 = 7 ∧ 0 ≤ a2 ∧ a2 ≤ 15 ∨ a1 = 8 ∧ 0 ≤ a2 ∧ a2 ≤ 11 ∨ a1 < 0 ∨ a1 = 5 ∨ 9 ≤ a1) by omega))
        · refine Ew_of (pc' := 90) (fun _ => x_iload_n rfl rfl) ?_
          refine Ew_of (pc' := 92) (fun _ => x_ldc (z := 65536) rfl (by decide)) ?_
          refine w_icmpgt (t := 99) rfl rfl (show inr (a2) by omega) (show inr (65536) by omega) (fun b9 => ?_) (fun b9 => ?_)
          · refine Ew_of (pc' := 100) (fun _ => x_iconst rfl) ?_
            exact w_ireturn rfl (k (0) _ _ _ H O (SF_refl) (SA_refl) (show (0) = 0 ∨ (0) = 1 by omega) (show (0) = 0 ∨ (a1 = 0 ∧ 0 ≤ a2 ∧ a2 ≤ 3 ∨ a1 = 1 ∧ 3 ≤ a2 ∧ a2 ≤ 8 ∨ a1 = 2 ∧ 1 ≤ a2 ∧ a2 ≤ 65536 ∨ a1 = 3 ∨ a1 = 4 ∧ 4 ≤ a2 ∧ a2 ≤ 7 ∨ a1 = 6 ∧ 0 ≤ a2 ∧ a2 ≤ 255 ∨ a1 = 7 ∧ 0 ≤ a2 ∧ a2 ≤ 15 ∨ a1 = 8 ∧ 0 ≤ a2 ∧ a2 ≤ 11 ∨ a1 < 0 ∨ a1 = 5 ∨ 9 ≤ a1) by omega))
          · refine Ew_of (pc' := 96) (fun _ => x_iconst rfl) ?_
            refine Ew_of (pc' := 100) (fun _ => x_goto rfl rfl) ?_
            exact w_ireturn rfl (k (1) _ _ _ H O (SF_refl) (SA_refl) (show (1) = 0 ∨ (1) = 1 by omega) (show (1) = 0 ∨ (a1 = 0 ∧ 0 ≤ a2 ∧ a2 ≤ 3 ∨ a1 = 1 ∧ 3 ≤ a2 ∧ a2 ≤ 8 ∨ a1 = 2 ∧ 1 ≤ a2 ∧ a2 ≤ 65536 ∨ a1 = 3 ∨ a1 = 4 ∧ 4 ≤ a2 ∧ a2 ≤ 7 ∨ a1 = 6 ∧ 0 ≤ a2 ∧ a2 ≤ 255 ∨ a1 = 7 ∧ 0 ≤ a2 ∧ a2 ≤ 15 ∨ a1 = 8 ∧ 0 ≤ a2 ∧ a2 ≤ 11 ∨ a1 < 0 ∨ a1 = 5 ∨ 9 ≤ a1) by omega))
      ·
        by_cases b10 : a1 = 3
        · refine w_tsk 3 101 rfl (show inr (a1) by omega) (by omega) (by decide) rfl rfl ?_
          refine Ew_of (pc' := 102) (fun _ => x_iload_n rfl rfl) ?_
          refine w_stat24 rfl rfl (by rfl) (C213 (D := pul [] D) (N := pul [] N) (HW_sub H (VS_of (show vsub V26 V213 [] = true by decide +kernel))) (show inr (a2) by omega) (fun z11 σ11 F11' A11' H' O' hS11 hA11 pz11_0 pz11_1 => ⟨rretB rfl pz11_0, ?_⟩))
          refine v_back (c := c) (s := s) H (show vsub V26 V213 [] = true by decide +kernel) H' O' (fun F11 A11 H O' eF11 eA11 => ?_)
          have O := OUT_trans O O'
          -- Tokens.areFlags
          exact w_ireturn rfl (k (z11) _ _ _ H O (SF_trans (SF_refl) (SF_glu (ι := []) hS11 eF11 (by decide +kernel)) (any_sub (l' := []) rfl)) (SA_trans (SA_refl) (SA_glu (ι := []) hA11 eA11 (by decide +kernel)) (any_subA (l' := []) rfl)) (show (z11) = 0 ∨ (z11) = 1 by omega) (show (z11) = 0 ∨ (a1 = 0 ∧ 0 ≤ a2 ∧ a2 ≤ 3 ∨ a1 = 1 ∧ 3 ≤ a2 ∧ a2 ≤ 8 ∨ a1 = 2 ∧ 1 ≤ a2 ∧ a2 ≤ 65536 ∨ a1 = 3 ∨ a1 = 4 ∧ 4 ≤ a2 ∧ a2 ≤ 7 ∨ a1 = 6 ∧ 0 ≤ a2 ∧ a2 ≤ 255 ∨ a1 = 7 ∧ 0 ≤ a2 ∧ a2 ≤ 15 ∨ a1 = 8 ∧ 0 ≤ a2 ∧ a2 ≤ 11 ∨ a1 < 0 ∨ a1 = 5 ∨ 9 ≤ a1) by omega))
        ·
          by_cases b12 : a1 = 4
          · refine w_tsk 4 106 rfl (show inr (a1) by omega) (by omega) (by decide) rfl rfl ?_
            refine Ew_of (pc' := 107) (fun _ => x_iload_n rfl rfl) ?_
            refine Ew_of (pc' := 108) (fun _ => x_iconst rfl) ?_
            refine w_icmplt (t := 121) rfl rfl (show inr (a2) by omega) (show inr (4) by omega) (fun b13 => ?_) (fun b13 => ?_)
            · refine Ew_of (pc' := 122) (fun _ => x_iconst rfl) ?_
              exact w_ireturn rfl (k (0) _ _ _ H O (SF_refl) (SA_refl) (show (0) = 0 ∨ (0) = 1 by omega) (show (0) = 0 ∨ (a1 = 0 ∧ 0 ≤ a2 ∧ a2 ≤ 3 ∨ a1 = 1 ∧ 3 ≤ a2 ∧ a2 ≤ 8 ∨ a1 = 2 ∧ 1 ≤ a2 ∧ a2 ≤ 65536 ∨ a1 = 3 ∨ a1 = 4 ∧ 4 ≤ a2 ∧ a2 ≤ 7 ∨ a1 = 6 ∧ 0 ≤ a2 ∧ a2 ≤ 255 ∨ a1 = 7 ∧ 0 ≤ a2 ∧ a2 ≤ 15 ∨ a1 = 8 ∧ 0 ≤ a2 ∧ a2 ≤ 11 ∨ a1 < 0 ∨ a1 = 5 ∨ 9 ≤ a1) by omega))
            · refine Ew_of (pc' := 112) (fun _ => x_iload_n rfl rfl) ?_
              refine Ew_of (pc' := 114) (fun _ => x_bipush (z := 7) rfl (by decide)) ?_
              refine w_icmpgt (t := 121) rfl rfl (show inr (a2) by omega) (show inr (7) by omega) (fun b14 => ?_) (fun b14 => ?_)
              · refine Ew_of (pc' := 122) (fun _ => x_iconst rfl) ?_
                exact w_ireturn rfl (k (0) _ _ _ H O (SF_refl) (SA_refl) (show (0) = 0 ∨ (0) = 1 by omega) (show (0) = 0 ∨ (a1 = 0 ∧ 0 ≤ a2 ∧ a2 ≤ 3 ∨ a1 = 1 ∧ 3 ≤ a2 ∧ a2 ≤ 8 ∨ a1 = 2 ∧ 1 ≤ a2 ∧ a2 ≤ 65536 ∨ a1 = 3 ∨ a1 = 4 ∧ 4 ≤ a2 ∧ a2 ≤ 7 ∨ a1 = 6 ∧ 0 ≤ a2 ∧ a2 ≤ 255 ∨ a1 = 7 ∧ 0 ≤ a2 ∧ a2 ≤ 15 ∨ a1 = 8 ∧ 0 ≤ a2 ∧ a2 ≤ 11 ∨ a1 < 0 ∨ a1 = 5 ∨ 9 ≤ a1) by omega))
              · refine Ew_of (pc' := 118) (fun _ => x_iconst rfl) ?_
                refine Ew_of (pc' := 122) (fun _ => x_goto rfl rfl) ?_
                exact w_ireturn rfl (k (1) _ _ _ H O (SF_refl) (SA_refl) (show (1) = 0 ∨ (1) = 1 by omega) (show (1) = 0 ∨ (a1 = 0 ∧ 0 ≤ a2 ∧ a2 ≤ 3 ∨ a1 = 1 ∧ 3 ≤ a2 ∧ a2 ≤ 8 ∨ a1 = 2 ∧ 1 ≤ a2 ∧ a2 ≤ 65536 ∨ a1 = 3 ∨ a1 = 4 ∧ 4 ≤ a2 ∧ a2 ≤ 7 ∨ a1 = 6 ∧ 0 ≤ a2 ∧ a2 ≤ 255 ∨ a1 = 7 ∧ 0 ≤ a2 ∧ a2 ≤ 15 ∨ a1 = 8 ∧ 0 ≤ a2 ∧ a2 ≤ 11 ∨ a1 < 0 ∨ a1 = 5 ∨ 9 ≤ a1) by omega))
          ·
            by_cases b15 : a1 = 5
            · refine w_tsk 5 172 rfl (show inr (a1) by omega) (by omega) (by decide) rfl rfl ?_
              refine Ew_of (pc' := 173) (fun _ => x_iconst rfl) ?_
              exact w_ireturn rfl (k (1) _ _ _ H O (SF_refl) (SA_refl) (show (1) = 0 ∨ (1) = 1 by omega) (show (1) = 0 ∨ (a1 = 0 ∧ 0 ≤ a2 ∧ a2 ≤ 3 ∨ a1 = 1 ∧ 3 ≤ a2 ∧ a2 ≤ 8 ∨ a1 = 2 ∧ 1 ≤ a2 ∧ a2 ≤ 65536 ∨ a1 = 3 ∨ a1 = 4 ∧ 4 ≤ a2 ∧ a2 ≤ 7 ∨ a1 = 6 ∧ 0 ≤ a2 ∧ a2 ≤ 255 ∨ a1 = 7 ∧ 0 ≤ a2 ∧ a2 ≤ 15 ∨ a1 = 8 ∧ 0 ≤ a2 ∧ a2 ≤ 11 ∨ a1 < 0 ∨ a1 = 5 ∨ 9 ≤ a1) by omega))
            ·
              by_cases b16 : a1 = 6
              · refine w_tsk 6 123 rfl (show inr (a1) by omega) (by omega) (by decide) rfl rfl ?_
                refine Ew_of (pc' := 124) (fun _ => x_iload_n rfl rfl) ?_
                refine w_iflt (t := 138) rfl rfl (show inr (a2) by omega) (fun b17 => ?_) (fun b17 => ?_)
                · refine Ew_of (pc' := 139) (fun _ => x_iconst rfl) ?_
                  exact w_ireturn rfl (k (0) _ _ _ H O (SF_refl) (SA_refl) (show (0) = 0 ∨ (0) = 1 by omega) (show (0) = 0 ∨ (a1 = 0 ∧ 0 ≤ a2 ∧ a2 ≤ 3 ∨ a1 = 1 ∧ 3 ≤ a2 ∧ a2 ≤ 8 ∨ a1 = 2 ∧ 1 ≤ a2 ∧ a2 ≤ 65536 ∨ a1 = 3 ∨ a1 = 4 ∧ 4 ≤ a2 ∧ a2 ≤ 7 ∨ a1 = 6 ∧ 0 ≤ a2 ∧ a2 ≤ 255 ∨ a1 = 7 ∧ 0 ≤ a2 ∧ a2 ≤ 15 ∨ a1 = 8 ∧ 0 ≤ a2 ∧ a2 ≤ 11 ∨ a1 < 0 ∨ a1 = 5 ∨ 9 ≤ a1) by omega))
                · refine Ew_of (pc' := 128) (fun _ => x_iload_n rfl rfl) ?_
                  refine Ew_of (pc' := 131) (fun _ => x_sipush (z := 255) rfl (by decide)) ?_
                  refine w_icmpgt (t := 138) rfl rfl (show inr (a2) by omega) (show inr (255) by omega) (fun b18 => ?_) (fun b18 => ?_)
                  · refine Ew_of (pc' := 139) (fun _ => x_iconst rfl) ?_
                    exact w_ireturn rfl (k (0) _ _ _ H O (SF_refl) (SA_refl) (show (0) = 0 ∨ (0) = 1 by omega) (show (0) = 0 ∨ (a1 = 0 ∧ 0 ≤ a2 ∧ a2 ≤ 3 ∨ a1 = 1 ∧ 3 ≤ a2 ∧ a2 ≤ 8 ∨ a1 = 2 ∧ 1 ≤ a2 ∧ a2 ≤ 65536 ∨ a1 = 3 ∨ a1 = 4 ∧ 4 ≤ a2 ∧ a2 ≤ 7 ∨ a1 = 6 ∧ 0 ≤ a2 ∧ a2 ≤ 255 ∨ a1 = 7 ∧ 0 ≤ a2 ∧ a2 ≤ 15 ∨ a1 = 8 ∧ 0 ≤ a2 ∧ a2 ≤ 11 ∨ a1 < 0 ∨ a1 = 5 ∨ 9 ≤ a1) by omega))
                  · refine Ew_of (pc' := 135) (fun _ => x_iconst rfl) ?_
                    refine Ew_of (pc' := 139) (fun _ => x_goto rfl rfl) ?_
                    exact w_ireturn rfl (k (1) _ _ _ H O (SF_refl) (SA_refl) (show (1) = 0 ∨ (1) = 1 by omega) (show (1) = 0 ∨ (a1 = 0 ∧ 0 ≤ a2 ∧ a2 ≤ 3 ∨ a1 = 1 ∧ 3 ≤ a2 ∧ a2 ≤ 8 ∨ a1 = 2 ∧ 1 ≤ a2 ∧ a2 ≤ 65536 ∨ a1 = 3 ∨ a1 = 4 ∧ 4 ≤ a2 ∧ a2 ≤ 7 ∨ a1 = 6 ∧ 0 ≤ a2 ∧ a2 ≤ 255 ∨ a1 = 7 ∧ 0 ≤ a2 ∧ a2 ≤ 15 ∨ a1 = 8 ∧ 0 ≤ a2 ∧ a2 ≤ 11 ∨ a1 < 0 ∨ a1 = 5 ∨ 9 ≤ a1) by omega))
              ·
                by_cases b19 : a1 = 7
                · refine w_tsk 7 140 rfl (show inr (a1) by omega) (by omega) (by decide) rfl rfl ?_
                  refine Ew_of (pc' := 141) (fun _ => x_iload_n rfl rfl) ?_
                  refine w_iflt (t := 154) rfl rfl (show inr (a2) by omega) (fun b20 => ?_) (fun b20 => ?_)
                  · refine Ew_of (pc' := 155) (fun _ => x_iconst rfl) ?_
                    exact w_ireturn rfl (k (0) _ _ _ H O (SF_refl) (SA_refl) (show (0) = 0 ∨ (0) = 1 by omega) (show (0) = 0 ∨ (a1 = 0 ∧ 0 ≤ a2 ∧ a2 ≤ 3 ∨ a1 = 1 ∧ 3 ≤ a2 ∧ a2 ≤ 8 ∨ a1 = 2 ∧ 1 ≤ a2 ∧ a2 ≤ 65536 ∨ a1 = 3 ∨ a1 = 4 ∧ 4 ≤ a2 ∧ a2 ≤ 7 ∨ a1 = 6 ∧ 0 ≤ a2 ∧ a2 ≤ 255 ∨ a1 = 7 ∧ 0 ≤ a2 ∧ a2 ≤ 15 ∨ a1 = 8 ∧ 0 ≤ a2 ∧ a2 ≤ 11 ∨ a1 < 0 ∨ a1 = 5 ∨ 9 ≤ a1) by omega))
                  · refine Ew_of (pc' := 145) (fun _ => x_iload_n rfl rfl) ?_
                    refine Ew_of (pc' := 147) (fun _ => x_bipush (z := 15) rfl (by decide)) ?_
                    refine w_icmpgt (t := 154) rfl rfl (show inr (a2) by omega) (show inr (15) by omega) (fun b21 => ?_) (fun b21 => ?_)
                    · refine Ew_of (pc' := 155) (fun _ => x_iconst rfl) ?_
                      exact w_ireturn rfl (k (0) _ _ _ H O (SF_refl) (SA_refl) (show (0) = 0 ∨ (0) = 1 by omega) (show (0) = 0 ∨ (a1 = 0 ∧ 0 ≤ a2 ∧ a2 ≤ 3 ∨ a1 = 1 ∧ 3 ≤ a2 ∧ a2 ≤ 8 ∨ a1 = 2 ∧ 1 ≤ a2 ∧ a2 ≤ 65536 ∨ a1 = 3 ∨ a1 = 4 ∧ 4 ≤ a2 ∧ a2 ≤ 7 ∨ a1 = 6 ∧ 0 ≤ a2 ∧ a2 ≤ 255 ∨ a1 = 7 ∧ 0 ≤ a2 ∧ a2 ≤ 15 ∨ a1 = 8 ∧ 0 ≤ a2 ∧ a2 ≤ 11 ∨ a1 < 0 ∨ a1 = 5 ∨ 9 ≤ a1) by omega))
                    · refine Ew_of (pc' := 151) (fun _ => x_iconst rfl) ?_
                      refine Ew_of (pc' := 155) (fun _ => x_goto rfl rfl) ?_
                      exact w_ireturn rfl (k (1) _ _ _ H O (SF_refl) (SA_refl) (show (1) = 0 ∨ (1) = 1 by omega) (show (1) = 0 ∨ (a1 = 0 ∧ 0 ≤ a2 ∧ a2 ≤ 3 ∨ a1 = 1 ∧ 3 ≤ a2 ∧ a2 ≤ 8 ∨ a1 = 2 ∧ 1 ≤ a2 ∧ a2 ≤ 65536 ∨ a1 = 3 ∨ a1 = 4 ∧ 4 ≤ a2 ∧ a2 ≤ 7 ∨ a1 = 6 ∧ 0 ≤ a2 ∧ a2 ≤ 255 ∨ a1 = 7 ∧ 0 ≤ a2 ∧ a2 ≤ 15 ∨ a1 = 8 ∧ 0 ≤ a2 ∧ a2 ≤ 11 ∨ a1 < 0 ∨ a1 = 5 ∨ 9 ≤ a1) by omega))
                ·
                  by_cases b22 : a1 = 8
                  · refine w_tsk 8 156 rfl (show inr (a1) by omega) (by omega) (by decide) rfl rfl ?_
                    refine Ew_of (pc' := 157) (fun _ => x_iload_n rfl rfl) ?_
                    refine w_iflt (t := 170) rfl rfl (show inr (a2) by omega) (fun b23 => ?_) (fun b23 => ?_)
                    · refine Ew_of (pc' := 171) (fun _ => x_iconst rfl) ?_
                      exact w_ireturn rfl (k (0) _ _ _ H O (SF_refl) (SA_refl) (show (0) = 0 ∨ (0) = 1 by omega) (show (0) = 0 ∨ (a1 = 0 ∧ 0 ≤ a2 ∧ a2 ≤ 3 ∨ a1 = 1 ∧ 3 ≤ a2 ∧ a2 ≤ 8 ∨ a1 = 2 ∧ 1 ≤ a2 ∧ a2 ≤ 65536 ∨ a1 = 3 ∨ a1 = 4 ∧ 4 ≤ a2 ∧ a2 ≤ 7 ∨ a1 = 6 ∧ 0 ≤ a2 ∧ a2 ≤ 255 ∨ a1 = 7 ∧ 0 ≤ a2 ∧ a2 ≤ 15 ∨ a1 = 8 ∧ 0 ≤ a2 ∧ a2 ≤ 11 ∨ a1 < 0 ∨ a1 = 5 ∨ 9 ≤ a1) by omega))
                    · refine Ew_of (pc' := 161) (fun _ => x_iload_n rfl rfl) ?_
                      refine Ew_of (pc' := 163) (fun _ => x_bipush (z := 11) rfl (by decide)) ?_
                      refine w_icmpgt (t := 170) rfl rfl (show inr (a2) by omega) (show inr (11) by omega) (fun b24 => ?_) (fun b24 => ?_)
                      · refine Ew_of (pc' := 171) (fun _ => x_iconst rfl) ?_
                        exact w_ireturn rfl (k (0) _ _ _ H O (SF_refl) (SA_refl) (show (0) = 0 ∨ (0) = 1 by omega) (show (0) = 0 ∨ (a1 = 0 ∧ 0 ≤ a2 ∧ a2 ≤ 3 ∨ a1 = 1 ∧ 3 ≤ a2 ∧ a2 ≤ 8 ∨ a1 = 2 ∧ 1 ≤ a2 ∧ a2 ≤ 65536 ∨ a1 = 3 ∨ a1 = 4 ∧ 4 ≤ a2 ∧ a2 ≤ 7 ∨ a1 = 6 ∧ 0 ≤ a2 ∧ a2 ≤ 255 ∨ a1 = 7 ∧ 0 ≤ a2 ∧ a2 ≤ 15 ∨ a1 = 8 ∧ 0 ≤ a2 ∧ a2 ≤ 11 ∨ a1 < 0 ∨ a1 = 5 ∨ 9 ≤ a1) by omega))
                      · refine Ew_of (pc' := 167) (fun _ => x_iconst rfl) ?_
                        refine Ew_of (pc' := 171) (fun _ => x_goto rfl rfl) ?_
                        exact w_ireturn rfl (k (1) _ _ _ H O (SF_refl) (SA_refl) (show (1) = 0 ∨ (1) = 1 by omega) (show (1) = 0 ∨ (a1 = 0 ∧ 0 ≤ a2 ∧ a2 ≤ 3 ∨ a1 = 1 ∧ 3 ≤ a2 ∧ a2 ≤ 8 ∨ a1 = 2 ∧ 1 ≤ a2 ∧ a2 ≤ 65536 ∨ a1 = 3 ∨ a1 = 4 ∧ 4 ≤ a2 ∧ a2 ≤ 7 ∨ a1 = 6 ∧ 0 ≤ a2 ∧ a2 ≤ 255 ∨ a1 = 7 ∧ 0 ≤ a2 ∧ a2 ≤ 15 ∨ a1 = 8 ∧ 0 ≤ a2 ∧ a2 ≤ 11 ∨ a1 < 0 ∨ a1 = 5 ∨ 9 ≤ a1) by omega))
                  ·
                    refine w_tsd 172 rfl (show inr (a1) by omega) (by omega) rfl ?_
                    refine Ew_of (pc' := 173) (fun _ => x_iconst rfl) ?_
                    exact w_ireturn rfl (k (1) _ _ _ H O (SF_refl) (SA_refl) (show (1) = 0 ∨ (1) = 1 by omega) (show (1) = 0 ∨ (a1 = 0 ∧ 0 ≤ a2 ∧ a2 ≤ 3 ∨ a1 = 1 ∧ 3 ≤ a2 ∧ a2 ≤ 8 ∨ a1 = 2 ∧ 1 ≤ a2 ∧ a2 ≤ 65536 ∨ a1 = 3 ∨ a1 = 4 ∧ 4 ≤ a2 ∧ a2 ≤ 7 ∨ a1 = 6 ∧ 0 ≤ a2 ∧ a2 ≤ 255 ∨ a1 = 7 ∧ 0 ≤ a2 ∧ a2 ≤ 15 ∨ a1 = 8 ∧ 0 ≤ a2 ∧ a2 ≤ 11 ∨ a1 < 0 ∨ a1 = 5 ∨ 9 ≤ a1) by omega))
