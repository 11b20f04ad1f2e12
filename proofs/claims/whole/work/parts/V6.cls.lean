/-- PackHouse.isRow:  -/
theorem C24x {σE : rS} {D N : Nat → Nat} {F : hF} {A : hA} {d c s : Nat} {Q : wQ} (H : HW V24 σE D N F A) {a1 : Int} (h0 : inr (a1)) (k : ∀ (z : Int) (σ : rS) (F' : hF) (A' : hA), HW V24 σ D N F' A' → OUT (V24).length D N σE c s D N σ c s → SF [] F F' → SA [] A A' → ((z) = 0 ∨ (z) = 1) → ((z) = 1 ∧ 0 ≤ (a1) ∧ (a1) ≤ 3 ∨ (z) = 0 ∧ ((a1) < 0 ∨ 3 < (a1))) → Q (some (I z)) σ c s) : Ew 24 (d + 0) 0 (rargs 0 [I a1]) [] σE c s Q := by
  have O := OUT_refl (n := (V24).length) (D := D) (N := N) (σ := σE) (c := c) (s := s)
  have HE := H
  refine Ew_of (pc' := 1) (fun _ => x_iload_n rfl rfl) ?_
  refine w_iflt (t := 13) rfl rfl (show inr (a1) by omega) (fun b1 => ?_) (fun b1 => ?_)
  · refine Ew_of (pc' := 14) (fun _ => x_iconst rfl) ?_
    exact w_ireturn rfl (k (0) _ _ _ H O (SF_refl) (SA_refl) (show (0) = 0 ∨ (0) = 1 by omega) (show (0) = 1 ∧ 0 ≤ a1 ∧ a1 ≤ 3 ∨ (0) = 0 ∧ (a1 < 0 ∨ 3 < a1) by omega))
  · refine Ew_of (pc' := 5) (fun _ => x_iload_n rfl rfl) ?_
    refine Ew_of (pc' := 6) (fun _ => x_iconst rfl) ?_
    refine w_icmpgt (t := 13) rfl rfl (show inr (a1) by omega) (show inr (3) by omega) (fun b2 => ?_) (fun b2 => ?_)
    · refine Ew_of (pc' := 14) (fun _ => x_iconst rfl) ?_
      exact w_ireturn rfl (k (0) _ _ _ H O (SF_refl) (SA_refl) (show (0) = 0 ∨ (0) = 1 by omega) (show (0) = 1 ∧ 0 ≤ a1 ∧ a1 ≤ 3 ∨ (0) = 0 ∧ (a1 < 0 ∨ 3 < a1) by omega))
    · refine Ew_of (pc' := 10) (fun _ => x_iconst rfl) ?_
      refine Ew_of (pc' := 14) (fun _ => x_goto rfl rfl) ?_
      exact w_ireturn rfl (k (1) _ _ _ H O (SF_refl) (SA_refl) (show (1) = 0 ∨ (1) = 1 by omega) (show (1) = 1 ∧ 0 ≤ a1 ∧ a1 ≤ 3 ∨ (1) = 0 ∧ (a1 < 0 ∨ 3 < a1) by omega))
/-- PackHouse.isSetting:  -/
theorem C25x {σE : rS} {D N : Nat → Nat} {F : hF} {A : hA} {d c s : Nat} {Q : wQ} (H : HW V25 σE D N F A) {a1 : Int} (h0 : inr (a1)) (k : ∀ (z : Int) (σ : rS) (F' : hF) (A' : hA), HW V25 σ D N F' A' → OUT (V25).length D N σE c s D N σ c s → SF [] F F' → SA [] A A' → ((z) = 0 ∨ (z) = 1) → ((z) = 1 ∧ 0 ≤ (a1) ∧ (a1) ≤ 9 ∨ (z) = 0 ∧ ((a1) < 0 ∨ 9 < (a1))) → Q (some (I z)) σ c s) : Ew 25 (d + 0) 0 (rargs 0 [I a1]) [] σE c s Q := by
  have O := OUT_refl (n := (V25).length) (D := D) (N := N) (σ := σE) (c := c) (s := s)
  have HE := H
  refine Ew_of (pc' := 1) (fun _ => x_iload_n rfl rfl) ?_
  refine w_iflt (t := 14) rfl rfl (show inr (a1) by omega) (fun b1 => ?_) (fun b1 => ?_)
  · refine Ew_of (pc' := 15) (fun _ => x_iconst rfl) ?_
    exact w_ireturn rfl (k (0) _ _ _ H O (SF_refl) (SA_refl) (show (0) = 0 ∨ (0) = 1 by omega) (show (0) = 1 ∧ 0 ≤ a1 ∧ a1 ≤ 9 ∨ (0) = 0 ∧ (a1 < 0 ∨ 9 < a1) by omega))
  · refine Ew_of (pc' := 5) (fun _ => x_iload_n rfl rfl) ?_
    refine Ew_of (pc' := 7) (fun _ => x_bipush (z := 9) rfl (by decide)) ?_
    refine w_icmpgt (t := 14) rfl rfl (show inr (a1) by omega) (show inr (9) by omega) (fun b2 => ?_) (fun b2 => ?_)
    · refine Ew_of (pc' := 15) (fun _ => x_iconst rfl) ?_
      exact w_ireturn rfl (k (0) _ _ _ H O (SF_refl) (SA_refl) (show (0) = 0 ∨ (0) = 1 by omega) (show (0) = 1 ∧ 0 ≤ a1 ∧ a1 ≤ 9 ∨ (0) = 0 ∧ (a1 < 0 ∨ 9 < a1) by omega))
    · refine Ew_of (pc' := 11) (fun _ => x_iconst rfl) ?_
      refine Ew_of (pc' := 15) (fun _ => x_goto rfl rfl) ?_
      exact w_ireturn rfl (k (1) _ _ _ H O (SF_refl) (SA_refl) (show (1) = 0 ∨ (1) = 1 by omega) (show (1) = 1 ∧ 0 ≤ a1 ∧ a1 ≤ 9 ∨ (1) = 0 ∧ (a1 < 0 ∨ 9 < a1) by omega))
/-- Tokens.areFlags:  -/
theorem C213x {σE : rS} {D N : Nat → Nat} {F : hF} {A : hA} {d c s : Nat} {Q : wQ} (H : HW V213 σE D N F A) {a1 : Int} (h0 : inr (a1)) (k : ∀ (z : Int) (σ : rS) (F' : hF) (A' : hA), HW V213 σ D N F' A' → OUT (V213).length D N σE c s D N σ c s → SF [] F F' → SA [] A A' → ((z) = 0 ∨ (z) = 1) → ((z) = 1 ∧ andI ((a1)) (-62) = 64 ∨ (z) = 0 ∧ andI ((a1)) (-62) ≠ 64) → Q (some (I z)) σ c s) : Ew 213 (d + 0) 0 (rargs 0 [I a1]) [] σE c s Q := by
  have O := OUT_refl (n := (V213).length) (D := D) (N := N) (σ := σE) (c := c) (s := s)
  have HE := H
  refine Ew_of (pc' := 1) (fun _ => x_iload_n rfl rfl) ?_
  refine Ew_of (pc' := 3) (fun _ => x_bipush (z := -62) rfl (by decide)) ?_
  refine w_iandE rfl (show inr (a1) by omega) (show inr ((-62)) by omega) (fun z1 gz1 gaz1 gbz1 gez1 => ?_)
  refine Ew_of (pc' := 6) (fun _ => x_bipush (z := 64) rfl (by decide)) ?_
  refine w_icmpne (t := 13) rfl rfl (show inr (z1) by omega) (show inr (64) by omega) (fun b2 => ?_) (fun b2 => ?_)
  · refine Ew_of (pc' := 14) (fun _ => x_iconst rfl) ?_
    exact w_ireturn rfl (k (0) _ _ _ H O (SF_refl) (SA_refl) (show (0) = 0 ∨ (0) = 1 by omega) (show (0) = 1 ∧ andI (a1) (-62) = 64 ∨ (0) = 0 ∧ andI (a1) (-62) ≠ 64 by omega))
  · refine Ew_of (pc' := 10) (fun _ => x_iconst rfl) ?_
    refine Ew_of (pc' := 14) (fun _ => x_goto rfl rfl) ?_
    exact w_ireturn rfl (k (1) _ _ _ H O (SF_refl) (SA_refl) (show (1) = 0 ∨ (1) = 1 by omega) (show (1) = 1 ∧ andI (a1) (-62) = 64 ∨ (1) = 0 ∧ andI (a1) (-62) ≠ 64 by omega))
/-- PackHouse.mayBe:  -/
theorem C26x {σE : rS} {D N : Nat → Nat} {F : hF} {A : hA} {d c s : Nat} {Q : wQ} (H : HW V26 σE D N F A) {a1 a2 : Int} (h0 : inr (a1)) (h1 : inr (a2)) (k : ∀ (z : Int) (σ : rS) (F' : hF) (A' : hA), HW V26 σ D N F' A' → OUT (V26).length D N σE c s D N σ c s → SF [] F F' → SA [] A A' → ((z) = 0 ∨ (z) = 1) → ((a1) = 3 ∧ ((z) = 1 ∧ andI ((a2)) (-62) = 64 ∨ (z) = 0 ∧ andI ((a2)) (-62) ≠ 64) ∨ (a1) ≠ 3 ∧ ((z) = 1 ∧ mlo ((a1)) ≤ (a2) ∧ (a2) ≤ mhi ((a1)) ∨ (z) = 0 ∧ ((a2) < mlo ((a1)) ∨ mhi ((a1)) < (a2)))) → Q (some (I z)) σ c s) : Ew 26 (d + 1) 0 (rargs 0 [I a1, I a2]) [] σE c s Q := by
  have O := OUT_refl (n := (V26).length) (D := D) (N := N) (σ := σE) (c := c) (s := s)
  have HE := H
  refine Ew_of (pc' := 1) (fun _ => x_iload_n rfl rfl) ?_
  by_cases b1 : a1 = 0
  · refine w_tsk 0 52 rfl (show inr (a1) by omega) (by omega) (by decide) rfl rfl ?_
    have hm : mlo ((a1)) = 0 ∧ mhi ((a1)) = 3 := by rw [show (a1) = (0 : Int) by omega]; decide
    refine Ew_of (pc' := 53) (fun _ => x_iload_n rfl rfl) ?_
    refine w_iflt (t := 65) rfl rfl (show inr (a2) by omega) (fun b2 => ?_) (fun b2 => ?_)
    · refine Ew_of (pc' := 66) (fun _ => x_iconst rfl) ?_
      exact w_ireturn rfl (k (0) _ _ _ H O (SF_refl) (SA_refl) (show (0) = 0 ∨ (0) = 1 by omega) (show a1 = 3 ∧ ((0) = 1 ∧ andI (a2) (-62) = 64 ∨ (0) = 0 ∧ andI (a2) (-62) ≠ 64) ∨ a1 ≠ 3 ∧ ((0) = 1 ∧ mlo (a1) ≤ a2 ∧ a2 ≤ mhi (a1) ∨ (0) = 0 ∧ (a2 < mlo (a1) ∨ mhi (a1) < a2)) by omega))
    · refine Ew_of (pc' := 57) (fun _ => x_iload_n rfl rfl) ?_
      refine Ew_of (pc' := 58) (fun _ => x_iconst rfl) ?_
      refine w_icmpgt (t := 65) rfl rfl (show inr (a2) by omega) (show inr (3) by omega) (fun b3 => ?_) (fun b3 => ?_)
      · refine Ew_of (pc' := 66) (fun _ => x_iconst rfl) ?_
        exact w_ireturn rfl (k (0) _ _ _ H O (SF_refl) (SA_refl) (show (0) = 0 ∨ (0) = 1 by omega) (show a1 = 3 ∧ ((0) = 1 ∧ andI (a2) (-62) = 64 ∨ (0) = 0 ∧ andI (a2) (-62) ≠ 64) ∨ a1 ≠ 3 ∧ ((0) = 1 ∧ mlo (a1) ≤ a2 ∧ a2 ≤ mhi (a1) ∨ (0) = 0 ∧ (a2 < mlo (a1) ∨ mhi (a1) < a2)) by omega))
      · refine Ew_of (pc' := 62) (fun _ => x_iconst rfl) ?_
        refine Ew_of (pc' := 66) (fun _ => x_goto rfl rfl) ?_
        exact w_ireturn rfl (k (1) _ _ _ H O (SF_refl) (SA_refl) (show (1) = 0 ∨ (1) = 1 by omega) (show a1 = 3 ∧ ((1) = 1 ∧ andI (a2) (-62) = 64 ∨ (1) = 0 ∧ andI (a2) (-62) ≠ 64) ∨ a1 ≠ 3 ∧ ((1) = 1 ∧ mlo (a1) ≤ a2 ∧ a2 ≤ mhi (a1) ∨ (1) = 0 ∧ (a2 < mlo (a1) ∨ mhi (a1) < a2)) by omega))
  ·
    by_cases b4 : a1 = 1
    · refine w_tsk 1 67 rfl (show inr (a1) by omega) (by omega) (by decide) rfl rfl ?_
      have hm : mlo ((a1)) = 3 ∧ mhi ((a1)) = 8 := by rw [show (a1) = (1 : Int) by omega]; decide
      refine Ew_of (pc' := 68) (fun _ => x_iload_n rfl rfl) ?_
      refine Ew_of (pc' := 69) (fun _ => x_iconst rfl) ?_
      refine w_icmplt (t := 82) rfl rfl (show inr (a2) by omega) (show inr (3) by omega) (fun b5 => ?_) (fun b5 => ?_)
      · refine Ew_of (pc' := 83) (fun _ => x_iconst rfl) ?_
        exact w_ireturn rfl (k (0) _ _ _ H O (SF_refl) (SA_refl) (show (0) = 0 ∨ (0) = 1 by omega) (show a1 = 3 ∧ ((0) = 1 ∧ andI (a2) (-62) = 64 ∨ (0) = 0 ∧ andI (a2) (-62) ≠ 64) ∨ a1 ≠ 3 ∧ ((0) = 1 ∧ mlo (a1) ≤ a2 ∧ a2 ≤ mhi (a1) ∨ (0) = 0 ∧ (a2 < mlo (a1) ∨ mhi (a1) < a2)) by omega))
      · refine Ew_of (pc' := 73) (fun _ => x_iload_n rfl rfl) ?_
        refine Ew_of (pc' := 75) (fun _ => x_bipush (z := 8) rfl (by decide)) ?_
        refine w_icmpgt (t := 82) rfl rfl (show inr (a2) by omega) (show inr (8) by omega) (fun b6 => ?_) (fun b6 => ?_)
        · refine Ew_of (pc' := 83) (fun _ => x_iconst rfl) ?_
          exact w_ireturn rfl (k (0) _ _ _ H O (SF_refl) (SA_refl) (show (0) = 0 ∨ (0) = 1 by omega) (show a1 = 3 ∧ ((0) = 1 ∧ andI (a2) (-62) = 64 ∨ (0) = 0 ∧ andI (a2) (-62) ≠ 64) ∨ a1 ≠ 3 ∧ ((0) = 1 ∧ mlo (a1) ≤ a2 ∧ a2 ≤ mhi (a1) ∨ (0) = 0 ∧ (a2 < mlo (a1) ∨ mhi (a1) < a2)) by omega))
        · refine Ew_of (pc' := 79) (fun _ => x_iconst rfl) ?_
          refine Ew_of (pc' := 83) (fun _ => x_goto rfl rfl) ?_
          exact w_ireturn rfl (k (1) _ _ _ H O (SF_refl) (SA_refl) (show (1) = 0 ∨ (1) = 1 by omega) (show a1 = 3 ∧ ((1) = 1 ∧ andI (a2) (-62) = 64 ∨ (1) = 0 ∧ andI (a2) (-62) ≠ 64) ∨ a1 ≠ 3 ∧ ((1) = 1 ∧ mlo (a1) ≤ a2 ∧ a2 ≤ mhi (a1) ∨ (1) = 0 ∧ (a2 < mlo (a1) ∨ mhi (a1) < a2)) by omega))
    ·
      by_cases b7 : a1 = 2
      · refine w_tsk 2 84 rfl (show inr (a1) by omega) (by omega) (by decide) rfl rfl ?_
        have hm : mlo ((a1)) = 1 ∧ mhi ((a1)) = 65536 := by rw [show (a1) = (2 : Int) by omega]; decide
        refine Ew_of (pc' := 85) (fun _ => x_iload_n rfl rfl) ?_
        refine Ew_of (pc' := 86) (fun _ => x_iconst rfl) ?_
        refine w_icmplt (t := 99) rfl rfl (show inr (a2) by omega) (show inr (1) by omega) (fun b8 => ?_) (fun b8 => ?_)
        · refine Ew_of (pc' := 100) (fun _ => x_iconst rfl) ?_
          exact w_ireturn rfl (k (0) _ _ _ H O (SF_refl) (SA_refl) (show (0) = 0 ∨ (0) = 1 by omega) (show a1 = 3 ∧ ((0) = 1 ∧ andI (a2) (-62) = 64 ∨ (0) = 0 ∧ andI (a2) (-62) ≠ 64) ∨ a1 ≠ 3 ∧ ((0) = 1 ∧ mlo (a1) ≤ a2 ∧ a2 ≤ mhi (a1) ∨ (0) = 0 ∧ (a2 < mlo (a1) ∨ mhi (a1) < a2)) by omega))
        · refine Ew_of (pc' := 90) (fun _ => x_iload_n rfl rfl) ?_
          refine Ew_of (pc' := 92) (fun _ => x_ldc (z := 65536) rfl (by decide)) ?_
          refine w_icmpgt (t := 99) rfl rfl (show inr (a2) by omega) (show inr (65536) by omega) (fun b9 => ?_) (fun b9 => ?_)
          · refine Ew_of (pc' := 100) (fun _ => x_iconst rfl) ?_
            exact w_ireturn rfl (k (0) _ _ _ H O (SF_refl) (SA_refl) (show (0) = 0 ∨ (0) = 1 by omega) (show a1 = 3 ∧ ((0) = 1 ∧ andI (a2) (-62) = 64 ∨ (0) = 0 ∧ andI (a2) (-62) ≠ 64) ∨ a1 ≠ 3 ∧ ((0) = 1 ∧ mlo (a1) ≤ a2 ∧ a2 ≤ mhi (a1) ∨ (0) = 0 ∧ (a2 < mlo (a1) ∨ mhi (a1) < a2)) by omega))
          · refine Ew_of (pc' := 96) (fun _ => x_iconst rfl) ?_
            refine Ew_of (pc' := 100) (fun _ => x_goto rfl rfl) ?_
            exact w_ireturn rfl (k (1) _ _ _ H O (SF_refl) (SA_refl) (show (1) = 0 ∨ (1) = 1 by omega) (show a1 = 3 ∧ ((1) = 1 ∧ andI (a2) (-62) = 64 ∨ (1) = 0 ∧ andI (a2) (-62) ≠ 64) ∨ a1 ≠ 3 ∧ ((1) = 1 ∧ mlo (a1) ≤ a2 ∧ a2 ≤ mhi (a1) ∨ (1) = 0 ∧ (a2 < mlo (a1) ∨ mhi (a1) < a2)) by omega))
      ·
        by_cases b10 : a1 = 3
        · refine w_tsk 3 101 rfl (show inr (a1) by omega) (by omega) (by decide) rfl rfl ?_
          refine Ew_of (pc' := 102) (fun _ => x_iload_n rfl rfl) ?_
          refine w_stat24 rfl rfl (by rfl) (C213x (D := pul [] D) (N := pul [] N) (HW_sub H (VS_of (show vsub V26 V213 [] = true by decide +kernel))) (show inr (a2) by omega) (fun z11 σ11 F11' A11' H' O' hS11 hA11 pz11_0 pz11_1 => ⟨rretB rfl pz11_0, ?_⟩))
          refine v_back (c := c) (s := s) H (show vsub V26 V213 [] = true by decide +kernel) H' O' (fun F11 A11 H O' eF11 eA11 => ?_)
          have O := OUT_trans O O'
          -- Tokens.areFlags
          exact w_ireturn rfl (k (z11) _ _ _ H O (SF_trans (SF_refl) (SF_glu (ι := []) hS11 eF11 (by decide +kernel)) (any_sub (l' := []) rfl)) (SA_trans (SA_refl) (SA_glu (ι := []) hA11 eA11 (by decide +kernel)) (any_subA (l' := []) rfl)) (show (z11) = 0 ∨ (z11) = 1 by omega) (show a1 = 3 ∧ ((z11) = 1 ∧ andI (a2) (-62) = 64 ∨ (z11) = 0 ∧ andI (a2) (-62) ≠ 64) ∨ a1 ≠ 3 ∧ ((z11) = 1 ∧ mlo (a1) ≤ a2 ∧ a2 ≤ mhi (a1) ∨ (z11) = 0 ∧ (a2 < mlo (a1) ∨ mhi (a1) < a2)) by omega))
        ·
          by_cases b12 : a1 = 4
          · refine w_tsk 4 106 rfl (show inr (a1) by omega) (by omega) (by decide) rfl rfl ?_
            have hm : mlo ((a1)) = 4 ∧ mhi ((a1)) = 7 := by rw [show (a1) = (4 : Int) by omega]; decide
            refine Ew_of (pc' := 107) (fun _ => x_iload_n rfl rfl) ?_
            refine Ew_of (pc' := 108) (fun _ => x_iconst rfl) ?_
            refine w_icmplt (t := 121) rfl rfl (show inr (a2) by omega) (show inr (4) by omega) (fun b13 => ?_) (fun b13 => ?_)
            · refine Ew_of (pc' := 122) (fun _ => x_iconst rfl) ?_
              exact w_ireturn rfl (k (0) _ _ _ H O (SF_refl) (SA_refl) (show (0) = 0 ∨ (0) = 1 by omega) (show a1 = 3 ∧ ((0) = 1 ∧ andI (a2) (-62) = 64 ∨ (0) = 0 ∧ andI (a2) (-62) ≠ 64) ∨ a1 ≠ 3 ∧ ((0) = 1 ∧ mlo (a1) ≤ a2 ∧ a2 ≤ mhi (a1) ∨ (0) = 0 ∧ (a2 < mlo (a1) ∨ mhi (a1) < a2)) by omega))
            · refine Ew_of (pc' := 112) (fun _ => x_iload_n rfl rfl) ?_
              refine Ew_of (pc' := 114) (fun _ => x_bipush (z := 7) rfl (by decide)) ?_
              refine w_icmpgt (t := 121) rfl rfl (show inr (a2) by omega) (show inr (7) by omega) (fun b14 => ?_) (fun b14 => ?_)
              · refine Ew_of (pc' := 122) (fun _ => x_iconst rfl) ?_
                exact w_ireturn rfl (k (0) _ _ _ H O (SF_refl) (SA_refl) (show (0) = 0 ∨ (0) = 1 by omega) (show a1 = 3 ∧ ((0) = 1 ∧ andI (a2) (-62) = 64 ∨ (0) = 0 ∧ andI (a2) (-62) ≠ 64) ∨ a1 ≠ 3 ∧ ((0) = 1 ∧ mlo (a1) ≤ a2 ∧ a2 ≤ mhi (a1) ∨ (0) = 0 ∧ (a2 < mlo (a1) ∨ mhi (a1) < a2)) by omega))
              · refine Ew_of (pc' := 118) (fun _ => x_iconst rfl) ?_
                refine Ew_of (pc' := 122) (fun _ => x_goto rfl rfl) ?_
                exact w_ireturn rfl (k (1) _ _ _ H O (SF_refl) (SA_refl) (show (1) = 0 ∨ (1) = 1 by omega) (show a1 = 3 ∧ ((1) = 1 ∧ andI (a2) (-62) = 64 ∨ (1) = 0 ∧ andI (a2) (-62) ≠ 64) ∨ a1 ≠ 3 ∧ ((1) = 1 ∧ mlo (a1) ≤ a2 ∧ a2 ≤ mhi (a1) ∨ (1) = 0 ∧ (a2 < mlo (a1) ∨ mhi (a1) < a2)) by omega))
          ·
            by_cases b15 : a1 = 5
            · refine w_tsk 5 172 rfl (show inr (a1) by omega) (by omega) (by decide) rfl rfl ?_
              have hm : mlo ((a1)) = -2147483648 ∧ mhi ((a1)) = 2147483647 := mlo_df (by omega)
              refine Ew_of (pc' := 173) (fun _ => x_iconst rfl) ?_
              exact w_ireturn rfl (k (1) _ _ _ H O (SF_refl) (SA_refl) (show (1) = 0 ∨ (1) = 1 by omega) (show a1 = 3 ∧ ((1) = 1 ∧ andI (a2) (-62) = 64 ∨ (1) = 0 ∧ andI (a2) (-62) ≠ 64) ∨ a1 ≠ 3 ∧ ((1) = 1 ∧ mlo (a1) ≤ a2 ∧ a2 ≤ mhi (a1) ∨ (1) = 0 ∧ (a2 < mlo (a1) ∨ mhi (a1) < a2)) by omega))
            ·
              by_cases b16 : a1 = 6
              · refine w_tsk 6 123 rfl (show inr (a1) by omega) (by omega) (by decide) rfl rfl ?_
                have hm : mlo ((a1)) = 0 ∧ mhi ((a1)) = 255 := by rw [show (a1) = (6 : Int) by omega]; decide
                refine Ew_of (pc' := 124) (fun _ => x_iload_n rfl rfl) ?_
                refine w_iflt (t := 138) rfl rfl (show inr (a2) by omega) (fun b17 => ?_) (fun b17 => ?_)
                · refine Ew_of (pc' := 139) (fun _ => x_iconst rfl) ?_
                  exact w_ireturn rfl (k (0) _ _ _ H O (SF_refl) (SA_refl) (show (0) = 0 ∨ (0) = 1 by omega) (show a1 = 3 ∧ ((0) = 1 ∧ andI (a2) (-62) = 64 ∨ (0) = 0 ∧ andI (a2) (-62) ≠ 64) ∨ a1 ≠ 3 ∧ ((0) = 1 ∧ mlo (a1) ≤ a2 ∧ a2 ≤ mhi (a1) ∨ (0) = 0 ∧ (a2 < mlo (a1) ∨ mhi (a1) < a2)) by omega))
                · refine Ew_of (pc' := 128) (fun _ => x_iload_n rfl rfl) ?_
                  refine Ew_of (pc' := 131) (fun _ => x_sipush (z := 255) rfl (by decide)) ?_
                  refine w_icmpgt (t := 138) rfl rfl (show inr (a2) by omega) (show inr (255) by omega) (fun b18 => ?_) (fun b18 => ?_)
                  · refine Ew_of (pc' := 139) (fun _ => x_iconst rfl) ?_
                    exact w_ireturn rfl (k (0) _ _ _ H O (SF_refl) (SA_refl) (show (0) = 0 ∨ (0) = 1 by omega) (show a1 = 3 ∧ ((0) = 1 ∧ andI (a2) (-62) = 64 ∨ (0) = 0 ∧ andI (a2) (-62) ≠ 64) ∨ a1 ≠ 3 ∧ ((0) = 1 ∧ mlo (a1) ≤ a2 ∧ a2 ≤ mhi (a1) ∨ (0) = 0 ∧ (a2 < mlo (a1) ∨ mhi (a1) < a2)) by omega))
                  · refine Ew_of (pc' := 135) (fun _ => x_iconst rfl) ?_
                    refine Ew_of (pc' := 139) (fun _ => x_goto rfl rfl) ?_
                    exact w_ireturn rfl (k (1) _ _ _ H O (SF_refl) (SA_refl) (show (1) = 0 ∨ (1) = 1 by omega) (show a1 = 3 ∧ ((1) = 1 ∧ andI (a2) (-62) = 64 ∨ (1) = 0 ∧ andI (a2) (-62) ≠ 64) ∨ a1 ≠ 3 ∧ ((1) = 1 ∧ mlo (a1) ≤ a2 ∧ a2 ≤ mhi (a1) ∨ (1) = 0 ∧ (a2 < mlo (a1) ∨ mhi (a1) < a2)) by omega))
              ·
                by_cases b19 : a1 = 7
                · refine w_tsk 7 140 rfl (show inr (a1) by omega) (by omega) (by decide) rfl rfl ?_
                  have hm : mlo ((a1)) = 0 ∧ mhi ((a1)) = 15 := by rw [show (a1) = (7 : Int) by omega]; decide
                  refine Ew_of (pc' := 141) (fun _ => x_iload_n rfl rfl) ?_
                  refine w_iflt (t := 154) rfl rfl (show inr (a2) by omega) (fun b20 => ?_) (fun b20 => ?_)
                  · refine Ew_of (pc' := 155) (fun _ => x_iconst rfl) ?_
                    exact w_ireturn rfl (k (0) _ _ _ H O (SF_refl) (SA_refl) (show (0) = 0 ∨ (0) = 1 by omega) (show a1 = 3 ∧ ((0) = 1 ∧ andI (a2) (-62) = 64 ∨ (0) = 0 ∧ andI (a2) (-62) ≠ 64) ∨ a1 ≠ 3 ∧ ((0) = 1 ∧ mlo (a1) ≤ a2 ∧ a2 ≤ mhi (a1) ∨ (0) = 0 ∧ (a2 < mlo (a1) ∨ mhi (a1) < a2)) by omega))
                  · refine Ew_of (pc' := 145) (fun _ => x_iload_n rfl rfl) ?_
                    refine Ew_of (pc' := 147) (fun _ => x_bipush (z := 15) rfl (by decide)) ?_
                    refine w_icmpgt (t := 154) rfl rfl (show inr (a2) by omega) (show inr (15) by omega) (fun b21 => ?_) (fun b21 => ?_)
                    · refine Ew_of (pc' := 155) (fun _ => x_iconst rfl) ?_
                      exact w_ireturn rfl (k (0) _ _ _ H O (SF_refl) (SA_refl) (show (0) = 0 ∨ (0) = 1 by omega) (show a1 = 3 ∧ ((0) = 1 ∧ andI (a2) (-62) = 64 ∨ (0) = 0 ∧ andI (a2) (-62) ≠ 64) ∨ a1 ≠ 3 ∧ ((0) = 1 ∧ mlo (a1) ≤ a2 ∧ a2 ≤ mhi (a1) ∨ (0) = 0 ∧ (a2 < mlo (a1) ∨ mhi (a1) < a2)) by omega))
                    · refine Ew_of (pc' := 151) (fun _ => x_iconst rfl) ?_
                      refine Ew_of (pc' := 155) (fun _ => x_goto rfl rfl) ?_
                      exact w_ireturn rfl (k (1) _ _ _ H O (SF_refl) (SA_refl) (show (1) = 0 ∨ (1) = 1 by omega) (show a1 = 3 ∧ ((1) = 1 ∧ andI (a2) (-62) = 64 ∨ (1) = 0 ∧ andI (a2) (-62) ≠ 64) ∨ a1 ≠ 3 ∧ ((1) = 1 ∧ mlo (a1) ≤ a2 ∧ a2 ≤ mhi (a1) ∨ (1) = 0 ∧ (a2 < mlo (a1) ∨ mhi (a1) < a2)) by omega))
                ·
                  by_cases b22 : a1 = 8
                  · refine w_tsk 8 156 rfl (show inr (a1) by omega) (by omega) (by decide) rfl rfl ?_
                    have hm : mlo ((a1)) = 0 ∧ mhi ((a1)) = 11 := by rw [show (a1) = (8 : Int) by omega]; decide
                    refine Ew_of (pc' := 157) (fun _ => x_iload_n rfl rfl) ?_
                    refine w_iflt (t := 170) rfl rfl (show inr (a2) by omega) (fun b23 => ?_) (fun b23 => ?_)
                    · refine Ew_of (pc' := 171) (fun _ => x_iconst rfl) ?_
                      exact w_ireturn rfl (k (0) _ _ _ H O (SF_refl) (SA_refl) (show (0) = 0 ∨ (0) = 1 by omega) (show a1 = 3 ∧ ((0) = 1 ∧ andI (a2) (-62) = 64 ∨ (0) = 0 ∧ andI (a2) (-62) ≠ 64) ∨ a1 ≠ 3 ∧ ((0) = 1 ∧ mlo (a1) ≤ a2 ∧ a2 ≤ mhi (a1) ∨ (0) = 0 ∧ (a2 < mlo (a1) ∨ mhi (a1) < a2)) by omega))
                    · refine Ew_of (pc' := 161) (fun _ => x_iload_n rfl rfl) ?_
                      refine Ew_of (pc' := 163) (fun _ => x_bipush (z := 11) rfl (by decide)) ?_
                      refine w_icmpgt (t := 170) rfl rfl (show inr (a2) by omega) (show inr (11) by omega) (fun b24 => ?_) (fun b24 => ?_)
                      · refine Ew_of (pc' := 171) (fun _ => x_iconst rfl) ?_
                        exact w_ireturn rfl (k (0) _ _ _ H O (SF_refl) (SA_refl) (show (0) = 0 ∨ (0) = 1 by omega) (show a1 = 3 ∧ ((0) = 1 ∧ andI (a2) (-62) = 64 ∨ (0) = 0 ∧ andI (a2) (-62) ≠ 64) ∨ a1 ≠ 3 ∧ ((0) = 1 ∧ mlo (a1) ≤ a2 ∧ a2 ≤ mhi (a1) ∨ (0) = 0 ∧ (a2 < mlo (a1) ∨ mhi (a1) < a2)) by omega))
                      · refine Ew_of (pc' := 167) (fun _ => x_iconst rfl) ?_
                        refine Ew_of (pc' := 171) (fun _ => x_goto rfl rfl) ?_
                        exact w_ireturn rfl (k (1) _ _ _ H O (SF_refl) (SA_refl) (show (1) = 0 ∨ (1) = 1 by omega) (show a1 = 3 ∧ ((1) = 1 ∧ andI (a2) (-62) = 64 ∨ (1) = 0 ∧ andI (a2) (-62) ≠ 64) ∨ a1 ≠ 3 ∧ ((1) = 1 ∧ mlo (a1) ≤ a2 ∧ a2 ≤ mhi (a1) ∨ (1) = 0 ∧ (a2 < mlo (a1) ∨ mhi (a1) < a2)) by omega))
                  ·
                    refine w_tsd 172 rfl (show inr (a1) by omega) (by omega) rfl ?_
                    have hm : mlo ((a1)) = -2147483648 ∧ mhi ((a1)) = 2147483647 := mlo_df (by omega)
                    refine Ew_of (pc' := 173) (fun _ => x_iconst rfl) ?_
                    exact w_ireturn rfl (k (1) _ _ _ H O (SF_refl) (SA_refl) (show (1) = 0 ∨ (1) = 1 by omega) (show a1 = 3 ∧ ((1) = 1 ∧ andI (a2) (-62) = 64 ∨ (1) = 0 ∧ andI (a2) (-62) ≠ 64) ∨ a1 ≠ 3 ∧ ((1) = 1 ∧ mlo (a1) ≤ a2 ∧ a2 ≤ mhi (a1) ∨ (1) = 0 ∧ (a2 < mlo (a1) ∨ mhi (a1) < a2)) by omega))
/-- PackHouse.set: this, this.settings -/
theorem C9x {σE : rS} {D N : Nat → Nat} {F : hF} {A : hA} {d c s : Nat} {Q : wQ} (H : HW V9 σE D N F A) {a1 a2 : Int} (pf1 : F 0 1 = (D 1 : Int)) (n1 : Int) (en1 : (N 1 : Int) = n1) (w1 : Int → Int) (ew1 : A 1 = w1) (h0 : inr (a1)) (h1 : inr (a2)) (h2 : SETI ((w1))) (h3 : (n1) = 10) (k : ∀ (z : Int) (σ : rS) (F' : hF) (A' : hA), HW V9 σ D N F' A' → OUT (V9).length D N σE c s D N σ c s → SF [] F F' → SA [1] A A' → ∀ v1 : Int → Int, A' 1 = v1 → ((z) = 0 ∨ (z) = 1) → (SETI ((v1))) → ((a1) = 3 ∧ ((z) = 1 ∧ andI ((a2)) (-62) = 64 ∨ (z) = 0 ∧ andI ((a2)) (-62) ≠ 64) ∨ ((a1) < 0 ∨ 9 < (a1)) ∧ (z) = 0 ∨ 0 ≤ (a1) ∧ (a1) ≤ 9 ∧ (a1) ≠ 3 ∧ ((z) = 1 ∧ mlo ((a1)) ≤ (a2) ∧ (a2) ≤ mhi ((a1)) ∨ (z) = 0 ∧ ((a2) < mlo ((a1)) ∨ mhi ((a1)) < (a2)))) → (UPD ((z)) ((w1)) ((v1)) ((a1)) ((a2))) → Q (some (I z)) σ c s) : Ew 9 (d + 2) 0 (rargs 0 [.ref (D 0), I a1, I a2]) [] σE c s Q := by
  have O := OUT_refl (n := (V9).length) (D := D) (N := N) (σ := σE) (c := c) (s := s)
  have HE := H
  replace pf1 := HIDm pf1
  replace en1 := HIDm en1
  have r1 : HID ((0 : Int) ≤ n1 ∧ n1 ≤ 1000000) := nrng (H.nle 1 (by decide)) (show (N 1 : Int) = n1 from en1)
  refine Ew_of (pc' := 1) (fun _ => x_iload_n rfl rfl) ?_
  refine w_stat24 rfl rfl (by rfl) (C25x (D := pul [] D) (N := pul [] N) (HW_sub H (VS_of (show vsub V9 V25 [] = true by decide +kernel))) (show inr (a1) by omega) (fun z2 σ2 F2' A2' H' O' hS2 hA2 pz2_0 pz2_1 => ⟨rretB rfl pz2_0, ?_⟩))
  refine v_back (c := c) (s := s) H (show vsub V9 V25 [] = true by decide +kernel) H' O' (fun F2 A2 H O' eF2 eA2 => ?_)
  have O := OUT_trans O O'
  -- PackHouse.isSetting
  refine w_ifeq (t := 15) rfl rfl (show inr (z2) by omega) (fun b3 => ?_) (fun b3 => ?_)
  · have hU : UPD 0 (w1) (w1) ((a1)) ((a2)) := .inr ⟨rfl, rfl⟩
    refine Ew_of (pc' := 16) (fun _ => x_iconst rfl) ?_
    exact w_ireturn rfl (k (0) _ _ _ H O (SF_trans (SF_refl) (SF_glu (ι := []) hS2 eF2 (by decide +kernel)) (any_sub (l' := []) rfl)) (SA_trans (SA_refl) (SA_glu (ι := []) hA2 eA2 (by decide +kernel)) (any_subA (l' := []) rfl)) (w1) (((show A2 1 = A 1 from (eA2 1))).trans (ew1)) (show (0) = 0 ∨ (0) = 1 by omega) (show SETI ((w1)) by assumption) (show a1 = 3 ∧ ((0) = 1 ∧ andI (a2) (-62) = 64 ∨ (0) = 0 ∧ andI (a2) (-62) ≠ 64) ∨ (a1 < 0 ∨ 9 < a1) ∧ (0) = 0 ∨ 0 ≤ a1 ∧ a1 ≤ 9 ∧ a1 ≠ 3 ∧ ((0) = 1 ∧ mlo (a1) ≤ a2 ∧ a2 ≤ mhi (a1) ∨ (0) = 0 ∧ (a2 < mlo (a1) ∨ mhi (a1) < a2)) by omega) (show UPD ((0)) ((w1)) ((w1)) (a1) (a2) by assumption))
  · refine Ew_of (pc' := 8) (fun _ => x_iload_n rfl rfl) ?_
    refine Ew_of (pc' := 9) (fun _ => x_iload_n rfl rfl) ?_
    refine w_stat24 rfl rfl (by rfl) (C26x (D := pul [] D) (N := pul [] N) (HW_sub H (VS_of (show vsub V9 V26 [] = true by decide +kernel))) (show inr (a1) by omega) (show inr (a2) by omega) (fun z4 σ4 F4' A4' H' O' hS4 hA4 pz4_0 pz4_1 => ⟨rretB rfl pz4_0, ?_⟩))
    refine v_back (c := c) (s := s) H (show vsub V9 V26 [] = true by decide +kernel) H' O' (fun F4 A4 H O' eF4 eA4 => ?_)
    have O := OUT_trans O O'
    -- PackHouse.mayBe
    refine w_ifne (t := 17) rfl rfl (show inr (z4) by omega) (fun b5 => ?_) (fun b5 => ?_)
    · refine Ew_of (pc' := 18) (fun _ => x_aload_n rfl rfl) ?_
      refine v_g H (o := 0) (v := .ref (D 1)) rfl rfl rfl rfl rfl (vrf (((((show F4 0 1 = F2 0 1 from (eF4 0 1))).trans ((show F2 0 1 = F 0 1 from (eF2 0 1))))).trans (pf1))) ?_
      refine Ew_of (pc' := 22) (fun _ => x_iload_n rfl rfl) ?_
      refine Ew_of (pc' := 23) (fun _ => x_iload_n rfl rfl) ?_
      refine v_sI H (o := 1) (z := a2) rfl rfl rfl rfl (n := n1) (en1) (show 0 ≤ a1 ∧ a1 < n1 by have qh0 := HIDe r1; omega) (show inr (a2) by omega) (fun σ H O' => ?_)
      have O := OUT_trans O O'
      have : SETI ((upd1 (w1) (a1) (a2))) := SETI_upd (by assumption) (MBQ_of (by omega) (by omega))
      have hU : UPD 1 (w1) ((upd1 (w1) (a1) (a2))) ((a1)) ((a2)) := .inl ⟨rfl, rfl⟩
      refine Ew_of (pc' := 25) (fun _ => x_iconst rfl) ?_
      exact w_ireturn rfl (k (1) _ _ _ H O (SF_trans (SF_trans (SF_refl) (SF_glu (ι := []) hS2 eF2 (by decide +kernel)) (any_sub (l' := []) rfl)) (SF_glu (ι := []) hS4 eF4 (by decide +kernel)) (any_sub (l' := []) rfl)) (SA_upd (SA_trans (SA_trans (SA_refl) (SA_glu (ι := []) hA2 eA2 (by decide +kernel)) (any_subA (l' := []) rfl)) (SA_glu (ι := []) hA4 eA4 (by decide +kernel)) (any_subA (l' := []) rfl)) rfl) (upd1 (w1) (a1) (a2)) (congrArg (fun q => upd1 q (a1) (a2)) (((show A4 1 = A2 1 from (eA4 1))).trans (((show A2 1 = A 1 from (eA2 1))).trans (ew1)))) (show (1) = 0 ∨ (1) = 1 by omega) (show SETI ((upd1 (w1) (a1) (a2))) by assumption) (show a1 = 3 ∧ ((1) = 1 ∧ andI (a2) (-62) = 64 ∨ (1) = 0 ∧ andI (a2) (-62) ≠ 64) ∨ (a1 < 0 ∨ 9 < a1) ∧ (1) = 0 ∨ 0 ≤ a1 ∧ a1 ≤ 9 ∧ a1 ≠ 3 ∧ ((1) = 1 ∧ mlo (a1) ≤ a2 ∧ a2 ≤ mhi (a1) ∨ (1) = 0 ∧ (a2 < mlo (a1) ∨ mhi (a1) < a2)) by omega) (show UPD ((1)) ((w1)) ((upd1 (w1) (a1) (a2))) (a1) (a2) by assumption))
    · have hU : UPD 0 (w1) (w1) ((a1)) ((a2)) := .inr ⟨rfl, rfl⟩
      refine Ew_of (pc' := 16) (fun _ => x_iconst rfl) ?_
      exact w_ireturn rfl (k (0) _ _ _ H O (SF_trans (SF_trans (SF_refl) (SF_glu (ι := []) hS2 eF2 (by decide +kernel)) (any_sub (l' := []) rfl)) (SF_glu (ι := []) hS4 eF4 (by decide +kernel)) (any_sub (l' := []) rfl)) (SA_trans (SA_trans (SA_refl) (SA_glu (ι := []) hA2 eA2 (by decide +kernel)) (any_subA (l' := []) rfl)) (SA_glu (ι := []) hA4 eA4 (by decide +kernel)) (any_subA (l' := []) rfl)) (w1) (((show A4 1 = A2 1 from (eA4 1))).trans (((show A2 1 = A 1 from (eA2 1))).trans (ew1))) (show (0) = 0 ∨ (0) = 1 by omega) (show SETI ((w1)) by assumption) (show a1 = 3 ∧ ((0) = 1 ∧ andI (a2) (-62) = 64 ∨ (0) = 0 ∧ andI (a2) (-62) ≠ 64) ∨ (a1 < 0 ∨ 9 < a1) ∧ (0) = 0 ∨ 0 ≤ a1 ∧ a1 ≤ 9 ∧ a1 ≠ 3 ∧ ((0) = 1 ∧ mlo (a1) ≤ a2 ∧ a2 ≤ mhi (a1) ∨ (0) = 0 ∧ (a2 < mlo (a1) ∨ mhi (a1) < a2)) by omega) (show UPD ((0)) ((w1)) ((w1)) (a1) (a2) by assumption))
/-- PackHouse.get: this, this.settings -/
theorem C10x {σE : rS} {D N : Nat → Nat} {F : hF} {A : hA} {d c s : Nat} {Q : wQ} (H : HW V10 σE D N F A) {a1 : Int} (pf1 : F 0 1 = (D 1 : Int)) (n1 : Int) (en1 : (N 1 : Int) = n1) (w1 : Int → Int) (ew1 : A 1 = w1) (h0 : inr (a1)) (h1 : (n1) = 10) (k : ∀ (z : Int) (σ : rS) (F' : hF) (A' : hA), HW V10 σ D N F' A' → OUT (V10).length D N σE c s D N σ c s → SF [] F F' → SA [] A A' → (inr (z)) → (0 ≤ (a1) ∧ (a1) ≤ 9 ∧ (z) = ((w1)) ((a1)) ∨ ((a1) < 0 ∨ 9 < (a1)) ∧ (z) = -1) → Q (some (I z)) σ c s) : Ew 10 (d + 1) 0 (rargs 0 [.ref (D 0), I a1]) [] σE c s Q := by
  have O := OUT_refl (n := (V10).length) (D := D) (N := N) (σ := σE) (c := c) (s := s)
  have HE := H
  replace pf1 := HIDm pf1
  replace en1 := HIDm en1
  have r1 : HID ((0 : Int) ≤ n1 ∧ n1 ≤ 1000000) := nrng (H.nle 1 (by decide)) (show (N 1 : Int) = n1 from en1)
  refine Ew_of (pc' := 1) (fun _ => x_iload_n rfl rfl) ?_
  refine w_stat24 rfl rfl (by rfl) (C25x (D := pul [] D) (N := pul [] N) (HW_sub H (VS_of (show vsub V10 V25 [] = true by decide +kernel))) (show inr (a1) by omega) (fun z2 σ2 F2' A2' H' O' hS2 hA2 pz2_0 pz2_1 => ⟨rretB rfl pz2_0, ?_⟩))
  refine v_back (c := c) (s := s) H (show vsub V10 V25 [] = true by decide +kernel) H' O' (fun F2 A2 H O' eF2 eA2 => ?_)
  have O := OUT_trans O O'
  -- PackHouse.isSetting
  refine w_ifeq (t := 16) rfl rfl (show inr (z2) by omega) (fun b3 => ?_) (fun b3 => ?_)
  · refine Ew_of (pc' := 17) (fun _ => x_iconst rfl) ?_
    exact w_ireturn rfl (k ((-1)) _ _ _ H O (SF_trans (SF_refl) (SF_glu (ι := []) hS2 eF2 (by decide +kernel)) (any_sub (l' := []) rfl)) (SA_trans (SA_refl) (SA_glu (ι := []) hA2 eA2 (by decide +kernel)) (any_subA (l' := []) rfl)) (show inr ((-1)) by omega) (show 0 ≤ a1 ∧ a1 ≤ 9 ∧ ((-1)) = ((w1)) (a1) ∨ (a1 < 0 ∨ 9 < a1) ∧ ((-1)) = -1 by omega))
  · refine Ew_of (pc' := 8) (fun _ => x_aload_n rfl rfl) ?_
    refine v_g H (o := 0) (v := .ref (D 1)) rfl rfl rfl rfl rfl (vrf ((((show F2 0 1 = F 0 1 from (eF2 0 1)))).trans (pf1))) ?_
    refine Ew_of (pc' := 12) (fun _ => x_iload_n rfl rfl) ?_
    refine v_lI H (o := 1) rfl rfl rfl rfl (n := n1) (en1) (show 0 ≤ a1 ∧ a1 < n1 by have qh0 := HIDe r1; omega) (fun v4 ev4 qv4 => ?_)
    replace qv4 := HIDm qv4
    have ev4 : (w1) (a1) = v4 := (congrFun (((show A2 1 = A 1 from (eA2 1))).trans (ew1)) (a1)).symm.trans ev4
    refine Ew_of (pc' := 17) (fun _ => x_goto rfl rfl) ?_
    exact w_ireturn rfl (k (v4) _ _ _ H O (SF_trans (SF_refl) (SF_glu (ι := []) hS2 eF2 (by decide +kernel)) (any_sub (l' := []) rfl)) (SA_trans (SA_refl) (SA_glu (ι := []) hA2 eA2 (by decide +kernel)) (any_subA (l' := []) rfl)) (show inr (v4) by have qh0 := HIDe qv4; omega) (show 0 ≤ a1 ∧ a1 ≤ 9 ∧ (v4) = ((w1)) (a1) ∨ (a1 < 0 ∨ 9 < a1) ∧ (v4) = -1 by have qh0 := HIDe qv4; omega))
/-- PackHouse.history: this, this.rows, this.rows.0, this.rows.0.bytes, this.rows.1, this.rows.1.bytes, this.rows.2, this.rows.2.bytes, this.rows.3, this.rows.3.bytes, this.past, this.past.bytes -/
theorem C14x {σE : rS} {D N : Nat → Nat} {F : hF} {A : hA} {d c s : Nat} {Q : wQ} (H : HW V14 σE D N F A) {a1 : Int} (pf1 : F 0 0 = (D 1 : Int)) (pf2 : A 1 0 = (D 2 : Int)) (pf3 : F 2 0 = (D 3 : Int)) (pf4 : A 1 1 = (D 4 : Int)) (pf5 : F 4 0 = (D 5 : Int)) (pf6 : A 1 2 = (D 6 : Int)) (pf7 : F 6 0 = (D 7 : Int)) (pf8 : A 1 3 = (D 8 : Int)) (pf9 : F 8 0 = (D 9 : Int)) (pf10 : F 0 2 = (D 10 : Int)) (pf11 : F 10 0 = (D 11 : Int)) (n1 : Int) (en1 : (N 1 : Int) = n1) (n3 : Int) (en3 : (N 3 : Int) = n3) (n5 : Int) (en5 : (N 5 : Int) = n5) (n7 : Int) (en7 : (N 7 : Int) = n7) (n9 : Int) (en9 : (N 9 : Int) = n9) (n11 : Int) (en11 : (N 11 : Int) = n11) (u2_1 : Int) (eu2_1 : F 2 1 = u2_1) (u4_1 : Int) (eu4_1 : F 4 1 = u4_1) (u6_1 : Int) (eu6_1 : F 6 1 = u6_1) (u8_1 : Int) (eu8_1 : F 8 1 = u8_1) (u10_1 : Int) (eu10_1 : F 10 1 = u10_1) (h0 : inr (a1)) (h1 : (n1) = 4) (h2 : 0 ≤ (u2_1) ∧ (u2_1) ≤ (n3) ∧ (n3) ≤ 65536) (h3 : 0 ≤ (u4_1) ∧ (u4_1) ≤ (n5) ∧ (n5) ≤ 65536) (h4 : 0 ≤ (u6_1) ∧ (u6_1) ≤ (n7) ∧ (n7) ≤ 65536) (h5 : 0 ≤ (u8_1) ∧ (u8_1) ≤ (n9) ∧ (n9) ≤ 65536) (h6 : 0 ≤ (u10_1) ∧ (u10_1) ≤ (n11) ∧ (n11) ≤ 65536) (k : ∀ (z : Int) (σ : rS) (D' N' : Nat → Nat) (F' : hF) (A' : hA) (c' s' : Nat), HW V14 σ D' N' F' A' → OUT (V14).length D N σE c s D' N' σ c' s' → SD [11] D D' → SD [11] N N' → SF [(10, 0), (10, 1), (10, 2), (10, 3), (10, 4)] F F' → SA [11] A A' → F' 10 0 = (D' 11 : Int) → ∀ m11 : Int, (N' 11 : Int) = m11 → ∀ y10_1 : Int, F' 10 1 = y10_1 → ((z) = 0 ∨ (z) = 1) → (0 ≤ (u2_1) ∧ (u2_1) ≤ (n3) ∧ (n3) ≤ 65536) → (0 ≤ (u4_1) ∧ (u4_1) ≤ (n5) ∧ (n5) ≤ 65536) → (0 ≤ (u6_1) ∧ (u6_1) ≤ (n7) ∧ (n7) ≤ 65536) → (0 ≤ (u8_1) ∧ (u8_1) ≤ (n9) ∧ (n9) ≤ 65536) → (0 ≤ (y10_1) ∧ (y10_1) ≤ (m11) ∧ (m11) ≤ 65536) → ((z) = 1 ∧ 0 ≤ (a1) ∧ (a1) ≤ 3 ∨ (z) = 0 ∧ ((a1) < 0 ∨ 3 < (a1))) → Q (some (I z)) σ c' s') : Ew 14 (d + 4) 0 (rargs 0 [.ref (D 0), I a1]) [] σE c s Q := by
  have O := OUT_refl (n := (V14).length) (D := D) (N := N) (σ := σE) (c := c) (s := s)
  have HE := H
  have r1 : HID ((-2147483648 : Int) ≤ u2_1 ∧ u2_1 ≤ 2147483647) := krg_e (show (-2147483648 : Int) ≤ F 2 1 ∧ F 2 1 ≤ 2147483647 from H.krg 2 1 (by decide)) (show F 2 1 = u2_1 from (eu2_1))
  have r2 : HID ((-2147483648 : Int) ≤ u4_1 ∧ u4_1 ≤ 2147483647) := krg_e (show (-2147483648 : Int) ≤ F 4 1 ∧ F 4 1 ≤ 2147483647 from H.krg 4 1 (by decide)) (show F 4 1 = u4_1 from (eu4_1))
  have r3 : HID ((-2147483648 : Int) ≤ u6_1 ∧ u6_1 ≤ 2147483647) := krg_e (show (-2147483648 : Int) ≤ F 6 1 ∧ F 6 1 ≤ 2147483647 from H.krg 6 1 (by decide)) (show F 6 1 = u6_1 from (eu6_1))
  have r4 : HID ((-2147483648 : Int) ≤ u8_1 ∧ u8_1 ≤ 2147483647) := krg_e (show (-2147483648 : Int) ≤ F 8 1 ∧ F 8 1 ≤ 2147483647 from H.krg 8 1 (by decide)) (show F 8 1 = u8_1 from (eu8_1))
  have r5 : HID ((-2147483648 : Int) ≤ u10_1 ∧ u10_1 ≤ 2147483647) := krg_e (show (-2147483648 : Int) ≤ F 10 1 ∧ F 10 1 ≤ 2147483647 from H.krg 10 1 (by decide)) (show F 10 1 = u10_1 from (eu10_1))
  replace pf1 := HIDm pf1
  replace pf2 := HIDm pf2
  replace pf3 := HIDm pf3
  replace pf4 := HIDm pf4
  replace pf5 := HIDm pf5
  replace pf6 := HIDm pf6
  replace pf7 := HIDm pf7
  replace pf8 := HIDm pf8
  replace pf9 := HIDm pf9
  replace pf10 := HIDm pf10
  replace pf11 := HIDm pf11
  replace en1 := HIDm en1
  replace en3 := HIDm en3
  replace en5 := HIDm en5
  replace en7 := HIDm en7
  replace en9 := HIDm en9
  replace en11 := HIDm en11
  replace eu2_1 := HIDm eu2_1
  replace eu4_1 := HIDm eu4_1
  replace eu6_1 := HIDm eu6_1
  replace eu8_1 := HIDm eu8_1
  replace eu10_1 := HIDm eu10_1
  have r6 : HID ((0 : Int) ≤ n1 ∧ n1 ≤ 1000000) := nrng (H.nle 1 (by decide)) (show (N 1 : Int) = n1 from en1)
  have r7 : HID ((0 : Int) ≤ n3 ∧ n3 ≤ 1000000) := nrng (H.nle 3 (by decide)) (show (N 3 : Int) = n3 from en3)
  have r8 : HID ((0 : Int) ≤ n5 ∧ n5 ≤ 1000000) := nrng (H.nle 5 (by decide)) (show (N 5 : Int) = n5 from en5)
  have r9 : HID ((0 : Int) ≤ n7 ∧ n7 ≤ 1000000) := nrng (H.nle 7 (by decide)) (show (N 7 : Int) = n7 from en7)
  have r10 : HID ((0 : Int) ≤ n9 ∧ n9 ≤ 1000000) := nrng (H.nle 9 (by decide)) (show (N 9 : Int) = n9 from en9)
  have r11 : HID ((0 : Int) ≤ n11 ∧ n11 ≤ 1000000) := nrng (H.nle 11 (by decide)) (show (N 11 : Int) = n11 from en11)
  refine Ew_of (pc' := 1) (fun _ => x_iload_n rfl rfl) ?_
  refine w_stat24 rfl rfl (by rfl) (C24x (D := pul [] D) (N := pul [] N) (HW_sub H (VS_of (show vsub V14 V24 [] = true by decide +kernel))) (show inr (a1) by omega) (fun z12 σ12 F12' A12' H' O' hS12 hA12 pz12_0 pz12_1 => ⟨rretB rfl pz12_0, ?_⟩))
  refine v_back (c := c) (s := s) H (show vsub V14 V24 [] = true by decide +kernel) H' O' (fun F12 A12 H O' eF12 eA12 => ?_)
  have O := OUT_trans O O'
  -- PackHouse.isRow
  refine w_ifne (t := 9) rfl rfl (show inr (z12) by omega) (fun b13 => ?_) (fun b13 => ?_)
  · refine Ew_of (pc' := 10) (fun _ => x_aload_n rfl rfl) ?_
    refine v_g H (o := 0) (v := .ref (D 10)) rfl rfl rfl rfl rfl (vrf ((((show F12 0 2 = F 0 2 from (eF12 0 2)))).trans (pf10))) ?_
    refine Ew_of (pc' := 14) (fun _ => x_aload_n rfl rfl) ?_
    refine v_g H (o := 0) (v := .ref (D 1)) rfl rfl rfl rfl rfl (vrf ((((show F12 0 0 = F 0 0 from (eF12 0 0)))).trans (pf1))) ?_
    refine Ew_of (pc' := 18) (fun _ => x_iload_n rfl rfl) ?_
    rcases (show a1 = 0 ∨ a1 = 1 ∨ a1 = 2 ∨ a1 = 3 by omega) with b14 | b14 | b14 | b14
    · refine v_lR H (o := 1) rfl rfl rfl rfl rfl (n := n1) (en1) (show 0 ≤ a1 ∧ a1 < n1 by have qh0 := HIDe r6; omega) (z := ((D 2 : Nat) : Int)) (v := .ref (D 2)) ((congrArg (A12 1) b14).trans ((congrFun (((show A12 1 = A 1 from (eA12 1)))) 0).trans (pf2))) (vrf rfl) ?_
      have r15 : HID ((0 : Int) ≤ F 10 2 ∧ F 10 2 ≤ 1) := krg_e (show (0 : Int) ≤ F12 10 2 ∧ F12 10 2 ≤ 1 from H.krg 10 2 (by decide)) (show F12 10 2 = F 10 2 from ((show F12 10 2 = F 10 2 from (eF12 10 2))))
      refine v_inv H (o := 10) rfl rfl rfl rfl rfl rfl (by rfl) (C158_Row (D := pul [10, 2, 11, 3] D) (N := pul [10, 2, 11, 3] N) (HW_sub H (VS_of (show vsub V14 V158_Row [10, 2, 11, 3] = true by decide +kernel))) ((((show F12 10 0 = F 10 0 from (eF12 10 0)))).trans (pf11)) ((((show F12 2 0 = F 2 0 from (eF12 2 0)))).trans (pf3)) (n11) (en11) (n3) (en3) (u10_1) ((((show F12 10 1 = F 10 1 from (eF12 10 1))).trans (eu10_1))) (F 10 2) (((show F12 10 2 = F 10 2 from (eF12 10 2)))) (u2_1) ((((show F12 2 1 = F 2 1 from (eF12 2 1))).trans (eu2_1))) (A 11) ((show A12 11 = A 11 from (eA12 11))) (A 3) ((show A12 3 = A 3 from (eA12 3))) (show 0 ≤ (u10_1) ∧ (u10_1) ≤ (n11) ∧ (n11) ≤ 65536 by have qh0 := HIDe r11; have qh1 := HIDe r5; omega) (show 0 ≤ (u2_1) ∧ (u2_1) ≤ (n3) ∧ (n3) ≤ 65536 by have qh0 := HIDe r1; have qh1 := HIDe r7; omega) (fun σ16 D16' N16' F16' A16' c16 s16 H' O' hD16 hN16 hS16 hA16 pm16_2 m16_2 em16_2 y16_0_1 ey16_0_1 y16_0_2 ey16_0_2 w16_2 ew16_2 pz16_0 pz16_1 pz16_2 pz16_3 => ⟨rfl, ?_⟩))
      replace pm16_2 := HIDm pm16_2
      replace em16_2 := HIDm em16_2
      replace ey16_0_1 := HIDm ey16_0_1
      replace ey16_0_2 := HIDm ey16_0_2
      refine v_backM (c := c) (s := s) H (show vsub V14 V158_Row [10, 2, 11, 3] = true by decide +kernel) H' O' hD16 (show vmov V14 [10, 2, 11, 3] [2] = true by decide +kernel) (fun D16 N16 F16 A16 H O' eD16 eN16 eF16 eA16 => ?_)
      have O := OUT_trans O O'
      -- Row.become
      have pe16_1_0 : HID (A16 1 0 = (D16 2 : Int)) := (congrFun ((show A16 1 = A12 1 from (eA16 1))) 0).trans (((congrFun (((show A12 1 = A 1 from (eA12 1)))) 0).trans (pf2)).trans (congrArg (fun q : Nat => (q : Int)) ((show D16 2 = D 2 from (eD16 2).trans (hD16 1 rfl))).symm))
      have pe16_1_1 : HID (A16 1 1 = (D16 4 : Int)) := (congrFun ((show A16 1 = A12 1 from (eA16 1))) 1).trans (((congrFun (((show A12 1 = A 1 from (eA12 1)))) 1).trans (pf4)).trans (congrArg (fun q : Nat => (q : Int)) ((show D16 4 = D 4 from (eD16 4))).symm))
      have pe16_1_2 : HID (A16 1 2 = (D16 6 : Int)) := (congrFun ((show A16 1 = A12 1 from (eA16 1))) 2).trans (((congrFun (((show A12 1 = A 1 from (eA12 1)))) 2).trans (pf6)).trans (congrArg (fun q : Nat => (q : Int)) ((show D16 6 = D 6 from (eD16 6))).symm))
      have pe16_1_3 : HID (A16 1 3 = (D16 8 : Int)) := (congrFun ((show A16 1 = A12 1 from (eA16 1))) 3).trans (((congrFun (((show A12 1 = A 1 from (eA12 1)))) 3).trans (pf8)).trans (congrArg (fun q : Nat => (q : Int)) ((show D16 8 = D 8 from (eD16 8))).symm))
      have pf16_0_0 : HID (F16 0 0 = (D16 1 : Int)) := ((show F16 0 0 = F12 0 0 from (eF16 0 0))).trans (((((show F12 0 0 = F 0 0 from (eF12 0 0)))).trans (pf1)).trans (congrArg (fun q : Nat => (q : Int)) ((show D16 1 = D 1 from (eD16 1))).symm))
      have pf16_0_2 : HID (F16 0 2 = (D16 10 : Int)) := ((show F16 0 2 = F12 0 2 from (eF16 0 2))).trans (((((show F12 0 2 = F 0 2 from (eF12 0 2)))).trans (pf10)).trans (congrArg (fun q : Nat => (q : Int)) ((show D16 10 = D 10 from (eD16 10).trans (hD16 0 rfl))).symm))
      have pf16_10_0 : HID (F16 10 0 = (D16 11 : Int)) := (eF16 10 0).trans (pm16_2.trans (congrArg (fun q : Nat => (q : Int)) (eD16 11).symm))
      have pf16_2_0 : HID (F16 2 0 = (D16 3 : Int)) := ((show F16 2 0 = F12 2 0 from (eF16 2 0).trans (hS16 1 0 rfl))).trans (((((show F12 2 0 = F 2 0 from (eF12 2 0)))).trans (pf3)).trans (congrArg (fun q : Nat => (q : Int)) ((show D16 3 = D 3 from (eD16 3).trans (hD16 3 rfl))).symm))
      have pf16_4_0 : HID (F16 4 0 = (D16 5 : Int)) := ((show F16 4 0 = F12 4 0 from (eF16 4 0))).trans (((((show F12 4 0 = F 4 0 from (eF12 4 0)))).trans (pf5)).trans (congrArg (fun q : Nat => (q : Int)) ((show D16 5 = D 5 from (eD16 5))).symm))
      have pf16_6_0 : HID (F16 6 0 = (D16 7 : Int)) := ((show F16 6 0 = F12 6 0 from (eF16 6 0))).trans (((((show F12 6 0 = F 6 0 from (eF12 6 0)))).trans (pf7)).trans (congrArg (fun q : Nat => (q : Int)) ((show D16 7 = D 7 from (eD16 7))).symm))
      have pf16_8_0 : HID (F16 8 0 = (D16 9 : Int)) := ((show F16 8 0 = F12 8 0 from (eF16 8 0))).trans (((((show F12 8 0 = F 8 0 from (eF12 8 0)))).trans (pf9)).trans (congrArg (fun q : Nat => (q : Int)) ((show D16 9 = D 9 from (eD16 9))).symm))
      have r17 : HID ((0 : Int) ≤ m16_2 ∧ m16_2 ≤ 1000000) := nrng (H.nle 11 (by decide)) (show (N16 11 : Int) = m16_2 from (congrArg (fun q : Nat => (q : Int)) (eN16 11)).trans em16_2)
      have r18 : HID ((-2147483648 : Int) ≤ y16_0_1 ∧ y16_0_1 ≤ 2147483647) := krg_e (show (-2147483648 : Int) ≤ F16 10 1 ∧ F16 10 1 ≤ 2147483647 from H.krg 10 1 (by decide)) (show F16 10 1 = y16_0_1 from ((eF16 10 1).trans ey16_0_1))
      have r19 : HID ((0 : Int) ≤ y16_0_2 ∧ y16_0_2 ≤ 1) := krg_e (show (0 : Int) ≤ F16 10 2 ∧ F16 10 2 ≤ 1 from H.krg 10 2 (by decide)) (show F16 10 2 = y16_0_2 from ((eF16 10 2).trans ey16_0_2))
      refine Ew_of (pc' := 23) (fun _ => x_iconst rfl) ?_
      exact w_ireturn rfl (k (1) _ _ _ _ _ _ _ H O (SD_trans (SD_refl) (SD_glu (ι := [10, 2, 11, 3]) hD16 eD16 (by decide +kernel)) (any_subA (l' := [11]) rfl)) (SD_trans (SD_refl) (SD_glu (ι := [10, 2, 11, 3]) hN16 eN16 (by decide +kernel)) (any_subA (l' := [11]) rfl)) (SF_trans (SF_trans (SF_refl) (SF_glu (ι := []) hS12 eF12 (by decide +kernel)) (any_sub (l' := []) rfl)) (SF_glu (ι := [10, 2, 11, 3]) hS16 eF16 (by decide +kernel)) (any_sub (l' := [(10, 0), (10, 1), (10, 2), (10, 3), (10, 4)]) rfl)) (SA_trans (SA_trans (SA_refl) (SA_glu (ι := []) hA12 eA12 (by decide +kernel)) (any_subA (l' := []) rfl)) (SA_glu (ι := [10, 2, 11, 3]) hA16 eA16 (by decide +kernel)) (any_subA (l' := [11]) rfl)) (pf16_10_0) (m16_2) ((congrArg (fun q : Nat => (q : Int)) (eN16 11)).trans em16_2) (y16_0_1) (((eF16 10 1).trans ey16_0_1)) (show (1) = 0 ∨ (1) = 1 by omega) (show 0 ≤ (u2_1) ∧ (u2_1) ≤ (n3) ∧ (n3) ≤ 65536 by have qh0 := HIDe r1; have qh1 := HIDe r7; omega) (show 0 ≤ (u4_1) ∧ (u4_1) ≤ (n5) ∧ (n5) ≤ 65536 by have qh0 := HIDe r2; have qh1 := HIDe r8; omega) (show 0 ≤ (u6_1) ∧ (u6_1) ≤ (n7) ∧ (n7) ≤ 65536 by have qh0 := HIDe r3; have qh1 := HIDe r9; omega) (show 0 ≤ (u8_1) ∧ (u8_1) ≤ (n9) ∧ (n9) ≤ 65536 by have qh0 := HIDe r10; have qh1 := HIDe r4; omega) (show 0 ≤ (y16_0_1) ∧ (y16_0_1) ≤ (m16_2) ∧ (m16_2) ≤ 65536 by have qh0 := HIDe r17; have qh1 := HIDe r18; omega) (show (1) = 1 ∧ 0 ≤ a1 ∧ a1 ≤ 3 ∨ (1) = 0 ∧ (a1 < 0 ∨ 3 < a1) by omega))
    · refine v_lR H (o := 1) rfl rfl rfl rfl rfl (n := n1) (en1) (show 0 ≤ a1 ∧ a1 < n1 by have qh0 := HIDe r6; omega) (z := ((D 4 : Nat) : Int)) (v := .ref (D 4)) ((congrArg (A12 1) b14).trans ((congrFun (((show A12 1 = A 1 from (eA12 1)))) 1).trans (pf4))) (vrf rfl) ?_
      have r20 : HID ((0 : Int) ≤ F 10 2 ∧ F 10 2 ≤ 1) := krg_e (show (0 : Int) ≤ F12 10 2 ∧ F12 10 2 ≤ 1 from H.krg 10 2 (by decide)) (show F12 10 2 = F 10 2 from ((show F12 10 2 = F 10 2 from (eF12 10 2))))
      refine v_inv H (o := 10) rfl rfl rfl rfl rfl rfl (by rfl) (C158_Row (D := pul [10, 4, 11, 5] D) (N := pul [10, 4, 11, 5] N) (HW_sub H (VS_of (show vsub V14 V158_Row [10, 4, 11, 5] = true by decide +kernel))) ((((show F12 10 0 = F 10 0 from (eF12 10 0)))).trans (pf11)) ((((show F12 4 0 = F 4 0 from (eF12 4 0)))).trans (pf5)) (n11) (en11) (n5) (en5) (u10_1) ((((show F12 10 1 = F 10 1 from (eF12 10 1))).trans (eu10_1))) (F 10 2) (((show F12 10 2 = F 10 2 from (eF12 10 2)))) (u4_1) ((((show F12 4 1 = F 4 1 from (eF12 4 1))).trans (eu4_1))) (A 11) ((show A12 11 = A 11 from (eA12 11))) (A 5) ((show A12 5 = A 5 from (eA12 5))) (show 0 ≤ (u10_1) ∧ (u10_1) ≤ (n11) ∧ (n11) ≤ 65536 by have qh0 := HIDe r11; have qh1 := HIDe r5; omega) (show 0 ≤ (u4_1) ∧ (u4_1) ≤ (n5) ∧ (n5) ≤ 65536 by have qh0 := HIDe r2; have qh1 := HIDe r8; omega) (fun σ21 D21' N21' F21' A21' c21 s21 H' O' hD21 hN21 hS21 hA21 pm21_2 m21_2 em21_2 y21_0_1 ey21_0_1 y21_0_2 ey21_0_2 w21_2 ew21_2 pz21_0 pz21_1 pz21_2 pz21_3 => ⟨rfl, ?_⟩))
      replace pm21_2 := HIDm pm21_2
      replace em21_2 := HIDm em21_2
      replace ey21_0_1 := HIDm ey21_0_1
      replace ey21_0_2 := HIDm ey21_0_2
      refine v_backM (c := c) (s := s) H (show vsub V14 V158_Row [10, 4, 11, 5] = true by decide +kernel) H' O' hD21 (show vmov V14 [10, 4, 11, 5] [2] = true by decide +kernel) (fun D21 N21 F21 A21 H O' eD21 eN21 eF21 eA21 => ?_)
      have O := OUT_trans O O'
      -- Row.become
      have pe21_1_0 : HID (A21 1 0 = (D21 2 : Int)) := (congrFun ((show A21 1 = A12 1 from (eA21 1))) 0).trans (((congrFun (((show A12 1 = A 1 from (eA12 1)))) 0).trans (pf2)).trans (congrArg (fun q : Nat => (q : Int)) ((show D21 2 = D 2 from (eD21 2))).symm))
      have pe21_1_1 : HID (A21 1 1 = (D21 4 : Int)) := (congrFun ((show A21 1 = A12 1 from (eA21 1))) 1).trans (((congrFun (((show A12 1 = A 1 from (eA12 1)))) 1).trans (pf4)).trans (congrArg (fun q : Nat => (q : Int)) ((show D21 4 = D 4 from (eD21 4).trans (hD21 1 rfl))).symm))
      have pe21_1_2 : HID (A21 1 2 = (D21 6 : Int)) := (congrFun ((show A21 1 = A12 1 from (eA21 1))) 2).trans (((congrFun (((show A12 1 = A 1 from (eA12 1)))) 2).trans (pf6)).trans (congrArg (fun q : Nat => (q : Int)) ((show D21 6 = D 6 from (eD21 6))).symm))
      have pe21_1_3 : HID (A21 1 3 = (D21 8 : Int)) := (congrFun ((show A21 1 = A12 1 from (eA21 1))) 3).trans (((congrFun (((show A12 1 = A 1 from (eA12 1)))) 3).trans (pf8)).trans (congrArg (fun q : Nat => (q : Int)) ((show D21 8 = D 8 from (eD21 8))).symm))
      have pf21_0_0 : HID (F21 0 0 = (D21 1 : Int)) := ((show F21 0 0 = F12 0 0 from (eF21 0 0))).trans (((((show F12 0 0 = F 0 0 from (eF12 0 0)))).trans (pf1)).trans (congrArg (fun q : Nat => (q : Int)) ((show D21 1 = D 1 from (eD21 1))).symm))
      have pf21_0_2 : HID (F21 0 2 = (D21 10 : Int)) := ((show F21 0 2 = F12 0 2 from (eF21 0 2))).trans (((((show F12 0 2 = F 0 2 from (eF12 0 2)))).trans (pf10)).trans (congrArg (fun q : Nat => (q : Int)) ((show D21 10 = D 10 from (eD21 10).trans (hD21 0 rfl))).symm))
      have pf21_10_0 : HID (F21 10 0 = (D21 11 : Int)) := (eF21 10 0).trans (pm21_2.trans (congrArg (fun q : Nat => (q : Int)) (eD21 11).symm))
      have pf21_2_0 : HID (F21 2 0 = (D21 3 : Int)) := ((show F21 2 0 = F12 2 0 from (eF21 2 0))).trans (((((show F12 2 0 = F 2 0 from (eF12 2 0)))).trans (pf3)).trans (congrArg (fun q : Nat => (q : Int)) ((show D21 3 = D 3 from (eD21 3))).symm))
      have pf21_4_0 : HID (F21 4 0 = (D21 5 : Int)) := ((show F21 4 0 = F12 4 0 from (eF21 4 0).trans (hS21 1 0 rfl))).trans (((((show F12 4 0 = F 4 0 from (eF12 4 0)))).trans (pf5)).trans (congrArg (fun q : Nat => (q : Int)) ((show D21 5 = D 5 from (eD21 5).trans (hD21 3 rfl))).symm))
      have pf21_6_0 : HID (F21 6 0 = (D21 7 : Int)) := ((show F21 6 0 = F12 6 0 from (eF21 6 0))).trans (((((show F12 6 0 = F 6 0 from (eF12 6 0)))).trans (pf7)).trans (congrArg (fun q : Nat => (q : Int)) ((show D21 7 = D 7 from (eD21 7))).symm))
      have pf21_8_0 : HID (F21 8 0 = (D21 9 : Int)) := ((show F21 8 0 = F12 8 0 from (eF21 8 0))).trans (((((show F12 8 0 = F 8 0 from (eF12 8 0)))).trans (pf9)).trans (congrArg (fun q : Nat => (q : Int)) ((show D21 9 = D 9 from (eD21 9))).symm))
      have r22 : HID ((0 : Int) ≤ m21_2 ∧ m21_2 ≤ 1000000) := nrng (H.nle 11 (by decide)) (show (N21 11 : Int) = m21_2 from (congrArg (fun q : Nat => (q : Int)) (eN21 11)).trans em21_2)
      have r23 : HID ((-2147483648 : Int) ≤ y21_0_1 ∧ y21_0_1 ≤ 2147483647) := krg_e (show (-2147483648 : Int) ≤ F21 10 1 ∧ F21 10 1 ≤ 2147483647 from H.krg 10 1 (by decide)) (show F21 10 1 = y21_0_1 from ((eF21 10 1).trans ey21_0_1))
      have r24 : HID ((0 : Int) ≤ y21_0_2 ∧ y21_0_2 ≤ 1) := krg_e (show (0 : Int) ≤ F21 10 2 ∧ F21 10 2 ≤ 1 from H.krg 10 2 (by decide)) (show F21 10 2 = y21_0_2 from ((eF21 10 2).trans ey21_0_2))
      refine Ew_of (pc' := 23) (fun _ => x_iconst rfl) ?_
      exact w_ireturn rfl (k (1) _ _ _ _ _ _ _ H O (SD_trans (SD_refl) (SD_glu (ι := [10, 4, 11, 5]) hD21 eD21 (by decide +kernel)) (any_subA (l' := [11]) rfl)) (SD_trans (SD_refl) (SD_glu (ι := [10, 4, 11, 5]) hN21 eN21 (by decide +kernel)) (any_subA (l' := [11]) rfl)) (SF_trans (SF_trans (SF_refl) (SF_glu (ι := []) hS12 eF12 (by decide +kernel)) (any_sub (l' := []) rfl)) (SF_glu (ι := [10, 4, 11, 5]) hS21 eF21 (by decide +kernel)) (any_sub (l' := [(10, 0), (10, 1), (10, 2), (10, 3), (10, 4)]) rfl)) (SA_trans (SA_trans (SA_refl) (SA_glu (ι := []) hA12 eA12 (by decide +kernel)) (any_subA (l' := []) rfl)) (SA_glu (ι := [10, 4, 11, 5]) hA21 eA21 (by decide +kernel)) (any_subA (l' := [11]) rfl)) (pf21_10_0) (m21_2) ((congrArg (fun q : Nat => (q : Int)) (eN21 11)).trans em21_2) (y21_0_1) (((eF21 10 1).trans ey21_0_1)) (show (1) = 0 ∨ (1) = 1 by omega) (show 0 ≤ (u2_1) ∧ (u2_1) ≤ (n3) ∧ (n3) ≤ 65536 by have qh0 := HIDe r1; have qh1 := HIDe r7; omega) (show 0 ≤ (u4_1) ∧ (u4_1) ≤ (n5) ∧ (n5) ≤ 65536 by have qh0 := HIDe r2; have qh1 := HIDe r8; omega) (show 0 ≤ (u6_1) ∧ (u6_1) ≤ (n7) ∧ (n7) ≤ 65536 by have qh0 := HIDe r3; have qh1 := HIDe r9; omega) (show 0 ≤ (u8_1) ∧ (u8_1) ≤ (n9) ∧ (n9) ≤ 65536 by have qh0 := HIDe r10; have qh1 := HIDe r4; omega) (show 0 ≤ (y21_0_1) ∧ (y21_0_1) ≤ (m21_2) ∧ (m21_2) ≤ 65536 by have qh0 := HIDe r22; have qh1 := HIDe r23; omega) (show (1) = 1 ∧ 0 ≤ a1 ∧ a1 ≤ 3 ∨ (1) = 0 ∧ (a1 < 0 ∨ 3 < a1) by omega))
    · refine v_lR H (o := 1) rfl rfl rfl rfl rfl (n := n1) (en1) (show 0 ≤ a1 ∧ a1 < n1 by have qh0 := HIDe r6; omega) (z := ((D 6 : Nat) : Int)) (v := .ref (D 6)) ((congrArg (A12 1) b14).trans ((congrFun (((show A12 1 = A 1 from (eA12 1)))) 2).trans (pf6))) (vrf rfl) ?_
      have r25 : HID ((0 : Int) ≤ F 10 2 ∧ F 10 2 ≤ 1) := krg_e (show (0 : Int) ≤ F12 10 2 ∧ F12 10 2 ≤ 1 from H.krg 10 2 (by decide)) (show F12 10 2 = F 10 2 from ((show F12 10 2 = F 10 2 from (eF12 10 2))))
      refine v_inv H (o := 10) rfl rfl rfl rfl rfl rfl (by rfl) (C158_Row (D := pul [10, 6, 11, 7] D) (N := pul [10, 6, 11, 7] N) (HW_sub H (VS_of (show vsub V14 V158_Row [10, 6, 11, 7] = true by decide +kernel))) ((((show F12 10 0 = F 10 0 from (eF12 10 0)))).trans (pf11)) ((((show F12 6 0 = F 6 0 from (eF12 6 0)))).trans (pf7)) (n11) (en11) (n7) (en7) (u10_1) ((((show F12 10 1 = F 10 1 from (eF12 10 1))).trans (eu10_1))) (F 10 2) (((show F12 10 2 = F 10 2 from (eF12 10 2)))) (u6_1) ((((show F12 6 1 = F 6 1 from (eF12 6 1))).trans (eu6_1))) (A 11) ((show A12 11 = A 11 from (eA12 11))) (A 7) ((show A12 7 = A 7 from (eA12 7))) (show 0 ≤ (u10_1) ∧ (u10_1) ≤ (n11) ∧ (n11) ≤ 65536 by have qh0 := HIDe r11; have qh1 := HIDe r5; omega) (show 0 ≤ (u6_1) ∧ (u6_1) ≤ (n7) ∧ (n7) ≤ 65536 by have qh0 := HIDe r3; have qh1 := HIDe r9; omega) (fun σ26 D26' N26' F26' A26' c26 s26 H' O' hD26 hN26 hS26 hA26 pm26_2 m26_2 em26_2 y26_0_1 ey26_0_1 y26_0_2 ey26_0_2 w26_2 ew26_2 pz26_0 pz26_1 pz26_2 pz26_3 => ⟨rfl, ?_⟩))
      replace pm26_2 := HIDm pm26_2
      replace em26_2 := HIDm em26_2
      replace ey26_0_1 := HIDm ey26_0_1
      replace ey26_0_2 := HIDm ey26_0_2
      refine v_backM (c := c) (s := s) H (show vsub V14 V158_Row [10, 6, 11, 7] = true by decide +kernel) H' O' hD26 (show vmov V14 [10, 6, 11, 7] [2] = true by decide +kernel) (fun D26 N26 F26 A26 H O' eD26 eN26 eF26 eA26 => ?_)
      have O := OUT_trans O O'
      -- Row.become
      have pe26_1_0 : HID (A26 1 0 = (D26 2 : Int)) := (congrFun ((show A26 1 = A12 1 from (eA26 1))) 0).trans (((congrFun (((show A12 1 = A 1 from (eA12 1)))) 0).trans (pf2)).trans (congrArg (fun q : Nat => (q : Int)) ((show D26 2 = D 2 from (eD26 2))).symm))
      have pe26_1_1 : HID (A26 1 1 = (D26 4 : Int)) := (congrFun ((show A26 1 = A12 1 from (eA26 1))) 1).trans (((congrFun (((show A12 1 = A 1 from (eA12 1)))) 1).trans (pf4)).trans (congrArg (fun q : Nat => (q : Int)) ((show D26 4 = D 4 from (eD26 4))).symm))
      have pe26_1_2 : HID (A26 1 2 = (D26 6 : Int)) := (congrFun ((show A26 1 = A12 1 from (eA26 1))) 2).trans (((congrFun (((show A12 1 = A 1 from (eA12 1)))) 2).trans (pf6)).trans (congrArg (fun q : Nat => (q : Int)) ((show D26 6 = D 6 from (eD26 6).trans (hD26 1 rfl))).symm))
      have pe26_1_3 : HID (A26 1 3 = (D26 8 : Int)) := (congrFun ((show A26 1 = A12 1 from (eA26 1))) 3).trans (((congrFun (((show A12 1 = A 1 from (eA12 1)))) 3).trans (pf8)).trans (congrArg (fun q : Nat => (q : Int)) ((show D26 8 = D 8 from (eD26 8))).symm))
      have pf26_0_0 : HID (F26 0 0 = (D26 1 : Int)) := ((show F26 0 0 = F12 0 0 from (eF26 0 0))).trans (((((show F12 0 0 = F 0 0 from (eF12 0 0)))).trans (pf1)).trans (congrArg (fun q : Nat => (q : Int)) ((show D26 1 = D 1 from (eD26 1))).symm))
      have pf26_0_2 : HID (F26 0 2 = (D26 10 : Int)) := ((show F26 0 2 = F12 0 2 from (eF26 0 2))).trans (((((show F12 0 2 = F 0 2 from (eF12 0 2)))).trans (pf10)).trans (congrArg (fun q : Nat => (q : Int)) ((show D26 10 = D 10 from (eD26 10).trans (hD26 0 rfl))).symm))
      have pf26_10_0 : HID (F26 10 0 = (D26 11 : Int)) := (eF26 10 0).trans (pm26_2.trans (congrArg (fun q : Nat => (q : Int)) (eD26 11).symm))
      have pf26_2_0 : HID (F26 2 0 = (D26 3 : Int)) := ((show F26 2 0 = F12 2 0 from (eF26 2 0))).trans (((((show F12 2 0 = F 2 0 from (eF12 2 0)))).trans (pf3)).trans (congrArg (fun q : Nat => (q : Int)) ((show D26 3 = D 3 from (eD26 3))).symm))
      have pf26_4_0 : HID (F26 4 0 = (D26 5 : Int)) := ((show F26 4 0 = F12 4 0 from (eF26 4 0))).trans (((((show F12 4 0 = F 4 0 from (eF12 4 0)))).trans (pf5)).trans (congrArg (fun q : Nat => (q : Int)) ((show D26 5 = D 5 from (eD26 5))).symm))
      have pf26_6_0 : HID (F26 6 0 = (D26 7 : Int)) := ((show F26 6 0 = F12 6 0 from (eF26 6 0).trans (hS26 1 0 rfl))).trans (((((show F12 6 0 = F 6 0 from (eF12 6 0)))).trans (pf7)).trans (congrArg (fun q : Nat => (q : Int)) ((show D26 7 = D 7 from (eD26 7).trans (hD26 3 rfl))).symm))
      have pf26_8_0 : HID (F26 8 0 = (D26 9 : Int)) := ((show F26 8 0 = F12 8 0 from (eF26 8 0))).trans (((((show F12 8 0 = F 8 0 from (eF12 8 0)))).trans (pf9)).trans (congrArg (fun q : Nat => (q : Int)) ((show D26 9 = D 9 from (eD26 9))).symm))
      have r27 : HID ((0 : Int) ≤ m26_2 ∧ m26_2 ≤ 1000000) := nrng (H.nle 11 (by decide)) (show (N26 11 : Int) = m26_2 from (congrArg (fun q : Nat => (q : Int)) (eN26 11)).trans em26_2)
      have r28 : HID ((-2147483648 : Int) ≤ y26_0_1 ∧ y26_0_1 ≤ 2147483647) := krg_e (show (-2147483648 : Int) ≤ F26 10 1 ∧ F26 10 1 ≤ 2147483647 from H.krg 10 1 (by decide)) (show F26 10 1 = y26_0_1 from ((eF26 10 1).trans ey26_0_1))
      have r29 : HID ((0 : Int) ≤ y26_0_2 ∧ y26_0_2 ≤ 1) := krg_e (show (0 : Int) ≤ F26 10 2 ∧ F26 10 2 ≤ 1 from H.krg 10 2 (by decide)) (show F26 10 2 = y26_0_2 from ((eF26 10 2).trans ey26_0_2))
      refine Ew_of (pc' := 23) (fun _ => x_iconst rfl) ?_
      exact w_ireturn rfl (k (1) _ _ _ _ _ _ _ H O (SD_trans (SD_refl) (SD_glu (ι := [10, 6, 11, 7]) hD26 eD26 (by decide +kernel)) (any_subA (l' := [11]) rfl)) (SD_trans (SD_refl) (SD_glu (ι := [10, 6, 11, 7]) hN26 eN26 (by decide +kernel)) (any_subA (l' := [11]) rfl)) (SF_trans (SF_trans (SF_refl) (SF_glu (ι := []) hS12 eF12 (by decide +kernel)) (any_sub (l' := []) rfl)) (SF_glu (ι := [10, 6, 11, 7]) hS26 eF26 (by decide +kernel)) (any_sub (l' := [(10, 0), (10, 1), (10, 2), (10, 3), (10, 4)]) rfl)) (SA_trans (SA_trans (SA_refl) (SA_glu (ι := []) hA12 eA12 (by decide +kernel)) (any_subA (l' := []) rfl)) (SA_glu (ι := [10, 6, 11, 7]) hA26 eA26 (by decide +kernel)) (any_subA (l' := [11]) rfl)) (pf26_10_0) (m26_2) ((congrArg (fun q : Nat => (q : Int)) (eN26 11)).trans em26_2) (y26_0_1) (((eF26 10 1).trans ey26_0_1)) (show (1) = 0 ∨ (1) = 1 by omega) (show 0 ≤ (u2_1) ∧ (u2_1) ≤ (n3) ∧ (n3) ≤ 65536 by have qh0 := HIDe r1; have qh1 := HIDe r7; omega) (show 0 ≤ (u4_1) ∧ (u4_1) ≤ (n5) ∧ (n5) ≤ 65536 by have qh0 := HIDe r2; have qh1 := HIDe r8; omega) (show 0 ≤ (u6_1) ∧ (u6_1) ≤ (n7) ∧ (n7) ≤ 65536 by have qh0 := HIDe r3; have qh1 := HIDe r9; omega) (show 0 ≤ (u8_1) ∧ (u8_1) ≤ (n9) ∧ (n9) ≤ 65536 by have qh0 := HIDe r10; have qh1 := HIDe r4; omega) (show 0 ≤ (y26_0_1) ∧ (y26_0_1) ≤ (m26_2) ∧ (m26_2) ≤ 65536 by have qh0 := HIDe r27; have qh1 := HIDe r28; omega) (show (1) = 1 ∧ 0 ≤ a1 ∧ a1 ≤ 3 ∨ (1) = 0 ∧ (a1 < 0 ∨ 3 < a1) by omega))
    · refine v_lR H (o := 1) rfl rfl rfl rfl rfl (n := n1) (en1) (show 0 ≤ a1 ∧ a1 < n1 by have qh0 := HIDe r6; omega) (z := ((D 8 : Nat) : Int)) (v := .ref (D 8)) ((congrArg (A12 1) b14).trans ((congrFun (((show A12 1 = A 1 from (eA12 1)))) 3).trans (pf8))) (vrf rfl) ?_
      have r30 : HID ((0 : Int) ≤ F 10 2 ∧ F 10 2 ≤ 1) := krg_e (show (0 : Int) ≤ F12 10 2 ∧ F12 10 2 ≤ 1 from H.krg 10 2 (by decide)) (show F12 10 2 = F 10 2 from ((show F12 10 2 = F 10 2 from (eF12 10 2))))
      refine v_inv H (o := 10) rfl rfl rfl rfl rfl rfl (by rfl) (C158_Row (D := pul [10, 8, 11, 9] D) (N := pul [10, 8, 11, 9] N) (HW_sub H (VS_of (show vsub V14 V158_Row [10, 8, 11, 9] = true by decide +kernel))) ((((show F12 10 0 = F 10 0 from (eF12 10 0)))).trans (pf11)) ((((show F12 8 0 = F 8 0 from (eF12 8 0)))).trans (pf9)) (n11) (en11) (n9) (en9) (u10_1) ((((show F12 10 1 = F 10 1 from (eF12 10 1))).trans (eu10_1))) (F 10 2) (((show F12 10 2 = F 10 2 from (eF12 10 2)))) (u8_1) ((((show F12 8 1 = F 8 1 from (eF12 8 1))).trans (eu8_1))) (A 11) ((show A12 11 = A 11 from (eA12 11))) (A 9) ((show A12 9 = A 9 from (eA12 9))) (show 0 ≤ (u10_1) ∧ (u10_1) ≤ (n11) ∧ (n11) ≤ 65536 by have qh0 := HIDe r11; have qh1 := HIDe r5; omega) (show 0 ≤ (u8_1) ∧ (u8_1) ≤ (n9) ∧ (n9) ≤ 65536 by have qh0 := HIDe r10; have qh1 := HIDe r4; omega) (fun σ31 D31' N31' F31' A31' c31 s31 H' O' hD31 hN31 hS31 hA31 pm31_2 m31_2 em31_2 y31_0_1 ey31_0_1 y31_0_2 ey31_0_2 w31_2 ew31_2 pz31_0 pz31_1 pz31_2 pz31_3 => ⟨rfl, ?_⟩))
      replace pm31_2 := HIDm pm31_2
      replace em31_2 := HIDm em31_2
      replace ey31_0_1 := HIDm ey31_0_1
      replace ey31_0_2 := HIDm ey31_0_2
      refine v_backM (c := c) (s := s) H (show vsub V14 V158_Row [10, 8, 11, 9] = true by decide +kernel) H' O' hD31 (show vmov V14 [10, 8, 11, 9] [2] = true by decide +kernel) (fun D31 N31 F31 A31 H O' eD31 eN31 eF31 eA31 => ?_)
      have O := OUT_trans O O'
      -- Row.become
      have pe31_1_0 : HID (A31 1 0 = (D31 2 : Int)) := (congrFun ((show A31 1 = A12 1 from (eA31 1))) 0).trans (((congrFun (((show A12 1 = A 1 from (eA12 1)))) 0).trans (pf2)).trans (congrArg (fun q : Nat => (q : Int)) ((show D31 2 = D 2 from (eD31 2))).symm))
      have pe31_1_1 : HID (A31 1 1 = (D31 4 : Int)) := (congrFun ((show A31 1 = A12 1 from (eA31 1))) 1).trans (((congrFun (((show A12 1 = A 1 from (eA12 1)))) 1).trans (pf4)).trans (congrArg (fun q : Nat => (q : Int)) ((show D31 4 = D 4 from (eD31 4))).symm))
      have pe31_1_2 : HID (A31 1 2 = (D31 6 : Int)) := (congrFun ((show A31 1 = A12 1 from (eA31 1))) 2).trans (((congrFun (((show A12 1 = A 1 from (eA12 1)))) 2).trans (pf6)).trans (congrArg (fun q : Nat => (q : Int)) ((show D31 6 = D 6 from (eD31 6))).symm))
      have pe31_1_3 : HID (A31 1 3 = (D31 8 : Int)) := (congrFun ((show A31 1 = A12 1 from (eA31 1))) 3).trans (((congrFun (((show A12 1 = A 1 from (eA12 1)))) 3).trans (pf8)).trans (congrArg (fun q : Nat => (q : Int)) ((show D31 8 = D 8 from (eD31 8).trans (hD31 1 rfl))).symm))
      have pf31_0_0 : HID (F31 0 0 = (D31 1 : Int)) := ((show F31 0 0 = F12 0 0 from (eF31 0 0))).trans (((((show F12 0 0 = F 0 0 from (eF12 0 0)))).trans (pf1)).trans (congrArg (fun q : Nat => (q : Int)) ((show D31 1 = D 1 from (eD31 1))).symm))
      have pf31_0_2 : HID (F31 0 2 = (D31 10 : Int)) := ((show F31 0 2 = F12 0 2 from (eF31 0 2))).trans (((((show F12 0 2 = F 0 2 from (eF12 0 2)))).trans (pf10)).trans (congrArg (fun q : Nat => (q : Int)) ((show D31 10 = D 10 from (eD31 10).trans (hD31 0 rfl))).symm))
      have pf31_10_0 : HID (F31 10 0 = (D31 11 : Int)) := (eF31 10 0).trans (pm31_2.trans (congrArg (fun q : Nat => (q : Int)) (eD31 11).symm))
      have pf31_2_0 : HID (F31 2 0 = (D31 3 : Int)) := ((show F31 2 0 = F12 2 0 from (eF31 2 0))).trans (((((show F12 2 0 = F 2 0 from (eF12 2 0)))).trans (pf3)).trans (congrArg (fun q : Nat => (q : Int)) ((show D31 3 = D 3 from (eD31 3))).symm))
      have pf31_4_0 : HID (F31 4 0 = (D31 5 : Int)) := ((show F31 4 0 = F12 4 0 from (eF31 4 0))).trans (((((show F12 4 0 = F 4 0 from (eF12 4 0)))).trans (pf5)).trans (congrArg (fun q : Nat => (q : Int)) ((show D31 5 = D 5 from (eD31 5))).symm))
      have pf31_6_0 : HID (F31 6 0 = (D31 7 : Int)) := ((show F31 6 0 = F12 6 0 from (eF31 6 0))).trans (((((show F12 6 0 = F 6 0 from (eF12 6 0)))).trans (pf7)).trans (congrArg (fun q : Nat => (q : Int)) ((show D31 7 = D 7 from (eD31 7))).symm))
      have pf31_8_0 : HID (F31 8 0 = (D31 9 : Int)) := ((show F31 8 0 = F12 8 0 from (eF31 8 0).trans (hS31 1 0 rfl))).trans (((((show F12 8 0 = F 8 0 from (eF12 8 0)))).trans (pf9)).trans (congrArg (fun q : Nat => (q : Int)) ((show D31 9 = D 9 from (eD31 9).trans (hD31 3 rfl))).symm))
      have r32 : HID ((0 : Int) ≤ m31_2 ∧ m31_2 ≤ 1000000) := nrng (H.nle 11 (by decide)) (show (N31 11 : Int) = m31_2 from (congrArg (fun q : Nat => (q : Int)) (eN31 11)).trans em31_2)
      have r33 : HID ((-2147483648 : Int) ≤ y31_0_1 ∧ y31_0_1 ≤ 2147483647) := krg_e (show (-2147483648 : Int) ≤ F31 10 1 ∧ F31 10 1 ≤ 2147483647 from H.krg 10 1 (by decide)) (show F31 10 1 = y31_0_1 from ((eF31 10 1).trans ey31_0_1))
      have r34 : HID ((0 : Int) ≤ y31_0_2 ∧ y31_0_2 ≤ 1) := krg_e (show (0 : Int) ≤ F31 10 2 ∧ F31 10 2 ≤ 1 from H.krg 10 2 (by decide)) (show F31 10 2 = y31_0_2 from ((eF31 10 2).trans ey31_0_2))
      refine Ew_of (pc' := 23) (fun _ => x_iconst rfl) ?_
      exact w_ireturn rfl (k (1) _ _ _ _ _ _ _ H O (SD_trans (SD_refl) (SD_glu (ι := [10, 8, 11, 9]) hD31 eD31 (by decide +kernel)) (any_subA (l' := [11]) rfl)) (SD_trans (SD_refl) (SD_glu (ι := [10, 8, 11, 9]) hN31 eN31 (by decide +kernel)) (any_subA (l' := [11]) rfl)) (SF_trans (SF_trans (SF_refl) (SF_glu (ι := []) hS12 eF12 (by decide +kernel)) (any_sub (l' := []) rfl)) (SF_glu (ι := [10, 8, 11, 9]) hS31 eF31 (by decide +kernel)) (any_sub (l' := [(10, 0), (10, 1), (10, 2), (10, 3), (10, 4)]) rfl)) (SA_trans (SA_trans (SA_refl) (SA_glu (ι := []) hA12 eA12 (by decide +kernel)) (any_subA (l' := []) rfl)) (SA_glu (ι := [10, 8, 11, 9]) hA31 eA31 (by decide +kernel)) (any_subA (l' := [11]) rfl)) (pf31_10_0) (m31_2) ((congrArg (fun q : Nat => (q : Int)) (eN31 11)).trans em31_2) (y31_0_1) (((eF31 10 1).trans ey31_0_1)) (show (1) = 0 ∨ (1) = 1 by omega) (show 0 ≤ (u2_1) ∧ (u2_1) ≤ (n3) ∧ (n3) ≤ 65536 by have qh0 := HIDe r1; have qh1 := HIDe r7; omega) (show 0 ≤ (u4_1) ∧ (u4_1) ≤ (n5) ∧ (n5) ≤ 65536 by have qh0 := HIDe r2; have qh1 := HIDe r8; omega) (show 0 ≤ (u6_1) ∧ (u6_1) ≤ (n7) ∧ (n7) ≤ 65536 by have qh0 := HIDe r3; have qh1 := HIDe r9; omega) (show 0 ≤ (u8_1) ∧ (u8_1) ≤ (n9) ∧ (n9) ≤ 65536 by have qh0 := HIDe r10; have qh1 := HIDe r4; omega) (show 0 ≤ (y31_0_1) ∧ (y31_0_1) ≤ (m31_2) ∧ (m31_2) ≤ 65536 by have qh0 := HIDe r32; have qh1 := HIDe r33; omega) (show (1) = 1 ∧ 0 ≤ a1 ∧ a1 ≤ 3 ∨ (1) = 0 ∧ (a1 < 0 ∨ 3 < a1) by omega))
  · refine Ew_of (pc' := 8) (fun _ => x_iconst rfl) ?_
    exact w_ireturn rfl (k (0) _ _ _ _ _ _ _ H O (SD_refl) (SD_refl) (SF_trans (SF_refl) (SF_glu (ι := []) hS12 eF12 (by decide +kernel)) (any_sub (l' := []) rfl)) (SA_trans (SA_refl) (SA_glu (ι := []) hA12 eA12 (by decide +kernel)) (any_subA (l' := []) rfl)) ((((show F12 10 0 = F 10 0 from (eF12 10 0)))).trans (pf11)) (n11) (en11) (u10_1) ((((show F12 10 1 = F 10 1 from (eF12 10 1))).trans (eu10_1))) (show (0) = 0 ∨ (0) = 1 by omega) (show 0 ≤ (u2_1) ∧ (u2_1) ≤ (n3) ∧ (n3) ≤ 65536 by have qh0 := HIDe r1; have qh1 := HIDe r7; omega) (show 0 ≤ (u4_1) ∧ (u4_1) ≤ (n5) ∧ (n5) ≤ 65536 by have qh0 := HIDe r2; have qh1 := HIDe r8; omega) (show 0 ≤ (u6_1) ∧ (u6_1) ≤ (n7) ∧ (n7) ≤ 65536 by have qh0 := HIDe r3; have qh1 := HIDe r9; omega) (show 0 ≤ (u8_1) ∧ (u8_1) ≤ (n9) ∧ (n9) ≤ 65536 by have qh0 := HIDe r10; have qh1 := HIDe r4; omega) (show 0 ≤ (u10_1) ∧ (u10_1) ≤ (n11) ∧ (n11) ≤ 65536 by have qh0 := HIDe r11; have qh1 := HIDe r5; omega) (show (0) = 1 ∧ 0 ≤ a1 ∧ a1 ≤ 3 ∨ (0) = 0 ∧ (a1 < 0 ∨ 3 < a1) by omega))
/-- PackHouse.forget: this, this.dictionary, this.dictionary.stand, this.dictionary.stand.tables, this.dictionary.stand.latest, this.past, this.dictionary.content -/
theorem C16x {σE : rS} {D N : Nat → Nat} {F : hF} {A : hA} {d c s : Nat} {Q : wQ} (H : HW V16 σE D N F A) {a1 : Int} (pf1 : F 0 3 = (D 1 : Int)) (pf2 : F 1 1 = (D 2 : Int)) (pf3 : F 2 1 = (D 3 : Int)) (pf4 : F 2 2 = (D 4 : Int)) (pf5 : F 0 2 = (D 5 : Int)) (pf6 : F 1 0 = (D 6 : Int)) (n3 : Int) (en3 : (N 3 : Int) = n3) (n4 : Int) (en4 : (N 4 : Int) = n4) (u2_0 : Int) (eu2_0 : F 2 0 = u2_0) (u5_1 : Int) (eu5_1 : F 5 1 = u5_1) (u6_1 : Int) (eu6_1 : F 6 1 = u6_1) (w3 : Int → Int) (ew3 : A 3 = w3) (h0 : inr (a1)) (h1 : (n3) = 3 ∧ (n4) = 3) (h2 : 0 ≤ (u5_1)) (h3 : 0 ≤ (u6_1)) (k : ∀ (z : Int) (σ : rS) (F' : hF) (A' : hA), HW V16 σ D N F' A' → OUT (V16).length D N σE c s D N σ c s → SF [(1, 2), (2, 0), (5, 1), (5, 2), (5, 3), (5, 4), (6, 1), (6, 2), (6, 3), (6, 4)] F F' → SA [3, 4] A A' → ∀ y2_0 : Int, F' 2 0 = y2_0 → ∀ y5_1 : Int, F' 5 1 = y5_1 → ∀ y6_1 : Int, F' 6 1 = y6_1 → ∀ v3 : Int → Int, A' 3 = v3 → ((z) = 0 ∨ (z) = 1) → ((y5_1) = (u5_1) ∨ (y5_1) = 0) → ((y6_1) = (u6_1) ∨ (y6_1) = 0) → ((y2_0) = (u2_0) ∧ ((v3)) 0 = ((w3)) 0 ∧ ((v3)) 1 = ((w3)) 1 ∧ ((v3)) 2 = ((w3)) 2 ∨ (y2_0) = -1 ∧ ((v3)) 0 = -1 ∧ ((v3)) 1 = -1 ∧ ((v3)) 2 = -1) → ((z) = 1 ∧ ((a1) = 0 ∨ (a1) = 1) ∨ (z) = 0 ∧ (a1) ≠ 0 ∧ (a1) ≠ 1) → Q (some (I z)) σ c s) : Ew 16 (d + 2) 0 (rargs 0 [.ref (D 0), I a1]) [] σE c s Q := by
  have O := OUT_refl (n := (V16).length) (D := D) (N := N) (σ := σE) (c := c) (s := s)
  have HE := H
  have r1 : HID ((-2147483648 : Int) ≤ u5_1 ∧ u5_1 ≤ 2147483647) := krg_e (show (-2147483648 : Int) ≤ F 5 1 ∧ F 5 1 ≤ 2147483647 from H.krg 5 1 (by decide)) (show F 5 1 = u5_1 from (eu5_1))
  have r2 : HID ((-2147483648 : Int) ≤ u6_1 ∧ u6_1 ≤ 2147483647) := krg_e (show (-2147483648 : Int) ≤ F 6 1 ∧ F 6 1 ≤ 2147483647 from H.krg 6 1 (by decide)) (show F 6 1 = u6_1 from (eu6_1))
  replace pf1 := HIDm pf1
  replace pf2 := HIDm pf2
  replace pf3 := HIDm pf3
  replace pf4 := HIDm pf4
  replace pf5 := HIDm pf5
  replace pf6 := HIDm pf6
  replace en3 := HIDm en3
  replace en4 := HIDm en4
  replace eu2_0 := HIDm eu2_0
  replace eu5_1 := HIDm eu5_1
  replace eu6_1 := HIDm eu6_1
  have r3 : HID ((0 : Int) ≤ n3 ∧ n3 ≤ 1000000) := nrng (H.nle 3 (by decide)) (show (N 3 : Int) = n3 from en3)
  have r4 : HID ((0 : Int) ≤ n4 ∧ n4 ≤ 1000000) := nrng (H.nle 4 (by decide)) (show (N 4 : Int) = n4 from en4)
  refine Ew_of (pc' := 1) (fun _ => x_iload_n rfl rfl) ?_
  refine w_ifne (t := 14) rfl rfl (show inr (a1) by omega) (fun b5 => ?_) (fun b5 => ?_)
  · refine Ew_of (pc' := 15) (fun _ => x_iload_n rfl rfl) ?_
    refine Ew_of (pc' := 16) (fun _ => x_iconst rfl) ?_
    refine w_icmpne (t := 29) rfl rfl (show inr (a1) by omega) (show inr (1) by omega) (fun b6 => ?_) (fun b6 => ?_)
    · refine Ew_of (pc' := 30) (fun _ => x_iconst rfl) ?_
      exact w_ireturn rfl (k (0) _ _ _ H O (SF_refl) (SA_refl) (u2_0) ((eu2_0)) (u5_1) ((eu5_1)) (u6_1) ((eu6_1)) (w3) (ew3) (show (0) = 0 ∨ (0) = 1 by omega) (show (u5_1) = (u5_1) ∨ (u5_1) = 0 by have qh0 := HIDe r1; omega) (show (u6_1) = (u6_1) ∨ (u6_1) = 0 by have qh0 := HIDe r2; omega) (show (u2_0) = (u2_0) ∧ ((w3)) 0 = ((w3)) 0 ∧ ((w3)) 1 = ((w3)) 1 ∧ ((w3)) 2 = ((w3)) 2 ∨ (u2_0) = -1 ∧ ((w3)) 0 = -1 ∧ ((w3)) 1 = -1 ∧ ((w3)) 2 = -1 by omega) (show (0) = 1 ∧ (a1 = 0 ∨ a1 = 1) ∨ (0) = 0 ∧ a1 ≠ 0 ∧ a1 ≠ 1 by omega))
    · refine Ew_of (pc' := 20) (fun _ => x_aload_n rfl rfl) ?_
      refine v_g H (o := 0) (v := .ref (D 1)) rfl rfl rfl rfl rfl (vrf (pf1)) ?_
      have r7 : HID ((-2147483648 : Int) ≤ F 1 2 ∧ F 1 2 ≤ 2147483647) := krg_e (show (-2147483648 : Int) ≤ F 1 2 ∧ F 1 2 ≤ 2147483647 from H.krg 1 2 (by decide)) (show F 1 2 = F 1 2 from rfl)
      have r8 : HID ((0 : Int) ≤ F 6 2 ∧ F 6 2 ≤ 1) := krg_e (show (0 : Int) ≤ F 6 2 ∧ F 6 2 ≤ 1 from H.krg 6 2 (by decide)) (show F 6 2 = F 6 2 from rfl)
      refine v_inv H (o := 1) rfl rfl rfl rfl rfl rfl (by rfl) (C114 (D := pul [1, 2, 3, 4, 6] D) (N := pul [1, 2, 3, 4, 6] N) (HW_sub H (VS_of (show vsub V16 V114 [1, 2, 3, 4, 6] = true by decide +kernel))) (pf2) (pf3) (pf4) (pf6) (n3) (en3) (n4) (en4) (F 1 2) (rfl) (u2_0) ((eu2_0)) (u6_1) ((eu6_1)) (F 6 2) (rfl) (w3) (ew3) (A 4) (rfl) (show (n3) = 3 ∧ (n4) = 3 by have qh0 := HIDe r3; have qh1 := HIDe r4; omega) (fun σ9 F9' A9' H' O' hS9 hA9 y9_0_2 ey9_0_2 y9_1_0 ey9_1_0 y9_4_1 ey9_4_1 y9_4_2 ey9_4_2 w9_2 ew9_2 w9_3 ew9_3 pz9_0 pz9_1 pz9_2 pz9_3 pz9_4 pz9_5 => ⟨rfl, ?_⟩))
      replace ey9_0_2 := HIDm ey9_0_2
      replace ey9_1_0 := HIDm ey9_1_0
      replace ey9_4_1 := HIDm ey9_4_1
      replace ey9_4_2 := HIDm ey9_4_2
      refine v_back (c := c) (s := s) H (show vsub V16 V114 [1, 2, 3, 4, 6] = true by decide +kernel) H' O' (fun F9 A9 H O' eF9 eA9 => ?_)
      have O := OUT_trans O O'
      -- Dictionary.clear
      have r10 : HID ((-2147483648 : Int) ≤ y9_0_2 ∧ y9_0_2 ≤ 2147483647) := krg_e (show (-2147483648 : Int) ≤ F9 1 2 ∧ F9 1 2 ≤ 2147483647 from H.krg 1 2 (by decide)) (show F9 1 2 = y9_0_2 from ((eF9 1 2).trans ey9_0_2))
      have r11 : HID ((-2147483648 : Int) ≤ y9_4_1 ∧ y9_4_1 ≤ 2147483647) := krg_e (show (-2147483648 : Int) ≤ F9 6 1 ∧ F9 6 1 ≤ 2147483647 from H.krg 6 1 (by decide)) (show F9 6 1 = y9_4_1 from ((eF9 6 1).trans ey9_4_1))
      have r12 : HID ((0 : Int) ≤ y9_4_2 ∧ y9_4_2 ≤ 1) := krg_e (show (0 : Int) ≤ F9 6 2 ∧ F9 6 2 ≤ 1 from H.krg 6 2 (by decide)) (show F9 6 2 = y9_4_2 from ((eF9 6 2).trans ey9_4_2))
      refine Ew_of (pc' := 31) (fun _ => x_goto rfl rfl) ?_
      refine Ew_of (pc' := 32) (fun _ => x_iconst rfl) ?_
      exact w_ireturn rfl (k (1) _ _ _ H O (SF_trans (SF_refl) (SF_glu (ι := [1, 2, 3, 4, 6]) hS9 eF9 (by decide +kernel)) (any_sub (l' := [(1, 2), (2, 0), (6, 1), (6, 2), (6, 3), (6, 4)]) rfl)) (SA_trans (SA_refl) (SA_glu (ι := [1, 2, 3, 4, 6]) hA9 eA9 (by decide +kernel)) (any_subA (l' := [3, 4]) rfl)) (y9_1_0) (((eF9 2 0).trans ey9_1_0)) (u5_1) ((((show F9 5 1 = F 5 1 from (eF9 5 1))).trans (eu5_1))) (y9_4_1) (((eF9 6 1).trans ey9_4_1)) (w9_2) ((eA9 3).trans ew9_2) (show (1) = 0 ∨ (1) = 1 by omega) (show (u5_1) = (u5_1) ∨ (u5_1) = 0 by have qh0 := HIDe r1; omega) (show (y9_4_1) = (u6_1) ∨ (y9_4_1) = 0 by have qh0 := HIDe r11; have qh1 := HIDe r2; omega) (show (y9_1_0) = (u2_0) ∧ ((w9_2)) 0 = ((w3)) 0 ∧ ((w9_2)) 1 = ((w3)) 1 ∧ ((w9_2)) 2 = ((w3)) 2 ∨ (y9_1_0) = -1 ∧ ((w9_2)) 0 = -1 ∧ ((w9_2)) 1 = -1 ∧ ((w9_2)) 2 = -1 by omega) (show (1) = 1 ∧ (a1 = 0 ∨ a1 = 1) ∨ (1) = 0 ∧ a1 ≠ 0 ∧ a1 ≠ 1 by omega))
  · refine Ew_of (pc' := 5) (fun _ => x_aload_n rfl rfl) ?_
    refine v_g H (o := 0) (v := .ref (D 5)) rfl rfl rfl rfl rfl (vrf (pf5)) ?_
    have r13 : HID ((0 : Int) ≤ F 5 2 ∧ F 5 2 ≤ 1) := krg_e (show (0 : Int) ≤ F 5 2 ∧ F 5 2 ≤ 1 from H.krg 5 2 (by decide)) (show F 5 2 = F 5 2 from rfl)
    have r14 : HID ((-2147483648 : Int) ≤ F 5 3 ∧ F 5 3 ≤ 2147483647) := krg_e (show (-2147483648 : Int) ≤ F 5 3 ∧ F 5 3 ≤ 2147483647 from H.krg 5 3 (by decide)) (show F 5 3 = F 5 3 from rfl)
    have r15 : HID ((-2147483648 : Int) ≤ F 5 4 ∧ F 5 4 ≤ 2147483647) := krg_e (show (-2147483648 : Int) ≤ F 5 4 ∧ F 5 4 ≤ 2147483647 from H.krg 5 4 (by decide)) (show F 5 4 = F 5 4 from rfl)
    refine v_inv H (o := 5) rfl rfl rfl rfl rfl rfl (by rfl) (C156h (D := pul [5] D) (N := pul [5] N) (HW_sub H (VS_of (show vsub V16 V156 [5] = true by decide +kernel))) (u5_1) ((eu5_1)) (F 5 2) (rfl) (F 5 3) (rfl) (F 5 4) (rfl)  (fun σ16 F16' A16' H' O' hS16 hA16 y16_0_1 ey16_0_1 y16_0_2 ey16_0_2 y16_0_3 ey16_0_3 y16_0_4 ey16_0_4 pz16_0 pz16_1 => ⟨rfl, ?_⟩))
    replace ey16_0_1 := HIDm ey16_0_1
    replace ey16_0_2 := HIDm ey16_0_2
    replace ey16_0_3 := HIDm ey16_0_3
    replace ey16_0_4 := HIDm ey16_0_4
    refine v_back (c := c) (s := s) H (show vsub V16 V156 [5] = true by decide +kernel) H' O' (fun F16 A16 H O' eF16 eA16 => ?_)
    have O := OUT_trans O O'
    -- Row.clear
    have r17 : HID ((-2147483648 : Int) ≤ y16_0_1 ∧ y16_0_1 ≤ 2147483647) := krg_e (show (-2147483648 : Int) ≤ F16 5 1 ∧ F16 5 1 ≤ 2147483647 from H.krg 5 1 (by decide)) (show F16 5 1 = y16_0_1 from ((eF16 5 1).trans ey16_0_1))
    have r18 : HID ((0 : Int) ≤ y16_0_2 ∧ y16_0_2 ≤ 1) := krg_e (show (0 : Int) ≤ F16 5 2 ∧ F16 5 2 ≤ 1 from H.krg 5 2 (by decide)) (show F16 5 2 = y16_0_2 from ((eF16 5 2).trans ey16_0_2))
    have r19 : HID ((-2147483648 : Int) ≤ y16_0_3 ∧ y16_0_3 ≤ 2147483647) := krg_e (show (-2147483648 : Int) ≤ F16 5 3 ∧ F16 5 3 ≤ 2147483647 from H.krg 5 3 (by decide)) (show F16 5 3 = y16_0_3 from ((eF16 5 3).trans ey16_0_3))
    have r20 : HID ((-2147483648 : Int) ≤ y16_0_4 ∧ y16_0_4 ≤ 2147483647) := krg_e (show (-2147483648 : Int) ≤ F16 5 4 ∧ F16 5 4 ≤ 2147483647 from H.krg 5 4 (by decide)) (show F16 5 4 = y16_0_4 from ((eF16 5 4).trans ey16_0_4))
    refine Ew_of (pc' := 31) (fun _ => x_goto rfl rfl) ?_
    refine Ew_of (pc' := 32) (fun _ => x_iconst rfl) ?_
    exact w_ireturn rfl (k (1) _ _ _ H O (SF_trans (SF_refl) (SF_glu (ι := [5]) hS16 eF16 (by decide +kernel)) (any_sub (l' := [(5, 1), (5, 2), (5, 3), (5, 4)]) rfl)) (SA_trans (SA_refl) (SA_glu (ι := [5]) hA16 eA16 (by decide +kernel)) (any_subA (l' := []) rfl)) (u2_0) ((((show F16 2 0 = F 2 0 from (eF16 2 0))).trans (eu2_0))) (y16_0_1) (((eF16 5 1).trans ey16_0_1)) (u6_1) ((((show F16 6 1 = F 6 1 from (eF16 6 1))).trans (eu6_1))) (w3) (((show A16 3 = A 3 from (eA16 3))).trans (ew3)) (show (1) = 0 ∨ (1) = 1 by omega) (show (y16_0_1) = (u5_1) ∨ (y16_0_1) = 0 by have qh0 := HIDe r1; have qh1 := HIDe r17; omega) (show (u6_1) = (u6_1) ∨ (u6_1) = 0 by have qh0 := HIDe r2; omega) (show (u2_0) = (u2_0) ∧ ((w3)) 0 = ((w3)) 0 ∧ ((w3)) 1 = ((w3)) 1 ∧ ((w3)) 2 = ((w3)) 2 ∨ (u2_0) = -1 ∧ ((w3)) 0 = -1 ∧ ((w3)) 1 = -1 ∧ ((w3)) 2 = -1 by omega) (show (1) = 1 ∧ (a1 = 0 ∨ a1 = 1) ∨ (1) = 0 ∧ a1 ≠ 0 ∧ a1 ≠ 1 by omega))
/-- Packer.windowFor: #1 -/
theorem C132_Irx {σE : rS} {D N : Nat → Nat} {F : hF} {A : hA} {d c s : Nat} {Q : wQ} (H : HW V132_Ir σE D N F A) {a2 : Int} (n0 : Int) (en0 : (N 0 : Int) = n0) (w0 : Int → Int) (ew0 : A 0 = w0) (h0 : inr (a2)) (h1 : (n0) = 10) (h2 : 0 ≤ ((w0)) 8 ∧ ((w0)) 8 ≤ 11) (h3 : 0 ≤ (a2) ∧ (a2) ≤ 16384) (k : ∀ (z : Int) (σ : rS) (F' : hF) (A' : hA), HW V132_Ir σ D N F' A' → OUT (V132_Ir).length D N σE c s D N σ c s → SF [] F F' → SA [] A A' → (inr (z)) → (0 ≤ (z) ∧ (z) ≤ 2097152) → ((z) = WND ((w0)) ((a2))) → ((a2) = 0 ∨ 1 ≤ (z)) → Q (some (I z)) σ c s) : Ew 132 (d + 0) 0 (rargs 0 [.ref (D 0), I a2]) [] σE c s Q := by
  have O := OUT_refl (n := (V132_Ir).length) (D := D) (N := N) (σ := σE) (c := c) (s := s)
  have HE := H
  replace en0 := HIDm en0
  have r1 : HID ((0 : Int) ≤ n0 ∧ n0 ≤ 1000000) := nrng (H.nle 0 (by decide)) (show (N 0 : Int) = n0 from en0)
  refine Ew_of (pc' := 1) (fun _ => x_aload_n rfl rfl) ?_
  refine Ew_of (pc' := 3) (fun _ => x_bipush (z := 7) rfl (by decide)) ?_
  refine v_lI H (o := 0) rfl rfl rfl rfl (n := n0) (en0) (show 0 ≤ 7 ∧ 7 < n0 by have qh0 := HIDe r1; omega) (fun v2 ev2 qv2 => ?_)
  replace qv2 := HIDm qv2
  have ev2 : (w0) (7) = v2 := (congrFun (ew0) (7)).symm.trans ev2
  refine Ew_of (pc' := 5) (fun _ => x_iconst rfl) ?_
  have hw7 := ev2
  refine w_iandE rfl (show inr (v2) by have qh0 := HIDe qv2; omega) (show inr (4) by omega) (fun z3 gz3 gaz3 gbz3 gez3 => ?_)
  refine w_ifeq (t := 13) rfl rfl (show inr (z3) by omega) (fun b4 => ?_) (fun b4 => ?_)
  · refine Ew_of (pc' := 14) (fun _ => x_iconst rfl) ?_
    refine Ew_of (pc' := 16) (fun _ => x_bipush (z := 10) rfl (by decide)) ?_
    refine Ew_of (pc' := 17) (fun _ => x_aload_n rfl rfl) ?_
    refine Ew_of (pc' := 19) (fun _ => x_bipush (z := 8) rfl (by decide)) ?_
    refine v_lI H (o := 0) rfl rfl rfl rfl (n := n0) (en0) (show 0 ≤ 8 ∧ 8 < n0 by have qh0 := HIDe r1; omega) (fun v5 ev5 qv5 => ?_)
    replace qv5 := HIDm qv5
    have ev5 : (w0) (8) = v5 := (congrFun (ew0) (8)).symm.trans ev5
    have hw8 := ev5
    refine w_iadd rfl ?_
    have hpw : p2 (((10 + v5))) ≤ p2 21 := p2_mono (by (have qg0 := HIDe qv5; omega))
    have hp21 : p2 21 = 2097152 := by decide
    have hpp := p2_pos (((10 + v5)))
    refine w_ishl1 rfl (show 0 ≤ (10 + v5) ∧ (10 + v5) ≤ 31 by have qh0 := HIDe qv5; omega) ?_
    have hWN : ((p2 ((10 + v5))) : Int) = WND ((w0)) ((a2)) := by unfold WND; rw [hw7]; first | (rw [if_pos (by (have qg0 := HIDe qv5; omega)), hw8]) | (rw [if_neg (by (have qg0 := HIDe qv5; omega))])
    exact w_ireturn rfl (k (p2 ((10 + v5))) _ _ _ H O (SF_refl) (SA_refl) (show inr (p2 ((10 + v5))) by have qh0 := HIDe qv5; omega) (show 0 ≤ (p2 ((10 + v5))) ∧ (p2 ((10 + v5))) ≤ 2097152 by have qh0 := HIDe qv5; omega) (show (p2 ((10 + v5))) = WND ((w0)) (a2) by have qh0 := HIDe qv5; omega) (show a2 = 0 ∨ 1 ≤ (p2 ((10 + v5))) by have qh0 := HIDe qv5; omega))
  · refine Ew_of (pc' := 10) (fun _ => x_iload_n rfl rfl) ?_
    refine Ew_of (pc' := 22) (fun _ => x_goto rfl rfl) ?_
    have hWN : ((a2) : Int) = WND ((w0)) ((a2)) := by unfold WND; rw [hw7]; first | (rw [if_pos (by omega), hw8]) | (rw [if_neg (by omega)])
    exact w_ireturn rfl (k (a2) _ _ _ H O (SF_refl) (SA_refl) (show inr (a2) by omega) (show 0 ≤ (a2) ∧ (a2) ≤ 2097152 by omega) (show (a2) = WND ((w0)) (a2) by omega) (show a2 = 0 ∨ 1 ≤ (a2) by omega))
/-- Packer.rowLength: #1 -/
theorem C133_Irx {σE : rS} {D N : Nat → Nat} {F : hF} {A : hA} {d c s : Nat} {Q : wQ} (H : HW V133_Ir σE D N F A) {a2 : Int} (n0 : Int) (en0 : (N 0 : Int) = n0) (w0 : Int → Int) (ew0 : A 0 = w0) (h0 : inr (a2)) (h1 : (n0) = 10) (h2 : 0 ≤ ((w0)) 8 ∧ ((w0)) 8 ≤ 11) (h3 : 1 ≤ ((w0)) 2 ∧ ((w0)) 2 ≤ 65536) (h4 : 0 ≤ (a2) ∧ (a2) ≤ 16384) (k : ∀ (z : Int) (σ : rS) (F' : hF) (A' : hA), HW V133_Ir σ D N F' A' → OUT (V133_Ir).length D N σE c s D N σ c s → SF [] F F' → SA [] A A' → (inr (z)) → (1 ≤ (z) ∧ (z) ≤ 65536) → ((a2) = 0 ∨ (z) = SMN (WND ((w0)) ((a2))) (((w0)) 2)) → Q (some (I z)) σ c s) : Ew 133 (d + 1) 0 (rargs 0 [.ref (D 0), I a2]) [] σE c s Q := by
  have O := OUT_refl (n := (V133_Ir).length) (D := D) (N := N) (σ := σE) (c := c) (s := s)
  have HE := H
  replace en0 := HIDm en0
  have r1 : HID ((0 : Int) ≤ n0 ∧ n0 ≤ 1000000) := nrng (H.nle 0 (by decide)) (show (N 0 : Int) = n0 from en0)
  refine Ew_of (pc' := 2) (fun _ => x_ldc (z := 131072) rfl (by decide)) ?_
  refine Ew_of (pc' := 3) (fun _ => x_aload_n rfl rfl) ?_
  refine Ew_of (pc' := 4) (fun _ => x_iload_n rfl rfl) ?_
  refine w_stat24 rfl rfl (by rfl) (C132_Irx (D := pul [0] D) (N := pul [0] N) (HW_sub H (VS_of (show vsub V133_Ir V132_Ir [0] = true by decide +kernel))) (n0) (en0) (w0) (ew0) (show inr (a2) by omega) (show (n0) = 10 by have qh0 := HIDe r1; omega) (show 0 ≤ ((w0)) 8 ∧ ((w0)) 8 ≤ 11 by omega) (show 0 ≤ (a2) ∧ (a2) ≤ 16384 by omega) (fun z2 σ2 F2' A2' H' O' hS2 hA2 pz2_0 pz2_1 pz2_2 pz2_3 => ⟨rfl, ?_⟩))
  refine v_back (c := c) (s := s) H (show vsub V133_Ir V132_Ir [0] = true by decide +kernel) H' O' (fun F2 A2 H O' eF2 eA2 => ?_)
  have O := OUT_trans O O'
  -- Packer.windowFor
  refine v_min rfl rfl (show inr (131072) by omega) (show inr (z2) by omega) (fun z3 gz3 => ?_)
  refine Ew_of (pc' := 11) (fun _ => x_istore_n rfl) ?_
  refine Ew_of (pc' := 12) (fun _ => x_iconst rfl) ?_
  refine Ew_of (pc' := 13) (fun _ => x_aload_n rfl (rk_o (rfl) rfl rfl)) ?_
  refine Ew_of (pc' := 14) (fun _ => x_iconst rfl) ?_
  refine v_lI H (o := 0) rfl rfl rfl rfl (n := n0) (en0) (show 0 ≤ 2 ∧ 2 < n0 by have qh0 := HIDe r1; omega) (fun v4 ev4 qv4 => ?_)
  replace qv4 := HIDm qv4
  have ev4 : (w0) (2) = v4 := (congrFun (((show A2 0 = A 0 from (eA2 0).trans (funext (hA2 0 rfl)))).trans (ew0)) (2)).symm.trans ev4
  refine Ew_of (pc' := 16) (fun _ => x_iload_n rfl rk_s) ?_
  refine v_min rfl rfl (show inr (v4) by have qh0 := HIDe qv4; omega) (show inr (z3) by omega) (fun z5 gz5 => ?_)
  refine v_max rfl rfl (show inr (1) by omega) (show inr (z5) by omega) (fun z6 gz6 => ?_)
  have hSM : (a2) = 0 ∨ ((z6) : Int) = SMN (WND ((w0)) ((a2))) (((w0)) 2) := by unfold SMN; by_cases q : WND ((w0)) ((a2)) < ((w0)) 2; (rw [if_pos q]; omega); (rw [if_neg q]; omega)
  exact w_ireturn rfl (k (z6) _ _ _ H O (SF_trans (SF_refl) (SF_glu (ι := [0]) hS2 eF2 (by decide +kernel)) (any_sub (l' := []) rfl)) (SA_trans (SA_refl) (SA_glu (ι := [0]) hA2 eA2 (by decide +kernel)) (any_subA (l' := []) rfl)) (show inr (z6) by omega) (show 1 ≤ (z6) ∧ (z6) ≤ 65536 by omega) (show a2 = 0 ∨ (z6) = SMN (WND ((w0)) (a2)) (((w0)) 2) by omega))
/-- PackHouse.boundOf: this, this.settings -/
theorem C34x {σE : rS} {D N : Nat → Nat} {F : hF} {A : hA} {d c s : Nat} {Q : wQ} (H : HW V34 σE D N F A) {a1 a2 : Int} (pf1 : F 0 1 = (D 1 : Int)) (n1 : Int) (en1 : (N 1 : Int) = n1) (w1 : Int → Int) (ew1 : A 1 = w1) (h0 : inr (a1)) (h1 : inr (a2)) (h2 : 0 ≤ (a2) ∧ (a2) ≤ 16384) (h3 : 0 ≤ (a1) ∧ (a1) ≤ 5) (h4 : 1 ≤ ((w1)) 2 ∧ ((w1)) 2 ≤ 65536) (h5 : 0 ≤ ((w1)) 8 ∧ ((w1)) 8 ≤ 11) (h6 : 0 ≤ ((w1)) 6 ∧ ((w1)) 6 ≤ 255) (h7 : (n1) = 10) (k : ∀ (z : Int) (σ : rS) (F' : hF) (A' : hA), HW V34 σ D N F' A' → OUT (V34).length D N σE c s D N σ c s → SF [] F F' → SA [] A A' → (inr (z)) → ((z) = BND ((w1)) ((a1)) ((a2))) → Q (some (I z)) σ c s) : Ew 34 (d + 2) 0 (rargs 0 [.ref (D 0), I a1, I a2]) [] σE c s Q := by
  have O := OUT_refl (n := (V34).length) (D := D) (N := N) (σ := σE) (c := c) (s := s)
  have HE := H
  replace pf1 := HIDm pf1
  replace en1 := HIDm en1
  have r1 : HID ((0 : Int) ≤ n1 ∧ n1 ≤ 1000000) := nrng (H.nle 1 (by decide)) (show (N 1 : Int) = n1 from en1)
  refine Ew_of (pc' := 1) (fun _ => x_iload_n rfl rfl) ?_
  refine Ew_of (pc' := 2) (fun _ => x_aload_n rfl rfl) ?_
  refine v_g H (o := 0) (v := .ref (D 1)) rfl rfl rfl rfl rfl (vrf (pf1)) ?_
  refine Ew_of (pc' := 6) (fun _ => x_iconst rfl) ?_
  refine v_lI H (o := 1) rfl rfl rfl rfl (n := n1) (en1) (show 0 ≤ 2 ∧ 2 < n1 by have qh0 := HIDe r1; omega) (fun v2 ev2 qv2 => ?_)
  replace qv2 := HIDm qv2
  have ev2 : (w1) (2) = v2 := (congrFun (ew1) (2)).symm.trans ev2
  refine w_iadd rfl ?_
  refine Ew_of (pc' := 9) (fun _ => x_iconst rfl) ?_
  refine w_isub rfl ?_
  refine Ew_of (pc' := 11) (fun _ => x_aload_n rfl rfl) ?_
  refine v_g H (o := 0) (v := .ref (D 1)) rfl rfl rfl rfl rfl (vrf (pf1)) ?_
  refine Ew_of (pc' := 15) (fun _ => x_iconst rfl) ?_
  refine v_lI H (o := 1) rfl rfl rfl rfl (n := n1) (en1) (show 0 ≤ 2 ∧ 2 < n1 by have qh0 := HIDe r1; omega) (fun v3 ev3 qv3 => ?_)
  replace qv3 := HIDm qv3
  have ev3 : (w1) (2) = v3 := (congrFun (ew1) (2)).symm.trans ev3
  refine w_idiv rfl (show inr (((a2 + v2) - 1)) ∧ 0 ≤ ((a2 + v2) - 1) by have qh0 := HIDe qv2; omega) (show inr (v3) ∧ 0 < v3 by have qh0 := HIDe qv3; omega) ?_
  have hRW : (((((a2 + v2) - 1) / v3)) : Int) = RW (((w1)) 2) ((a2)) := by unfold RW; congr 1 <;> (have qg0 := HIDe qv2; have qg1 := HIDe qv3; omega)
  have hrl := RW_le (c := ((w1)) 2) (n := (a2)) (by omega) (by omega)
  refine Ew_of (pc' := 18) (fun _ => x_istore_n rfl) ?_
  refine Ew_of (pc' := 19) (fun _ => x_iload_n rfl (rk_o (rfl) rfl rfl)) ?_
  by_cases b4 : a1 = 0
  · refine w_tsk 0 52 rfl (show inr (a1) by omega) (by omega) (by decide) rfl rfl ?_
    refine Ew_of (pc' := 53) (fun _ => x_iload_n rfl (rk_o (rfl) rfl rfl)) ?_
    refine Ew_of (pc' := 54) (fun _ => x_iload_n rfl (rk_o (rfl) rfl rfl)) ?_
    refine Ew_of (pc' := 57) (fun _ => x_sipush (z := 255) rfl (by decide)) ?_
    refine w_idiv rfl (show inr (a2) ∧ 0 ≤ a2 by omega) (show inr (255) ∧ 0 < 255 by omega) ?_
    refine w_iadd rfl ?_
    refine Ew_of (pc' := 61) (fun _ => x_bipush (z := 16) rfl (by decide)) ?_
    refine w_iadd rfl ?_
    have hBN : ((((a2 + (a2 / 255)) + 16)) : Int) = BND ((w1)) ((a1)) ((a2)) := BND_0 (by omega)
    exact w_ireturn rfl (k (((a2 + (a2 / 255)) + 16)) _ _ _ H O (SF_refl) (SA_refl) (show inr (((a2 + (a2 / 255)) + 16)) by omega) (show (((a2 + (a2 / 255)) + 16)) = BND ((w1)) (a1) (a2) by omega))
  ·
    by_cases b5 : a1 = 1
    · refine w_tsk 1 63 rfl (show inr (a1) by omega) (by omega) (by decide) rfl rfl ?_
      refine Ew_of (pc' := 65) (fun _ => x_bipush (z := 27) rfl (by decide)) ?_
      refine Ew_of (pc' := 67) (fun _ => x_bipush (z := 8) rfl (by decide)) ?_
      refine Ew_of (pc' := 68) (fun _ => x_iload_n rfl rk_s) ?_
      refine w_imul rfl ?_
      refine w_iadd rfl ?_
      refine Ew_of (pc' := 71) (fun _ => x_iload_n rfl (rk_o (rfl) rfl rfl)) ?_
      refine w_iadd rfl ?_
      have hBN : ((((27 + (8 * (((a2 + v2) - 1) / v3))) + a2)) : Int) = BND ((w1)) ((a1)) ((a2)) := BND_1 (by (have qg0 := HIDe qv2; have qg1 := HIDe qv3; omega)) (by assumption)
      exact w_ireturn rfl (k (((27 + (8 * (((a2 + v2) - 1) / v3))) + a2)) _ _ _ H O (SF_refl) (SA_refl) (show inr (((27 + (8 * (((a2 + v2) - 1) / v3))) + a2)) by have qh0 := HIDe qv2; have qh1 := HIDe qv3; omega) (show (((27 + (8 * (((a2 + v2) - 1) / v3))) + a2)) = BND ((w1)) (a1) (a2) by have qh0 := HIDe qv2; have qh1 := HIDe qv3; omega))
    ·
      by_cases b6 : a1 = 2
      · refine w_tsk 2 73 rfl (show inr (a1) by omega) (by omega) (by decide) rfl rfl ?_
        refine Ew_of (pc' := 75) (fun _ => x_bipush (z := 32) rfl (by decide)) ?_
        refine Ew_of (pc' := 76) (fun _ => x_iload_n rfl (rk_o (rfl) rfl rfl)) ?_
        refine w_iadd rfl ?_
        refine Ew_of (pc' := 78) (fun _ => x_iload_n rfl (rk_o (rfl) rfl rfl)) ?_
        refine Ew_of (pc' := 80) (fun _ => x_bipush (z := 6) rfl (by decide)) ?_
        refine w_idiv rfl (show inr (a2) ∧ 0 ≤ a2 by omega) (show inr (6) ∧ 0 < 6 by omega) ?_
        refine w_iadd rfl ?_
        have hBN : ((((32 + a2) + (a2 / 6))) : Int) = BND ((w1)) ((a1)) ((a2)) := BND_2 (by omega)
        exact w_ireturn rfl (k (((32 + a2) + (a2 / 6))) _ _ _ H O (SF_refl) (SA_refl) (show inr (((32 + a2) + (a2 / 6))) by omega) (show (((32 + a2) + (a2 / 6))) = BND ((w1)) (a1) (a2) by omega))
      ·
        by_cases b7 : a1 = 3
        · refine w_tsk 3 83 rfl (show inr (a1) by omega) (by omega) (by decide) rfl rfl ?_
          refine Ew_of (pc' := 85) (fun _ => x_bipush (z := 10) rfl (by decide)) ?_
          refine Ew_of (pc' := 86) (fun _ => x_iload_n rfl (rk_o (rfl) rfl rfl)) ?_
          refine w_iadd rfl ?_
          refine Ew_of (pc' := 89) (fun _ => x_bipush (z := 8) rfl (by decide)) ?_
          refine Ew_of (pc' := 90) (fun _ => x_iload_n rfl rk_s) ?_
          refine w_imul rfl ?_
          refine w_iadd rfl ?_
          refine Ew_of (pc' := 93) (fun _ => x_aload_n rfl (rk_o (rfl) rfl rfl)) ?_
          refine v_g H (o := 0) (v := .ref (D 1)) rfl rfl rfl rfl rfl (vrf (pf1)) ?_
          refine Ew_of (pc' := 98) (fun _ => x_bipush (z := 6) rfl (by decide)) ?_
          refine v_lI H (o := 1) rfl rfl rfl rfl (n := n1) (en1) (show 0 ≤ 6 ∧ 6 < n1 by have qh0 := HIDe r1; omega) (fun v8 ev8 qv8 => ?_)
          replace qv8 := HIDm qv8
          have ev8 : (w1) (6) = v8 := (congrFun (ew1) (6)).symm.trans ev8
          refine w_ifle (t := 116) rfl rfl (show inr (v8) by have qh0 := HIDe qv8; omega) (fun b9 => ?_) (fun b9 => ?_)
          · refine Ew_of (pc' := 117) (fun _ => x_iconst rfl) ?_
            refine w_iadd rfl ?_
            have hBN : (((((10 + a2) + (8 * (((a2 + v2) - 1) / v3))) + 0)) : Int) = BND ((w1)) ((a1)) ((a2)) := BND_3 (by (have qg0 := HIDe qv2; have qg1 := HIDe qv3; omega)) (by assumption) (by first | exact .inl ⟨by (have qg0 := HIDe qv2; have qg1 := HIDe qv3; omega), by congr 1; (have qg0 := HIDe qv2; have qg1 := HIDe qv3; omega)⟩ | exact .inr ⟨by (have qg0 := HIDe qv2; have qg1 := HIDe qv3; omega), rfl⟩)
            exact w_ireturn rfl (k ((((10 + a2) + (8 * (((a2 + v2) - 1) / v3))) + 0)) _ _ _ H O (SF_refl) (SA_refl) (show inr ((((10 + a2) + (8 * (((a2 + v2) - 1) / v3))) + 0)) by have qh0 := HIDe qv2; have qh1 := HIDe qv3; omega) (show ((((10 + a2) + (8 * (((a2 + v2) - 1) / v3))) + 0)) = BND ((w1)) (a1) (a2) by have qh0 := HIDe qv2; have qh1 := HIDe qv3; omega))
          · refine Ew_of (pc' := 103) (fun _ => x_iload_n rfl rk_s) ?_
            refine Ew_of (pc' := 104) (fun _ => x_iconst rfl) ?_
            refine Ew_of (pc' := 105) (fun _ => x_aload_n rfl (rk_o (rfl) rfl rfl)) ?_
            refine v_g H (o := 0) (v := .ref (D 1)) rfl rfl rfl rfl rfl (vrf (pf1)) ?_
            refine Ew_of (pc' := 110) (fun _ => x_bipush (z := 6) rfl (by decide)) ?_
            refine v_lI H (o := 1) rfl rfl rfl rfl (n := n1) (en1) (show 0 ≤ 6 ∧ 6 < n1 by have qh0 := HIDe r1; omega) (fun v10 ev10 qv10 => ?_)
            replace qv10 := HIDm qv10
            have ev10 : (w1) (6) = v10 := (congrFun (ew1) (6)).symm.trans ev10
            refine w_iadd rfl ?_
            have hm := RWm (r := (((((a2 + v2) - 1) / v3)) : Int)) (x := (((4 + v10)) : Int)) (n := (a2)) (by rw [hRW]; exact hrl) (by (have qg0 := HIDe qv10; have qg1 := HIDe qv2; have qg2 := HIDe qv3; omega)) (by (have qg0 := HIDe qv10; have qg1 := HIDe qv2; have qg2 := HIDe qv3; omega))
            refine w_imul rfl ?_
            refine Ew_of (pc' := 117) (fun _ => x_goto rfl rfl) ?_
            refine w_iadd rfl ?_
            have hBN : (((((10 + a2) + (8 * (((a2 + v2) - 1) / v3))) + ((((a2 + v2) - 1) / v3) * (4 + v10)))) : Int) = BND ((w1)) ((a1)) ((a2)) := BND_3 (by (have qg0 := HIDe qv10; have qg1 := HIDe qv2; have qg2 := HIDe qv3; omega)) (by assumption) (by first | exact .inl ⟨by (have qg0 := HIDe qv10; have qg1 := HIDe qv2; have qg2 := HIDe qv3; omega), by congr 1; (have qg0 := HIDe qv10; have qg1 := HIDe qv2; have qg2 := HIDe qv3; omega)⟩ | exact .inr ⟨by (have qg0 := HIDe qv10; have qg1 := HIDe qv2; have qg2 := HIDe qv3; omega), rfl⟩)
            exact w_ireturn rfl (k ((((10 + a2) + (8 * (((a2 + v2) - 1) / v3))) + ((((a2 + v2) - 1) / v3) * (4 + v10)))) _ _ _ H O (SF_refl) (SA_refl) (show inr ((((10 + a2) + (8 * (((a2 + v2) - 1) / v3))) + ((((a2 + v2) - 1) / v3) * (4 + v10)))) by have qh0 := HIDe qv10; have qh1 := HIDe qv2; have qh2 := HIDe qv3; omega) (show ((((10 + a2) + (8 * (((a2 + v2) - 1) / v3))) + ((((a2 + v2) - 1) / v3) * (4 + v10)))) = BND ((w1)) (a1) (a2) by have qh0 := HIDe qv10; have qh1 := HIDe qv2; have qh2 := HIDe qv3; omega))
        ·
          by_cases b11 : a1 = 4
          · refine w_tsk 4 119 rfl (show inr (a1) by omega) (by omega) (by decide) rfl rfl ?_
            refine Ew_of (pc' := 120) (fun _ => x_aload_n rfl (rk_o (rfl) rfl rfl)) ?_
            refine v_g H (o := 0) (v := .ref (D 1)) rfl rfl rfl rfl rfl (vrf (pf1)) ?_
            refine Ew_of (pc' := 124) (fun _ => x_iload_n rfl (rk_o (rfl) rfl rfl)) ?_
            refine w_stat24 rfl rfl (by rfl) (C133_Irx (D := pul [1] D) (N := pul [1] N) (HW_sub H (VS_of (show vsub V34 V133_Ir [1] = true by decide +kernel))) (n1) (en1) (w1) (ew1) (show inr (a2) by omega) (show (n1) = 10 by have qh0 := HIDe r1; omega) (show 0 ≤ ((w1)) 8 ∧ ((w1)) 8 ≤ 11 by omega) (show 1 ≤ ((w1)) 2 ∧ ((w1)) 2 ≤ 65536 by omega) (show 0 ≤ (a2) ∧ (a2) ≤ 16384 by omega) (fun z12 σ12 F12' A12' H' O' hS12 hA12 pz12_0 pz12_1 pz12_2 => ⟨rfl, ?_⟩))
            refine v_back (c := c) (s := s) H (show vsub V34 V133_Ir [1] = true by decide +kernel) H' O' (fun F12 A12 H O' eF12 eA12 => ?_)
            have O := OUT_trans O O'
            -- Packer.rowLength
            refine Ew_of (pc' := 129) (fun _ => x_istore rfl) ?_
            refine Ew_of (pc' := 131) (fun _ => x_bipush (z := 22) rfl (by decide)) ?_
            refine Ew_of (pc' := 132) (fun _ => x_iconst rfl) ?_
            refine Ew_of (pc' := 133) (fun _ => x_iload_n rfl (rk_o (rk_o (rfl) rfl rfl) rfl rfl)) ?_
            refine w_ifne (t := 140) rfl rfl (show inr (a2) by omega) (fun b13 => ?_) (fun b13 => ?_)
            · refine Ew_of (pc' := 141) (fun _ => x_iload_n rfl (rk_o (rk_o (rfl) rfl rfl) rfl rfl)) ?_
              refine Ew_of (pc' := 143) (fun _ => x_iload rfl rk_s) ?_
              refine w_iadd rfl ?_
              refine Ew_of (pc' := 145) (fun _ => x_iconst rfl) ?_
              refine w_isub rfl ?_
              refine Ew_of (pc' := 148) (fun _ => x_iload rfl rk_s) ?_
              have hst : (a2) ≠ 0 := by omega
              have hr4 := RW_le (c := (z12)) (n := (a2)) (by omega) (by omega)
              refine w_idiv rfl (show inr (((a2 + z12) - 1)) ∧ 0 ≤ ((a2 + z12) - 1) by omega) (show inr (z12) ∧ 0 < z12 by omega) ?_
              have hq4 : (a2) = 0 ∧ (((((a2 + z12) - 1) / z12)) : Int) = 1 ∨ (a2) ≠ 0 ∧ (((((a2 + z12) - 1) / z12)) : Int) = RW ((z12)) ((a2)) := by first | exact .inl ⟨by omega, rfl⟩ | exact .inr ⟨by omega, rfl⟩
              have hr5 : 0 ≤ (((((a2 + z12) - 1) / z12)) : Int) ∧ (((((a2 + z12) - 1) / z12)) : Int) ≤ 16384 := by first | omega | (rcases hq4 with q | q; omega; (rw [q.2]; exact ⟨hr4.1, by omega⟩))
              refine w_imul rfl ?_
              refine w_iadd rfl ?_
              refine Ew_of (pc' := 152) (fun _ => x_iload_n rfl (rk_o (rk_o (rfl) rfl rfl) rfl rfl)) ?_
              refine w_iadd rfl ?_
              have hBN : ((((22 + (3 * (((a2 + z12) - 1) / z12))) + a2)) : Int) = BND ((w1)) ((a1)) ((a2)) := BND_4 (by omega) (by rcases hq4 with q | q; exact .inl q; exact .inr ⟨q.1, by rw [q.2, show (z12) = SMN (WND ((w1)) ((a2))) (((w1)) 2) by omega]⟩)
              exact w_ireturn rfl (k (((22 + (3 * (((a2 + z12) - 1) / z12))) + a2)) _ _ _ H O (SF_trans (SF_refl) (SF_glu (ι := [1]) hS12 eF12 (by decide +kernel)) (any_sub (l' := []) rfl)) (SA_trans (SA_refl) (SA_glu (ι := [1]) hA12 eA12 (by decide +kernel)) (any_subA (l' := []) rfl)) (show inr (((22 + (3 * (((a2 + z12) - 1) / z12))) + a2)) by omega) (show (((22 + (3 * (((a2 + z12) - 1) / z12))) + a2)) = BND ((w1)) (a1) (a2) by omega))
            · refine Ew_of (pc' := 137) (fun _ => x_iconst rfl) ?_
              refine Ew_of (pc' := 149) (fun _ => x_goto rfl rfl) ?_
              have hq4 : (a2) = 0 ∧ ((1) : Int) = 1 ∨ (a2) ≠ 0 ∧ ((1) : Int) = RW ((z12)) ((a2)) := by first | exact .inl ⟨by omega, rfl⟩ | exact .inr ⟨by omega, rfl⟩
              have hr5 : 0 ≤ ((1) : Int) ∧ ((1) : Int) ≤ 16384 := by first | omega | (rcases hq4 with q | q; omega; (rw [q.2]; exact ⟨hr4.1, by omega⟩))
              refine w_imul rfl ?_
              refine w_iadd rfl ?_
              refine Ew_of (pc' := 152) (fun _ => x_iload_n rfl (rk_o (rk_o (rfl) rfl rfl) rfl rfl)) ?_
              refine w_iadd rfl ?_
              have hBN : ((((22 + (3 * 1)) + a2)) : Int) = BND ((w1)) ((a1)) ((a2)) := BND_4 (by omega) (by rcases hq4 with q | q; exact .inl q; exact .inr ⟨q.1, by rw [q.2, show (z12) = SMN (WND ((w1)) ((a2))) (((w1)) 2) by omega]⟩)
              exact w_ireturn rfl (k (((22 + (3 * 1)) + a2)) _ _ _ H O (SF_trans (SF_refl) (SF_glu (ι := [1]) hS12 eF12 (by decide +kernel)) (any_sub (l' := []) rfl)) (SA_trans (SA_refl) (SA_glu (ι := [1]) hA12 eA12 (by decide +kernel)) (any_subA (l' := []) rfl)) (show inr (((22 + (3 * 1)) + a2)) by omega) (show (((22 + (3 * 1)) + a2)) = BND ((w1)) (a1) (a2) by omega))
          ·
            refine w_tsd 154 rfl (show inr (a1) by omega) (by omega) rfl ?_
            refine Ew_of (pc' := 157) (fun _ => x_sipush (z := 700) rfl (by decide)) ?_
            refine Ew_of (pc' := 158) (fun _ => x_iload_n rfl (rk_o (rfl) rfl rfl)) ?_
            refine w_iadd rfl ?_
            have hBN : (((700 + a2)) : Int) = BND ((w1)) ((a1)) ((a2)) := BND_5 (by omega)
            exact w_ireturn rfl (k ((700 + a2)) _ _ _ H O (SF_refl) (SA_refl) (show inr ((700 + a2)) by omega) (show ((700 + a2)) = BND ((w1)) (a1) (a2) by omega))
/-- PackHouse.bound: this, this.settings -/
theorem C21x {σE : rS} {D N : Nat → Nat} {F : hF} {A : hA} {d c s : Nat} {Q : wQ} (H : HW V21 σE D N F A) {a1 a2 : Int} (pf1 : F 0 1 = (D 1 : Int)) (n1 : Int) (en1 : (N 1 : Int) = n1) (w1 : Int → Int) (ew1 : A 1 = w1) (h0 : inr (a1)) (h1 : inr (a2)) (h2 : 1 ≤ ((w1)) 2 ∧ ((w1)) 2 ≤ 65536) (h3 : 0 ≤ ((w1)) 8 ∧ ((w1)) 8 ≤ 11) (h4 : 0 ≤ ((w1)) 6 ∧ ((w1)) 6 ≤ 255) (h5 : (n1) = 10) (k : ∀ (z : Int) (σ : rS) (F' : hF) (A' : hA), HW V21 σ D N F' A' → OUT (V21).length D N σE c s D N σ c s → SF [] F F' → SA [] A A' → (inr (z)) → ((z) = BNA ((w1)) ((a1)) ((a2))) → Q (some (I z)) σ c s) : Ew 21 (d + 3) 0 (rargs 0 [.ref (D 0), I a1, I a2]) [] σE c s Q := by
  have O := OUT_refl (n := (V21).length) (D := D) (N := N) (σ := σE) (c := c) (s := s)
  have HE := H
  replace pf1 := HIDm pf1
  replace en1 := HIDm en1
  have r1 : HID ((0 : Int) ≤ n1 ∧ n1 ≤ 1000000) := nrng (H.nle 1 (by decide)) (show (N 1 : Int) = n1 from en1)
  refine Ew_of (pc' := 1) (fun _ => x_iload_n rfl rfl) ?_
  refine w_iflt (t := 20) rfl rfl (show inr (a1) by omega) (fun b2 => ?_) (fun b2 => ?_)
  · refine Ew_of (pc' := 21) (fun _ => x_iconst rfl) ?_
    refine Ew_of (pc' := 30) (fun _ => x_goto rfl rfl) ?_
    have hBN : (((-1)) : Int) = BNA ((w1)) ((a1)) ((a2)) := by unfold BNA; first | (rw [if_neg (by omega)]) | (rw [if_pos (by omega)]; assumption)
    exact w_ireturn rfl (k ((-1)) _ _ _ H O (SF_refl) (SA_refl) (show inr ((-1)) by omega) (show ((-1)) = BNA ((w1)) (a1) (a2) by omega))
  · refine Ew_of (pc' := 5) (fun _ => x_iload_n rfl rfl) ?_
    refine Ew_of (pc' := 6) (fun _ => x_iconst rfl) ?_
    refine w_icmpgt (t := 20) rfl rfl (show inr (a1) by omega) (show inr (5) by omega) (fun b3 => ?_) (fun b3 => ?_)
    · refine Ew_of (pc' := 21) (fun _ => x_iconst rfl) ?_
      refine Ew_of (pc' := 30) (fun _ => x_goto rfl rfl) ?_
      have hBN : (((-1)) : Int) = BNA ((w1)) ((a1)) ((a2)) := by unfold BNA; first | (rw [if_neg (by omega)]) | (rw [if_pos (by omega)]; assumption)
      exact w_ireturn rfl (k ((-1)) _ _ _ H O (SF_refl) (SA_refl) (show inr ((-1)) by omega) (show ((-1)) = BNA ((w1)) (a1) (a2) by omega))
    · refine Ew_of (pc' := 10) (fun _ => x_iload_n rfl rfl) ?_
      refine w_iflt (t := 20) rfl rfl (show inr (a2) by omega) (fun b4 => ?_) (fun b4 => ?_)
      · refine Ew_of (pc' := 21) (fun _ => x_iconst rfl) ?_
        refine Ew_of (pc' := 30) (fun _ => x_goto rfl rfl) ?_
        have hBN : (((-1)) : Int) = BNA ((w1)) ((a1)) ((a2)) := by unfold BNA; first | (rw [if_neg (by omega)]) | (rw [if_pos (by omega)]; assumption)
        exact w_ireturn rfl (k ((-1)) _ _ _ H O (SF_refl) (SA_refl) (show inr ((-1)) by omega) (show ((-1)) = BNA ((w1)) (a1) (a2) by omega))
      · refine Ew_of (pc' := 14) (fun _ => x_iload_n rfl rfl) ?_
        refine Ew_of (pc' := 17) (fun _ => x_sipush (z := 16384) rfl (by decide)) ?_
        refine w_icmple (t := 24) rfl rfl (show inr (a2) by omega) (show inr (16384) by omega) (fun b5 => ?_) (fun b5 => ?_)
        · refine Ew_of (pc' := 25) (fun _ => x_aload_n rfl rfl) ?_
          refine Ew_of (pc' := 26) (fun _ => x_iload_n rfl rfl) ?_
          refine Ew_of (pc' := 27) (fun _ => x_iload_n rfl rfl) ?_
          refine v_inv H (o := 0) rfl rfl rfl rfl rfl rfl (by rfl) (C34x (D := pul [0, 1] D) (N := pul [0, 1] N) (HW_sub H (VS_of (show vsub V21 V34 [0, 1] = true by decide +kernel))) (pf1) (n1) (en1) (w1) (ew1) (show inr (a1) by omega) (show inr (a2) by omega) (show 0 ≤ (a2) ∧ (a2) ≤ 16384 by omega) (show 0 ≤ (a1) ∧ (a1) ≤ 5 by omega) (show 1 ≤ ((w1)) 2 ∧ ((w1)) 2 ≤ 65536 by omega) (show 0 ≤ ((w1)) 8 ∧ ((w1)) 8 ≤ 11 by omega) (show 0 ≤ ((w1)) 6 ∧ ((w1)) 6 ≤ 255 by omega) (show (n1) = 10 by have qh0 := HIDe r1; omega) (fun z6 σ6 F6' A6' H' O' hS6 hA6 pz6_0 pz6_1 => ⟨rfl, ?_⟩))
          refine v_back (c := c) (s := s) H (show vsub V21 V34 [0, 1] = true by decide +kernel) H' O' (fun F6 A6 H O' eF6 eA6 => ?_)
          have O := OUT_trans O O'
          -- PackHouse.boundOf
          have hBN : ((z6) : Int) = BNA ((w1)) ((a1)) ((a2)) := by unfold BNA; first | (rw [if_neg (by omega)]) | (rw [if_pos (by omega)]; assumption)
          exact w_ireturn rfl (k (z6) _ _ _ H O (SF_trans (SF_refl) (SF_glu (ι := [0, 1]) hS6 eF6 (by decide +kernel)) (any_sub (l' := []) rfl)) (SA_trans (SA_refl) (SA_glu (ι := [0, 1]) hA6 eA6 (by decide +kernel)) (any_subA (l' := []) rfl)) (show inr (z6) by omega) (show (z6) = BNA ((w1)) (a1) (a2) by omega))
        · refine Ew_of (pc' := 21) (fun _ => x_iconst rfl) ?_
          refine Ew_of (pc' := 30) (fun _ => x_goto rfl rfl) ?_
          have hBN : (((-1)) : Int) = BNA ((w1)) ((a1)) ((a2)) := by unfold BNA; first | (rw [if_neg (by omega)]) | (rw [if_pos (by omega)]; assumption)
          exact w_ireturn rfl (k ((-1)) _ _ _ H O (SF_refl) (SA_refl) (show inr ((-1)) by omega) (show ((-1)) = BNA ((w1)) (a1) (a2) by omega))
