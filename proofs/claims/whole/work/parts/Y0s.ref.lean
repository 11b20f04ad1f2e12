/-- Model.within -/
theorem M67x {σ0 σ : rS} {D N : Nat → Nat} {F : hF} {A : hA} {d c s : Nat} {Q : wQ} (H : HS σ0 σ D N F A) {a1 a2 a3 : Int} (h0 : inr (a1)) (h1 : inr (a2)) (h2 : inr (a3)) (k : ∀ (z : Int) σ F' A', HS σ0 σ D N F' A' → SF [] F F' → SA [] A A' → ((z) = 0 ∨ (z) = 1) → ((z) = 1 ∧ (a2) ≤ (a1) ∧ (a1) ≤ (a3) ∨ (z) = 0 ∧ ((a1) < (a2) ∨ (a3) < (a1))) → Q (some (I z)) σ c s) : Ew 67 (d + 0) 0 (rargs 0 [I a1, I a2, I a3]) [] σ c s Q := by
  refine Ew_of (pc' := 1) (fun _ => x_iload_n rfl rfl) ?_
  refine Ew_of (pc' := 2) (fun _ => x_iload_n rfl rfl) ?_
  refine w_icmplt (t := 14) rfl rfl (show inr (a1) by omega) (show inr (a2) by omega) (fun b1 => ?_) (fun b1 => ?_)
  · refine Ew_of (pc' := 15) (fun _ => x_iconst rfl) ?_
    exact w_ireturn rfl (k (0) σ _ _ H (SF_refl) (SA_refl) (show (0) = 0 ∨ (0) = 1 by omega) (show (0) = 1 ∧ a2 ≤ a1 ∧ a1 ≤ a3 ∨ (0) = 0 ∧ (a1 < a2 ∨ a3 < a1) by omega))
  · refine Ew_of (pc' := 6) (fun _ => x_iload_n rfl rfl) ?_
    refine Ew_of (pc' := 7) (fun _ => x_iload_n rfl rfl) ?_
    refine w_icmpgt (t := 14) rfl rfl (show inr (a1) by omega) (show inr (a3) by omega) (fun b2 => ?_) (fun b2 => ?_)
    · refine Ew_of (pc' := 15) (fun _ => x_iconst rfl) ?_
      exact w_ireturn rfl (k (0) σ _ _ H (SF_refl) (SA_refl) (show (0) = 0 ∨ (0) = 1 by omega) (show (0) = 1 ∧ a2 ≤ a1 ∧ a1 ≤ a3 ∨ (0) = 0 ∧ (a1 < a2 ∨ a3 < a1) by omega))
    · refine Ew_of (pc' := 11) (fun _ => x_iconst rfl) ?_
      refine Ew_of (pc' := 15) (fun _ => x_goto rfl rfl) ?_
      exact w_ireturn rfl (k (1) σ _ _ H (SF_refl) (SA_refl) (show (1) = 0 ∨ (1) = 1 by omega) (show (1) = 1 ∧ a2 ≤ a1 ∧ a1 ≤ a3 ∨ (1) = 0 ∧ (a1 < a2 ∨ a3 < a1) by omega))
/-- Model.may -/
theorem M68x {σ0 σ : rS} {D N : Nat → Nat} {F : hF} {A : hA} {d c s : Nat} {Q : wQ} (H : HS σ0 σ D N F A) {a1 a2 : Int} (h0 : inr (a1)) (h1 : inr (a2)) (k : ∀ (z : Int) σ F' A', HS σ0 σ D N F' A' → SF [] F F' → SA [] A A' → ((z) = 0 ∨ (z) = 1) → ((a1) = 3 ∧ ((z) = 1 ∧ 64 ≤ (a2) ∧ (a2) ≤ 127 ∧ andI ((a2)) 2 = 0 ∨ (z) = 0 ∧ ((a2) < 64 ∨ 127 < (a2) ∨ andI ((a2)) 2 ≠ 0)) ∨ ((a1) < 0 ∨ 9 < (a1)) ∧ (z) = 0 ∨ 0 ≤ (a1) ∧ (a1) ≤ 9 ∧ (a1) ≠ 3 ∧ ((z) = 1 ∧ mlo ((a1)) ≤ (a2) ∧ (a2) ≤ mhi ((a1)) ∨ (z) = 0 ∧ ((a2) < mlo ((a1)) ∨ mhi ((a1)) < (a2)))) → Q (some (I z)) σ c s) : Ew 68 (d + 1) 0 (rargs 0 [I a1, I a2]) [] σ c s Q := by
  refine Ew_of (pc' := 1) (fun _ => x_iload_n rfl rfl) ?_
  by_cases b1 : a1 = 0
  · refine w_tsk 0 52 rfl (show inr (a1) by omega) (by omega) (by decide) rfl rfl ?_
    have hm : mlo ((a1)) = 0 ∧ mhi ((a1)) = 3 := by rw [show (a1) = (0 : Int) by omega]; decide
    refine Ew_of (pc' := 53) (fun _ => x_iload_n rfl rfl) ?_
    refine Ew_of (pc' := 54) (fun _ => x_iconst rfl) ?_
    refine Ew_of (pc' := 55) (fun _ => x_iconst rfl) ?_
    refine w_stat24 rfl rfl (by rfl) (M67x H (show inr (a2) by omega) (show inr (0) by omega) (show inr (3) by omega) (fun z6 σ F2 A3 H hS4 hA5 pz6_0 pz6_1 => ⟨rretB rfl pz6_0, ?_⟩))
    exact w_ireturn rfl (k (z6) σ _ _ H (SF_trans (SF_refl) hS4 (any_sub rfl)) (SA_trans (SA_refl) hA5 (any_subA rfl)) (show (z6) = 0 ∨ (z6) = 1 by omega) (show a1 = 3 ∧ ((z6) = 1 ∧ 64 ≤ a2 ∧ a2 ≤ 127 ∧ andI (a2) 2 = 0 ∨ (z6) = 0 ∧ (a2 < 64 ∨ 127 < a2 ∨ andI (a2) 2 ≠ 0)) ∨ (a1 < 0 ∨ 9 < a1) ∧ (z6) = 0 ∨ 0 ≤ a1 ∧ a1 ≤ 9 ∧ a1 ≠ 3 ∧ ((z6) = 1 ∧ mlo (a1) ≤ a2 ∧ a2 ≤ mhi (a1) ∨ (z6) = 0 ∧ (a2 < mlo (a1) ∨ mhi (a1) < a2)) by omega))
  ·
    by_cases b7 : a1 = 1
    · refine w_tsk 1 59 rfl (show inr (a1) by omega) (by omega) (by decide) rfl rfl ?_
      have hm : mlo ((a1)) = 3 ∧ mhi ((a1)) = 8 := by rw [show (a1) = (1 : Int) by omega]; decide
      refine Ew_of (pc' := 60) (fun _ => x_iload_n rfl rfl) ?_
      refine Ew_of (pc' := 61) (fun _ => x_iconst rfl) ?_
      refine Ew_of (pc' := 63) (fun _ => x_bipush (z := 8) rfl (by decide)) ?_
      refine w_stat24 rfl rfl (by rfl) (M67x H (show inr (a2) by omega) (show inr (3) by omega) (show inr (8) by omega) (fun z12 σ F8 A9 H hS10 hA11 pz12_0 pz12_1 => ⟨rretB rfl pz12_0, ?_⟩))
      exact w_ireturn rfl (k (z12) σ _ _ H (SF_trans (SF_refl) hS10 (any_sub rfl)) (SA_trans (SA_refl) hA11 (any_subA rfl)) (show (z12) = 0 ∨ (z12) = 1 by omega) (show a1 = 3 ∧ ((z12) = 1 ∧ 64 ≤ a2 ∧ a2 ≤ 127 ∧ andI (a2) 2 = 0 ∨ (z12) = 0 ∧ (a2 < 64 ∨ 127 < a2 ∨ andI (a2) 2 ≠ 0)) ∨ (a1 < 0 ∨ 9 < a1) ∧ (z12) = 0 ∨ 0 ≤ a1 ∧ a1 ≤ 9 ∧ a1 ≠ 3 ∧ ((z12) = 1 ∧ mlo (a1) ≤ a2 ∧ a2 ≤ mhi (a1) ∨ (z12) = 0 ∧ (a2 < mlo (a1) ∨ mhi (a1) < a2)) by omega))
    ·
      by_cases b13 : a1 = 2
      · refine w_tsk 2 67 rfl (show inr (a1) by omega) (by omega) (by decide) rfl rfl ?_
        have hm : mlo ((a1)) = 1 ∧ mhi ((a1)) = 65536 := by rw [show (a1) = (2 : Int) by omega]; decide
        refine Ew_of (pc' := 68) (fun _ => x_iload_n rfl rfl) ?_
        refine Ew_of (pc' := 69) (fun _ => x_iconst rfl) ?_
        refine Ew_of (pc' := 71) (fun _ => x_ldc (z := 65536) rfl (by decide)) ?_
        refine w_stat24 rfl rfl (by rfl) (M67x H (show inr (a2) by omega) (show inr (1) by omega) (show inr (65536) by omega) (fun z18 σ F14 A15 H hS16 hA17 pz18_0 pz18_1 => ⟨rretB rfl pz18_0, ?_⟩))
        exact w_ireturn rfl (k (z18) σ _ _ H (SF_trans (SF_refl) hS16 (any_sub rfl)) (SA_trans (SA_refl) hA17 (any_subA rfl)) (show (z18) = 0 ∨ (z18) = 1 by omega) (show a1 = 3 ∧ ((z18) = 1 ∧ 64 ≤ a2 ∧ a2 ≤ 127 ∧ andI (a2) 2 = 0 ∨ (z18) = 0 ∧ (a2 < 64 ∨ 127 < a2 ∨ andI (a2) 2 ≠ 0)) ∨ (a1 < 0 ∨ 9 < a1) ∧ (z18) = 0 ∨ 0 ≤ a1 ∧ a1 ≤ 9 ∧ a1 ≠ 3 ∧ ((z18) = 1 ∧ mlo (a1) ≤ a2 ∧ a2 ≤ mhi (a1) ∨ (z18) = 0 ∧ (a2 < mlo (a1) ∨ mhi (a1) < a2)) by omega))
      ·
        by_cases b19 : a1 = 3
        · refine w_tsk 3 75 rfl (show inr (a1) by omega) (by omega) (by decide) rfl rfl ?_
          refine Ew_of (pc' := 76) (fun _ => x_iload_n rfl rfl) ?_
          refine Ew_of (pc' := 78) (fun _ => x_bipush (z := 64) rfl (by decide)) ?_
          refine Ew_of (pc' := 80) (fun _ => x_bipush (z := 127) rfl (by decide)) ?_
          refine w_stat24 rfl rfl (by rfl) (M67x H (show inr (a2) by omega) (show inr (64) by omega) (show inr (127) by omega) (fun z24 σ F20 A21 H hS22 hA23 pz24_0 pz24_1 => ⟨rretB rfl pz24_0, ?_⟩))
          refine w_ifeq (t := 96) rfl rfl (show inr (z24) by omega) (fun b25 => ?_) (fun b25 => ?_)
          · refine Ew_of (pc' := 97) (fun _ => x_iconst rfl) ?_
            exact w_ireturn rfl (k (0) σ _ _ H (SF_trans (SF_refl) hS22 (any_sub rfl)) (SA_trans (SA_refl) hA23 (any_subA rfl)) (show (0) = 0 ∨ (0) = 1 by omega) (show a1 = 3 ∧ ((0) = 1 ∧ 64 ≤ a2 ∧ a2 ≤ 127 ∧ andI (a2) 2 = 0 ∨ (0) = 0 ∧ (a2 < 64 ∨ 127 < a2 ∨ andI (a2) 2 ≠ 0)) ∨ (a1 < 0 ∨ 9 < a1) ∧ (0) = 0 ∨ 0 ≤ a1 ∧ a1 ≤ 9 ∧ a1 ≠ 3 ∧ ((0) = 1 ∧ mlo (a1) ≤ a2 ∧ a2 ≤ mhi (a1) ∨ (0) = 0 ∧ (a2 < mlo (a1) ∨ mhi (a1) < a2)) by omega))
          · refine Ew_of (pc' := 87) (fun _ => x_iload_n rfl rfl) ?_
            refine Ew_of (pc' := 88) (fun _ => x_iconst rfl) ?_
            refine w_iandE rfl (show inr (a2) by omega) (show inr (2) by omega) (fun z26 gz26 gaz26 gbz26 gez26 => ?_)
            refine w_ifne (t := 96) rfl rfl (show inr (z26) by omega) (fun b27 => ?_) (fun b27 => ?_)
            · refine Ew_of (pc' := 97) (fun _ => x_iconst rfl) ?_
              exact w_ireturn rfl (k (0) σ _ _ H (SF_trans (SF_refl) hS22 (any_sub rfl)) (SA_trans (SA_refl) hA23 (any_subA rfl)) (show (0) = 0 ∨ (0) = 1 by omega) (show a1 = 3 ∧ ((0) = 1 ∧ 64 ≤ a2 ∧ a2 ≤ 127 ∧ andI (a2) 2 = 0 ∨ (0) = 0 ∧ (a2 < 64 ∨ 127 < a2 ∨ andI (a2) 2 ≠ 0)) ∨ (a1 < 0 ∨ 9 < a1) ∧ (0) = 0 ∨ 0 ≤ a1 ∧ a1 ≤ 9 ∧ a1 ≠ 3 ∧ ((0) = 1 ∧ mlo (a1) ≤ a2 ∧ a2 ≤ mhi (a1) ∨ (0) = 0 ∧ (a2 < mlo (a1) ∨ mhi (a1) < a2)) by omega))
            · refine Ew_of (pc' := 93) (fun _ => x_iconst rfl) ?_
              refine Ew_of (pc' := 97) (fun _ => x_goto rfl rfl) ?_
              exact w_ireturn rfl (k (1) σ _ _ H (SF_trans (SF_refl) hS22 (any_sub rfl)) (SA_trans (SA_refl) hA23 (any_subA rfl)) (show (1) = 0 ∨ (1) = 1 by omega) (show a1 = 3 ∧ ((1) = 1 ∧ 64 ≤ a2 ∧ a2 ≤ 127 ∧ andI (a2) 2 = 0 ∨ (1) = 0 ∧ (a2 < 64 ∨ 127 < a2 ∨ andI (a2) 2 ≠ 0)) ∨ (a1 < 0 ∨ 9 < a1) ∧ (1) = 0 ∨ 0 ≤ a1 ∧ a1 ≤ 9 ∧ a1 ≠ 3 ∧ ((1) = 1 ∧ mlo (a1) ≤ a2 ∧ a2 ≤ mhi (a1) ∨ (1) = 0 ∧ (a2 < mlo (a1) ∨ mhi (a1) < a2)) by omega))
        ·
          by_cases b28 : a1 = 4
          · refine w_tsk 4 98 rfl (show inr (a1) by omega) (by omega) (by decide) rfl rfl ?_
            have hm : mlo ((a1)) = 4 ∧ mhi ((a1)) = 7 := by rw [show (a1) = (4 : Int) by omega]; decide
            refine Ew_of (pc' := 99) (fun _ => x_iload_n rfl rfl) ?_
            refine Ew_of (pc' := 100) (fun _ => x_iconst rfl) ?_
            refine Ew_of (pc' := 102) (fun _ => x_bipush (z := 7) rfl (by decide)) ?_
            refine w_stat24 rfl rfl (by rfl) (M67x H (show inr (a2) by omega) (show inr (4) by omega) (show inr (7) by omega) (fun z33 σ F29 A30 H hS31 hA32 pz33_0 pz33_1 => ⟨rretB rfl pz33_0, ?_⟩))
            exact w_ireturn rfl (k (z33) σ _ _ H (SF_trans (SF_refl) hS31 (any_sub rfl)) (SA_trans (SA_refl) hA32 (any_subA rfl)) (show (z33) = 0 ∨ (z33) = 1 by omega) (show a1 = 3 ∧ ((z33) = 1 ∧ 64 ≤ a2 ∧ a2 ≤ 127 ∧ andI (a2) 2 = 0 ∨ (z33) = 0 ∧ (a2 < 64 ∨ 127 < a2 ∨ andI (a2) 2 ≠ 0)) ∨ (a1 < 0 ∨ 9 < a1) ∧ (z33) = 0 ∨ 0 ≤ a1 ∧ a1 ≤ 9 ∧ a1 ≠ 3 ∧ ((z33) = 1 ∧ mlo (a1) ≤ a2 ∧ a2 ≤ mhi (a1) ∨ (z33) = 0 ∧ (a2 < mlo (a1) ∨ mhi (a1) < a2)) by omega))
          ·
            by_cases b34 : a1 = 5
            · refine w_tsk 5 131 rfl (show inr (a1) by omega) (by omega) (by decide) rfl rfl ?_
              have hm : mlo ((a1)) = -2147483648 ∧ mhi ((a1)) = 2147483647 := mlo_df (by omega)
              refine Ew_of (pc' := 132) (fun _ => x_iload_n rfl rfl) ?_
              refine Ew_of (pc' := 133) (fun _ => x_iconst rfl) ?_
              refine w_icmpeq (t := 142) rfl rfl (show inr (a1) by omega) (show inr (5) by omega) (fun b35 => ?_) (fun b35 => ?_)
              · refine Ew_of (pc' := 143) (fun _ => x_iconst rfl) ?_
                refine Ew_of (pc' := 147) (fun _ => x_goto rfl rfl) ?_
                exact w_ireturn rfl (k (1) σ _ _ H (SF_refl) (SA_refl) (show (1) = 0 ∨ (1) = 1 by omega) (show a1 = 3 ∧ ((1) = 1 ∧ 64 ≤ a2 ∧ a2 ≤ 127 ∧ andI (a2) 2 = 0 ∨ (1) = 0 ∧ (a2 < 64 ∨ 127 < a2 ∨ andI (a2) 2 ≠ 0)) ∨ (a1 < 0 ∨ 9 < a1) ∧ (1) = 0 ∨ 0 ≤ a1 ∧ a1 ≤ 9 ∧ a1 ≠ 3 ∧ ((1) = 1 ∧ mlo (a1) ≤ a2 ∧ a2 ≤ mhi (a1) ∨ (1) = 0 ∧ (a2 < mlo (a1) ∨ mhi (a1) < a2)) by omega))
              · refine Ew_of (pc' := 137) (fun _ => x_iload_n rfl rfl) ?_
                refine Ew_of (pc' := 139) (fun _ => x_bipush (z := 9) rfl (by decide)) ?_
                refine w_icmpne (t := 146) rfl rfl (show inr (a1) by omega) (show inr (9) by omega) (fun b36 => ?_) (fun b36 => ?_)
                · refine Ew_of (pc' := 147) (fun _ => x_iconst rfl) ?_
                  exact w_ireturn rfl (k (0) σ _ _ H (SF_refl) (SA_refl) (show (0) = 0 ∨ (0) = 1 by omega) (show a1 = 3 ∧ ((0) = 1 ∧ 64 ≤ a2 ∧ a2 ≤ 127 ∧ andI (a2) 2 = 0 ∨ (0) = 0 ∧ (a2 < 64 ∨ 127 < a2 ∨ andI (a2) 2 ≠ 0)) ∨ (a1 < 0 ∨ 9 < a1) ∧ (0) = 0 ∨ 0 ≤ a1 ∧ a1 ≤ 9 ∧ a1 ≠ 3 ∧ ((0) = 1 ∧ mlo (a1) ≤ a2 ∧ a2 ≤ mhi (a1) ∨ (0) = 0 ∧ (a2 < mlo (a1) ∨ mhi (a1) < a2)) by omega))
                · refine Ew_of (pc' := 143) (fun _ => x_iconst rfl) ?_
                  refine Ew_of (pc' := 147) (fun _ => x_goto rfl rfl) ?_
                  exact w_ireturn rfl (k (1) σ _ _ H (SF_refl) (SA_refl) (show (1) = 0 ∨ (1) = 1 by omega) (show a1 = 3 ∧ ((1) = 1 ∧ 64 ≤ a2 ∧ a2 ≤ 127 ∧ andI (a2) 2 = 0 ∨ (1) = 0 ∧ (a2 < 64 ∨ 127 < a2 ∨ andI (a2) 2 ≠ 0)) ∨ (a1 < 0 ∨ 9 < a1) ∧ (1) = 0 ∨ 0 ≤ a1 ∧ a1 ≤ 9 ∧ a1 ≠ 3 ∧ ((1) = 1 ∧ mlo (a1) ≤ a2 ∧ a2 ≤ mhi (a1) ∨ (1) = 0 ∧ (a2 < mlo (a1) ∨ mhi (a1) < a2)) by omega))
            ·
              by_cases b37 : a1 = 6
              · refine w_tsk 6 106 rfl (show inr (a1) by omega) (by omega) (by decide) rfl rfl ?_
                have hm : mlo ((a1)) = 0 ∧ mhi ((a1)) = 255 := by rw [show (a1) = (6 : Int) by omega]; decide
                refine Ew_of (pc' := 107) (fun _ => x_iload_n rfl rfl) ?_
                refine Ew_of (pc' := 108) (fun _ => x_iconst rfl) ?_
                refine Ew_of (pc' := 111) (fun _ => x_sipush (z := 255) rfl (by decide)) ?_
                refine w_stat24 rfl rfl (by rfl) (M67x H (show inr (a2) by omega) (show inr (0) by omega) (show inr (255) by omega) (fun z42 σ F38 A39 H hS40 hA41 pz42_0 pz42_1 => ⟨rretB rfl pz42_0, ?_⟩))
                exact w_ireturn rfl (k (z42) σ _ _ H (SF_trans (SF_refl) hS40 (any_sub rfl)) (SA_trans (SA_refl) hA41 (any_subA rfl)) (show (z42) = 0 ∨ (z42) = 1 by omega) (show a1 = 3 ∧ ((z42) = 1 ∧ 64 ≤ a2 ∧ a2 ≤ 127 ∧ andI (a2) 2 = 0 ∨ (z42) = 0 ∧ (a2 < 64 ∨ 127 < a2 ∨ andI (a2) 2 ≠ 0)) ∨ (a1 < 0 ∨ 9 < a1) ∧ (z42) = 0 ∨ 0 ≤ a1 ∧ a1 ≤ 9 ∧ a1 ≠ 3 ∧ ((z42) = 1 ∧ mlo (a1) ≤ a2 ∧ a2 ≤ mhi (a1) ∨ (z42) = 0 ∧ (a2 < mlo (a1) ∨ mhi (a1) < a2)) by omega))
              ·
                by_cases b43 : a1 = 7
                · refine w_tsk 7 115 rfl (show inr (a1) by omega) (by omega) (by decide) rfl rfl ?_
                  have hm : mlo ((a1)) = 0 ∧ mhi ((a1)) = 15 := by rw [show (a1) = (7 : Int) by omega]; decide
                  refine Ew_of (pc' := 116) (fun _ => x_iload_n rfl rfl) ?_
                  refine Ew_of (pc' := 117) (fun _ => x_iconst rfl) ?_
                  refine Ew_of (pc' := 119) (fun _ => x_bipush (z := 15) rfl (by decide)) ?_
                  refine w_stat24 rfl rfl (by rfl) (M67x H (show inr (a2) by omega) (show inr (0) by omega) (show inr (15) by omega) (fun z48 σ F44 A45 H hS46 hA47 pz48_0 pz48_1 => ⟨rretB rfl pz48_0, ?_⟩))
                  exact w_ireturn rfl (k (z48) σ _ _ H (SF_trans (SF_refl) hS46 (any_sub rfl)) (SA_trans (SA_refl) hA47 (any_subA rfl)) (show (z48) = 0 ∨ (z48) = 1 by omega) (show a1 = 3 ∧ ((z48) = 1 ∧ 64 ≤ a2 ∧ a2 ≤ 127 ∧ andI (a2) 2 = 0 ∨ (z48) = 0 ∧ (a2 < 64 ∨ 127 < a2 ∨ andI (a2) 2 ≠ 0)) ∨ (a1 < 0 ∨ 9 < a1) ∧ (z48) = 0 ∨ 0 ≤ a1 ∧ a1 ≤ 9 ∧ a1 ≠ 3 ∧ ((z48) = 1 ∧ mlo (a1) ≤ a2 ∧ a2 ≤ mhi (a1) ∨ (z48) = 0 ∧ (a2 < mlo (a1) ∨ mhi (a1) < a2)) by omega))
                ·
                  by_cases b49 : a1 = 8
                  · refine w_tsk 8 123 rfl (show inr (a1) by omega) (by omega) (by decide) rfl rfl ?_
                    have hm : mlo ((a1)) = 0 ∧ mhi ((a1)) = 11 := by rw [show (a1) = (8 : Int) by omega]; decide
                    refine Ew_of (pc' := 124) (fun _ => x_iload_n rfl rfl) ?_
                    refine Ew_of (pc' := 125) (fun _ => x_iconst rfl) ?_
                    refine Ew_of (pc' := 127) (fun _ => x_bipush (z := 11) rfl (by decide)) ?_
                    refine w_stat24 rfl rfl (by rfl) (M67x H (show inr (a2) by omega) (show inr (0) by omega) (show inr (11) by omega) (fun z54 σ F50 A51 H hS52 hA53 pz54_0 pz54_1 => ⟨rretB rfl pz54_0, ?_⟩))
                    exact w_ireturn rfl (k (z54) σ _ _ H (SF_trans (SF_refl) hS52 (any_sub rfl)) (SA_trans (SA_refl) hA53 (any_subA rfl)) (show (z54) = 0 ∨ (z54) = 1 by omega) (show a1 = 3 ∧ ((z54) = 1 ∧ 64 ≤ a2 ∧ a2 ≤ 127 ∧ andI (a2) 2 = 0 ∨ (z54) = 0 ∧ (a2 < 64 ∨ 127 < a2 ∨ andI (a2) 2 ≠ 0)) ∨ (a1 < 0 ∨ 9 < a1) ∧ (z54) = 0 ∨ 0 ≤ a1 ∧ a1 ≤ 9 ∧ a1 ≠ 3 ∧ ((z54) = 1 ∧ mlo (a1) ≤ a2 ∧ a2 ≤ mhi (a1) ∨ (z54) = 0 ∧ (a2 < mlo (a1) ∨ mhi (a1) < a2)) by omega))
                  ·
                    refine w_tsd 131 rfl (show inr (a1) by omega) (by omega) rfl ?_
                    have hm : mlo ((a1)) = -2147483648 ∧ mhi ((a1)) = 2147483647 := mlo_df (by omega)
                    refine Ew_of (pc' := 132) (fun _ => x_iload_n rfl rfl) ?_
                    refine Ew_of (pc' := 133) (fun _ => x_iconst rfl) ?_
                    refine w_icmpeq (t := 142) rfl rfl (show inr (a1) by omega) (show inr (5) by omega) (fun b55 => ?_) (fun b55 => ?_)
                    · refine Ew_of (pc' := 143) (fun _ => x_iconst rfl) ?_
                      refine Ew_of (pc' := 147) (fun _ => x_goto rfl rfl) ?_
                      exact w_ireturn rfl (k (1) σ _ _ H (SF_refl) (SA_refl) (show (1) = 0 ∨ (1) = 1 by omega) (show a1 = 3 ∧ ((1) = 1 ∧ 64 ≤ a2 ∧ a2 ≤ 127 ∧ andI (a2) 2 = 0 ∨ (1) = 0 ∧ (a2 < 64 ∨ 127 < a2 ∨ andI (a2) 2 ≠ 0)) ∨ (a1 < 0 ∨ 9 < a1) ∧ (1) = 0 ∨ 0 ≤ a1 ∧ a1 ≤ 9 ∧ a1 ≠ 3 ∧ ((1) = 1 ∧ mlo (a1) ≤ a2 ∧ a2 ≤ mhi (a1) ∨ (1) = 0 ∧ (a2 < mlo (a1) ∨ mhi (a1) < a2)) by omega))
                    · refine Ew_of (pc' := 137) (fun _ => x_iload_n rfl rfl) ?_
                      refine Ew_of (pc' := 139) (fun _ => x_bipush (z := 9) rfl (by decide)) ?_
                      refine w_icmpne (t := 146) rfl rfl (show inr (a1) by omega) (show inr (9) by omega) (fun b56 => ?_) (fun b56 => ?_)
                      · refine Ew_of (pc' := 147) (fun _ => x_iconst rfl) ?_
                        exact w_ireturn rfl (k (0) σ _ _ H (SF_refl) (SA_refl) (show (0) = 0 ∨ (0) = 1 by omega) (show a1 = 3 ∧ ((0) = 1 ∧ 64 ≤ a2 ∧ a2 ≤ 127 ∧ andI (a2) 2 = 0 ∨ (0) = 0 ∧ (a2 < 64 ∨ 127 < a2 ∨ andI (a2) 2 ≠ 0)) ∨ (a1 < 0 ∨ 9 < a1) ∧ (0) = 0 ∨ 0 ≤ a1 ∧ a1 ≤ 9 ∧ a1 ≠ 3 ∧ ((0) = 1 ∧ mlo (a1) ≤ a2 ∧ a2 ≤ mhi (a1) ∨ (0) = 0 ∧ (a2 < mlo (a1) ∨ mhi (a1) < a2)) by omega))
                      · refine Ew_of (pc' := 143) (fun _ => x_iconst rfl) ?_
                        refine Ew_of (pc' := 147) (fun _ => x_goto rfl rfl) ?_
                        exact w_ireturn rfl (k (1) σ _ _ H (SF_refl) (SA_refl) (show (1) = 0 ∨ (1) = 1 by omega) (show a1 = 3 ∧ ((1) = 1 ∧ 64 ≤ a2 ∧ a2 ≤ 127 ∧ andI (a2) 2 = 0 ∨ (1) = 0 ∧ (a2 < 64 ∨ 127 < a2 ∨ andI (a2) 2 ≠ 0)) ∨ (a1 < 0 ∨ 9 < a1) ∧ (1) = 0 ∨ 0 ≤ a1 ∧ a1 ≤ 9 ∧ a1 ≠ 3 ∧ ((1) = 1 ∧ mlo (a1) ≤ a2 ∧ a2 ≤ mhi (a1) ∨ (1) = 0 ∧ (a2 < mlo (a1) ∨ mhi (a1) < a2)) by omega))
/-- Model.set -/
theorem M69x {σ0 σ : rS} {D N : Nat → Nat} {F : hF} {A : hA} {d c s : Nat} {Q : wQ} (H : HS σ0 σ D N F A) {a1 a2 : Int} (w12 : Int → Int) (ew12 : A 12 = w12) (h0 : inr (a1)) (h1 : inr (a2)) (h2 : SE ((w12))) (h3 : andI (((w12)) 3) 2 = 0) (k : ∀ (z : Int) σ F' A', HS σ0 σ D N F' A' → SF [] F F' → SA [12] A A' → ∀ v12 : Int → Int, A' 12 = v12 → ((z) = 0 ∨ (z) = 1) → (SE ((v12))) → (andI (((v12)) 3) 2 = 0) → ((a1) = 3 ∧ ((z) = 1 ∧ 64 ≤ (a2) ∧ (a2) ≤ 127 ∧ andI ((a2)) 2 = 0 ∨ (z) = 0 ∧ ((a2) < 64 ∨ 127 < (a2) ∨ andI ((a2)) 2 ≠ 0)) ∨ ((a1) < 0 ∨ 9 < (a1)) ∧ (z) = 0 ∨ 0 ≤ (a1) ∧ (a1) ≤ 9 ∧ (a1) ≠ 3 ∧ ((z) = 1 ∧ mlo ((a1)) ≤ (a2) ∧ (a2) ≤ mhi ((a1)) ∨ (z) = 0 ∧ ((a2) < mlo ((a1)) ∨ mhi ((a1)) < (a2)))) → (UPD ((z)) ((w12)) ((v12)) ((a1)) ((a2))) → Q (some (I z)) σ c s) : Ew 69 (d + 2) 0 (rargs 0 [.ref (D 0), I a1, I a2]) [] σ c s Q := by
  refine Ew_of (pc' := 1) (fun _ => x_iload_n rfl rfl) ?_
  refine Ew_of (pc' := 2) (fun _ => x_iload_n rfl rfl) ?_
  refine w_stat24 rfl rfl (by rfl) (M68x H (show inr (a1) by omega) (show inr (a2) by omega) (fun z5 σ F1 A2 H hS3 hA4 pz5_0 pz5_1 => ⟨rretB rfl pz5_0, ?_⟩))
  refine w_ifne (t := 10) rfl rfl (show inr (z5) by omega) (fun b6 => ?_) (fun b6 => ?_)
  · have : SE (upd1 ((w12)) ((a1)) ((a2))) := SE_of (by assumption) (by omega)
    have hU : UPD 1 (w12) (upd1 (w12) ((a1)) ((a2))) ((a1)) ((a2)) := .inl ⟨rfl, rfl⟩
    have h3b : andI ((upd1 (w12) ((a1)) ((a2))) 3) 2 = 0 := by by_cases q : (a1) = 3; (rw [q, upd1_s]; omega); (rw [upd1_o (fun e => q e.symm)]; assumption)
    refine Ew_of (pc' := 11) (fun _ => x_aload_n rfl rfl) ?_
    refine w_gT H (o := 0) (t := 12) rfl (H.perm 0 rfl) rfl rfl rfl rfl rfl rfl ?_
    refine Ew_of (pc' := 15) (fun _ => x_iload_n rfl rfl) ?_
    refine Ew_of (pc' := 16) (fun _ => x_iload_n rfl rfl) ?_
    refine w_sI H (o := 12) (n := 10) rfl (H.perm 12 rfl) rfl rfl (H.fix 12 rfl rfl) (show 0 ≤ a1 ∧ a1 < ((10 : Nat) : Int) by omega) (by decide) (show (-2147483648 : Int) ≤ a2 ∧ a2 ≤ 2147483647 by omega) (fun σ H => ?_)
    refine Ew_of (pc' := 18) (fun _ => x_iconst rfl) ?_
    exact w_ireturn rfl (k (1) σ _ _ H (SF_trans (SF_refl) hS3 (any_sub rfl)) (SA_upd (SA_trans (SA_refl) hA4 (any_subA rfl)) rfl) (upd1 (w12) (a1) (a2)) (congrArg (fun q => upd1 q (a1) (a2)) ((funext (hA4 12 rfl)).trans (ew12))) (show (1) = 0 ∨ (1) = 1 by omega) (show SE ((upd1 (w12) (a1) (a2))) by assumption) (show andI (((upd1 (w12) (a1) (a2))) 3) 2 = 0 by omega) (show a1 = 3 ∧ ((1) = 1 ∧ 64 ≤ a2 ∧ a2 ≤ 127 ∧ andI (a2) 2 = 0 ∨ (1) = 0 ∧ (a2 < 64 ∨ 127 < a2 ∨ andI (a2) 2 ≠ 0)) ∨ (a1 < 0 ∨ 9 < a1) ∧ (1) = 0 ∨ 0 ≤ a1 ∧ a1 ≤ 9 ∧ a1 ≠ 3 ∧ ((1) = 1 ∧ mlo (a1) ≤ a2 ∧ a2 ≤ mhi (a1) ∨ (1) = 0 ∧ (a2 < mlo (a1) ∨ mhi (a1) < a2)) by omega) (show UPD ((1)) ((w12)) ((upd1 (w12) (a1) (a2))) (a1) (a2) by assumption))
  · have hU : UPD 0 (w12) (w12) ((a1)) ((a2)) := .inr ⟨rfl, rfl⟩
    refine Ew_of (pc' := 9) (fun _ => x_iconst rfl) ?_
    exact w_ireturn rfl (k (0) σ _ _ H (SF_trans (SF_refl) hS3 (any_sub rfl)) (SA_trans (SA_refl) hA4 (any_subA rfl)) (w12) ((funext (hA4 12 rfl)).trans (ew12)) (show (0) = 0 ∨ (0) = 1 by omega) (show SE ((w12)) by assumption) (show andI (((w12)) 3) 2 = 0 by omega) (show a1 = 3 ∧ ((0) = 1 ∧ 64 ≤ a2 ∧ a2 ≤ 127 ∧ andI (a2) 2 = 0 ∨ (0) = 0 ∧ (a2 < 64 ∨ 127 < a2 ∨ andI (a2) 2 ≠ 0)) ∨ (a1 < 0 ∨ 9 < a1) ∧ (0) = 0 ∨ 0 ≤ a1 ∧ a1 ≤ 9 ∧ a1 ≠ 3 ∧ ((0) = 1 ∧ mlo (a1) ≤ a2 ∧ a2 ≤ mhi (a1) ∨ (0) = 0 ∧ (a2 < mlo (a1) ∨ mhi (a1) < a2)) by omega) (show UPD ((0)) ((w12)) ((w12)) (a1) (a2) by assumption))
/-- Model.get -/
theorem M70x {σ0 σ : rS} {D N : Nat → Nat} {F : hF} {A : hA} {d c s : Nat} {Q : wQ} (H : HS σ0 σ D N F A) {a1 : Int} (w12 : Int → Int) (ew12 : A 12 = w12) (h0 : inr (a1)) (k : ∀ (z : Int) σ F' A', HS σ0 σ D N F' A' → SF [] F F' → SA [] A A' → (inr (z)) → (0 ≤ (a1) ∧ (a1) ≤ 9 ∧ (z) = ((w12)) ((a1)) ∨ ((a1) < 0 ∨ 9 < (a1)) ∧ (z) = -1) → Q (some (I z)) σ c s) : Ew 70 (d + 1) 0 (rargs 0 [.ref (D 0), I a1]) [] σ c s Q := by
  refine Ew_of (pc' := 1) (fun _ => x_iload_n rfl rfl) ?_
  refine Ew_of (pc' := 2) (fun _ => x_iconst rfl) ?_
  refine Ew_of (pc' := 4) (fun _ => x_bipush (z := 9) rfl (by decide)) ?_
  refine w_stat24 rfl rfl (by rfl) (M67x H (show inr (a1) by omega) (show inr (0) by omega) (show inr (9) by omega) (fun z5 σ F1 A2 H hS3 hA4 pz5_0 pz5_1 => ⟨rretB rfl pz5_0, ?_⟩))
  refine w_ifeq (t := 19) rfl rfl (show inr (z5) by omega) (fun b6 => ?_) (fun b6 => ?_)
  · refine Ew_of (pc' := 20) (fun _ => x_iconst rfl) ?_
    exact w_ireturn rfl (k ((-1)) σ _ _ H (SF_trans (SF_refl) hS3 (any_sub rfl)) (SA_trans (SA_refl) hA4 (any_subA rfl)) (show inr ((-1)) by omega) (show 0 ≤ a1 ∧ a1 ≤ 9 ∧ ((-1)) = ((w12)) (a1) ∨ (a1 < 0 ∨ 9 < a1) ∧ ((-1)) = -1 by omega))
  · refine Ew_of (pc' := 11) (fun _ => x_aload_n rfl rfl) ?_
    refine w_gT H (o := 0) (t := 12) rfl (H.perm 0 rfl) rfl rfl rfl rfl rfl rfl ?_
    refine Ew_of (pc' := 15) (fun _ => x_iload_n rfl rfl) ?_
    refine w_lI H (o := 12) (n := 10) rfl (H.perm 12 rfl) rfl rfl (H.fix 12 rfl rfl) (show 0 ≤ a1 ∧ a1 < ((10 : Nat) : Int) by omega) (by decide) (fun v7 ev7 qv7 => ?_)
    have qv7 : (-2147483648 : Int) ≤ v7 ∧ v7 ≤ 2147483647 := qv7
    have ev7 : (w12) (a1) = v7 := (congrFun ((funext (hA4 12 rfl)).trans (ew12)) (a1)).symm.trans ev7
    refine Ew_of (pc' := 20) (fun _ => x_goto rfl rfl) ?_
    exact w_ireturn rfl (k (v7) σ _ _ H (SF_trans (SF_refl) hS3 (any_sub rfl)) (SA_trans (SA_refl) hA4 (any_subA rfl)) (show inr (v7) by omega) (show 0 ≤ a1 ∧ a1 ≤ 9 ∧ (v7) = ((w12)) (a1) ∨ (a1 < 0 ∨ 9 < a1) ∧ (v7) = -1 by omega))
