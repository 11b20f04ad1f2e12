/-- Model.is -/
theorem M56x {σ0 σ : rS} {D N : Nat → Nat} {F : hF} {A : hA} {d c s : Nat} {Q : wQ} (H : HS σ0 σ D N F A) {a1 : Int} (h0 : inr (a1)) (k : ∀ (z : Int) σ Fₚ Aₚ, HS σ0 σ D N Fₚ Aₚ → SF [] F Fₚ → SA [] A Aₚ → ((z) = 0 ∨ (z) = 1) → ((z) = 1 ∧ 0 ≤ (a1) ∧ (a1) ≤ 3 ∨ (z) = 0 ∧ ((a1) < 0 ∨ 3 < (a1))) → Q (some (I z)) σ c s) : Ew 56 (d + 0) 0 (rargs 0 [I a1]) [] σ c s Q := by
  refine Ew_of (pcₚ := 1) (fun _ => x_iload_n rfl rfl) ?_
  refine w_iflt (t := 13) rfl rfl (show inr (a1) from h0) (fun b1 => ?_) (fun b1 => ?_)
  · refine Ew_of (pcₚ := 14) (fun _ => x_iconst rfl) ?_
    exact w_ireturn rfl (k (0) σ _ _ H (SF_refl) (SA_refl) (show (0) = 0 ∨ (0) = 1 by first | exact q_1 | omega) (show (0) = 1 ∧ 0 ≤ a1 ∧ a1 ≤ 3 ∨ (0) = 0 ∧ (a1 < 0 ∨ 3 < a1) by first | exact q_4417 b1 | omega))
  · refine Ew_of (pcₚ := 5) (fun _ => x_iload_n rfl rfl) ?_
    refine Ew_of (pcₚ := 6) (fun _ => x_iconst rfl) ?_
    refine w_icmpge (t := 13) rfl rfl (show inr (a1) from h0) (show inr (4) from q_2) (fun b2 => ?_) (fun b2 => ?_)
    · refine Ew_of (pcₚ := 14) (fun _ => x_iconst rfl) ?_
      exact w_ireturn rfl (k (0) σ _ _ H (SF_refl) (SA_refl) (show (0) = 0 ∨ (0) = 1 by first | exact q_1 | omega) (show (0) = 1 ∧ 0 ≤ a1 ∧ a1 ≤ 3 ∨ (0) = 0 ∧ (a1 < 0 ∨ 3 < a1) by first | exact q_4418 b2 | omega))
    · refine Ew_of (pcₚ := 10) (fun _ => x_iconst rfl) ?_
      refine Ew_of (pcₚ := 14) (fun _ => x_goto rfl rfl) ?_
      exact w_ireturn rfl (k (1) σ _ _ H (SF_refl) (SA_refl) (show (1) = 0 ∨ (1) = 1 by first | exact q_5 | omega) (show (1) = 1 ∧ 0 ≤ a1 ∧ a1 ≤ 3 ∨ (1) = 0 ∧ (a1 < 0 ∨ 3 < a1) by first | exact q_4419 b1 b2 | omega))
/-- Model.within -/
theorem M67x {σ0 σ : rS} {D N : Nat → Nat} {F : hF} {A : hA} {d c s : Nat} {Q : wQ} (H : HS σ0 σ D N F A) {a1 a2 a3 : Int} (h0 : inr (a1)) (h1 : inr (a2)) (h2 : inr (a3)) (k : ∀ (z : Int) σ Fₚ Aₚ, HS σ0 σ D N Fₚ Aₚ → SF [] F Fₚ → SA [] A Aₚ → ((z) = 0 ∨ (z) = 1) → ((z) = 1 ∧ (a2) ≤ (a1) ∧ (a1) ≤ (a3) ∨ (z) = 0 ∧ ((a1) < (a2) ∨ (a3) < (a1))) → Q (some (I z)) σ c s) : Ew 67 (d + 0) 0 (rargs 0 [I a1, I a2, I a3]) [] σ c s Q := by
  refine Ew_of (pcₚ := 1) (fun _ => x_iload_n rfl rfl) ?_
  refine Ew_of (pcₚ := 2) (fun _ => x_iload_n rfl rfl) ?_
  refine w_icmplt (t := 14) rfl rfl (show inr (a1) from h0) (show inr (a2) from h1) (fun b1 => ?_) (fun b1 => ?_)
  · refine Ew_of (pcₚ := 15) (fun _ => x_iconst rfl) ?_
    exact w_ireturn rfl (k (0) σ _ _ H (SF_refl) (SA_refl) (show (0) = 0 ∨ (0) = 1 by first | exact q_1 | omega) (show (0) = 1 ∧ a2 ≤ a1 ∧ a1 ≤ a3 ∨ (0) = 0 ∧ (a1 < a2 ∨ a3 < a1) by first | exact q_4420 b1 | omega))
  · refine Ew_of (pcₚ := 6) (fun _ => x_iload_n rfl rfl) ?_
    refine Ew_of (pcₚ := 7) (fun _ => x_iload_n rfl rfl) ?_
    refine w_icmpgt (t := 14) rfl rfl (show inr (a1) from h0) (show inr (a3) from h2) (fun b2 => ?_) (fun b2 => ?_)
    · refine Ew_of (pcₚ := 15) (fun _ => x_iconst rfl) ?_
      exact w_ireturn rfl (k (0) σ _ _ H (SF_refl) (SA_refl) (show (0) = 0 ∨ (0) = 1 by first | exact q_1 | omega) (show (0) = 1 ∧ a2 ≤ a1 ∧ a1 ≤ a3 ∨ (0) = 0 ∧ (a1 < a2 ∨ a3 < a1) by first | exact q_4421 b2 | omega))
    · refine Ew_of (pcₚ := 11) (fun _ => x_iconst rfl) ?_
      refine Ew_of (pcₚ := 15) (fun _ => x_goto rfl rfl) ?_
      exact w_ireturn rfl (k (1) σ _ _ H (SF_refl) (SA_refl) (show (1) = 0 ∨ (1) = 1 by first | exact q_5 | omega) (show (1) = 1 ∧ a2 ≤ a1 ∧ a1 ≤ a3 ∨ (1) = 0 ∧ (a1 < a2 ∨ a3 < a1) by first | exact q_4422 b1 b2 | omega))
/-- Model.may -/
theorem M68x {σ0 σ : rS} {D N : Nat → Nat} {F : hF} {A : hA} {d c s : Nat} {Q : wQ} (H : HS σ0 σ D N F A) {a1 a2 : Int} (h0 : inr (a1)) (h1 : inr (a2)) (k : ∀ (z : Int) σ Fₚ Aₚ, HS σ0 σ D N Fₚ Aₚ → SF [] F Fₚ → SA [] A Aₚ → ((z) = 0 ∨ (z) = 1) → ((a1) = 3 ∧ ((z) = 1 ∧ 64 ≤ (a2) ∧ (a2) ≤ 127 ∧ andI ((a2)) 2 = 0 ∨ (z) = 0 ∧ ((a2) < 64 ∨ 127 < (a2) ∨ andI ((a2)) 2 ≠ 0)) ∨ ((a1) < 0 ∨ 9 < (a1)) ∧ (z) = 0 ∨ 0 ≤ (a1) ∧ (a1) ≤ 9 ∧ (a1) ≠ 3 ∧ ((z) = 1 ∧ mlo ((a1)) ≤ (a2) ∧ (a2) ≤ mhi ((a1)) ∨ (z) = 0 ∧ ((a2) < mlo ((a1)) ∨ mhi ((a1)) < (a2)))) → Q (some (I z)) σ c s) : Ew 68 (d + 1) 0 (rargs 0 [I a1, I a2]) [] σ c s Q := by
  refine Ew_of (pcₚ := 1) (fun _ => x_iload_n rfl rfl) ?_
  by_cases b1 : a1 = 0
  · refine w_tsk 0 52 rfl (show inr (a1) from h0) (by omega) (by decide) rfl rfl ?_
    have hm : mlo ((a1)) = 0 ∧ mhi ((a1)) = 3 := by rw [show (a1) = (0 : Int) by omega]; decide
    refine Ew_of (pcₚ := 53) (fun _ => x_iload_n rfl rfl) ?_
    refine Ew_of (pcₚ := 54) (fun _ => x_iconst rfl) ?_
    refine Ew_of (pcₚ := 55) (fun _ => x_iconst rfl) ?_
    refine w_stat24 rfl rfl (by rfl) (M67x H (show inr (a2) from h1) (show inr (0) from q_20) (show inr (3) from q_66) (fun z6 σ F2 A3 H hS4 hA5 pz6_0 pz6_1 => ⟨rretB rfl pz6_0, ?_⟩))
    exact w_ireturn rfl (k (z6) σ _ _ H (SF_trans (SF_refl) hS4 (any_sub rfl)) (SA_trans (SA_refl) hA5 (any_subA rfl)) (show (z6) = 0 ∨ (z6) = 1 from pz6_0) (show a1 = 3 ∧ ((z6) = 1 ∧ 64 ≤ a2 ∧ a2 ≤ 127 ∧ andI (a2) 2 = 0 ∨ (z6) = 0 ∧ (a2 < 64 ∨ 127 < a2 ∨ andI (a2) 2 ≠ 0)) ∨ (a1 < 0 ∨ 9 < a1) ∧ (z6) = 0 ∨ 0 ≤ a1 ∧ a1 ≤ 9 ∧ a1 ≠ 3 ∧ ((z6) = 1 ∧ mlo (a1) ≤ a2 ∧ a2 ≤ mhi (a1) ∨ (z6) = 0 ∧ (a2 < mlo (a1) ∨ mhi (a1) < a2)) by omega))
  ·
    by_cases b7 : a1 = 1
    · refine w_tsk 1 59 rfl (show inr (a1) from h0) (by omega) (by decide) rfl rfl ?_
      have hm : mlo ((a1)) = 3 ∧ mhi ((a1)) = 8 := by rw [show (a1) = (1 : Int) by omega]; decide
      refine Ew_of (pcₚ := 60) (fun _ => x_iload_n rfl rfl) ?_
      refine Ew_of (pcₚ := 61) (fun _ => x_iconst rfl) ?_
      refine Ew_of (pcₚ := 63) (fun _ => x_bipush (z := 8) rfl (by decide)) ?_
      refine w_stat24 rfl rfl (by rfl) (M67x H (show inr (a2) from h1) (show inr (3) from q_66) (show inr (8) from q_96) (fun z12 σ F8 A9 H hS10 hA11 pz12_0 pz12_1 => ⟨rretB rfl pz12_0, ?_⟩))
      exact w_ireturn rfl (k (z12) σ _ _ H (SF_trans (SF_refl) hS10 (any_sub rfl)) (SA_trans (SA_refl) hA11 (any_subA rfl)) (show (z12) = 0 ∨ (z12) = 1 from pz12_0) (show a1 = 3 ∧ ((z12) = 1 ∧ 64 ≤ a2 ∧ a2 ≤ 127 ∧ andI (a2) 2 = 0 ∨ (z12) = 0 ∧ (a2 < 64 ∨ 127 < a2 ∨ andI (a2) 2 ≠ 0)) ∨ (a1 < 0 ∨ 9 < a1) ∧ (z12) = 0 ∨ 0 ≤ a1 ∧ a1 ≤ 9 ∧ a1 ≠ 3 ∧ ((z12) = 1 ∧ mlo (a1) ≤ a2 ∧ a2 ≤ mhi (a1) ∨ (z12) = 0 ∧ (a2 < mlo (a1) ∨ mhi (a1) < a2)) by omega))
    ·
      by_cases b13 : a1 = 2
      · refine w_tsk 2 67 rfl (show inr (a1) from h0) (by omega) (by decide) rfl rfl ?_
        have hm : mlo ((a1)) = 1 ∧ mhi ((a1)) = 65536 := by rw [show (a1) = (2 : Int) by omega]; decide
        refine Ew_of (pcₚ := 68) (fun _ => x_iload_n rfl rfl) ?_
        refine Ew_of (pcₚ := 69) (fun _ => x_iconst rfl) ?_
        refine Ew_of (pcₚ := 71) (fun _ => x_ldc (z := 65536) rfl (by decide)) ?_
        refine w_stat24 rfl rfl (by rfl) (M67x H (show inr (a2) from h1) (show inr (1) from q_23) (show inr (65536) from q_35) (fun z18 σ F14 A15 H hS16 hA17 pz18_0 pz18_1 => ⟨rretB rfl pz18_0, ?_⟩))
        exact w_ireturn rfl (k (z18) σ _ _ H (SF_trans (SF_refl) hS16 (any_sub rfl)) (SA_trans (SA_refl) hA17 (any_subA rfl)) (show (z18) = 0 ∨ (z18) = 1 from pz18_0) (show a1 = 3 ∧ ((z18) = 1 ∧ 64 ≤ a2 ∧ a2 ≤ 127 ∧ andI (a2) 2 = 0 ∨ (z18) = 0 ∧ (a2 < 64 ∨ 127 < a2 ∨ andI (a2) 2 ≠ 0)) ∨ (a1 < 0 ∨ 9 < a1) ∧ (z18) = 0 ∨ 0 ≤ a1 ∧ a1 ≤ 9 ∧ a1 ≠ 3 ∧ ((z18) = 1 ∧ mlo (a1) ≤ a2 ∧ a2 ≤ mhi (a1) ∨ (z18) = 0 ∧ (a2 < mlo (a1) ∨ mhi (a1) < a2)) by omega))
      ·
        by_cases b19 : a1 = 3
        · refine w_tsk 3 75 rfl (show inr (a1) from h0) (by omega) (by decide) rfl rfl ?_
          refine Ew_of (pcₚ := 76) (fun _ => x_iload_n rfl rfl) ?_
          refine Ew_of (pcₚ := 78) (fun _ => x_bipush (z := 64) rfl (by decide)) ?_
          refine Ew_of (pcₚ := 80) (fun _ => x_bipush (z := 127) rfl (by decide)) ?_
          refine w_stat24 rfl rfl (by rfl) (M67x H (show inr (a2) from h1) (show inr (64) from q_51) (show inr (127) from q_869) (fun z24 σ F20 A21 H hS22 hA23 pz24_0 pz24_1 => ⟨rretB rfl pz24_0, ?_⟩))
          refine w_ifeq (t := 96) rfl rfl (show inr (z24) from q_15 pz24_0) (fun b25 => ?_) (fun b25 => ?_)
          · refine Ew_of (pcₚ := 97) (fun _ => x_iconst rfl) ?_
            exact w_ireturn rfl (k (0) σ _ _ H (SF_trans (SF_refl) hS22 (any_sub rfl)) (SA_trans (SA_refl) hA23 (any_subA rfl)) (show (0) = 0 ∨ (0) = 1 by first | exact q_1 | omega) (show a1 = 3 ∧ ((0) = 1 ∧ 64 ≤ a2 ∧ a2 ≤ 127 ∧ andI (a2) 2 = 0 ∨ (0) = 0 ∧ (a2 < 64 ∨ 127 < a2 ∨ andI (a2) 2 ≠ 0)) ∨ (a1 < 0 ∨ 9 < a1) ∧ (0) = 0 ∨ 0 ≤ a1 ∧ a1 ≤ 9 ∧ a1 ≠ 3 ∧ ((0) = 1 ∧ mlo (a1) ≤ a2 ∧ a2 ≤ mhi (a1) ∨ (0) = 0 ∧ (a2 < mlo (a1) ∨ mhi (a1) < a2)) by omega))
          · refine Ew_of (pcₚ := 87) (fun _ => x_iload_n rfl rfl) ?_
            refine Ew_of (pcₚ := 88) (fun _ => x_iconst rfl) ?_
            refine w_iandE rfl (show inr (a2) from h1) (show inr (2) from q_55) (fun z26 gz26 gaz26 gbz26 gez26 => ?_)
            refine w_ifne (t := 96) rfl rfl (show inr (z26) from gz26) (fun b27 => ?_) (fun b27 => ?_)
            · refine Ew_of (pcₚ := 97) (fun _ => x_iconst rfl) ?_
              exact w_ireturn rfl (k (0) σ _ _ H (SF_trans (SF_refl) hS22 (any_sub rfl)) (SA_trans (SA_refl) hA23 (any_subA rfl)) (show (0) = 0 ∨ (0) = 1 by first | exact q_1 | omega) (show a1 = 3 ∧ ((0) = 1 ∧ 64 ≤ a2 ∧ a2 ≤ 127 ∧ andI (a2) 2 = 0 ∨ (0) = 0 ∧ (a2 < 64 ∨ 127 < a2 ∨ andI (a2) 2 ≠ 0)) ∨ (a1 < 0 ∨ 9 < a1) ∧ (0) = 0 ∨ 0 ≤ a1 ∧ a1 ≤ 9 ∧ a1 ≠ 3 ∧ ((0) = 1 ∧ mlo (a1) ≤ a2 ∧ a2 ≤ mhi (a1) ∨ (0) = 0 ∧ (a2 < mlo (a1) ∨ mhi (a1) < a2)) by omega))
            · refine Ew_of (pcₚ := 93) (fun _ => x_iconst rfl) ?_
              refine Ew_of (pcₚ := 97) (fun _ => x_goto rfl rfl) ?_
              exact w_ireturn rfl (k (1) σ _ _ H (SF_trans (SF_refl) hS22 (any_sub rfl)) (SA_trans (SA_refl) hA23 (any_subA rfl)) (show (1) = 0 ∨ (1) = 1 by first | exact q_5 | omega) (show a1 = 3 ∧ ((1) = 1 ∧ 64 ≤ a2 ∧ a2 ≤ 127 ∧ andI (a2) 2 = 0 ∨ (1) = 0 ∧ (a2 < 64 ∨ 127 < a2 ∨ andI (a2) 2 ≠ 0)) ∨ (a1 < 0 ∨ 9 < a1) ∧ (1) = 0 ∨ 0 ≤ a1 ∧ a1 ≤ 9 ∧ a1 ≠ 3 ∧ ((1) = 1 ∧ mlo (a1) ≤ a2 ∧ a2 ≤ mhi (a1) ∨ (1) = 0 ∧ (a2 < mlo (a1) ∨ mhi (a1) < a2)) by omega))
        ·
          by_cases b28 : a1 = 4
          · refine w_tsk 4 98 rfl (show inr (a1) from h0) (by omega) (by decide) rfl rfl ?_
            have hm : mlo ((a1)) = 4 ∧ mhi ((a1)) = 7 := by rw [show (a1) = (4 : Int) by omega]; decide
            refine Ew_of (pcₚ := 99) (fun _ => x_iload_n rfl rfl) ?_
            refine Ew_of (pcₚ := 100) (fun _ => x_iconst rfl) ?_
            refine Ew_of (pcₚ := 102) (fun _ => x_bipush (z := 7) rfl (by decide)) ?_
            refine w_stat24 rfl rfl (by rfl) (M67x H (show inr (a2) from h1) (show inr (4) from q_2) (show inr (7) from q_355) (fun z33 σ F29 A30 H hS31 hA32 pz33_0 pz33_1 => ⟨rretB rfl pz33_0, ?_⟩))
            exact w_ireturn rfl (k (z33) σ _ _ H (SF_trans (SF_refl) hS31 (any_sub rfl)) (SA_trans (SA_refl) hA32 (any_subA rfl)) (show (z33) = 0 ∨ (z33) = 1 from pz33_0) (show a1 = 3 ∧ ((z33) = 1 ∧ 64 ≤ a2 ∧ a2 ≤ 127 ∧ andI (a2) 2 = 0 ∨ (z33) = 0 ∧ (a2 < 64 ∨ 127 < a2 ∨ andI (a2) 2 ≠ 0)) ∨ (a1 < 0 ∨ 9 < a1) ∧ (z33) = 0 ∨ 0 ≤ a1 ∧ a1 ≤ 9 ∧ a1 ≠ 3 ∧ ((z33) = 1 ∧ mlo (a1) ≤ a2 ∧ a2 ≤ mhi (a1) ∨ (z33) = 0 ∧ (a2 < mlo (a1) ∨ mhi (a1) < a2)) by omega))
          ·
            by_cases b34 : a1 = 5
            · refine w_tsk 5 131 rfl (show inr (a1) from h0) (by omega) (by decide) rfl rfl ?_
              have hm : mlo ((a1)) = -2147483648 ∧ mhi ((a1)) = 2147483647 := mlo_df (by omega)
              refine Ew_of (pcₚ := 132) (fun _ => x_iload_n rfl rfl) ?_
              refine Ew_of (pcₚ := 133) (fun _ => x_iconst rfl) ?_
              refine w_icmpeq (t := 142) rfl rfl (show inr (a1) from h0) (show inr (5) from q_509) (fun b35 => ?_) (fun b35 => ?_)
              · refine Ew_of (pcₚ := 143) (fun _ => x_iconst rfl) ?_
                refine Ew_of (pcₚ := 147) (fun _ => x_goto rfl rfl) ?_
                exact w_ireturn rfl (k (1) σ _ _ H (SF_refl) (SA_refl) (show (1) = 0 ∨ (1) = 1 by first | exact q_5 | omega) (show a1 = 3 ∧ ((1) = 1 ∧ 64 ≤ a2 ∧ a2 ≤ 127 ∧ andI (a2) 2 = 0 ∨ (1) = 0 ∧ (a2 < 64 ∨ 127 < a2 ∨ andI (a2) 2 ≠ 0)) ∨ (a1 < 0 ∨ 9 < a1) ∧ (1) = 0 ∨ 0 ≤ a1 ∧ a1 ≤ 9 ∧ a1 ≠ 3 ∧ ((1) = 1 ∧ mlo (a1) ≤ a2 ∧ a2 ≤ mhi (a1) ∨ (1) = 0 ∧ (a2 < mlo (a1) ∨ mhi (a1) < a2)) by first | exact q_4423 b35 h1 hm | omega))
              · refine Ew_of (pcₚ := 137) (fun _ => x_iload_n rfl rfl) ?_
                refine Ew_of (pcₚ := 139) (fun _ => x_bipush (z := 9) rfl (by decide)) ?_
                refine w_icmpne (t := 146) rfl rfl (show inr (a1) from h0) (show inr (9) from q_19) (fun b36 => ?_) (fun b36 => ?_)
                · refine Ew_of (pcₚ := 147) (fun _ => x_iconst rfl) ?_
                  exact w_ireturn rfl (k (0) σ _ _ H (SF_refl) (SA_refl) (show (0) = 0 ∨ (0) = 1 by first | exact q_1 | omega) (show a1 = 3 ∧ ((0) = 1 ∧ 64 ≤ a2 ∧ a2 ≤ 127 ∧ andI (a2) 2 = 0 ∨ (0) = 0 ∧ (a2 < 64 ∨ 127 < a2 ∨ andI (a2) 2 ≠ 0)) ∨ (a1 < 0 ∨ 9 < a1) ∧ (0) = 0 ∨ 0 ≤ a1 ∧ a1 ≤ 9 ∧ a1 ≠ 3 ∧ ((0) = 1 ∧ mlo (a1) ≤ a2 ∧ a2 ≤ mhi (a1) ∨ (0) = 0 ∧ (a2 < mlo (a1) ∨ mhi (a1) < a2)) by omega))
                · refine Ew_of (pcₚ := 143) (fun _ => x_iconst rfl) ?_
                  refine Ew_of (pcₚ := 147) (fun _ => x_goto rfl rfl) ?_
                  exact w_ireturn rfl (k (1) σ _ _ H (SF_refl) (SA_refl) (show (1) = 0 ∨ (1) = 1 by first | exact q_5 | omega) (show a1 = 3 ∧ ((1) = 1 ∧ 64 ≤ a2 ∧ a2 ≤ 127 ∧ andI (a2) 2 = 0 ∨ (1) = 0 ∧ (a2 < 64 ∨ 127 < a2 ∨ andI (a2) 2 ≠ 0)) ∨ (a1 < 0 ∨ 9 < a1) ∧ (1) = 0 ∨ 0 ≤ a1 ∧ a1 ≤ 9 ∧ a1 ≠ 3 ∧ ((1) = 1 ∧ mlo (a1) ≤ a2 ∧ a2 ≤ mhi (a1) ∨ (1) = 0 ∧ (a2 < mlo (a1) ∨ mhi (a1) < a2)) by first | exact q_4424 b34 b36 h1 hm | omega))
            ·
              by_cases b37 : a1 = 6
              · refine w_tsk 6 106 rfl (show inr (a1) from h0) (by omega) (by decide) rfl rfl ?_
                have hm : mlo ((a1)) = 0 ∧ mhi ((a1)) = 255 := by rw [show (a1) = (6 : Int) by omega]; decide
                refine Ew_of (pcₚ := 107) (fun _ => x_iload_n rfl rfl) ?_
                refine Ew_of (pcₚ := 108) (fun _ => x_iconst rfl) ?_
                refine Ew_of (pcₚ := 111) (fun _ => x_sipush (z := 255) rfl (by decide)) ?_
                refine w_stat24 rfl rfl (by rfl) (M67x H (show inr (a2) from h1) (show inr (0) from q_20) (show inr (255) from q_36) (fun z42 σ F38 A39 H hS40 hA41 pz42_0 pz42_1 => ⟨rretB rfl pz42_0, ?_⟩))
                exact w_ireturn rfl (k (z42) σ _ _ H (SF_trans (SF_refl) hS40 (any_sub rfl)) (SA_trans (SA_refl) hA41 (any_subA rfl)) (show (z42) = 0 ∨ (z42) = 1 from pz42_0) (show a1 = 3 ∧ ((z42) = 1 ∧ 64 ≤ a2 ∧ a2 ≤ 127 ∧ andI (a2) 2 = 0 ∨ (z42) = 0 ∧ (a2 < 64 ∨ 127 < a2 ∨ andI (a2) 2 ≠ 0)) ∨ (a1 < 0 ∨ 9 < a1) ∧ (z42) = 0 ∨ 0 ≤ a1 ∧ a1 ≤ 9 ∧ a1 ≠ 3 ∧ ((z42) = 1 ∧ mlo (a1) ≤ a2 ∧ a2 ≤ mhi (a1) ∨ (z42) = 0 ∧ (a2 < mlo (a1) ∨ mhi (a1) < a2)) by omega))
              ·
                by_cases b43 : a1 = 7
                · refine w_tsk 7 115 rfl (show inr (a1) from h0) (by omega) (by decide) rfl rfl ?_
                  have hm : mlo ((a1)) = 0 ∧ mhi ((a1)) = 15 := by rw [show (a1) = (7 : Int) by omega]; decide
                  refine Ew_of (pcₚ := 116) (fun _ => x_iload_n rfl rfl) ?_
                  refine Ew_of (pcₚ := 117) (fun _ => x_iconst rfl) ?_
                  refine Ew_of (pcₚ := 119) (fun _ => x_bipush (z := 15) rfl (by decide)) ?_
                  refine w_stat24 rfl rfl (by rfl) (M67x H (show inr (a2) from h1) (show inr (0) from q_20) (show inr (15) from q_143) (fun z48 σ F44 A45 H hS46 hA47 pz48_0 pz48_1 => ⟨rretB rfl pz48_0, ?_⟩))
                  exact w_ireturn rfl (k (z48) σ _ _ H (SF_trans (SF_refl) hS46 (any_sub rfl)) (SA_trans (SA_refl) hA47 (any_subA rfl)) (show (z48) = 0 ∨ (z48) = 1 from pz48_0) (show a1 = 3 ∧ ((z48) = 1 ∧ 64 ≤ a2 ∧ a2 ≤ 127 ∧ andI (a2) 2 = 0 ∨ (z48) = 0 ∧ (a2 < 64 ∨ 127 < a2 ∨ andI (a2) 2 ≠ 0)) ∨ (a1 < 0 ∨ 9 < a1) ∧ (z48) = 0 ∨ 0 ≤ a1 ∧ a1 ≤ 9 ∧ a1 ≠ 3 ∧ ((z48) = 1 ∧ mlo (a1) ≤ a2 ∧ a2 ≤ mhi (a1) ∨ (z48) = 0 ∧ (a2 < mlo (a1) ∨ mhi (a1) < a2)) by omega))
                ·
                  by_cases b49 : a1 = 8
                  · refine w_tsk 8 123 rfl (show inr (a1) from h0) (by omega) (by decide) rfl rfl ?_
                    have hm : mlo ((a1)) = 0 ∧ mhi ((a1)) = 11 := by rw [show (a1) = (8 : Int) by omega]; decide
                    refine Ew_of (pcₚ := 124) (fun _ => x_iload_n rfl rfl) ?_
                    refine Ew_of (pcₚ := 125) (fun _ => x_iconst rfl) ?_
                    refine Ew_of (pcₚ := 127) (fun _ => x_bipush (z := 11) rfl (by decide)) ?_
                    refine w_stat24 rfl rfl (by rfl) (M67x H (show inr (a2) from h1) (show inr (0) from q_20) (show inr (11) from q_67) (fun z54 σ F50 A51 H hS52 hA53 pz54_0 pz54_1 => ⟨rretB rfl pz54_0, ?_⟩))
                    exact w_ireturn rfl (k (z54) σ _ _ H (SF_trans (SF_refl) hS52 (any_sub rfl)) (SA_trans (SA_refl) hA53 (any_subA rfl)) (show (z54) = 0 ∨ (z54) = 1 from pz54_0) (show a1 = 3 ∧ ((z54) = 1 ∧ 64 ≤ a2 ∧ a2 ≤ 127 ∧ andI (a2) 2 = 0 ∨ (z54) = 0 ∧ (a2 < 64 ∨ 127 < a2 ∨ andI (a2) 2 ≠ 0)) ∨ (a1 < 0 ∨ 9 < a1) ∧ (z54) = 0 ∨ 0 ≤ a1 ∧ a1 ≤ 9 ∧ a1 ≠ 3 ∧ ((z54) = 1 ∧ mlo (a1) ≤ a2 ∧ a2 ≤ mhi (a1) ∨ (z54) = 0 ∧ (a2 < mlo (a1) ∨ mhi (a1) < a2)) by omega))
                  ·
                    refine w_tsd 131 rfl (show inr (a1) from h0) (by omega) rfl ?_
                    have hm : mlo ((a1)) = -2147483648 ∧ mhi ((a1)) = 2147483647 := mlo_df (by omega)
                    refine Ew_of (pcₚ := 132) (fun _ => x_iload_n rfl rfl) ?_
                    refine Ew_of (pcₚ := 133) (fun _ => x_iconst rfl) ?_
                    refine w_icmpeq (t := 142) rfl rfl (show inr (a1) from h0) (show inr (5) from q_509) (fun b55 => ?_) (fun b55 => ?_)
                    · refine Ew_of (pcₚ := 143) (fun _ => x_iconst rfl) ?_
                      refine Ew_of (pcₚ := 147) (fun _ => x_goto rfl rfl) ?_
                      exact w_ireturn rfl (k (1) σ _ _ H (SF_refl) (SA_refl) (show (1) = 0 ∨ (1) = 1 by first | exact q_5 | omega) (show a1 = 3 ∧ ((1) = 1 ∧ 64 ≤ a2 ∧ a2 ≤ 127 ∧ andI (a2) 2 = 0 ∨ (1) = 0 ∧ (a2 < 64 ∨ 127 < a2 ∨ andI (a2) 2 ≠ 0)) ∨ (a1 < 0 ∨ 9 < a1) ∧ (1) = 0 ∨ 0 ≤ a1 ∧ a1 ≤ 9 ∧ a1 ≠ 3 ∧ ((1) = 1 ∧ mlo (a1) ≤ a2 ∧ a2 ≤ mhi (a1) ∨ (1) = 0 ∧ (a2 < mlo (a1) ∨ mhi (a1) < a2)) by first | exact q_4423 b55 h1 hm | omega))
                    · refine Ew_of (pcₚ := 137) (fun _ => x_iload_n rfl rfl) ?_
                      refine Ew_of (pcₚ := 139) (fun _ => x_bipush (z := 9) rfl (by decide)) ?_
                      refine w_icmpne (t := 146) rfl rfl (show inr (a1) from h0) (show inr (9) from q_19) (fun b56 => ?_) (fun b56 => ?_)
                      · refine Ew_of (pcₚ := 147) (fun _ => x_iconst rfl) ?_
                        exact w_ireturn rfl (k (0) σ _ _ H (SF_refl) (SA_refl) (show (0) = 0 ∨ (0) = 1 by first | exact q_1 | omega) (show a1 = 3 ∧ ((0) = 1 ∧ 64 ≤ a2 ∧ a2 ≤ 127 ∧ andI (a2) 2 = 0 ∨ (0) = 0 ∧ (a2 < 64 ∨ 127 < a2 ∨ andI (a2) 2 ≠ 0)) ∨ (a1 < 0 ∨ 9 < a1) ∧ (0) = 0 ∨ 0 ≤ a1 ∧ a1 ≤ 9 ∧ a1 ≠ 3 ∧ ((0) = 1 ∧ mlo (a1) ≤ a2 ∧ a2 ≤ mhi (a1) ∨ (0) = 0 ∧ (a2 < mlo (a1) ∨ mhi (a1) < a2)) by omega))
                      · refine Ew_of (pcₚ := 143) (fun _ => x_iconst rfl) ?_
                        refine Ew_of (pcₚ := 147) (fun _ => x_goto rfl rfl) ?_
                        exact w_ireturn rfl (k (1) σ _ _ H (SF_refl) (SA_refl) (show (1) = 0 ∨ (1) = 1 by first | exact q_5 | omega) (show a1 = 3 ∧ ((1) = 1 ∧ 64 ≤ a2 ∧ a2 ≤ 127 ∧ andI (a2) 2 = 0 ∨ (1) = 0 ∧ (a2 < 64 ∨ 127 < a2 ∨ andI (a2) 2 ≠ 0)) ∨ (a1 < 0 ∨ 9 < a1) ∧ (1) = 0 ∨ 0 ≤ a1 ∧ a1 ≤ 9 ∧ a1 ≠ 3 ∧ ((1) = 1 ∧ mlo (a1) ≤ a2 ∧ a2 ≤ mhi (a1) ∨ (1) = 0 ∧ (a2 < mlo (a1) ∨ mhi (a1) < a2)) by first | exact q_4425 b56 h1 hm | omega))
/-- Model.set -/
theorem M69x {σ0 σ : rS} {D N : Nat → Nat} {F : hF} {A : hA} {d c s : Nat} {Q : wQ} (H : HS σ0 σ D N F A) {a1 a2 : Int} (w12 : Int → Int) (ew12 : A 12 = w12) (h0 : inr (a1)) (h1 : inr (a2)) (h2 : SE ((w12))) (k : ∀ (z : Int) σ Fₚ Aₚ, HS σ0 σ D N Fₚ Aₚ → SF [] F Fₚ → SA [12] A Aₚ → ∀ v12 : Int → Int, Aₚ 12 = v12 → ((z) = 0 ∨ (z) = 1) → (SE ((v12))) → ((a1) = 3 ∧ ((z) = 1 ∧ 64 ≤ (a2) ∧ (a2) ≤ 127 ∧ andI ((a2)) 2 = 0 ∨ (z) = 0 ∧ ((a2) < 64 ∨ 127 < (a2) ∨ andI ((a2)) 2 ≠ 0)) ∨ ((a1) < 0 ∨ 9 < (a1)) ∧ (z) = 0 ∨ 0 ≤ (a1) ∧ (a1) ≤ 9 ∧ (a1) ≠ 3 ∧ ((z) = 1 ∧ mlo ((a1)) ≤ (a2) ∧ (a2) ≤ mhi ((a1)) ∨ (z) = 0 ∧ ((a2) < mlo ((a1)) ∨ mhi ((a1)) < (a2)))) → (UPD ((z)) ((w12)) ((v12)) ((a1)) ((a2))) → Q (some (I z)) σ c s) : Ew 69 (d + 2) 0 (rargs 0 [.ref (D 0), I a1, I a2]) [] σ c s Q := by
  refine Ew_of (pcₚ := 1) (fun _ => x_iload_n rfl rfl) ?_
  refine Ew_of (pcₚ := 2) (fun _ => x_iload_n rfl rfl) ?_
  refine w_stat24 rfl rfl (by rfl) (M68x H (show inr (a1) from h0) (show inr (a2) from h1) (fun z5 σ F1 A2 H hS3 hA4 pz5_0 pz5_1 => ⟨rretB rfl pz5_0, ?_⟩))
  refine w_ifne (t := 10) rfl rfl (show inr (z5) from q_15 pz5_0) (fun b6 => ?_) (fun b6 => ?_)
  · have : SE (upd1 ((w12)) ((a1)) ((a2))) := SE_of (by assumption) (by omega)
    have hU : UPD 1 (w12) (upd1 (w12) ((a1)) ((a2))) ((a1)) ((a2)) := .inl ⟨rfl, rfl⟩
    refine Ew_of (pcₚ := 11) (fun _ => x_aload_n rfl rfl) ?_
    refine w_gT H (o := 0) (t := 12) rfl (H.perm 0 rfl) rfl rfl rfl rfl rfl rfl ?_
    refine Ew_of (pcₚ := 15) (fun _ => x_iload_n rfl rfl) ?_
    refine Ew_of (pcₚ := 16) (fun _ => x_iload_n rfl rfl) ?_
    refine w_sI H (o := 12) (n := 10) rfl (H.perm 12 rfl) rfl rfl (H.fix 12 rfl rfl) (show 0 ≤ a1 ∧ a1 < ((10 : Nat) : Int) by omega) (by decide) (show (-2147483648 : Int) ≤ a2 ∧ a2 ≤ 2147483647 from q_61 h1) (fun σ H => ?_)
    refine Ew_of (pcₚ := 18) (fun _ => x_iconst rfl) ?_
    exact w_ireturn rfl (k (1) σ _ _ H (SF_trans (SF_refl) hS3 (any_sub rfl)) (SA_upd (SA_trans (SA_refl) hA4 (any_subA rfl)) rfl) (upd1 (w12) (a1) (a2)) (congrArg (fun q => upd1 q (a1) (a2)) ((funext (hA4 12 rfl)).trans (ew12))) (show (1) = 0 ∨ (1) = 1 by first | exact q_5 | omega) (show SE ((upd1 (w12) (a1) (a2))) by assumption) (show a1 = 3 ∧ ((1) = 1 ∧ 64 ≤ a2 ∧ a2 ≤ 127 ∧ andI (a2) 2 = 0 ∨ (1) = 0 ∧ (a2 < 64 ∨ 127 < a2 ∨ andI (a2) 2 ≠ 0)) ∨ (a1 < 0 ∨ 9 < a1) ∧ (1) = 0 ∨ 0 ≤ a1 ∧ a1 ≤ 9 ∧ a1 ≠ 3 ∧ ((1) = 1 ∧ mlo (a1) ≤ a2 ∧ a2 ≤ mhi (a1) ∨ (1) = 0 ∧ (a2 < mlo (a1) ∨ mhi (a1) < a2)) by omega) (show UPD ((1)) ((w12)) ((upd1 (w12) (a1) (a2))) (a1) (a2) from hU))
  · have hU : UPD 0 (w12) (w12) ((a1)) ((a2)) := .inr ⟨rfl, rfl⟩
    refine Ew_of (pcₚ := 9) (fun _ => x_iconst rfl) ?_
    exact w_ireturn rfl (k (0) σ _ _ H (SF_trans (SF_refl) hS3 (any_sub rfl)) (SA_trans (SA_refl) hA4 (any_subA rfl)) (w12) ((funext (hA4 12 rfl)).trans (ew12)) (show (0) = 0 ∨ (0) = 1 by first | exact q_1 | omega) (show SE ((w12)) from h2) (show a1 = 3 ∧ ((0) = 1 ∧ 64 ≤ a2 ∧ a2 ≤ 127 ∧ andI (a2) 2 = 0 ∨ (0) = 0 ∧ (a2 < 64 ∨ 127 < a2 ∨ andI (a2) 2 ≠ 0)) ∨ (a1 < 0 ∨ 9 < a1) ∧ (0) = 0 ∨ 0 ≤ a1 ∧ a1 ≤ 9 ∧ a1 ≠ 3 ∧ ((0) = 1 ∧ mlo (a1) ≤ a2 ∧ a2 ≤ mhi (a1) ∨ (0) = 0 ∧ (a2 < mlo (a1) ∨ mhi (a1) < a2)) by omega) (show UPD ((0)) ((w12)) ((w12)) (a1) (a2) from hU))
/-- Model.get -/
theorem M70x {σ0 σ : rS} {D N : Nat → Nat} {F : hF} {A : hA} {d c s : Nat} {Q : wQ} (H : HS σ0 σ D N F A) {a1 : Int} (w12 : Int → Int) (ew12 : A 12 = w12) (h0 : inr (a1)) (k : ∀ (z : Int) σ Fₚ Aₚ, HS σ0 σ D N Fₚ Aₚ → SF [] F Fₚ → SA [] A Aₚ → (inr (z)) → (0 ≤ (a1) ∧ (a1) ≤ 9 ∧ (z) = ((w12)) ((a1)) ∨ ((a1) < 0 ∨ 9 < (a1)) ∧ (z) = -1) → Q (some (I z)) σ c s) : Ew 70 (d + 1) 0 (rargs 0 [.ref (D 0), I a1]) [] σ c s Q := by
  refine Ew_of (pcₚ := 1) (fun _ => x_iload_n rfl rfl) ?_
  refine Ew_of (pcₚ := 2) (fun _ => x_iconst rfl) ?_
  refine Ew_of (pcₚ := 4) (fun _ => x_bipush (z := 9) rfl (by decide)) ?_
  refine w_stat24 rfl rfl (by rfl) (M67x H (show inr (a1) from h0) (show inr (0) from q_20) (show inr (9) from q_19) (fun z5 σ F1 A2 H hS3 hA4 pz5_0 pz5_1 => ⟨rretB rfl pz5_0, ?_⟩))
  refine w_ifeq (t := 19) rfl rfl (show inr (z5) from q_15 pz5_0) (fun b6 => ?_) (fun b6 => ?_)
  · refine Ew_of (pcₚ := 20) (fun _ => x_iconst rfl) ?_
    exact w_ireturn rfl (k ((-1)) σ _ _ H (SF_trans (SF_refl) hS3 (any_sub rfl)) (SA_trans (SA_refl) hA4 (any_subA rfl)) (show inr ((-1)) from q_16) (show 0 ≤ a1 ∧ a1 ≤ 9 ∧ ((-1)) = ((w12)) (a1) ∨ (a1 < 0 ∨ 9 < a1) ∧ ((-1)) = -1 by omega))
  · refine Ew_of (pcₚ := 11) (fun _ => x_aload_n rfl rfl) ?_
    refine w_gT H (o := 0) (t := 12) rfl (H.perm 0 rfl) rfl rfl rfl rfl rfl rfl ?_
    refine Ew_of (pcₚ := 15) (fun _ => x_iload_n rfl rfl) ?_
    refine w_lI H (o := 12) (n := 10) rfl (H.perm 12 rfl) rfl rfl (H.fix 12 rfl rfl) (show 0 ≤ a1 ∧ a1 < ((10 : Nat) : Int) by omega) (by decide) (fun v7 ev7 qv7 => ?_)
    have qv7 : (-2147483648 : Int) ≤ v7 ∧ v7 ≤ 2147483647 := qv7
    have ev7 : (w12) (a1) = v7 := (congrFun ((funext (hA4 12 rfl)).trans (ew12)) (a1)).symm.trans ev7
    refine Ew_of (pcₚ := 20) (fun _ => x_goto rfl rfl) ?_
    exact w_ireturn rfl (k (v7) σ _ _ H (SF_trans (SF_refl) hS3 (any_sub rfl)) (SA_trans (SA_refl) hA4 (any_subA rfl)) (show inr (v7) from q_22 qv7) (show 0 ≤ a1 ∧ a1 ≤ 9 ∧ (v7) = ((w12)) (a1) ∨ (a1 < 0 ∨ 9 < a1) ∧ (v7) = -1 by omega))
/-- Model.history -/
theorem M76x {σ0 σ : rS} {D N : Nat → Nat} {F : hF} {A : hA} {d c s : Nat} {Q : wQ} (H : HS σ0 σ D N F A) {a1 : Int} (h0 : inr (a1)) (k : ∀ (z : Int) σ Fₚ Aₚ, HS σ0 σ D N Fₚ Aₚ → SF [(1, 1), (3, 2)] F Fₚ → SA [14, 16] A Aₚ → ((z) = 0 ∨ (z) = 1) → ((z) = 1 ∧ 0 ≤ (a1) ∧ (a1) ≤ 3 ∨ (z) = 0 ∧ ((a1) < 0 ∨ 3 < (a1))) → Q (some (I z)) σ c s) : Ew 76 (d + 1) 0 (rargs 0 [.ref (D 0), I a1]) [] σ c s Q := by
  refine Ew_of (pcₚ := 1) (fun _ => x_iload_n rfl rfl) ?_
  refine w_stat24 rfl rfl (by rfl) (M56x H (show inr (a1) from h0) (fun z5 σ F1 A2 H hS3 hA4 pz5_0 pz5_1 => ⟨rretB rfl pz5_0, ?_⟩))
  refine w_ifne (t := 9) rfl rfl (show inr (z5) from q_15 pz5_0) (fun b6 => ?_) (fun b6 => ?_)
  · refine Ew_of (pcₚ := 10) (fun _ => x_aload_n rfl rfl) ?_
    refine Ew_of (pcₚ := 11) (fun _ => x_iload_n rfl rfl) ?_
    refine w_inv H (o := 0) rfl rfl rfl (H.perm 0 rfl) rfl rfl (by rfl) (M74b H (A 11) (funext (hA4 11 rfl)) (show inr (a1) from h0) (show 0 ≤ (a1) ∧ (a1) ≤ 3 by omega) (fun σ F7 A8 H hS9 hA10 y12 ey13 pz11_0 => ⟨rfl, ?_⟩))
    have r14 : (0 : Int) ≤ y12 ∧ y12 ≤ 65536 := rngE (show (0 : Int) ≤ F7 1 1 ∧ F7 1 1 ≤ 65536 from H.frng 1 1) (show F7 1 1 = y12 from (ey13))
    refine Ew_of (pcₚ := 15) (fun _ => x_aload_n rfl rfl) ?_
    refine w_gT H (o := 0) (t := 3) rfl (H.perm 0 rfl) rfl rfl rfl rfl rfl rfl ?_
    refine w_inv H (o := 3) rfl rfl rfl (H.perm 3 rfl) rfl rfl (by rfl) (M354 H  (fun σ F15 A16 H hS17 hA18 => ⟨rfl, ?_⟩))
    refine Ew_of (pcₚ := 22) (fun _ => x_iconst rfl) ?_
    exact w_ireturn rfl (k (1) σ _ _ H (SF_trans (SF_trans (SF_trans (SF_refl) hS3 (any_sub rfl)) hS9 (any_sub rfl)) hS17 (any_sub rfl)) (SA_trans (SA_trans (SA_trans (SA_refl) hA4 (any_subA rfl)) hA10 (any_subA rfl)) hA18 (any_subA rfl)) (show (1) = 0 ∨ (1) = 1 by first | exact q_5 | omega) (show (1) = 1 ∧ 0 ≤ a1 ∧ a1 ≤ 3 ∨ (1) = 0 ∧ (a1 < 0 ∨ 3 < a1) by omega))
  · refine Ew_of (pcₚ := 8) (fun _ => x_iconst rfl) ?_
    exact w_ireturn rfl (k (0) σ _ _ H (SF_trans (SF_refl) hS3 (any_sub rfl)) (SA_trans (SA_refl) hA4 (any_subA rfl)) (show (0) = 0 ∨ (0) = 1 by first | exact q_1 | omega) (show (0) = 1 ∧ 0 ≤ a1 ∧ a1 ≤ 3 ∨ (0) = 0 ∧ (a1 < 0 ∨ 3 < a1) by omega))
/-- Model.forget -/
theorem M78x {σ0 σ : rS} {D N : Nat → Nat} {F : hF} {A : hA} {d c s : Nat} {Q : wQ} (H : HS σ0 σ D N F A) {a1 : Int} (u5_2 : Int) (eu5_2 : F 5 2 = u5_2) (u5_4 : Int) (eu5_4 : F 5 4 = u5_4) (u6_4 : Int) (eu6_4 : F 6 4 = u6_4) (u6_6 : Int) (eu6_6 : F 6 6 = u6_6) (w27 : Int → Int) (ew27 : A 27 = w27) (w28 : Int → Int) (ew28 : A 28 = w28) (w29 : Int → Int) (ew29 : A 29 = w29) (w30 : Int → Int) (ew30 : A 30 = w30) (w49 : Int → Int) (ew49 : A 49 = w49) (w50 : Int → Int) (ew50 : A 50 = w50) (w51 : Int → Int) (ew51 : A 51 = w51) (h0 : inr (a1)) (h1 : DI ((u5_4)) ((w27)) ((w28)) ((w29)) ((w30))) (h2 : DW ((u6_6)) ((w49)) ((w50)) ((w51))) (h3 : (u6_4) = (u5_2)) (k : ∀ (z : Int) σ Fₚ Aₚ, HS σ0 σ D N Fₚ Aₚ → SF [(3, 2), (5, 2), (5, 3), (5, 4), (6, 4), (6, 5), (6, 6)] F Fₚ → SA [48, 49, 50, 51, 52] A Aₚ → ∀ y5_2 : Int, Fₚ 5 2 = y5_2 → ∀ y5_4 : Int, Fₚ 5 4 = y5_4 → ∀ y6_4 : Int, Fₚ 6 4 = y6_4 → ∀ y6_6 : Int, Fₚ 6 6 = y6_6 → ∀ v27 : Int → Int, Aₚ 27 = v27 → ∀ v28 : Int → Int, Aₚ 28 = v28 → ∀ v29 : Int → Int, Aₚ 29 = v29 → ∀ v30 : Int → Int, Aₚ 30 = v30 → ∀ v49 : Int → Int, Aₚ 49 = v49 → ∀ v50 : Int → Int, Aₚ 50 = v50 → ∀ v51 : Int → Int, Aₚ 51 = v51 → ((z) = 0 ∨ (z) = 1) → (DI ((y5_4)) ((v27)) ((v28)) ((v29)) ((v30))) → (DW ((y6_6)) ((v49)) ((v50)) ((v51))) → ((y6_4) = (y5_2)) → ((z) = 1 ∧ ((a1) = 0 ∨ (a1) = 1) ∨ (z) = 0 ∧ (a1) ≠ 0 ∧ (a1) ≠ 1) → Q (some (I z)) σ c s) : Ew 78 (d + 1) 0 (rargs 0 [.ref (D 0), I a1]) [] σ c s Q := by
  have r1 : (0 : Int) ≤ u5_2 ∧ u5_2 ≤ 65536 := rngE (show (0 : Int) ≤ F 5 2 ∧ F 5 2 ≤ 65536 from H.frng 5 2) (show F 5 2 = u5_2 from (eu5_2))
  have r2 : (0 : Int) ≤ u5_4 ∧ u5_4 ≤ 1 := rngE (show (0 : Int) ≤ F 5 4 ∧ F 5 4 ≤ 1 from H.frng 5 4) (show F 5 4 = u5_4 from (eu5_4))
  have r3 : (0 : Int) ≤ u6_4 ∧ u6_4 ≤ 65536 := rngE (show (0 : Int) ≤ F 6 4 ∧ F 6 4 ≤ 65536 from H.frng 6 4) (show F 6 4 = u6_4 from (eu6_4))
  have r4 : (0 : Int) ≤ u6_6 ∧ u6_6 ≤ 1 := rngE (show (0 : Int) ≤ F 6 6 ∧ F 6 6 ≤ 1 from H.frng 6 6) (show F 6 6 = u6_6 from (eu6_6))
  refine Ew_of (pcₚ := 1) (fun _ => x_iload_n rfl rfl) ?_
  refine w_ifne (t := 11) rfl rfl (show inr (a1) from h0) (fun b5 => ?_) (fun b5 => ?_)
  · have hc34 : ∀ (ls : rO) (σ : rS) (F_c34 : hF) (A_c34 : hA) , rlook ls 1 = some (I (a1)) → HS σ0 σ D N F_c34 A_c34 → SF [(5, 2), (5, 3), (5, 4), (6, 4), (6, 5), (6, 6)] F F_c34 → SA [48, 49, 50, 51, 52] A A_c34 → ∀ yc34_5_2 : Int, F_c34 5 2 = yc34_5_2 → ∀ yc34_5_4 : Int, F_c34 5 4 = yc34_5_4 → ∀ yc34_6_4 : Int, F_c34 6 4 = yc34_6_4 → ∀ yc34_6_6 : Int, F_c34 6 6 = yc34_6_6 → ∀ wc34_49 : Int → Int, A_c34 49 = wc34_49 → ∀ wc34_50 : Int → Int, A_c34 50 = wc34_50 → ∀ wc34_51 : Int → Int, A_c34 51 = wc34_51 → (DI ((yc34_5_4)) ((w27)) ((w28)) ((w29)) ((w30))) → (DW ((yc34_6_6)) ((wc34_49)) ((wc34_50)) ((wc34_51))) → ((yc34_6_4) = (yc34_5_2)) → Ew 78 (d + 1) 34 ls [] σ c s Q := by
     as_aux_lemma =>
      intro  ls σ F_c34 A_c34  lc34_1 H hS_c34 hA_c34 yc34_5_2 eyc34_5_2 yc34_5_4 eyc34_5_4 yc34_6_4 eyc34_6_4 yc34_6_6 eyc34_6_6 wc34_49 ewc34_49 wc34_50 ewc34_50 wc34_51 ewc34_51 jc34_0 jc34_1 jc34_2
      have r6 : (0 : Int) ≤ yc34_5_2 ∧ yc34_5_2 ≤ 65536 := rngE (show (0 : Int) ≤ F_c34 5 2 ∧ F_c34 5 2 ≤ 65536 from H.frng 5 2) (show F_c34 5 2 = yc34_5_2 from (eyc34_5_2))
      have r7 : (0 : Int) ≤ yc34_5_4 ∧ yc34_5_4 ≤ 1 := rngE (show (0 : Int) ≤ F_c34 5 4 ∧ F_c34 5 4 ≤ 1 from H.frng 5 4) (show F_c34 5 4 = yc34_5_4 from (eyc34_5_4))
      have r8 : (0 : Int) ≤ yc34_6_4 ∧ yc34_6_4 ≤ 65536 := rngE (show (0 : Int) ≤ F_c34 6 4 ∧ F_c34 6 4 ≤ 65536 from H.frng 6 4) (show F_c34 6 4 = yc34_6_4 from (eyc34_6_4))
      have r9 : (0 : Int) ≤ yc34_6_6 ∧ yc34_6_6 ≤ 1 := rngE (show (0 : Int) ≤ F_c34 6 6 ∧ F_c34 6 6 ≤ 1 from H.frng 6 6) (show F_c34 6 6 = yc34_6_6 from (eyc34_6_6))
      refine Ew_of (pcₚ := 35) (fun _ => x_iload_n rfl lc34_1) ?_
      refine w_ifeq (t := 43) rfl rfl (show inr (a1) from h0) (fun b10 => ?_) (fun b10 => ?_)
      · refine Ew_of (pcₚ := 44) (fun _ => x_iconst rfl) ?_
        refine Ew_of (pcₚ := 48) (fun _ => x_goto rfl rfl) ?_
        exact w_ireturn rfl (k (1) σ _ _ H (SF_trans (SF_refl) hS_c34 (any_sub rfl)) (SA_trans (SA_refl) hA_c34 (any_subA rfl)) (yc34_5_2) ((eyc34_5_2)) (yc34_5_4) ((eyc34_5_4)) (yc34_6_4) ((eyc34_6_4)) (yc34_6_6) ((eyc34_6_6)) (w27) ((funext (hA_c34 27 rfl)).trans (ew27)) (w28) ((funext (hA_c34 28 rfl)).trans (ew28)) (w29) ((funext (hA_c34 29 rfl)).trans (ew29)) (w30) ((funext (hA_c34 30 rfl)).trans (ew30)) (wc34_49) (ewc34_49) (wc34_50) (ewc34_50) (wc34_51) (ewc34_51) (show (1) = 0 ∨ (1) = 1 by first | exact q_5 | omega) (show DI ((yc34_5_4)) ((w27)) ((w28)) ((w29)) ((w30)) from jc34_0) (show DW ((yc34_6_6)) ((wc34_49)) ((wc34_50)) ((wc34_51)) from jc34_1) (show (yc34_6_4) = (yc34_5_2) from jc34_2) (show (1) = 1 ∧ (a1 = 0 ∨ a1 = 1) ∨ (1) = 0 ∧ a1 ≠ 0 ∧ a1 ≠ 1 by first | exact q_4426 b10 | omega))
      · refine Ew_of (pcₚ := 39) (fun _ => x_iload_n rfl lc34_1) ?_
        refine Ew_of (pcₚ := 40) (fun _ => x_iconst rfl) ?_
        refine w_icmpne (t := 47) rfl rfl (show inr (a1) from h0) (show inr (1) from q_23) (fun b11 => ?_) (fun b11 => ?_)
        · refine Ew_of (pcₚ := 48) (fun _ => x_iconst rfl) ?_
          exact w_ireturn rfl (k (0) σ _ _ H (SF_trans (SF_refl) hS_c34 (any_sub rfl)) (SA_trans (SA_refl) hA_c34 (any_subA rfl)) (yc34_5_2) ((eyc34_5_2)) (yc34_5_4) ((eyc34_5_4)) (yc34_6_4) ((eyc34_6_4)) (yc34_6_6) ((eyc34_6_6)) (w27) ((funext (hA_c34 27 rfl)).trans (ew27)) (w28) ((funext (hA_c34 28 rfl)).trans (ew28)) (w29) ((funext (hA_c34 29 rfl)).trans (ew29)) (w30) ((funext (hA_c34 30 rfl)).trans (ew30)) (wc34_49) (ewc34_49) (wc34_50) (ewc34_50) (wc34_51) (ewc34_51) (show (0) = 0 ∨ (0) = 1 by first | exact q_1 | omega) (show DI ((yc34_5_4)) ((w27)) ((w28)) ((w29)) ((w30)) from jc34_0) (show DW ((yc34_6_6)) ((wc34_49)) ((wc34_50)) ((wc34_51)) from jc34_1) (show (yc34_6_4) = (yc34_5_2) from jc34_2) (show (0) = 1 ∧ (a1 = 0 ∨ a1 = 1) ∨ (0) = 0 ∧ a1 ≠ 0 ∧ a1 ≠ 1 by first | exact q_4427 b10 b11 | omega))
        · refine Ew_of (pcₚ := 44) (fun _ => x_iconst rfl) ?_
          refine Ew_of (pcₚ := 48) (fun _ => x_goto rfl rfl) ?_
          exact w_ireturn rfl (k (1) σ _ _ H (SF_trans (SF_refl) hS_c34 (any_sub rfl)) (SA_trans (SA_refl) hA_c34 (any_subA rfl)) (yc34_5_2) ((eyc34_5_2)) (yc34_5_4) ((eyc34_5_4)) (yc34_6_4) ((eyc34_6_4)) (yc34_6_6) ((eyc34_6_6)) (w27) ((funext (hA_c34 27 rfl)).trans (ew27)) (w28) ((funext (hA_c34 28 rfl)).trans (ew28)) (w29) ((funext (hA_c34 29 rfl)).trans (ew29)) (w30) ((funext (hA_c34 30 rfl)).trans (ew30)) (wc34_49) (ewc34_49) (wc34_50) (ewc34_50) (wc34_51) (ewc34_51) (show (1) = 0 ∨ (1) = 1 by first | exact q_5 | omega) (show DI ((yc34_5_4)) ((w27)) ((w28)) ((w29)) ((w30)) from jc34_0) (show DW ((yc34_6_6)) ((wc34_49)) ((wc34_50)) ((wc34_51)) from jc34_1) (show (yc34_6_4) = (yc34_5_2) from jc34_2) (show (1) = 1 ∧ (a1 = 0 ∨ a1 = 1) ∨ (1) = 0 ∧ a1 ≠ 0 ∧ a1 ≠ 1 by first | exact q_4428 b11 | omega))
    refine Ew_of (pcₚ := 12) (fun _ => x_iload_n rfl rfl) ?_
    refine Ew_of (pcₚ := 13) (fun _ => x_iconst rfl) ?_
    refine w_icmpne (t := 34) rfl rfl (show inr (a1) from h0) (show inr (1) from q_23) (fun b12 => ?_) (fun b12 => ?_)
    · exact hc34  _ σ _ _  (rfl) H (SF_refl) (SA_refl) (u5_2) ((eu5_2)) (u5_4) ((eu5_4)) (u6_4) ((eu6_4)) (u6_6) ((eu6_6)) (w49) (ew49) (w50) (ew50) (w51) (ew51) (show DI ((u5_4)) ((w27)) ((w28)) ((w29)) ((w30)) from h1) (show DW ((u6_6)) ((w49)) ((w50)) ((w51)) from h2) (show (u6_4) = (u5_2) from h3)
    · refine Ew_of (pcₚ := 17) (fun _ => x_aload_n rfl rfl) ?_
      refine w_gT H (o := 0) (t := 5) rfl (H.perm 0 rfl) rfl rfl rfl rfl rfl rfl ?_
      refine w_inv H (o := 5) rfl rfl rfl (H.perm 5 rfl) rfl rfl (by rfl) (M274 H  (fun σ F13 A14 H hS15 hA16 y18 ey19 y20 ey21 pz17_0 pz17_1 => ⟨rfl, ?_⟩))
      have r22 : (0 : Int) ≤ y18 ∧ y18 ≤ 65536 := rngE (show (0 : Int) ≤ F13 5 2 ∧ F13 5 2 ≤ 65536 from H.frng 5 2) (show F13 5 2 = y18 from (ey19))
      have r23 : (0 : Int) ≤ y20 ∧ y20 ≤ 1 := rngE (show (0 : Int) ≤ F13 5 4 ∧ F13 5 4 ≤ 1 from H.frng 5 4) (show F13 5 4 = y20 from (ey21))
      have : DI ((y20)) ((w27)) ((w28)) ((w29)) ((w30)) := fun q => absurd q (by omega)
      refine Ew_of (pcₚ := 24) (fun _ => x_aload_n rfl rfl) ?_
      refine w_gT H (o := 0) (t := 6) rfl (H.perm 0 rfl) rfl rfl rfl rfl rfl rfl ?_
      refine Ew_of (pcₚ := 28) (fun _ => x_aload_n rfl rfl) ?_
      refine w_gT H (o := 0) (t := 5) rfl (H.perm 0 rfl) rfl rfl rfl rfl rfl rfl ?_
      refine w_inv H (o := 6) rfl rfl rfl (H.perm 6 rfl) rfl rfl (by rfl) (M388_5 H (y18) ((ey19)) (y20) ((ey21)) (w27) ((funext (hA16 27 rfl)).trans (ew27)) (w28) ((funext (hA16 28 rfl)).trans (ew28)) (w29) ((funext (hA16 29 rfl)).trans (ew29)) (w30) ((funext (hA16 30 rfl)).trans (ew30)) (show DI ((y20)) ((w27)) ((w28)) ((w29)) ((w30)) by assumption) (fun σ F24 A25 H hS26 hA27 y29 ey30 y31 ey32 wq33 ewq34 wq35 ewq36 wq37 ewq38 pz28_0 pz28_1 => ⟨rfl, ?_⟩))
      have r39 : (0 : Int) ≤ y29 ∧ y29 ≤ 65536 := rngE (show (0 : Int) ≤ F24 6 4 ∧ F24 6 4 ≤ 65536 from H.frng 6 4) (show F24 6 4 = y29 from (ey30))
      have r40 : (0 : Int) ≤ y31 ∧ y31 ≤ 1 := rngE (show (0 : Int) ≤ F24 6 6 ∧ F24 6 6 ≤ 1 from H.frng 6 6) (show F24 6 6 = y31 from (ey32))
      exact hc34  _ σ _ _  (rfl) H (SF_trans (SF_trans (SF_refl) hS15 (any_sub rfl)) hS26 (any_sub rfl)) (SA_trans (SA_trans (SA_refl) hA16 (any_subA rfl)) hA27 (any_subA rfl)) (y18) (((hS26 5 2 rfl).trans (ey19))) (y20) (((hS26 5 4 rfl).trans (ey21))) (y29) ((ey30)) (y31) ((ey32)) (wq33) (ewq34) (wq35) (ewq36) (wq37) (ewq38) (show DI ((y20)) ((w27)) ((w28)) ((w29)) ((w30)) by assumption) (show DW ((y31)) ((wq33)) ((wq35)) ((wq37)) from pz28_0) (show (y29) = (y18) from pz28_1)
  · refine Ew_of (pcₚ := 5) (fun _ => x_aload_n rfl rfl) ?_
    refine w_gT H (o := 0) (t := 3) rfl (H.perm 0 rfl) rfl rfl rfl rfl rfl rfl ?_
    refine w_inv H (o := 3) rfl rfl rfl (H.perm 3 rfl) rfl rfl (by rfl) (M355 H  (fun σ F41 A42 H hS43 hA44 => ⟨rfl, ?_⟩))
    have hc34 : ∀ (ls : rO) (σ : rS) (F_c34 : hF) (A_c34 : hA) , rlook ls 1 = some (I (a1)) → HS σ0 σ D N F_c34 A_c34 → SF [(5, 2), (5, 3), (5, 4), (6, 4), (6, 5), (6, 6)] F41 F_c34 → SA [48, 49, 50, 51, 52] A42 A_c34 → ∀ yc34_5_2 : Int, F_c34 5 2 = yc34_5_2 → ∀ yc34_5_4 : Int, F_c34 5 4 = yc34_5_4 → ∀ yc34_6_4 : Int, F_c34 6 4 = yc34_6_4 → ∀ yc34_6_6 : Int, F_c34 6 6 = yc34_6_6 → ∀ wc34_49 : Int → Int, A_c34 49 = wc34_49 → ∀ wc34_50 : Int → Int, A_c34 50 = wc34_50 → ∀ wc34_51 : Int → Int, A_c34 51 = wc34_51 → (DI ((yc34_5_4)) ((w27)) ((w28)) ((w29)) ((w30))) → (DW ((yc34_6_6)) ((wc34_49)) ((wc34_50)) ((wc34_51))) → ((yc34_6_4) = (yc34_5_2)) → Ew 78 (d + 1) 34 ls [] σ c s Q := by
     as_aux_lemma =>
      intro  ls σ F_c34 A_c34  lc34_1 H hS_c34 hA_c34 yc34_5_2 eyc34_5_2 yc34_5_4 eyc34_5_4 yc34_6_4 eyc34_6_4 yc34_6_6 eyc34_6_6 wc34_49 ewc34_49 wc34_50 ewc34_50 wc34_51 ewc34_51 jc34_0 jc34_1 jc34_2
      have r46 : (0 : Int) ≤ yc34_5_2 ∧ yc34_5_2 ≤ 65536 := rngE (show (0 : Int) ≤ F_c34 5 2 ∧ F_c34 5 2 ≤ 65536 from H.frng 5 2) (show F_c34 5 2 = yc34_5_2 from (eyc34_5_2))
      have r47 : (0 : Int) ≤ yc34_5_4 ∧ yc34_5_4 ≤ 1 := rngE (show (0 : Int) ≤ F_c34 5 4 ∧ F_c34 5 4 ≤ 1 from H.frng 5 4) (show F_c34 5 4 = yc34_5_4 from (eyc34_5_4))
      have r48 : (0 : Int) ≤ yc34_6_4 ∧ yc34_6_4 ≤ 65536 := rngE (show (0 : Int) ≤ F_c34 6 4 ∧ F_c34 6 4 ≤ 65536 from H.frng 6 4) (show F_c34 6 4 = yc34_6_4 from (eyc34_6_4))
      have r49 : (0 : Int) ≤ yc34_6_6 ∧ yc34_6_6 ≤ 1 := rngE (show (0 : Int) ≤ F_c34 6 6 ∧ F_c34 6 6 ≤ 1 from H.frng 6 6) (show F_c34 6 6 = yc34_6_6 from (eyc34_6_6))
      refine Ew_of (pcₚ := 35) (fun _ => x_iload_n rfl lc34_1) ?_
      refine w_ifeq (t := 43) rfl rfl (show inr (a1) from h0) (fun b50 => ?_) (fun b50 => ?_)
      · refine Ew_of (pcₚ := 44) (fun _ => x_iconst rfl) ?_
        refine Ew_of (pcₚ := 48) (fun _ => x_goto rfl rfl) ?_
        exact w_ireturn rfl (k (1) σ _ _ H (SF_trans (SF_trans (SF_refl) hS43 (any_sub rfl)) hS_c34 (any_sub rfl)) (SA_trans (SA_trans (SA_refl) hA44 (any_subA rfl)) hA_c34 (any_subA rfl)) (yc34_5_2) ((eyc34_5_2)) (yc34_5_4) ((eyc34_5_4)) (yc34_6_4) ((eyc34_6_4)) (yc34_6_6) ((eyc34_6_6)) (w27) ((funext (hA_c34 27 rfl)).trans ((funext (hA44 27 rfl)).trans (ew27))) (w28) ((funext (hA_c34 28 rfl)).trans ((funext (hA44 28 rfl)).trans (ew28))) (w29) ((funext (hA_c34 29 rfl)).trans ((funext (hA44 29 rfl)).trans (ew29))) (w30) ((funext (hA_c34 30 rfl)).trans ((funext (hA44 30 rfl)).trans (ew30))) (wc34_49) (ewc34_49) (wc34_50) (ewc34_50) (wc34_51) (ewc34_51) (show (1) = 0 ∨ (1) = 1 by first | exact q_5 | omega) (show DI ((yc34_5_4)) ((w27)) ((w28)) ((w29)) ((w30)) from jc34_0) (show DW ((yc34_6_6)) ((wc34_49)) ((wc34_50)) ((wc34_51)) from jc34_1) (show (yc34_6_4) = (yc34_5_2) from jc34_2) (show (1) = 1 ∧ (a1 = 0 ∨ a1 = 1) ∨ (1) = 0 ∧ a1 ≠ 0 ∧ a1 ≠ 1 by first | exact q_4426 b50 | omega))
      · refine Ew_of (pcₚ := 39) (fun _ => x_iload_n rfl lc34_1) ?_
        refine Ew_of (pcₚ := 40) (fun _ => x_iconst rfl) ?_
        refine w_icmpne (t := 47) rfl rfl (show inr (a1) from h0) (show inr (1) from q_23) (fun b51 => ?_) (fun b51 => ?_)
        · refine Ew_of (pcₚ := 48) (fun _ => x_iconst rfl) ?_
          exact w_ireturn rfl (k (0) σ _ _ H (SF_trans (SF_trans (SF_refl) hS43 (any_sub rfl)) hS_c34 (any_sub rfl)) (SA_trans (SA_trans (SA_refl) hA44 (any_subA rfl)) hA_c34 (any_subA rfl)) (yc34_5_2) ((eyc34_5_2)) (yc34_5_4) ((eyc34_5_4)) (yc34_6_4) ((eyc34_6_4)) (yc34_6_6) ((eyc34_6_6)) (w27) ((funext (hA_c34 27 rfl)).trans ((funext (hA44 27 rfl)).trans (ew27))) (w28) ((funext (hA_c34 28 rfl)).trans ((funext (hA44 28 rfl)).trans (ew28))) (w29) ((funext (hA_c34 29 rfl)).trans ((funext (hA44 29 rfl)).trans (ew29))) (w30) ((funext (hA_c34 30 rfl)).trans ((funext (hA44 30 rfl)).trans (ew30))) (wc34_49) (ewc34_49) (wc34_50) (ewc34_50) (wc34_51) (ewc34_51) (show (0) = 0 ∨ (0) = 1 by first | exact q_1 | omega) (show DI ((yc34_5_4)) ((w27)) ((w28)) ((w29)) ((w30)) from jc34_0) (show DW ((yc34_6_6)) ((wc34_49)) ((wc34_50)) ((wc34_51)) from jc34_1) (show (yc34_6_4) = (yc34_5_2) from jc34_2) (show (0) = 1 ∧ (a1 = 0 ∨ a1 = 1) ∨ (0) = 0 ∧ a1 ≠ 0 ∧ a1 ≠ 1 by first | exact q_4427 b50 b51 | omega))
        · refine Ew_of (pcₚ := 44) (fun _ => x_iconst rfl) ?_
          refine Ew_of (pcₚ := 48) (fun _ => x_goto rfl rfl) ?_
          exact w_ireturn rfl (k (1) σ _ _ H (SF_trans (SF_trans (SF_refl) hS43 (any_sub rfl)) hS_c34 (any_sub rfl)) (SA_trans (SA_trans (SA_refl) hA44 (any_subA rfl)) hA_c34 (any_subA rfl)) (yc34_5_2) ((eyc34_5_2)) (yc34_5_4) ((eyc34_5_4)) (yc34_6_4) ((eyc34_6_4)) (yc34_6_6) ((eyc34_6_6)) (w27) ((funext (hA_c34 27 rfl)).trans ((funext (hA44 27 rfl)).trans (ew27))) (w28) ((funext (hA_c34 28 rfl)).trans ((funext (hA44 28 rfl)).trans (ew28))) (w29) ((funext (hA_c34 29 rfl)).trans ((funext (hA44 29 rfl)).trans (ew29))) (w30) ((funext (hA_c34 30 rfl)).trans ((funext (hA44 30 rfl)).trans (ew30))) (wc34_49) (ewc34_49) (wc34_50) (ewc34_50) (wc34_51) (ewc34_51) (show (1) = 0 ∨ (1) = 1 by first | exact q_5 | omega) (show DI ((yc34_5_4)) ((w27)) ((w28)) ((w29)) ((w30)) from jc34_0) (show DW ((yc34_6_6)) ((wc34_49)) ((wc34_50)) ((wc34_51)) from jc34_1) (show (yc34_6_4) = (yc34_5_2) from jc34_2) (show (1) = 1 ∧ (a1 = 0 ∨ a1 = 1) ∨ (1) = 0 ∧ a1 ≠ 0 ∧ a1 ≠ 1 by first | exact q_4426 b5 | omega))
    refine Ew_of (pcₚ := 12) (fun _ => x_iload_n rfl rfl) ?_
    refine Ew_of (pcₚ := 13) (fun _ => x_iconst rfl) ?_
    refine w_icmpne (t := 34) rfl rfl (show inr (a1) from h0) (show inr (1) from q_23) (fun b52 => ?_) (fun b52 => ?_)
    · exact hc34  _ σ _ _  (rfl) H (SF_refl) (SA_refl) (u5_2) (((hS43 5 2 rfl).trans (eu5_2))) (u5_4) (((hS43 5 4 rfl).trans (eu5_4))) (u6_4) (((hS43 6 4 rfl).trans (eu6_4))) (u6_6) (((hS43 6 6 rfl).trans (eu6_6))) (w49) ((funext (hA44 49 rfl)).trans (ew49)) (w50) ((funext (hA44 50 rfl)).trans (ew50)) (w51) ((funext (hA44 51 rfl)).trans (ew51)) (show DI ((u5_4)) ((w27)) ((w28)) ((w29)) ((w30)) from h1) (show DW ((u6_6)) ((w49)) ((w50)) ((w51)) from h2) (show (u6_4) = (u5_2) from h3)
    · refine Ew_of (pcₚ := 17) (fun _ => x_aload_n rfl rfl) ?_
      refine w_gT H (o := 0) (t := 5) rfl (H.perm 0 rfl) rfl rfl rfl rfl rfl rfl ?_
      refine w_inv H (o := 5) rfl rfl rfl (H.perm 5 rfl) rfl rfl (by rfl) (M274 H  (fun σ F53 A54 H hS55 hA56 y58 ey59 y60 ey61 pz57_0 pz57_1 => ⟨rfl, ?_⟩))
      have r62 : (0 : Int) ≤ y58 ∧ y58 ≤ 65536 := rngE (show (0 : Int) ≤ F53 5 2 ∧ F53 5 2 ≤ 65536 from H.frng 5 2) (show F53 5 2 = y58 from (ey59))
      have r63 : (0 : Int) ≤ y60 ∧ y60 ≤ 1 := rngE (show (0 : Int) ≤ F53 5 4 ∧ F53 5 4 ≤ 1 from H.frng 5 4) (show F53 5 4 = y60 from (ey61))
      have : DI ((y60)) ((w27)) ((w28)) ((w29)) ((w30)) := fun q => absurd q (by omega)
      refine Ew_of (pcₚ := 24) (fun _ => x_aload_n rfl rfl) ?_
      refine w_gT H (o := 0) (t := 6) rfl (H.perm 0 rfl) rfl rfl rfl rfl rfl rfl ?_
      refine Ew_of (pcₚ := 28) (fun _ => x_aload_n rfl rfl) ?_
      refine w_gT H (o := 0) (t := 5) rfl (H.perm 0 rfl) rfl rfl rfl rfl rfl rfl ?_
      refine w_inv H (o := 6) rfl rfl rfl (H.perm 6 rfl) rfl rfl (by rfl) (M388_5 H (y58) ((ey59)) (y60) ((ey61)) (w27) ((funext (hA56 27 rfl)).trans ((funext (hA44 27 rfl)).trans (ew27))) (w28) ((funext (hA56 28 rfl)).trans ((funext (hA44 28 rfl)).trans (ew28))) (w29) ((funext (hA56 29 rfl)).trans ((funext (hA44 29 rfl)).trans (ew29))) (w30) ((funext (hA56 30 rfl)).trans ((funext (hA44 30 rfl)).trans (ew30))) (show DI ((y60)) ((w27)) ((w28)) ((w29)) ((w30)) by assumption) (fun σ F64 A65 H hS66 hA67 y69 ey70 y71 ey72 wq73 ewq74 wq75 ewq76 wq77 ewq78 pz68_0 pz68_1 => ⟨rfl, ?_⟩))
      have r79 : (0 : Int) ≤ y69 ∧ y69 ≤ 65536 := rngE (show (0 : Int) ≤ F64 6 4 ∧ F64 6 4 ≤ 65536 from H.frng 6 4) (show F64 6 4 = y69 from (ey70))
      have r80 : (0 : Int) ≤ y71 ∧ y71 ≤ 1 := rngE (show (0 : Int) ≤ F64 6 6 ∧ F64 6 6 ≤ 1 from H.frng 6 6) (show F64 6 6 = y71 from (ey72))
      exact hc34  _ σ _ _  (rfl) H (SF_trans (SF_trans (SF_refl) hS55 (any_sub rfl)) hS66 (any_sub rfl)) (SA_trans (SA_trans (SA_refl) hA56 (any_subA rfl)) hA67 (any_subA rfl)) (y58) (((hS66 5 2 rfl).trans (ey59))) (y60) (((hS66 5 4 rfl).trans (ey61))) (y69) ((ey70)) (y71) ((ey72)) (wq73) (ewq74) (wq75) (ewq76) (wq77) (ewq78) (show DI ((y60)) ((w27)) ((w28)) ((w29)) ((w30)) by assumption) (show DW ((y71)) ((wq73)) ((wq75)) ((wq77)) from pz68_0) (show (y69) = (y58) from pz68_1)
/-- Model.bound -/
theorem M89x {σ0 σ : rS} {D N : Nat → Nat} {F : hF} {A : hA} {d c s : Nat} {Q : wQ} (H : HS σ0 σ D N F A) {a1 a2 : Int} (w12 : Int → Int) (ew12 : A 12 = w12) (h0 : inr (a1)) (h1 : inr (a2)) (h2 : SE ((w12))) (k : ∀ (z : Int) σ Fₚ Aₚ, HS σ0 σ D N Fₚ Aₚ → SF [] F Fₚ → SA [] A Aₚ → (inr (z)) → ((z) = BNA ((w12)) ((a1)) ((a2))) → Q (some (I z)) σ c s) : Ew 89 (d + 1) 0 (rargs 0 [.ref (D 0), I a1, I a2]) [] σ c s Q := by
  refine Ew_of (pcₚ := 1) (fun _ => x_iload_n rfl rfl) ?_
  refine Ew_of (pcₚ := 2) (fun _ => x_iconst rfl) ?_
  refine Ew_of (pcₚ := 3) (fun _ => x_iconst rfl) ?_
  refine w_stat24 rfl rfl (by rfl) (M67x H (show inr (a1) from h0) (show inr (0) from q_20) (show inr (5) from q_509) (fun z5 σ F1 A2 H hS3 hA4 pz5_0 pz5_1 => ⟨rretB rfl pz5_0, ?_⟩))
  refine w_ifeq (t := 20) rfl rfl (show inr (z5) from q_15 pz5_0) (fun b6 => ?_) (fun b6 => ?_)
  · refine Ew_of (pcₚ := 21) (fun _ => x_iconst rfl) ?_
    have hBA : (((-1)) : Int) = BNA ((w12)) ((a1)) ((a2)) := by unfold BNA; rw [if_neg (by omega)]
    exact w_ireturn rfl (k ((-1)) σ _ _ H (SF_trans (SF_refl) hS3 (any_sub rfl)) (SA_trans (SA_refl) hA4 (any_subA rfl)) (show inr ((-1)) from q_16) (show ((-1)) = BNA ((w12)) (a1) (a2) from hBA))
  · refine Ew_of (pcₚ := 10) (fun _ => x_iload_n rfl rfl) ?_
    refine Ew_of (pcₚ := 11) (fun _ => x_iconst rfl) ?_
    refine Ew_of (pcₚ := 14) (fun _ => x_sipush (z := 16384) rfl (by decide)) ?_
    refine w_stat24 rfl rfl (by rfl) (M67x H (show inr (a2) from h1) (show inr (0) from q_20) (show inr (16384) from q_2050) (fun z11 σ F7 A8 H hS9 hA10 pz11_0 pz11_1 => ⟨rretB rfl pz11_0, ?_⟩))
    refine w_ifne (t := 22) rfl rfl (show inr (z11) from q_15 pz11_0) (fun b12 => ?_) (fun b12 => ?_)
    · have hse : SE ((w12)) := h2
      unfold SE at hse
      refine Ew_of (pcₚ := 23) (fun _ => x_aload_n rfl rfl) ?_
      refine w_gT H (o := 0) (t := 12) rfl (H.perm 0 rfl) rfl rfl rfl rfl rfl rfl ?_
      refine Ew_of (pcₚ := 27) (fun _ => x_iconst rfl) ?_
      refine w_lI H (o := 12) (n := 10) rfl (H.perm 12 rfl) rfl rfl (H.fix 12 rfl rfl) (show 0 ≤ 2 ∧ 2 < ((10 : Nat) : Int) from q_2051) (by decide) (fun v13 ev13 qv13 => ?_)
      have qv13 : (-2147483648 : Int) ≤ v13 ∧ v13 ≤ 2147483647 := qv13
      have ev13 : (w12) (2) = v13 := (congrFun ((funext (hA10 12 rfl)).trans ((funext (hA4 12 rfl)).trans (ew12))) (2)).symm.trans ev13
      refine Ew_of (pcₚ := 29) (fun _ => x_istore_n rfl) ?_
      have hc98 : ∀ (ls : rO) (σ : rS) (F_c98 : hF) (A_c98 : hA) (xc98_3 : Int), rlook ls 0 = some (.ref (D 0)) → rlook ls 1 = some (I (a1)) → rlook ls 2 = some (I (a2)) → rlook ls 3 = some (I (xc98_3)) → HS σ0 σ D N F_c98 A_c98 → SF [] F7 F_c98 → SA [] A8 A_c98 → (inr (xc98_3)) → ((a1) ≠ 4 ∧ (xc98_3) = ((w12)) 2 ∨ (a1) = 4 ∧ 1 ≤ (xc98_3) ∧ (xc98_3) ≤ 65536 ∧ ((a2) = 0 ∨ (xc98_3) = SMN (WND ((w12)) ((a2))) (((w12)) 2))) → Ew 89 (d + 1) 98 ls [] σ c s Q := by
       as_aux_lemma =>
        intro  ls σ F_c98 A_c98 xc98_3 lc98_0 lc98_1 lc98_2 lc98_3 H hS_c98 hA_c98   jc98_0 jc98_1
        refine Ew_of (pcₚ := 99) (fun _ => x_iload_n rfl lc98_2) ?_
        refine Ew_of (pcₚ := 100) (fun _ => x_iload_n rfl lc98_3) ?_
        refine w_iadd rfl ?_
        refine Ew_of (pcₚ := 102) (fun _ => x_iconst rfl) ?_
        refine w_isub rfl ?_
        refine Ew_of (pcₚ := 104) (fun _ => x_iload_n rfl lc98_3) ?_
        have hdv : 0 ≤ (((a2 + xc98_3) - 1)) / (xc98_3) ∧ (((a2 + xc98_3) - 1)) / (xc98_3) ≤ (((a2 + xc98_3) - 1)) := ⟨Int.ediv_nonneg (by omega) (by omega), Int.ediv_le_self _ (by omega)⟩
        refine w_idiv rfl (show inr (((a2 + xc98_3) - 1)) ∧ 0 ≤ ((a2 + xc98_3) - 1) by omega) (show inr (xc98_3) ∧ 0 < xc98_3 by omega) ?_
        have hRW : (((((a2 + xc98_3) - 1) / xc98_3)) : Int) = RW ((xc98_3)) ((a2)) := rfl
        have hrl := RW_le (c := (xc98_3)) (n := (a2)) (by omega) (by omega)
        have hrp : (a2) = 0 ∨ 1 ≤ RW ((xc98_3)) ((a2)) := by by_cases q : (a2) = 0; exact .inl q; exact .inr (RW_pos (by omega) (by omega))
        refine Ew_of (pcₚ := 107) (fun _ => x_istore rfl) ?_
        refine Ew_of (pcₚ := 108) (fun _ => x_iload_n rfl (rk_o (lc98_1) rfl rfl)) ?_
        by_cases b14 : a1 = 0
        · refine w_tsk 0 144 rfl (show inr (a1) from h0) (by omega) (by decide) rfl rfl ?_
          refine Ew_of (pcₚ := 145) (fun _ => x_iload_n rfl (rk_o (lc98_2) rfl rfl)) ?_
          refine Ew_of (pcₚ := 146) (fun _ => x_iload_n rfl (rk_o (lc98_2) rfl rfl)) ?_
          refine Ew_of (pcₚ := 149) (fun _ => x_sipush (z := 255) rfl (by decide)) ?_
          refine w_idiv rfl (show inr (a2) ∧ 0 ≤ a2 by omega) (show inr (255) ∧ 0 < 255 from q_2054) ?_
          refine w_iadd rfl ?_
          refine Ew_of (pcₚ := 153) (fun _ => x_bipush (z := 16) rfl (by decide)) ?_
          refine w_iadd rfl ?_
          have hBN : ((((a2 + (a2 / 255)) + 16)) : Int) = BND ((w12)) ((a1)) ((a2)) := BND_0 (by omega)
          have hBA : ((((a2 + (a2 / 255)) + 16)) : Int) = BNA ((w12)) ((a1)) ((a2)) := by unfold BNA; rw [if_pos (by omega)]; exact hBN
          exact w_ireturn rfl (k (((a2 + (a2 / 255)) + 16)) σ _ _ H (SF_trans (SF_trans (SF_trans (SF_refl) hS3 (any_sub rfl)) hS9 (any_sub rfl)) hS_c98 (any_sub rfl)) (SA_trans (SA_trans (SA_trans (SA_refl) hA4 (any_subA rfl)) hA10 (any_subA rfl)) hA_c98 (any_subA rfl)) (show inr (((a2 + (a2 / 255)) + 16)) by omega) (show (((a2 + (a2 / 255)) + 16)) = BNA ((w12)) (a1) (a2) from hBA))
        ·
          by_cases b15 : a1 = 1
          · refine w_tsk 1 155 rfl (show inr (a1) from h0) (by omega) (by decide) rfl rfl ?_
            refine Ew_of (pcₚ := 157) (fun _ => x_bipush (z := 27) rfl (by decide)) ?_
            refine Ew_of (pcₚ := 159) (fun _ => x_bipush (z := 8) rfl (by decide)) ?_
            refine Ew_of (pcₚ := 161) (fun _ => x_iload rfl rk_s) ?_
            refine w_imul rfl ?_
            refine w_iadd rfl ?_
            refine Ew_of (pcₚ := 164) (fun _ => x_iload_n rfl (rk_o (lc98_2) rfl rfl)) ?_
            refine w_iadd rfl ?_
            have hBN : ((((27 + (8 * (((a2 + xc98_3) - 1) / xc98_3))) + a2)) : Int) = BND ((w12)) ((a1)) ((a2)) := BND_1 (by omega) (by rw [show ((w12)) 2 = (xc98_3) by omega]; exact hRW)
            have hBA : ((((27 + (8 * (((a2 + xc98_3) - 1) / xc98_3))) + a2)) : Int) = BNA ((w12)) ((a1)) ((a2)) := by unfold BNA; rw [if_pos (by omega)]; exact hBN
            exact w_ireturn rfl (k (((27 + (8 * (((a2 + xc98_3) - 1) / xc98_3))) + a2)) σ _ _ H (SF_trans (SF_trans (SF_trans (SF_refl) hS3 (any_sub rfl)) hS9 (any_sub rfl)) hS_c98 (any_sub rfl)) (SA_trans (SA_trans (SA_trans (SA_refl) hA4 (any_subA rfl)) hA10 (any_subA rfl)) hA_c98 (any_subA rfl)) (show inr (((27 + (8 * (((a2 + xc98_3) - 1) / xc98_3))) + a2)) by omega) (show (((27 + (8 * (((a2 + xc98_3) - 1) / xc98_3))) + a2)) = BNA ((w12)) (a1) (a2) from hBA))
          ·
            by_cases b16 : a1 = 2
            · refine w_tsk 2 166 rfl (show inr (a1) from h0) (by omega) (by decide) rfl rfl ?_
              refine Ew_of (pcₚ := 168) (fun _ => x_bipush (z := 32) rfl (by decide)) ?_
              refine Ew_of (pcₚ := 169) (fun _ => x_iload_n rfl (rk_o (lc98_2) rfl rfl)) ?_
              refine w_iadd rfl ?_
              refine Ew_of (pcₚ := 171) (fun _ => x_iload_n rfl (rk_o (lc98_2) rfl rfl)) ?_
              refine Ew_of (pcₚ := 173) (fun _ => x_bipush (z := 6) rfl (by decide)) ?_
              refine w_idiv rfl (show inr (a2) ∧ 0 ≤ a2 by omega) (show inr (6) ∧ 0 < 6 from q_2058) ?_
              refine w_iadd rfl ?_
              have hBN : ((((32 + a2) + (a2 / 6))) : Int) = BND ((w12)) ((a1)) ((a2)) := BND_2 (by omega)
              have hBA : ((((32 + a2) + (a2 / 6))) : Int) = BNA ((w12)) ((a1)) ((a2)) := by unfold BNA; rw [if_pos (by omega)]; exact hBN
              exact w_ireturn rfl (k (((32 + a2) + (a2 / 6))) σ _ _ H (SF_trans (SF_trans (SF_trans (SF_refl) hS3 (any_sub rfl)) hS9 (any_sub rfl)) hS_c98 (any_sub rfl)) (SA_trans (SA_trans (SA_trans (SA_refl) hA4 (any_subA rfl)) hA10 (any_subA rfl)) hA_c98 (any_subA rfl)) (show inr (((32 + a2) + (a2 / 6))) by omega) (show (((32 + a2) + (a2 / 6))) = BNA ((w12)) (a1) (a2) from hBA))
            ·
              by_cases b17 : a1 = 3
              · refine w_tsk 3 176 rfl (show inr (a1) from h0) (by omega) (by decide) rfl rfl ?_
                refine Ew_of (pcₚ := 178) (fun _ => x_bipush (z := 10) rfl (by decide)) ?_
                refine Ew_of (pcₚ := 179) (fun _ => x_iload_n rfl (rk_o (lc98_2) rfl rfl)) ?_
                refine w_iadd rfl ?_
                refine Ew_of (pcₚ := 182) (fun _ => x_bipush (z := 8) rfl (by decide)) ?_
                refine Ew_of (pcₚ := 184) (fun _ => x_iload rfl rk_s) ?_
                refine w_imul rfl ?_
                refine w_iadd rfl ?_
                refine Ew_of (pcₚ := 187) (fun _ => x_aload_n rfl (rk_o (lc98_0) rfl rfl)) ?_
                refine w_gT H (o := 0) (t := 12) rfl (H.perm 0 rfl) rfl rfl rfl rfl rfl rfl ?_
                refine Ew_of (pcₚ := 192) (fun _ => x_bipush (z := 6) rfl (by decide)) ?_
                refine w_lI H (o := 12) (n := 10) rfl (H.perm 12 rfl) rfl rfl (H.fix 12 rfl rfl) (show 0 ≤ 6 ∧ 6 < ((10 : Nat) : Int) from q_2060) (by decide) (fun v18 ev18 qv18 => ?_)
                have qv18 : (-2147483648 : Int) ≤ v18 ∧ v18 ≤ 2147483647 := qv18
                have ev18 : (w12) (6) = v18 := (congrFun ((funext (hA_c98 12 rfl)).trans ((funext (hA10 12 rfl)).trans ((funext (hA4 12 rfl)).trans (ew12)))) (6)).symm.trans ev18
                refine w_ifle (t := 211) rfl rfl (show inr (v18) from q_22 qv18) (fun b19 => ?_) (fun b19 => ?_)
                · refine Ew_of (pcₚ := 212) (fun _ => x_iconst rfl) ?_
                  refine w_iadd rfl ?_
                  have hBN : (((((10 + a2) + (8 * (((a2 + xc98_3) - 1) / xc98_3))) + 0)) : Int) = BND ((w12)) ((a1)) ((a2)) := BND_3 (by omega) (by rw [show ((w12)) 2 = (xc98_3) by omega]; exact hRW) (by first | exact .inl ⟨by omega, by congr 1; omega⟩ | exact .inr ⟨by omega, rfl⟩)
                  have hBA : (((((10 + a2) + (8 * (((a2 + xc98_3) - 1) / xc98_3))) + 0)) : Int) = BNA ((w12)) ((a1)) ((a2)) := by unfold BNA; rw [if_pos (by omega)]; exact hBN
                  exact w_ireturn rfl (k ((((10 + a2) + (8 * (((a2 + xc98_3) - 1) / xc98_3))) + 0)) σ _ _ H (SF_trans (SF_trans (SF_trans (SF_refl) hS3 (any_sub rfl)) hS9 (any_sub rfl)) hS_c98 (any_sub rfl)) (SA_trans (SA_trans (SA_trans (SA_refl) hA4 (any_subA rfl)) hA10 (any_subA rfl)) hA_c98 (any_subA rfl)) (show inr ((((10 + a2) + (8 * (((a2 + xc98_3) - 1) / xc98_3))) + 0)) by omega) (show ((((10 + a2) + (8 * (((a2 + xc98_3) - 1) / xc98_3))) + 0)) = BNA ((w12)) (a1) (a2) from hBA))
                · refine Ew_of (pcₚ := 198) (fun _ => x_iload rfl rk_s) ?_
                  refine Ew_of (pcₚ := 199) (fun _ => x_iconst rfl) ?_
                  refine Ew_of (pcₚ := 200) (fun _ => x_aload_n rfl (rk_o (lc98_0) rfl rfl)) ?_
                  refine w_gT H (o := 0) (t := 12) rfl (H.perm 0 rfl) rfl rfl rfl rfl rfl rfl ?_
                  refine Ew_of (pcₚ := 205) (fun _ => x_bipush (z := 6) rfl (by decide)) ?_
                  refine w_lI H (o := 12) (n := 10) rfl (H.perm 12 rfl) rfl rfl (H.fix 12 rfl rfl) (show 0 ≤ 6 ∧ 6 < ((10 : Nat) : Int) from q_2060) (by decide) (fun v20 ev20 qv20 => ?_)
                  have qv20 : (-2147483648 : Int) ≤ v20 ∧ v20 ≤ 2147483647 := qv20
                  have ev20 : (w12) (6) = v20 := (congrFun ((funext (hA_c98 12 rfl)).trans ((funext (hA10 12 rfl)).trans ((funext (hA4 12 rfl)).trans (ew12)))) (6)).symm.trans ev20
                  refine w_iadd rfl ?_
                  have hmm : 0 ≤ ((((a2 + xc98_3) - 1) / xc98_3)) * ((4 + v20)) := Int.mul_nonneg (by omega) (by omega)
                  have hmn : ((((a2 + xc98_3) - 1) / xc98_3)) * ((4 + v20)) ≤ 200000 * 300 := Int.mul_le_mul (by omega) (by omega) (by omega) (by omega)
                  refine w_imul rfl ?_
                  refine Ew_of (pcₚ := 212) (fun _ => x_goto rfl rfl) ?_
                  refine w_iadd rfl ?_
                  have hBN : (((((10 + a2) + (8 * (((a2 + xc98_3) - 1) / xc98_3))) + ((((a2 + xc98_3) - 1) / xc98_3) * (4 + v20)))) : Int) = BND ((w12)) ((a1)) ((a2)) := BND_3 (by omega) (by rw [show ((w12)) 2 = (xc98_3) by omega]; exact hRW) (by first | exact .inl ⟨by omega, by congr 1; omega⟩ | exact .inr ⟨by omega, rfl⟩)
                  have hBA : (((((10 + a2) + (8 * (((a2 + xc98_3) - 1) / xc98_3))) + ((((a2 + xc98_3) - 1) / xc98_3) * (4 + v20)))) : Int) = BNA ((w12)) ((a1)) ((a2)) := by unfold BNA; rw [if_pos (by omega)]; exact hBN
                  exact w_ireturn rfl (k ((((10 + a2) + (8 * (((a2 + xc98_3) - 1) / xc98_3))) + ((((a2 + xc98_3) - 1) / xc98_3) * (4 + v20)))) σ _ _ H (SF_trans (SF_trans (SF_trans (SF_refl) hS3 (any_sub rfl)) hS9 (any_sub rfl)) hS_c98 (any_sub rfl)) (SA_trans (SA_trans (SA_trans (SA_refl) hA4 (any_subA rfl)) hA10 (any_subA rfl)) hA_c98 (any_subA rfl)) (show inr ((((10 + a2) + (8 * (((a2 + xc98_3) - 1) / xc98_3))) + ((((a2 + xc98_3) - 1) / xc98_3) * (4 + v20)))) by omega) (show ((((10 + a2) + (8 * (((a2 + xc98_3) - 1) / xc98_3))) + ((((a2 + xc98_3) - 1) / xc98_3) * (4 + v20)))) = BNA ((w12)) (a1) (a2) from hBA))
              ·
                by_cases b21 : a1 = 4
                · refine w_tsk 4 214 rfl (show inr (a1) from h0) (by omega) (by decide) rfl rfl ?_
                  refine Ew_of (pcₚ := 216) (fun _ => x_bipush (z := 22) rfl (by decide)) ?_
                  refine Ew_of (pcₚ := 217) (fun _ => x_iconst rfl) ?_
                  refine Ew_of (pcₚ := 219) (fun _ => x_iload rfl rk_s) ?_
                  refine Ew_of (pcₚ := 220) (fun _ => x_iconst rfl) ?_
                  refine w_icmpge (t := 227) rfl rfl (show inr ((((a2 + xc98_3) - 1) / xc98_3)) by omega) (show inr (1) from q_23) (fun b22 => ?_) (fun b22 => ?_)
                  · refine Ew_of (pcₚ := 229) (fun _ => x_iload rfl rk_s) ?_
                    have hq4 : (a2) = 0 ∧ (((((a2 + xc98_3) - 1) / xc98_3)) : Int) = 1 ∨ (a2) ≠ 0 ∧ (((((a2 + xc98_3) - 1) / xc98_3)) : Int) = RW (SMN (WND ((w12)) ((a2))) (((w12)) 2)) ((a2)) := by first | exact .inl ⟨by omega, rfl⟩ | exact .inr ⟨by omega, by rw [show SMN (WND ((w12)) ((a2))) (((w12)) 2) = (xc98_3) by omega]; exact hRW⟩
                    refine w_imul rfl ?_
                    refine w_iadd rfl ?_
                    refine Ew_of (pcₚ := 232) (fun _ => x_iload_n rfl (rk_o (lc98_2) rfl rfl)) ?_
                    refine w_iadd rfl ?_
                    have hBN : ((((22 + (3 * (((a2 + xc98_3) - 1) / xc98_3))) + a2)) : Int) = BND ((w12)) ((a1)) ((a2)) := BND_4 (by omega) hq4
                    have hBA : ((((22 + (3 * (((a2 + xc98_3) - 1) / xc98_3))) + a2)) : Int) = BNA ((w12)) ((a1)) ((a2)) := by unfold BNA; rw [if_pos (by omega)]; exact hBN
                    exact w_ireturn rfl (k (((22 + (3 * (((a2 + xc98_3) - 1) / xc98_3))) + a2)) σ _ _ H (SF_trans (SF_trans (SF_trans (SF_refl) hS3 (any_sub rfl)) hS9 (any_sub rfl)) hS_c98 (any_sub rfl)) (SA_trans (SA_trans (SA_trans (SA_refl) hA4 (any_subA rfl)) hA10 (any_subA rfl)) hA_c98 (any_subA rfl)) (show inr (((22 + (3 * (((a2 + xc98_3) - 1) / xc98_3))) + a2)) by omega) (show (((22 + (3 * (((a2 + xc98_3) - 1) / xc98_3))) + a2)) = BNA ((w12)) (a1) (a2) from hBA))
                  · refine Ew_of (pcₚ := 224) (fun _ => x_iconst rfl) ?_
                    refine Ew_of (pcₚ := 229) (fun _ => x_goto rfl rfl) ?_
                    have hq4 : (a2) = 0 ∧ ((1) : Int) = 1 ∨ (a2) ≠ 0 ∧ ((1) : Int) = RW (SMN (WND ((w12)) ((a2))) (((w12)) 2)) ((a2)) := by first | exact .inl ⟨by omega, rfl⟩ | exact .inr ⟨by omega, by rw [show SMN (WND ((w12)) ((a2))) (((w12)) 2) = (xc98_3) by omega]; exact hRW⟩
                    refine w_imul rfl ?_
                    refine w_iadd rfl ?_
                    refine Ew_of (pcₚ := 232) (fun _ => x_iload_n rfl (rk_o (lc98_2) rfl rfl)) ?_
                    refine w_iadd rfl ?_
                    have hBN : ((((22 + (3 * 1)) + a2)) : Int) = BND ((w12)) ((a1)) ((a2)) := BND_4 (by omega) hq4
                    have hBA : ((((22 + (3 * 1)) + a2)) : Int) = BNA ((w12)) ((a1)) ((a2)) := by unfold BNA; rw [if_pos (by omega)]; exact hBN
                    exact w_ireturn rfl (k (((22 + (3 * 1)) + a2)) σ _ _ H (SF_trans (SF_trans (SF_trans (SF_refl) hS3 (any_sub rfl)) hS9 (any_sub rfl)) hS_c98 (any_sub rfl)) (SA_trans (SA_trans (SA_trans (SA_refl) hA4 (any_subA rfl)) hA10 (any_subA rfl)) hA_c98 (any_subA rfl)) (show inr (((22 + (3 * 1)) + a2)) from q_4429 b22 h1 hRW hrp) (show (((22 + (3 * 1)) + a2)) = BNA ((w12)) (a1) (a2) from hBA))
                ·
                  refine w_tsd 234 rfl (show inr (a1) from h0) (by omega) rfl ?_
                  refine Ew_of (pcₚ := 237) (fun _ => x_sipush (z := 700) rfl (by decide)) ?_
                  refine Ew_of (pcₚ := 238) (fun _ => x_iload_n rfl (rk_o (lc98_2) rfl rfl)) ?_
                  refine w_iadd rfl ?_
                  have hBN : (((700 + a2)) : Int) = BND ((w12)) ((a1)) ((a2)) := BND_5 (by omega)
                  have hBA : (((700 + a2)) : Int) = BNA ((w12)) ((a1)) ((a2)) := by unfold BNA; rw [if_pos (by omega)]; exact hBN
                  exact w_ireturn rfl (k ((700 + a2)) σ _ _ H (SF_trans (SF_trans (SF_trans (SF_refl) hS3 (any_sub rfl)) hS9 (any_sub rfl)) hS_c98 (any_sub rfl)) (SA_trans (SA_trans (SA_trans (SA_refl) hA4 (any_subA rfl)) hA10 (any_subA rfl)) hA_c98 (any_subA rfl)) (show inr ((700 + a2)) by omega) (show ((700 + a2)) = BNA ((w12)) (a1) (a2) from hBA))
      refine Ew_of (pcₚ := 30) (fun _ => x_iload_n rfl (rk_o (rfl) rfl rfl)) ?_
      refine Ew_of (pcₚ := 31) (fun _ => x_iconst rfl) ?_
      refine w_icmpne (t := 98) rfl rfl (show inr (a1) from h0) (show inr (4) from q_2) (fun b23 => ?_) (fun b23 => ?_)
      · have hCT : (a1) ≠ 4 ∧ (v13) = ((w12)) 2 ∨ (a1) = 4 ∧ 1 ≤ (v13) ∧ (v13) ≤ 65536 ∧ ((a2) = 0 ∨ (v13) = SMN (WND ((w12)) ((a2))) (((w12)) 2)) := by first | exact .inl ⟨by omega, by omega⟩ | exact .inr ⟨by omega, by omega, by omega, by unfold SMN; split <;> omega⟩
        exact hc98  _ σ _ _ (v13) (rk_o (rfl) rfl rfl) (rk_o (rfl) rfl rfl) (rk_o (rfl) rfl rfl) (rk_s) H (SF_refl) (SA_refl)   (show inr (v13) from q_22 qv13) (show (a1) ≠ 4 ∧ (v13) = ((w12)) 2 ∨ (a1) = 4 ∧ 1 ≤ (v13) ∧ (v13) ≤ 65536 ∧ ((a2) = 0 ∨ (v13) = SMN (WND ((w12)) ((a2))) (((w12)) 2)) from hCT)
      · have hc62 : ∀ (tc62_0 : Int), ∀ (ls : rO) (σ : rS) (F_c62 : hF) (A_c62 : hA) , rlook ls 0 = some (.ref (D 0)) → rlook ls 1 = some (I (a1)) → rlook ls 2 = some (I (a2)) → rlook ls 3 = some (I (v13)) → HS σ0 σ D N F_c62 A_c62 → SF [] F7 F_c62 → SA [] A8 A_c62 → (inr (tc62_0)) → ((tc62_0) = WND ((w12)) ((a2))) → (0 ≤ (tc62_0) ∧ (tc62_0) ≤ 2097152) → ((a2) = 0 ∨ 1 ≤ (tc62_0)) → Ew 89 (d + 1) 62 ls [I (tc62_0)] σ c s Q := by
         as_aux_lemma =>
          intro tc62_0 ls σ F_c62 A_c62  lc62_0 lc62_1 lc62_2 lc62_3 H hS_c62 hA_c62   jc62_0 jc62_1 jc62_2 jc62_3
          refine Ew_of (pcₚ := 64) (fun _ => x_istore rfl) ?_
          refine Ew_of (pcₚ := 66) (fun _ => x_iload rfl rk_s) ?_
          refine Ew_of (pcₚ := 68) (fun _ => x_ldc (z := 131072) rfl (by decide)) ?_
          refine w_icmpge (t := 76) rfl rfl (show inr (tc62_0) from jc62_0) (show inr (131072) from q_1604) (fun b24 => ?_) (fun b24 => ?_)
          · refine Ew_of (pcₚ := 78) (fun _ => x_ldc (z := 131072) rfl (by decide)) ?_
            refine Ew_of (pcₚ := 80) (fun _ => x_istore rfl) ?_
            refine Ew_of (pcₚ := 82) (fun _ => x_iload rfl rk_s) ?_
            refine w_ifle (t := 96) rfl rfl (show inr (131072) from q_1604) (fun b25 => ?_) (fun b25 => ?_)
            · refine Ew_of (pcₚ := 97) (fun _ => x_iload_n rfl (rk_o (rk_o (lc62_3) rfl rfl) rfl rfl)) ?_
              refine Ew_of (pcₚ := 98) (fun _ => x_istore_n rfl) ?_
              have hCT : (a1) ≠ 4 ∧ (v13) = ((w12)) 2 ∨ (a1) = 4 ∧ 1 ≤ (v13) ∧ (v13) ≤ 65536 ∧ ((a2) = 0 ∨ (v13) = SMN (WND ((w12)) ((a2))) (((w12)) 2)) := by first | exact .inl ⟨by omega, by omega⟩ | exact .inr ⟨by omega, by omega, by omega, by unfold SMN; split <;> omega⟩
              exact hc98  _ σ _ _ (v13) (rk_o (rk_o (rk_o (lc62_0) rfl rfl) rfl rfl) rfl rfl) (rk_o (rk_o (rk_o (lc62_1) rfl rfl) rfl rfl) rfl rfl) (rk_o (rk_o (rk_o (lc62_2) rfl rfl) rfl rfl) rfl rfl) (rk_s) H (SF_trans (SF_refl) hS_c62 (any_sub rfl)) (SA_trans (SA_refl) hA_c62 (any_subA rfl))   (show inr (v13) from q_22 qv13) (show (a1) ≠ 4 ∧ (v13) = ((w12)) 2 ∨ (a1) = 4 ∧ 1 ≤ (v13) ∧ (v13) ≤ 65536 ∧ ((a2) = 0 ∨ (v13) = SMN (WND ((w12)) ((a2))) (((w12)) 2)) from hCT)
            · refine Ew_of (pcₚ := 87) (fun _ => x_iload rfl rk_s) ?_
              refine Ew_of (pcₚ := 88) (fun _ => x_iload_n rfl (rk_o (rk_o (lc62_3) rfl rfl) rfl rfl)) ?_
              refine w_icmpge (t := 96) rfl rfl (show inr (131072) from q_1604) (show inr (v13) from q_22 qv13) (fun b26 => ?_) (fun b26 => ?_)
              · refine Ew_of (pcₚ := 97) (fun _ => x_iload_n rfl (rk_o (rk_o (lc62_3) rfl rfl) rfl rfl)) ?_
                refine Ew_of (pcₚ := 98) (fun _ => x_istore_n rfl) ?_
                have hCT : (a1) ≠ 4 ∧ (v13) = ((w12)) 2 ∨ (a1) = 4 ∧ 1 ≤ (v13) ∧ (v13) ≤ 65536 ∧ ((a2) = 0 ∨ (v13) = SMN (WND ((w12)) ((a2))) (((w12)) 2)) := by first | exact .inl ⟨by omega, by omega⟩ | exact .inr ⟨by omega, by omega, by omega, by unfold SMN; split <;> omega⟩
                exact hc98  _ σ _ _ (v13) (rk_o (rk_o (rk_o (lc62_0) rfl rfl) rfl rfl) rfl rfl) (rk_o (rk_o (rk_o (lc62_1) rfl rfl) rfl rfl) rfl rfl) (rk_o (rk_o (rk_o (lc62_2) rfl rfl) rfl rfl) rfl rfl) (rk_s) H (SF_trans (SF_refl) hS_c62 (any_sub rfl)) (SA_trans (SA_refl) hA_c62 (any_subA rfl))   (show inr (v13) from q_4430 b26 qv13) (show (a1) ≠ 4 ∧ (v13) = ((w12)) 2 ∨ (a1) = 4 ∧ 1 ≤ (v13) ∧ (v13) ≤ 65536 ∧ ((a2) = 0 ∨ (v13) = SMN (WND ((w12)) ((a2))) (((w12)) 2)) from hCT)
              · refine Ew_of (pcₚ := 93) (fun _ => x_iload rfl rk_s) ?_
                refine Ew_of (pcₚ := 97) (fun _ => x_goto rfl rfl) ?_
                refine Ew_of (pcₚ := 98) (fun _ => x_istore_n rfl) ?_
                have hCT : (a1) ≠ 4 ∧ (131072) = ((w12)) 2 ∨ (a1) = 4 ∧ 1 ≤ (131072) ∧ (131072) ≤ 65536 ∧ ((a2) = 0 ∨ (131072) = SMN (WND ((w12)) ((a2))) (((w12)) 2)) := by first | exact .inl ⟨by omega, by omega⟩ | exact .inr ⟨by omega, by omega, by omega, by unfold SMN; split <;> omega⟩
                exact hc98  _ σ _ _ (131072) (rk_o (rk_o (rk_o (lc62_0) rfl rfl) rfl rfl) rfl rfl) (rk_o (rk_o (rk_o (lc62_1) rfl rfl) rfl rfl) rfl rfl) (rk_o (rk_o (rk_o (lc62_2) rfl rfl) rfl rfl) rfl rfl) (rk_s) H (SF_trans (SF_refl) hS_c62 (any_sub rfl)) (SA_trans (SA_refl) hA_c62 (any_subA rfl))   (show inr (131072) from q_1604) (show (a1) ≠ 4 ∧ (131072) = ((w12)) 2 ∨ (a1) = 4 ∧ 1 ≤ (131072) ∧ (131072) ≤ 65536 ∧ ((a2) = 0 ∨ (131072) = SMN (WND ((w12)) ((a2))) (((w12)) 2)) by omega)
          · refine Ew_of (pcₚ := 73) (fun _ => x_iload rfl rk_s) ?_
            refine Ew_of (pcₚ := 78) (fun _ => x_goto rfl rfl) ?_
            refine Ew_of (pcₚ := 80) (fun _ => x_istore rfl) ?_
            refine Ew_of (pcₚ := 82) (fun _ => x_iload rfl rk_s) ?_
            refine w_ifle (t := 96) rfl rfl (show inr (tc62_0) from jc62_0) (fun b27 => ?_) (fun b27 => ?_)
            · refine Ew_of (pcₚ := 97) (fun _ => x_iload_n rfl (rk_o (rk_o (lc62_3) rfl rfl) rfl rfl)) ?_
              refine Ew_of (pcₚ := 98) (fun _ => x_istore_n rfl) ?_
              have hCT : (a1) ≠ 4 ∧ (v13) = ((w12)) 2 ∨ (a1) = 4 ∧ 1 ≤ (v13) ∧ (v13) ≤ 65536 ∧ ((a2) = 0 ∨ (v13) = SMN (WND ((w12)) ((a2))) (((w12)) 2)) := by first | exact .inl ⟨by omega, by omega⟩ | exact .inr ⟨by omega, by omega, by omega, by unfold SMN; split <;> omega⟩
              exact hc98  _ σ _ _ (v13) (rk_o (rk_o (rk_o (lc62_0) rfl rfl) rfl rfl) rfl rfl) (rk_o (rk_o (rk_o (lc62_1) rfl rfl) rfl rfl) rfl rfl) (rk_o (rk_o (rk_o (lc62_2) rfl rfl) rfl rfl) rfl rfl) (rk_s) H (SF_trans (SF_refl) hS_c62 (any_sub rfl)) (SA_trans (SA_refl) hA_c62 (any_subA rfl))   (show inr (v13) from q_22 qv13) (show (a1) ≠ 4 ∧ (v13) = ((w12)) 2 ∨ (a1) = 4 ∧ 1 ≤ (v13) ∧ (v13) ≤ 65536 ∧ ((a2) = 0 ∨ (v13) = SMN (WND ((w12)) ((a2))) (((w12)) 2)) from hCT)
            · refine Ew_of (pcₚ := 87) (fun _ => x_iload rfl rk_s) ?_
              refine Ew_of (pcₚ := 88) (fun _ => x_iload_n rfl (rk_o (rk_o (lc62_3) rfl rfl) rfl rfl)) ?_
              refine w_icmpge (t := 96) rfl rfl (show inr (tc62_0) from jc62_0) (show inr (v13) from q_22 qv13) (fun b28 => ?_) (fun b28 => ?_)
              · refine Ew_of (pcₚ := 97) (fun _ => x_iload_n rfl (rk_o (rk_o (lc62_3) rfl rfl) rfl rfl)) ?_
                refine Ew_of (pcₚ := 98) (fun _ => x_istore_n rfl) ?_
                have hCT : (a1) ≠ 4 ∧ (v13) = ((w12)) 2 ∨ (a1) = 4 ∧ 1 ≤ (v13) ∧ (v13) ≤ 65536 ∧ ((a2) = 0 ∨ (v13) = SMN (WND ((w12)) ((a2))) (((w12)) 2)) := by first | exact .inl ⟨by omega, by omega⟩ | exact .inr ⟨by omega, by omega, by omega, by unfold SMN; split <;> omega⟩
                exact hc98  _ σ _ _ (v13) (rk_o (rk_o (rk_o (lc62_0) rfl rfl) rfl rfl) rfl rfl) (rk_o (rk_o (rk_o (lc62_1) rfl rfl) rfl rfl) rfl rfl) (rk_o (rk_o (rk_o (lc62_2) rfl rfl) rfl rfl) rfl rfl) (rk_s) H (SF_trans (SF_refl) hS_c62 (any_sub rfl)) (SA_trans (SA_refl) hA_c62 (any_subA rfl))   (show inr (v13) from q_22 qv13) (show (a1) ≠ 4 ∧ (v13) = ((w12)) 2 ∨ (a1) = 4 ∧ 1 ≤ (v13) ∧ (v13) ≤ 65536 ∧ ((a2) = 0 ∨ (v13) = SMN (WND ((w12)) ((a2))) (((w12)) 2)) from hCT)
              · refine Ew_of (pcₚ := 93) (fun _ => x_iload rfl rk_s) ?_
                refine Ew_of (pcₚ := 97) (fun _ => x_goto rfl rfl) ?_
                refine Ew_of (pcₚ := 98) (fun _ => x_istore_n rfl) ?_
                have hCT : (a1) ≠ 4 ∧ (tc62_0) = ((w12)) 2 ∨ (a1) = 4 ∧ 1 ≤ (tc62_0) ∧ (tc62_0) ≤ 65536 ∧ ((a2) = 0 ∨ (tc62_0) = SMN (WND ((w12)) ((a2))) (((w12)) 2)) := by first | exact .inl ⟨by omega, by omega⟩ | exact .inr ⟨by omega, by omega, by omega, by unfold SMN; split <;> omega⟩
                exact hc98  _ σ _ _ (tc62_0) (rk_o (rk_o (rk_o (lc62_0) rfl rfl) rfl rfl) rfl rfl) (rk_o (rk_o (rk_o (lc62_1) rfl rfl) rfl rfl) rfl rfl) (rk_o (rk_o (rk_o (lc62_2) rfl rfl) rfl rfl) rfl rfl) (rk_s) H (SF_trans (SF_refl) hS_c62 (any_sub rfl)) (SA_trans (SA_refl) hA_c62 (any_subA rfl))   (show inr (tc62_0) from jc62_0) (show (a1) ≠ 4 ∧ (tc62_0) = ((w12)) 2 ∨ (a1) = 4 ∧ 1 ≤ (tc62_0) ∧ (tc62_0) ≤ 65536 ∧ ((a2) = 0 ∨ (tc62_0) = SMN (WND ((w12)) ((a2))) (((w12)) 2)) from hCT)
        refine Ew_of (pcₚ := 35) (fun _ => x_aload_n rfl (rk_o (rfl) rfl rfl)) ?_
        refine w_gT H (o := 0) (t := 12) rfl (H.perm 0 rfl) rfl rfl rfl rfl rfl rfl ?_
        refine Ew_of (pcₚ := 40) (fun _ => x_bipush (z := 7) rfl (by decide)) ?_
        refine w_lI H (o := 12) (n := 10) rfl (H.perm 12 rfl) rfl rfl (H.fix 12 rfl rfl) (show 0 ≤ 7 ∧ 7 < ((10 : Nat) : Int) from q_2067) (by decide) (fun v29 ev29 qv29 => ?_)
        have qv29 : (-2147483648 : Int) ≤ v29 ∧ v29 ≤ 2147483647 := qv29
        have ev29 : (w12) (7) = v29 := (congrFun ((funext (hA10 12 rfl)).trans ((funext (hA4 12 rfl)).trans (ew12))) (7)).symm.trans ev29
        refine Ew_of (pcₚ := 42) (fun _ => x_iconst rfl) ?_
        have hw7 := ev29
        refine w_iandE rfl (show inr (v29) from q_22 qv29) (show inr (4) from q_2) (fun z30 gz30 gaz30 gbz30 gez30 => ?_)
        refine w_ifeq (t := 50) rfl rfl (show inr (z30) from gz30) (fun b31 => ?_) (fun b31 => ?_)
        · refine Ew_of (pcₚ := 51) (fun _ => x_iconst rfl) ?_
          refine Ew_of (pcₚ := 53) (fun _ => x_bipush (z := 10) rfl (by decide)) ?_
          refine Ew_of (pcₚ := 54) (fun _ => x_aload_n rfl (rk_o (rfl) rfl rfl)) ?_
          refine w_gT H (o := 0) (t := 12) rfl (H.perm 0 rfl) rfl rfl rfl rfl rfl rfl ?_
          refine Ew_of (pcₚ := 59) (fun _ => x_bipush (z := 8) rfl (by decide)) ?_
          refine w_lI H (o := 12) (n := 10) rfl (H.perm 12 rfl) rfl rfl (H.fix 12 rfl rfl) (show 0 ≤ 8 ∧ 8 < ((10 : Nat) : Int) from q_2071) (by decide) (fun v32 ev32 qv32 => ?_)
          have qv32 : (-2147483648 : Int) ≤ v32 ∧ v32 ≤ 2147483647 := qv32
          have ev32 : (w12) (8) = v32 := (congrFun ((funext (hA10 12 rfl)).trans ((funext (hA4 12 rfl)).trans (ew12))) (8)).symm.trans ev32
          have hw8 := ev32
          refine w_iadd rfl ?_
          have : p2 (((10 + v32))) ≤ p2 21 := p2_mono (by omega)
          have : p2 21 = 2097152 := by decide
          have := p2_pos (((10 + v32)))
          have hpe : p2 (((10 + v32))) = p2 (10 + ((w12)) 8) := by congr 1; omega
          have hpp := p2_pos (((10 + v32)))
          refine w_ishl1 rfl (show 0 ≤ (10 + v32) ∧ (10 + v32) ≤ 31 by omega) ?_
          have hWN : ((p2 ((10 + v32))) : Int) = WND ((w12)) ((a2)) := by unfold WND; rw [hw7]; first | (rw [if_pos (by omega), hw8]) | (rw [if_neg (by omega)])
          exact hc62 (p2 ((10 + v32))) _ σ _ _  (rk_o (rfl) rfl rfl) (rk_o (rfl) rfl rfl) (rk_o (rfl) rfl rfl) (rk_s) H (SF_refl) (SA_refl)   (show inr (p2 ((10 + v32))) by omega) (show (p2 ((10 + v32))) = WND ((w12)) ((a2)) by omega) (show 0 ≤ (p2 ((10 + v32))) ∧ (p2 ((10 + v32))) ≤ 2097152 by omega) (show (a2) = 0 ∨ 1 ≤ (p2 ((10 + v32))) by omega)
        · refine Ew_of (pcₚ := 47) (fun _ => x_iload_n rfl (rk_o (rfl) rfl rfl)) ?_
          refine Ew_of (pcₚ := 62) (fun _ => x_goto rfl rfl) ?_
          have hWN : ((a2) : Int) = WND ((w12)) ((a2)) := by unfold WND; rw [hw7]; first | (rw [if_pos (by omega), hw8]) | (rw [if_neg (by omega)])
          exact hc62 (a2) _ σ _ _  (rk_o (rfl) rfl rfl) (rk_o (rfl) rfl rfl) (rk_o (rfl) rfl rfl) (rk_s) H (SF_refl) (SA_refl)   (show inr (a2) from h1) (show (a2) = WND ((w12)) ((a2)) from hWN) (show 0 ≤ (a2) ∧ (a2) ≤ 2097152 by omega) (show (a2) = 0 ∨ 1 ≤ (a2) by omega)
    · refine Ew_of (pcₚ := 21) (fun _ => x_iconst rfl) ?_
      have hBA : (((-1)) : Int) = BNA ((w12)) ((a1)) ((a2)) := by unfold BNA; rw [if_neg (by omega)]
      exact w_ireturn rfl (k ((-1)) σ _ _ H (SF_trans (SF_trans (SF_refl) hS3 (any_sub rfl)) hS9 (any_sub rfl)) (SA_trans (SA_trans (SA_refl) hA4 (any_subA rfl)) hA10 (any_subA rfl)) (show inr ((-1)) from q_16) (show ((-1)) = BNA ((w12)) (a1) (a2) from hBA))
