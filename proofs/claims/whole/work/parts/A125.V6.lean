theorem C24x {σE : rS} {D N : Nat → Nat} {F : hF} {A : hA} {d c s : Nat} {Q : wQ} (H : HW V24 σE D N F A) {a1 : Int} (h0 : inr (a1)) (k : ∀ (z : Int) (σ : rS) (Fₚ : hF) (Aₚ : hA), HW V24 σ D N Fₚ Aₚ → OUT (V24).length D N σE c s D N σ c s → SF [] F Fₚ → SA [] A Aₚ → ((z) = 0 ∨ (z) = 1) → ((z) = 1 ∧ 0 ≤ (a1) ∧ (a1) ≤ 3 ∨ (z) = 0 ∧ ((a1) < 0 ∨ 3 < (a1))) → Q (some (I z)) σ c s) : Ew 24 (d + 0) 0 (rargs 0 [I a1]) [] σE c s Q := by
  have O := OUT_refl (n := (V24).length) (D := D) (N := N) (σ := σE) (c := c) (s := s)
  have HE := H
  refine Ew_of (pcₚ := 1) (fun _ => x_iload_n rfl rfl) ?_
  refine w_iflt (t := 13) rfl rfl (show inr (a1) from h0) (fun b1 => ?_) (fun b1 => ?_)
  · refine Ew_of (pcₚ := 14) (fun _ => x_iconst rfl) ?_
    exact w_ireturn rfl (k (0) _ _ _ H O (SF_refl) (SA_refl) (show (0) = 0 ∨ (0) = 1 by first | exact q_45 | omega) (show (0) = 1 ∧ 0 ≤ a1 ∧ a1 ≤ 3 ∨ (0) = 0 ∧ (a1 < 0 ∨ 3 < a1) by first | exact q_4921 b1 | omega))
  · refine Ew_of (pcₚ := 5) (fun _ => x_iload_n rfl rfl) ?_
    refine Ew_of (pcₚ := 6) (fun _ => x_iconst rfl) ?_
    refine w_icmpgt (t := 13) rfl rfl (show inr (a1) from h0) (show inr (3) from q_246) (fun b2 => ?_) (fun b2 => ?_)
    · refine Ew_of (pcₚ := 14) (fun _ => x_iconst rfl) ?_
      exact w_ireturn rfl (k (0) _ _ _ H O (SF_refl) (SA_refl) (show (0) = 0 ∨ (0) = 1 by first | exact q_45 | omega) (show (0) = 1 ∧ 0 ≤ a1 ∧ a1 ≤ 3 ∨ (0) = 0 ∧ (a1 < 0 ∨ 3 < a1) by first | exact q_4922 b2 | omega))
    · refine Ew_of (pcₚ := 10) (fun _ => x_iconst rfl) ?_
      refine Ew_of (pcₚ := 14) (fun _ => x_goto rfl rfl) ?_
      exact w_ireturn rfl (k (1) _ _ _ H O (SF_refl) (SA_refl) (show (1) = 0 ∨ (1) = 1 by first | exact q_49 | omega) (show (1) = 1 ∧ 0 ≤ a1 ∧ a1 ≤ 3 ∨ (1) = 0 ∧ (a1 < 0 ∨ 3 < a1) by first | exact q_4923 b1 b2 | omega))
theorem C25x {σE : rS} {D N : Nat → Nat} {F : hF} {A : hA} {d c s : Nat} {Q : wQ} (H : HW V25 σE D N F A) {a1 : Int} (h0 : inr (a1)) (k : ∀ (z : Int) (σ : rS) (Fₚ : hF) (Aₚ : hA), HW V25 σ D N Fₚ Aₚ → OUT (V25).length D N σE c s D N σ c s → SF [] F Fₚ → SA [] A Aₚ → ((z) = 0 ∨ (z) = 1) → ((z) = 1 ∧ 0 ≤ (a1) ∧ (a1) ≤ 9 ∨ (z) = 0 ∧ ((a1) < 0 ∨ 9 < (a1))) → Q (some (I z)) σ c s) : Ew 25 (d + 0) 0 (rargs 0 [I a1]) [] σE c s Q := by
  have O := OUT_refl (n := (V25).length) (D := D) (N := N) (σ := σE) (c := c) (s := s)
  have HE := H
  refine Ew_of (pcₚ := 1) (fun _ => x_iload_n rfl rfl) ?_
  refine w_iflt (t := 14) rfl rfl (show inr (a1) from h0) (fun b1 => ?_) (fun b1 => ?_)
  · refine Ew_of (pcₚ := 15) (fun _ => x_iconst rfl) ?_
    exact w_ireturn rfl (k (0) _ _ _ H O (SF_refl) (SA_refl) (show (0) = 0 ∨ (0) = 1 by first | exact q_45 | omega) (show (0) = 1 ∧ 0 ≤ a1 ∧ a1 ≤ 9 ∨ (0) = 0 ∧ (a1 < 0 ∨ 9 < a1) by first | exact q_4924 b1 | omega))
  · refine Ew_of (pcₚ := 5) (fun _ => x_iload_n rfl rfl) ?_
    refine Ew_of (pcₚ := 7) (fun _ => x_bipush (z := 9) rfl (by decide)) ?_
    refine w_icmpgt (t := 14) rfl rfl (show inr (a1) from h0) (show inr (9) from q_291) (fun b2 => ?_) (fun b2 => ?_)
    · refine Ew_of (pcₚ := 15) (fun _ => x_iconst rfl) ?_
      exact w_ireturn rfl (k (0) _ _ _ H O (SF_refl) (SA_refl) (show (0) = 0 ∨ (0) = 1 by first | exact q_45 | omega) (show (0) = 1 ∧ 0 ≤ a1 ∧ a1 ≤ 9 ∨ (0) = 0 ∧ (a1 < 0 ∨ 9 < a1) by first | exact q_4925 b2 | omega))
    · refine Ew_of (pcₚ := 11) (fun _ => x_iconst rfl) ?_
      refine Ew_of (pcₚ := 15) (fun _ => x_goto rfl rfl) ?_
      exact w_ireturn rfl (k (1) _ _ _ H O (SF_refl) (SA_refl) (show (1) = 0 ∨ (1) = 1 by first | exact q_49 | omega) (show (1) = 1 ∧ 0 ≤ a1 ∧ a1 ≤ 9 ∨ (1) = 0 ∧ (a1 < 0 ∨ 9 < a1) by first | exact q_4926 b1 b2 | omega))
theorem C213x {σE : rS} {D N : Nat → Nat} {F : hF} {A : hA} {d c s : Nat} {Q : wQ} (H : HW V213 σE D N F A) {a1 : Int} (h0 : inr (a1)) (k : ∀ (z : Int) (σ : rS) (Fₚ : hF) (Aₚ : hA), HW V213 σ D N Fₚ Aₚ → OUT (V213).length D N σE c s D N σ c s → SF [] F Fₚ → SA [] A Aₚ → ((z) = 0 ∨ (z) = 1) → ((z) = 1 ∧ andI ((a1)) (-62) = 64 ∨ (z) = 0 ∧ andI ((a1)) (-62) ≠ 64) → Q (some (I z)) σ c s) : Ew 213 (d + 0) 0 (rargs 0 [I a1]) [] σE c s Q := by
  have O := OUT_refl (n := (V213).length) (D := D) (N := N) (σ := σE) (c := c) (s := s)
  have HE := H
  refine Ew_of (pcₚ := 1) (fun _ => x_iload_n rfl rfl) ?_
  refine Ew_of (pcₚ := 3) (fun _ => x_bipush (z := -62) rfl (by decide)) ?_
  refine w_iandE rfl (show inr (a1) from h0) (show inr ((-62)) from q_3255) (fun z1 gz1 gaz1 gbz1 gez1 => ?_)
  refine Ew_of (pcₚ := 6) (fun _ => x_bipush (z := 64) rfl (by decide)) ?_
  refine w_icmpne (t := 13) rfl rfl (show inr (z1) from gz1) (show inr (64) from q_151) (fun b2 => ?_) (fun b2 => ?_)
  · refine Ew_of (pcₚ := 14) (fun _ => x_iconst rfl) ?_
    exact w_ireturn rfl (k (0) _ _ _ H O (SF_refl) (SA_refl) (show (0) = 0 ∨ (0) = 1 by first | exact q_45 | omega) (show (0) = 1 ∧ andI (a1) (-62) = 64 ∨ (0) = 0 ∧ andI (a1) (-62) ≠ 64 by omega))
  · refine Ew_of (pcₚ := 10) (fun _ => x_iconst rfl) ?_
    refine Ew_of (pcₚ := 14) (fun _ => x_goto rfl rfl) ?_
    exact w_ireturn rfl (k (1) _ _ _ H O (SF_refl) (SA_refl) (show (1) = 0 ∨ (1) = 1 by first | exact q_49 | omega) (show (1) = 1 ∧ andI (a1) (-62) = 64 ∨ (1) = 0 ∧ andI (a1) (-62) ≠ 64 by first | exact q_3256 b2 gez1 | omega))
theorem oz_V6cls_4 : vsub V26 V213 [] = true := by decide +kernel
def oz_V6clsl_0 : List (Nat × Nat) := []
theorem oz_V6cls_5 : (oz_V6clsl_0).all (fun p => !tbz 0 (Nat.add (Nat.mul 32 p.1) p.2)) = true := by decide +kernel
def oz_V6clsl_1 : List Nat := []
theorem oz_V6cls_6 : (oz_V6clsl_1).all (fun p => !tbz 0 p) = true := by decide +kernel
theorem oz_V6cls_7 : okc oz_V6clsl_1 0 = true := by decide +kernel

theorem C26x {σE : rS} {D N : Nat → Nat} {F : hF} {A : hA} {d c s : Nat} {Q : wQ} (H : HW V26 σE D N F A) {a1 a2 : Int} (h0 : inr (a1)) (h1 : inr (a2)) (k : ∀ (z : Int) (σ : rS) (Fₚ : hF) (Aₚ : hA), HW V26 σ D N Fₚ Aₚ → OUT (V26).length D N σE c s D N σ c s → SF [] F Fₚ → SA [] A Aₚ → ((z) = 0 ∨ (z) = 1) → ((a1) = 3 ∧ ((z) = 1 ∧ andI ((a2)) (-62) = 64 ∨ (z) = 0 ∧ andI ((a2)) (-62) ≠ 64) ∨ (a1) ≠ 3 ∧ ((z) = 1 ∧ mlo ((a1)) ≤ (a2) ∧ (a2) ≤ mhi ((a1)) ∨ (z) = 0 ∧ ((a2) < mlo ((a1)) ∨ mhi ((a1)) < (a2)))) → Q (some (I z)) σ c s) : Ew 26 (d + 1) 0 (rargs 0 [I a1, I a2]) [] σE c s Q := by
  have O := OUT_refl (n := (V26).length) (D := D) (N := N) (σ := σE) (c := c) (s := s)
  have HE := H
  refine Ew_of (pcₚ := 1) (fun _ => x_iload_n rfl rfl) ?_
  by_cases b1 : a1 = 0
  · refine w_tsk 0 52 rfl (show inr (a1) from h0) (by omega) (by decide) rfl rfl ?_
    have hm : mlo ((a1)) = 0 ∧ mhi ((a1)) = 3 := by rw [show (a1) = (0 : Int) by omega]; decide
    refine Ew_of (pcₚ := 53) (fun _ => x_iload_n rfl rfl) ?_
    refine w_iflt (t := 65) rfl rfl (show inr (a2) from h1) (fun b2 => ?_) (fun b2 => ?_)
    · refine Ew_of (pcₚ := 66) (fun _ => x_iconst rfl) ?_
      exact w_ireturn rfl (k (0) _ _ _ H O (SF_refl) (SA_refl) (show (0) = 0 ∨ (0) = 1 by first | exact q_45 | omega) (show a1 = 3 ∧ ((0) = 1 ∧ andI (a2) (-62) = 64 ∨ (0) = 0 ∧ andI (a2) (-62) ≠ 64) ∨ a1 ≠ 3 ∧ ((0) = 1 ∧ mlo (a1) ≤ a2 ∧ a2 ≤ mhi (a1) ∨ (0) = 0 ∧ (a2 < mlo (a1) ∨ mhi (a1) < a2)) by first | exact q_4927 b1 b2 hm | omega))
    · refine Ew_of (pcₚ := 57) (fun _ => x_iload_n rfl rfl) ?_
      refine Ew_of (pcₚ := 58) (fun _ => x_iconst rfl) ?_
      refine w_icmpgt (t := 65) rfl rfl (show inr (a2) from h1) (show inr (3) from q_246) (fun b3 => ?_) (fun b3 => ?_)
      · refine Ew_of (pcₚ := 66) (fun _ => x_iconst rfl) ?_
        exact w_ireturn rfl (k (0) _ _ _ H O (SF_refl) (SA_refl) (show (0) = 0 ∨ (0) = 1 by first | exact q_45 | omega) (show a1 = 3 ∧ ((0) = 1 ∧ andI (a2) (-62) = 64 ∨ (0) = 0 ∧ andI (a2) (-62) ≠ 64) ∨ a1 ≠ 3 ∧ ((0) = 1 ∧ mlo (a1) ≤ a2 ∧ a2 ≤ mhi (a1) ∨ (0) = 0 ∧ (a2 < mlo (a1) ∨ mhi (a1) < a2)) by first | exact q_4928 b1 b3 hm | omega))
      · refine Ew_of (pcₚ := 62) (fun _ => x_iconst rfl) ?_
        refine Ew_of (pcₚ := 66) (fun _ => x_goto rfl rfl) ?_
        exact w_ireturn rfl (k (1) _ _ _ H O (SF_refl) (SA_refl) (show (1) = 0 ∨ (1) = 1 by first | exact q_49 | omega) (show a1 = 3 ∧ ((1) = 1 ∧ andI (a2) (-62) = 64 ∨ (1) = 0 ∧ andI (a2) (-62) ≠ 64) ∨ a1 ≠ 3 ∧ ((1) = 1 ∧ mlo (a1) ≤ a2 ∧ a2 ≤ mhi (a1) ∨ (1) = 0 ∧ (a2 < mlo (a1) ∨ mhi (a1) < a2)) by first | exact q_4929 b1 b2 b3 hm | omega))
  ·
    by_cases b4 : a1 = 1
    · refine w_tsk 1 67 rfl (show inr (a1) from h0) (by omega) (by decide) rfl rfl ?_
      have hm : mlo ((a1)) = 3 ∧ mhi ((a1)) = 8 := by rw [show (a1) = (1 : Int) by omega]; decide
      refine Ew_of (pcₚ := 68) (fun _ => x_iload_n rfl rfl) ?_
      refine Ew_of (pcₚ := 69) (fun _ => x_iconst rfl) ?_
      refine w_icmplt (t := 82) rfl rfl (show inr (a2) from h1) (show inr (3) from q_246) (fun b5 => ?_) (fun b5 => ?_)
      · refine Ew_of (pcₚ := 83) (fun _ => x_iconst rfl) ?_
        exact w_ireturn rfl (k (0) _ _ _ H O (SF_refl) (SA_refl) (show (0) = 0 ∨ (0) = 1 by first | exact q_45 | omega) (show a1 = 3 ∧ ((0) = 1 ∧ andI (a2) (-62) = 64 ∨ (0) = 0 ∧ andI (a2) (-62) ≠ 64) ∨ a1 ≠ 3 ∧ ((0) = 1 ∧ mlo (a1) ≤ a2 ∧ a2 ≤ mhi (a1) ∨ (0) = 0 ∧ (a2 < mlo (a1) ∨ mhi (a1) < a2)) by first | exact q_4930 b4 b5 hm | omega))
      · refine Ew_of (pcₚ := 73) (fun _ => x_iload_n rfl rfl) ?_
        refine Ew_of (pcₚ := 75) (fun _ => x_bipush (z := 8) rfl (by decide)) ?_
        refine w_icmpgt (t := 82) rfl rfl (show inr (a2) from h1) (show inr (8) from q_141) (fun b6 => ?_) (fun b6 => ?_)
        · refine Ew_of (pcₚ := 83) (fun _ => x_iconst rfl) ?_
          exact w_ireturn rfl (k (0) _ _ _ H O (SF_refl) (SA_refl) (show (0) = 0 ∨ (0) = 1 by first | exact q_45 | omega) (show a1 = 3 ∧ ((0) = 1 ∧ andI (a2) (-62) = 64 ∨ (0) = 0 ∧ andI (a2) (-62) ≠ 64) ∨ a1 ≠ 3 ∧ ((0) = 1 ∧ mlo (a1) ≤ a2 ∧ a2 ≤ mhi (a1) ∨ (0) = 0 ∧ (a2 < mlo (a1) ∨ mhi (a1) < a2)) by first | exact q_4931 b4 b6 hm | omega))
        · refine Ew_of (pcₚ := 79) (fun _ => x_iconst rfl) ?_
          refine Ew_of (pcₚ := 83) (fun _ => x_goto rfl rfl) ?_
          exact w_ireturn rfl (k (1) _ _ _ H O (SF_refl) (SA_refl) (show (1) = 0 ∨ (1) = 1 by first | exact q_49 | omega) (show a1 = 3 ∧ ((1) = 1 ∧ andI (a2) (-62) = 64 ∨ (1) = 0 ∧ andI (a2) (-62) ≠ 64) ∨ a1 ≠ 3 ∧ ((1) = 1 ∧ mlo (a1) ≤ a2 ∧ a2 ≤ mhi (a1) ∨ (1) = 0 ∧ (a2 < mlo (a1) ∨ mhi (a1) < a2)) by first | exact q_4932 b4 b5 b6 hm | omega))
    ·
      by_cases b7 : a1 = 2
      · refine w_tsk 2 84 rfl (show inr (a1) from h0) (by omega) (by decide) rfl rfl ?_
        have hm : mlo ((a1)) = 1 ∧ mhi ((a1)) = 65536 := by rw [show (a1) = (2 : Int) by omega]; decide
        refine Ew_of (pcₚ := 85) (fun _ => x_iload_n rfl rfl) ?_
        refine Ew_of (pcₚ := 86) (fun _ => x_iconst rfl) ?_
        refine w_icmplt (t := 99) rfl rfl (show inr (a2) from h1) (show inr (1) from q_135) (fun b8 => ?_) (fun b8 => ?_)
        · refine Ew_of (pcₚ := 100) (fun _ => x_iconst rfl) ?_
          exact w_ireturn rfl (k (0) _ _ _ H O (SF_refl) (SA_refl) (show (0) = 0 ∨ (0) = 1 by first | exact q_45 | omega) (show a1 = 3 ∧ ((0) = 1 ∧ andI (a2) (-62) = 64 ∨ (0) = 0 ∧ andI (a2) (-62) ≠ 64) ∨ a1 ≠ 3 ∧ ((0) = 1 ∧ mlo (a1) ≤ a2 ∧ a2 ≤ mhi (a1) ∨ (0) = 0 ∧ (a2 < mlo (a1) ∨ mhi (a1) < a2)) by first | exact q_4933 b7 b8 hm | omega))
        · refine Ew_of (pcₚ := 90) (fun _ => x_iload_n rfl rfl) ?_
          refine Ew_of (pcₚ := 92) (fun _ => x_ldc (z := 65536) rfl (by decide)) ?_
          refine w_icmpgt (t := 99) rfl rfl (show inr (a2) from h1) (show inr (65536) from q_52) (fun b9 => ?_) (fun b9 => ?_)
          · refine Ew_of (pcₚ := 100) (fun _ => x_iconst rfl) ?_
            exact w_ireturn rfl (k (0) _ _ _ H O (SF_refl) (SA_refl) (show (0) = 0 ∨ (0) = 1 by first | exact q_45 | omega) (show a1 = 3 ∧ ((0) = 1 ∧ andI (a2) (-62) = 64 ∨ (0) = 0 ∧ andI (a2) (-62) ≠ 64) ∨ a1 ≠ 3 ∧ ((0) = 1 ∧ mlo (a1) ≤ a2 ∧ a2 ≤ mhi (a1) ∨ (0) = 0 ∧ (a2 < mlo (a1) ∨ mhi (a1) < a2)) by first | exact q_4934 b7 b9 hm | omega))
          · refine Ew_of (pcₚ := 96) (fun _ => x_iconst rfl) ?_
            refine Ew_of (pcₚ := 100) (fun _ => x_goto rfl rfl) ?_
            exact w_ireturn rfl (k (1) _ _ _ H O (SF_refl) (SA_refl) (show (1) = 0 ∨ (1) = 1 by first | exact q_49 | omega) (show a1 = 3 ∧ ((1) = 1 ∧ andI (a2) (-62) = 64 ∨ (1) = 0 ∧ andI (a2) (-62) ≠ 64) ∨ a1 ≠ 3 ∧ ((1) = 1 ∧ mlo (a1) ≤ a2 ∧ a2 ≤ mhi (a1) ∨ (1) = 0 ∧ (a2 < mlo (a1) ∨ mhi (a1) < a2)) by first | exact q_4935 b7 b8 b9 hm | omega))
      ·
        by_cases b10 : a1 = 3
        · refine w_tsk 3 101 rfl (show inr (a1) from h0) (by omega) (by decide) rfl rfl ?_
          refine Ew_of (pcₚ := 102) (fun _ => x_iload_n rfl rfl) ?_
          refine w_stat24 rfl rfl (by rfl) (C213x (D := puc 0 D) (N := puc 0 N) (HW_subc H oz_V6cls_4 oz_V6cls_7) (show inr (a2) from h1) (fun z11 σ11 F11ₚ A11ₚ Hₚ Oₚ hS11 hA11 pz11_0 pz11_1 => ⟨rretB rfl pz11_0, ?_⟩))
          refine v_backc (c := c) (s := s) H oz_V6cls_4 oz_V6cls_7 Hₚ Oₚ (fun F11 A11 H Oₚ eF11 eA11 => ?_)
          have O := OUT_trans O Oₚ
          -- Tokens.areFlags
          have cF11 : SF oz_V6clsl_0 F F11 := SF_trans (SF_refl) (SF_gluc (ι := oz_V6clsl_1) oz_V6cls_7 hS11 eF11 (by decide +kernel)) (any_sub (lₚ := []) (by decide +kernel))
          have mF11 := SFm_of cF11 oz_V6cls_5
          have cA11 : SA oz_V6clsl_1 A A11 := SA_trans (SA_refl) (SA_gluc (ι := oz_V6clsl_1) oz_V6cls_7 hA11 eA11 (by decide +kernel)) (any_subA (lₚ := []) (by decide +kernel))
          have mA11 := SAm_of cA11 oz_V6cls_6
          exact w_ireturn rfl (k (z11) _ _ _ H O (cF11) (cA11) (show (z11) = 0 ∨ (z11) = 1 from pz11_0) (show a1 = 3 ∧ ((z11) = 1 ∧ andI (a2) (-62) = 64 ∨ (z11) = 0 ∧ andI (a2) (-62) ≠ 64) ∨ a1 ≠ 3 ∧ ((z11) = 1 ∧ mlo (a1) ≤ a2 ∧ a2 ≤ mhi (a1) ∨ (z11) = 0 ∧ (a2 < mlo (a1) ∨ mhi (a1) < a2)) from q_4936 b10 pz11_1))
        ·
          by_cases b12 : a1 = 4
          · refine w_tsk 4 106 rfl (show inr (a1) from h0) (by omega) (by decide) rfl rfl ?_
            have hm : mlo ((a1)) = 4 ∧ mhi ((a1)) = 7 := by rw [show (a1) = (4 : Int) by omega]; decide
            refine Ew_of (pcₚ := 107) (fun _ => x_iload_n rfl rfl) ?_
            refine Ew_of (pcₚ := 108) (fun _ => x_iconst rfl) ?_
            refine w_icmplt (t := 121) rfl rfl (show inr (a2) from h1) (show inr (4) from q_216) (fun b13 => ?_) (fun b13 => ?_)
            · refine Ew_of (pcₚ := 122) (fun _ => x_iconst rfl) ?_
              exact w_ireturn rfl (k (0) _ _ _ H O (SF_refl) (SA_refl) (show (0) = 0 ∨ (0) = 1 by first | exact q_45 | omega) (show a1 = 3 ∧ ((0) = 1 ∧ andI (a2) (-62) = 64 ∨ (0) = 0 ∧ andI (a2) (-62) ≠ 64) ∨ a1 ≠ 3 ∧ ((0) = 1 ∧ mlo (a1) ≤ a2 ∧ a2 ≤ mhi (a1) ∨ (0) = 0 ∧ (a2 < mlo (a1) ∨ mhi (a1) < a2)) by first | exact q_4937 b12 b13 hm | omega))
            · refine Ew_of (pcₚ := 112) (fun _ => x_iload_n rfl rfl) ?_
              refine Ew_of (pcₚ := 114) (fun _ => x_bipush (z := 7) rfl (by decide)) ?_
              refine w_icmpgt (t := 121) rfl rfl (show inr (a2) from h1) (show inr (7) from q_597) (fun b14 => ?_) (fun b14 => ?_)
              · refine Ew_of (pcₚ := 122) (fun _ => x_iconst rfl) ?_
                exact w_ireturn rfl (k (0) _ _ _ H O (SF_refl) (SA_refl) (show (0) = 0 ∨ (0) = 1 by first | exact q_45 | omega) (show a1 = 3 ∧ ((0) = 1 ∧ andI (a2) (-62) = 64 ∨ (0) = 0 ∧ andI (a2) (-62) ≠ 64) ∨ a1 ≠ 3 ∧ ((0) = 1 ∧ mlo (a1) ≤ a2 ∧ a2 ≤ mhi (a1) ∨ (0) = 0 ∧ (a2 < mlo (a1) ∨ mhi (a1) < a2)) by first | exact q_4938 b12 b14 hm | omega))
              · refine Ew_of (pcₚ := 118) (fun _ => x_iconst rfl) ?_
                refine Ew_of (pcₚ := 122) (fun _ => x_goto rfl rfl) ?_
                exact w_ireturn rfl (k (1) _ _ _ H O (SF_refl) (SA_refl) (show (1) = 0 ∨ (1) = 1 by first | exact q_49 | omega) (show a1 = 3 ∧ ((1) = 1 ∧ andI (a2) (-62) = 64 ∨ (1) = 0 ∧ andI (a2) (-62) ≠ 64) ∨ a1 ≠ 3 ∧ ((1) = 1 ∧ mlo (a1) ≤ a2 ∧ a2 ≤ mhi (a1) ∨ (1) = 0 ∧ (a2 < mlo (a1) ∨ mhi (a1) < a2)) by first | exact q_4939 b12 b13 b14 hm | omega))
          ·
            by_cases b15 : a1 = 5
            · refine w_tsk 5 172 rfl (show inr (a1) from h0) (by omega) (by decide) rfl rfl ?_
              have hm : mlo ((a1)) = -2147483648 ∧ mhi ((a1)) = 2147483647 := mlo_df (by omega)
              refine Ew_of (pcₚ := 173) (fun _ => x_iconst rfl) ?_
              exact w_ireturn rfl (k (1) _ _ _ H O (SF_refl) (SA_refl) (show (1) = 0 ∨ (1) = 1 by first | exact q_49 | omega) (show a1 = 3 ∧ ((1) = 1 ∧ andI (a2) (-62) = 64 ∨ (1) = 0 ∧ andI (a2) (-62) ≠ 64) ∨ a1 ≠ 3 ∧ ((1) = 1 ∧ mlo (a1) ≤ a2 ∧ a2 ≤ mhi (a1) ∨ (1) = 0 ∧ (a2 < mlo (a1) ∨ mhi (a1) < a2)) by first | exact q_4940 b15 h1 hm | omega))
            ·
              by_cases b16 : a1 = 6
              · refine w_tsk 6 123 rfl (show inr (a1) from h0) (by omega) (by decide) rfl rfl ?_
                have hm : mlo ((a1)) = 0 ∧ mhi ((a1)) = 255 := by rw [show (a1) = (6 : Int) by omega]; decide
                refine Ew_of (pcₚ := 124) (fun _ => x_iload_n rfl rfl) ?_
                refine w_iflt (t := 138) rfl rfl (show inr (a2) from h1) (fun b17 => ?_) (fun b17 => ?_)
                · refine Ew_of (pcₚ := 139) (fun _ => x_iconst rfl) ?_
                  exact w_ireturn rfl (k (0) _ _ _ H O (SF_refl) (SA_refl) (show (0) = 0 ∨ (0) = 1 by first | exact q_45 | omega) (show a1 = 3 ∧ ((0) = 1 ∧ andI (a2) (-62) = 64 ∨ (0) = 0 ∧ andI (a2) (-62) ≠ 64) ∨ a1 ≠ 3 ∧ ((0) = 1 ∧ mlo (a1) ≤ a2 ∧ a2 ≤ mhi (a1) ∨ (0) = 0 ∧ (a2 < mlo (a1) ∨ mhi (a1) < a2)) by first | exact q_4941 b16 b17 hm | omega))
                · refine Ew_of (pcₚ := 128) (fun _ => x_iload_n rfl rfl) ?_
                  refine Ew_of (pcₚ := 131) (fun _ => x_sipush (z := 255) rfl (by decide)) ?_
                  refine w_icmpgt (t := 138) rfl rfl (show inr (a2) from h1) (show inr (255) from q_297) (fun b18 => ?_) (fun b18 => ?_)
                  · refine Ew_of (pcₚ := 139) (fun _ => x_iconst rfl) ?_
                    exact w_ireturn rfl (k (0) _ _ _ H O (SF_refl) (SA_refl) (show (0) = 0 ∨ (0) = 1 by first | exact q_45 | omega) (show a1 = 3 ∧ ((0) = 1 ∧ andI (a2) (-62) = 64 ∨ (0) = 0 ∧ andI (a2) (-62) ≠ 64) ∨ a1 ≠ 3 ∧ ((0) = 1 ∧ mlo (a1) ≤ a2 ∧ a2 ≤ mhi (a1) ∨ (0) = 0 ∧ (a2 < mlo (a1) ∨ mhi (a1) < a2)) by first | exact q_4942 b16 b18 hm | omega))
                  · refine Ew_of (pcₚ := 135) (fun _ => x_iconst rfl) ?_
                    refine Ew_of (pcₚ := 139) (fun _ => x_goto rfl rfl) ?_
                    exact w_ireturn rfl (k (1) _ _ _ H O (SF_refl) (SA_refl) (show (1) = 0 ∨ (1) = 1 by first | exact q_49 | omega) (show a1 = 3 ∧ ((1) = 1 ∧ andI (a2) (-62) = 64 ∨ (1) = 0 ∧ andI (a2) (-62) ≠ 64) ∨ a1 ≠ 3 ∧ ((1) = 1 ∧ mlo (a1) ≤ a2 ∧ a2 ≤ mhi (a1) ∨ (1) = 0 ∧ (a2 < mlo (a1) ∨ mhi (a1) < a2)) by first | exact q_4943 b16 b17 b18 hm | omega))
              ·
                by_cases b19 : a1 = 7
                · refine w_tsk 7 140 rfl (show inr (a1) from h0) (by omega) (by decide) rfl rfl ?_
                  have hm : mlo ((a1)) = 0 ∧ mhi ((a1)) = 15 := by rw [show (a1) = (7 : Int) by omega]; decide
                  refine Ew_of (pcₚ := 141) (fun _ => x_iload_n rfl rfl) ?_
                  refine w_iflt (t := 154) rfl rfl (show inr (a2) from h1) (fun b20 => ?_) (fun b20 => ?_)
                  · refine Ew_of (pcₚ := 155) (fun _ => x_iconst rfl) ?_
                    exact w_ireturn rfl (k (0) _ _ _ H O (SF_refl) (SA_refl) (show (0) = 0 ∨ (0) = 1 by first | exact q_45 | omega) (show a1 = 3 ∧ ((0) = 1 ∧ andI (a2) (-62) = 64 ∨ (0) = 0 ∧ andI (a2) (-62) ≠ 64) ∨ a1 ≠ 3 ∧ ((0) = 1 ∧ mlo (a1) ≤ a2 ∧ a2 ≤ mhi (a1) ∨ (0) = 0 ∧ (a2 < mlo (a1) ∨ mhi (a1) < a2)) by first | exact q_4944 b19 b20 hm | omega))
                  · refine Ew_of (pcₚ := 145) (fun _ => x_iload_n rfl rfl) ?_
                    refine Ew_of (pcₚ := 147) (fun _ => x_bipush (z := 15) rfl (by decide)) ?_
                    refine w_icmpgt (t := 154) rfl rfl (show inr (a2) from h1) (show inr (15) from q_399) (fun b21 => ?_) (fun b21 => ?_)
                    · refine Ew_of (pcₚ := 155) (fun _ => x_iconst rfl) ?_
                      exact w_ireturn rfl (k (0) _ _ _ H O (SF_refl) (SA_refl) (show (0) = 0 ∨ (0) = 1 by first | exact q_45 | omega) (show a1 = 3 ∧ ((0) = 1 ∧ andI (a2) (-62) = 64 ∨ (0) = 0 ∧ andI (a2) (-62) ≠ 64) ∨ a1 ≠ 3 ∧ ((0) = 1 ∧ mlo (a1) ≤ a2 ∧ a2 ≤ mhi (a1) ∨ (0) = 0 ∧ (a2 < mlo (a1) ∨ mhi (a1) < a2)) by first | exact q_4945 b19 b21 hm | omega))
                    · refine Ew_of (pcₚ := 151) (fun _ => x_iconst rfl) ?_
                      refine Ew_of (pcₚ := 155) (fun _ => x_goto rfl rfl) ?_
                      exact w_ireturn rfl (k (1) _ _ _ H O (SF_refl) (SA_refl) (show (1) = 0 ∨ (1) = 1 by first | exact q_49 | omega) (show a1 = 3 ∧ ((1) = 1 ∧ andI (a2) (-62) = 64 ∨ (1) = 0 ∧ andI (a2) (-62) ≠ 64) ∨ a1 ≠ 3 ∧ ((1) = 1 ∧ mlo (a1) ≤ a2 ∧ a2 ≤ mhi (a1) ∨ (1) = 0 ∧ (a2 < mlo (a1) ∨ mhi (a1) < a2)) by first | exact q_4946 b19 b20 b21 hm | omega))
                ·
                  by_cases b22 : a1 = 8
                  · refine w_tsk 8 156 rfl (show inr (a1) from h0) (by omega) (by decide) rfl rfl ?_
                    have hm : mlo ((a1)) = 0 ∧ mhi ((a1)) = 11 := by rw [show (a1) = (8 : Int) by omega]; decide
                    refine Ew_of (pcₚ := 157) (fun _ => x_iload_n rfl rfl) ?_
                    refine w_iflt (t := 170) rfl rfl (show inr (a2) from h1) (fun b23 => ?_) (fun b23 => ?_)
                    · refine Ew_of (pcₚ := 171) (fun _ => x_iconst rfl) ?_
                      exact w_ireturn rfl (k (0) _ _ _ H O (SF_refl) (SA_refl) (show (0) = 0 ∨ (0) = 1 by first | exact q_45 | omega) (show a1 = 3 ∧ ((0) = 1 ∧ andI (a2) (-62) = 64 ∨ (0) = 0 ∧ andI (a2) (-62) ≠ 64) ∨ a1 ≠ 3 ∧ ((0) = 1 ∧ mlo (a1) ≤ a2 ∧ a2 ≤ mhi (a1) ∨ (0) = 0 ∧ (a2 < mlo (a1) ∨ mhi (a1) < a2)) by first | exact q_4947 b22 b23 hm | omega))
                    · refine Ew_of (pcₚ := 161) (fun _ => x_iload_n rfl rfl) ?_
                      refine Ew_of (pcₚ := 163) (fun _ => x_bipush (z := 11) rfl (by decide)) ?_
                      refine w_icmpgt (t := 170) rfl rfl (show inr (a2) from h1) (show inr (11) from q_326) (fun b24 => ?_) (fun b24 => ?_)
                      · refine Ew_of (pcₚ := 171) (fun _ => x_iconst rfl) ?_
                        exact w_ireturn rfl (k (0) _ _ _ H O (SF_refl) (SA_refl) (show (0) = 0 ∨ (0) = 1 by first | exact q_45 | omega) (show a1 = 3 ∧ ((0) = 1 ∧ andI (a2) (-62) = 64 ∨ (0) = 0 ∧ andI (a2) (-62) ≠ 64) ∨ a1 ≠ 3 ∧ ((0) = 1 ∧ mlo (a1) ≤ a2 ∧ a2 ≤ mhi (a1) ∨ (0) = 0 ∧ (a2 < mlo (a1) ∨ mhi (a1) < a2)) by first | exact q_4948 b22 b24 hm | omega))
                      · refine Ew_of (pcₚ := 167) (fun _ => x_iconst rfl) ?_
                        refine Ew_of (pcₚ := 171) (fun _ => x_goto rfl rfl) ?_
                        exact w_ireturn rfl (k (1) _ _ _ H O (SF_refl) (SA_refl) (show (1) = 0 ∨ (1) = 1 by first | exact q_49 | omega) (show a1 = 3 ∧ ((1) = 1 ∧ andI (a2) (-62) = 64 ∨ (1) = 0 ∧ andI (a2) (-62) ≠ 64) ∨ a1 ≠ 3 ∧ ((1) = 1 ∧ mlo (a1) ≤ a2 ∧ a2 ≤ mhi (a1) ∨ (1) = 0 ∧ (a2 < mlo (a1) ∨ mhi (a1) < a2)) by first | exact q_4949 b22 b23 b24 hm | omega))
                  ·
                    refine w_tsd 172 rfl (show inr (a1) from h0) (by omega) rfl ?_
                    have hm : mlo ((a1)) = -2147483648 ∧ mhi ((a1)) = 2147483647 := mlo_df (by omega)
                    refine Ew_of (pcₚ := 173) (fun _ => x_iconst rfl) ?_
                    exact w_ireturn rfl (k (1) _ _ _ H O (SF_refl) (SA_refl) (show (1) = 0 ∨ (1) = 1 by first | exact q_49 | omega) (show a1 = 3 ∧ ((1) = 1 ∧ andI (a2) (-62) = 64 ∨ (1) = 0 ∧ andI (a2) (-62) ≠ 64) ∨ a1 ≠ 3 ∧ ((1) = 1 ∧ mlo (a1) ≤ a2 ∧ a2 ≤ mhi (a1) ∨ (1) = 0 ∧ (a2 < mlo (a1) ∨ mhi (a1) < a2)) by omega))
theorem len_V9_oz_V6cls : (V9).length = 2 := by decide +kernel
theorem oz_V6cls_9 : vsub V9 V25 [] = true := by decide +kernel
theorem oz_V6cls_10 : vsub V9 V26 [] = true := by decide +kernel
def oz_V6clsl_2 : List Nat := [1]
theorem oz_V6cls_11 : (oz_V6clsl_2).all (fun p => !tbz 2 p) = true := by decide +kernel

theorem C9x {σE : rS} {D N : Nat → Nat} {F : hF} {A : hA} {d c s : Nat} {Q : wQ} (H : HW V9 σE D N F A) {a1 a2 : Int} (pf1 : HID (F 0 1 = (D 1 : Int))) (n1 : Int) (en1 : HID ((N 1 : Int) = n1)) (w1 : Int → Int) (ew1 : A 1 = w1) (h0 : inr (a1)) (h1 : inr (a2)) (h2 : SETI ((w1))) (h3 : (n1) = 10) (k : ∀ (z : Int) (σ : rS) (Fₚ : hF) (Aₚ : hA), HW V9 σ D N Fₚ Aₚ → OUT (V9).length D N σE c s D N σ c s → SF [] F Fₚ → SA [1] A Aₚ → ∀ v1 : Int → Int, Aₚ 1 = v1 → ((z) = 0 ∨ (z) = 1) → (SETI ((v1))) → ((a1) = 3 ∧ ((z) = 1 ∧ andI ((a2)) (-62) = 64 ∨ (z) = 0 ∧ andI ((a2)) (-62) ≠ 64) ∨ ((a1) < 0 ∨ 9 < (a1)) ∧ (z) = 0 ∨ 0 ≤ (a1) ∧ (a1) ≤ 9 ∧ (a1) ≠ 3 ∧ ((z) = 1 ∧ mlo ((a1)) ≤ (a2) ∧ (a2) ≤ mhi ((a1)) ∨ (z) = 0 ∧ ((a2) < mlo ((a1)) ∨ mhi ((a1)) < (a2)))) → (UPD ((z)) ((w1)) ((v1)) ((a1)) ((a2))) → Q (some (I z)) σ c s) : Ew 9 (d + 2) 0 (rargs 0 [.ref (D 0), I a1, I a2]) [] σE c s Q := by
  have O := OUT_refl (n := (V9).length) (D := D) (N := N) (σ := σE) (c := c) (s := s)
  have HE := H
  have r1 : HID ((0 : Int) ≤ n1 ∧ n1 ≤ 1000000) := nrng (H.nle 1 (ltn len_V9_oz_V6cls rfl)) (show (N 1 : Int) = n1 from en1)
  refine Ew_of (pcₚ := 1) (fun _ => x_iload_n rfl rfl) ?_
  refine w_stat24 rfl rfl (by rfl) (C25x (D := puc 0 D) (N := puc 0 N) (HW_subc H oz_V6cls_9 oz_V6cls_7) (show inr (a1) from h0) (fun z2 σ2 F2ₚ A2ₚ Hₚ Oₚ hS2 hA2 pz2_0 pz2_1 => ⟨rretB rfl pz2_0, ?_⟩))
  refine v_backc (c := c) (s := s) H oz_V6cls_9 oz_V6cls_7 Hₚ Oₚ (fun F2 A2 H Oₚ eF2 eA2 => ?_)
  have O := OUT_trans O Oₚ
  -- PackHouse.isSetting
  have cF2 : SF oz_V6clsl_0 F F2 := SF_trans (SF_refl) (SF_gluc (ι := oz_V6clsl_1) oz_V6cls_7 hS2 eF2 (by decide +kernel)) (any_sub (lₚ := []) (by decide +kernel))
  have mF2 := SFm_of cF2 oz_V6cls_5
  have cA2 : SA oz_V6clsl_2 A A2 := SA_trans (SA_refl) (SA_gluc (ι := oz_V6clsl_1) oz_V6cls_7 hA2 eA2 (by decide +kernel)) (any_subA (lₚ := []) (by decide +kernel))
  have mA2 := SAm_of cA2 oz_V6cls_11
  refine w_ifeq (t := 15) rfl rfl (show inr (z2) from q_138 pz2_0) (fun b3 => ?_) (fun b3 => ?_)
  · have hU : UPD 0 (w1) (w1) ((a1)) ((a2)) := .inr ⟨rfl, rfl⟩
    refine Ew_of (pcₚ := 16) (fun _ => x_iconst rfl) ?_
    exact w_ireturn rfl (k (0) _ _ _ H O (cF2) (cA2) (w1) (((show A2 1 = A 1 from (eA2 1))).trans (ew1)) (show (0) = 0 ∨ (0) = 1 by first | exact q_45 | omega) (h2) (show a1 = 3 ∧ ((0) = 1 ∧ andI (a2) (-62) = 64 ∨ (0) = 0 ∧ andI (a2) (-62) ≠ 64) ∨ (a1 < 0 ∨ 9 < a1) ∧ (0) = 0 ∨ 0 ≤ a1 ∧ a1 ≤ 9 ∧ a1 ≠ 3 ∧ ((0) = 1 ∧ mlo (a1) ≤ a2 ∧ a2 ≤ mhi (a1) ∨ (0) = 0 ∧ (a2 < mlo (a1) ∨ mhi (a1) < a2)) by omega) (hU))
  · refine Ew_of (pcₚ := 8) (fun _ => x_iload_n rfl rfl) ?_
    refine Ew_of (pcₚ := 9) (fun _ => x_iload_n rfl rfl) ?_
    refine w_stat24 rfl rfl (by rfl) (C26x (D := puc 0 D) (N := puc 0 N) (HW_subc H oz_V6cls_10 oz_V6cls_7) (show inr (a1) from h0) (show inr (a2) from h1) (fun z4 σ4 F4ₚ A4ₚ Hₚ Oₚ hS4 hA4 pz4_0 pz4_1 => ⟨rretB rfl pz4_0, ?_⟩))
    refine v_backc (c := c) (s := s) H oz_V6cls_10 oz_V6cls_7 Hₚ Oₚ (fun F4 A4 H Oₚ eF4 eA4 => ?_)
    have O := OUT_trans O Oₚ
    -- PackHouse.mayBe
    have cF4 : SF oz_V6clsl_0 F F4 := SF_trans (cF2) (SF_gluc (ι := oz_V6clsl_1) oz_V6cls_7 hS4 eF4 (by decide +kernel)) (any_sub (lₚ := []) (by decide +kernel))
    have mF4 := SFm_of cF4 oz_V6cls_5
    have cA4 : SA oz_V6clsl_2 A A4 := SA_trans (cA2) (SA_gluc (ι := oz_V6clsl_1) oz_V6cls_7 hA4 eA4 (by decide +kernel)) (any_subA (lₚ := []) (by decide +kernel))
    have mA4 := SAm_of cA4 oz_V6cls_11
    refine w_ifne (t := 17) rfl rfl (show inr (z4) from q_138 pz4_0) (fun b5 => ?_) (fun b5 => ?_)
    · refine Ew_of (pcₚ := 18) (fun _ => x_aload_n rfl rfl) ?_
      refine v_g H (o := 0) (v := .ref (D 1)) rfl rfl rfl rfl rfl (vrf ((mF4 0 1 rfl).trans (pf1))) ?_
      refine Ew_of (pcₚ := 22) (fun _ => x_iload_n rfl rfl) ?_
      refine Ew_of (pcₚ := 23) (fun _ => x_iload_n rfl rfl) ?_
      refine v_sI H (o := 1) (z := a2) rfl rfl rfl rfl (n := n1) (en1) (show 0 ≤ a1 ∧ a1 < n1 by have qh0 := HIDe r1; omega) (show inr (a2) from h1) (fun σ H Oₚ => ?_)
      have O := OUT_trans O Oₚ
      have cAu6 : SA oz_V6clsl_2 A (updA A4 1 (a1) (a2)) := SA_upd (cA4) rfl
      have mAu6 := SAm_of cAu6 oz_V6cls_11
      have : SETI ((upd1 (w1) (a1) (a2))) := SETI_upd (by assumption) (MBQ_of (by omega) (by omega))
      have hU : UPD 1 (w1) ((upd1 (w1) (a1) (a2))) ((a1)) ((a2)) := .inl ⟨rfl, rfl⟩
      refine Ew_of (pcₚ := 25) (fun _ => x_iconst rfl) ?_
      exact w_ireturn rfl (k (1) _ _ _ H O (cF4) (cAu6) (upd1 (w1) (a1) (a2)) (congrArg (fun q => upd1 q (a1) (a2)) (((show A4 1 = A2 1 from (eA4 1))).trans (((show A2 1 = A 1 from (eA2 1))).trans (ew1)))) (show (1) = 0 ∨ (1) = 1 by first | exact q_49 | omega) (show SETI ((upd1 (w1) (a1) (a2))) by assumption) (show a1 = 3 ∧ ((1) = 1 ∧ andI (a2) (-62) = 64 ∨ (1) = 0 ∧ andI (a2) (-62) ≠ 64) ∨ (a1 < 0 ∨ 9 < a1) ∧ (1) = 0 ∨ 0 ≤ a1 ∧ a1 ≤ 9 ∧ a1 ≠ 3 ∧ ((1) = 1 ∧ mlo (a1) ≤ a2 ∧ a2 ≤ mhi (a1) ∨ (1) = 0 ∧ (a2 < mlo (a1) ∨ mhi (a1) < a2)) by omega) (hU))
    · have hU : UPD 0 (w1) (w1) ((a1)) ((a2)) := .inr ⟨rfl, rfl⟩
      refine Ew_of (pcₚ := 16) (fun _ => x_iconst rfl) ?_
      exact w_ireturn rfl (k (0) _ _ _ H O (cF4) (cA4) (w1) (((show A4 1 = A2 1 from (eA4 1))).trans (((show A2 1 = A 1 from (eA2 1))).trans (ew1))) (show (0) = 0 ∨ (0) = 1 by first | exact q_45 | omega) (h2) (show a1 = 3 ∧ ((0) = 1 ∧ andI (a2) (-62) = 64 ∨ (0) = 0 ∧ andI (a2) (-62) ≠ 64) ∨ (a1 < 0 ∨ 9 < a1) ∧ (0) = 0 ∨ 0 ≤ a1 ∧ a1 ≤ 9 ∧ a1 ≠ 3 ∧ ((0) = 1 ∧ mlo (a1) ≤ a2 ∧ a2 ≤ mhi (a1) ∨ (0) = 0 ∧ (a2 < mlo (a1) ∨ mhi (a1) < a2)) by omega) (hU))
theorem len_V10_oz_V6cls : (V10).length = 2 := by decide +kernel
theorem oz_V6cls_13 : vsub V10 V25 [] = true := by decide +kernel

theorem C10x {σE : rS} {D N : Nat → Nat} {F : hF} {A : hA} {d c s : Nat} {Q : wQ} (H : HW V10 σE D N F A) {a1 : Int} (pf1 : HID (F 0 1 = (D 1 : Int))) (n1 : Int) (en1 : HID ((N 1 : Int) = n1)) (w1 : Int → Int) (ew1 : A 1 = w1) (h0 : inr (a1)) (h1 : (n1) = 10) (k : ∀ (z : Int) (σ : rS) (Fₚ : hF) (Aₚ : hA), HW V10 σ D N Fₚ Aₚ → OUT (V10).length D N σE c s D N σ c s → SF [] F Fₚ → SA [] A Aₚ → (inr (z)) → (0 ≤ (a1) ∧ (a1) ≤ 9 ∧ (z) = ((w1)) ((a1)) ∨ ((a1) < 0 ∨ 9 < (a1)) ∧ (z) = -1) → Q (some (I z)) σ c s) : Ew 10 (d + 1) 0 (rargs 0 [.ref (D 0), I a1]) [] σE c s Q := by
  have O := OUT_refl (n := (V10).length) (D := D) (N := N) (σ := σE) (c := c) (s := s)
  have HE := H
  have r1 : HID ((0 : Int) ≤ n1 ∧ n1 ≤ 1000000) := nrng (H.nle 1 (ltn len_V10_oz_V6cls rfl)) (show (N 1 : Int) = n1 from en1)
  refine Ew_of (pcₚ := 1) (fun _ => x_iload_n rfl rfl) ?_
  refine w_stat24 rfl rfl (by rfl) (C25x (D := puc 0 D) (N := puc 0 N) (HW_subc H oz_V6cls_13 oz_V6cls_7) (show inr (a1) from h0) (fun z2 σ2 F2ₚ A2ₚ Hₚ Oₚ hS2 hA2 pz2_0 pz2_1 => ⟨rretB rfl pz2_0, ?_⟩))
  refine v_backc (c := c) (s := s) H oz_V6cls_13 oz_V6cls_7 Hₚ Oₚ (fun F2 A2 H Oₚ eF2 eA2 => ?_)
  have O := OUT_trans O Oₚ
  -- PackHouse.isSetting
  have cF2 : SF oz_V6clsl_0 F F2 := SF_trans (SF_refl) (SF_gluc (ι := oz_V6clsl_1) oz_V6cls_7 hS2 eF2 (by decide +kernel)) (any_sub (lₚ := []) (by decide +kernel))
  have mF2 := SFm_of cF2 oz_V6cls_5
  have cA2 : SA oz_V6clsl_1 A A2 := SA_trans (SA_refl) (SA_gluc (ι := oz_V6clsl_1) oz_V6cls_7 hA2 eA2 (by decide +kernel)) (any_subA (lₚ := []) (by decide +kernel))
  have mA2 := SAm_of cA2 oz_V6cls_6
  refine w_ifeq (t := 16) rfl rfl (show inr (z2) from q_138 pz2_0) (fun b3 => ?_) (fun b3 => ?_)
  · refine Ew_of (pcₚ := 17) (fun _ => x_iconst rfl) ?_
    exact w_ireturn rfl (k ((-1)) _ _ _ H O (cF2) (cA2) (show inr ((-1)) from q_63) (show 0 ≤ a1 ∧ a1 ≤ 9 ∧ ((-1)) = ((w1)) (a1) ∨ (a1 < 0 ∨ 9 < a1) ∧ ((-1)) = -1 by omega))
  · refine Ew_of (pcₚ := 8) (fun _ => x_aload_n rfl rfl) ?_
    refine v_g H (o := 0) (v := .ref (D 1)) rfl rfl rfl rfl rfl (vrf ((mF2 0 1 rfl).trans (pf1))) ?_
    refine Ew_of (pcₚ := 12) (fun _ => x_iload_n rfl rfl) ?_
    refine v_lI H (o := 1) rfl rfl rfl rfl (n := n1) (en1) (show 0 ≤ a1 ∧ a1 < n1 by have qh0 := HIDe r1; omega) (fun v4 ev4 (qv4 : HID _) => ?_)
    have ev4 : (w1) (a1) = v4 := (congrFun ((funext (mA2 1 rfl)).trans (ew1)) (a1)).symm.trans ev4
    refine Ew_of (pcₚ := 17) (fun _ => x_goto rfl rfl) ?_
    exact w_ireturn rfl (k (v4) _ _ _ H O (cF2) (cA2) (show inr (v4) from (HIDe qv4)) (show 0 ≤ a1 ∧ a1 ≤ 9 ∧ (v4) = ((w1)) (a1) ∨ (a1 < 0 ∨ 9 < a1) ∧ (v4) = -1 by have qh0 := HIDe qv4; omega))
theorem len_V132_Ir_oz_V6cls : (V132_Ir).length = 1 := by decide +kernel

theorem C132_Irx {σE : rS} {D N : Nat → Nat} {F : hF} {A : hA} {d c s : Nat} {Q : wQ} (H : HW V132_Ir σE D N F A) {a2 : Int} (n0 : Int) (en0 : HID ((N 0 : Int) = n0)) (w0 : Int → Int) (ew0 : A 0 = w0) (h0 : inr (a2)) (h1 : (n0) = 10) (h2 : 0 ≤ ((w0)) 8 ∧ ((w0)) 8 ≤ 11) (h3 : 0 ≤ (a2) ∧ (a2) ≤ 16384) (k : ∀ (z : Int) (σ : rS) (Fₚ : hF) (Aₚ : hA), HW V132_Ir σ D N Fₚ Aₚ → OUT (V132_Ir).length D N σE c s D N σ c s → SF [] F Fₚ → SA [] A Aₚ → (inr (z)) → (0 ≤ (z) ∧ (z) ≤ 2097152) → ((z) = WND ((w0)) ((a2))) → ((a2) = 0 ∨ 1 ≤ (z)) → Q (some (I z)) σ c s) : Ew 132 (d + 0) 0 (rargs 0 [.ref (D 0), I a2]) [] σE c s Q := by
  have O := OUT_refl (n := (V132_Ir).length) (D := D) (N := N) (σ := σE) (c := c) (s := s)
  have HE := H
  have r1 : HID ((0 : Int) ≤ n0 ∧ n0 ≤ 1000000) := nrng (H.nle 0 (ltn len_V132_Ir_oz_V6cls rfl)) (show (N 0 : Int) = n0 from en0)
  refine Ew_of (pcₚ := 1) (fun _ => x_aload_n rfl rfl) ?_
  refine Ew_of (pcₚ := 3) (fun _ => x_bipush (z := 7) rfl (by decide)) ?_
  refine v_lI H (o := 0) rfl rfl rfl rfl (n := n0) (en0) (show 0 ≤ 7 ∧ 7 < n0 from q_4957 (HIDe r1) h1) (fun v2 ev2 (qv2 : HID _) => ?_)
  have ev2 : (w0) (7) = v2 := (congrFun (ew0) (7)).symm.trans ev2
  refine Ew_of (pcₚ := 5) (fun _ => x_iconst rfl) ?_
  have hw7 := ev2
  refine w_iandE rfl (show inr (v2) from (HIDe qv2)) (show inr (4) from q_216) (fun z3 gz3 gaz3 gbz3 gez3 => ?_)
  refine w_ifeq (t := 13) rfl rfl (show inr (z3) from gz3) (fun b4 => ?_) (fun b4 => ?_)
  · refine Ew_of (pcₚ := 14) (fun _ => x_iconst rfl) ?_
    refine Ew_of (pcₚ := 16) (fun _ => x_bipush (z := 10) rfl (by decide)) ?_
    refine Ew_of (pcₚ := 17) (fun _ => x_aload_n rfl rfl) ?_
    refine Ew_of (pcₚ := 19) (fun _ => x_bipush (z := 8) rfl (by decide)) ?_
    refine v_lI H (o := 0) rfl rfl rfl rfl (n := n0) (en0) (show 0 ≤ 8 ∧ 8 < n0 from q_4958 (HIDe r1) h1) (fun v5 ev5 (qv5 : HID _) => ?_)
    have ev5 : (w0) (8) = v5 := (congrFun (ew0) (8)).symm.trans ev5
    have hw8 := ev5
    refine w_iadd rfl ?_
    have hpw : p2 (((10 + v5))) ≤ p2 21 := p2_mono (by (have qg0 := HIDe qv5; omega))
    have hp21 : p2 21 = 2097152 := by decide
    have hpp := p2_pos (((10 + v5)))
    refine w_ishl1 rfl (show 0 ≤ (10 + v5) ∧ (10 + v5) ≤ 31 from q_4238 ev5 h2) ?_
    have hWN : ((p2 ((10 + v5))) : Int) = WND ((w0)) ((a2)) := by unfold WND; rw [hw7]; first | (rw [if_pos (by (have qg0 := HIDe qv5; omega)), hw8]) | (rw [if_neg (by (have qg0 := HIDe qv5; omega))])
    exact w_ireturn rfl (k (p2 ((10 + v5))) _ _ _ H O (SF_refl) (SA_refl) (show inr (p2 ((10 + v5))) by have qh0 := HIDe qv5; omega) (show 0 ≤ (p2 ((10 + v5))) ∧ (p2 ((10 + v5))) ≤ 2097152 by have qh0 := HIDe qv5; omega) (show (p2 ((10 + v5))) = WND ((w0)) (a2) by have qh0 := HIDe qv5; omega) (show a2 = 0 ∨ 1 ≤ (p2 ((10 + v5))) by have qh0 := HIDe qv5; omega))
  · refine Ew_of (pcₚ := 10) (fun _ => x_iload_n rfl rfl) ?_
    refine Ew_of (pcₚ := 22) (fun _ => x_goto rfl rfl) ?_
    have hWN : ((a2) : Int) = WND ((w0)) ((a2)) := by unfold WND; rw [hw7]; first | (rw [if_pos (by omega), hw8]) | (rw [if_neg (by omega)])
    exact w_ireturn rfl (k (a2) _ _ _ H O (SF_refl) (SA_refl) (show inr (a2) from h0) (show 0 ≤ (a2) ∧ (a2) ≤ 2097152 from q_4239 h3) (show (a2) = WND ((w0)) (a2) from hWN) (show a2 = 0 ∨ 1 ≤ (a2) by omega))
theorem len_V133_Ir_oz_V6cls : (V133_Ir).length = 1 := by decide +kernel
theorem oz_V6cls_39 : vsub V133_Ir V132_Ir [0] = true := by decide +kernel
def oz_V6clsl_13 : List Nat := [0]
theorem oz_V6cls_40 : okc oz_V6clsl_13 0 = true := by decide +kernel

theorem C133_Irx {σE : rS} {D N : Nat → Nat} {F : hF} {A : hA} {d c s : Nat} {Q : wQ} (H : HW V133_Ir σE D N F A) {a2 : Int} (n0 : Int) (en0 : HID ((N 0 : Int) = n0)) (w0 : Int → Int) (ew0 : A 0 = w0) (h0 : inr (a2)) (h1 : (n0) = 10) (h2 : 0 ≤ ((w0)) 8 ∧ ((w0)) 8 ≤ 11) (h3 : 1 ≤ ((w0)) 2 ∧ ((w0)) 2 ≤ 65536) (h4 : 0 ≤ (a2) ∧ (a2) ≤ 16384) (k : ∀ (z : Int) (σ : rS) (Fₚ : hF) (Aₚ : hA), HW V133_Ir σ D N Fₚ Aₚ → OUT (V133_Ir).length D N σE c s D N σ c s → SF [] F Fₚ → SA [] A Aₚ → (inr (z)) → (1 ≤ (z) ∧ (z) ≤ 65536) → ((a2) = 0 ∨ (z) = SMN (WND ((w0)) ((a2))) (((w0)) 2)) → Q (some (I z)) σ c s) : Ew 133 (d + 1) 0 (rargs 0 [.ref (D 0), I a2]) [] σE c s Q := by
  have O := OUT_refl (n := (V133_Ir).length) (D := D) (N := N) (σ := σE) (c := c) (s := s)
  have HE := H
  have r1 : HID ((0 : Int) ≤ n0 ∧ n0 ≤ 1000000) := nrng (H.nle 0 (ltn len_V133_Ir_oz_V6cls rfl)) (show (N 0 : Int) = n0 from en0)
  refine Ew_of (pcₚ := 2) (fun _ => x_ldc (z := 131072) rfl (by decide)) ?_
  refine Ew_of (pcₚ := 3) (fun _ => x_aload_n rfl rfl) ?_
  refine Ew_of (pcₚ := 4) (fun _ => x_iload_n rfl rfl) ?_
  refine w_stat24 rfl rfl (by rfl) (C132_Irx (D := puc 0 D) (N := puc 0 N) (HW_subc H oz_V6cls_39 oz_V6cls_40) (n0) (en0) (w0) (ew0) (show inr (a2) from h0) (show (n0) = 10 from h1) (show 0 ≤ ((w0)) 8 ∧ ((w0)) 8 ≤ 11 from h2) (show 0 ≤ (a2) ∧ (a2) ≤ 16384 from h4) (fun z2 σ2 F2ₚ A2ₚ Hₚ Oₚ hS2 hA2 pz2_0 pz2_1 pz2_2 pz2_3 => ⟨rfl, ?_⟩))
  refine v_backc (c := c) (s := s) H oz_V6cls_39 oz_V6cls_40 Hₚ Oₚ (fun F2 A2 H Oₚ eF2 eA2 => ?_)
  have O := OUT_trans O Oₚ
  -- Packer.windowFor
  have cF2 : SF oz_V6clsl_0 F F2 := SF_trans (SF_refl) (SF_gluc (ι := oz_V6clsl_13) oz_V6cls_40 hS2 eF2 (by decide +kernel)) (any_sub (lₚ := []) (by decide +kernel))
  have mF2 := SFm_of cF2 oz_V6cls_5
  have cA2 : SA oz_V6clsl_1 A A2 := SA_trans (SA_refl) (SA_gluc (ι := oz_V6clsl_13) oz_V6cls_40 hA2 eA2 (by decide +kernel)) (any_subA (lₚ := []) (by decide +kernel))
  have mA2 := SAm_of cA2 oz_V6cls_6
  refine v_min rfl rfl (show inr (131072) from q_1877) (show inr (z2) from pz2_0) (fun z3 gz3 => ?_)
  refine Ew_of (pcₚ := 11) (fun _ => x_istore_n rfl) ?_
  refine Ew_of (pcₚ := 12) (fun _ => x_iconst rfl) ?_
  refine Ew_of (pcₚ := 13) (fun _ => x_aload_n rfl (rk_o (rfl) rfl rfl)) ?_
  refine Ew_of (pcₚ := 14) (fun _ => x_iconst rfl) ?_
  refine v_lI H (o := 0) rfl rfl rfl rfl (n := n0) (en0) (show 0 ≤ 2 ∧ 2 < n0 from q_4827 (HIDe r1) h1) (fun v4 ev4 (qv4 : HID _) => ?_)
  have ev4 : (w0) (2) = v4 := (congrFun ((funext (mA2 0 rfl)).trans (ew0)) (2)).symm.trans ev4
  refine Ew_of (pcₚ := 16) (fun _ => x_iload_n rfl rk_s) ?_
  refine v_min rfl rfl (show inr (v4) from (HIDe qv4)) (show inr (z3) from q_4240 gz3 pz2_1) (fun z5 gz5 => ?_)
  refine v_max rfl rfl (show inr (1) from q_135) (show inr (z5) from q_4959 (HIDe qv4) gz3 gz5 pz2_1) (fun z6 gz6 => ?_)
  have hSM : (a2) = 0 ∨ ((z6) : Int) = SMN (WND ((w0)) ((a2))) (((w0)) 2) := by unfold SMN; by_cases q : WND ((w0)) ((a2)) < ((w0)) 2; (rw [if_pos q]; omega); (rw [if_neg q]; omega)
  exact w_ireturn rfl (k (z6) _ _ _ H O (cF2) (cA2) (show inr (z6) from q_4961 (HIDe qv4) gz5 gz6 hSM) (show 1 ≤ (z6) ∧ (z6) ≤ 65536 from q_4960 ev4 gz5 gz6 h3 hSM) (show a2 = 0 ∨ (z6) = SMN (WND ((w0)) (a2)) (((w0)) 2) from hSM))
theorem len_V34_oz_V6cls : (V34).length = 2 := by decide +kernel
theorem oz_V6cls_42 : vsub V34 V133_Ir [1] = true := by decide +kernel
theorem oz_V6cls_43 : okc oz_V6clsl_2 1 = true := by decide +kernel

theorem C34x {σE : rS} {D N : Nat → Nat} {F : hF} {A : hA} {d c s : Nat} {Q : wQ} (H : HW V34 σE D N F A) {a1 a2 : Int} (pf1 : HID (F 0 1 = (D 1 : Int))) (n1 : Int) (en1 : HID ((N 1 : Int) = n1)) (w1 : Int → Int) (ew1 : A 1 = w1) (h0 : inr (a1)) (h1 : inr (a2)) (h2 : 0 ≤ (a2) ∧ (a2) ≤ 16384) (h3 : 0 ≤ (a1) ∧ (a1) ≤ 5) (h4 : 1 ≤ ((w1)) 2 ∧ ((w1)) 2 ≤ 65536) (h5 : 0 ≤ ((w1)) 8 ∧ ((w1)) 8 ≤ 11) (h6 : 0 ≤ ((w1)) 6 ∧ ((w1)) 6 ≤ 255) (h7 : (n1) = 10) (k : ∀ (z : Int) (σ : rS) (Fₚ : hF) (Aₚ : hA), HW V34 σ D N Fₚ Aₚ → OUT (V34).length D N σE c s D N σ c s → SF [] F Fₚ → SA [] A Aₚ → (inr (z)) → ((z) = BND ((w1)) ((a1)) ((a2))) → Q (some (I z)) σ c s) : Ew 34 (d + 2) 0 (rargs 0 [.ref (D 0), I a1, I a2]) [] σE c s Q := by
  have O := OUT_refl (n := (V34).length) (D := D) (N := N) (σ := σE) (c := c) (s := s)
  have HE := H
  have r1 : HID ((0 : Int) ≤ n1 ∧ n1 ≤ 1000000) := nrng (H.nle 1 (ltn len_V34_oz_V6cls rfl)) (show (N 1 : Int) = n1 from en1)
  refine Ew_of (pcₚ := 1) (fun _ => x_iload_n rfl rfl) ?_
  refine Ew_of (pcₚ := 2) (fun _ => x_aload_n rfl rfl) ?_
  refine v_g H (o := 0) (v := .ref (D 1)) rfl rfl rfl rfl rfl (vrf (pf1)) ?_
  refine Ew_of (pcₚ := 6) (fun _ => x_iconst rfl) ?_
  refine v_lI H (o := 1) rfl rfl rfl rfl (n := n1) (en1) (show 0 ≤ 2 ∧ 2 < n1 from q_4827 (HIDe r1) h7) (fun v2 ev2 (qv2 : HID _) => ?_)
  have ev2 : (w1) (2) = v2 := (congrFun (ew1) (2)).symm.trans ev2
  refine w_iadd rfl ?_
  refine Ew_of (pcₚ := 9) (fun _ => x_iconst rfl) ?_
  refine w_isub rfl ?_
  refine Ew_of (pcₚ := 11) (fun _ => x_aload_n rfl rfl) ?_
  refine v_g H (o := 0) (v := .ref (D 1)) rfl rfl rfl rfl rfl (vrf (pf1)) ?_
  refine Ew_of (pcₚ := 15) (fun _ => x_iconst rfl) ?_
  refine v_lI H (o := 1) rfl rfl rfl rfl (n := n1) (en1) (show 0 ≤ 2 ∧ 2 < n1 from q_4827 (HIDe r1) h7) (fun v3 ev3 (qv3 : HID _) => ?_)
  have ev3 : (w1) (2) = v3 := (congrFun (ew1) (2)).symm.trans ev3
  refine w_idiv rfl (show inr (((a2 + v2) - 1)) ∧ 0 ≤ ((a2 + v2) - 1) from q_4829 ev2 h2 h4) (show inr (v3) ∧ 0 < v3 from q_4828 (HIDe qv3) ev3 h4) ?_
  have hRW : (((((a2 + v2) - 1) / v3)) : Int) = RW (((w1)) 2) ((a2)) := by unfold RW; congr 1 <;> (have qg0 := HIDe qv2; have qg1 := HIDe qv3; omega)
  have hrl := RW_le (c := ((w1)) 2) (n := (a2)) (by omega) (by omega)
  refine Ew_of (pcₚ := 18) (fun _ => x_istore_n rfl) ?_
  refine Ew_of (pcₚ := 19) (fun _ => x_iload_n rfl (rk_o (rfl) rfl rfl)) ?_
  by_cases b4 : a1 = 0
  · refine w_tsk 0 52 rfl (show inr (a1) from h0) (by omega) (by decide) rfl rfl ?_
    refine Ew_of (pcₚ := 53) (fun _ => x_iload_n rfl (rk_o (rfl) rfl rfl)) ?_
    refine Ew_of (pcₚ := 54) (fun _ => x_iload_n rfl (rk_o (rfl) rfl rfl)) ?_
    refine Ew_of (pcₚ := 57) (fun _ => x_sipush (z := 255) rfl (by decide)) ?_
    refine w_idiv rfl (show inr (a2) ∧ 0 ≤ a2 from q_4830 h1 h2) (show inr (255) ∧ 0 < 255 from q_2348) ?_
    refine w_iadd rfl ?_
    refine Ew_of (pcₚ := 61) (fun _ => x_bipush (z := 16) rfl (by decide)) ?_
    refine w_iadd rfl ?_
    have hBN : ((((a2 + (a2 / 255)) + 16)) : Int) = BND ((w1)) ((a1)) ((a2)) := BND_0 (by omega)
    exact w_ireturn rfl (k (((a2 + (a2 / 255)) + 16)) _ _ _ H O (SF_refl) (SA_refl) (show inr (((a2 + (a2 / 255)) + 16)) from q_4831 h2) (show (((a2 + (a2 / 255)) + 16)) = BND ((w1)) (a1) (a2) from hBN))
  ·
    by_cases b5 : a1 = 1
    · refine w_tsk 1 63 rfl (show inr (a1) from h0) (by omega) (by decide) rfl rfl ?_
      refine Ew_of (pcₚ := 65) (fun _ => x_bipush (z := 27) rfl (by decide)) ?_
      refine Ew_of (pcₚ := 67) (fun _ => x_bipush (z := 8) rfl (by decide)) ?_
      refine Ew_of (pcₚ := 68) (fun _ => x_iload_n rfl rk_s) ?_
      refine w_imul rfl ?_
      refine w_iadd rfl ?_
      refine Ew_of (pcₚ := 71) (fun _ => x_iload_n rfl (rk_o (rfl) rfl rfl)) ?_
      refine w_iadd rfl ?_
      have hBN : ((((27 + (8 * (((a2 + v2) - 1) / v3))) + a2)) : Int) = BND ((w1)) ((a1)) ((a2)) := BND_1 (by (have qg0 := HIDe qv2; have qg1 := HIDe qv3; omega)) (by assumption)
      exact w_ireturn rfl (k (((27 + (8 * (((a2 + v2) - 1) / v3))) + a2)) _ _ _ H O (SF_refl) (SA_refl) (show inr (((27 + (8 * (((a2 + v2) - 1) / v3))) + a2)) by have qh0 := HIDe qv2; have qh1 := HIDe qv3; omega) (show (((27 + (8 * (((a2 + v2) - 1) / v3))) + a2)) = BND ((w1)) (a1) (a2) from hBN))
    ·
      by_cases b6 : a1 = 2
      · refine w_tsk 2 73 rfl (show inr (a1) from h0) (by omega) (by decide) rfl rfl ?_
        refine Ew_of (pcₚ := 75) (fun _ => x_bipush (z := 32) rfl (by decide)) ?_
        refine Ew_of (pcₚ := 76) (fun _ => x_iload_n rfl (rk_o (rfl) rfl rfl)) ?_
        refine w_iadd rfl ?_
        refine Ew_of (pcₚ := 78) (fun _ => x_iload_n rfl (rk_o (rfl) rfl rfl)) ?_
        refine Ew_of (pcₚ := 80) (fun _ => x_bipush (z := 6) rfl (by decide)) ?_
        refine w_idiv rfl (show inr (a2) ∧ 0 ≤ a2 from q_4830 h1 h2) (show inr (6) ∧ 0 < 6 from q_2352) ?_
        refine w_iadd rfl ?_
        have hBN : ((((32 + a2) + (a2 / 6))) : Int) = BND ((w1)) ((a1)) ((a2)) := BND_2 (by omega)
        exact w_ireturn rfl (k (((32 + a2) + (a2 / 6))) _ _ _ H O (SF_refl) (SA_refl) (show inr (((32 + a2) + (a2 / 6))) from q_4832 h2) (show (((32 + a2) + (a2 / 6))) = BND ((w1)) (a1) (a2) from hBN))
      ·
        by_cases b7 : a1 = 3
        · refine w_tsk 3 83 rfl (show inr (a1) from h0) (by omega) (by decide) rfl rfl ?_
          refine Ew_of (pcₚ := 85) (fun _ => x_bipush (z := 10) rfl (by decide)) ?_
          refine Ew_of (pcₚ := 86) (fun _ => x_iload_n rfl (rk_o (rfl) rfl rfl)) ?_
          refine w_iadd rfl ?_
          refine Ew_of (pcₚ := 89) (fun _ => x_bipush (z := 8) rfl (by decide)) ?_
          refine Ew_of (pcₚ := 90) (fun _ => x_iload_n rfl rk_s) ?_
          refine w_imul rfl ?_
          refine w_iadd rfl ?_
          refine Ew_of (pcₚ := 93) (fun _ => x_aload_n rfl (rk_o (rfl) rfl rfl)) ?_
          refine v_g H (o := 0) (v := .ref (D 1)) rfl rfl rfl rfl rfl (vrf (pf1)) ?_
          refine Ew_of (pcₚ := 98) (fun _ => x_bipush (z := 6) rfl (by decide)) ?_
          refine v_lI H (o := 1) rfl rfl rfl rfl (n := n1) (en1) (show 0 ≤ 6 ∧ 6 < n1 from q_4833 (HIDe r1) h7) (fun v8 ev8 (qv8 : HID _) => ?_)
          have ev8 : (w1) (6) = v8 := (congrFun (ew1) (6)).symm.trans ev8
          refine w_ifle (t := 116) rfl rfl (show inr (v8) from (HIDe qv8)) (fun b9 => ?_) (fun b9 => ?_)
          · refine Ew_of (pcₚ := 117) (fun _ => x_iconst rfl) ?_
            refine w_iadd rfl ?_
            have hBN : (((((10 + a2) + (8 * (((a2 + v2) - 1) / v3))) + 0)) : Int) = BND ((w1)) ((a1)) ((a2)) := BND_3 (by (have qg0 := HIDe qv2; have qg1 := HIDe qv3; omega)) (by assumption) (by first | exact .inl ⟨by (have qg0 := HIDe qv2; have qg1 := HIDe qv3; omega), by congr 1; (have qg0 := HIDe qv2; have qg1 := HIDe qv3; omega)⟩ | exact .inr ⟨by (have qg0 := HIDe qv2; have qg1 := HIDe qv3; omega), rfl⟩)
            exact w_ireturn rfl (k ((((10 + a2) + (8 * (((a2 + v2) - 1) / v3))) + 0)) _ _ _ H O (SF_refl) (SA_refl) (show inr ((((10 + a2) + (8 * (((a2 + v2) - 1) / v3))) + 0)) by have qh0 := HIDe qv2; have qh1 := HIDe qv3; omega) (show ((((10 + a2) + (8 * (((a2 + v2) - 1) / v3))) + 0)) = BND ((w1)) (a1) (a2) from hBN))
          · refine Ew_of (pcₚ := 103) (fun _ => x_iload_n rfl rk_s) ?_
            refine Ew_of (pcₚ := 104) (fun _ => x_iconst rfl) ?_
            refine Ew_of (pcₚ := 105) (fun _ => x_aload_n rfl (rk_o (rfl) rfl rfl)) ?_
            refine v_g H (o := 0) (v := .ref (D 1)) rfl rfl rfl rfl rfl (vrf (pf1)) ?_
            refine Ew_of (pcₚ := 110) (fun _ => x_bipush (z := 6) rfl (by decide)) ?_
            refine v_lI H (o := 1) rfl rfl rfl rfl (n := n1) (en1) (show 0 ≤ 6 ∧ 6 < n1 from q_4833 (HIDe r1) h7) (fun v10 ev10 (qv10 : HID _) => ?_)
            have ev10 : (w1) (6) = v10 := (congrFun (ew1) (6)).symm.trans ev10
            refine w_iadd rfl ?_
            have hm := RWm (r := (((((a2 + v2) - 1) / v3)) : Int)) (x := (((4 + v10)) : Int)) (n := (a2)) (by rw [hRW]; exact hrl) (by (have qg0 := HIDe qv10; have qg1 := HIDe qv2; have qg2 := HIDe qv3; omega)) (by (have qg0 := HIDe qv10; have qg1 := HIDe qv2; have qg2 := HIDe qv3; omega))
            refine w_imul rfl ?_
            refine Ew_of (pcₚ := 117) (fun _ => x_goto rfl rfl) ?_
            refine w_iadd rfl ?_
            have hBN : (((((10 + a2) + (8 * (((a2 + v2) - 1) / v3))) + ((((a2 + v2) - 1) / v3) * (4 + v10)))) : Int) = BND ((w1)) ((a1)) ((a2)) := BND_3 (by (have qg0 := HIDe qv10; have qg1 := HIDe qv2; have qg2 := HIDe qv3; omega)) (by assumption) (by first | exact .inl ⟨by (have qg0 := HIDe qv10; have qg1 := HIDe qv2; have qg2 := HIDe qv3; omega), by congr 1; (have qg0 := HIDe qv10; have qg1 := HIDe qv2; have qg2 := HIDe qv3; omega)⟩ | exact .inr ⟨by (have qg0 := HIDe qv10; have qg1 := HIDe qv2; have qg2 := HIDe qv3; omega), rfl⟩)
            exact w_ireturn rfl (k ((((10 + a2) + (8 * (((a2 + v2) - 1) / v3))) + ((((a2 + v2) - 1) / v3) * (4 + v10)))) _ _ _ H O (SF_refl) (SA_refl) (show inr ((((10 + a2) + (8 * (((a2 + v2) - 1) / v3))) + ((((a2 + v2) - 1) / v3) * (4 + v10)))) by have qh0 := HIDe qv10; have qh1 := HIDe qv2; have qh2 := HIDe qv3; omega) (show ((((10 + a2) + (8 * (((a2 + v2) - 1) / v3))) + ((((a2 + v2) - 1) / v3) * (4 + v10)))) = BND ((w1)) (a1) (a2) from hBN))
        ·
          by_cases b11 : a1 = 4
          · refine w_tsk 4 119 rfl (show inr (a1) from h0) (by omega) (by decide) rfl rfl ?_
            refine Ew_of (pcₚ := 120) (fun _ => x_aload_n rfl (rk_o (rfl) rfl rfl)) ?_
            refine v_g H (o := 0) (v := .ref (D 1)) rfl rfl rfl rfl rfl (vrf (pf1)) ?_
            refine Ew_of (pcₚ := 124) (fun _ => x_iload_n rfl (rk_o (rfl) rfl rfl)) ?_
            refine w_stat24 rfl rfl (by rfl) (C133_Irx (D := puc 1 D) (N := puc 1 N) (HW_subc H oz_V6cls_42 oz_V6cls_43) (n1) (en1) (w1) (ew1) (show inr (a2) from h1) (show (n1) = 10 from h7) (show 0 ≤ ((w1)) 8 ∧ ((w1)) 8 ≤ 11 from h5) (show 1 ≤ ((w1)) 2 ∧ ((w1)) 2 ≤ 65536 from h4) (show 0 ≤ (a2) ∧ (a2) ≤ 16384 from h2) (fun z12 σ12 F12ₚ A12ₚ Hₚ Oₚ hS12 hA12 pz12_0 pz12_1 pz12_2 => ⟨rfl, ?_⟩))
            refine v_backc (c := c) (s := s) H oz_V6cls_42 oz_V6cls_43 Hₚ Oₚ (fun F12 A12 H Oₚ eF12 eA12 => ?_)
            have O := OUT_trans O Oₚ
            -- Packer.rowLength
            have cF12 : SF oz_V6clsl_0 F F12 := SF_trans (SF_refl) (SF_gluc (ι := oz_V6clsl_2) oz_V6cls_43 hS12 eF12 (by decide +kernel)) (any_sub (lₚ := []) (by decide +kernel))
            have mF12 := SFm_of cF12 oz_V6cls_5
            have cA12 : SA oz_V6clsl_1 A A12 := SA_trans (SA_refl) (SA_gluc (ι := oz_V6clsl_2) oz_V6cls_43 hA12 eA12 (by decide +kernel)) (any_subA (lₚ := []) (by decide +kernel))
            have mA12 := SAm_of cA12 oz_V6cls_6
            refine Ew_of (pcₚ := 129) (fun _ => x_istore rfl) ?_
            refine Ew_of (pcₚ := 131) (fun _ => x_bipush (z := 22) rfl (by decide)) ?_
            refine Ew_of (pcₚ := 132) (fun _ => x_iconst rfl) ?_
            refine Ew_of (pcₚ := 133) (fun _ => x_iload_n rfl (rk_o (rk_o (rfl) rfl rfl) rfl rfl)) ?_
            refine w_ifne (t := 140) rfl rfl (show inr (a2) from h1) (fun b13 => ?_) (fun b13 => ?_)
            · refine Ew_of (pcₚ := 141) (fun _ => x_iload_n rfl (rk_o (rk_o (rfl) rfl rfl) rfl rfl)) ?_
              refine Ew_of (pcₚ := 143) (fun _ => x_iload rfl rk_s) ?_
              refine w_iadd rfl ?_
              refine Ew_of (pcₚ := 145) (fun _ => x_iconst rfl) ?_
              refine w_isub rfl ?_
              refine Ew_of (pcₚ := 148) (fun _ => x_iload rfl rk_s) ?_
              have hst : (a2) ≠ 0 := b13
              have hr4 := RW_le (c := (z12)) (n := (a2)) (by omega) (by omega)
              refine w_idiv rfl (show inr (((a2 + z12) - 1)) ∧ 0 ≤ ((a2 + z12) - 1) from q_4835 h2 pz12_1) (show inr (z12) ∧ 0 < z12 from q_4834 pz12_0 pz12_1) ?_
              have hq4 : (a2) = 0 ∧ (((((a2 + z12) - 1) / z12)) : Int) = 1 ∨ (a2) ≠ 0 ∧ (((((a2 + z12) - 1) / z12)) : Int) = RW ((z12)) ((a2)) := by first | exact .inl ⟨by omega, rfl⟩ | exact .inr ⟨by omega, rfl⟩
              have hr5 : 0 ≤ (((((a2 + z12) - 1) / z12)) : Int) ∧ (((((a2 + z12) - 1) / z12)) : Int) ≤ 16384 := by first | omega | (rcases hq4 with q | q; omega; (rw [q.2]; exact ⟨hr4.1, by omega⟩))
              refine w_imul rfl ?_
              refine w_iadd rfl ?_
              refine Ew_of (pcₚ := 152) (fun _ => x_iload_n rfl (rk_o (rk_o (rfl) rfl rfl) rfl rfl)) ?_
              refine w_iadd rfl ?_
              have hBN : ((((22 + (3 * (((a2 + z12) - 1) / z12))) + a2)) : Int) = BND ((w1)) ((a1)) ((a2)) := BND_4 (by omega) (by rcases hq4 with q | q; exact .inl q; exact .inr ⟨q.1, by rw [q.2, show (z12) = SMN (WND ((w1)) ((a2))) (((w1)) 2) by omega]⟩)
              exact w_ireturn rfl (k (((22 + (3 * (((a2 + z12) - 1) / z12))) + a2)) _ _ _ H O (cF12) (cA12) (show inr (((22 + (3 * (((a2 + z12) - 1) / z12))) + a2)) from q_4962 h2 hr5) (show (((22 + (3 * (((a2 + z12) - 1) / z12))) + a2)) = BND ((w1)) (a1) (a2) from hBN))
            · refine Ew_of (pcₚ := 137) (fun _ => x_iconst rfl) ?_
              refine Ew_of (pcₚ := 149) (fun _ => x_goto rfl rfl) ?_
              have hq4 : (a2) = 0 ∧ ((1) : Int) = 1 ∨ (a2) ≠ 0 ∧ ((1) : Int) = RW ((z12)) ((a2)) := by first | exact .inl ⟨by omega, rfl⟩ | exact .inr ⟨by omega, rfl⟩
              have hr5 : 0 ≤ ((1) : Int) ∧ ((1) : Int) ≤ 16384 := by first | omega | (rcases hq4 with q | q; omega; (rw [q.2]; exact ⟨hr4.1, by omega⟩))
              refine w_imul rfl ?_
              refine w_iadd rfl ?_
              refine Ew_of (pcₚ := 152) (fun _ => x_iload_n rfl (rk_o (rk_o (rfl) rfl rfl) rfl rfl)) ?_
              refine w_iadd rfl ?_
              have hBN : ((((22 + (3 * 1)) + a2)) : Int) = BND ((w1)) ((a1)) ((a2)) := BND_4 (by omega) (by rcases hq4 with q | q; exact .inl q; exact .inr ⟨q.1, by rw [q.2, show (z12) = SMN (WND ((w1)) ((a2))) (((w1)) 2) by omega]⟩)
              exact w_ireturn rfl (k (((22 + (3 * 1)) + a2)) _ _ _ H O (cF12) (cA12) (show inr (((22 + (3 * 1)) + a2)) from q_4963 b13) (show (((22 + (3 * 1)) + a2)) = BND ((w1)) (a1) (a2) from hBN))
          ·
            refine w_tsd 154 rfl (show inr (a1) from h0) (by omega) rfl ?_
            refine Ew_of (pcₚ := 157) (fun _ => x_sipush (z := 700) rfl (by decide)) ?_
            refine Ew_of (pcₚ := 158) (fun _ => x_iload_n rfl (rk_o (rfl) rfl rfl)) ?_
            refine w_iadd rfl ?_
            have hBN : (((700 + a2)) : Int) = BND ((w1)) ((a1)) ((a2)) := BND_5 (by omega)
            exact w_ireturn rfl (k ((700 + a2)) _ _ _ H O (SF_refl) (SA_refl) (show inr ((700 + a2)) from q_4836 h2) (show ((700 + a2)) = BND ((w1)) (a1) (a2) from hBN))
theorem oz_V6cls_45 : vsub V21 V34 [0, 1] = true := by decide +kernel
def oz_V6clsl_14 : List Nat := [0, 1]
theorem oz_V6cls_46 : okc oz_V6clsl_14 512 = true := by decide +kernel

theorem C21x {σE : rS} {D N : Nat → Nat} {F : hF} {A : hA} {d c s : Nat} {Q : wQ} (H : HW V21 σE D N F A) {a1 a2 : Int} (pf1 : HID (F 0 1 = (D 1 : Int))) (n1 : Int) (en1 : HID ((N 1 : Int) = n1)) (w1 : Int → Int) (ew1 : A 1 = w1) (h0 : inr (a1)) (h1 : inr (a2)) (h2 : 1 ≤ ((w1)) 2 ∧ ((w1)) 2 ≤ 65536) (h3 : 0 ≤ ((w1)) 8 ∧ ((w1)) 8 ≤ 11) (h4 : 0 ≤ ((w1)) 6 ∧ ((w1)) 6 ≤ 255) (h5 : (n1) = 10) (k : ∀ (z : Int) (σ : rS) (Fₚ : hF) (Aₚ : hA), HW V21 σ D N Fₚ Aₚ → OUT (V21).length D N σE c s D N σ c s → SF [] F Fₚ → SA [] A Aₚ → (inr (z)) → ((z) = BNA ((w1)) ((a1)) ((a2))) → Q (some (I z)) σ c s) : Ew 21 (d + 3) 0 (rargs 0 [.ref (D 0), I a1, I a2]) [] σE c s Q := by
  have O := OUT_refl (n := (V21).length) (D := D) (N := N) (σ := σE) (c := c) (s := s)
  have HE := H
  refine Ew_of (pcₚ := 1) (fun _ => x_iload_n rfl rfl) ?_
  refine w_iflt (t := 20) rfl rfl (show inr (a1) from h0) (fun b2 => ?_) (fun b2 => ?_)
  · refine Ew_of (pcₚ := 21) (fun _ => x_iconst rfl) ?_
    refine Ew_of (pcₚ := 30) (fun _ => x_goto rfl rfl) ?_
    have hBN : (((-1)) : Int) = BNA ((w1)) ((a1)) ((a2)) := by unfold BNA; first | (rw [if_neg (by omega)]) | (rw [if_pos (by omega)]; assumption)
    exact w_ireturn rfl (k ((-1)) _ _ _ H O (SF_refl) (SA_refl) (show inr ((-1)) from q_63) (show ((-1)) = BNA ((w1)) (a1) (a2) from hBN))
  · refine Ew_of (pcₚ := 5) (fun _ => x_iload_n rfl rfl) ?_
    refine Ew_of (pcₚ := 6) (fun _ => x_iconst rfl) ?_
    refine w_icmpgt (t := 20) rfl rfl (show inr (a1) from h0) (show inr (5) from q_727) (fun b3 => ?_) (fun b3 => ?_)
    · refine Ew_of (pcₚ := 21) (fun _ => x_iconst rfl) ?_
      refine Ew_of (pcₚ := 30) (fun _ => x_goto rfl rfl) ?_
      have hBN : (((-1)) : Int) = BNA ((w1)) ((a1)) ((a2)) := by unfold BNA; first | (rw [if_neg (by omega)]) | (rw [if_pos (by omega)]; assumption)
      exact w_ireturn rfl (k ((-1)) _ _ _ H O (SF_refl) (SA_refl) (show inr ((-1)) from q_63) (show ((-1)) = BNA ((w1)) (a1) (a2) from hBN))
    · refine Ew_of (pcₚ := 10) (fun _ => x_iload_n rfl rfl) ?_
      refine w_iflt (t := 20) rfl rfl (show inr (a2) from h1) (fun b4 => ?_) (fun b4 => ?_)
      · refine Ew_of (pcₚ := 21) (fun _ => x_iconst rfl) ?_
        refine Ew_of (pcₚ := 30) (fun _ => x_goto rfl rfl) ?_
        have hBN : (((-1)) : Int) = BNA ((w1)) ((a1)) ((a2)) := by unfold BNA; first | (rw [if_neg (by omega)]) | (rw [if_pos (by omega)]; assumption)
        exact w_ireturn rfl (k ((-1)) _ _ _ H O (SF_refl) (SA_refl) (show inr ((-1)) from q_63) (show ((-1)) = BNA ((w1)) (a1) (a2) from hBN))
      · refine Ew_of (pcₚ := 14) (fun _ => x_iload_n rfl rfl) ?_
        refine Ew_of (pcₚ := 17) (fun _ => x_sipush (z := 16384) rfl (by decide)) ?_
        refine w_icmple (t := 24) rfl rfl (show inr (a2) from h1) (show inr (16384) from q_80) (fun b5 => ?_) (fun b5 => ?_)
        · refine Ew_of (pcₚ := 25) (fun _ => x_aload_n rfl rfl) ?_
          refine Ew_of (pcₚ := 26) (fun _ => x_iload_n rfl rfl) ?_
          refine Ew_of (pcₚ := 27) (fun _ => x_iload_n rfl rfl) ?_
          refine v_inv H (o := 0) rfl rfl rfl rfl rfl rfl (by rfl) (C34x (D := puc 512 D) (N := puc 512 N) (HW_subc H oz_V6cls_45 oz_V6cls_46) (pf1) (n1) (en1) (w1) (ew1) (show inr (a1) from h0) (show inr (a2) from h1) (show 0 ≤ (a2) ∧ (a2) ≤ 16384 from q_4837 b4 b5) (show 0 ≤ (a1) ∧ (a1) ≤ 5 from q_4763 b2 b3) (show 1 ≤ ((w1)) 2 ∧ ((w1)) 2 ≤ 65536 from h2) (show 0 ≤ ((w1)) 8 ∧ ((w1)) 8 ≤ 11 from h3) (show 0 ≤ ((w1)) 6 ∧ ((w1)) 6 ≤ 255 from h4) (show (n1) = 10 from h5) (fun z6 σ6 F6ₚ A6ₚ Hₚ Oₚ hS6 hA6 pz6_0 pz6_1 => ⟨rfl, ?_⟩))
          refine v_backc (c := c) (s := s) H oz_V6cls_45 oz_V6cls_46 Hₚ Oₚ (fun F6 A6 H Oₚ eF6 eA6 => ?_)
          have O := OUT_trans O Oₚ
          -- PackHouse.boundOf
          have cF6 : SF oz_V6clsl_0 F F6 := SF_trans (SF_refl) (SF_gluc (ι := oz_V6clsl_14) oz_V6cls_46 hS6 eF6 (by decide +kernel)) (any_sub (lₚ := []) (by decide +kernel))
          have mF6 := SFm_of cF6 oz_V6cls_5
          have cA6 : SA oz_V6clsl_1 A A6 := SA_trans (SA_refl) (SA_gluc (ι := oz_V6clsl_14) oz_V6cls_46 hA6 eA6 (by decide +kernel)) (any_subA (lₚ := []) (by decide +kernel))
          have mA6 := SAm_of cA6 oz_V6cls_6
          have hBN : ((z6) : Int) = BNA ((w1)) ((a1)) ((a2)) := by unfold BNA; first | (rw [if_neg (by omega)]) | (rw [if_pos (by omega)]; assumption)
          exact w_ireturn rfl (k (z6) _ _ _ H O (cF6) (cA6) (show inr (z6) from pz6_0) (show (z6) = BNA ((w1)) (a1) (a2) from hBN))
        · refine Ew_of (pcₚ := 21) (fun _ => x_iconst rfl) ?_
          refine Ew_of (pcₚ := 30) (fun _ => x_goto rfl rfl) ?_
          have hBN : (((-1)) : Int) = BNA ((w1)) ((a1)) ((a2)) := by unfold BNA; first | (rw [if_neg (by omega)]) | (rw [if_pos (by omega)]; assumption)
          exact w_ireturn rfl (k ((-1)) _ _ _ H O (SF_refl) (SA_refl) (show inr ((-1)) from q_63) (show ((-1)) = BNA ((w1)) (a1) (a2) from hBN))

