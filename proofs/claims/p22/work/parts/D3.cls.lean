abbrev V198 : vV := []
theorem len_V198_oz_D3cls : (V198).length = 0 := by decide +kernel
/-- Tags.isShort:  -/
theorem C198 {σE : rS} {D N : Nat → Nat} {F : hF} {A : hA} {d c s : Nat} {Q : wQ} (H : HW V198 σE D N F A) {a1 a2 : Int} (h0 : inr (a1)) (h1 : inr (a2)) (h2 : (a2) = 0 ∨ (a2) = 1) (k : ∀ (z : Int) (σ : rS) (Fₚ : hF) (Aₚ : hA), HW V198 σ D N Fₚ Aₚ → OUT (V198).length D N σE c s D N σ c s → SF [] F Fₚ → SA [] A Aₚ → ((z) = 0 ∨ (z) = 1) → Q (some (I z)) σ c s) : Ew 198 (d + 0) 0 (rargs 0 [I a1, I a2]) [] σE c s Q := by
  have O := OUT_refl (n := (V198).length) (D := D) (N := N) (σ := σE) (c := c) (s := s)
  have HE := H
  refine Ew_of (pcₚ := 1) (fun _ => x_iload_n rfl rfl) ?_
  refine w_ifeq (t := 19) rfl rfl (show inr (a2) from h1) (fun b1 => ?_) (fun b1 => ?_)
  · refine Ew_of (pcₚ := 20) (fun _ => x_iconst rfl) ?_
    exact w_ireturn rfl (k (0) _ _ _ H O (SF_refl) (SA_refl) (show (0) = 0 ∨ (0) = 1 by first | exact q_1 | omega))
  · refine Ew_of (pcₚ := 5) (fun _ => x_iload_n rfl rfl) ?_
    refine Ew_of (pcₚ := 6) (fun _ => x_iconst rfl) ?_
    refine w_icmplt (t := 19) rfl rfl (show inr (a1) from h0) (show inr (4) from q_2) (fun b2 => ?_) (fun b2 => ?_)
    · refine Ew_of (pcₚ := 20) (fun _ => x_iconst rfl) ?_
      exact w_ireturn rfl (k (0) _ _ _ H O (SF_refl) (SA_refl) (show (0) = 0 ∨ (0) = 1 by first | exact q_1 | omega))
    · refine Ew_of (pcₚ := 10) (fun _ => x_iload_n rfl rfl) ?_
      refine Ew_of (pcₚ := 12) (fun _ => x_bipush (z := 11) rfl (by decide)) ?_
      refine w_icmpgt (t := 19) rfl rfl (show inr (a1) from h0) (show inr (11) from q_67) (fun b3 => ?_) (fun b3 => ?_)
      · refine Ew_of (pcₚ := 20) (fun _ => x_iconst rfl) ?_
        exact w_ireturn rfl (k (0) _ _ _ H O (SF_refl) (SA_refl) (show (0) = 0 ∨ (0) = 1 by first | exact q_1 | omega))
      · refine Ew_of (pcₚ := 16) (fun _ => x_iconst rfl) ?_
        refine Ew_of (pcₚ := 20) (fun _ => x_goto rfl rfl) ?_
        exact w_ireturn rfl (k (1) _ _ _ H O (SF_refl) (SA_refl) (show (1) = 0 ∨ (1) = 1 by first | exact q_5 | omega))
abbrev V200 : vV := []
theorem len_V200_oz_D3cls : (V200).length = 0 := by decide +kernel
/-- Tags.fewest:  -/
theorem C200 {σE : rS} {D N : Nat → Nat} {F : hF} {A : hA} {d c s : Nat} {Q : wQ} (H : HW V200 σE D N F A) {a1 a2 : Int} (h0 : inr (a1)) (h1 : inr (a2)) (h2 : (a2) = 0 ∨ (a2) = 1) (h3 : 0 ≤ (a1) ∧ (a1) ≤ 65536) (k : ∀ (z : Int) (σ : rS) (Fₚ : hF) (Aₚ : hA), HW V200 σ D N Fₚ Aₚ → OUT (V200).length D N σE c s D N σ c s → SF [] F Fₚ → SA [] A Aₚ → (inr (z)) → (0 ≤ (z) ∧ (z) ≤ 4000) → Q (some (I z)) σ c s) : Ew 200 (d + 0) 0 (rargs 0 [I a1, I a2]) [] σE c s Q := by
  have O := OUT_refl (n := (V200).length) (D := D) (N := N) (σ := σE) (c := c) (s := s)
  have HE := H
  refine Ew_of (pcₚ := 1) (fun _ => x_iconst rfl) ?_
  refine Ew_of (pcₚ := 2) (fun _ => x_iload_n rfl rfl) ?_
  refine Ew_of (pcₚ := 4) (fun _ => x_bipush (z := 63) rfl (by decide)) ?_
  refine w_iadd rfl ?_
  refine Ew_of (pcₚ := 7) (fun _ => x_bipush (z := 64) rfl (by decide)) ?_
  refine w_idiv rfl (show inr ((a1 + 63)) ∧ 0 ≤ (a1 + 63) from q_2834 h3) (show inr (64) ∧ 0 < 64 from q_1566) ?_
  refine w_imul rfl ?_
  refine Ew_of (pcₚ := 10) (fun _ => x_istore_n rfl) ?_
  refine Ew_of (pcₚ := 11) (fun _ => x_iload_n rfl (rk_o (rfl) rfl rfl)) ?_
  refine w_ifeq (t := 19) rfl rfl (show inr (a2) from h1) (fun b1 => ?_) (fun b1 => ?_)
  · refine Ew_of (pcₚ := 20) (fun _ => x_iload_n rfl rk_s) ?_
    exact w_ireturn rfl (k ((3 * ((a1 + 63) / 64))) _ _ _ H O (SF_refl) (SA_refl) (show inr ((3 * ((a1 + 63) / 64))) from q_2836 h3) (show 0 ≤ ((3 * ((a1 + 63) / 64))) ∧ ((3 * ((a1 + 63) / 64))) ≤ 4000 by first | exact q_2835 h3 | omega))
  · refine Ew_of (pcₚ := 15) (fun _ => x_iload_n rfl (rk_o (rfl) rfl rfl)) ?_
    refine Ew_of (pcₚ := 16) (fun _ => x_iconst rfl) ?_
    refine w_icmpge (t := 21) rfl rfl (show inr (a1) from h0) (show inr (4) from q_2) (fun b2 => ?_) (fun b2 => ?_)
    · refine Ew_of (pcₚ := 22) (fun _ => x_iload_n rfl rk_s) ?_
      refine Ew_of (pcₚ := 23) (fun _ => x_iconst rfl) ?_
      refine Ew_of (pcₚ := 24) (fun _ => x_iconst rfl) ?_
      refine Ew_of (pcₚ := 25) (fun _ => x_iconst rfl) ?_
      refine Ew_of (pcₚ := 26) (fun _ => x_iload_n rfl (rk_o (rfl) rfl rfl)) ?_
      refine Ew_of (pcₚ := 28) (fun _ => x_bipush (z := 11) rfl (by decide)) ?_
      refine w_isub rfl ?_
      refine v_max rfl rfl (show inr (0) from q_20) (show inr ((a1 - 11)) from q_2837 b2 h3) (fun z3 gz3 => ?_)
      refine Ew_of (pcₚ := 34) (fun _ => x_bipush (z := 63) rfl (by decide)) ?_
      refine w_iadd rfl ?_
      refine Ew_of (pcₚ := 37) (fun _ => x_bipush (z := 64) rfl (by decide)) ?_
      refine w_idiv rfl (show inr ((z3 + 63)) ∧ 0 ≤ (z3 + 63) from q_2838 b2 gz3 h3) (show inr (64) ∧ 0 < 64 from q_1566) ?_
      refine w_imul rfl ?_
      refine w_iadd rfl ?_
      refine v_min rfl rfl (show inr ((3 * ((a1 + 63) / 64))) from q_2840 b2 h3) (show inr ((2 + (3 * ((z3 + 63) / 64)))) from q_2839 b2 gz3 h3) (fun z4 gz4 => ?_)
      exact w_ireturn rfl (k (z4) _ _ _ H O (SF_refl) (SA_refl) (show inr (z4) from q_2842 b2 gz3 gz4 h3) (show 0 ≤ (z4) ∧ (z4) ≤ 4000 from q_2841 b2 gz3 gz4 h3))
    · refine Ew_of (pcₚ := 20) (fun _ => x_iload_n rfl rk_s) ?_
      exact w_ireturn rfl (k ((3 * ((a1 + 63) / 64))) _ _ _ H O (SF_refl) (SA_refl) (show inr ((3 * ((a1 + 63) / 64))) from q_2844 b2 h3) (show 0 ≤ ((3 * ((a1 + 63) / 64))) ∧ ((3 * ((a1 + 63) / 64))) ≤ 4000 by first | exact q_2843 b2 h3 | omega))
abbrev V199 : vV := []
theorem len_V199_oz_D3cls : (V199).length = 0 := by decide +kernel
theorem oz_D3cls_3 : vsub V199 V200 [] = true := by decide +kernel
theorem oz_D3cls_4 : vsub V199 V198 [] = true := by decide +kernel
def oz_D3clsl_0 : List (Nat × Nat) := []
theorem oz_D3cls_5 : (oz_D3clsl_0).all (fun p => !tbz 0 (Nat.add (Nat.mul 32 p.1) p.2)) = true := by decide +kernel
def oz_D3clsl_1 : List Nat := []
theorem oz_D3cls_6 : (oz_D3clsl_1).all (fun p => !tbz 0 p) = true := by decide +kernel
theorem oz_D3cls_7 : okc oz_D3clsl_1 0 = true := by decide +kernel
/-- Tags.firstCopy:  -/
theorem C199 {σE : rS} {D N : Nat → Nat} {F : hF} {A : hA} {d c s : Nat} {Q : wQ} (H : HW V199 σE D N F A) {a1 a2 : Int} (h0 : inr (a1)) (h1 : inr (a2)) (h2 : (a2) = 0 ∨ (a2) = 1) (h3 : 1 ≤ (a1) ∧ (a1) ≤ 65536) (k : ∀ (z : Int) (σ : rS) (Fₚ : hF) (Aₚ : hA), HW V199 σ D N Fₚ Aₚ → OUT (V199).length D N σE c s D N σ c s → SF [] F Fₚ → SA [] A Aₚ → (inr (z)) → (1 ≤ (z) ∧ (z) ≤ (a1)) → Q (some (I z)) σ c s) : Ew 199 (d + 1) 0 (rargs 0 [I a1, I a2]) [] σE c s Q := by
  have O := OUT_refl (n := (V199).length) (D := D) (N := N) (σ := σE) (c := c) (s := s)
  have HE := H
  refine Ew_of (pcₚ := 1) (fun _ => x_iload_n rfl rfl) ?_
  refine Ew_of (pcₚ := 2) (fun _ => x_iload_n rfl rfl) ?_
  refine w_stat24 rfl rfl (by rfl) (C200 (D := puc 0 D) (N := puc 0 N) (HW_subc H oz_D3cls_3 oz_D3cls_7) (show inr (a1) from h0) (show inr (a2) from h1) (show (a2) = 0 ∨ (a2) = 1 from h2) (show 0 ≤ (a1) ∧ (a1) ≤ 65536 from q_2845 h3) (fun z1 σ1 F1ₚ A1ₚ Hₚ Oₚ hS1 hA1 pz1_0 pz1_1 => ⟨rfl, ?_⟩))
  refine v_backc (c := c) (s := s) H oz_D3cls_3 oz_D3cls_7 Hₚ Oₚ (fun F1 A1 H Oₚ eF1 eA1 => ?_)
  have O := OUT_trans O Oₚ
  -- Tags.fewest
  have cF1 : SF oz_D3clsl_0 F F1 := SF_trans (SF_refl) (SF_gluc (ι := oz_D3clsl_1) oz_D3cls_7 hS1 eF1 (by decide +kernel)) (any_sub (lₚ := []) (by decide +kernel))
  have mF1 := SFm_of cF1 oz_D3cls_5
  have cA1 : SA oz_D3clsl_1 A A1 := SA_trans (SA_refl) (SA_gluc (ι := oz_D3clsl_1) oz_D3cls_7 hA1 eA1 (by decide +kernel)) (any_subA (lₚ := []) (by decide +kernel))
  have mA1 := SAm_of cA1 oz_D3cls_6
  refine Ew_of (pcₚ := 6) (fun _ => x_istore_n rfl) ?_
  refine Ew_of (pcₚ := 8) (fun _ => x_bipush (z := 64) rfl (by decide)) ?_
  refine Ew_of (pcₚ := 9) (fun _ => x_iload_n rfl (rk_o (rfl) rfl rfl)) ?_
  refine v_min rfl rfl (show inr (64) from q_51) (show inr (a1) from h0) (fun z2 gz2 => ?_)
  refine Ew_of (pcₚ := 13) (fun _ => x_istore_n rfl) ?_
  suffices hl13 : ∀ (m : Nat), ∀ (ls : rO) (σ : rS) (F_13 : hF) (A_13 : hA) (x13_3 : Int), rlook ls 0 = some (I (a1)) → rlook ls 1 = some (I (a2)) → rlook ls 2 = some (I (z1)) → rlook ls 3 = some (I (x13_3)) → HW V199 σ D N F_13 A_13 → OUT (V199).length D N σE c s D N σ c s → SF [] F1 F_13 → SA [] A1 A_13 → (inr (x13_3)) → ((x13_3) ≤ (z2)) → ((z2) ≤ (x13_3) ∨ (1) ≤ (x13_3)) → ((x13_3) - (1)).toNat = m → Ew 199 (d + 1) 13 ls [] σ c s Q from
    hl13 _ _ _ _ _ (z2) (rk_o (rk_o (rfl) rfl rfl) rfl rfl) (rk_o (rk_o (rfl) rfl rfl) rfl rfl) (rk_o (rk_s) rfl rfl) (rk_s) H O (SF_refl) (SA_refl)     (show inr (z2) from q_2847 gz2 h3) (show (z2) ≤ (z2) from q_102) (show (z2) ≤ (z2) ∨ (1) ≤ (z2) from q_2846) rfl
  as_aux_lemma =>
  intro m
  induction m using Nat.strongRecOn with
  | _ m ih13 =>
    intro ls σ F_13 A_13 x13_3 l13_0 l13_1 l13_2 l13_3 H O hS_13 hA_13     j13_0 j13_1 j13_2 hm13
    have cF_13 : SF oz_D3clsl_0 F F_13 := SF_trans (cF1) hS_13 (any_sub (by decide +kernel))
    have mF_13 := SFm_of cF_13 oz_D3cls_5
    have cA_13 : SA oz_D3clsl_1 A A_13 := SA_trans (cA1) hA_13 (any_subA (by decide +kernel))
    have mA_13 := SAm_of cA_13 oz_D3cls_6
    refine Ew_of (pcₚ := 14) (fun _ => x_iload_n rfl l13_3) ?_
    refine Ew_of (pcₚ := 15) (fun _ => x_iconst rfl) ?_
    refine w_icmple (t := 51) rfl rfl (show inr (x13_3) from j13_0) (show inr (1) from q_23) (fun b3 => ?_) (fun b3 => ?_)
    · refine Ew_of (pcₚ := 52) (fun _ => x_iconst rfl) ?_
      exact w_ireturn rfl (k (1) _ _ _ H O (cF_13) (cA_13) (show inr (1) from q_23) (show 1 ≤ (1) ∧ (1) ≤ a1 by first | exact q_2848 h3 | omega))
    · have hc31 : ∀ (tc31_0 : Int), ∀ (ls : rO) (σ : rS) (F_c31 : hF) (A_c31 : hA) , rlook ls 0 = some (I (a1)) → rlook ls 1 = some (I (a2)) → rlook ls 2 = some (I (z1)) → rlook ls 3 = some (I (x13_3)) → HW V199 σ D N F_c31 A_c31 → OUT (V199).length D N σE c s D N σ c s → SF [] F_13 F_c31 → SA [] A_13 A_c31 → (inr (tc31_0)) → ((tc31_0) = 2 ∨ (tc31_0) = 3) → Ew 199 (d + 1) 31 ls [I (tc31_0)] σ c s Q := by
       as_aux_lemma =>
        intro tc31_0 ls σ F_c31 A_c31  lc31_0 lc31_1 lc31_2 lc31_3 H O hS_c31 hA_c31     jc31_0 jc31_1
        have cF_c31 : SF oz_D3clsl_0 F F_c31 := SF_trans (cF_13) hS_c31 (any_sub (by decide +kernel))
        have mF_c31 := SFm_of cF_c31 oz_D3cls_5
        have cA_c31 : SA oz_D3clsl_1 A A_c31 := SA_trans (cA_13) hA_c31 (any_subA (by decide +kernel))
        have mA_c31 := SAm_of cA_c31 oz_D3cls_6
        refine Ew_of (pcₚ := 32) (fun _ => x_iload_n rfl lc31_0) ?_
        refine Ew_of (pcₚ := 33) (fun _ => x_iload_n rfl lc31_3) ?_
        refine w_isub rfl ?_
        refine Ew_of (pcₚ := 35) (fun _ => x_iload_n rfl lc31_1) ?_
        refine w_stat24 rfl rfl (by rfl) (C200 (D := puc 0 D) (N := puc 0 N) (HW_subc H oz_D3cls_3 oz_D3cls_7) (show inr ((a1 - x13_3)) from q_2849 b3 h3 j13_0) (show inr (a2) from h1) (show (a2) = 0 ∨ (a2) = 1 from h2) (show 0 ≤ ((a1 - x13_3)) ∧ ((a1 - x13_3)) ≤ 65536 by omega) (fun z4 σ4 F4ₚ A4ₚ Hₚ Oₚ hS4 hA4 pz4_0 pz4_1 => ⟨rfl, ?_⟩))
        refine v_backc (c := c) (s := s) H oz_D3cls_3 oz_D3cls_7 Hₚ Oₚ (fun F4 A4 H Oₚ eF4 eA4 => ?_)
        have O := OUT_trans O Oₚ
        -- Tags.fewest
        have cF4 : SF oz_D3clsl_0 F F4 := SF_trans (cF_c31) (SF_gluc (ι := oz_D3clsl_1) oz_D3cls_7 hS4 eF4 (by decide +kernel)) (any_sub (lₚ := []) (by decide +kernel))
        have mF4 := SFm_of cF4 oz_D3cls_5
        have cA4 : SA oz_D3clsl_1 A A4 := SA_trans (cA_c31) (SA_gluc (ι := oz_D3clsl_1) oz_D3cls_7 hA4 eA4 (by decide +kernel)) (any_subA (lₚ := []) (by decide +kernel))
        have mA4 := SAm_of cA4 oz_D3cls_6
        refine w_iadd rfl ?_
        refine Ew_of (pcₚ := 40) (fun _ => x_iload_n rfl lc31_2) ?_
        refine w_icmpne (t := 45) rfl rfl (show inr ((tc31_0 + z4)) from q_2850 jc31_1 pz4_1) (show inr (z1) from pz1_0) (fun b5 => ?_) (fun b5 => ?_)
        · refine Ew_of (pcₚ := 48) (fun _ => x_iinc (len := 3) rfl (lc31_3)) ?_
          refine Ew_of (pcₚ := 13) (fun _ => x_goto rfl rfl) ?_
          exact ih13 _ (msE hm13 q_2853 (q_2854 b3)) _ _ _ _ ((x13_3 + (-1))) (rk_o (lc31_0) rfl rfl) (rk_o (lc31_1) rfl rfl) (rk_o (lc31_2) rfl rfl) (rk_s) H O (SF_trans (SF_trans (hS_13) hS_c31 (any_sub (by decide +kernel))) (SF_gluc (ι := oz_D3clsl_1) oz_D3cls_7 hS4 eF4 (by decide +kernel)) (any_sub (lₚ := []) (by decide +kernel))) (SA_trans (SA_trans (hA_13) hA_c31 (any_subA (by decide +kernel))) (SA_gluc (ι := oz_D3clsl_1) oz_D3cls_7 hA4 eA4 (by decide +kernel)) (any_subA (lₚ := []) (by decide +kernel)))     (show inr ((x13_3 + (-1))) from q_2852 b3 j13_0) (show ((x13_3 + (-1))) ≤ (z2) from q_314 j13_1) (show (z2) ≤ ((x13_3 + (-1))) ∨ (1) ≤ ((x13_3 + (-1))) from q_2851 b3) rfl
        · refine Ew_of (pcₚ := 44) (fun _ => x_iload_n rfl lc31_3) ?_
          exact w_ireturn rfl (k (x13_3) _ _ _ H O (cF4) (cA4) (show inr (x13_3) from j13_0) (show 1 ≤ (x13_3) ∧ (x13_3) ≤ a1 by omega))
      refine Ew_of (pcₚ := 19) (fun _ => x_iload_n rfl l13_3) ?_
      refine Ew_of (pcₚ := 20) (fun _ => x_iload_n rfl l13_1) ?_
      refine w_stat24 rfl rfl (by rfl) (C198 (D := puc 0 D) (N := puc 0 N) (HW_subc H oz_D3cls_4 oz_D3cls_7) (show inr (x13_3) from j13_0) (show inr (a2) from h1) (show (a2) = 0 ∨ (a2) = 1 from h2) (fun z6 σ6 F6ₚ A6ₚ Hₚ Oₚ hS6 hA6 pz6_0 => ⟨rretB rfl pz6_0, ?_⟩))
      refine v_backc (c := c) (s := s) H oz_D3cls_4 oz_D3cls_7 Hₚ Oₚ (fun F6 A6 H Oₚ eF6 eA6 => ?_)
      have O := OUT_trans O Oₚ
      -- Tags.isShort
      have cF6 : SF oz_D3clsl_0 F F6 := SF_trans (cF_13) (SF_gluc (ι := oz_D3clsl_1) oz_D3cls_7 hS6 eF6 (by decide +kernel)) (any_sub (lₚ := []) (by decide +kernel))
      have mF6 := SFm_of cF6 oz_D3cls_5
      have cA6 : SA oz_D3clsl_1 A A6 := SA_trans (cA_13) (SA_gluc (ι := oz_D3clsl_1) oz_D3cls_7 hA6 eA6 (by decide +kernel)) (any_subA (lₚ := []) (by decide +kernel))
      have mA6 := SAm_of cA6 oz_D3cls_6
      refine w_ifeq (t := 30) rfl rfl (show inr (z6) from q_15 pz6_0) (fun b7 => ?_) (fun b7 => ?_)
      · refine Ew_of (pcₚ := 31) (fun _ => x_iconst rfl) ?_
        exact hc31 (3) _ _ _ _  (l13_0) (l13_1) (l13_2) (l13_3) H O (SF_trans (SF_refl) (SF_gluc (ι := oz_D3clsl_1) oz_D3cls_7 hS6 eF6 (by decide +kernel)) (any_sub (lₚ := []) (by decide +kernel))) (SA_trans (SA_refl) (SA_gluc (ι := oz_D3clsl_1) oz_D3cls_7 hA6 eA6 (by decide +kernel)) (any_subA (lₚ := []) (by decide +kernel)))     (show inr (3) from q_66) (show (3) = 2 ∨ (3) = 3 from q_2855)
      · refine Ew_of (pcₚ := 27) (fun _ => x_iconst rfl) ?_
        refine Ew_of (pcₚ := 31) (fun _ => x_goto rfl rfl) ?_
        exact hc31 (2) _ _ _ _  (l13_0) (l13_1) (l13_2) (l13_3) H O (SF_trans (SF_refl) (SF_gluc (ι := oz_D3clsl_1) oz_D3cls_7 hS6 eF6 (by decide +kernel)) (any_sub (lₚ := []) (by decide +kernel))) (SA_trans (SA_refl) (SA_gluc (ι := oz_D3clsl_1) oz_D3cls_7 hA6 eA6 (by decide +kernel)) (any_subA (lₚ := []) (by decide +kernel)))     (show inr (2) from q_55) (show (2) = 2 ∨ (2) = 3 from q_2856)
abbrev V195_Row : vV := [(0, 7, [(4, 0), (0, 0), (1, 0), (0, 0), (0, 0)]), (1, 0, [])]
theorem len_V195_Row_oz_D3cls : (V195_Row).length = 2 := by decide +kernel
theorem oz_D3cls_9 : vsub V195_Row V159 [0, 1] = true := by decide +kernel
theorem oz_D3cls_10 : vmov V195_Row [0, 1] [1] = true := by decide +kernel
def oz_D3clsl_2 : List (Nat × Nat) := [(0, 0), (0, 1), (0, 2)]
theorem oz_D3cls_11 : (oz_D3clsl_2).all (fun p => !tbz 7 (Nat.add (Nat.mul 32 p.1) p.2)) = true := by decide +kernel
def oz_D3clsl_3 : List Nat := [1]
theorem oz_D3cls_12 : (oz_D3clsl_3).all (fun p => !tbz 2 p) = true := by decide +kernel
def oz_D3clsl_4 : List Nat := [0, 1]
theorem oz_D3cls_13 : okc oz_D3clsl_4 512 = true := by decide +kernel
/-- Tags.packLength: #1, #1.bytes -/
theorem C195_Row {σE : rS} {D N : Nat → Nat} {F : hF} {A : hA} {d c s : Nat} {Q : wQ} (H : HW V195_Row σE D N F A) {a2 : Int} (pf1 : F 0 0 = (D 1 : Int)) (n1 : Int) (en1 : (N 1 : Int) = n1) (u0_1 : Int) (eu0_1 : F 0 1 = u0_1) (h0 : inr (a2)) (h1 : 0 ≤ (u0_1) ∧ (u0_1) ≤ (n1) ∧ (n1) ≤ 65536) (k : ∀ (σ : rS) (Dₚ Nₚ : Nat → Nat) (Fₚ : hF) (Aₚ : hA) (cₚ sₚ : Nat), HW V195_Row σ Dₚ Nₚ Fₚ Aₚ → OUT (V195_Row).length D N σE c s Dₚ Nₚ σ cₚ sₚ → SD [1] D Dₚ → SD [1] N Nₚ → SF [(0, 0), (0, 1), (0, 2)] F Fₚ → SA [1] A Aₚ → Fₚ 0 0 = (Dₚ 1 : Int) → ∀ m1 : Int, (Nₚ 1 : Int) = m1 → ∀ y0_1 : Int, Fₚ 0 1 = y0_1 → (0 ≤ (y0_1) ∧ (y0_1) ≤ (m1) ∧ (m1) ≤ 65536) → Q none σ cₚ sₚ) : Ew 195 (d + 3) 0 (rargs 0 [.ref (D 0), I a2]) [] σE c s Q := by
  have O := OUT_refl (n := (V195_Row).length) (D := D) (N := N) (σ := σE) (c := c) (s := s)
  have HE := H
  have r1 : (-2147483648 : Int) ≤ u0_1 ∧ u0_1 ≤ 2147483647 := rngE (show (-2147483648 : Int) ≤ F 0 1 ∧ F 0 1 ≤ 2147483647 from H.krg 0 1 (ltn len_V195_Row_oz_D3cls rfl)) (show F 0 1 = u0_1 from (eu0_1))
  have r2 : (0 : Int) ≤ n1 ∧ n1 ≤ 1000000 := nleE (H.nle 1 (ltn len_V195_Row_oz_D3cls rfl)) (show (N 1 : Int) = n1 from en1)
  refine Ew_of (pcₚ := 1) (fun _ => x_iload_n rfl rfl) ?_
  refine Ew_of (pcₚ := 2) (fun _ => x_istore_n rfl) ?_
  refine Ew_of (pcₚ := 3) (fun _ => x_iconst rfl) ?_
  refine Ew_of (pcₚ := 4) (fun _ => x_istore_n rfl) ?_
  suffices hl4 : ∀ (m : Nat), ∀ (ls : rO) (σ : rS) (D_4 N_4 : Nat → Nat) (c_4 s_4 : Nat) (F_4 : hF) (A_4 : hA) (x4_2 : Int) (x4_3 : Int), rlook ls 0 = some (.ref (D_4 0)) → rlook ls 2 = some (I (x4_2)) → rlook ls 3 = some (I (x4_3)) → HW V195_Row σ D_4 N_4 F_4 A_4 → OUT (V195_Row).length D N σE c s D_4 N_4 σ c_4 s_4 → SD [1] D D_4 → SD [1] N N_4 → SF [(0, 0), (0, 1), (0, 2)] F F_4 → SA [1] A A_4 → F_4 0 0 = (D_4 1 : Int) → ∀ m4_1 : Int, (N_4 1 : Int) = m4_1 → ∀ y4_0_1 : Int, F_4 0 1 = y4_0_1 → (inr (x4_2)) → (inr (x4_3)) → ((0) ≤ (x4_3)) → ((x4_3) ≤ (0) ∨ (x4_3) ≤ (4)) → (0 ≤ (y4_0_1) ∧ (y4_0_1) ≤ (m4_1) ∧ (m4_1) ≤ 65536) → ((4) - (x4_3)).toNat = m → Ew 195 (d + 3) 4 ls [] σ c_4 s_4 Q from
    hl4 _ _ _ _ _ _ _ _ _ (a2) (0) (rk_o (rk_o (rfl) rfl rfl) rfl rfl) (rk_o (rk_s) rfl rfl) (rk_s) H O (SD_refl) (SD_refl) (SF_refl) (SA_refl) (pf1) (n1) (en1) (u0_1) ((eu0_1))  (show inr (a2) from h0) (show inr (0) from q_20) (show (0) ≤ (0) from q_25) (show (0) ≤ (0) ∨ (0) ≤ (4) from q_360) (show 0 ≤ (u0_1) ∧ (u0_1) ≤ (n1) ∧ (n1) ≤ 65536 from h1) rfl
  as_aux_lemma =>
  intro m
  induction m using Nat.strongRecOn with
  | _ m ih4 =>
    intro ls σ D_4 N_4 c_4 s_4 F_4 A_4 x4_2 x4_3 l4_0 l4_2 l4_3 H O hD_4 hN_4 hS_4 hA_4 pm4_1 m4_1 em4_1 y4_0_1 ey4_0_1  j4_0 j4_1 j4_2 j4_3 j4_4 hm4
    have cF_4 : SF oz_D3clsl_2 F F_4 := SF_trans (SF_refl) hS_4 (any_sub (by decide +kernel))
    have mF_4 := SFm_of cF_4 oz_D3cls_11
    have cA_4 : SA oz_D3clsl_3 A A_4 := SA_trans (SA_refl) hA_4 (any_subA (by decide +kernel))
    have mA_4 := SAm_of cA_4 oz_D3cls_12
    have cD_4 : SD oz_D3clsl_3 D D_4 := SD_trans (SD_refl) hD_4 (any_subA (by decide +kernel))
    have mD_4 := SDm_of cD_4 oz_D3cls_12
    have cN_4 : SD oz_D3clsl_3 N N_4 := SD_trans (SD_refl) hN_4 (any_subA (by decide +kernel))
    have mN_4 := SDm_of cN_4 oz_D3cls_12
    have r3 : (0 : Int) ≤ m4_1 ∧ m4_1 ≤ 1000000 := nleE (H.nle 1 (ltn len_V195_Row_oz_D3cls rfl)) (show (N_4 1 : Int) = m4_1 from em4_1)
    have r4 : (-2147483648 : Int) ≤ y4_0_1 ∧ y4_0_1 ≤ 2147483647 := rngE (show (-2147483648 : Int) ≤ F_4 0 1 ∧ F_4 0 1 ≤ 2147483647 from H.krg 0 1 (ltn len_V195_Row_oz_D3cls rfl)) (show F_4 0 1 = y4_0_1 from (ey4_0_1))
    refine Ew_of (pcₚ := 5) (fun _ => x_iload_n rfl l4_3) ?_
    refine Ew_of (pcₚ := 6) (fun _ => x_iconst rfl) ?_
    refine w_icmpge (t := 39) rfl rfl (show inr (x4_3) from j4_1) (show inr (4) from q_2) (fun b5 => ?_) (fun b5 => ?_)
    · refine Ew_of (pcₚ := 40) (fun _ => x_aload_n rfl l4_0) ?_
      refine Ew_of (pcₚ := 41) (fun _ => x_iload_n rfl l4_2) ?_
      refine v_inv H (o := 0) rfl rfl rfl rfl rfl rfl (by rfl) (C159 (D := puc 512 D_4) (N := puc 512 N_4) (HW_subc H oz_D3cls_9 oz_D3cls_13) (pm4_1) (m4_1) (em4_1) (y4_0_1) ((ey4_0_1)) (show inr (x4_2) from j4_0) (show 0 ≤ (y4_0_1) ∧ (y4_0_1) ≤ (m4_1) ∧ (m4_1) ≤ 65536 from j4_4) (fun σ6 D6ₚ N6ₚ F6ₚ A6ₚ c6 s6 Hₚ Oₚ hD6 hN6 hS6 hA6 pm6_1 m6_1 em6_1 y6_0_1 ey6_0_1 pz6_0 pz6_1 pz6_2 => ⟨rfl, ?_⟩))
      refine v_backMc (c := c_4) (s := s_4) H oz_D3cls_9 oz_D3cls_13 Hₚ Oₚ hD6 oz_D3cls_10 (fun D6 N6 F6 A6 H Oₚ eD6 eN6 eF6 eA6 => ?_)
      have O := OUT_trans O Oₚ
      -- Row.add
      have cF6 : SF oz_D3clsl_2 F F6 := SF_trans (cF_4) (SF_gluc (ι := oz_D3clsl_4) oz_D3cls_13 hS6 eF6 (by decide +kernel)) (any_sub (lₚ := [(0, 0), (0, 1), (0, 2)]) (by decide +kernel))
      have mF6 := SFm_of cF6 oz_D3cls_11
      have cA6 : SA oz_D3clsl_3 A A6 := SA_trans (cA_4) (SA_gluc (ι := oz_D3clsl_4) oz_D3cls_13 hA6 eA6 (by decide +kernel)) (any_subA (lₚ := [1]) (by decide +kernel))
      have mA6 := SAm_of cA6 oz_D3cls_12
      have cD6 : SD oz_D3clsl_3 D D6 := SD_trans (cD_4) (SD_gluc (ι := oz_D3clsl_4) oz_D3cls_13 hD6 eD6 (by decide +kernel)) (any_subA (lₚ := [1]) (by decide +kernel))
      have mD6 := SDm_of cD6 oz_D3cls_12
      have cN6 : SD oz_D3clsl_3 N N6 := SD_trans (cN_4) (SD_gluc (ι := oz_D3clsl_4) oz_D3cls_13 hN6 eN6 (by decide +kernel)) (any_subA (lₚ := [1]) (by decide +kernel))
      have mN6 := SDm_of cN6 oz_D3cls_12
      have pf6_0_0 : F6 0 0 = (D6 1 : Int) := (eF6 0 0).trans (pm6_1.trans (congrArg (fun q : Nat => (q : Int)) (eD6 1).symm))
      have r7 : (0 : Int) ≤ m6_1 ∧ m6_1 ≤ 1000000 := nleE (H.nle 1 (ltn len_V195_Row_oz_D3cls rfl)) (show (N6 1 : Int) = m6_1 from (congrArg (fun q : Nat => (q : Int)) (eN6 1)).trans em6_1)
      have r8 : (-2147483648 : Int) ≤ y6_0_1 ∧ y6_0_1 ≤ 2147483647 := rngE (show (-2147483648 : Int) ≤ F6 0 1 ∧ F6 0 1 ≤ 2147483647 from H.krg 0 1 (ltn len_V195_Row_oz_D3cls rfl)) (show F6 0 1 = y6_0_1 from ((eF6 0 1).trans ey6_0_1))
      exact w_ret rfl (k _ _ _ _ _ _ _ H O (cD6) (cN6) (cF6) (cA6) (pf6_0_0) (m6_1) ((congrArg (fun q : Nat => (q : Int)) (eN6 1)).trans em6_1) (y6_0_1) (((eF6 0 1).trans ey6_0_1)) (show 0 ≤ (y6_0_1) ∧ (y6_0_1) ≤ (m6_1) ∧ (m6_1) ≤ 65536 from pz6_0))
    · refine Ew_of (pcₚ := 10) (fun _ => x_iload_n rfl l4_2) ?_
      refine Ew_of (pcₚ := 13) (fun _ => x_sipush (z := 128) rfl (by decide)) ?_
      refine w_icmplt (t := 39) rfl rfl (show inr (x4_2) from j4_0) (show inr (128) from q_53) (fun b9 => ?_) (fun b9 => ?_)
      · refine Ew_of (pcₚ := 40) (fun _ => x_aload_n rfl l4_0) ?_
        refine Ew_of (pcₚ := 41) (fun _ => x_iload_n rfl l4_2) ?_
        refine v_inv H (o := 0) rfl rfl rfl rfl rfl rfl (by rfl) (C159 (D := puc 512 D_4) (N := puc 512 N_4) (HW_subc H oz_D3cls_9 oz_D3cls_13) (pm4_1) (m4_1) (em4_1) (y4_0_1) ((ey4_0_1)) (show inr (x4_2) from j4_0) (show 0 ≤ (y4_0_1) ∧ (y4_0_1) ≤ (m4_1) ∧ (m4_1) ≤ 65536 from j4_4) (fun σ10 D10ₚ N10ₚ F10ₚ A10ₚ c10 s10 Hₚ Oₚ hD10 hN10 hS10 hA10 pm10_1 m10_1 em10_1 y10_0_1 ey10_0_1 pz10_0 pz10_1 pz10_2 => ⟨rfl, ?_⟩))
        refine v_backMc (c := c_4) (s := s_4) H oz_D3cls_9 oz_D3cls_13 Hₚ Oₚ hD10 oz_D3cls_10 (fun D10 N10 F10 A10 H Oₚ eD10 eN10 eF10 eA10 => ?_)
        have O := OUT_trans O Oₚ
        -- Row.add
        have cF10 : SF oz_D3clsl_2 F F10 := SF_trans (cF_4) (SF_gluc (ι := oz_D3clsl_4) oz_D3cls_13 hS10 eF10 (by decide +kernel)) (any_sub (lₚ := [(0, 0), (0, 1), (0, 2)]) (by decide +kernel))
        have mF10 := SFm_of cF10 oz_D3cls_11
        have cA10 : SA oz_D3clsl_3 A A10 := SA_trans (cA_4) (SA_gluc (ι := oz_D3clsl_4) oz_D3cls_13 hA10 eA10 (by decide +kernel)) (any_subA (lₚ := [1]) (by decide +kernel))
        have mA10 := SAm_of cA10 oz_D3cls_12
        have cD10 : SD oz_D3clsl_3 D D10 := SD_trans (cD_4) (SD_gluc (ι := oz_D3clsl_4) oz_D3cls_13 hD10 eD10 (by decide +kernel)) (any_subA (lₚ := [1]) (by decide +kernel))
        have mD10 := SDm_of cD10 oz_D3cls_12
        have cN10 : SD oz_D3clsl_3 N N10 := SD_trans (cN_4) (SD_gluc (ι := oz_D3clsl_4) oz_D3cls_13 hN10 eN10 (by decide +kernel)) (any_subA (lₚ := [1]) (by decide +kernel))
        have mN10 := SDm_of cN10 oz_D3cls_12
        have pf10_0_0 : F10 0 0 = (D10 1 : Int) := (eF10 0 0).trans (pm10_1.trans (congrArg (fun q : Nat => (q : Int)) (eD10 1).symm))
        have r11 : (0 : Int) ≤ m10_1 ∧ m10_1 ≤ 1000000 := nleE (H.nle 1 (ltn len_V195_Row_oz_D3cls rfl)) (show (N10 1 : Int) = m10_1 from (congrArg (fun q : Nat => (q : Int)) (eN10 1)).trans em10_1)
        have r12 : (-2147483648 : Int) ≤ y10_0_1 ∧ y10_0_1 ≤ 2147483647 := rngE (show (-2147483648 : Int) ≤ F10 0 1 ∧ F10 0 1 ≤ 2147483647 from H.krg 0 1 (ltn len_V195_Row_oz_D3cls rfl)) (show F10 0 1 = y10_0_1 from ((eF10 0 1).trans ey10_0_1))
        exact w_ret rfl (k _ _ _ _ _ _ _ H O (cD10) (cN10) (cF10) (cA10) (pf10_0_0) (m10_1) ((congrArg (fun q : Nat => (q : Int)) (eN10 1)).trans em10_1) (y10_0_1) (((eF10 0 1).trans ey10_0_1)) (show 0 ≤ (y10_0_1) ∧ (y10_0_1) ≤ (m10_1) ∧ (m10_1) ≤ 65536 from pz10_0))
      · refine Ew_of (pcₚ := 17) (fun _ => x_aload_n rfl l4_0) ?_
        refine Ew_of (pcₚ := 18) (fun _ => x_iload_n rfl l4_2) ?_
        refine Ew_of (pcₚ := 20) (fun _ => x_bipush (z := 127) rfl (by decide)) ?_
        refine w_iand rfl (show inr (x4_2) from j4_0) (show inr (127) from q_869) (fun z13 gz13 gaz13 gbz13 => ?_)
        refine Ew_of (pcₚ := 24) (fun _ => x_sipush (z := 128) rfl (by decide)) ?_
        refine w_ior rfl (fun z14 gz14 => ?_)
        refine v_inv H (o := 0) rfl rfl rfl rfl rfl rfl (by rfl) (C159 (D := puc 512 D_4) (N := puc 512 N_4) (HW_subc H oz_D3cls_9 oz_D3cls_13) (pm4_1) (m4_1) (em4_1) (y4_0_1) ((ey4_0_1)) (show inr (z14) from gz14) (show 0 ≤ (y4_0_1) ∧ (y4_0_1) ≤ (m4_1) ∧ (m4_1) ≤ 65536 from j4_4) (fun σ15 D15ₚ N15ₚ F15ₚ A15ₚ c15 s15 Hₚ Oₚ hD15 hN15 hS15 hA15 pm15_1 m15_1 em15_1 y15_0_1 ey15_0_1 pz15_0 pz15_1 pz15_2 => ⟨rfl, ?_⟩))
        refine v_backMc (c := c_4) (s := s_4) H oz_D3cls_9 oz_D3cls_13 Hₚ Oₚ hD15 oz_D3cls_10 (fun D15 N15 F15 A15 H Oₚ eD15 eN15 eF15 eA15 => ?_)
        have O := OUT_trans O Oₚ
        -- Row.add
        have cF15 : SF oz_D3clsl_2 F F15 := SF_trans (cF_4) (SF_gluc (ι := oz_D3clsl_4) oz_D3cls_13 hS15 eF15 (by decide +kernel)) (any_sub (lₚ := [(0, 0), (0, 1), (0, 2)]) (by decide +kernel))
        have mF15 := SFm_of cF15 oz_D3cls_11
        have cA15 : SA oz_D3clsl_3 A A15 := SA_trans (cA_4) (SA_gluc (ι := oz_D3clsl_4) oz_D3cls_13 hA15 eA15 (by decide +kernel)) (any_subA (lₚ := [1]) (by decide +kernel))
        have mA15 := SAm_of cA15 oz_D3cls_12
        have cD15 : SD oz_D3clsl_3 D D15 := SD_trans (cD_4) (SD_gluc (ι := oz_D3clsl_4) oz_D3cls_13 hD15 eD15 (by decide +kernel)) (any_subA (lₚ := [1]) (by decide +kernel))
        have mD15 := SDm_of cD15 oz_D3cls_12
        have cN15 : SD oz_D3clsl_3 N N15 := SD_trans (cN_4) (SD_gluc (ι := oz_D3clsl_4) oz_D3cls_13 hN15 eN15 (by decide +kernel)) (any_subA (lₚ := [1]) (by decide +kernel))
        have mN15 := SDm_of cN15 oz_D3cls_12
        have pf15_0_0 : F15 0 0 = (D15 1 : Int) := (eF15 0 0).trans (pm15_1.trans (congrArg (fun q : Nat => (q : Int)) (eD15 1).symm))
        have r16 : (0 : Int) ≤ m15_1 ∧ m15_1 ≤ 1000000 := nleE (H.nle 1 (ltn len_V195_Row_oz_D3cls rfl)) (show (N15 1 : Int) = m15_1 from (congrArg (fun q : Nat => (q : Int)) (eN15 1)).trans em15_1)
        have r17 : (-2147483648 : Int) ≤ y15_0_1 ∧ y15_0_1 ≤ 2147483647 := rngE (show (-2147483648 : Int) ≤ F15 0 1 ∧ F15 0 1 ≤ 2147483647 from H.krg 0 1 (ltn len_V195_Row_oz_D3cls rfl)) (show F15 0 1 = y15_0_1 from ((eF15 0 1).trans ey15_0_1))
        refine Ew_of (pcₚ := 29) (fun _ => x_iload_n rfl l4_2) ?_
        refine Ew_of (pcₚ := 31) (fun _ => x_bipush (z := 7) rfl (by decide)) ?_
        refine w_iushrA rfl (fun z18 gz18 => ?_)
        refine Ew_of (pcₚ := 33) (fun _ => x_istore_n rfl) ?_
        refine Ew_of (pcₚ := 36) (fun _ => x_iinc (len := 3) rfl (rk_o (l4_3) rfl rfl)) ?_
        refine Ew_of (pcₚ := 4) (fun _ => x_goto rfl rfl) ?_
        exact ih4 _ (msE hm4 q_368 (q_369 b5)) _ _ _ _ _ _ _ _ (z18) ((x4_3 + 1)) ((rk_o (rk_o (l4_0) rfl rfl) rfl rfl).trans (congrArg (fun q : Nat => some (Value.ref q)) (((show D15 0 = D_4 0 from (eD15 0).trans (hD15 0 rfl)))).symm)) (rk_o (rk_s) rfl rfl) (rk_s) H O (SD_trans (hD_4) (SD_gluc (ι := oz_D3clsl_4) oz_D3cls_13 hD15 eD15 (by decide +kernel)) (any_subA (lₚ := [1]) (by decide +kernel))) (SD_trans (hN_4) (SD_gluc (ι := oz_D3clsl_4) oz_D3cls_13 hN15 eN15 (by decide +kernel)) (any_subA (lₚ := [1]) (by decide +kernel))) (SF_trans (hS_4) (SF_gluc (ι := oz_D3clsl_4) oz_D3cls_13 hS15 eF15 (by decide +kernel)) (any_sub (lₚ := [(0, 0), (0, 1), (0, 2)]) (by decide +kernel))) (SA_trans (hA_4) (SA_gluc (ι := oz_D3clsl_4) oz_D3cls_13 hA15 eA15 (by decide +kernel)) (any_subA (lₚ := [1]) (by decide +kernel))) (pf15_0_0) (m15_1) ((congrArg (fun q : Nat => (q : Int)) (eN15 1)).trans em15_1) (y15_0_1) (((eF15 0 1).trans ey15_0_1))  (show inr (z18) from gz18) (show inr ((x4_3 + 1)) from q_366 b5 j4_2) (show (0) ≤ ((x4_3 + 1)) from q_29 j4_2) (show ((x4_3 + 1)) ≤ (0) ∨ ((x4_3 + 1)) ≤ (4) from q_365 b5) (show 0 ≤ (y15_0_1) ∧ (y15_0_1) ≤ (m15_1) ∧ (m15_1) ≤ 65536 from pz15_0) rfl
abbrev V196_Row : vV := [(0, 10, [(4, 0), (4, 0), (4, 0), (4, 0), (0, 0), (4, 0), (0, 0), (2, 0), (0, 0)]), (0, 7, [(4, 0), (0, 0), (1, 0), (0, 0), (0, 0)]), (1, 0, []), (0, 5, [(4, 0), (4, 0), (4, 0), (4, 0), (0, 0), (0, 0), (0, 0), (4, 0), (4, 0), (0, 0), (0, 0), (0, 0), (0, 0), (0, 0), (0, 0), (0, 0), (0, 0), (0, 0), (0, 0)]), (0, 7, [(4, 0), (0, 0), (1, 0), (0, 0), (0, 0)]), (1, 0, [])]
theorem len_V196_Row_oz_D3cls : (V196_Row).length = 6 := by decide +kernel
theorem oz_D3cls_15 : vsub V196_Row V161_Br [1, 5, 2] = true := by decide +kernel
theorem oz_D3cls_16 : vmov V196_Row [1, 5, 2] [2] = true := by decide +kernel
theorem oz_D3cls_17 : vsub V196_Row V159 [1, 2] = true := by decide +kernel
theorem oz_D3cls_18 : vmov V196_Row [1, 2] [1] = true := by decide +kernel
theorem oz_D3cls_19 : vsub V196_Row V160 [1, 2] = true := by decide +kernel
def oz_D3clsl_5 : List (Nat × Nat) := [(1, 0), (1, 1), (1, 2)]
theorem oz_D3cls_20 : (oz_D3clsl_5).all (fun p => !tbz 30064771072 (Nat.add (Nat.mul 32 p.1) p.2)) = true := by decide +kernel
def oz_D3clsl_6 : List Nat := [2]
theorem oz_D3cls_21 : (oz_D3clsl_6).all (fun p => !tbz 4 p) = true := by decide +kernel
def oz_D3clsl_7 : List Nat := [1, 5, 2]
theorem oz_D3cls_22 : okc oz_D3clsl_7 526849 = true := by decide +kernel
def oz_D3clsl_8 : List Nat := [1, 2]
theorem oz_D3cls_23 : okc oz_D3clsl_8 1025 = true := by decide +kernel
/-- Tags.packLiterals: this, #1, #1.bytes, this.finder, this.finder.data, this.finder.data.bytes -/
theorem C196_Row {σE : rS} {D N : Nat → Nat} {F : hF} {A : hA} {d c s : Nat} {Q : wQ} (H : HW V196_Row σE D N F A) {a2 a3 : Int} (pf2 : F 1 0 = (D 2 : Int)) (pf3 : F 0 1 = (D 3 : Int)) (pf4 : F 3 0 = (D 4 : Int)) (pf5 : F 4 0 = (D 5 : Int)) (n2 : Int) (en2 : (N 2 : Int) = n2) (n5 : Int) (en5 : (N 5 : Int) = n5) (u1_1 : Int) (eu1_1 : F 1 1 = u1_1) (u4_1 : Int) (eu4_1 : F 4 1 = u4_1) (h0 : inr (a2)) (h1 : inr (a3)) (h2 : 0 ≤ (u1_1) ∧ (u1_1) ≤ (n2) ∧ (n2) ≤ 65536) (h3 : 0 ≤ (u4_1) ∧ (u4_1) ≤ (n5) ∧ (n5) ≤ 65536) (h4 : 0 ≤ (a2) ∧ 0 ≤ (a3) ∧ (a2) + (a3) ≤ (n5)) (k : ∀ (σ : rS) (Dₚ Nₚ : Nat → Nat) (Fₚ : hF) (Aₚ : hA) (cₚ sₚ : Nat), HW V196_Row σ Dₚ Nₚ Fₚ Aₚ → OUT (V196_Row).length D N σE c s Dₚ Nₚ σ cₚ sₚ → SD [2] D Dₚ → SD [2] N Nₚ → SF [(1, 0), (1, 1), (1, 2)] F Fₚ → SA [2] A Aₚ → Fₚ 1 0 = (Dₚ 2 : Int) → ∀ m2 : Int, (Nₚ 2 : Int) = m2 → ∀ y1_1 : Int, Fₚ 1 1 = y1_1 → (0 ≤ (y1_1) ∧ (y1_1) ≤ (m2) ∧ (m2) ≤ 65536) → Q none σ cₚ sₚ) : Ew 196 (d + 3) 0 (rargs 0 [.ref (D 0), .ref (D 1), I a2, I a3]) [] σE c s Q := by
  have O := OUT_refl (n := (V196_Row).length) (D := D) (N := N) (σ := σE) (c := c) (s := s)
  have HE := H
  have r1 : (-2147483648 : Int) ≤ u1_1 ∧ u1_1 ≤ 2147483647 := rngE (show (-2147483648 : Int) ≤ F 1 1 ∧ F 1 1 ≤ 2147483647 from H.krg 1 1 (ltn len_V196_Row_oz_D3cls rfl)) (show F 1 1 = u1_1 from (eu1_1))
  have r2 : (-2147483648 : Int) ≤ u4_1 ∧ u4_1 ≤ 2147483647 := rngE (show (-2147483648 : Int) ≤ F 4 1 ∧ F 4 1 ≤ 2147483647 from H.krg 4 1 (ltn len_V196_Row_oz_D3cls rfl)) (show F 4 1 = u4_1 from (eu4_1))
  have r3 : (0 : Int) ≤ n2 ∧ n2 ≤ 1000000 := nleE (H.nle 2 (ltn len_V196_Row_oz_D3cls rfl)) (show (N 2 : Int) = n2 from en2)
  have r4 : (0 : Int) ≤ n5 ∧ n5 ≤ 1000000 := nleE (H.nle 5 (ltn len_V196_Row_oz_D3cls rfl)) (show (N 5 : Int) = n5 from en5)
  refine Ew_of (pcₚ := 1) (fun _ => x_iload_n rfl rfl) ?_
  refine w_ifne (t := 5) rfl rfl (show inr (a3) from h1) (fun b5 => ?_) (fun b5 => ?_)
  · refine Ew_of (pcₚ := 6) (fun _ => x_iload_n rfl rfl) ?_
    refine Ew_of (pcₚ := 7) (fun _ => x_iconst rfl) ?_
    refine w_isub rfl ?_
    refine Ew_of (pcₚ := 10) (fun _ => x_istore rfl) ?_
    have hc63 : ∀ (ls : rO) (σ : rS) (D_c63 N_c63 : Nat → Nat) (c_c63 s_c63 : Nat) (F_c63 : hF) (A_c63 : hA) , rlook ls 0 = some (.ref (D_c63 0)) → rlook ls 1 = some (.ref (D_c63 1)) → rlook ls 2 = some (I (a2)) → rlook ls 3 = some (I (a3)) → HW V196_Row σ D_c63 N_c63 F_c63 A_c63 → OUT (V196_Row).length D N σE c s D_c63 N_c63 σ c_c63 s_c63 → SD [2] D D_c63 → SD [2] N N_c63 → SF [(1, 0), (1, 1), (1, 2)] F F_c63 → SA [2] A A_c63 → F_c63 1 0 = (D_c63 2 : Int) → ∀ mc63_2 : Int, (N_c63 2 : Int) = mc63_2 → ∀ yc63_1_1 : Int, F_c63 1 1 = yc63_1_1 → (0 ≤ (yc63_1_1) ∧ (yc63_1_1) ≤ (mc63_2) ∧ (mc63_2) ≤ 65536) → Ew 196 (d + 3) 63 ls [] σ c_c63 s_c63 Q := by
     as_aux_lemma =>
      intro  ls σ D_c63 N_c63 c_c63 s_c63 F_c63 A_c63  lc63_0 lc63_1 lc63_2 lc63_3 H O hD_c63 hN_c63 hS_c63 hA_c63 pmc63_2 mc63_2 emc63_2 yc63_1_1 eyc63_1_1  jc63_0
      have cF_c63 : SF oz_D3clsl_5 F F_c63 := SF_trans (SF_refl) hS_c63 (any_sub (by decide +kernel))
      have mF_c63 := SFm_of cF_c63 oz_D3cls_20
      have cA_c63 : SA oz_D3clsl_6 A A_c63 := SA_trans (SA_refl) hA_c63 (any_subA (by decide +kernel))
      have mA_c63 := SAm_of cA_c63 oz_D3cls_21
      have cD_c63 : SD oz_D3clsl_6 D D_c63 := SD_trans (SD_refl) hD_c63 (any_subA (by decide +kernel))
      have mD_c63 := SDm_of cD_c63 oz_D3cls_21
      have cN_c63 : SD oz_D3clsl_6 N N_c63 := SD_trans (SD_refl) hN_c63 (any_subA (by decide +kernel))
      have mN_c63 := SDm_of cN_c63 oz_D3cls_21
      have r6 : (0 : Int) ≤ mc63_2 ∧ mc63_2 ≤ 1000000 := nleE (H.nle 2 (ltn len_V196_Row_oz_D3cls rfl)) (show (N_c63 2 : Int) = mc63_2 from emc63_2)
      have r7 : (-2147483648 : Int) ≤ yc63_1_1 ∧ yc63_1_1 ≤ 2147483647 := rngE (show (-2147483648 : Int) ≤ F_c63 1 1 ∧ F_c63 1 1 ≤ 2147483647 from H.krg 1 1 (ltn len_V196_Row_oz_D3cls rfl)) (show F_c63 1 1 = yc63_1_1 from (eyc63_1_1))
      refine Ew_of (pcₚ := 64) (fun _ => x_aload_n rfl lc63_1) ?_
      refine Ew_of (pcₚ := 65) (fun _ => x_aload_n rfl lc63_0) ?_
      refine v_g H (o := 0) (v := .ref (D_c63 3)) rfl rfl rfl rfl rfl (vrf ((mF_c63 0 1 rfl).trans ((pf3).trans (congrArg (fun q : Nat => (q : Int)) (mD_c63 3 rfl).symm)))) ?_
      refine v_g H (o := 3) (v := .ref (D_c63 4)) rfl rfl rfl rfl rfl (vrf ((mF_c63 3 0 rfl).trans ((pf4).trans (congrArg (fun q : Nat => (q : Int)) (mD_c63 4 rfl).symm)))) ?_
      refine v_g H (o := 4) (v := .ref (D_c63 5)) rfl rfl rfl rfl rfl (vrf ((mF_c63 4 0 rfl).trans ((pf5).trans (congrArg (fun q : Nat => (q : Int)) (mD_c63 5 rfl).symm)))) ?_
      refine Ew_of (pcₚ := 75) (fun _ => x_iload_n rfl lc63_2) ?_
      refine Ew_of (pcₚ := 76) (fun _ => x_iload_n rfl lc63_3) ?_
      refine v_inv H (o := 1) rfl rfl rfl rfl rfl rfl (by rfl) (C161_Br (D := puc 526849 D_c63) (N := puc 526849 N_c63) (HW_subc H oz_D3cls_15 oz_D3cls_22) (pmc63_2) (n5) ((congrArg (fun q : Nat => (q : Int)) (mN_c63 5 rfl)).trans (en5)) (mc63_2) (emc63_2) (yc63_1_1) ((eyc63_1_1)) (A_c63 2) (rfl) (show inr (a2) from h0) (show inr (a3) from h1) (show 0 ≤ (yc63_1_1) ∧ (yc63_1_1) ≤ (mc63_2) ∧ (mc63_2) ≤ 65536 from jc63_0) (show (a3) < 0 ∨ 0 ≤ (a2) ∧ (a2) + (a3) ≤ (n5) from q_2764 h4) (fun σ8 D8ₚ N8ₚ F8ₚ A8ₚ c8 s8 Hₚ Oₚ hD8 hN8 hS8 hA8 pm8_2 m8_2 em8_2 y8_0_1 ey8_0_1 w8_2 ew8_2 pz8_0 pz8_1 pz8_2 => ⟨rfl, ?_⟩))
      refine v_backMc (c := c_c63) (s := s_c63) H oz_D3cls_15 oz_D3cls_22 Hₚ Oₚ hD8 oz_D3cls_16 (fun D8 N8 F8 A8 H Oₚ eD8 eN8 eF8 eA8 => ?_)
      have O := OUT_trans O Oₚ
      -- Row.addPart
      have cF8 : SF oz_D3clsl_5 F F8 := SF_trans (cF_c63) (SF_gluc (ι := oz_D3clsl_7) oz_D3cls_22 hS8 eF8 (by decide +kernel)) (any_sub (lₚ := [(1, 0), (1, 1), (1, 2)]) (by decide +kernel))
      have mF8 := SFm_of cF8 oz_D3cls_20
      have cA8 : SA oz_D3clsl_6 A A8 := SA_trans (cA_c63) (SA_gluc (ι := oz_D3clsl_7) oz_D3cls_22 hA8 eA8 (by decide +kernel)) (any_subA (lₚ := [2]) (by decide +kernel))
      have mA8 := SAm_of cA8 oz_D3cls_21
      have cD8 : SD oz_D3clsl_6 D D8 := SD_trans (cD_c63) (SD_gluc (ι := oz_D3clsl_7) oz_D3cls_22 hD8 eD8 (by decide +kernel)) (any_subA (lₚ := [2]) (by decide +kernel))
      have mD8 := SDm_of cD8 oz_D3cls_21
      have cN8 : SD oz_D3clsl_6 N N8 := SD_trans (cN_c63) (SD_gluc (ι := oz_D3clsl_7) oz_D3cls_22 hN8 eN8 (by decide +kernel)) (any_subA (lₚ := [2]) (by decide +kernel))
      have mN8 := SDm_of cN8 oz_D3cls_21
      have pf8_1_0 : F8 1 0 = (D8 2 : Int) := (eF8 1 0).trans (pm8_2.trans (congrArg (fun q : Nat => (q : Int)) (eD8 2).symm))
      have r9 : (0 : Int) ≤ m8_2 ∧ m8_2 ≤ 1000000 := nleE (H.nle 2 (ltn len_V196_Row_oz_D3cls rfl)) (show (N8 2 : Int) = m8_2 from (congrArg (fun q : Nat => (q : Int)) (eN8 2)).trans em8_2)
      have r10 : (-2147483648 : Int) ≤ y8_0_1 ∧ y8_0_1 ≤ 2147483647 := rngE (show (-2147483648 : Int) ≤ F8 1 1 ∧ F8 1 1 ≤ 2147483647 from H.krg 1 1 (ltn len_V196_Row_oz_D3cls rfl)) (show F8 1 1 = y8_0_1 from ((eF8 1 1).trans ey8_0_1))
      exact w_ret rfl (k _ _ _ _ _ _ _ H O (cD8) (cN8) (cF8) (cA8) (pf8_1_0) (m8_2) ((congrArg (fun q : Nat => (q : Int)) (eN8 2)).trans em8_2) (y8_0_1) (((eF8 1 1).trans ey8_0_1)) (show 0 ≤ (y8_0_1) ∧ (y8_0_1) ≤ (m8_2) ∧ (m8_2) ≤ 65536 from pz8_0))
    refine Ew_of (pcₚ := 12) (fun _ => x_iload rfl rk_s) ?_
    refine Ew_of (pcₚ := 14) (fun _ => x_bipush (z := 60) rfl (by decide)) ?_
    refine w_icmpge (t := 28) rfl rfl (show inr ((a3 - 1)) from q_2857 h1 h4) (show inr (60) from q_715) (fun b11 => ?_) (fun b11 => ?_)
    · refine Ew_of (pcₚ := 30) (fun _ => x_iload rfl rk_s) ?_
      refine Ew_of (pcₚ := 33) (fun _ => x_sipush (z := 256) rfl (by decide)) ?_
      have hc41 : ∀ (tc41_0 : Int), ∀ (ls : rO) (σ : rS) (F_c41 : hF) (A_c41 : hA) , rlook ls 0 = some (.ref (D 0)) → rlook ls 1 = some (.ref (D 1)) → rlook ls 2 = some (I (a2)) → rlook ls 3 = some (I (a3)) → rlook ls 4 = some (I ((a3 - 1))) → HW V196_Row σ D N F_c41 A_c41 → OUT (V196_Row).length D N σE c s D N σ c s → SF [] F F_c41 → SA [] A A_c41 → (inr (tc41_0)) → ((((a3 - 1)) ≥ (256) ∧ (tc41_0) = (2)) ∨ (((a3 - 1)) < (256) ∧ (tc41_0) = (1))) → Ew 196 (d + 3) 41 ls [I (tc41_0)] σ c s Q := by
       as_aux_lemma =>
        intro tc41_0 ls σ F_c41 A_c41  lc41_0 lc41_1 lc41_2 lc41_3 lc41_4 H O hS_c41 hA_c41     jc41_0 jc41_1
        have cF_c41 : SF oz_D3clsl_5 F F_c41 := SF_trans (SF_refl) hS_c41 (any_sub (by decide +kernel))
        have mF_c41 := SFm_of cF_c41 oz_D3cls_20
        have cA_c41 : SA oz_D3clsl_6 A A_c41 := SA_trans (SA_refl) hA_c41 (any_subA (by decide +kernel))
        have mA_c41 := SAm_of cA_c41 oz_D3cls_21
        refine Ew_of (pcₚ := 43) (fun _ => x_istore rfl) ?_
        refine Ew_of (pcₚ := 44) (fun _ => x_aload_n rfl (rk_o (lc41_1) rfl rfl)) ?_
        refine Ew_of (pcₚ := 46) (fun _ => x_bipush (z := 59) rfl (by decide)) ?_
        refine Ew_of (pcₚ := 48) (fun _ => x_iload rfl rk_s) ?_
        refine w_iadd rfl ?_
        refine Ew_of (pcₚ := 50) (fun _ => x_iconst rfl) ?_
        refine w_ishlA rfl (fun z12 gz12 => ?_)
        refine v_inv H (o := 1) rfl rfl rfl rfl rfl rfl (by rfl) (C159 (D := puc 1025 D) (N := puc 1025 N) (HW_subc H oz_D3cls_17 oz_D3cls_23) (((hS_c41 1 0 rfl)).trans (pf2)) (n2) (en2) (u1_1) (((hS_c41 1 1 rfl).trans (eu1_1))) (show inr (z12) from gz12) (show 0 ≤ (u1_1) ∧ (u1_1) ≤ (n2) ∧ (n2) ≤ 65536 from h2) (fun σ13 D13ₚ N13ₚ F13ₚ A13ₚ c13 s13 Hₚ Oₚ hD13 hN13 hS13 hA13 pm13_1 m13_1 em13_1 y13_0_1 ey13_0_1 pz13_0 pz13_1 pz13_2 => ⟨rfl, ?_⟩))
        refine v_backMc (c := c) (s := s) H oz_D3cls_17 oz_D3cls_23 Hₚ Oₚ hD13 oz_D3cls_18 (fun D13 N13 F13 A13 H Oₚ eD13 eN13 eF13 eA13 => ?_)
        have O := OUT_trans O Oₚ
        -- Row.add
        have cF13 : SF oz_D3clsl_5 F F13 := SF_trans (cF_c41) (SF_gluc (ι := oz_D3clsl_8) oz_D3cls_23 hS13 eF13 (by decide +kernel)) (any_sub (lₚ := [(1, 0), (1, 1), (1, 2)]) (by decide +kernel))
        have mF13 := SFm_of cF13 oz_D3cls_20
        have cA13 : SA oz_D3clsl_6 A A13 := SA_trans (cA_c41) (SA_gluc (ι := oz_D3clsl_8) oz_D3cls_23 hA13 eA13 (by decide +kernel)) (any_subA (lₚ := [2]) (by decide +kernel))
        have mA13 := SAm_of cA13 oz_D3cls_21
        have cD13 : SD oz_D3clsl_6 D D13 := SD_trans (SD_refl) (SD_gluc (ι := oz_D3clsl_8) oz_D3cls_23 hD13 eD13 (by decide +kernel)) (any_subA (lₚ := [2]) (by decide +kernel))
        have mD13 := SDm_of cD13 oz_D3cls_21
        have cN13 : SD oz_D3clsl_6 N N13 := SD_trans (SD_refl) (SD_gluc (ι := oz_D3clsl_8) oz_D3cls_23 hN13 eN13 (by decide +kernel)) (any_subA (lₚ := [2]) (by decide +kernel))
        have mN13 := SDm_of cN13 oz_D3cls_21
        have pf13_1_0 : F13 1 0 = (D13 2 : Int) := (eF13 1 0).trans (pm13_1.trans (congrArg (fun q : Nat => (q : Int)) (eD13 2).symm))
        have r14 : (0 : Int) ≤ m13_1 ∧ m13_1 ≤ 1000000 := nleE (H.nle 2 (ltn len_V196_Row_oz_D3cls rfl)) (show (N13 2 : Int) = m13_1 from (congrArg (fun q : Nat => (q : Int)) (eN13 2)).trans em13_1)
        have r15 : (-2147483648 : Int) ≤ y13_0_1 ∧ y13_0_1 ≤ 2147483647 := rngE (show (-2147483648 : Int) ≤ F13 1 1 ∧ F13 1 1 ≤ 2147483647 from H.krg 1 1 (ltn len_V196_Row_oz_D3cls rfl)) (show F13 1 1 = y13_0_1 from ((eF13 1 1).trans ey13_0_1))
        refine Ew_of (pcₚ := 55) (fun _ => x_aload_n rfl (rk_o (lc41_1) rfl rfl)) ?_
        refine Ew_of (pcₚ := 57) (fun _ => x_iload rfl (rk_o (lc41_4) rfl rfl)) ?_
        refine w_i2l rfl (show inr ((a3 - 1)) from q_2858 b11 h1) ?_
        refine Ew_of (pcₚ := 60) (fun _ => x_iload rfl rk_s) ?_
        refine Ew_stk (congrArg (fun qz : Nat => ([I (tc41_0), J ((a3 - 1)), .ref qz] : List Value)) (show D13 1 = D 1 from mD13 1 rfl).symm) ?_
        refine v_inv H (o := 1) rfl rfl rfl rfl rfl rfl (by rfl) (C160 (D := puc 1025 D13) (N := puc 1025 N13) (HW_subc H oz_D3cls_19 oz_D3cls_23) (pf13_1_0) (m13_1) ((congrArg (fun q : Nat => (q : Int)) (eN13 2)).trans em13_1) (y13_0_1) (((eF13 1 1).trans ey13_0_1)) (show inrJ ((a3 - 1)) from q_2859 b11 h1) (show inr (tc41_0) from jc41_0) (show 0 ≤ (y13_0_1) ∧ (y13_0_1) ≤ (m13_1) ∧ (m13_1) ≤ 65536 from pz13_0) (fun σ16 D16ₚ N16ₚ F16ₚ A16ₚ c16 s16 Hₚ Oₚ hD16 hN16 hS16 hA16 pm16_1 m16_1 em16_1 y16_0_1 ey16_0_1 pz16_0 pz16_1 => ⟨rfl, ?_⟩))
        refine v_backMc (c := (c + c13)) (s := (s + s13)) H oz_D3cls_19 oz_D3cls_23 Hₚ Oₚ hD16 oz_D3cls_18 (fun D16 N16 F16 A16 H Oₚ eD16 eN16 eF16 eA16 => ?_)
        have O := OUT_trans O Oₚ
        -- Row.addNumber
        have cF16 : SF oz_D3clsl_5 F F16 := SF_trans (cF13) (SF_gluc (ι := oz_D3clsl_8) oz_D3cls_23 hS16 eF16 (by decide +kernel)) (any_sub (lₚ := [(1, 0), (1, 1), (1, 2)]) (by decide +kernel))
        have mF16 := SFm_of cF16 oz_D3cls_20
        have cA16 : SA oz_D3clsl_6 A A16 := SA_trans (cA13) (SA_gluc (ι := oz_D3clsl_8) oz_D3cls_23 hA16 eA16 (by decide +kernel)) (any_subA (lₚ := [2]) (by decide +kernel))
        have mA16 := SAm_of cA16 oz_D3cls_21
        have cD16 : SD oz_D3clsl_6 D D16 := SD_trans (cD13) (SD_gluc (ι := oz_D3clsl_8) oz_D3cls_23 hD16 eD16 (by decide +kernel)) (any_subA (lₚ := [2]) (by decide +kernel))
        have mD16 := SDm_of cD16 oz_D3cls_21
        have cN16 : SD oz_D3clsl_6 N N16 := SD_trans (cN13) (SD_gluc (ι := oz_D3clsl_8) oz_D3cls_23 hN16 eN16 (by decide +kernel)) (any_subA (lₚ := [2]) (by decide +kernel))
        have mN16 := SDm_of cN16 oz_D3cls_21
        have pf16_1_0 : F16 1 0 = (D16 2 : Int) := (eF16 1 0).trans (pm16_1.trans (congrArg (fun q : Nat => (q : Int)) (eD16 2).symm))
        have r17 : (0 : Int) ≤ m16_1 ∧ m16_1 ≤ 1000000 := nleE (H.nle 2 (ltn len_V196_Row_oz_D3cls rfl)) (show (N16 2 : Int) = m16_1 from (congrArg (fun q : Nat => (q : Int)) (eN16 2)).trans em16_1)
        have r18 : (-2147483648 : Int) ≤ y16_0_1 ∧ y16_0_1 ≤ 2147483647 := rngE (show (-2147483648 : Int) ≤ F16 1 1 ∧ F16 1 1 ≤ 2147483647 from H.krg 1 1 (ltn len_V196_Row_oz_D3cls rfl)) (show F16 1 1 = y16_0_1 from ((eF16 1 1).trans ey16_0_1))
        exact hc63  _ _ _ _ _ _ _ _  ((rk_o (lc41_0) rfl rfl).trans (congrArg (fun q : Nat => some (Value.ref q)) (mD16 0 rfl).symm)) ((rk_o (lc41_1) rfl rfl).trans (congrArg (fun q : Nat => some (Value.ref q)) (mD16 1 rfl).symm)) (rk_o (lc41_2) rfl rfl) (rk_o (lc41_3) rfl rfl) H O (SD_trans (SD_trans (SD_refl) (SD_gluc (ι := oz_D3clsl_8) oz_D3cls_23 hD13 eD13 (by decide +kernel)) (any_subA (lₚ := [2]) (by decide +kernel))) (SD_gluc (ι := oz_D3clsl_8) oz_D3cls_23 hD16 eD16 (by decide +kernel)) (any_subA (lₚ := [2]) (by decide +kernel))) (SD_trans (SD_trans (SD_refl) (SD_gluc (ι := oz_D3clsl_8) oz_D3cls_23 hN13 eN13 (by decide +kernel)) (any_subA (lₚ := [2]) (by decide +kernel))) (SD_gluc (ι := oz_D3clsl_8) oz_D3cls_23 hN16 eN16 (by decide +kernel)) (any_subA (lₚ := [2]) (by decide +kernel))) (SF_trans (SF_trans (SF_trans (SF_refl) hS_c41 (any_sub (by decide +kernel))) (SF_gluc (ι := oz_D3clsl_8) oz_D3cls_23 hS13 eF13 (by decide +kernel)) (any_sub (lₚ := [(1, 0), (1, 1), (1, 2)]) (by decide +kernel))) (SF_gluc (ι := oz_D3clsl_8) oz_D3cls_23 hS16 eF16 (by decide +kernel)) (any_sub (lₚ := [(1, 0), (1, 1), (1, 2)]) (by decide +kernel))) (SA_trans (SA_trans (SA_trans (SA_refl) hA_c41 (any_subA (by decide +kernel))) (SA_gluc (ι := oz_D3clsl_8) oz_D3cls_23 hA13 eA13 (by decide +kernel)) (any_subA (lₚ := [2]) (by decide +kernel))) (SA_gluc (ι := oz_D3clsl_8) oz_D3cls_23 hA16 eA16 (by decide +kernel)) (any_subA (lₚ := [2]) (by decide +kernel))) (pf16_1_0) (m16_1) ((congrArg (fun q : Nat => (q : Int)) (eN16 2)).trans em16_1) (y16_0_1) (((eF16 1 1).trans ey16_0_1))  (show 0 ≤ (y16_0_1) ∧ (y16_0_1) ≤ (m16_1) ∧ (m16_1) ≤ 65536 from pz16_0)
      refine w_icmpge (t := 40) rfl rfl (show inr ((a3 - 1)) from q_2858 b11 h1) (show inr (256) from q_716) (fun b19 => ?_) (fun b19 => ?_)
      · refine Ew_of (pcₚ := 41) (fun _ => x_iconst rfl) ?_
        exact hc41 (2) _ _ _ _  (rk_o (rfl) rfl rfl) (rk_o (rfl) rfl rfl) (rk_o (rfl) rfl rfl) (rk_o (rfl) rfl rfl) (rk_s) H O (SF_refl) (SA_refl)     (show inr (2) from q_55) (show (((a3 - 1)) ≥ (256) ∧ (2) = (2)) ∨ (((a3 - 1)) < (256) ∧ (2) = (1)) from q_2860 b19)
      · refine Ew_of (pcₚ := 37) (fun _ => x_iconst rfl) ?_
        refine Ew_of (pcₚ := 41) (fun _ => x_goto rfl rfl) ?_
        exact hc41 (1) _ _ _ _  (rk_o (rfl) rfl rfl) (rk_o (rfl) rfl rfl) (rk_o (rfl) rfl rfl) (rk_o (rfl) rfl rfl) (rk_s) H O (SF_refl) (SA_refl)     (show inr (1) from q_23) (show (((a3 - 1)) ≥ (256) ∧ (1) = (2)) ∨ (((a3 - 1)) < (256) ∧ (1) = (1)) from q_2861 b19)
    · refine Ew_of (pcₚ := 18) (fun _ => x_aload_n rfl (rk_o (rfl) rfl rfl)) ?_
      refine Ew_of (pcₚ := 20) (fun _ => x_iload rfl rk_s) ?_
      refine Ew_of (pcₚ := 21) (fun _ => x_iconst rfl) ?_
      refine w_ishlA rfl (fun z20 gz20 => ?_)
      refine v_inv H (o := 1) rfl rfl rfl rfl rfl rfl (by rfl) (C159 (D := puc 1025 D) (N := puc 1025 N) (HW_subc H oz_D3cls_17 oz_D3cls_23) (pf2) (n2) (en2) (u1_1) ((eu1_1)) (show inr (z20) from gz20) (show 0 ≤ (u1_1) ∧ (u1_1) ≤ (n2) ∧ (n2) ≤ 65536 from h2) (fun σ21 D21ₚ N21ₚ F21ₚ A21ₚ c21 s21 Hₚ Oₚ hD21 hN21 hS21 hA21 pm21_1 m21_1 em21_1 y21_0_1 ey21_0_1 pz21_0 pz21_1 pz21_2 => ⟨rfl, ?_⟩))
      refine v_backMc (c := c) (s := s) H oz_D3cls_17 oz_D3cls_23 Hₚ Oₚ hD21 oz_D3cls_18 (fun D21 N21 F21 A21 H Oₚ eD21 eN21 eF21 eA21 => ?_)
      have O := OUT_trans O Oₚ
      -- Row.add
      have cF21 : SF oz_D3clsl_5 F F21 := SF_trans (SF_refl) (SF_gluc (ι := oz_D3clsl_8) oz_D3cls_23 hS21 eF21 (by decide +kernel)) (any_sub (lₚ := [(1, 0), (1, 1), (1, 2)]) (by decide +kernel))
      have mF21 := SFm_of cF21 oz_D3cls_20
      have cA21 : SA oz_D3clsl_6 A A21 := SA_trans (SA_refl) (SA_gluc (ι := oz_D3clsl_8) oz_D3cls_23 hA21 eA21 (by decide +kernel)) (any_subA (lₚ := [2]) (by decide +kernel))
      have mA21 := SAm_of cA21 oz_D3cls_21
      have cD21 : SD oz_D3clsl_6 D D21 := SD_trans (SD_refl) (SD_gluc (ι := oz_D3clsl_8) oz_D3cls_23 hD21 eD21 (by decide +kernel)) (any_subA (lₚ := [2]) (by decide +kernel))
      have mD21 := SDm_of cD21 oz_D3cls_21
      have cN21 : SD oz_D3clsl_6 N N21 := SD_trans (SD_refl) (SD_gluc (ι := oz_D3clsl_8) oz_D3cls_23 hN21 eN21 (by decide +kernel)) (any_subA (lₚ := [2]) (by decide +kernel))
      have mN21 := SDm_of cN21 oz_D3cls_21
      have pf21_1_0 : F21 1 0 = (D21 2 : Int) := (eF21 1 0).trans (pm21_1.trans (congrArg (fun q : Nat => (q : Int)) (eD21 2).symm))
      have r22 : (0 : Int) ≤ m21_1 ∧ m21_1 ≤ 1000000 := nleE (H.nle 2 (ltn len_V196_Row_oz_D3cls rfl)) (show (N21 2 : Int) = m21_1 from (congrArg (fun q : Nat => (q : Int)) (eN21 2)).trans em21_1)
      have r23 : (-2147483648 : Int) ≤ y21_0_1 ∧ y21_0_1 ≤ 2147483647 := rngE (show (-2147483648 : Int) ≤ F21 1 1 ∧ F21 1 1 ≤ 2147483647 from H.krg 1 1 (ltn len_V196_Row_oz_D3cls rfl)) (show F21 1 1 = y21_0_1 from ((eF21 1 1).trans ey21_0_1))
      refine Ew_of (pcₚ := 63) (fun _ => x_goto rfl rfl) ?_
      exact hc63  _ _ _ _ _ _ _ _  ((rk_o (rfl) rfl rfl).trans (congrArg (fun q : Nat => some (Value.ref q)) (mD21 0 rfl).symm)) ((rk_o (rfl) rfl rfl).trans (congrArg (fun q : Nat => some (Value.ref q)) (mD21 1 rfl).symm)) (rk_o (rfl) rfl rfl) (rk_o (rfl) rfl rfl) H O (SD_trans (SD_refl) (SD_gluc (ι := oz_D3clsl_8) oz_D3cls_23 hD21 eD21 (by decide +kernel)) (any_subA (lₚ := [2]) (by decide +kernel))) (SD_trans (SD_refl) (SD_gluc (ι := oz_D3clsl_8) oz_D3cls_23 hN21 eN21 (by decide +kernel)) (any_subA (lₚ := [2]) (by decide +kernel))) (SF_trans (SF_refl) (SF_gluc (ι := oz_D3clsl_8) oz_D3cls_23 hS21 eF21 (by decide +kernel)) (any_sub (lₚ := [(1, 0), (1, 1), (1, 2)]) (by decide +kernel))) (SA_trans (SA_refl) (SA_gluc (ι := oz_D3clsl_8) oz_D3cls_23 hA21 eA21 (by decide +kernel)) (any_subA (lₚ := [2]) (by decide +kernel))) (pf21_1_0) (m21_1) ((congrArg (fun q : Nat => (q : Int)) (eN21 2)).trans em21_1) (y21_0_1) (((eF21 1 1).trans ey21_0_1))  (show 0 ≤ (y21_0_1) ∧ (y21_0_1) ≤ (m21_1) ∧ (m21_1) ≤ 65536 from pz21_0)
  · exact w_ret rfl (k _ _ _ _ _ _ _ H O (SD_refl) (SD_refl) (SF_refl) (SA_refl) (pf2) (n2) (en2) (u1_1) ((eu1_1)) (show 0 ≤ (u1_1) ∧ (u1_1) ≤ (n2) ∧ (n2) ≤ 65536 from h2))
abbrev V197_Row : vV := [(0, 7, [(4, 0), (0, 0), (1, 0), (0, 0), (0, 0)]), (1, 0, [])]
theorem len_V197_Row_oz_D3cls : (V197_Row).length = 2 := by decide +kernel
theorem oz_D3cls_25 : vsub V197_Row V199 [] = true := by decide +kernel
theorem oz_D3cls_26 : vsub V197_Row V198 [] = true := by decide +kernel
theorem oz_D3cls_27 : vsub V197_Row V159 [0, 1] = true := by decide +kernel
theorem oz_D3cls_28 : vmov V197_Row [0, 1] [1] = true := by decide +kernel
theorem oz_D3cls_29 : vsub V197_Row V160 [0, 1] = true := by decide +kernel
/-- Tags.packCopies: #1, #1.bytes -/
theorem C197_Row {σE : rS} {D N : Nat → Nat} {F : hF} {A : hA} {d c s : Nat} {Q : wQ} (H : HW V197_Row σE D N F A) {a2 a3 : Int} (pf1 : F 0 0 = (D 1 : Int)) (n1 : Int) (en1 : (N 1 : Int) = n1) (u0_1 : Int) (eu0_1 : F 0 1 = u0_1) (h0 : inr (a2)) (h1 : inr (a3)) (h2 : 0 ≤ (u0_1) ∧ (u0_1) ≤ (n1) ∧ (n1) ≤ 65536) (h3 : 0 ≤ (a2) ∧ (a2) ≤ 65536) (k : ∀ (σ : rS) (Dₚ Nₚ : Nat → Nat) (Fₚ : hF) (Aₚ : hA) (cₚ sₚ : Nat), HW V197_Row σ Dₚ Nₚ Fₚ Aₚ → OUT (V197_Row).length D N σE c s Dₚ Nₚ σ cₚ sₚ → SD [1] D Dₚ → SD [1] N Nₚ → SF [(0, 0), (0, 1), (0, 2)] F Fₚ → SA [1] A Aₚ → Fₚ 0 0 = (Dₚ 1 : Int) → ∀ m1 : Int, (Nₚ 1 : Int) = m1 → ∀ y0_1 : Int, Fₚ 0 1 = y0_1 → (0 ≤ (y0_1) ∧ (y0_1) ≤ (m1) ∧ (m1) ≤ 65536) → Q none σ cₚ sₚ) : Ew 197 (d + 3) 0 (rargs 0 [.ref (D 0), I a2, I a3]) [] σE c s Q := by
  have O := OUT_refl (n := (V197_Row).length) (D := D) (N := N) (σ := σE) (c := c) (s := s)
  have HE := H
  have r1 : (-2147483648 : Int) ≤ u0_1 ∧ u0_1 ≤ 2147483647 := rngE (show (-2147483648 : Int) ≤ F 0 1 ∧ F 0 1 ≤ 2147483647 from H.krg 0 1 (ltn len_V197_Row_oz_D3cls rfl)) (show F 0 1 = u0_1 from (eu0_1))
  have r2 : (0 : Int) ≤ n1 ∧ n1 ≤ 1000000 := nleE (H.nle 1 (ltn len_V197_Row_oz_D3cls rfl)) (show (N 1 : Int) = n1 from en1)
  refine Ew_of (pcₚ := 1) (fun _ => x_iload_n rfl rfl) ?_
  refine Ew_of (pcₚ := 4) (fun _ => x_sipush (z := 2048) rfl (by decide)) ?_
  have hc12 : ∀ (tc12_0 : Int), ∀ (ls : rO) (σ : rS) (F_c12 : hF) (A_c12 : hA) , rlook ls 0 = some (.ref (D 0)) → rlook ls 1 = some (I (a2)) → rlook ls 2 = some (I (a3)) → HW V197_Row σ D N F_c12 A_c12 → OUT (V197_Row).length D N σE c s D N σ c s → SF [] F F_c12 → SA [] A A_c12 → (inr (tc12_0)) → (((a3) ≥ (2048) ∧ (tc12_0) = (0)) ∨ ((a3) < (2048) ∧ (tc12_0) = (1))) → Ew 197 (d + 3) 12 ls [I (tc12_0)] σ c s Q := by
   as_aux_lemma =>
    intro tc12_0 ls σ F_c12 A_c12  lc12_0 lc12_1 lc12_2 H O hS_c12 hA_c12     jc12_0 jc12_1
    have cF_c12 : SF oz_D3clsl_2 F F_c12 := SF_trans (SF_refl) hS_c12 (any_sub (by decide +kernel))
    have mF_c12 := SFm_of cF_c12 oz_D3cls_11
    have cA_c12 : SA oz_D3clsl_3 A A_c12 := SA_trans (SA_refl) hA_c12 (any_subA (by decide +kernel))
    have mA_c12 := SAm_of cA_c12 oz_D3cls_12
    refine Ew_of (pcₚ := 13) (fun _ => x_istore_n rfl) ?_
    refine Ew_of (pcₚ := 14) (fun _ => x_iload_n rfl (rk_o (lc12_1) rfl rfl)) ?_
    refine Ew_of (pcₚ := 16) (fun _ => x_istore rfl) ?_
    refine Ew_of (pcₚ := 17) (fun _ => x_iconst rfl) ?_
    refine Ew_of (pcₚ := 19) (fun _ => x_istore rfl) ?_
    suffices hl19 : ∀ (m : Nat), ∀ (ls : rO) (σ : rS) (D_19 N_19 : Nat → Nat) (c_19 s_19 : Nat) (F_19 : hF) (A_19 : hA) (x19_4 : Int) (x19_5 : Int), rlook ls 0 = some (.ref (D_19 0)) → rlook ls 1 = some (I (a2)) → rlook ls 2 = some (I (a3)) → rlook ls 3 = some (I (tc12_0)) → rlook ls 4 = some (I (x19_4)) → rlook ls 5 = some (I (x19_5)) → HW V197_Row σ D_19 N_19 F_19 A_19 → OUT (V197_Row).length D N σE c s D_19 N_19 σ c_19 s_19 → SD [1] D D_19 → SD [1] N N_19 → SF [(0, 0), (0, 1), (0, 2)] F_c12 F_19 → SA [1] A_c12 A_19 → F_19 0 0 = (D_19 1 : Int) → ∀ m19_1 : Int, (N_19 1 : Int) = m19_1 → ∀ y19_0_1 : Int, F_19 0 1 = y19_0_1 → (inr (x19_4)) → (inr (x19_5)) → ((0) ≤ (x19_5)) → ((x19_5) ≤ (0) ∨ (x19_5) ≤ ((a2))) → (0 ≤ (y19_0_1) ∧ (y19_0_1) ≤ (m19_1) ∧ (m19_1) ≤ 65536) → ((x19_4) ≤ 65536) → (((a2)) - (x19_5)).toNat = m → Ew 197 (d + 3) 19 ls [] σ c_19 s_19 Q from
      hl19 _ _ _ _ _ _ _ _ _ (a2) (0) (rk_o (rk_o (rk_o (lc12_0) rfl rfl) rfl rfl) rfl rfl) (rk_o (rk_o (rk_o (lc12_1) rfl rfl) rfl rfl) rfl rfl) (rk_o (rk_o (rk_o (lc12_2) rfl rfl) rfl rfl) rfl rfl) (rk_o (rk_o (rk_s) rfl rfl) rfl rfl) (rk_o (rk_s) rfl rfl) (rk_s) H O (SD_refl) (SD_refl) (SF_refl) (SA_refl) (((hS_c12 0 0 rfl)).trans (pf1)) (n1) (en1) (u0_1) (((hS_c12 0 1 rfl).trans (eu0_1)))  (show inr (a2) from h0) (show inr (0) from q_20) (show (0) ≤ (0) from q_25) (show (0) ≤ (0) ∨ (0) ≤ ((a2)) from q_24) (show 0 ≤ (u0_1) ∧ (u0_1) ≤ (n1) ∧ (n1) ≤ 65536 from h2) (show (a2) ≤ 65536 from q_2862 h3) rfl
    as_aux_lemma =>
    intro m
    induction m using Nat.strongRecOn with
    | _ m ih19 =>
      intro ls σ D_19 N_19 c_19 s_19 F_19 A_19 x19_4 x19_5 l19_0 l19_1 l19_2 l19_3 l19_4 l19_5 H O hD_19 hN_19 hS_19 hA_19 pm19_1 m19_1 em19_1 y19_0_1 ey19_0_1  j19_0 j19_1 j19_2 j19_3 j19_4 j19_5 hm19
      have cF_19 : SF oz_D3clsl_2 F F_19 := SF_trans (cF_c12) hS_19 (any_sub (by decide +kernel))
      have mF_19 := SFm_of cF_19 oz_D3cls_11
      have cA_19 : SA oz_D3clsl_3 A A_19 := SA_trans (cA_c12) hA_19 (any_subA (by decide +kernel))
      have mA_19 := SAm_of cA_19 oz_D3cls_12
      have cD_19 : SD oz_D3clsl_3 D D_19 := SD_trans (SD_refl) hD_19 (any_subA (by decide +kernel))
      have mD_19 := SDm_of cD_19 oz_D3cls_12
      have cN_19 : SD oz_D3clsl_3 N N_19 := SD_trans (SD_refl) hN_19 (any_subA (by decide +kernel))
      have mN_19 := SDm_of cN_19 oz_D3cls_12
      have r3 : (0 : Int) ≤ m19_1 ∧ m19_1 ≤ 1000000 := nleE (H.nle 1 (ltn len_V197_Row_oz_D3cls rfl)) (show (N_19 1 : Int) = m19_1 from em19_1)
      have r4 : (-2147483648 : Int) ≤ y19_0_1 ∧ y19_0_1 ≤ 2147483647 := rngE (show (-2147483648 : Int) ≤ F_19 0 1 ∧ F_19 0 1 ≤ 2147483647 from H.krg 0 1 (ltn len_V197_Row_oz_D3cls rfl)) (show F_19 0 1 = y19_0_1 from (ey19_0_1))
      refine Ew_of (pcₚ := 21) (fun _ => x_iload rfl l19_5) ?_
      refine Ew_of (pcₚ := 22) (fun _ => x_iload_n rfl l19_1) ?_
      refine w_icmpge (t := 106) rfl rfl (show inr (x19_5) from j19_1) (show inr (a2) from h0) (fun b5 => ?_) (fun b5 => ?_)
      · exact w_ret rfl (k _ _ _ _ _ _ _ H O (cD_19) (cN_19) (cF_19) (cA_19) (pm19_1) (m19_1) (em19_1) (y19_0_1) ((ey19_0_1)) (show 0 ≤ (y19_0_1) ∧ (y19_0_1) ≤ (m19_1) ∧ (m19_1) ≤ 65536 from j19_4))
      · refine Ew_of (pcₚ := 27) (fun _ => x_iload rfl l19_4) ?_
        refine w_ifle (t := 106) rfl rfl (show inr (x19_4) from j19_0) (fun b6 => ?_) (fun b6 => ?_)
        · exact w_ret rfl (k _ _ _ _ _ _ _ H O (cD_19) (cN_19) (cF_19) (cA_19) (pm19_1) (m19_1) (em19_1) (y19_0_1) ((ey19_0_1)) (show 0 ≤ (y19_0_1) ∧ (y19_0_1) ≤ (m19_1) ∧ (m19_1) ≤ 65536 from j19_4))
        · refine Ew_of (pcₚ := 32) (fun _ => x_iload rfl l19_4) ?_
          refine Ew_of (pcₚ := 33) (fun _ => x_iload_n rfl l19_3) ?_
          refine w_stat24 rfl rfl (by rfl) (C199 (D := puc 0 D_19) (N := puc 0 N_19) (HW_subc H oz_D3cls_25 oz_D3cls_7) (show inr (x19_4) from j19_0) (show inr (tc12_0) from jc12_0) (show (tc12_0) = 0 ∨ (tc12_0) = 1 by omega) (show 1 ≤ (x19_4) ∧ (x19_4) ≤ 65536 from q_2863 b6 j19_5) (fun z7 σ7 F7ₚ A7ₚ Hₚ Oₚ hS7 hA7 pz7_0 pz7_1 => ⟨rfl, ?_⟩))
          refine v_backc (c := c_19) (s := s_19) H oz_D3cls_25 oz_D3cls_7 Hₚ Oₚ (fun F7 A7 H Oₚ eF7 eA7 => ?_)
          have O := OUT_trans O Oₚ
          -- Tags.firstCopy
          have cF7 : SF oz_D3clsl_2 F F7 := SF_trans (cF_19) (SF_gluc (ι := oz_D3clsl_1) oz_D3cls_7 hS7 eF7 (by decide +kernel)) (any_sub (lₚ := []) (by decide +kernel))
          have mF7 := SFm_of cF7 oz_D3cls_11
          have cA7 : SA oz_D3clsl_3 A A7 := SA_trans (cA_19) (SA_gluc (ι := oz_D3clsl_1) oz_D3cls_7 hA7 eA7 (by decide +kernel)) (any_subA (lₚ := []) (by decide +kernel))
          have mA7 := SAm_of cA7 oz_D3cls_12
          refine Ew_of (pcₚ := 38) (fun _ => x_istore rfl) ?_
          have hc93 : ∀ (ls : rO) (σ : rS) (D_c93 N_c93 : Nat → Nat) (c_c93 s_c93 : Nat) (F_c93 : hF) (A_c93 : hA) , rlook ls 0 = some (.ref (D_c93 0)) → rlook ls 1 = some (I (a2)) → rlook ls 2 = some (I (a3)) → rlook ls 3 = some (I (tc12_0)) → rlook ls 4 = some (I (x19_4)) → rlook ls 5 = some (I (x19_5)) → rlook ls 6 = some (I (z7)) → HW V197_Row σ D_c93 N_c93 F_c93 A_c93 → OUT (V197_Row).length D N σE c s D_c93 N_c93 σ c_c93 s_c93 → SD [1] D_19 D_c93 → SD [1] N_19 N_c93 → SF [(0, 0), (0, 1), (0, 2)] F7 F_c93 → SA [1] A7 A_c93 → F_c93 0 0 = (D_c93 1 : Int) → ∀ mc93_1 : Int, (N_c93 1 : Int) = mc93_1 → ∀ yc93_0_1 : Int, F_c93 0 1 = yc93_0_1 → (0 ≤ (yc93_0_1) ∧ (yc93_0_1) ≤ (mc93_1) ∧ (mc93_1) ≤ 65536) → Ew 197 (d + 3) 93 ls [] σ c_c93 s_c93 Q := by
           as_aux_lemma =>
            intro  ls σ D_c93 N_c93 c_c93 s_c93 F_c93 A_c93  lc93_0 lc93_1 lc93_2 lc93_3 lc93_4 lc93_5 lc93_6 H O hD_c93 hN_c93 hS_c93 hA_c93 pmc93_1 mc93_1 emc93_1 yc93_0_1 eyc93_0_1  jc93_0
            have cF_c93 : SF oz_D3clsl_2 F F_c93 := SF_trans (cF7) hS_c93 (any_sub (by decide +kernel))
            have mF_c93 := SFm_of cF_c93 oz_D3cls_11
            have cA_c93 : SA oz_D3clsl_3 A A_c93 := SA_trans (cA7) hA_c93 (any_subA (by decide +kernel))
            have mA_c93 := SAm_of cA_c93 oz_D3cls_12
            have cD_c93 : SD oz_D3clsl_3 D D_c93 := SD_trans (cD_19) hD_c93 (any_subA (by decide +kernel))
            have mD_c93 := SDm_of cD_c93 oz_D3cls_12
            have cN_c93 : SD oz_D3clsl_3 N N_c93 := SD_trans (cN_19) hN_c93 (any_subA (by decide +kernel))
            have mN_c93 := SDm_of cN_c93 oz_D3cls_12
            have r8 : (0 : Int) ≤ mc93_1 ∧ mc93_1 ≤ 1000000 := nleE (H.nle 1 (ltn len_V197_Row_oz_D3cls rfl)) (show (N_c93 1 : Int) = mc93_1 from emc93_1)
            have r9 : (-2147483648 : Int) ≤ yc93_0_1 ∧ yc93_0_1 ≤ 2147483647 := rngE (show (-2147483648 : Int) ≤ F_c93 0 1 ∧ F_c93 0 1 ≤ 2147483647 from H.krg 0 1 (ltn len_V197_Row_oz_D3cls rfl)) (show F_c93 0 1 = yc93_0_1 from (eyc93_0_1))
            refine Ew_of (pcₚ := 95) (fun _ => x_iload rfl lc93_4) ?_
            refine Ew_of (pcₚ := 97) (fun _ => x_iload rfl lc93_6) ?_
            refine w_isub rfl ?_
            refine Ew_of (pcₚ := 100) (fun _ => x_istore rfl) ?_
            refine Ew_of (pcₚ := 103) (fun _ => x_iinc (len := 3) rfl (rk_o (lc93_5) rfl rfl)) ?_
            refine Ew_of (pcₚ := 19) (fun _ => x_goto rfl rfl) ?_
            exact ih19 _ (msE hm19 q_31 (q_34 b5)) _ _ _ _ _ _ _ _ ((x19_4 - z7)) ((x19_5 + 1)) (rk_o (rk_o (lc93_0) rfl rfl) rfl rfl) (rk_o (rk_o (lc93_1) rfl rfl) rfl rfl) (rk_o (rk_o (lc93_2) rfl rfl) rfl rfl) (rk_o (rk_o (lc93_3) rfl rfl) rfl rfl) (rk_o (rk_s) rfl rfl) (rk_s) H O (SD_trans (hD_19) hD_c93 (any_subA (by decide +kernel))) (SD_trans (hN_19) hN_c93 (any_subA (by decide +kernel))) (SF_trans (SF_trans (hS_19) (SF_gluc (ι := oz_D3clsl_1) oz_D3cls_7 hS7 eF7 (by decide +kernel)) (any_sub (lₚ := []) (by decide +kernel))) hS_c93 (any_sub (by decide +kernel))) (SA_trans (SA_trans (hA_19) (SA_gluc (ι := oz_D3clsl_1) oz_D3cls_7 hA7 eA7 (by decide +kernel)) (any_subA (lₚ := []) (by decide +kernel))) hA_c93 (any_subA (by decide +kernel))) (pmc93_1) (mc93_1) (emc93_1) (yc93_0_1) ((eyc93_0_1))  (show inr ((x19_4 - z7)) from q_2865 j19_5 pz7_1) (show inr ((x19_5 + 1)) from q_117 b5 h3 j19_2) (show (0) ≤ ((x19_5 + 1)) from q_29 j19_2) (show ((x19_5 + 1)) ≤ (0) ∨ ((x19_5 + 1)) ≤ ((a2)) from q_33 b5) (show 0 ≤ (yc93_0_1) ∧ (yc93_0_1) ≤ (mc93_1) ∧ (mc93_1) ≤ 65536 from jc93_0) (show ((x19_4 - z7)) ≤ 65536 from q_2864 j19_5 pz7_1) rfl
          refine Ew_of (pcₚ := 40) (fun _ => x_iload rfl rk_s) ?_
          refine Ew_of (pcₚ := 41) (fun _ => x_iload_n rfl (rk_o (l19_3) rfl rfl)) ?_
          refine w_stat24 rfl rfl (by rfl) (C198 (D := puc 0 D_19) (N := puc 0 N_19) (HW_subc H oz_D3cls_26 oz_D3cls_7) (show inr (z7) from pz7_0) (show inr (tc12_0) from jc12_0) (show (tc12_0) = 0 ∨ (tc12_0) = 1 by omega) (fun z10 σ10 F10ₚ A10ₚ Hₚ Oₚ hS10 hA10 pz10_0 => ⟨rretB rfl pz10_0, ?_⟩))
          refine v_backc (c := c_19) (s := s_19) H oz_D3cls_26 oz_D3cls_7 Hₚ Oₚ (fun F10 A10 H Oₚ eF10 eA10 => ?_)
          have O := OUT_trans O Oₚ
          -- Tags.isShort
          have cF10 : SF oz_D3clsl_2 F F10 := SF_trans (cF7) (SF_gluc (ι := oz_D3clsl_1) oz_D3cls_7 hS10 eF10 (by decide +kernel)) (any_sub (lₚ := []) (by decide +kernel))
          have mF10 := SFm_of cF10 oz_D3cls_11
          have cA10 : SA oz_D3clsl_3 A A10 := SA_trans (cA7) (SA_gluc (ι := oz_D3clsl_1) oz_D3cls_7 hA10 eA10 (by decide +kernel)) (any_subA (lₚ := []) (by decide +kernel))
          have mA10 := SAm_of cA10 oz_D3cls_12
          refine w_ifeq (t := 74) rfl rfl (show inr (z10) from q_15 pz10_0) (fun b11 => ?_) (fun b11 => ?_)
          · refine Ew_of (pcₚ := 75) (fun _ => x_aload_n rfl (rk_o (l19_0) rfl rfl)) ?_
            refine Ew_of (pcₚ := 76) (fun _ => x_iconst rfl) ?_
            refine Ew_of (pcₚ := 78) (fun _ => x_iload rfl rk_s) ?_
            refine Ew_of (pcₚ := 79) (fun _ => x_iconst rfl) ?_
            refine w_isub rfl ?_
            refine Ew_of (pcₚ := 81) (fun _ => x_iconst rfl) ?_
            refine w_ishlA rfl (fun z12 gz12 => ?_)
            refine w_ior rfl (fun z13 gz13 => ?_)
            refine v_inv H (o := 0) rfl rfl rfl rfl rfl rfl (by rfl) (C159 (D := puc 512 D_19) (N := puc 512 N_19) (HW_subc H oz_D3cls_27 oz_D3cls_13) (((((show F10 0 0 = F7 0 0 from (eF10 0 0))).trans ((show F7 0 0 = F_19 0 0 from (eF7 0 0))))).trans (pm19_1)) (m19_1) (em19_1) (y19_0_1) (((((show F10 0 1 = F7 0 1 from (eF10 0 1))).trans ((show F7 0 1 = F_19 0 1 from (eF7 0 1)))).trans (ey19_0_1))) (show inr (z13) from gz13) (show 0 ≤ (y19_0_1) ∧ (y19_0_1) ≤ (m19_1) ∧ (m19_1) ≤ 65536 from j19_4) (fun σ14 D14ₚ N14ₚ F14ₚ A14ₚ c14 s14 Hₚ Oₚ hD14 hN14 hS14 hA14 pm14_1 m14_1 em14_1 y14_0_1 ey14_0_1 pz14_0 pz14_1 pz14_2 => ⟨rfl, ?_⟩))
            refine v_backMc (c := c_19) (s := s_19) H oz_D3cls_27 oz_D3cls_13 Hₚ Oₚ hD14 oz_D3cls_28 (fun D14 N14 F14 A14 H Oₚ eD14 eN14 eF14 eA14 => ?_)
            have O := OUT_trans O Oₚ
            -- Row.add
            have cF14 : SF oz_D3clsl_2 F F14 := SF_trans (cF10) (SF_gluc (ι := oz_D3clsl_4) oz_D3cls_13 hS14 eF14 (by decide +kernel)) (any_sub (lₚ := [(0, 0), (0, 1), (0, 2)]) (by decide +kernel))
            have mF14 := SFm_of cF14 oz_D3cls_11
            have cA14 : SA oz_D3clsl_3 A A14 := SA_trans (cA10) (SA_gluc (ι := oz_D3clsl_4) oz_D3cls_13 hA14 eA14 (by decide +kernel)) (any_subA (lₚ := [1]) (by decide +kernel))
            have mA14 := SAm_of cA14 oz_D3cls_12
            have cD14 : SD oz_D3clsl_3 D D14 := SD_trans (cD_19) (SD_gluc (ι := oz_D3clsl_4) oz_D3cls_13 hD14 eD14 (by decide +kernel)) (any_subA (lₚ := [1]) (by decide +kernel))
            have mD14 := SDm_of cD14 oz_D3cls_12
            have cN14 : SD oz_D3clsl_3 N N14 := SD_trans (cN_19) (SD_gluc (ι := oz_D3clsl_4) oz_D3cls_13 hN14 eN14 (by decide +kernel)) (any_subA (lₚ := [1]) (by decide +kernel))
            have mN14 := SDm_of cN14 oz_D3cls_12
            have pf14_0_0 : F14 0 0 = (D14 1 : Int) := (eF14 0 0).trans (pm14_1.trans (congrArg (fun q : Nat => (q : Int)) (eD14 1).symm))
            have r15 : (0 : Int) ≤ m14_1 ∧ m14_1 ≤ 1000000 := nleE (H.nle 1 (ltn len_V197_Row_oz_D3cls rfl)) (show (N14 1 : Int) = m14_1 from (congrArg (fun q : Nat => (q : Int)) (eN14 1)).trans em14_1)
            have r16 : (-2147483648 : Int) ≤ y14_0_1 ∧ y14_0_1 ≤ 2147483647 := rngE (show (-2147483648 : Int) ≤ F14 0 1 ∧ F14 0 1 ≤ 2147483647 from H.krg 0 1 (ltn len_V197_Row_oz_D3cls rfl)) (show F14 0 1 = y14_0_1 from ((eF14 0 1).trans ey14_0_1))
            refine Ew_of (pcₚ := 87) (fun _ => x_aload_n rfl (rk_o (l19_0) rfl rfl)) ?_
            refine Ew_of (pcₚ := 88) (fun _ => x_iload_n rfl (rk_o (l19_2) rfl rfl)) ?_
            refine w_i2l rfl (show inr (a3) from h1) ?_
            refine Ew_of (pcₚ := 90) (fun _ => x_iconst rfl) ?_
            refine Ew_stk (congrArg (fun qz : Nat => ([I (2), J (a3), .ref qz] : List Value)) (show D14 0 = D_19 0 from ((show D14 0 = D_19 0 from (eD14 0).trans (hD14 0 rfl)))).symm) ?_
            refine v_inv H (o := 0) rfl rfl rfl rfl rfl rfl (by rfl) (C160 (D := puc 512 D14) (N := puc 512 N14) (HW_subc H oz_D3cls_29 oz_D3cls_13) (pf14_0_0) (m14_1) ((congrArg (fun q : Nat => (q : Int)) (eN14 1)).trans em14_1) (y14_0_1) (((eF14 0 1).trans ey14_0_1)) (show inrJ (a3) from q_428 h1) (show inr (2) from q_55) (show 0 ≤ (y14_0_1) ∧ (y14_0_1) ≤ (m14_1) ∧ (m14_1) ≤ 65536 from pz14_0) (fun σ17 D17ₚ N17ₚ F17ₚ A17ₚ c17 s17 Hₚ Oₚ hD17 hN17 hS17 hA17 pm17_1 m17_1 em17_1 y17_0_1 ey17_0_1 pz17_0 pz17_1 => ⟨rfl, ?_⟩))
            refine v_backMc (c := (c_19 + c14)) (s := (s_19 + s14)) H oz_D3cls_29 oz_D3cls_13 Hₚ Oₚ hD17 oz_D3cls_28 (fun D17 N17 F17 A17 H Oₚ eD17 eN17 eF17 eA17 => ?_)
            have O := OUT_trans O Oₚ
            -- Row.addNumber
            have cF17 : SF oz_D3clsl_2 F F17 := SF_trans (cF14) (SF_gluc (ι := oz_D3clsl_4) oz_D3cls_13 hS17 eF17 (by decide +kernel)) (any_sub (lₚ := [(0, 0), (0, 1), (0, 2)]) (by decide +kernel))
            have mF17 := SFm_of cF17 oz_D3cls_11
            have cA17 : SA oz_D3clsl_3 A A17 := SA_trans (cA14) (SA_gluc (ι := oz_D3clsl_4) oz_D3cls_13 hA17 eA17 (by decide +kernel)) (any_subA (lₚ := [1]) (by decide +kernel))
            have mA17 := SAm_of cA17 oz_D3cls_12
            have cD17 : SD oz_D3clsl_3 D D17 := SD_trans (cD14) (SD_gluc (ι := oz_D3clsl_4) oz_D3cls_13 hD17 eD17 (by decide +kernel)) (any_subA (lₚ := [1]) (by decide +kernel))
            have mD17 := SDm_of cD17 oz_D3cls_12
            have cN17 : SD oz_D3clsl_3 N N17 := SD_trans (cN14) (SD_gluc (ι := oz_D3clsl_4) oz_D3cls_13 hN17 eN17 (by decide +kernel)) (any_subA (lₚ := [1]) (by decide +kernel))
            have mN17 := SDm_of cN17 oz_D3cls_12
            have pf17_0_0 : F17 0 0 = (D17 1 : Int) := (eF17 0 0).trans (pm17_1.trans (congrArg (fun q : Nat => (q : Int)) (eD17 1).symm))
            have r18 : (0 : Int) ≤ m17_1 ∧ m17_1 ≤ 1000000 := nleE (H.nle 1 (ltn len_V197_Row_oz_D3cls rfl)) (show (N17 1 : Int) = m17_1 from (congrArg (fun q : Nat => (q : Int)) (eN17 1)).trans em17_1)
            have r19 : (-2147483648 : Int) ≤ y17_0_1 ∧ y17_0_1 ≤ 2147483647 := rngE (show (-2147483648 : Int) ≤ F17 0 1 ∧ F17 0 1 ≤ 2147483647 from H.krg 0 1 (ltn len_V197_Row_oz_D3cls rfl)) (show F17 0 1 = y17_0_1 from ((eF17 0 1).trans ey17_0_1))
            exact hc93  _ _ _ _ _ _ _ _  ((rk_o (l19_0) rfl rfl).trans (congrArg (fun q : Nat => some (Value.ref q)) ((((show D17 0 = D14 0 from (eD17 0).trans (hD17 0 rfl))).trans ((show D14 0 = D_19 0 from (eD14 0).trans (hD14 0 rfl))))).symm)) (rk_o (l19_1) rfl rfl) (rk_o (l19_2) rfl rfl) (rk_o (l19_3) rfl rfl) (rk_o (l19_4) rfl rfl) (rk_o (l19_5) rfl rfl) (rk_s) H O (SD_trans (SD_trans (SD_refl) (SD_gluc (ι := oz_D3clsl_4) oz_D3cls_13 hD14 eD14 (by decide +kernel)) (any_subA (lₚ := [1]) (by decide +kernel))) (SD_gluc (ι := oz_D3clsl_4) oz_D3cls_13 hD17 eD17 (by decide +kernel)) (any_subA (lₚ := [1]) (by decide +kernel))) (SD_trans (SD_trans (SD_refl) (SD_gluc (ι := oz_D3clsl_4) oz_D3cls_13 hN14 eN14 (by decide +kernel)) (any_subA (lₚ := [1]) (by decide +kernel))) (SD_gluc (ι := oz_D3clsl_4) oz_D3cls_13 hN17 eN17 (by decide +kernel)) (any_subA (lₚ := [1]) (by decide +kernel))) (SF_trans (SF_trans (SF_trans (SF_refl) (SF_gluc (ι := oz_D3clsl_1) oz_D3cls_7 hS10 eF10 (by decide +kernel)) (any_sub (lₚ := []) (by decide +kernel))) (SF_gluc (ι := oz_D3clsl_4) oz_D3cls_13 hS14 eF14 (by decide +kernel)) (any_sub (lₚ := [(0, 0), (0, 1), (0, 2)]) (by decide +kernel))) (SF_gluc (ι := oz_D3clsl_4) oz_D3cls_13 hS17 eF17 (by decide +kernel)) (any_sub (lₚ := [(0, 0), (0, 1), (0, 2)]) (by decide +kernel))) (SA_trans (SA_trans (SA_trans (SA_refl) (SA_gluc (ι := oz_D3clsl_1) oz_D3cls_7 hA10 eA10 (by decide +kernel)) (any_subA (lₚ := []) (by decide +kernel))) (SA_gluc (ι := oz_D3clsl_4) oz_D3cls_13 hA14 eA14 (by decide +kernel)) (any_subA (lₚ := [1]) (by decide +kernel))) (SA_gluc (ι := oz_D3clsl_4) oz_D3cls_13 hA17 eA17 (by decide +kernel)) (any_subA (lₚ := [1]) (by decide +kernel))) (pf17_0_0) (m17_1) ((congrArg (fun q : Nat => (q : Int)) (eN17 1)).trans em17_1) (y17_0_1) (((eF17 0 1).trans ey17_0_1))  (show 0 ≤ (y17_0_1) ∧ (y17_0_1) ≤ (m17_1) ∧ (m17_1) ≤ 65536 from pz17_0)
          · refine Ew_of (pcₚ := 48) (fun _ => x_aload_n rfl (rk_o (l19_0) rfl rfl)) ?_
            refine Ew_of (pcₚ := 49) (fun _ => x_iconst rfl) ?_
            refine Ew_of (pcₚ := 51) (fun _ => x_iload rfl rk_s) ?_
            refine Ew_of (pcₚ := 52) (fun _ => x_iconst rfl) ?_
            refine w_isub rfl ?_
            refine Ew_of (pcₚ := 54) (fun _ => x_iconst rfl) ?_
            refine w_ishlA rfl (fun z20 gz20 => ?_)
            refine w_ior rfl (fun z21 gz21 => ?_)
            refine Ew_of (pcₚ := 57) (fun _ => x_iload_n rfl (rk_o (l19_2) rfl rfl)) ?_
            refine Ew_of (pcₚ := 59) (fun _ => x_bipush (z := 8) rfl (by decide)) ?_
            refine w_ishrA rfl (fun z22 gz22 => ?_)
            refine Ew_of (pcₚ := 61) (fun _ => x_iconst rfl) ?_
            refine w_ishlA rfl (fun z23 gz23 => ?_)
            refine w_ior rfl (fun z24 gz24 => ?_)
            refine v_inv H (o := 0) rfl rfl rfl rfl rfl rfl (by rfl) (C159 (D := puc 512 D_19) (N := puc 512 N_19) (HW_subc H oz_D3cls_27 oz_D3cls_13) (((((show F10 0 0 = F7 0 0 from (eF10 0 0))).trans ((show F7 0 0 = F_19 0 0 from (eF7 0 0))))).trans (pm19_1)) (m19_1) (em19_1) (y19_0_1) (((((show F10 0 1 = F7 0 1 from (eF10 0 1))).trans ((show F7 0 1 = F_19 0 1 from (eF7 0 1)))).trans (ey19_0_1))) (show inr (z24) from gz24) (show 0 ≤ (y19_0_1) ∧ (y19_0_1) ≤ (m19_1) ∧ (m19_1) ≤ 65536 from j19_4) (fun σ25 D25ₚ N25ₚ F25ₚ A25ₚ c25 s25 Hₚ Oₚ hD25 hN25 hS25 hA25 pm25_1 m25_1 em25_1 y25_0_1 ey25_0_1 pz25_0 pz25_1 pz25_2 => ⟨rfl, ?_⟩))
            refine v_backMc (c := c_19) (s := s_19) H oz_D3cls_27 oz_D3cls_13 Hₚ Oₚ hD25 oz_D3cls_28 (fun D25 N25 F25 A25 H Oₚ eD25 eN25 eF25 eA25 => ?_)
            have O := OUT_trans O Oₚ
            -- Row.add
            have cF25 : SF oz_D3clsl_2 F F25 := SF_trans (cF10) (SF_gluc (ι := oz_D3clsl_4) oz_D3cls_13 hS25 eF25 (by decide +kernel)) (any_sub (lₚ := [(0, 0), (0, 1), (0, 2)]) (by decide +kernel))
            have mF25 := SFm_of cF25 oz_D3cls_11
            have cA25 : SA oz_D3clsl_3 A A25 := SA_trans (cA10) (SA_gluc (ι := oz_D3clsl_4) oz_D3cls_13 hA25 eA25 (by decide +kernel)) (any_subA (lₚ := [1]) (by decide +kernel))
            have mA25 := SAm_of cA25 oz_D3cls_12
            have cD25 : SD oz_D3clsl_3 D D25 := SD_trans (cD_19) (SD_gluc (ι := oz_D3clsl_4) oz_D3cls_13 hD25 eD25 (by decide +kernel)) (any_subA (lₚ := [1]) (by decide +kernel))
            have mD25 := SDm_of cD25 oz_D3cls_12
            have cN25 : SD oz_D3clsl_3 N N25 := SD_trans (cN_19) (SD_gluc (ι := oz_D3clsl_4) oz_D3cls_13 hN25 eN25 (by decide +kernel)) (any_subA (lₚ := [1]) (by decide +kernel))
            have mN25 := SDm_of cN25 oz_D3cls_12
            have pf25_0_0 : F25 0 0 = (D25 1 : Int) := (eF25 0 0).trans (pm25_1.trans (congrArg (fun q : Nat => (q : Int)) (eD25 1).symm))
            have r26 : (0 : Int) ≤ m25_1 ∧ m25_1 ≤ 1000000 := nleE (H.nle 1 (ltn len_V197_Row_oz_D3cls rfl)) (show (N25 1 : Int) = m25_1 from (congrArg (fun q : Nat => (q : Int)) (eN25 1)).trans em25_1)
            have r27 : (-2147483648 : Int) ≤ y25_0_1 ∧ y25_0_1 ≤ 2147483647 := rngE (show (-2147483648 : Int) ≤ F25 0 1 ∧ F25 0 1 ≤ 2147483647 from H.krg 0 1 (ltn len_V197_Row_oz_D3cls rfl)) (show F25 0 1 = y25_0_1 from ((eF25 0 1).trans ey25_0_1))
            refine Ew_of (pcₚ := 67) (fun _ => x_aload_n rfl (rk_o (l19_0) rfl rfl)) ?_
            refine Ew_of (pcₚ := 68) (fun _ => x_iload_n rfl (rk_o (l19_2) rfl rfl)) ?_
            refine Ew_stk (congrArg (fun qz : Nat => ([I (a3), .ref qz] : List Value)) (show D25 0 = D_19 0 from ((show D25 0 = D_19 0 from (eD25 0).trans (hD25 0 rfl)))).symm) ?_
            refine v_inv H (o := 0) rfl rfl rfl rfl rfl rfl (by rfl) (C159 (D := puc 512 D25) (N := puc 512 N25) (HW_subc H oz_D3cls_27 oz_D3cls_13) (pf25_0_0) (m25_1) ((congrArg (fun q : Nat => (q : Int)) (eN25 1)).trans em25_1) (y25_0_1) (((eF25 0 1).trans ey25_0_1)) (show inr (a3) from h1) (show 0 ≤ (y25_0_1) ∧ (y25_0_1) ≤ (m25_1) ∧ (m25_1) ≤ 65536 from pz25_0) (fun σ28 D28ₚ N28ₚ F28ₚ A28ₚ c28 s28 Hₚ Oₚ hD28 hN28 hS28 hA28 pm28_1 m28_1 em28_1 y28_0_1 ey28_0_1 pz28_0 pz28_1 pz28_2 => ⟨rfl, ?_⟩))
            refine v_backMc (c := (c_19 + c25)) (s := (s_19 + s25)) H oz_D3cls_27 oz_D3cls_13 Hₚ Oₚ hD28 oz_D3cls_28 (fun D28 N28 F28 A28 H Oₚ eD28 eN28 eF28 eA28 => ?_)
            have O := OUT_trans O Oₚ
            -- Row.add
            have cF28 : SF oz_D3clsl_2 F F28 := SF_trans (cF25) (SF_gluc (ι := oz_D3clsl_4) oz_D3cls_13 hS28 eF28 (by decide +kernel)) (any_sub (lₚ := [(0, 0), (0, 1), (0, 2)]) (by decide +kernel))
            have mF28 := SFm_of cF28 oz_D3cls_11
            have cA28 : SA oz_D3clsl_3 A A28 := SA_trans (cA25) (SA_gluc (ι := oz_D3clsl_4) oz_D3cls_13 hA28 eA28 (by decide +kernel)) (any_subA (lₚ := [1]) (by decide +kernel))
            have mA28 := SAm_of cA28 oz_D3cls_12
            have cD28 : SD oz_D3clsl_3 D D28 := SD_trans (cD25) (SD_gluc (ι := oz_D3clsl_4) oz_D3cls_13 hD28 eD28 (by decide +kernel)) (any_subA (lₚ := [1]) (by decide +kernel))
            have mD28 := SDm_of cD28 oz_D3cls_12
            have cN28 : SD oz_D3clsl_3 N N28 := SD_trans (cN25) (SD_gluc (ι := oz_D3clsl_4) oz_D3cls_13 hN28 eN28 (by decide +kernel)) (any_subA (lₚ := [1]) (by decide +kernel))
            have mN28 := SDm_of cN28 oz_D3cls_12
            have pf28_0_0 : F28 0 0 = (D28 1 : Int) := (eF28 0 0).trans (pm28_1.trans (congrArg (fun q : Nat => (q : Int)) (eD28 1).symm))
            have r29 : (0 : Int) ≤ m28_1 ∧ m28_1 ≤ 1000000 := nleE (H.nle 1 (ltn len_V197_Row_oz_D3cls rfl)) (show (N28 1 : Int) = m28_1 from (congrArg (fun q : Nat => (q : Int)) (eN28 1)).trans em28_1)
            have r30 : (-2147483648 : Int) ≤ y28_0_1 ∧ y28_0_1 ≤ 2147483647 := rngE (show (-2147483648 : Int) ≤ F28 0 1 ∧ F28 0 1 ≤ 2147483647 from H.krg 0 1 (ltn len_V197_Row_oz_D3cls rfl)) (show F28 0 1 = y28_0_1 from ((eF28 0 1).trans ey28_0_1))
            refine Ew_of (pcₚ := 93) (fun _ => x_goto rfl rfl) ?_
            exact hc93  _ _ _ _ _ _ _ _  ((rk_o (l19_0) rfl rfl).trans (congrArg (fun q : Nat => some (Value.ref q)) ((((show D28 0 = D25 0 from (eD28 0).trans (hD28 0 rfl))).trans ((show D25 0 = D_19 0 from (eD25 0).trans (hD25 0 rfl))))).symm)) (rk_o (l19_1) rfl rfl) (rk_o (l19_2) rfl rfl) (rk_o (l19_3) rfl rfl) (rk_o (l19_4) rfl rfl) (rk_o (l19_5) rfl rfl) (rk_s) H O (SD_trans (SD_trans (SD_refl) (SD_gluc (ι := oz_D3clsl_4) oz_D3cls_13 hD25 eD25 (by decide +kernel)) (any_subA (lₚ := [1]) (by decide +kernel))) (SD_gluc (ι := oz_D3clsl_4) oz_D3cls_13 hD28 eD28 (by decide +kernel)) (any_subA (lₚ := [1]) (by decide +kernel))) (SD_trans (SD_trans (SD_refl) (SD_gluc (ι := oz_D3clsl_4) oz_D3cls_13 hN25 eN25 (by decide +kernel)) (any_subA (lₚ := [1]) (by decide +kernel))) (SD_gluc (ι := oz_D3clsl_4) oz_D3cls_13 hN28 eN28 (by decide +kernel)) (any_subA (lₚ := [1]) (by decide +kernel))) (SF_trans (SF_trans (SF_trans (SF_refl) (SF_gluc (ι := oz_D3clsl_1) oz_D3cls_7 hS10 eF10 (by decide +kernel)) (any_sub (lₚ := []) (by decide +kernel))) (SF_gluc (ι := oz_D3clsl_4) oz_D3cls_13 hS25 eF25 (by decide +kernel)) (any_sub (lₚ := [(0, 0), (0, 1), (0, 2)]) (by decide +kernel))) (SF_gluc (ι := oz_D3clsl_4) oz_D3cls_13 hS28 eF28 (by decide +kernel)) (any_sub (lₚ := [(0, 0), (0, 1), (0, 2)]) (by decide +kernel))) (SA_trans (SA_trans (SA_trans (SA_refl) (SA_gluc (ι := oz_D3clsl_1) oz_D3cls_7 hA10 eA10 (by decide +kernel)) (any_subA (lₚ := []) (by decide +kernel))) (SA_gluc (ι := oz_D3clsl_4) oz_D3cls_13 hA25 eA25 (by decide +kernel)) (any_subA (lₚ := [1]) (by decide +kernel))) (SA_gluc (ι := oz_D3clsl_4) oz_D3cls_13 hA28 eA28 (by decide +kernel)) (any_subA (lₚ := [1]) (by decide +kernel))) (pf28_0_0) (m28_1) ((congrArg (fun q : Nat => (q : Int)) (eN28 1)).trans em28_1) (y28_0_1) (((eF28 0 1).trans ey28_0_1))  (show 0 ≤ (y28_0_1) ∧ (y28_0_1) ≤ (m28_1) ∧ (m28_1) ≤ 65536 from pz28_0)
  refine w_icmpge (t := 11) rfl rfl (show inr (a3) from h1) (show inr (2048) from q_706) (fun b31 => ?_) (fun b31 => ?_)
  · refine Ew_of (pcₚ := 12) (fun _ => x_iconst rfl) ?_
    exact hc12 (0) _ _ _ _  (rfl) (rfl) (rfl) H O (SF_refl) (SA_refl)     (show inr (0) from q_20) (show ((a3) ≥ (2048) ∧ (0) = (0)) ∨ ((a3) < (2048) ∧ (0) = (1)) from q_707 b31)
  · refine Ew_of (pcₚ := 8) (fun _ => x_iconst rfl) ?_
    refine Ew_of (pcₚ := 12) (fun _ => x_goto rfl rfl) ?_
    exact hc12 (1) _ _ _ _  (rfl) (rfl) (rfl) H O (SF_refl) (SA_refl)     (show inr (1) from q_23) (show ((a3) ≥ (2048) ∧ (1) = (0)) ∨ ((a3) < (2048) ∧ (1) = (1)) from q_708 b31)
abbrev V194_Row : vV := [(0, 10, [(4, 0), (4, 0), (4, 0), (4, 0), (0, 0), (4, 0), (0, 0), (2, 0), (0, 0)]), (0, 7, [(4, 0), (0, 0), (1, 0), (0, 0), (0, 0)]), (1, 0, []), (0, 5, [(4, 0), (4, 0), (4, 0), (4, 0), (0, 0), (0, 0), (0, 0), (4, 0), (4, 0), (0, 0), (0, 0), (0, 0), (0, 0), (0, 0), (0, 0), (0, 0), (0, 0), (0, 0), (0, 0)]), (0, 7, [(4, 0), (0, 0), (1, 0), (0, 0), (0, 0)]), (1, 0, []), (1, 1, []), (1, 1, []), (1, 1, []), (1, 1, []), (1, 1, [])]
theorem len_V194_Row_oz_D3cls : (V194_Row).length = 11 := by decide +kernel
theorem oz_D3cls_31 : vsub V194_Row V195_Row [1, 2] = true := by decide +kernel
theorem oz_D3cls_32 : vmov V194_Row [1, 2] [1] = true := by decide +kernel
theorem oz_D3cls_33 : vsub V194_Row V123 [3, 4, 5, 6, 7] = true := by decide +kernel
theorem oz_D3cls_34 : vmov V194_Row [3, 4, 5, 6, 7] [3] = true := by decide +kernel
theorem oz_D3cls_35 : vsub V194_Row V125 [3, 4, 5, 6, 8, 9, 10] = true := by decide +kernel
theorem oz_D3cls_36 : vmov V194_Row [3, 4, 5, 6, 8, 9, 10] [4, 5, 6] = true := by decide +kernel
theorem oz_D3cls_37 : vsub V194_Row V196_Row [0, 1, 2, 3, 4, 5] = true := by decide +kernel
theorem oz_D3cls_38 : vmov V194_Row [0, 1, 2, 3, 4, 5] [2] = true := by decide +kernel
theorem oz_D3cls_39 : vsub V194_Row V197_Row [1, 2] = true := by decide +kernel
def oz_D3clsl_9 : List (Nat × Nat) := [(1, 0), (1, 1), (1, 2), (3, 1), (3, 2), (3, 3), (3, 4), (3, 5), (3, 6), (3, 8), (3, 12), (3, 13), (3, 14), (3, 15), (3, 16), (3, 17), (3, 18)]
theorem oz_D3cls_40 : (oz_D3clsl_9).all (fun p => !tbz 41244121472700643278421578466983936 (Nat.add (Nat.mul 32 p.1) p.2)) = true := by decide +kernel
def oz_D3clsl_10 : List Nat := [2, 6, 7, 8, 9, 10]
theorem oz_D3cls_41 : (oz_D3clsl_10).all (fun p => !tbz 1988 p) = true := by decide +kernel
def oz_D3clsl_11 : List Nat := [2, 6, 8, 9, 10]
theorem oz_D3cls_42 : (oz_D3clsl_11).all (fun p => !tbz 1860 p) = true := by decide +kernel
def oz_D3clsl_12 : List Nat := [3, 4, 5, 6, 7]
theorem oz_D3cls_43 : okc oz_D3clsl_12 481842956291 = true := by decide +kernel
def oz_D3clsl_13 : List Nat := [3, 4, 5, 6, 8, 9, 10]
theorem oz_D3cls_44 : okc oz_D3clsl_13 180461195006052355 = true := by decide +kernel
def oz_D3clsl_14 : List Nat := [0, 1, 2, 3, 4, 5]
theorem oz_D3cls_45 : okc oz_D3clsl_14 176197141529088 = true := by decide +kernel
/-- Tags.packBlock: this, #1, #1.bytes, this.finder, this.finder.data, this.finder.data.bytes, this.finder.back, this.finder.heads, this.finder.literals, this.finder.lengths, this.finder.distances -/
theorem C194_Row {σE : rS} {D N : Nat → Nat} {F : hF} {A : hA} {d c s : Nat} {Q : wQ} (H : HW V194_Row σE D N F A)  (pf2 : F 1 0 = (D 2 : Int)) (pf3 : F 0 1 = (D 3 : Int)) (pf4 : F 3 0 = (D 4 : Int)) (pf5 : F 4 0 = (D 5 : Int)) (pf6 : F 3 8 = (D 6 : Int)) (pf7 : F 3 7 = (D 7 : Int)) (pf8 : F 3 1 = (D 8 : Int)) (pf9 : F 3 2 = (D 9 : Int)) (pf10 : F 3 3 = (D 10 : Int)) (n2 : Int) (en2 : (N 2 : Int) = n2) (n5 : Int) (en5 : (N 5 : Int) = n5) (n6 : Int) (en6 : (N 6 : Int) = n6) (n7 : Int) (en7 : (N 7 : Int) = n7) (n8 : Int) (en8 : (N 8 : Int) = n8) (n9 : Int) (en9 : (N 9 : Int) = n9) (n10 : Int) (en10 : (N 10 : Int) = n10) (u1_1 : Int) (eu1_1 : F 1 1 = u1_1) (u3_6 : Int) (eu3_6 : F 3 6 = u3_6) (u3_10 : Int) (eu3_10 : F 3 10 = u3_10) (u4_1 : Int) (eu4_1 : F 4 1 = u4_1) (w5 : Int → Int) (ew5 : A 5 = w5) (w6 : Int → Int) (ew6 : A 6 = w6) (w7 : Int → Int) (ew7 : A 7 = w7) (h0 : 0 ≤ (u1_1) ∧ (u1_1) ≤ (n2) ∧ (n2) ≤ 65536) (h1 : 0 ≤ (u4_1) ∧ (u4_1) ≤ (n5) ∧ (n5) ≤ 65536 ∧ (u4_1) ≤ 16384) (h2 : (u3_10) = 4) (h3 : BKI ((w5)) ((w6)) ((u3_10)) ((u3_6))) (h4 : HDI ((w5)) ((w7)) ((u3_10)) ((u3_6))) (h5 : (n8) = (n9) ∧ (n10) = (n9) ∧ (n9) ≤ 65536 ∧ ((n9) = 0 ∨ 64 ≤ (n9)) ∧ lgq ((n9)) = 0) (h6 : (n7) = 2048) (h7 : 0 ≤ (u3_6) ∧ (u3_6) ≤ (n6) ∧ (n6) ≤ 16384) (k : ∀ (σ : rS) (Dₚ Nₚ : Nat → Nat) (Fₚ : hF) (Aₚ : hA) (cₚ sₚ : Nat), HW V194_Row σ Dₚ Nₚ Fₚ Aₚ → OUT (V194_Row).length D N σE c s Dₚ Nₚ σ cₚ sₚ → SD [2, 6, 8, 9, 10] D Dₚ → SD [2, 6, 8, 9, 10] N Nₚ → SF [(1, 0), (1, 1), (1, 2), (3, 1), (3, 2), (3, 3), (3, 4), (3, 5), (3, 6), (3, 8), (3, 12), (3, 13), (3, 14), (3, 15), (3, 16), (3, 17), (3, 18)] F Fₚ → SA [2, 6, 7, 8, 9, 10] A Aₚ → Fₚ 1 0 = (Dₚ 2 : Int) → Fₚ 3 8 = (Dₚ 6 : Int) → Fₚ 3 1 = (Dₚ 8 : Int) → Fₚ 3 2 = (Dₚ 9 : Int) → Fₚ 3 3 = (Dₚ 10 : Int) → ∀ m2 : Int, (Nₚ 2 : Int) = m2 → ∀ m6 : Int, (Nₚ 6 : Int) = m6 → ∀ m8 : Int, (Nₚ 8 : Int) = m8 → ∀ m9 : Int, (Nₚ 9 : Int) = m9 → ∀ m10 : Int, (Nₚ 10 : Int) = m10 → ∀ y1_1 : Int, Fₚ 1 1 = y1_1 → ∀ y3_6 : Int, Fₚ 3 6 = y3_6 → ∀ v6 : Int → Int, Aₚ 6 = v6 → ∀ v7 : Int → Int, Aₚ 7 = v7 → (0 ≤ (y1_1) ∧ (y1_1) ≤ (m2) ∧ (m2) ≤ 65536) → (0 ≤ (y3_6) ∧ (u3_6) ≤ (y3_6) ∧ (y3_6) ≤ (m6) ∧ (m6) ≤ 16384) → ((m8) = (m9) ∧ (m10) = (m9) ∧ (m9) ≤ 65536 ∧ ((m9) = 0 ∨ 64 ≤ (m9)) ∧ lgq ((m9)) = 0) → (BKI ((w5)) ((v6)) ((u3_10)) ((y3_6))) → (HDI ((w5)) ((v7)) ((u3_10)) ((y3_6))) → ((y3_6) = (u3_6) ∨ (y3_6) + 4 ≤ (u4_1) + 1) → Q none σ cₚ sₚ) : Ew 194 (d + 4) 0 (rargs 0 [.ref (D 0), .ref (D 1)]) [] σE c s Q := by
  have O := OUT_refl (n := (V194_Row).length) (D := D) (N := N) (σ := σE) (c := c) (s := s)
  have HE := H
  have r1 : (-2147483648 : Int) ≤ u1_1 ∧ u1_1 ≤ 2147483647 := rngE (show (-2147483648 : Int) ≤ F 1 1 ∧ F 1 1 ≤ 2147483647 from H.krg 1 1 (ltn len_V194_Row_oz_D3cls rfl)) (show F 1 1 = u1_1 from (eu1_1))
  have r2 : (-2147483648 : Int) ≤ u3_6 ∧ u3_6 ≤ 2147483647 := rngE (show (-2147483648 : Int) ≤ F 3 6 ∧ F 3 6 ≤ 2147483647 from H.krg 3 6 (ltn len_V194_Row_oz_D3cls rfl)) (show F 3 6 = u3_6 from (eu3_6))
  have r3 : (-2147483648 : Int) ≤ u3_10 ∧ u3_10 ≤ 2147483647 := rngE (show (-2147483648 : Int) ≤ F 3 10 ∧ F 3 10 ≤ 2147483647 from H.krg 3 10 (ltn len_V194_Row_oz_D3cls rfl)) (show F 3 10 = u3_10 from (eu3_10))
  have r4 : (-2147483648 : Int) ≤ u4_1 ∧ u4_1 ≤ 2147483647 := rngE (show (-2147483648 : Int) ≤ F 4 1 ∧ F 4 1 ≤ 2147483647 from H.krg 4 1 (ltn len_V194_Row_oz_D3cls rfl)) (show F 4 1 = u4_1 from (eu4_1))
  have r5 : (0 : Int) ≤ n2 ∧ n2 ≤ 1000000 := nleE (H.nle 2 (ltn len_V194_Row_oz_D3cls rfl)) (show (N 2 : Int) = n2 from en2)
  have r6 : (0 : Int) ≤ n5 ∧ n5 ≤ 1000000 := nleE (H.nle 5 (ltn len_V194_Row_oz_D3cls rfl)) (show (N 5 : Int) = n5 from en5)
  have r7 : (0 : Int) ≤ n6 ∧ n6 ≤ 1000000 := nleE (H.nle 6 (ltn len_V194_Row_oz_D3cls rfl)) (show (N 6 : Int) = n6 from en6)
  have r8 : (0 : Int) ≤ n7 ∧ n7 ≤ 1000000 := nleE (H.nle 7 (ltn len_V194_Row_oz_D3cls rfl)) (show (N 7 : Int) = n7 from en7)
  have r9 : (0 : Int) ≤ n8 ∧ n8 ≤ 1000000 := nleE (H.nle 8 (ltn len_V194_Row_oz_D3cls rfl)) (show (N 8 : Int) = n8 from en8)
  have r10 : (0 : Int) ≤ n9 ∧ n9 ≤ 1000000 := nleE (H.nle 9 (ltn len_V194_Row_oz_D3cls rfl)) (show (N 9 : Int) = n9 from en9)
  have r11 : (0 : Int) ≤ n10 ∧ n10 ≤ 1000000 := nleE (H.nle 10 (ltn len_V194_Row_oz_D3cls rfl)) (show (N 10 : Int) = n10 from en10)
  refine Ew_of (pcₚ := 1) (fun _ => x_aload_n rfl rfl) ?_
  refine v_g H (o := 0) (v := .ref (D 3)) rfl rfl rfl rfl rfl (vrf (pf3)) ?_
  refine v_g H (o := 3) (v := .ref (D 4)) rfl rfl rfl rfl rfl (vrf (pf4)) ?_
  refine v_g H (o := 4) (v := I (u4_1)) rfl rfl rfl rfl rfl (congrArg (fun z : Int => I z) ((eu4_1) : F 4 1 = u4_1)) ?_
  refine Ew_of (pcₚ := 11) (fun _ => x_istore_n rfl) ?_
  refine Ew_of (pcₚ := 12) (fun _ => x_aload_n rfl (rk_o (rfl) rfl rfl)) ?_
  refine Ew_of (pcₚ := 13) (fun _ => x_iload_n rfl rk_s) ?_
  refine w_stat24 rfl rfl (by rfl) (C195_Row (D := puc 1025 D) (N := puc 1025 N) (HW_subc H oz_D3cls_31 oz_D3cls_23) (pf2) (n2) (en2) (u1_1) ((eu1_1)) (show inr (u4_1) from q_2767 h1) (show 0 ≤ (u1_1) ∧ (u1_1) ≤ (n2) ∧ (n2) ≤ 65536 from h0) (fun σ12 D12ₚ N12ₚ F12ₚ A12ₚ c12 s12 Hₚ Oₚ hD12 hN12 hS12 hA12 pm12_1 m12_1 em12_1 y12_0_1 ey12_0_1 pz12_0 => ⟨rfl, ?_⟩))
  refine v_backMc (c := c) (s := s) H oz_D3cls_31 oz_D3cls_23 Hₚ Oₚ hD12 oz_D3cls_32 (fun D12 N12 F12 A12 H Oₚ eD12 eN12 eF12 eA12 => ?_)
  have O := OUT_trans O Oₚ
  -- Tags.packLength
  have cF12 : SF oz_D3clsl_9 F F12 := SF_trans (SF_refl) (SF_gluc (ι := oz_D3clsl_8) oz_D3cls_23 hS12 eF12 (by decide +kernel)) (any_sub (lₚ := [(1, 0), (1, 1), (1, 2)]) (by decide +kernel))
  have mF12 := SFm_of cF12 oz_D3cls_40
  have cA12 : SA oz_D3clsl_10 A A12 := SA_trans (SA_refl) (SA_gluc (ι := oz_D3clsl_8) oz_D3cls_23 hA12 eA12 (by decide +kernel)) (any_subA (lₚ := [2]) (by decide +kernel))
  have mA12 := SAm_of cA12 oz_D3cls_41
  have cD12 : SD oz_D3clsl_11 D D12 := SD_trans (SD_refl) (SD_gluc (ι := oz_D3clsl_8) oz_D3cls_23 hD12 eD12 (by decide +kernel)) (any_subA (lₚ := [2]) (by decide +kernel))
  have mD12 := SDm_of cD12 oz_D3cls_42
  have cN12 : SD oz_D3clsl_11 N N12 := SD_trans (SD_refl) (SD_gluc (ι := oz_D3clsl_8) oz_D3cls_23 hN12 eN12 (by decide +kernel)) (any_subA (lₚ := [2]) (by decide +kernel))
  have mN12 := SDm_of cN12 oz_D3cls_42
  have pf12_1_0 : F12 1 0 = (D12 2 : Int) := (eF12 1 0).trans (pm12_1.trans (congrArg (fun q : Nat => (q : Int)) (eD12 2).symm))
  have pf12_3_1 : F12 3 1 = (D12 8 : Int) := ((show F12 3 1 = F 3 1 from (eF12 3 1))).trans ((pf8).trans (congrArg (fun q : Nat => (q : Int)) ((show D12 8 = D 8 from (eD12 8))).symm))
  have pf12_3_2 : F12 3 2 = (D12 9 : Int) := ((show F12 3 2 = F 3 2 from (eF12 3 2))).trans ((pf9).trans (congrArg (fun q : Nat => (q : Int)) ((show D12 9 = D 9 from (eD12 9))).symm))
  have pf12_3_3 : F12 3 3 = (D12 10 : Int) := ((show F12 3 3 = F 3 3 from (eF12 3 3))).trans ((pf10).trans (congrArg (fun q : Nat => (q : Int)) ((show D12 10 = D 10 from (eD12 10))).symm))
  have pf12_3_8 : F12 3 8 = (D12 6 : Int) := ((show F12 3 8 = F 3 8 from (eF12 3 8))).trans ((pf6).trans (congrArg (fun q : Nat => (q : Int)) ((show D12 6 = D 6 from (eD12 6))).symm))
  have r13 : (0 : Int) ≤ m12_1 ∧ m12_1 ≤ 1000000 := nleE (H.nle 2 (ltn len_V194_Row_oz_D3cls rfl)) (show (N12 2 : Int) = m12_1 from (congrArg (fun q : Nat => (q : Int)) (eN12 2)).trans em12_1)
  have r14 : (-2147483648 : Int) ≤ y12_0_1 ∧ y12_0_1 ≤ 2147483647 := rngE (show (-2147483648 : Int) ≤ F12 1 1 ∧ F12 1 1 ≤ 2147483647 from H.krg 1 1 (ltn len_V194_Row_oz_D3cls rfl)) (show F12 1 1 = y12_0_1 from ((eF12 1 1).trans ey12_0_1))
  refine Ew_of (pcₚ := 17) (fun _ => x_aload_n rfl (rk_o (rfl) rfl rfl)) ?_
  refine Ew_stk (congrArg (fun qz : Nat => ([.ref qz] : List Value)) (show D12 0 = D 0 from mD12 0 rfl).symm) ?_
  refine v_g H (o := 0) (v := .ref (D12 3)) rfl rfl rfl rfl rfl (vrf ((mF12 0 1 rfl).trans ((pf3).trans (congrArg (fun q : Nat => (q : Int)) (mD12 3 rfl).symm)))) ?_
  refine Ew_of (pcₚ := 21) (fun _ => x_iload_n rfl rk_s) ?_
  refine v_inv H (o := 3) rfl rfl rfl rfl rfl rfl (by rfl) (C123 (D := puc 481842956291 D12) (N := puc 481842956291 N12) (HW_subc H oz_D3cls_33 oz_D3cls_43) ((mF12 3 0 rfl).trans ((pf4).trans (congrArg (fun q : Nat => (q : Int)) (mD12 4 rfl).symm))) ((mF12 4 0 rfl).trans ((pf5).trans (congrArg (fun q : Nat => (q : Int)) (mD12 5 rfl).symm))) (pf12_3_8) ((mF12 3 7 rfl).trans ((pf7).trans (congrArg (fun q : Nat => (q : Int)) (mD12 7 rfl).symm))) (n5) ((congrArg (fun q : Nat => (q : Int)) (mN12 5 rfl)).trans (en5)) (n6) ((congrArg (fun q : Nat => (q : Int)) (show N12 6 = N 6 from (eN12 6))).trans (en6)) (n7) ((congrArg (fun q : Nat => (q : Int)) (mN12 7 rfl)).trans (en7)) (u3_6) ((((show F12 3 6 = F 3 6 from (eF12 3 6))).trans (eu3_6))) (u3_10) (((mF12 3 10 rfl).trans (eu3_10))) (u4_1) (((mF12 4 1 rfl).trans (eu4_1))) (w5) ((funext (mA12 5 rfl)).trans (ew5)) (w6) (((show A12 6 = A 6 from (eA12 6))).trans (ew6)) (w7) (((show A12 7 = A 7 from (eA12 7))).trans (ew7)) (show inr (u4_1) from q_2767 h1) (show 0 ≤ (u4_1) ∧ (u4_1) ≤ (n5) ∧ (n5) ≤ 65536 ∧ (u4_1) ≤ 16384 from h1) (show 1 ≤ (u3_10) ∧ (u3_10) ≤ 8 from q_2766 h2) (show 0 ≤ (u4_1) ∧ (u4_1) ≤ (u4_1) from q_2765 h1) (show BKI ((w5)) ((w6)) ((u3_10)) ((u3_6)) from h3) (show HDI ((w5)) ((w7)) ((u3_10)) ((u3_6)) from h4) (show (n7) = 2048 from h6) (show 0 ≤ (u3_6) ∧ (u3_6) ≤ (n6) ∧ (n6) ≤ 16384 from h7) (fun σ15 D15ₚ N15ₚ F15ₚ A15ₚ c15 s15 Hₚ Oₚ hD15 hN15 hS15 hA15 pm15_3 m15_3 em15_3 y15_0_6 ey15_0_6 w15_3 ew15_3 w15_4 ew15_4 pz15_0 pz15_1 pz15_2 pz15_3 pz15_4 => ⟨rfl, ?_⟩))
  refine v_backMc (c := (c + c12)) (s := (s + s12)) H oz_D3cls_33 oz_D3cls_43 Hₚ Oₚ hD15 oz_D3cls_34 (fun D15 N15 F15 A15 H Oₚ eD15 eN15 eF15 eA15 => ?_)
  have O := OUT_trans O Oₚ
  -- Finder.lay
  have cF15 : SF oz_D3clsl_9 F F15 := SF_trans (cF12) (SF_gluc (ι := oz_D3clsl_12) oz_D3cls_43 hS15 eF15 (by decide +kernel)) (any_sub (lₚ := [(3, 6), (3, 8)]) (by decide +kernel))
  have mF15 := SFm_of cF15 oz_D3cls_40
  have cA15 : SA oz_D3clsl_10 A A15 := SA_trans (cA12) (SA_gluc (ι := oz_D3clsl_12) oz_D3cls_43 hA15 eA15 (by decide +kernel)) (any_subA (lₚ := [6, 7]) (by decide +kernel))
  have mA15 := SAm_of cA15 oz_D3cls_41
  have cD15 : SD oz_D3clsl_11 D D15 := SD_trans (cD12) (SD_gluc (ι := oz_D3clsl_12) oz_D3cls_43 hD15 eD15 (by decide +kernel)) (any_subA (lₚ := [6]) (by decide +kernel))
  have mD15 := SDm_of cD15 oz_D3cls_42
  have cN15 : SD oz_D3clsl_11 N N15 := SD_trans (cN12) (SD_gluc (ι := oz_D3clsl_12) oz_D3cls_43 hN15 eN15 (by decide +kernel)) (any_subA (lₚ := [6]) (by decide +kernel))
  have mN15 := SDm_of cN15 oz_D3cls_42
  have pf15_1_0 : F15 1 0 = (D15 2 : Int) := ((show F15 1 0 = F12 1 0 from (eF15 1 0))).trans ((pf12_1_0).trans (congrArg (fun q : Nat => (q : Int)) ((show D15 2 = D12 2 from (eD15 2))).symm))
  have pf15_3_1 : F15 3 1 = (D15 8 : Int) := ((show F15 3 1 = F12 3 1 from (eF15 3 1).trans (hS15 0 1 rfl))).trans ((pf12_3_1).trans (congrArg (fun q : Nat => (q : Int)) ((show D15 8 = D12 8 from (eD15 8))).symm))
  have pf15_3_2 : F15 3 2 = (D15 9 : Int) := ((show F15 3 2 = F12 3 2 from (eF15 3 2).trans (hS15 0 2 rfl))).trans ((pf12_3_2).trans (congrArg (fun q : Nat => (q : Int)) ((show D15 9 = D12 9 from (eD15 9))).symm))
  have pf15_3_3 : F15 3 3 = (D15 10 : Int) := ((show F15 3 3 = F12 3 3 from (eF15 3 3).trans (hS15 0 3 rfl))).trans ((pf12_3_3).trans (congrArg (fun q : Nat => (q : Int)) ((show D15 10 = D12 10 from (eD15 10))).symm))
  have pf15_3_8 : F15 3 8 = (D15 6 : Int) := (eF15 3 8).trans (pm15_3.trans (congrArg (fun q : Nat => (q : Int)) (eD15 6).symm))
  have r16 : (0 : Int) ≤ m15_3 ∧ m15_3 ≤ 1000000 := nleE (H.nle 6 (ltn len_V194_Row_oz_D3cls rfl)) (show (N15 6 : Int) = m15_3 from (congrArg (fun q : Nat => (q : Int)) (eN15 6)).trans em15_3)
  have r17 : (-2147483648 : Int) ≤ y15_0_6 ∧ y15_0_6 ≤ 2147483647 := rngE (show (-2147483648 : Int) ≤ F15 3 6 ∧ F15 3 6 ≤ 2147483647 from H.krg 3 6 (ltn len_V194_Row_oz_D3cls rfl)) (show F15 3 6 = y15_0_6 from ((eF15 3 6).trans ey15_0_6))
  refine Ew_of (pcₚ := 25) (fun _ => x_aload_n rfl (rk_o (rfl) rfl rfl)) ?_
  refine Ew_stk (congrArg (fun qz : Nat => ([.ref qz] : List Value)) (show D15 0 = D 0 from mD15 0 rfl).symm) ?_
  refine v_g H (o := 0) (v := .ref (D15 3)) rfl rfl rfl rfl rfl (vrf ((mF15 0 1 rfl).trans ((pf3).trans (congrArg (fun q : Nat => (q : Int)) (mD15 3 rfl).symm)))) ?_
  refine Ew_of (pcₚ := 29) (fun _ => x_iconst rfl) ?_
  refine Ew_of (pcₚ := 30) (fun _ => x_iload_n rfl rk_s) ?_
  refine Ew_of (pcₚ := 31) (fun _ => x_iload_n rfl rk_s) ?_
  refine Ew_of (pcₚ := 32) (fun _ => x_iload_n rfl rk_s) ?_
  refine Ew_of (pcₚ := 33) (fun _ => x_iconst rfl) ?_
  refine w_isub rfl ?_
  have r18 : (-2147483648 : Int) ≤ F 3 4 ∧ F 3 4 ≤ 2147483647 := rngE (show (-2147483648 : Int) ≤ F15 3 4 ∧ F15 3 4 ≤ 2147483647 from H.krg 3 4 (ltn len_V194_Row_oz_D3cls rfl)) (show F15 3 4 = F 3 4 from (((show F15 3 4 = F12 3 4 from (eF15 3 4).trans (hS15 0 4 rfl))).trans ((show F12 3 4 = F 3 4 from (eF12 3 4)))))
  have r19 : (-2147483648 : Int) ≤ F 3 5 ∧ F 3 5 ≤ 2147483647 := rngE (show (-2147483648 : Int) ≤ F15 3 5 ∧ F15 3 5 ≤ 2147483647 from H.krg 3 5 (ltn len_V194_Row_oz_D3cls rfl)) (show F15 3 5 = F 3 5 from (((show F15 3 5 = F12 3 5 from (eF15 3 5).trans (hS15 0 5 rfl))).trans ((show F12 3 5 = F 3 5 from (eF12 3 5)))))
  refine v_inv H (o := 3) rfl rfl rfl rfl rfl rfl (by rfl) (C125 (D := puc 180461195006052355 D15) (N := puc 180461195006052355 N15) (HW_subc H oz_D3cls_35 oz_D3cls_44) ((mF15 3 0 rfl).trans ((pf4).trans (congrArg (fun q : Nat => (q : Int)) (mD15 4 rfl).symm))) ((mF15 4 0 rfl).trans ((pf5).trans (congrArg (fun q : Nat => (q : Int)) (mD15 5 rfl).symm))) (pf15_3_8) (pf15_3_1) (pf15_3_2) (pf15_3_3) (n5) ((congrArg (fun q : Nat => (q : Int)) (mN15 5 rfl)).trans (en5)) (m15_3) ((congrArg (fun q : Nat => (q : Int)) (eN15 6)).trans em15_3) (n8) ((congrArg (fun q : Nat => (q : Int)) (show N15 8 = N12 8 from (eN15 8))).trans ((congrArg (fun q : Nat => (q : Int)) (show N12 8 = N 8 from (eN12 8))).trans (en8))) (n9) ((congrArg (fun q : Nat => (q : Int)) (show N15 9 = N12 9 from (eN15 9))).trans ((congrArg (fun q : Nat => (q : Int)) (show N12 9 = N 9 from (eN12 9))).trans (en9))) (n10) ((congrArg (fun q : Nat => (q : Int)) (show N15 10 = N12 10 from (eN15 10))).trans ((congrArg (fun q : Nat => (q : Int)) (show N12 10 = N 10 from (eN12 10))).trans (en10))) (F 3 4) ((((show F15 3 4 = F12 3 4 from (eF15 3 4).trans (hS15 0 4 rfl))).trans ((show F12 3 4 = F 3 4 from (eF12 3 4))))) (F 3 5) ((((show F15 3 5 = F12 3 5 from (eF15 3 5).trans (hS15 0 5 rfl))).trans ((show F12 3 5 = F 3 5 from (eF12 3 5))))) (y15_0_6) (((eF15 3 6).trans ey15_0_6)) (u3_10) (((mF15 3 10 rfl).trans (eu3_10))) (u4_1) (((mF15 4 1 rfl).trans (eu4_1))) (w5) ((funext (mA15 5 rfl)).trans (ew5)) (w15_3) ((eA15 6).trans ew15_3) (A 8) (((show A15 8 = A12 8 from (eA15 8))).trans ((show A12 8 = A 8 from (eA12 8)))) (A 9) (((show A15 9 = A12 9 from (eA15 9))).trans ((show A12 9 = A 9 from (eA12 9)))) (A 10) (((show A15 10 = A12 10 from (eA15 10))).trans ((show A12 10 = A 10 from (eA12 10)))) (show inr (0) from q_20) (show inr (u4_1) from q_2767 h1) (show inr (u4_1) from q_2767 h1) (show inr ((u4_1 - 4)) from q_2868 h1) (show 0 ≤ (u4_1) ∧ (u4_1) ≤ (n5) ∧ (n5) ≤ 65536 ∧ (u4_1) ≤ 16384 from h1) (show 1 ≤ (u3_10) ∧ (u3_10) ≤ 8 from q_2766 h2) (show 0 ≤ (0) ∧ (0) ≤ (u4_1) ∧ (u4_1) ≤ (u4_1) from q_2867 h1) (show (u4_1) ≤ (u4_1) ∧ ((u4_1 - 4)) < (u4_1) ∧ ((u4_1 - 4)) < (y15_0_6) from q_2866 h2 pz15_1) (show 0 ≤ (y15_0_6) ∧ (y15_0_6) ≤ (m15_3) ∧ (m15_3) ≤ 16384 from q_2768 h7 pz15_0) (show BKI ((w5)) ((w15_3)) ((u3_10)) ((y15_0_6)) from pz15_3) (show (n8) = (n9) ∧ (n10) = (n9) ∧ (n9) ≤ 65536 ∧ ((n9) = 0 ∨ 64 ≤ (n9)) ∧ lgq ((n9)) = 0 from h5) (fun σ20 D20ₚ N20ₚ F20ₚ A20ₚ c20 s20 Hₚ Oₚ hD20 hN20 hS20 hA20 pm20_4 pm20_5 pm20_6 m20_4 em20_4 m20_5 em20_5 m20_6 em20_6 y20_0_4 ey20_0_4 y20_0_5 ey20_0_5 w20_4 ew20_4 w20_5 ew20_5 w20_6 ew20_6 pz20_0 pz20_1 pz20_2 pz20_3 => ⟨rfl, ?_⟩))
  refine v_backMc (c := ((c + c12) + c15)) (s := ((s + s12) + s15)) H oz_D3cls_35 oz_D3cls_44 Hₚ Oₚ hD20 oz_D3cls_36 (fun D20 N20 F20 A20 H Oₚ eD20 eN20 eF20 eA20 => ?_)
  have O := OUT_trans O Oₚ
  -- Finder.go
  have cF20 : SF oz_D3clsl_9 F F20 := SF_trans (cF15) (SF_gluc (ι := oz_D3clsl_13) oz_D3cls_44 hS20 eF20 (by decide +kernel)) (any_sub (lₚ := [(3, 1), (3, 2), (3, 3), (3, 4), (3, 5), (3, 12), (3, 13), (3, 14), (3, 15), (3, 16), (3, 17), (3, 18)]) (by decide +kernel))
  have mF20 := SFm_of cF20 oz_D3cls_40
  have cA20 : SA oz_D3clsl_10 A A20 := SA_trans (cA15) (SA_gluc (ι := oz_D3clsl_13) oz_D3cls_44 hA20 eA20 (by decide +kernel)) (any_subA (lₚ := [8, 9, 10]) (by decide +kernel))
  have mA20 := SAm_of cA20 oz_D3cls_41
  have cD20 : SD oz_D3clsl_11 D D20 := SD_trans (cD15) (SD_gluc (ι := oz_D3clsl_13) oz_D3cls_44 hD20 eD20 (by decide +kernel)) (any_subA (lₚ := [8, 9, 10]) (by decide +kernel))
  have mD20 := SDm_of cD20 oz_D3cls_42
  have cN20 : SD oz_D3clsl_11 N N20 := SD_trans (cN15) (SD_gluc (ι := oz_D3clsl_13) oz_D3cls_44 hN20 eN20 (by decide +kernel)) (any_subA (lₚ := [8, 9, 10]) (by decide +kernel))
  have mN20 := SDm_of cN20 oz_D3cls_42
  have pf20_1_0 : F20 1 0 = (D20 2 : Int) := ((show F20 1 0 = F15 1 0 from (eF20 1 0))).trans ((pf15_1_0).trans (congrArg (fun q : Nat => (q : Int)) ((show D20 2 = D15 2 from (eD20 2))).symm))
  have pf20_3_1 : F20 3 1 = (D20 8 : Int) := (eF20 3 1).trans (pm20_4.trans (congrArg (fun q : Nat => (q : Int)) (eD20 8).symm))
  have pf20_3_2 : F20 3 2 = (D20 9 : Int) := (eF20 3 2).trans (pm20_5.trans (congrArg (fun q : Nat => (q : Int)) (eD20 9).symm))
  have pf20_3_3 : F20 3 3 = (D20 10 : Int) := (eF20 3 3).trans (pm20_6.trans (congrArg (fun q : Nat => (q : Int)) (eD20 10).symm))
  have pf20_3_8 : F20 3 8 = (D20 6 : Int) := ((show F20 3 8 = F15 3 8 from (eF20 3 8).trans (hS20 0 8 rfl))).trans ((pf15_3_8).trans (congrArg (fun q : Nat => (q : Int)) ((show D20 6 = D15 6 from (eD20 6).trans (hD20 3 rfl))).symm))
  have r21 : (0 : Int) ≤ m20_4 ∧ m20_4 ≤ 1000000 := nleE (H.nle 8 (ltn len_V194_Row_oz_D3cls rfl)) (show (N20 8 : Int) = m20_4 from (congrArg (fun q : Nat => (q : Int)) (eN20 8)).trans em20_4)
  have r22 : (0 : Int) ≤ m20_5 ∧ m20_5 ≤ 1000000 := nleE (H.nle 9 (ltn len_V194_Row_oz_D3cls rfl)) (show (N20 9 : Int) = m20_5 from (congrArg (fun q : Nat => (q : Int)) (eN20 9)).trans em20_5)
  have r23 : (0 : Int) ≤ m20_6 ∧ m20_6 ≤ 1000000 := nleE (H.nle 10 (ltn len_V194_Row_oz_D3cls rfl)) (show (N20 10 : Int) = m20_6 from (congrArg (fun q : Nat => (q : Int)) (eN20 10)).trans em20_6)
  have r24 : (-2147483648 : Int) ≤ y20_0_4 ∧ y20_0_4 ≤ 2147483647 := rngE (show (-2147483648 : Int) ≤ F20 3 4 ∧ F20 3 4 ≤ 2147483647 from H.krg 3 4 (ltn len_V194_Row_oz_D3cls rfl)) (show F20 3 4 = y20_0_4 from ((eF20 3 4).trans ey20_0_4))
  have r25 : (-2147483648 : Int) ≤ y20_0_5 ∧ y20_0_5 ≤ 2147483647 := rngE (show (-2147483648 : Int) ≤ F20 3 5 ∧ F20 3 5 ≤ 2147483647 from H.krg 3 5 (ltn len_V194_Row_oz_D3cls rfl)) (show F20 3 5 = y20_0_5 from ((eF20 3 5).trans ey20_0_5))
  refine Ew_of (pcₚ := 38) (fun _ => x_iconst rfl) ?_
  refine Ew_of (pcₚ := 39) (fun _ => x_istore_n rfl) ?_
  refine Ew_of (pcₚ := 40) (fun _ => x_iconst rfl) ?_
  refine Ew_of (pcₚ := 42) (fun _ => x_istore rfl) ?_
  have : su (fun j => ((w20_4)) j + ((w20_5)) j) (0 : Int).toNat = 0 := rfl
  have hfd : FDI ((w20_4)) ((w20_5)) ((w20_6)) ((y20_0_4)) ((u4_1) - 0 - (y20_0_5)) ((u3_10)) := pz20_3
  suffices hl42 : ∀ (m : Nat), ∀ (ls : rO) (σ : rS) (D_42 N_42 : Nat → Nat) (c_42 s_42 : Nat) (F_42 : hF) (A_42 : hA) (x42_3 : Int) (x42_4 : Int), rlook ls 0 = some (.ref (D_42 0)) → rlook ls 1 = some (.ref (D_42 1)) → rlook ls 3 = some (I (x42_3)) → rlook ls 4 = some (I (x42_4)) → HW V194_Row σ D_42 N_42 F_42 A_42 → OUT (V194_Row).length D N σE c s D_42 N_42 σ c_42 s_42 → SD [2] D20 D_42 → SD [2] N20 N_42 → SF [(1, 0), (1, 1), (1, 2)] F20 F_42 → SA [2] A20 A_42 → F_42 1 0 = (D_42 2 : Int) → ∀ m42_2 : Int, (N_42 2 : Int) = m42_2 → ∀ y42_1_1 : Int, F_42 1 1 = y42_1_1 → (inr (x42_3)) → (inr (x42_4)) → ((0) ≤ (x42_4)) → ((x42_4) ≤ (0) ∨ (x42_4) ≤ ((y20_0_4))) → (0 ≤ (y42_1_1) ∧ (y42_1_1) ≤ (m42_2) ∧ (m42_2) ≤ 65536) → ((x42_3) = su (fun j => ((w20_4)) j + ((w20_5)) j) ((x42_4) : Int).toNat) → (((y20_0_4)) - (x42_4)).toNat = m → Ew 194 (d + 4) 42 ls [] σ c_42 s_42 Q from
    hl42 _ _ _ _ _ _ _ _ _ (0) (0) ((rk_o (rk_o (rk_o (rfl) rfl rfl) rfl rfl) rfl rfl).trans (congrArg (fun q : Nat => some (Value.ref q)) (mD20 0 rfl).symm)) ((rk_o (rk_o (rk_o (rfl) rfl rfl) rfl rfl) rfl rfl).trans (congrArg (fun q : Nat => some (Value.ref q)) (mD20 1 rfl).symm)) (rk_o (rk_s) rfl rfl) (rk_s) H O (SD_refl) (SD_refl) (SF_refl) (SA_refl) (pf20_1_0) (m12_1) ((congrArg (fun q : Nat => (q : Int)) (show N20 2 = N15 2 from (eN20 2))).trans ((congrArg (fun q : Nat => (q : Int)) (show N15 2 = N12 2 from (eN15 2))).trans ((congrArg (fun q : Nat => (q : Int)) (eN12 2)).trans em12_1))) (y12_0_1) (((((show F20 1 1 = F15 1 1 from (eF20 1 1))).trans ((show F15 1 1 = F12 1 1 from (eF15 1 1)))).trans ((eF12 1 1).trans ey12_0_1)))  (show inr (0) from q_20) (show inr (0) from q_20) (show (0) ≤ (0) from q_25) (show (0) ≤ (0) ∨ (0) ≤ ((y20_0_4)) from q_24) (show 0 ≤ (y12_0_1) ∧ (y12_0_1) ≤ (m12_1) ∧ (m12_1) ≤ 65536 from pz12_0) (show (0) = su (fun j => ((w20_4)) j + ((w20_5)) j) ((0) : Int).toNat by omega) rfl
  as_aux_lemma =>
  intro m
  induction m using Nat.strongRecOn with
  | _ m ih42 =>
    intro ls σ D_42 N_42 c_42 s_42 F_42 A_42 x42_3 x42_4 l42_0 l42_1 l42_3 l42_4 H O hD_42 hN_42 hS_42 hA_42 pm42_2 m42_2 em42_2 y42_1_1 ey42_1_1  j42_0 j42_1 j42_2 j42_3 j42_4 j42_5 hm42
    have cF_42 : SF oz_D3clsl_9 F F_42 := SF_trans (cF20) hS_42 (any_sub (by decide +kernel))
    have mF_42 := SFm_of cF_42 oz_D3cls_40
    have cA_42 : SA oz_D3clsl_10 A A_42 := SA_trans (cA20) hA_42 (any_subA (by decide +kernel))
    have mA_42 := SAm_of cA_42 oz_D3cls_41
    have cD_42 : SD oz_D3clsl_11 D D_42 := SD_trans (cD20) hD_42 (any_subA (by decide +kernel))
    have mD_42 := SDm_of cD_42 oz_D3cls_42
    have cN_42 : SD oz_D3clsl_11 N N_42 := SD_trans (cN20) hN_42 (any_subA (by decide +kernel))
    have mN_42 := SDm_of cN_42 oz_D3cls_42
    have pf_42_3_1 : F_42 3 1 = (D_42 8 : Int) := (hS_42 3 1 rfl).trans ((pf20_3_1).trans (congrArg (fun q : Nat => (q : Int)) (hD_42 8 rfl).symm))
    have pf_42_3_2 : F_42 3 2 = (D_42 9 : Int) := (hS_42 3 2 rfl).trans ((pf20_3_2).trans (congrArg (fun q : Nat => (q : Int)) (hD_42 9 rfl).symm))
    have pf_42_3_3 : F_42 3 3 = (D_42 10 : Int) := (hS_42 3 3 rfl).trans ((pf20_3_3).trans (congrArg (fun q : Nat => (q : Int)) (hD_42 10 rfl).symm))
    have pf_42_3_8 : F_42 3 8 = (D_42 6 : Int) := (hS_42 3 8 rfl).trans ((pf20_3_8).trans (congrArg (fun q : Nat => (q : Int)) (hD_42 6 rfl).symm))
    have r26 : (0 : Int) ≤ m42_2 ∧ m42_2 ≤ 1000000 := nleE (H.nle 2 (ltn len_V194_Row_oz_D3cls rfl)) (show (N_42 2 : Int) = m42_2 from em42_2)
    have r27 : (-2147483648 : Int) ≤ y42_1_1 ∧ y42_1_1 ≤ 2147483647 := rngE (show (-2147483648 : Int) ≤ F_42 1 1 ∧ F_42 1 1 ≤ 2147483647 from H.krg 1 1 (ltn len_V194_Row_oz_D3cls rfl)) (show F_42 1 1 = y42_1_1 from (ey42_1_1))
    refine Ew_of (pcₚ := 44) (fun _ => x_iload rfl l42_4) ?_
    refine Ew_of (pcₚ := 45) (fun _ => x_aload_n rfl l42_0) ?_
    refine v_g H (o := 0) (v := .ref (D_42 3)) rfl rfl rfl rfl rfl (vrf ((mF_42 0 1 rfl).trans ((pf3).trans (congrArg (fun q : Nat => (q : Int)) (mD_42 3 rfl).symm)))) ?_
    refine v_g H (o := 3) (v := I (y20_0_4)) rfl rfl rfl rfl rfl (congrArg (fun z : Int => I z) (((hS_42 3 4 rfl).trans ((eF20 3 4).trans ey20_0_4)) : F_42 3 4 = y20_0_4)) ?_
    refine w_icmpge (t := 124) rfl rfl (show inr (x42_4) from j42_1) (show inr (y20_0_4) from q_2869 pz20_1 r24) (fun b28 => ?_) (fun b28 => ?_)
    · have hle : (x42_4) = (y20_0_4) := q_2870 b28 j42_3 pz20_1
      have hst : su (fun j => ((w20_4)) j + ((w20_5)) j) ((x42_4) : Int).toNat = (u4_1) - 0 - (y20_0_5) := by rw [hle]; exact hfd.2
      refine Ew_of (pcₚ := 125) (fun _ => x_aload_n rfl l42_0) ?_
      refine Ew_of (pcₚ := 126) (fun _ => x_aload_n rfl l42_1) ?_
      refine Ew_of (pcₚ := 127) (fun _ => x_iload_n rfl l42_3) ?_
      refine Ew_of (pcₚ := 128) (fun _ => x_aload_n rfl l42_0) ?_
      refine v_g H (o := 0) (v := .ref (D_42 3)) rfl rfl rfl rfl rfl (vrf ((mF_42 0 1 rfl).trans ((pf3).trans (congrArg (fun q : Nat => (q : Int)) (mD_42 3 rfl).symm)))) ?_
      refine v_g H (o := 3) (v := I (y20_0_5)) rfl rfl rfl rfl rfl (congrArg (fun z : Int => I z) (((hS_42 3 5 rfl).trans ((eF20 3 5).trans ey20_0_5)) : F_42 3 5 = y20_0_5)) ?_
      refine v_inv H (o := 0) rfl rfl rfl rfl rfl rfl (by rfl) (C196_Row (D := puc 176197141529088 D_42) (N := puc 176197141529088 N_42) (HW_subc H oz_D3cls_37 oz_D3cls_45) (pm42_2) ((mF_42 0 1 rfl).trans ((pf3).trans (congrArg (fun q : Nat => (q : Int)) (mD_42 3 rfl).symm))) ((mF_42 3 0 rfl).trans ((pf4).trans (congrArg (fun q : Nat => (q : Int)) (mD_42 4 rfl).symm))) ((mF_42 4 0 rfl).trans ((pf5).trans (congrArg (fun q : Nat => (q : Int)) (mD_42 5 rfl).symm))) (m42_2) (em42_2) (n5) ((congrArg (fun q : Nat => (q : Int)) (mN_42 5 rfl)).trans (en5)) (y42_1_1) ((ey42_1_1)) (u4_1) (((mF_42 4 1 rfl).trans (eu4_1))) (show inr (x42_3) from j42_0) (show inr (y20_0_5) from q_2871 pz20_2 r25) (show 0 ≤ (y42_1_1) ∧ (y42_1_1) ≤ (m42_2) ∧ (m42_2) ≤ 65536 from j42_4) (show 0 ≤ (u4_1) ∧ (u4_1) ≤ (n5) ∧ (n5) ≤ 65536 from q_2775 h1) (show 0 ≤ (x42_3) ∧ 0 ≤ (y20_0_5) ∧ (x42_3) + (y20_0_5) ≤ (n5) by omega) (fun σ29 D29ₚ N29ₚ F29ₚ A29ₚ c29 s29 Hₚ Oₚ hD29 hN29 hS29 hA29 pm29_2 m29_2 em29_2 y29_1_1 ey29_1_1 pz29_0 => ⟨rfl, ?_⟩))
      refine v_backMc (c := c_42) (s := s_42) H oz_D3cls_37 oz_D3cls_45 Hₚ Oₚ hD29 oz_D3cls_38 (fun D29 N29 F29 A29 H Oₚ eD29 eN29 eF29 eA29 => ?_)
      have O := OUT_trans O Oₚ
      -- Tags.packLiterals
      have cF29 : SF oz_D3clsl_9 F F29 := SF_trans (cF_42) (SF_gluc (ι := oz_D3clsl_14) oz_D3cls_45 hS29 eF29 (by decide +kernel)) (any_sub (lₚ := [(1, 0), (1, 1), (1, 2)]) (by decide +kernel))
      have mF29 := SFm_of cF29 oz_D3cls_40
      have cA29 : SA oz_D3clsl_10 A A29 := SA_trans (cA_42) (SA_gluc (ι := oz_D3clsl_14) oz_D3cls_45 hA29 eA29 (by decide +kernel)) (any_subA (lₚ := [2]) (by decide +kernel))
      have mA29 := SAm_of cA29 oz_D3cls_41
      have cD29 : SD oz_D3clsl_11 D D29 := SD_trans (cD_42) (SD_gluc (ι := oz_D3clsl_14) oz_D3cls_45 hD29 eD29 (by decide +kernel)) (any_subA (lₚ := [2]) (by decide +kernel))
      have mD29 := SDm_of cD29 oz_D3cls_42
      have cN29 : SD oz_D3clsl_11 N N29 := SD_trans (cN_42) (SD_gluc (ι := oz_D3clsl_14) oz_D3cls_45 hN29 eN29 (by decide +kernel)) (any_subA (lₚ := [2]) (by decide +kernel))
      have mN29 := SDm_of cN29 oz_D3cls_42
      have pf29_1_0 : F29 1 0 = (D29 2 : Int) := (eF29 1 0).trans (pm29_2.trans (congrArg (fun q : Nat => (q : Int)) (eD29 2).symm))
      have pf29_3_1 : F29 3 1 = (D29 8 : Int) := ((show F29 3 1 = F_42 3 1 from (eF29 3 1).trans (hS29 3 1 rfl))).trans ((pf_42_3_1).trans (congrArg (fun q : Nat => (q : Int)) ((show D29 8 = D_42 8 from (eD29 8))).symm))
      have pf29_3_2 : F29 3 2 = (D29 9 : Int) := ((show F29 3 2 = F_42 3 2 from (eF29 3 2).trans (hS29 3 2 rfl))).trans ((pf_42_3_2).trans (congrArg (fun q : Nat => (q : Int)) ((show D29 9 = D_42 9 from (eD29 9))).symm))
      have pf29_3_3 : F29 3 3 = (D29 10 : Int) := ((show F29 3 3 = F_42 3 3 from (eF29 3 3).trans (hS29 3 3 rfl))).trans ((pf_42_3_3).trans (congrArg (fun q : Nat => (q : Int)) ((show D29 10 = D_42 10 from (eD29 10))).symm))
      have pf29_3_8 : F29 3 8 = (D29 6 : Int) := ((show F29 3 8 = F_42 3 8 from (eF29 3 8).trans (hS29 3 8 rfl))).trans ((pf_42_3_8).trans (congrArg (fun q : Nat => (q : Int)) ((show D29 6 = D_42 6 from (eD29 6))).symm))
      have r30 : (0 : Int) ≤ m29_2 ∧ m29_2 ≤ 1000000 := nleE (H.nle 2 (ltn len_V194_Row_oz_D3cls rfl)) (show (N29 2 : Int) = m29_2 from (congrArg (fun q : Nat => (q : Int)) (eN29 2)).trans em29_2)
      have r31 : (-2147483648 : Int) ≤ y29_1_1 ∧ y29_1_1 ≤ 2147483647 := rngE (show (-2147483648 : Int) ≤ F29 1 1 ∧ F29 1 1 ≤ 2147483647 from H.krg 1 1 (ltn len_V194_Row_oz_D3cls rfl)) (show F29 1 1 = y29_1_1 from ((eF29 1 1).trans ey29_1_1))
      exact w_ret rfl (k _ _ _ _ _ _ _ H O (cD29) (cN29) (cF29) (cA29) (pf29_1_0) (pf29_3_8) (pf29_3_1) (pf29_3_2) (pf29_3_3) (m29_2) ((congrArg (fun q : Nat => (q : Int)) (eN29 2)).trans em29_2) (m15_3) ((congrArg (fun q : Nat => (q : Int)) (show N29 6 = N_42 6 from (eN29 6))).trans ((congrArg (fun q : Nat => (q : Int)) (hN_42 6 rfl)).trans ((congrArg (fun q : Nat => (q : Int)) (show N20 6 = N15 6 from (eN20 6).trans (hN20 3 rfl))).trans ((congrArg (fun q : Nat => (q : Int)) (eN15 6)).trans em15_3)))) (m20_4) ((congrArg (fun q : Nat => (q : Int)) (show N29 8 = N_42 8 from (eN29 8))).trans ((congrArg (fun q : Nat => (q : Int)) (hN_42 8 rfl)).trans ((congrArg (fun q : Nat => (q : Int)) (eN20 8)).trans em20_4))) (m20_5) ((congrArg (fun q : Nat => (q : Int)) (show N29 9 = N_42 9 from (eN29 9))).trans ((congrArg (fun q : Nat => (q : Int)) (hN_42 9 rfl)).trans ((congrArg (fun q : Nat => (q : Int)) (eN20 9)).trans em20_5))) (m20_6) ((congrArg (fun q : Nat => (q : Int)) (show N29 10 = N_42 10 from (eN29 10))).trans ((congrArg (fun q : Nat => (q : Int)) (hN_42 10 rfl)).trans ((congrArg (fun q : Nat => (q : Int)) (eN20 10)).trans em20_6))) (y29_1_1) (((eF29 1 1).trans ey29_1_1)) (y15_0_6) ((((((show F29 3 6 = F_42 3 6 from (eF29 3 6).trans (hS29 3 6 rfl))).trans (hS_42 3 6 rfl)).trans ((show F20 3 6 = F15 3 6 from (eF20 3 6).trans (hS20 0 6 rfl)))).trans ((eF15 3 6).trans ey15_0_6))) (w15_3) (((show A29 6 = A_42 6 from (eA29 6))).trans ((funext (hA_42 6 rfl)).trans (((show A20 6 = A15 6 from (eA20 6).trans (funext (hA20 3 rfl)))).trans ((eA15 6).trans ew15_3)))) (w15_4) (((show A29 7 = A_42 7 from (eA29 7))).trans ((funext (hA_42 7 rfl)).trans (((show A20 7 = A15 7 from (eA20 7))).trans ((eA15 7).trans ew15_4)))) (show 0 ≤ (y29_1_1) ∧ (y29_1_1) ≤ (m29_2) ∧ (m29_2) ≤ 65536 from pz29_0) (show 0 ≤ (y15_0_6) ∧ (u3_6) ≤ (y15_0_6) ∧ (y15_0_6) ≤ (m15_3) ∧ (m15_3) ≤ 16384 from q_2777 h7 pz15_0) (show (m20_4) = (m20_5) ∧ (m20_6) = (m20_5) ∧ (m20_5) ≤ 65536 ∧ ((m20_5) = 0 ∨ 64 ≤ (m20_5)) ∧ lgq ((m20_5)) = 0 from pz20_0) (show BKI ((w5)) ((w15_3)) ((u3_10)) ((y15_0_6)) from pz15_3) (show HDI ((w5)) ((w15_4)) ((u3_10)) ((y15_0_6)) from pz15_4) (show (y15_0_6) = (u3_6) ∨ (y15_0_6) + 4 ≤ (u4_1) + 1 by omega))
    · have hfp := FDI_part (i := (x42_4)) hfd (by omega) (by omega) (by omega)
      have hfj := hfd.1 ((x42_4)) (by omega) (by omega)
      refine Ew_of (pcₚ := 55) (fun _ => x_aload_n rfl l42_0) ?_
      refine Ew_of (pcₚ := 56) (fun _ => x_aload_n rfl l42_1) ?_
      refine Ew_of (pcₚ := 57) (fun _ => x_iload_n rfl l42_3) ?_
      refine Ew_of (pcₚ := 58) (fun _ => x_aload_n rfl l42_0) ?_
      refine v_g H (o := 0) (v := .ref (D_42 3)) rfl rfl rfl rfl rfl (vrf ((mF_42 0 1 rfl).trans ((pf3).trans (congrArg (fun q : Nat => (q : Int)) (mD_42 3 rfl).symm)))) ?_
      refine v_g H (o := 3) (v := .ref (D_42 8)) rfl rfl rfl rfl rfl (vrf (pf_42_3_1)) ?_
      refine Ew_of (pcₚ := 66) (fun _ => x_iload rfl l42_4) ?_
      refine v_lI H (o := 8) rfl rfl rfl rfl (n := m20_4) ((congrArg (fun q : Nat => (q : Int)) (hN_42 8 rfl)).trans ((congrArg (fun q : Nat => (q : Int)) (eN20 8)).trans em20_4)) (show 0 ≤ x42_4 ∧ x42_4 < m20_4 from q_2872 b28 j42_2 pz20_0 pz20_1) (fun v32 ev32 qv32 => ?_)
      have ev32 : (w20_4) (x42_4) = v32 := (congrFun ((funext (hA_42 8 rfl)).trans ((eA20 8).trans ew20_4)) (x42_4)).symm.trans ev32
      refine v_inv H (o := 0) rfl rfl rfl rfl rfl rfl (by rfl) (C196_Row (D := puc 176197141529088 D_42) (N := puc 176197141529088 N_42) (HW_subc H oz_D3cls_37 oz_D3cls_45) (pm42_2) ((mF_42 0 1 rfl).trans ((pf3).trans (congrArg (fun q : Nat => (q : Int)) (mD_42 3 rfl).symm))) ((mF_42 3 0 rfl).trans ((pf4).trans (congrArg (fun q : Nat => (q : Int)) (mD_42 4 rfl).symm))) ((mF_42 4 0 rfl).trans ((pf5).trans (congrArg (fun q : Nat => (q : Int)) (mD_42 5 rfl).symm))) (m42_2) (em42_2) (n5) ((congrArg (fun q : Nat => (q : Int)) (mN_42 5 rfl)).trans (en5)) (y42_1_1) ((ey42_1_1)) (u4_1) (((mF_42 4 1 rfl).trans (eu4_1))) (show inr (x42_3) from j42_0) (show inr (v32) from qv32) (show 0 ≤ (y42_1_1) ∧ (y42_1_1) ≤ (m42_2) ∧ (m42_2) ≤ 65536 from j42_4) (show 0 ≤ (u4_1) ∧ (u4_1) ≤ (n5) ∧ (n5) ≤ 65536 from q_2775 h1) (show 0 ≤ (x42_3) ∧ 0 ≤ (v32) ∧ (x42_3) + (v32) ≤ (n5) by omega) (fun σ33 D33ₚ N33ₚ F33ₚ A33ₚ c33 s33 Hₚ Oₚ hD33 hN33 hS33 hA33 pm33_2 m33_2 em33_2 y33_1_1 ey33_1_1 pz33_0 => ⟨rfl, ?_⟩))
      refine v_backMc (c := c_42) (s := s_42) H oz_D3cls_37 oz_D3cls_45 Hₚ Oₚ hD33 oz_D3cls_38 (fun D33 N33 F33 A33 H Oₚ eD33 eN33 eF33 eA33 => ?_)
      have O := OUT_trans O Oₚ
      -- Tags.packLiterals
      have cF33 : SF oz_D3clsl_9 F F33 := SF_trans (cF_42) (SF_gluc (ι := oz_D3clsl_14) oz_D3cls_45 hS33 eF33 (by decide +kernel)) (any_sub (lₚ := [(1, 0), (1, 1), (1, 2)]) (by decide +kernel))
      have mF33 := SFm_of cF33 oz_D3cls_40
      have cA33 : SA oz_D3clsl_10 A A33 := SA_trans (cA_42) (SA_gluc (ι := oz_D3clsl_14) oz_D3cls_45 hA33 eA33 (by decide +kernel)) (any_subA (lₚ := [2]) (by decide +kernel))
      have mA33 := SAm_of cA33 oz_D3cls_41
      have cD33 : SD oz_D3clsl_11 D D33 := SD_trans (cD_42) (SD_gluc (ι := oz_D3clsl_14) oz_D3cls_45 hD33 eD33 (by decide +kernel)) (any_subA (lₚ := [2]) (by decide +kernel))
      have mD33 := SDm_of cD33 oz_D3cls_42
      have cN33 : SD oz_D3clsl_11 N N33 := SD_trans (cN_42) (SD_gluc (ι := oz_D3clsl_14) oz_D3cls_45 hN33 eN33 (by decide +kernel)) (any_subA (lₚ := [2]) (by decide +kernel))
      have mN33 := SDm_of cN33 oz_D3cls_42
      have pf33_1_0 : F33 1 0 = (D33 2 : Int) := (eF33 1 0).trans (pm33_2.trans (congrArg (fun q : Nat => (q : Int)) (eD33 2).symm))
      have pf33_3_1 : F33 3 1 = (D33 8 : Int) := ((show F33 3 1 = F_42 3 1 from (eF33 3 1).trans (hS33 3 1 rfl))).trans ((pf_42_3_1).trans (congrArg (fun q : Nat => (q : Int)) ((show D33 8 = D_42 8 from (eD33 8))).symm))
      have pf33_3_2 : F33 3 2 = (D33 9 : Int) := ((show F33 3 2 = F_42 3 2 from (eF33 3 2).trans (hS33 3 2 rfl))).trans ((pf_42_3_2).trans (congrArg (fun q : Nat => (q : Int)) ((show D33 9 = D_42 9 from (eD33 9))).symm))
      have pf33_3_3 : F33 3 3 = (D33 10 : Int) := ((show F33 3 3 = F_42 3 3 from (eF33 3 3).trans (hS33 3 3 rfl))).trans ((pf_42_3_3).trans (congrArg (fun q : Nat => (q : Int)) ((show D33 10 = D_42 10 from (eD33 10))).symm))
      have pf33_3_8 : F33 3 8 = (D33 6 : Int) := ((show F33 3 8 = F_42 3 8 from (eF33 3 8).trans (hS33 3 8 rfl))).trans ((pf_42_3_8).trans (congrArg (fun q : Nat => (q : Int)) ((show D33 6 = D_42 6 from (eD33 6))).symm))
      have r34 : (0 : Int) ≤ m33_2 ∧ m33_2 ≤ 1000000 := nleE (H.nle 2 (ltn len_V194_Row_oz_D3cls rfl)) (show (N33 2 : Int) = m33_2 from (congrArg (fun q : Nat => (q : Int)) (eN33 2)).trans em33_2)
      have r35 : (-2147483648 : Int) ≤ y33_1_1 ∧ y33_1_1 ≤ 2147483647 := rngE (show (-2147483648 : Int) ≤ F33 1 1 ∧ F33 1 1 ≤ 2147483647 from H.krg 1 1 (ltn len_V194_Row_oz_D3cls rfl)) (show F33 1 1 = y33_1_1 from ((eF33 1 1).trans ey33_1_1))
      refine Ew_of (pcₚ := 71) (fun _ => x_aload_n rfl l42_1) ?_
      refine Ew_of (pcₚ := 72) (fun _ => x_aload_n rfl l42_0) ?_
      refine Ew_stk (show ([.ref (D_42 0), .ref (D_42 1)] : List Value) = [.ref (D33 0), .ref (D33 1)] by rw [show D33 0 = D_42 0 from ((show D33 0 = D_42 0 from (eD33 0).trans (hD33 0 rfl))), show D33 1 = D_42 1 from ((show D33 1 = D_42 1 from (eD33 1).trans (hD33 1 rfl)))]) ?_
      refine v_g H (o := 0) (v := .ref (D33 3)) rfl rfl rfl rfl rfl (vrf ((mF33 0 1 rfl).trans ((pf3).trans (congrArg (fun q : Nat => (q : Int)) (mD33 3 rfl).symm)))) ?_
      refine v_g H (o := 3) (v := .ref (D33 9)) rfl rfl rfl rfl rfl (vrf (pf33_3_2)) ?_
      refine Ew_of (pcₚ := 80) (fun _ => x_iload rfl l42_4) ?_
      refine v_lI H (o := 9) rfl rfl rfl rfl (n := m20_5) ((congrArg (fun q : Nat => (q : Int)) (show N33 9 = N_42 9 from (eN33 9))).trans ((congrArg (fun q : Nat => (q : Int)) (hN_42 9 rfl)).trans ((congrArg (fun q : Nat => (q : Int)) (eN20 9)).trans em20_5))) (show 0 ≤ x42_4 ∧ x42_4 < m20_5 from q_2873 b28 j42_2 pz20_1) (fun v36 ev36 qv36 => ?_)
      have ev36 : (w20_5) (x42_4) = v36 := (congrFun (((show A33 9 = A_42 9 from (eA33 9))).trans ((funext (hA_42 9 rfl)).trans ((eA20 9).trans ew20_5))) (x42_4)).symm.trans ev36
      refine Ew_of (pcₚ := 82) (fun _ => x_aload_n rfl l42_0) ?_
      refine Ew_stk (congrArg (fun qz : Nat => ([.ref qz, I (v36), .ref (D33 1)] : List Value)) (show D33 0 = D_42 0 from ((show D33 0 = D_42 0 from (eD33 0).trans (hD33 0 rfl)))).symm) ?_
      refine v_g H (o := 0) (v := .ref (D33 3)) rfl rfl rfl rfl rfl (vrf ((mF33 0 1 rfl).trans ((pf3).trans (congrArg (fun q : Nat => (q : Int)) (mD33 3 rfl).symm)))) ?_
      refine v_g H (o := 3) (v := .ref (D33 10)) rfl rfl rfl rfl rfl (vrf (pf33_3_3)) ?_
      refine Ew_of (pcₚ := 90) (fun _ => x_iload rfl l42_4) ?_
      refine v_lI H (o := 10) rfl rfl rfl rfl (n := m20_6) ((congrArg (fun q : Nat => (q : Int)) (show N33 10 = N_42 10 from (eN33 10))).trans ((congrArg (fun q : Nat => (q : Int)) (hN_42 10 rfl)).trans ((congrArg (fun q : Nat => (q : Int)) (eN20 10)).trans em20_6))) (show 0 ≤ x42_4 ∧ x42_4 < m20_6 from q_2874 b28 j42_2 pz20_0 pz20_1) (fun v37 ev37 qv37 => ?_)
      have ev37 : (w20_6) (x42_4) = v37 := (congrFun (((show A33 10 = A_42 10 from (eA33 10))).trans ((funext (hA_42 10 rfl)).trans ((eA20 10).trans ew20_6))) (x42_4)).symm.trans ev37
      refine w_stat24 rfl rfl (by rfl) (C197_Row (D := puc 1025 D33) (N := puc 1025 N33) (HW_subc H oz_D3cls_39 oz_D3cls_23) (pf33_1_0) (m33_2) ((congrArg (fun q : Nat => (q : Int)) (eN33 2)).trans em33_2) (y33_1_1) (((eF33 1 1).trans ey33_1_1)) (show inr (v36) from qv36) (show inr (v37) from qv37) (show 0 ≤ (y33_1_1) ∧ (y33_1_1) ≤ (m33_2) ∧ (m33_2) ≤ 65536 from pz33_0) (show 0 ≤ (v36) ∧ (v36) ≤ 65536 by omega) (fun σ38 D38ₚ N38ₚ F38ₚ A38ₚ c38 s38 Hₚ Oₚ hD38 hN38 hS38 hA38 pm38_1 m38_1 em38_1 y38_0_1 ey38_0_1 pz38_0 => ⟨rfl, ?_⟩))
      refine v_backMc (c := (c_42 + c33)) (s := (s_42 + s33)) H oz_D3cls_39 oz_D3cls_23 Hₚ Oₚ hD38 oz_D3cls_32 (fun D38 N38 F38 A38 H Oₚ eD38 eN38 eF38 eA38 => ?_)
      have O := OUT_trans O Oₚ
      -- Tags.packCopies
      have cF38 : SF oz_D3clsl_9 F F38 := SF_trans (cF33) (SF_gluc (ι := oz_D3clsl_8) oz_D3cls_23 hS38 eF38 (by decide +kernel)) (any_sub (lₚ := [(1, 0), (1, 1), (1, 2)]) (by decide +kernel))
      have mF38 := SFm_of cF38 oz_D3cls_40
      have cA38 : SA oz_D3clsl_10 A A38 := SA_trans (cA33) (SA_gluc (ι := oz_D3clsl_8) oz_D3cls_23 hA38 eA38 (by decide +kernel)) (any_subA (lₚ := [2]) (by decide +kernel))
      have mA38 := SAm_of cA38 oz_D3cls_41
      have cD38 : SD oz_D3clsl_11 D D38 := SD_trans (cD33) (SD_gluc (ι := oz_D3clsl_8) oz_D3cls_23 hD38 eD38 (by decide +kernel)) (any_subA (lₚ := [2]) (by decide +kernel))
      have mD38 := SDm_of cD38 oz_D3cls_42
      have cN38 : SD oz_D3clsl_11 N N38 := SD_trans (cN33) (SD_gluc (ι := oz_D3clsl_8) oz_D3cls_23 hN38 eN38 (by decide +kernel)) (any_subA (lₚ := [2]) (by decide +kernel))
      have mN38 := SDm_of cN38 oz_D3cls_42
      have pf38_1_0 : F38 1 0 = (D38 2 : Int) := (eF38 1 0).trans (pm38_1.trans (congrArg (fun q : Nat => (q : Int)) (eD38 2).symm))
      have pf38_3_1 : F38 3 1 = (D38 8 : Int) := ((show F38 3 1 = F33 3 1 from (eF38 3 1))).trans ((pf33_3_1).trans (congrArg (fun q : Nat => (q : Int)) ((show D38 8 = D33 8 from (eD38 8))).symm))
      have pf38_3_2 : F38 3 2 = (D38 9 : Int) := ((show F38 3 2 = F33 3 2 from (eF38 3 2))).trans ((pf33_3_2).trans (congrArg (fun q : Nat => (q : Int)) ((show D38 9 = D33 9 from (eD38 9))).symm))
      have pf38_3_3 : F38 3 3 = (D38 10 : Int) := ((show F38 3 3 = F33 3 3 from (eF38 3 3))).trans ((pf33_3_3).trans (congrArg (fun q : Nat => (q : Int)) ((show D38 10 = D33 10 from (eD38 10))).symm))
      have pf38_3_8 : F38 3 8 = (D38 6 : Int) := ((show F38 3 8 = F33 3 8 from (eF38 3 8))).trans ((pf33_3_8).trans (congrArg (fun q : Nat => (q : Int)) ((show D38 6 = D33 6 from (eD38 6))).symm))
      have r39 : (0 : Int) ≤ m38_1 ∧ m38_1 ≤ 1000000 := nleE (H.nle 2 (ltn len_V194_Row_oz_D3cls rfl)) (show (N38 2 : Int) = m38_1 from (congrArg (fun q : Nat => (q : Int)) (eN38 2)).trans em38_1)
      have r40 : (-2147483648 : Int) ≤ y38_0_1 ∧ y38_0_1 ≤ 2147483647 := rngE (show (-2147483648 : Int) ≤ F38 1 1 ∧ F38 1 1 ≤ 2147483647 from H.krg 1 1 (ltn len_V194_Row_oz_D3cls rfl)) (show F38 1 1 = y38_0_1 from ((eF38 1 1).trans ey38_0_1))
      refine Ew_of (pcₚ := 95) (fun _ => x_iload_n rfl l42_3) ?_
      refine Ew_of (pcₚ := 96) (fun _ => x_aload_n rfl l42_0) ?_
      refine Ew_stk (congrArg (fun qz : Nat => ([.ref qz, I (x42_3)] : List Value)) (show D38 0 = D_42 0 from (((show D38 0 = D33 0 from (eD38 0))).trans ((show D33 0 = D_42 0 from (eD33 0).trans (hD33 0 rfl))))).symm) ?_
      refine v_g H (o := 0) (v := .ref (D38 3)) rfl rfl rfl rfl rfl (vrf ((mF38 0 1 rfl).trans ((pf3).trans (congrArg (fun q : Nat => (q : Int)) (mD38 3 rfl).symm)))) ?_
      refine v_g H (o := 3) (v := .ref (D38 8)) rfl rfl rfl rfl rfl (vrf (pf38_3_1)) ?_
      refine Ew_of (pcₚ := 104) (fun _ => x_iload rfl l42_4) ?_
      refine v_lI H (o := 8) rfl rfl rfl rfl (n := m20_4) ((congrArg (fun q : Nat => (q : Int)) (show N38 8 = N33 8 from (eN38 8))).trans ((congrArg (fun q : Nat => (q : Int)) (show N33 8 = N_42 8 from (eN33 8))).trans ((congrArg (fun q : Nat => (q : Int)) (hN_42 8 rfl)).trans ((congrArg (fun q : Nat => (q : Int)) (eN20 8)).trans em20_4)))) (show 0 ≤ x42_4 ∧ x42_4 < m20_4 from q_2872 b28 j42_2 pz20_0 pz20_1) (fun v41 ev41 qv41 => ?_)
      have ev41 : (w20_4) (x42_4) = v41 := (congrFun (((show A38 8 = A33 8 from (eA38 8))).trans (((show A33 8 = A_42 8 from (eA33 8))).trans ((funext (hA_42 8 rfl)).trans ((eA20 8).trans ew20_4)))) (x42_4)).symm.trans ev41
      refine Ew_of (pcₚ := 106) (fun _ => x_aload_n rfl l42_0) ?_
      refine Ew_stk (congrArg (fun qz : Nat => ([.ref qz, I (v41), I (x42_3)] : List Value)) (show D38 0 = D_42 0 from (((show D38 0 = D33 0 from (eD38 0))).trans ((show D33 0 = D_42 0 from (eD33 0).trans (hD33 0 rfl))))).symm) ?_
      refine v_g H (o := 0) (v := .ref (D38 3)) rfl rfl rfl rfl rfl (vrf ((mF38 0 1 rfl).trans ((pf3).trans (congrArg (fun q : Nat => (q : Int)) (mD38 3 rfl).symm)))) ?_
      refine v_g H (o := 3) (v := .ref (D38 9)) rfl rfl rfl rfl rfl (vrf (pf38_3_2)) ?_
      refine Ew_of (pcₚ := 114) (fun _ => x_iload rfl l42_4) ?_
      refine v_lI H (o := 9) rfl rfl rfl rfl (n := m20_5) ((congrArg (fun q : Nat => (q : Int)) (show N38 9 = N33 9 from (eN38 9))).trans ((congrArg (fun q : Nat => (q : Int)) (show N33 9 = N_42 9 from (eN33 9))).trans ((congrArg (fun q : Nat => (q : Int)) (hN_42 9 rfl)).trans ((congrArg (fun q : Nat => (q : Int)) (eN20 9)).trans em20_5)))) (show 0 ≤ x42_4 ∧ x42_4 < m20_5 from q_2873 b28 j42_2 pz20_1) (fun v42 ev42 qv42 => ?_)
      have ev42 : (w20_5) (x42_4) = v42 := (congrFun (((show A38 9 = A33 9 from (eA38 9))).trans (((show A33 9 = A_42 9 from (eA33 9))).trans ((funext (hA_42 9 rfl)).trans ((eA20 9).trans ew20_5)))) (x42_4)).symm.trans ev42
      refine w_iadd rfl ?_
      refine w_iadd rfl ?_
      refine Ew_of (pcₚ := 118) (fun _ => x_istore_n rfl) ?_
      refine Ew_of (pcₚ := 121) (fun _ => x_iinc (len := 3) rfl (rk_o (l42_4) rfl rfl)) ?_
      refine Ew_of (pcₚ := 42) (fun _ => x_goto rfl rfl) ?_
      exact ih42 _ (msE hm42 q_31 (q_34 b28)) _ _ _ _ _ _ _ _ ((x42_3 + (v41 + v42))) ((x42_4 + 1)) ((rk_o (rk_o (l42_0) rfl rfl) rfl rfl).trans (congrArg (fun q : Nat => some (Value.ref q)) ((((show D38 0 = D33 0 from (eD38 0))).trans ((show D33 0 = D_42 0 from (eD33 0).trans (hD33 0 rfl))))).symm)) ((rk_o (rk_o (l42_1) rfl rfl) rfl rfl).trans (congrArg (fun q : Nat => some (Value.ref q)) ((((show D38 1 = D33 1 from (eD38 1).trans (hD38 0 rfl))).trans ((show D33 1 = D_42 1 from (eD33 1).trans (hD33 1 rfl))))).symm)) (rk_o (rk_s) rfl rfl) (rk_s) H O (SD_trans (SD_trans (hD_42) (SD_gluc (ι := oz_D3clsl_14) oz_D3cls_45 hD33 eD33 (by decide +kernel)) (any_subA (lₚ := [2]) (by decide +kernel))) (SD_gluc (ι := oz_D3clsl_8) oz_D3cls_23 hD38 eD38 (by decide +kernel)) (any_subA (lₚ := [2]) (by decide +kernel))) (SD_trans (SD_trans (hN_42) (SD_gluc (ι := oz_D3clsl_14) oz_D3cls_45 hN33 eN33 (by decide +kernel)) (any_subA (lₚ := [2]) (by decide +kernel))) (SD_gluc (ι := oz_D3clsl_8) oz_D3cls_23 hN38 eN38 (by decide +kernel)) (any_subA (lₚ := [2]) (by decide +kernel))) (SF_trans (SF_trans (hS_42) (SF_gluc (ι := oz_D3clsl_14) oz_D3cls_45 hS33 eF33 (by decide +kernel)) (any_sub (lₚ := [(1, 0), (1, 1), (1, 2)]) (by decide +kernel))) (SF_gluc (ι := oz_D3clsl_8) oz_D3cls_23 hS38 eF38 (by decide +kernel)) (any_sub (lₚ := [(1, 0), (1, 1), (1, 2)]) (by decide +kernel))) (SA_trans (SA_trans (hA_42) (SA_gluc (ι := oz_D3clsl_14) oz_D3cls_45 hA33 eA33 (by decide +kernel)) (any_subA (lₚ := [2]) (by decide +kernel))) (SA_gluc (ι := oz_D3clsl_8) oz_D3cls_23 hA38 eA38 (by decide +kernel)) (any_subA (lₚ := [2]) (by decide +kernel))) (pf38_1_0) (m38_1) ((congrArg (fun q : Nat => (q : Int)) (eN38 2)).trans em38_1) (y38_0_1) (((eF38 1 1).trans ey38_0_1))  (show inr ((x42_3 + (v41 + v42))) by omega) (show inr ((x42_4 + 1)) from q_2875 b28 j42_2 r24) (show (0) ≤ ((x42_4 + 1)) from q_29 j42_2) (show ((x42_4 + 1)) ≤ (0) ∨ ((x42_4 + 1)) ≤ ((y20_0_4)) from q_33 b28) (show 0 ≤ (y38_0_1) ∧ (y38_0_1) ≤ (m38_1) ∧ (m38_1) ≤ 65536 from pz38_0) (show ((x42_3 + (v41 + v42))) = su (fun j => ((w20_4)) j + ((w20_5)) j) (((x42_4 + 1)) : Int).toNat by omega) rfl
abbrev V193_Row_Row : vV := [(0, 10, [(4, 0), (4, 0), (4, 0), (4, 0), (0, 0), (4, 0), (0, 0), (2, 0), (0, 0)]), (0, 7, [(4, 0), (0, 0), (1, 0), (0, 0), (0, 0)]), (0, 7, [(4, 0), (0, 0), (1, 0), (0, 0), (0, 0)]), (1, 0, []), (1, 0, []), (0, 5, [(4, 0), (4, 0), (4, 0), (4, 0), (0, 0), (0, 0), (0, 0), (4, 0), (4, 0), (0, 0), (0, 0), (0, 0), (0, 0), (0, 0), (0, 0), (0, 0), (0, 0), (0, 0), (0, 0)]), (0, 7, [(4, 0), (0, 0), (1, 0), (0, 0), (0, 0)]), (1, 0, []), (1, 1, []), (1, 1, []), (1, 1, []), (1, 1, []), (1, 1, []), (1, 1, [])]
theorem len_V193_Row_Row_oz_D3cls : (V193_Row_Row).length = 14 := by decide +kernel
theorem oz_D3cls_47 : vsub V193_Row_Row V158_Row [6, 2, 7, 4] = true := by decide +kernel
theorem oz_D3cls_48 : vmov V193_Row_Row [6, 2, 7, 4] [2] = true := by decide +kernel
theorem oz_D3cls_49 : vsub V193_Row_Row V121 [5, 9] = true := by decide +kernel
theorem oz_D3cls_50 : vmov V193_Row_Row [5, 9] [1] = true := by decide +kernel
theorem oz_D3cls_51 : vsub V193_Row_Row V194_Row [0, 1, 3, 5, 6, 7, 10, 9, 11, 12, 13] = true := by decide +kernel
theorem oz_D3cls_52 : vmov V193_Row_Row [0, 1, 3, 5, 6, 7, 10, 9, 11, 12, 13] [2, 6, 8, 9, 10] = true := by decide +kernel
def oz_D3clsl_15 : List (Nat × Nat) := [(1, 0), (1, 1), (1, 2), (5, 1), (5, 2), (5, 3), (5, 4), (5, 5), (5, 6), (5, 7), (5, 8), (5, 9), (5, 10), (5, 11), (5, 12), (5, 13), (5, 14), (5, 15), (5, 16), (5, 17), (5, 18), (6, 0), (6, 1), (6, 2), (6, 3), (6, 4)]
theorem oz_D3cls_53 : (oz_D3clsl_15).all (fun p => !tbz 194590920041834533348676845456543864388332262108664361385984 (Nat.add (Nat.mul 32 p.1) p.2)) = true := by decide +kernel
def oz_D3clsl_16 : List Nat := [3, 7, 9, 10, 11, 12, 13]
theorem oz_D3cls_54 : (oz_D3clsl_16).all (fun p => !tbz 16008 p) = true := by decide +kernel
def oz_D3clsl_17 : List Nat := [6, 2, 7, 4]
theorem oz_D3cls_55 : okc oz_D3clsl_17 538706950 = true := by decide +kernel
def oz_D3clsl_18 : List Nat := [5, 9]
theorem oz_D3cls_56 : okc oz_D3clsl_18 4613 = true := by decide +kernel
def oz_D3clsl_19 : List Nat := [0, 1, 3, 5, 6, 7, 10, 9, 11, 12, 13]
theorem oz_D3cls_57 : okc oz_D3clsl_19 16122286759602745260360073728 = true := by decide +kernel
/-- Tags.packAlone: this, #1, #2, #1.bytes, #2.bytes, this.finder, this.finder.data, this.finder.data.bytes, this.settings, this.finder.heads, this.finder.back, this.finder.literals, this.finder.lengths, this.finder.distances -/
theorem C193_Row_Row {σE : rS} {D N : Nat → Nat} {F : hF} {A : hA} {d c s : Nat} {Q : wQ} (H : HW V193_Row_Row σE D N F A)  (pf3 : F 1 0 = (D 3 : Int)) (pf4 : F 2 0 = (D 4 : Int)) (pf5 : F 0 1 = (D 5 : Int)) (pf6 : F 5 0 = (D 6 : Int)) (pf7 : F 6 0 = (D 7 : Int)) (pf8 : F 0 0 = (D 8 : Int)) (pf9 : F 5 7 = (D 9 : Int)) (pf10 : F 5 8 = (D 10 : Int)) (pf11 : F 5 1 = (D 11 : Int)) (pf12 : F 5 2 = (D 12 : Int)) (pf13 : F 5 3 = (D 13 : Int)) (n3 : Int) (en3 : (N 3 : Int) = n3) (n4 : Int) (en4 : (N 4 : Int) = n4) (n7 : Int) (en7 : (N 7 : Int) = n7) (n8 : Int) (en8 : (N 8 : Int) = n8) (n9 : Int) (en9 : (N 9 : Int) = n9) (n10 : Int) (en10 : (N 10 : Int) = n10) (n11 : Int) (en11 : (N 11 : Int) = n11) (n12 : Int) (en12 : (N 12 : Int) = n12) (n13 : Int) (en13 : (N 13 : Int) = n13) (u1_1 : Int) (eu1_1 : F 1 1 = u1_1) (u2_1 : Int) (eu2_1 : F 2 1 = u2_1) (u6_1 : Int) (eu6_1 : F 6 1 = u6_1) (h0 : 0 ≤ (u1_1) ∧ (u1_1) ≤ (n3) ∧ (n3) ≤ 65536) (h1 : 0 ≤ (u2_1) ∧ (u2_1) ≤ (n4) ∧ (n4) ≤ 65536) (h2 : 0 ≤ (u6_1) ∧ (u6_1) ≤ (n7) ∧ (n7) ≤ 65536) (h3 : (n8) = 10) (h4 : (u2_1) ≤ 16384) (h5 : (n9) = 0 ∨ (n9) = 2048) (h6 : (n10) ≤ 16384) (h7 : (n11) = (n12) ∧ (n13) = (n12) ∧ (n12) ≤ 65536 ∧ ((n12) = 0 ∨ 64 ≤ (n12)) ∧ lgq ((n12)) = 0) (k : ∀ (σ : rS) (Dₚ Nₚ : Nat → Nat) (Fₚ : hF) (Aₚ : hA) (cₚ sₚ : Nat), HW V193_Row_Row σ Dₚ Nₚ Fₚ Aₚ → OUT (V193_Row_Row).length D N σE c s Dₚ Nₚ σ cₚ sₚ → SD [3, 7, 9, 10, 11, 12, 13] D Dₚ → SD [3, 7, 9, 10, 11, 12, 13] N Nₚ → SF [(1, 0), (1, 1), (1, 2), (5, 1), (5, 2), (5, 3), (5, 4), (5, 5), (5, 6), (5, 7), (5, 8), (5, 9), (5, 10), (5, 11), (5, 12), (5, 13), (5, 14), (5, 15), (5, 16), (5, 17), (5, 18), (6, 0), (6, 1), (6, 2), (6, 3), (6, 4)] F Fₚ → SA [3, 7, 9, 10, 11, 12, 13] A Aₚ → Fₚ 1 0 = (Dₚ 3 : Int) → Fₚ 6 0 = (Dₚ 7 : Int) → Fₚ 5 7 = (Dₚ 9 : Int) → Fₚ 5 8 = (Dₚ 10 : Int) → Fₚ 5 1 = (Dₚ 11 : Int) → Fₚ 5 2 = (Dₚ 12 : Int) → Fₚ 5 3 = (Dₚ 13 : Int) → ∀ m3 : Int, (Nₚ 3 : Int) = m3 → ∀ m7 : Int, (Nₚ 7 : Int) = m7 → ∀ m9 : Int, (Nₚ 9 : Int) = m9 → ∀ m10 : Int, (Nₚ 10 : Int) = m10 → ∀ m11 : Int, (Nₚ 11 : Int) = m11 → ∀ m12 : Int, (Nₚ 12 : Int) = m12 → ∀ m13 : Int, (Nₚ 13 : Int) = m13 → ∀ y1_1 : Int, Fₚ 1 1 = y1_1 → ∀ y6_1 : Int, Fₚ 6 1 = y6_1 → (0 ≤ (y1_1) ∧ (y1_1) ≤ (m3) ∧ (m3) ≤ 65536) → (0 ≤ (y6_1) ∧ (y6_1) ≤ (m7) ∧ (m7) ≤ 65536) → ((m9) = 0 ∨ (m9) = 2048) → ((m10) ≤ 16384) → ((m11) = (m12) ∧ (m13) = (m12) ∧ (m12) ≤ 65536 ∧ ((m12) = 0 ∨ 64 ≤ (m12)) ∧ lgq ((m12)) = 0) → Q none σ cₚ sₚ) : Ew 193 (d + 5) 0 (rargs 0 [.ref (D 0), .ref (D 1), .ref (D 2)]) [] σE c s Q := by
  have O := OUT_refl (n := (V193_Row_Row).length) (D := D) (N := N) (σ := σE) (c := c) (s := s)
  have HE := H
  have r1 : (-2147483648 : Int) ≤ u1_1 ∧ u1_1 ≤ 2147483647 := rngE (show (-2147483648 : Int) ≤ F 1 1 ∧ F 1 1 ≤ 2147483647 from H.krg 1 1 (ltn len_V193_Row_Row_oz_D3cls rfl)) (show F 1 1 = u1_1 from (eu1_1))
  have r2 : (-2147483648 : Int) ≤ u2_1 ∧ u2_1 ≤ 2147483647 := rngE (show (-2147483648 : Int) ≤ F 2 1 ∧ F 2 1 ≤ 2147483647 from H.krg 2 1 (ltn len_V193_Row_Row_oz_D3cls rfl)) (show F 2 1 = u2_1 from (eu2_1))
  have r3 : (-2147483648 : Int) ≤ u6_1 ∧ u6_1 ≤ 2147483647 := rngE (show (-2147483648 : Int) ≤ F 6 1 ∧ F 6 1 ≤ 2147483647 from H.krg 6 1 (ltn len_V193_Row_Row_oz_D3cls rfl)) (show F 6 1 = u6_1 from (eu6_1))
  have r4 : (0 : Int) ≤ n3 ∧ n3 ≤ 1000000 := nleE (H.nle 3 (ltn len_V193_Row_Row_oz_D3cls rfl)) (show (N 3 : Int) = n3 from en3)
  have r5 : (0 : Int) ≤ n4 ∧ n4 ≤ 1000000 := nleE (H.nle 4 (ltn len_V193_Row_Row_oz_D3cls rfl)) (show (N 4 : Int) = n4 from en4)
  have r6 : (0 : Int) ≤ n7 ∧ n7 ≤ 1000000 := nleE (H.nle 7 (ltn len_V193_Row_Row_oz_D3cls rfl)) (show (N 7 : Int) = n7 from en7)
  have r7 : (0 : Int) ≤ n8 ∧ n8 ≤ 1000000 := nleE (H.nle 8 (ltn len_V193_Row_Row_oz_D3cls rfl)) (show (N 8 : Int) = n8 from en8)
  have r8 : (0 : Int) ≤ n9 ∧ n9 ≤ 1000000 := nleE (H.nle 9 (ltn len_V193_Row_Row_oz_D3cls rfl)) (show (N 9 : Int) = n9 from en9)
  have r9 : (0 : Int) ≤ n10 ∧ n10 ≤ 1000000 := nleE (H.nle 10 (ltn len_V193_Row_Row_oz_D3cls rfl)) (show (N 10 : Int) = n10 from en10)
  have r10 : (0 : Int) ≤ n11 ∧ n11 ≤ 1000000 := nleE (H.nle 11 (ltn len_V193_Row_Row_oz_D3cls rfl)) (show (N 11 : Int) = n11 from en11)
  have r11 : (0 : Int) ≤ n12 ∧ n12 ≤ 1000000 := nleE (H.nle 12 (ltn len_V193_Row_Row_oz_D3cls rfl)) (show (N 12 : Int) = n12 from en12)
  have r12 : (0 : Int) ≤ n13 ∧ n13 ≤ 1000000 := nleE (H.nle 13 (ltn len_V193_Row_Row_oz_D3cls rfl)) (show (N 13 : Int) = n13 from en13)
  refine Ew_of (pcₚ := 1) (fun _ => x_aload_n rfl rfl) ?_
  refine v_g H (o := 0) (v := .ref (D 5)) rfl rfl rfl rfl rfl (vrf (pf5)) ?_
  refine v_g H (o := 5) (v := .ref (D 6)) rfl rfl rfl rfl rfl (vrf (pf6)) ?_
  refine Ew_of (pcₚ := 8) (fun _ => x_aload_n rfl rfl) ?_
  refine v_inv H (o := 6) rfl rfl rfl rfl rfl rfl (by rfl) (C158_Row (D := puc 538706950 D) (N := puc 538706950 N) (HW_subc H oz_D3cls_47 oz_D3cls_55) (pf7) (pf4) (n7) (en7) (n4) (en4) (u6_1) ((eu6_1)) (u2_1) ((eu2_1)) (show 0 ≤ (u6_1) ∧ (u6_1) ≤ (n7) ∧ (n7) ≤ 65536 from h2) (show 0 ≤ (u2_1) ∧ (u2_1) ≤ (n4) ∧ (n4) ≤ 65536 from h1) (fun σ13 D13ₚ N13ₚ F13ₚ A13ₚ c13 s13 Hₚ Oₚ hD13 hN13 hS13 hA13 pm13_2 m13_2 em13_2 y13_0_1 ey13_0_1 pz13_0 pz13_1 => ⟨rfl, ?_⟩))
  refine v_backMc (c := c) (s := s) H oz_D3cls_47 oz_D3cls_55 Hₚ Oₚ hD13 oz_D3cls_48 (fun D13 N13 F13 A13 H Oₚ eD13 eN13 eF13 eA13 => ?_)
  have O := OUT_trans O Oₚ
  -- Row.become
  have cF13 : SF oz_D3clsl_15 F F13 := SF_trans (SF_refl) (SF_gluc (ι := oz_D3clsl_17) oz_D3cls_55 hS13 eF13 (by decide +kernel)) (any_sub (lₚ := [(6, 0), (6, 1), (6, 2), (6, 3), (6, 4)]) (by decide +kernel))
  have mF13 := SFm_of cF13 oz_D3cls_53
  have cA13 : SA oz_D3clsl_16 A A13 := SA_trans (SA_refl) (SA_gluc (ι := oz_D3clsl_17) oz_D3cls_55 hA13 eA13 (by decide +kernel)) (any_subA (lₚ := [7]) (by decide +kernel))
  have mA13 := SAm_of cA13 oz_D3cls_54
  have cD13 : SD oz_D3clsl_16 D D13 := SD_trans (SD_refl) (SD_gluc (ι := oz_D3clsl_17) oz_D3cls_55 hD13 eD13 (by decide +kernel)) (any_subA (lₚ := [7]) (by decide +kernel))
  have mD13 := SDm_of cD13 oz_D3cls_54
  have cN13 : SD oz_D3clsl_16 N N13 := SD_trans (SD_refl) (SD_gluc (ι := oz_D3clsl_17) oz_D3cls_55 hN13 eN13 (by decide +kernel)) (any_subA (lₚ := [7]) (by decide +kernel))
  have mN13 := SDm_of cN13 oz_D3cls_54
  have pf13_1_0 : F13 1 0 = (D13 3 : Int) := ((show F13 1 0 = F 1 0 from (eF13 1 0))).trans ((pf3).trans (congrArg (fun q : Nat => (q : Int)) ((show D13 3 = D 3 from (eD13 3))).symm))
  have pf13_5_1 : F13 5 1 = (D13 11 : Int) := ((show F13 5 1 = F 5 1 from (eF13 5 1))).trans ((pf11).trans (congrArg (fun q : Nat => (q : Int)) ((show D13 11 = D 11 from (eD13 11))).symm))
  have pf13_5_2 : F13 5 2 = (D13 12 : Int) := ((show F13 5 2 = F 5 2 from (eF13 5 2))).trans ((pf12).trans (congrArg (fun q : Nat => (q : Int)) ((show D13 12 = D 12 from (eD13 12))).symm))
  have pf13_5_3 : F13 5 3 = (D13 13 : Int) := ((show F13 5 3 = F 5 3 from (eF13 5 3))).trans ((pf13).trans (congrArg (fun q : Nat => (q : Int)) ((show D13 13 = D 13 from (eD13 13))).symm))
  have pf13_5_7 : F13 5 7 = (D13 9 : Int) := ((show F13 5 7 = F 5 7 from (eF13 5 7))).trans ((pf9).trans (congrArg (fun q : Nat => (q : Int)) ((show D13 9 = D 9 from (eD13 9))).symm))
  have pf13_5_8 : F13 5 8 = (D13 10 : Int) := ((show F13 5 8 = F 5 8 from (eF13 5 8))).trans ((pf10).trans (congrArg (fun q : Nat => (q : Int)) ((show D13 10 = D 10 from (eD13 10))).symm))
  have pf13_6_0 : F13 6 0 = (D13 7 : Int) := (eF13 6 0).trans (pm13_2.trans (congrArg (fun q : Nat => (q : Int)) (eD13 7).symm))
  have r14 : (0 : Int) ≤ m13_2 ∧ m13_2 ≤ 1000000 := nleE (H.nle 7 (ltn len_V193_Row_Row_oz_D3cls rfl)) (show (N13 7 : Int) = m13_2 from (congrArg (fun q : Nat => (q : Int)) (eN13 7)).trans em13_2)
  have r15 : (-2147483648 : Int) ≤ y13_0_1 ∧ y13_0_1 ≤ 2147483647 := rngE (show (-2147483648 : Int) ≤ F13 6 1 ∧ F13 6 1 ≤ 2147483647 from H.krg 6 1 (ltn len_V193_Row_Row_oz_D3cls rfl)) (show F13 6 1 = y13_0_1 from ((eF13 6 1).trans ey13_0_1))
  refine Ew_of (pcₚ := 12) (fun _ => x_aload_n rfl rfl) ?_
  refine Ew_stk (congrArg (fun qz : Nat => ([.ref qz] : List Value)) (show D13 0 = D 0 from mD13 0 rfl).symm) ?_
  refine v_g H (o := 0) (v := .ref (D13 5)) rfl rfl rfl rfl rfl (vrf ((mF13 0 1 rfl).trans ((pf5).trans (congrArg (fun q : Nat => (q : Int)) (mD13 5 rfl).symm)))) ?_
  refine Ew_of (pcₚ := 16) (fun _ => x_aload_n rfl rfl) ?_
  refine Ew_stk (congrArg (fun qz : Nat => ([.ref qz, .ref (D13 5)] : List Value)) (show D13 0 = D 0 from mD13 0 rfl).symm) ?_
  refine v_g H (o := 0) (v := .ref (D13 8)) rfl rfl rfl rfl rfl (vrf ((mF13 0 0 rfl).trans ((pf8).trans (congrArg (fun q : Nat => (q : Int)) (mD13 8 rfl).symm)))) ?_
  refine Ew_of (pcₚ := 20) (fun _ => x_iconst rfl) ?_
  refine v_lI H (o := 8) rfl rfl rfl rfl (n := n8) ((congrArg (fun q : Nat => (q : Int)) (mN13 8 rfl)).trans (en8)) (show 0 ≤ 0 ∧ 0 < n8 from q_2782 h3 r7) (fun v16 ev16 qv16 => ?_)
  have ev16 : (A 8) (0) = v16 := (congrFun (funext (mA13 8 rfl)) (0)).symm.trans ev16
  refine Ew_of (pcₚ := 22) (fun _ => x_iconst rfl) ?_
  refine Ew_of (pcₚ := 24) (fun _ => x_ldc (z := 65535) rfl (by decide)) ?_
  have r17 : (-2147483648 : Int) ≤ F 5 6 ∧ F 5 6 ≤ 2147483647 := rngE (show (-2147483648 : Int) ≤ F13 5 6 ∧ F13 5 6 ≤ 2147483647 from H.krg 5 6 (ltn len_V193_Row_Row_oz_D3cls rfl)) (show F13 5 6 = F 5 6 from ((show F13 5 6 = F 5 6 from (eF13 5 6))))
  have r18 : (-2147483648 : Int) ≤ F 5 9 ∧ F 5 9 ≤ 2147483647 := rngE (show (-2147483648 : Int) ≤ F13 5 9 ∧ F13 5 9 ≤ 2147483647 from H.krg 5 9 (ltn len_V193_Row_Row_oz_D3cls rfl)) (show F13 5 9 = F 5 9 from ((show F13 5 9 = F 5 9 from (eF13 5 9))))
  have r19 : (-2147483648 : Int) ≤ F 5 10 ∧ F 5 10 ≤ 2147483647 := rngE (show (-2147483648 : Int) ≤ F13 5 10 ∧ F13 5 10 ≤ 2147483647 from H.krg 5 10 (ltn len_V193_Row_Row_oz_D3cls rfl)) (show F13 5 10 = F 5 10 from ((show F13 5 10 = F 5 10 from (eF13 5 10))))
  have r20 : (-2147483648 : Int) ≤ F 5 11 ∧ F 5 11 ≤ 2147483647 := rngE (show (-2147483648 : Int) ≤ F13 5 11 ∧ F13 5 11 ≤ 2147483647 from H.krg 5 11 (ltn len_V193_Row_Row_oz_D3cls rfl)) (show F13 5 11 = F 5 11 from ((show F13 5 11 = F 5 11 from (eF13 5 11))))
  refine v_inv H (o := 5) rfl rfl rfl rfl rfl rfl (by rfl) (C121 (D := puc 4613 D13) (N := puc 4613 N13) (HW_subc H oz_D3cls_49 oz_D3cls_56) (pf13_5_7) (n9) ((congrArg (fun q : Nat => (q : Int)) (show N13 9 = N 9 from (eN13 9))).trans (en9)) (F 5 6) (((show F13 5 6 = F 5 6 from (eF13 5 6)))) (F 5 9) (((show F13 5 9 = F 5 9 from (eF13 5 9)))) (F 5 10) (((show F13 5 10 = F 5 10 from (eF13 5 10)))) (F 5 11) (((show F13 5 11 = F 5 11 from (eF13 5 11)))) (A 9) ((show A13 9 = A 9 from (eA13 9))) (show inr (v16) from qv16) (show inr (4) from q_2) (show inr (65535) from q_166) (show (n9) = 0 ∨ (n9) = 2048 from h5) (fun σ21 D21ₚ N21ₚ F21ₚ A21ₚ c21 s21 Hₚ Oₚ hD21 hN21 hS21 hA21 pm21_1 m21_1 em21_1 y21_0_6 ey21_0_6 y21_0_9 ey21_0_9 y21_0_10 ey21_0_10 y21_0_11 ey21_0_11 w21_1 ew21_1 pz21_0 pz21_1 pz21_2 pz21_3 => ⟨rfl, ?_⟩))
  refine v_backMc (c := (c + c13)) (s := (s + s13)) H oz_D3cls_49 oz_D3cls_56 Hₚ Oₚ hD21 oz_D3cls_50 (fun D21 N21 F21 A21 H Oₚ eD21 eN21 eF21 eA21 => ?_)
  have O := OUT_trans O Oₚ
  -- Finder.begin
  have cF21 : SF oz_D3clsl_15 F F21 := SF_trans (cF13) (SF_gluc (ι := oz_D3clsl_18) oz_D3cls_56 hS21 eF21 (by decide +kernel)) (any_sub (lₚ := [(5, 6), (5, 7), (5, 9), (5, 10), (5, 11)]) (by decide +kernel))
  have mF21 := SFm_of cF21 oz_D3cls_53
  have cA21 : SA oz_D3clsl_16 A A21 := SA_trans (cA13) (SA_gluc (ι := oz_D3clsl_18) oz_D3cls_56 hA21 eA21 (by decide +kernel)) (any_subA (lₚ := [9]) (by decide +kernel))
  have mA21 := SAm_of cA21 oz_D3cls_54
  have cD21 : SD oz_D3clsl_16 D D21 := SD_trans (cD13) (SD_gluc (ι := oz_D3clsl_18) oz_D3cls_56 hD21 eD21 (by decide +kernel)) (any_subA (lₚ := [9]) (by decide +kernel))
  have mD21 := SDm_of cD21 oz_D3cls_54
  have cN21 : SD oz_D3clsl_16 N N21 := SD_trans (cN13) (SD_gluc (ι := oz_D3clsl_18) oz_D3cls_56 hN21 eN21 (by decide +kernel)) (any_subA (lₚ := [9]) (by decide +kernel))
  have mN21 := SDm_of cN21 oz_D3cls_54
  have pf21_1_0 : F21 1 0 = (D21 3 : Int) := ((show F21 1 0 = F13 1 0 from (eF21 1 0))).trans ((pf13_1_0).trans (congrArg (fun q : Nat => (q : Int)) ((show D21 3 = D13 3 from (eD21 3))).symm))
  have pf21_5_1 : F21 5 1 = (D21 11 : Int) := ((show F21 5 1 = F13 5 1 from (eF21 5 1).trans (hS21 0 1 rfl))).trans ((pf13_5_1).trans (congrArg (fun q : Nat => (q : Int)) ((show D21 11 = D13 11 from (eD21 11))).symm))
  have pf21_5_2 : F21 5 2 = (D21 12 : Int) := ((show F21 5 2 = F13 5 2 from (eF21 5 2).trans (hS21 0 2 rfl))).trans ((pf13_5_2).trans (congrArg (fun q : Nat => (q : Int)) ((show D21 12 = D13 12 from (eD21 12))).symm))
  have pf21_5_3 : F21 5 3 = (D21 13 : Int) := ((show F21 5 3 = F13 5 3 from (eF21 5 3).trans (hS21 0 3 rfl))).trans ((pf13_5_3).trans (congrArg (fun q : Nat => (q : Int)) ((show D21 13 = D13 13 from (eD21 13))).symm))
  have pf21_5_7 : F21 5 7 = (D21 9 : Int) := (eF21 5 7).trans (pm21_1.trans (congrArg (fun q : Nat => (q : Int)) (eD21 9).symm))
  have pf21_5_8 : F21 5 8 = (D21 10 : Int) := ((show F21 5 8 = F13 5 8 from (eF21 5 8).trans (hS21 0 8 rfl))).trans ((pf13_5_8).trans (congrArg (fun q : Nat => (q : Int)) ((show D21 10 = D13 10 from (eD21 10))).symm))
  have pf21_6_0 : F21 6 0 = (D21 7 : Int) := ((show F21 6 0 = F13 6 0 from (eF21 6 0))).trans ((pf13_6_0).trans (congrArg (fun q : Nat => (q : Int)) ((show D21 7 = D13 7 from (eD21 7))).symm))
  have r22 : (0 : Int) ≤ m21_1 ∧ m21_1 ≤ 1000000 := nleE (H.nle 9 (ltn len_V193_Row_Row_oz_D3cls rfl)) (show (N21 9 : Int) = m21_1 from (congrArg (fun q : Nat => (q : Int)) (eN21 9)).trans em21_1)
  have r23 : (-2147483648 : Int) ≤ y21_0_6 ∧ y21_0_6 ≤ 2147483647 := rngE (show (-2147483648 : Int) ≤ F21 5 6 ∧ F21 5 6 ≤ 2147483647 from H.krg 5 6 (ltn len_V193_Row_Row_oz_D3cls rfl)) (show F21 5 6 = y21_0_6 from ((eF21 5 6).trans ey21_0_6))
  have r24 : (-2147483648 : Int) ≤ y21_0_9 ∧ y21_0_9 ≤ 2147483647 := rngE (show (-2147483648 : Int) ≤ F21 5 9 ∧ F21 5 9 ≤ 2147483647 from H.krg 5 9 (ltn len_V193_Row_Row_oz_D3cls rfl)) (show F21 5 9 = y21_0_9 from ((eF21 5 9).trans ey21_0_9))
  have r25 : (-2147483648 : Int) ≤ y21_0_10 ∧ y21_0_10 ≤ 2147483647 := rngE (show (-2147483648 : Int) ≤ F21 5 10 ∧ F21 5 10 ≤ 2147483647 from H.krg 5 10 (ltn len_V193_Row_Row_oz_D3cls rfl)) (show F21 5 10 = y21_0_10 from ((eF21 5 10).trans ey21_0_10))
  have r26 : (-2147483648 : Int) ≤ y21_0_11 ∧ y21_0_11 ≤ 2147483647 := rngE (show (-2147483648 : Int) ≤ F21 5 11 ∧ F21 5 11 ≤ 2147483647 from H.krg 5 11 (ltn len_V193_Row_Row_oz_D3cls rfl)) (show F21 5 11 = y21_0_11 from ((eF21 5 11).trans ey21_0_11))
  have hb0 : BKI ((A13 7)) ((A 10)) ((y21_0_10)) ((y21_0_6)) := by rw [pz21_1]; exact BKI_0
  have hh0 : HDI ((A13 7)) ((w21_1)) ((y21_0_10)) ((y21_0_6)) := by rw [pz21_1]; exact HDI_0 pz21_3
  refine Ew_of (pcₚ := 28) (fun _ => x_aload_n rfl rfl) ?_
  refine Ew_of (pcₚ := 29) (fun _ => x_aload_n rfl rfl) ?_
  refine Ew_stk (show ([.ref (D 1), .ref (D 0)] : List Value) = [.ref (D21 1), .ref (D21 0)] by rw [show D21 0 = D 0 from mD21 0 rfl, show D21 1 = D 1 from mD21 1 rfl]) ?_
  refine v_inv H (o := 0) rfl rfl rfl rfl rfl rfl (by rfl) (C194_Row (D := puc 16122286759602745260360073728 D21) (N := puc 16122286759602745260360073728 N21) (HW_subc H oz_D3cls_51 oz_D3cls_57) (pf21_1_0) ((mF21 0 1 rfl).trans ((pf5).trans (congrArg (fun q : Nat => (q : Int)) (mD21 5 rfl).symm))) ((mF21 5 0 rfl).trans ((pf6).trans (congrArg (fun q : Nat => (q : Int)) (mD21 6 rfl).symm))) (pf21_6_0) (pf21_5_8) (pf21_5_7) (pf21_5_1) (pf21_5_2) (pf21_5_3) (n3) ((congrArg (fun q : Nat => (q : Int)) (show N21 3 = N13 3 from (eN21 3))).trans ((congrArg (fun q : Nat => (q : Int)) (show N13 3 = N 3 from (eN13 3))).trans (en3))) (m13_2) ((congrArg (fun q : Nat => (q : Int)) (show N21 7 = N13 7 from (eN21 7))).trans ((congrArg (fun q : Nat => (q : Int)) (eN13 7)).trans em13_2)) (n10) ((congrArg (fun q : Nat => (q : Int)) (show N21 10 = N13 10 from (eN21 10))).trans ((congrArg (fun q : Nat => (q : Int)) (show N13 10 = N 10 from (eN13 10))).trans (en10))) (m21_1) ((congrArg (fun q : Nat => (q : Int)) (eN21 9)).trans em21_1) (n11) ((congrArg (fun q : Nat => (q : Int)) (show N21 11 = N13 11 from (eN21 11))).trans ((congrArg (fun q : Nat => (q : Int)) (show N13 11 = N 11 from (eN13 11))).trans (en11))) (n12) ((congrArg (fun q : Nat => (q : Int)) (show N21 12 = N13 12 from (eN21 12))).trans ((congrArg (fun q : Nat => (q : Int)) (show N13 12 = N 12 from (eN13 12))).trans (en12))) (n13) ((congrArg (fun q : Nat => (q : Int)) (show N21 13 = N13 13 from (eN21 13))).trans ((congrArg (fun q : Nat => (q : Int)) (show N13 13 = N 13 from (eN13 13))).trans (en13))) (u1_1) (((((show F21 1 1 = F13 1 1 from (eF21 1 1))).trans ((show F13 1 1 = F 1 1 from (eF13 1 1)))).trans (eu1_1))) (y21_0_6) (((eF21 5 6).trans ey21_0_6)) (y21_0_10) (((eF21 5 10).trans ey21_0_10)) (y13_0_1) ((((show F21 6 1 = F13 6 1 from (eF21 6 1))).trans ((eF13 6 1).trans ey13_0_1))) (A13 7) ((show A21 7 = A13 7 from (eA21 7))) (A 10) (((show A21 10 = A13 10 from (eA21 10))).trans ((show A13 10 = A 10 from (eA13 10)))) (w21_1) ((eA21 9).trans ew21_1) (show 0 ≤ (u1_1) ∧ (u1_1) ≤ (n3) ∧ (n3) ≤ 65536 from h0) (show 0 ≤ (y13_0_1) ∧ (y13_0_1) ≤ (m13_2) ∧ (m13_2) ≤ 65536 ∧ (y13_0_1) ≤ 16384 from q_2876 h4 pz13_0 pz13_1) (show (y21_0_10) = 4 from q_2785 pz21_2) (show BKI ((A13 7)) ((A 10)) ((y21_0_10)) ((y21_0_6)) from hb0) (show HDI ((A13 7)) ((w21_1)) ((y21_0_10)) ((y21_0_6)) from hh0) (show (n11) = (n12) ∧ (n13) = (n12) ∧ (n12) ≤ 65536 ∧ ((n12) = 0 ∨ 64 ≤ (n12)) ∧ lgq ((n12)) = 0 from h7) (show (m21_1) = 2048 from pz21_0) (show 0 ≤ (y21_0_6) ∧ (y21_0_6) ≤ (n10) ∧ (n10) ≤ 16384 from q_2783 h6 pz21_1 r9) (fun σ27 D27ₚ N27ₚ F27ₚ A27ₚ c27 s27 Hₚ Oₚ hD27 hN27 hS27 hA27 pm27_2 pm27_6 pm27_8 pm27_9 pm27_10 m27_2 em27_2 m27_6 em27_6 m27_8 em27_8 m27_9 em27_9 m27_10 em27_10 y27_1_1 ey27_1_1 y27_3_6 ey27_3_6 w27_6 ew27_6 w27_7 ew27_7 pz27_0 pz27_1 pz27_2 pz27_3 pz27_4 pz27_5 => ⟨rfl, ?_⟩))
  refine v_backMc (c := ((c + c13) + c21)) (s := ((s + s13) + s21)) H oz_D3cls_51 oz_D3cls_57 Hₚ Oₚ hD27 oz_D3cls_52 (fun D27 N27 F27 A27 H Oₚ eD27 eN27 eF27 eA27 => ?_)
  have O := OUT_trans O Oₚ
  -- Tags.packBlock
  have cF27 : SF oz_D3clsl_15 F F27 := SF_trans (cF21) (SF_gluc (ι := oz_D3clsl_19) oz_D3cls_57 hS27 eF27 (by decide +kernel)) (any_sub (lₚ := [(1, 0), (1, 1), (1, 2), (5, 1), (5, 2), (5, 3), (5, 4), (5, 5), (5, 6), (5, 8), (5, 12), (5, 13), (5, 14), (5, 15), (5, 16), (5, 17), (5, 18)]) (by decide +kernel))
  have mF27 := SFm_of cF27 oz_D3cls_53
  have cA27 : SA oz_D3clsl_16 A A27 := SA_trans (cA21) (SA_gluc (ι := oz_D3clsl_19) oz_D3cls_57 hA27 eA27 (by decide +kernel)) (any_subA (lₚ := [3, 9, 10, 11, 12, 13]) (by decide +kernel))
  have mA27 := SAm_of cA27 oz_D3cls_54
  have cD27 : SD oz_D3clsl_16 D D27 := SD_trans (cD21) (SD_gluc (ι := oz_D3clsl_19) oz_D3cls_57 hD27 eD27 (by decide +kernel)) (any_subA (lₚ := [3, 10, 11, 12, 13]) (by decide +kernel))
  have mD27 := SDm_of cD27 oz_D3cls_54
  have cN27 : SD oz_D3clsl_16 N N27 := SD_trans (cN21) (SD_gluc (ι := oz_D3clsl_19) oz_D3cls_57 hN27 eN27 (by decide +kernel)) (any_subA (lₚ := [3, 10, 11, 12, 13]) (by decide +kernel))
  have mN27 := SDm_of cN27 oz_D3cls_54
  have pf27_1_0 : F27 1 0 = (D27 3 : Int) := (eF27 1 0).trans (pm27_2.trans (congrArg (fun q : Nat => (q : Int)) (eD27 3).symm))
  have pf27_5_1 : F27 5 1 = (D27 11 : Int) := (eF27 5 1).trans (pm27_8.trans (congrArg (fun q : Nat => (q : Int)) (eD27 11).symm))
  have pf27_5_2 : F27 5 2 = (D27 12 : Int) := (eF27 5 2).trans (pm27_9.trans (congrArg (fun q : Nat => (q : Int)) (eD27 12).symm))
  have pf27_5_3 : F27 5 3 = (D27 13 : Int) := (eF27 5 3).trans (pm27_10.trans (congrArg (fun q : Nat => (q : Int)) (eD27 13).symm))
  have pf27_5_7 : F27 5 7 = (D27 9 : Int) := ((show F27 5 7 = F21 5 7 from (eF27 5 7).trans (hS27 3 7 rfl))).trans ((pf21_5_7).trans (congrArg (fun q : Nat => (q : Int)) ((show D27 9 = D21 9 from (eD27 9).trans (hD27 7 rfl))).symm))
  have pf27_5_8 : F27 5 8 = (D27 10 : Int) := (eF27 5 8).trans (pm27_6.trans (congrArg (fun q : Nat => (q : Int)) (eD27 10).symm))
  have pf27_6_0 : F27 6 0 = (D27 7 : Int) := ((show F27 6 0 = F21 6 0 from (eF27 6 0).trans (hS27 4 0 rfl))).trans ((pf21_6_0).trans (congrArg (fun q : Nat => (q : Int)) ((show D27 7 = D21 7 from (eD27 7).trans (hD27 5 rfl))).symm))
  have r28 : (0 : Int) ≤ m27_2 ∧ m27_2 ≤ 1000000 := nleE (H.nle 3 (ltn len_V193_Row_Row_oz_D3cls rfl)) (show (N27 3 : Int) = m27_2 from (congrArg (fun q : Nat => (q : Int)) (eN27 3)).trans em27_2)
  have r29 : (0 : Int) ≤ m27_6 ∧ m27_6 ≤ 1000000 := nleE (H.nle 10 (ltn len_V193_Row_Row_oz_D3cls rfl)) (show (N27 10 : Int) = m27_6 from (congrArg (fun q : Nat => (q : Int)) (eN27 10)).trans em27_6)
  have r30 : (0 : Int) ≤ m27_8 ∧ m27_8 ≤ 1000000 := nleE (H.nle 11 (ltn len_V193_Row_Row_oz_D3cls rfl)) (show (N27 11 : Int) = m27_8 from (congrArg (fun q : Nat => (q : Int)) (eN27 11)).trans em27_8)
  have r31 : (0 : Int) ≤ m27_9 ∧ m27_9 ≤ 1000000 := nleE (H.nle 12 (ltn len_V193_Row_Row_oz_D3cls rfl)) (show (N27 12 : Int) = m27_9 from (congrArg (fun q : Nat => (q : Int)) (eN27 12)).trans em27_9)
  have r32 : (0 : Int) ≤ m27_10 ∧ m27_10 ≤ 1000000 := nleE (H.nle 13 (ltn len_V193_Row_Row_oz_D3cls rfl)) (show (N27 13 : Int) = m27_10 from (congrArg (fun q : Nat => (q : Int)) (eN27 13)).trans em27_10)
  have r33 : (-2147483648 : Int) ≤ y27_1_1 ∧ y27_1_1 ≤ 2147483647 := rngE (show (-2147483648 : Int) ≤ F27 1 1 ∧ F27 1 1 ≤ 2147483647 from H.krg 1 1 (ltn len_V193_Row_Row_oz_D3cls rfl)) (show F27 1 1 = y27_1_1 from ((eF27 1 1).trans ey27_1_1))
  have r34 : (-2147483648 : Int) ≤ y27_3_6 ∧ y27_3_6 ≤ 2147483647 := rngE (show (-2147483648 : Int) ≤ F27 5 6 ∧ F27 5 6 ≤ 2147483647 from H.krg 5 6 (ltn len_V193_Row_Row_oz_D3cls rfl)) (show F27 5 6 = y27_3_6 from ((eF27 5 6).trans ey27_3_6))
  exact w_ret rfl (k _ _ _ _ _ _ _ H O (cD27) (cN27) (cF27) (cA27) (pf27_1_0) (pf27_6_0) (pf27_5_7) (pf27_5_8) (pf27_5_1) (pf27_5_2) (pf27_5_3) (m27_2) ((congrArg (fun q : Nat => (q : Int)) (eN27 3)).trans em27_2) (m13_2) ((congrArg (fun q : Nat => (q : Int)) (show N27 7 = N21 7 from (eN27 7).trans (hN27 5 rfl))).trans ((congrArg (fun q : Nat => (q : Int)) (show N21 7 = N13 7 from (eN21 7))).trans ((congrArg (fun q : Nat => (q : Int)) (eN13 7)).trans em13_2))) (m21_1) ((congrArg (fun q : Nat => (q : Int)) (show N27 9 = N21 9 from (eN27 9).trans (hN27 7 rfl))).trans ((congrArg (fun q : Nat => (q : Int)) (eN21 9)).trans em21_1)) (m27_6) ((congrArg (fun q : Nat => (q : Int)) (eN27 10)).trans em27_6) (m27_8) ((congrArg (fun q : Nat => (q : Int)) (eN27 11)).trans em27_8) (m27_9) ((congrArg (fun q : Nat => (q : Int)) (eN27 12)).trans em27_9) (m27_10) ((congrArg (fun q : Nat => (q : Int)) (eN27 13)).trans em27_10) (y27_1_1) (((eF27 1 1).trans ey27_1_1)) (y13_0_1) (((((show F27 6 1 = F21 6 1 from (eF27 6 1).trans (hS27 4 1 rfl))).trans ((show F21 6 1 = F13 6 1 from (eF21 6 1)))).trans ((eF13 6 1).trans ey13_0_1))) (show 0 ≤ (y27_1_1) ∧ (y27_1_1) ≤ (m27_2) ∧ (m27_2) ≤ 65536 from pz27_0) (show 0 ≤ (y13_0_1) ∧ (y13_0_1) ≤ (m13_2) ∧ (m13_2) ≤ 65536 from pz13_0) (show (m21_1) = 0 ∨ (m21_1) = 2048 from q_2788 pz21_0) (show (m27_6) ≤ 16384 from q_2787 pz27_1) (show (m27_8) = (m27_9) ∧ (m27_10) = (m27_9) ∧ (m27_9) ≤ 65536 ∧ ((m27_9) = 0 ∨ 64 ≤ (m27_9)) ∧ lgq ((m27_9)) = 0 from pz27_2))
abbrev V202_Row_Row : vV := [(0, 10, [(4, 0), (4, 0), (4, 0), (4, 0), (0, 0), (4, 0), (0, 0), (2, 0), (0, 0)]), (0, 7, [(4, 0), (0, 0), (1, 0), (0, 0), (0, 0)]), (0, 7, [(4, 0), (0, 0), (1, 0), (0, 0), (0, 0)]), (1, 0, []), (1, 0, []), (0, 5, [(4, 0), (4, 0), (4, 0), (4, 0), (0, 0), (0, 0), (0, 0), (4, 0), (4, 0), (0, 0), (0, 0), (0, 0), (0, 0), (0, 0), (0, 0), (0, 0), (0, 0), (0, 0), (0, 0)]), (0, 7, [(4, 0), (0, 0), (1, 0), (0, 0), (0, 0)]), (1, 0, [])]
theorem len_V202_Row_Row_oz_D3cls : (V202_Row_Row).length = 8 := by decide +kernel
theorem oz_D3cls_59 : vsub V202_Row_Row V160 [1, 3] = true := by decide +kernel
theorem oz_D3cls_60 : vmov V202_Row_Row [1, 3] [1] = true := by decide +kernel
theorem oz_D3cls_61 : vsub V202_Row_Row V53_Br [7] = true := by decide +kernel
theorem oz_D3cls_62 : vsub V202_Row_Row V54 [] = true := by decide +kernel
theorem oz_D3cls_63 : vsub V202_Row_Row V161_Br [1, 4, 3] = true := by decide +kernel
theorem oz_D3cls_64 : vmov V202_Row_Row [1, 4, 3] [2] = true := by decide +kernel
def oz_D3clsl_20 : List Nat := [3]
theorem oz_D3cls_65 : (oz_D3clsl_20).all (fun p => !tbz 8 p) = true := by decide +kernel
def oz_D3clsl_21 : List Nat := [1, 3]
theorem oz_D3cls_66 : okc oz_D3clsl_21 1537 = true := by decide +kernel
def oz_D3clsl_22 : List Nat := [7]
theorem oz_D3cls_67 : okc oz_D3clsl_22 7 = true := by decide +kernel
def oz_D3clsl_23 : List Nat := [1, 4, 3]
theorem oz_D3cls_68 : okc oz_D3clsl_23 788481 = true := by decide +kernel
/-- Tags.addChunk: this, #1, #2, #1.bytes, #2.bytes, this.finder, this.finder.data, this.finder.data.bytes -/
theorem C202_Row_Row {σE : rS} {D N : Nat → Nat} {F : hF} {A : hA} {d c s : Nat} {Q : wQ} (H : HW V202_Row_Row σE D N F A) (HT : STC σE) {a3 : Int} (pf3 : F 1 0 = (D 3 : Int)) (pf4 : F 2 0 = (D 4 : Int)) (pf5 : F 0 1 = (D 5 : Int)) (pf6 : F 5 0 = (D 6 : Int)) (pf7 : F 6 0 = (D 7 : Int)) (n3 : Int) (en3 : (N 3 : Int) = n3) (n4 : Int) (en4 : (N 4 : Int) = n4) (n7 : Int) (en7 : (N 7 : Int) = n7) (u1_1 : Int) (eu1_1 : F 1 1 = u1_1) (u2_1 : Int) (eu2_1 : F 2 1 = u2_1) (u6_1 : Int) (eu6_1 : F 6 1 = u6_1) (h0 : inr (a3)) (h1 : 0 ≤ (u1_1) ∧ (u1_1) ≤ (n3) ∧ (n3) ≤ 65536) (h2 : 0 ≤ (u2_1) ∧ (u2_1) ≤ (n4) ∧ (n4) ≤ 65536) (h3 : 0 ≤ (u6_1) ∧ (u6_1) ≤ (n7) ∧ (n7) ≤ 65536) (k : ∀ (σ : rS) (Dₚ Nₚ : Nat → Nat) (Fₚ : hF) (Aₚ : hA) (cₚ sₚ : Nat), HW V202_Row_Row σ Dₚ Nₚ Fₚ Aₚ → OUT (V202_Row_Row).length D N σE c s Dₚ Nₚ σ cₚ sₚ → SD [3] D Dₚ → SD [3] N Nₚ → SF [(1, 0), (1, 1), (1, 2)] F Fₚ → SA [3] A Aₚ → Fₚ 1 0 = (Dₚ 3 : Int) → ∀ m3 : Int, (Nₚ 3 : Int) = m3 → ∀ y1_1 : Int, Fₚ 1 1 = y1_1 → (0 ≤ (y1_1) ∧ (y1_1) ≤ (m3) ∧ (m3) ≤ 65536) → Q none σ cₚ sₚ) : Ew 202 (d + 3) 0 (rargs 0 [.ref (D 0), .ref (D 1), .ref (D 2), I a3]) [] σE c s Q := by
  have O := OUT_refl (n := (V202_Row_Row).length) (D := D) (N := N) (σ := σE) (c := c) (s := s)
  have HE := H
  have r1 : (-2147483648 : Int) ≤ u1_1 ∧ u1_1 ≤ 2147483647 := rngE (show (-2147483648 : Int) ≤ F 1 1 ∧ F 1 1 ≤ 2147483647 from H.krg 1 1 (ltn len_V202_Row_Row_oz_D3cls rfl)) (show F 1 1 = u1_1 from (eu1_1))
  have r2 : (-2147483648 : Int) ≤ u2_1 ∧ u2_1 ≤ 2147483647 := rngE (show (-2147483648 : Int) ≤ F 2 1 ∧ F 2 1 ≤ 2147483647 from H.krg 2 1 (ltn len_V202_Row_Row_oz_D3cls rfl)) (show F 2 1 = u2_1 from (eu2_1))
  have r3 : (-2147483648 : Int) ≤ u6_1 ∧ u6_1 ≤ 2147483647 := rngE (show (-2147483648 : Int) ≤ F 6 1 ∧ F 6 1 ≤ 2147483647 from H.krg 6 1 (ltn len_V202_Row_Row_oz_D3cls rfl)) (show F 6 1 = u6_1 from (eu6_1))
  have r4 : (0 : Int) ≤ n3 ∧ n3 ≤ 1000000 := nleE (H.nle 3 (ltn len_V202_Row_Row_oz_D3cls rfl)) (show (N 3 : Int) = n3 from en3)
  have r5 : (0 : Int) ≤ n4 ∧ n4 ≤ 1000000 := nleE (H.nle 4 (ltn len_V202_Row_Row_oz_D3cls rfl)) (show (N 4 : Int) = n4 from en4)
  have r6 : (0 : Int) ≤ n7 ∧ n7 ≤ 1000000 := nleE (H.nle 7 (ltn len_V202_Row_Row_oz_D3cls rfl)) (show (N 7 : Int) = n7 from en7)
  refine Ew_of (pcₚ := 1) (fun _ => x_aload_n rfl rfl) ?_
  refine v_g H (o := 0) (v := .ref (D 5)) rfl rfl rfl rfl rfl (vrf (pf5)) ?_
  refine v_g H (o := 5) (v := .ref (D 6)) rfl rfl rfl rfl rfl (vrf (pf6)) ?_
  refine Ew_of (pcₚ := 9) (fun _ => x_astore rfl) ?_
  refine Ew_of (pcₚ := 10) (fun _ => x_aload_n rfl (rk_o (rfl) rfl rfl)) ?_
  refine Ew_of (pcₚ := 11) (fun _ => x_aload_n rfl (rk_o (rfl) rfl rfl)) ?_
  refine v_g H (o := 2) (v := I (u2_1)) rfl rfl rfl rfl rfl (congrArg (fun z : Int => I z) ((eu2_1) : F 2 1 = u2_1)) ?_
  refine Ew_of (pcₚ := 15) (fun _ => x_iconst rfl) ?_
  refine w_iadd rfl ?_
  refine Ew_of (pcₚ := 18) (fun _ => x_bipush (z := 8) rfl (by decide)) ?_
  refine w_ishlA rfl (fun z7 gz7 => ?_)
  refine Ew_of (pcₚ := 20) (fun _ => x_iload_n rfl (rk_o (rfl) rfl rfl)) ?_
  refine w_ior rfl (fun z8 gz8 => ?_)
  refine w_i2l rfl (show inr (z8) from gz8) ?_
  refine Ew_of (pcₚ := 23) (fun _ => x_iconst rfl) ?_
  refine v_inv H (o := 1) rfl rfl rfl rfl rfl rfl (by rfl) (C160 (D := puc 1537 D) (N := puc 1537 N) (HW_subc H oz_D3cls_59 oz_D3cls_66) (pf3) (n3) (en3) (u1_1) ((eu1_1)) (show inrJ (z8) from q_428 gz8) (show inr (4) from q_2) (show 0 ≤ (u1_1) ∧ (u1_1) ≤ (n3) ∧ (n3) ≤ 65536 from h1) (fun σ9 D9ₚ N9ₚ F9ₚ A9ₚ c9 s9 Hₚ Oₚ hD9 hN9 hS9 hA9 pm9_1 m9_1 em9_1 y9_0_1 ey9_0_1 pz9_0 pz9_1 => ⟨rfl, ?_⟩))
  refine v_backMc (c := c) (s := s) H oz_D3cls_59 oz_D3cls_66 Hₚ Oₚ hD9 oz_D3cls_60 (fun D9 N9 F9 A9 H Oₚ eD9 eN9 eF9 eA9 => ?_)
  have O := OUT_trans O Oₚ
  -- Row.addNumber
  have cF9 : SF oz_D3clsl_5 F F9 := SF_trans (SF_refl) (SF_gluc (ι := oz_D3clsl_21) oz_D3cls_66 hS9 eF9 (by decide +kernel)) (any_sub (lₚ := [(1, 0), (1, 1), (1, 2)]) (by decide +kernel))
  have mF9 := SFm_of cF9 oz_D3cls_20
  have cA9 : SA oz_D3clsl_20 A A9 := SA_trans (SA_refl) (SA_gluc (ι := oz_D3clsl_21) oz_D3cls_66 hA9 eA9 (by decide +kernel)) (any_subA (lₚ := [3]) (by decide +kernel))
  have mA9 := SAm_of cA9 oz_D3cls_65
  have cD9 : SD oz_D3clsl_20 D D9 := SD_trans (SD_refl) (SD_gluc (ι := oz_D3clsl_21) oz_D3cls_66 hD9 eD9 (by decide +kernel)) (any_subA (lₚ := [3]) (by decide +kernel))
  have mD9 := SDm_of cD9 oz_D3cls_65
  have cN9 : SD oz_D3clsl_20 N N9 := SD_trans (SD_refl) (SD_gluc (ι := oz_D3clsl_21) oz_D3cls_66 hN9 eN9 (by decide +kernel)) (any_subA (lₚ := [3]) (by decide +kernel))
  have mN9 := SDm_of cN9 oz_D3cls_65
  have pf9_1_0 : F9 1 0 = (D9 3 : Int) := (eF9 1 0).trans (pm9_1.trans (congrArg (fun q : Nat => (q : Int)) (eD9 3).symm))
  have r10 : (0 : Int) ≤ m9_1 ∧ m9_1 ≤ 1000000 := nleE (H.nle 3 (ltn len_V202_Row_Row_oz_D3cls rfl)) (show (N9 3 : Int) = m9_1 from (congrArg (fun q : Nat => (q : Int)) (eN9 3)).trans em9_1)
  have r11 : (-2147483648 : Int) ≤ y9_0_1 ∧ y9_0_1 ≤ 2147483647 := rngE (show (-2147483648 : Int) ≤ F9 1 1 ∧ F9 1 1 ≤ 2147483647 from H.krg 1 1 (ltn len_V202_Row_Row_oz_D3cls rfl)) (show F9 1 1 = y9_0_1 from ((eF9 1 1).trans ey9_0_1))
  refine Ew_of (pcₚ := 27) (fun _ => x_aload_n rfl (rk_o (rfl) rfl rfl)) ?_
  refine Ew_of (pcₚ := 29) (fun _ => x_aload rfl rk_s) ?_
  refine Ew_stk (show ([.ref (D 6), .ref (D 1)] : List Value) = [.ref (D9 6), .ref (D9 1)] by rw [show D9 1 = D 1 from mD9 1 rfl, show D9 6 = D 6 from mD9 6 rfl]) ?_
  refine v_g H (o := 6) (v := .ref (D9 7)) rfl rfl rfl rfl rfl (vrf ((mF9 6 0 rfl).trans ((pf7).trans (congrArg (fun q : Nat => (q : Int)) (mD9 7 rfl).symm)))) ?_
  refine Ew_of (pcₚ := 33) (fun _ => x_iconst rfl) ?_
  refine Ew_of (pcₚ := 35) (fun _ => x_aload rfl rk_s) ?_
  refine Ew_stk (congrArg (fun qz : Nat => ([.ref qz, I (0), .ref (D9 7), .ref (D9 1)] : List Value)) (show D9 6 = D 6 from mD9 6 rfl).symm) ?_
  refine v_g H (o := 6) (v := I (u6_1)) rfl rfl rfl rfl rfl (congrArg (fun z : Int => I z) (((mF9 6 1 rfl).trans (eu6_1)) : F9 6 1 = u6_1)) ?_
  refine w_stat25 rfl rfl (by rfl) (C53_Br (D := puc 7 D9) (N := puc 7 N9) (HW_subc H oz_D3cls_61 oz_D3cls_67) (STC_out HT HE O) (n7) ((congrArg (fun q : Nat => (q : Int)) (mN9 7 rfl)).trans (en7)) (show inr (0) from q_20) (show inr (u6_1) from q_884 h3) (show 0 ≤ (0) ∧ (0) ≤ (u6_1) ∧ (u6_1) ≤ (n7) from q_2877 h3) (fun z12 σ12 F12ₚ A12ₚ Hₚ Oₚ hS12 hA12 pz12_0 => ⟨rfl, ?_⟩))
  refine v_backc (c := (c + c9)) (s := (s + s9)) H oz_D3cls_61 oz_D3cls_67 Hₚ Oₚ (fun F12 A12 H Oₚ eF12 eA12 => ?_)
  have O := OUT_trans O Oₚ
  -- PackHouse.polynomialSum
  have cF12 : SF oz_D3clsl_5 F F12 := SF_trans (cF9) (SF_gluc (ι := oz_D3clsl_22) oz_D3cls_67 hS12 eF12 (by decide +kernel)) (any_sub (lₚ := []) (by decide +kernel))
  have mF12 := SFm_of cF12 oz_D3cls_20
  have cA12 : SA oz_D3clsl_20 A A12 := SA_trans (cA9) (SA_gluc (ι := oz_D3clsl_22) oz_D3cls_67 hA12 eA12 (by decide +kernel)) (any_subA (lₚ := []) (by decide +kernel))
  have mA12 := SAm_of cA12 oz_D3cls_65
  refine w_stat25 rfl rfl (by rfl) (C54 (D := puc 0 D9) (N := puc 0 N9) (HW_subc H oz_D3cls_62 oz_D3cls_7) (show inr (z12) from pz12_0) (fun z13 σ13 F13ₚ A13ₚ Hₚ Oₚ hS13 hA13 pz13_0 => ⟨rfl, ?_⟩))
  refine v_backc (c := (c + c9)) (s := (s + s9)) H oz_D3cls_62 oz_D3cls_7 Hₚ Oₚ (fun F13 A13 H Oₚ eF13 eA13 => ?_)
  have O := OUT_trans O Oₚ
  -- PackHouse.maskedSum
  have cF13 : SF oz_D3clsl_5 F F13 := SF_trans (cF12) (SF_gluc (ι := oz_D3clsl_1) oz_D3cls_7 hS13 eF13 (by decide +kernel)) (any_sub (lₚ := []) (by decide +kernel))
  have mF13 := SFm_of cF13 oz_D3cls_20
  have cA13 : SA oz_D3clsl_20 A A13 := SA_trans (cA12) (SA_gluc (ι := oz_D3clsl_1) oz_D3cls_7 hA13 eA13 (by decide +kernel)) (any_subA (lₚ := []) (by decide +kernel))
  have mA13 := SAm_of cA13 oz_D3cls_65
  refine w_i2l rfl (show inr (z13) from pz13_0) ?_
  refine Ew_of (pcₚ := 46) (fun _ => x_iconst rfl) ?_
  refine v_inv H (o := 1) rfl rfl rfl rfl rfl rfl (by rfl) (C160 (D := puc 1537 D9) (N := puc 1537 N9) (HW_subc H oz_D3cls_59 oz_D3cls_66) (((((show F13 1 0 = F12 1 0 from (eF13 1 0))).trans ((show F12 1 0 = F9 1 0 from (eF12 1 0))))).trans (pf9_1_0)) (m9_1) ((congrArg (fun q : Nat => (q : Int)) (eN9 3)).trans em9_1) (y9_0_1) (((((show F13 1 1 = F12 1 1 from (eF13 1 1))).trans ((show F12 1 1 = F9 1 1 from (eF12 1 1)))).trans ((eF9 1 1).trans ey9_0_1))) (show inrJ (z13) from q_428 pz13_0) (show inr (4) from q_2) (show 0 ≤ (y9_0_1) ∧ (y9_0_1) ≤ (m9_1) ∧ (m9_1) ≤ 65536 from pz9_0) (fun σ14 D14ₚ N14ₚ F14ₚ A14ₚ c14 s14 Hₚ Oₚ hD14 hN14 hS14 hA14 pm14_1 m14_1 em14_1 y14_0_1 ey14_0_1 pz14_0 pz14_1 => ⟨rfl, ?_⟩))
  refine v_backMc (c := (c + c9)) (s := (s + s9)) H oz_D3cls_59 oz_D3cls_66 Hₚ Oₚ hD14 oz_D3cls_60 (fun D14 N14 F14 A14 H Oₚ eD14 eN14 eF14 eA14 => ?_)
  have O := OUT_trans O Oₚ
  -- Row.addNumber
  have cF14 : SF oz_D3clsl_5 F F14 := SF_trans (cF13) (SF_gluc (ι := oz_D3clsl_21) oz_D3cls_66 hS14 eF14 (by decide +kernel)) (any_sub (lₚ := [(1, 0), (1, 1), (1, 2)]) (by decide +kernel))
  have mF14 := SFm_of cF14 oz_D3cls_20
  have cA14 : SA oz_D3clsl_20 A A14 := SA_trans (cA13) (SA_gluc (ι := oz_D3clsl_21) oz_D3cls_66 hA14 eA14 (by decide +kernel)) (any_subA (lₚ := [3]) (by decide +kernel))
  have mA14 := SAm_of cA14 oz_D3cls_65
  have cD14 : SD oz_D3clsl_20 D D14 := SD_trans (cD9) (SD_gluc (ι := oz_D3clsl_21) oz_D3cls_66 hD14 eD14 (by decide +kernel)) (any_subA (lₚ := [3]) (by decide +kernel))
  have mD14 := SDm_of cD14 oz_D3cls_65
  have cN14 : SD oz_D3clsl_20 N N14 := SD_trans (cN9) (SD_gluc (ι := oz_D3clsl_21) oz_D3cls_66 hN14 eN14 (by decide +kernel)) (any_subA (lₚ := [3]) (by decide +kernel))
  have mN14 := SDm_of cN14 oz_D3cls_65
  have pf14_1_0 : F14 1 0 = (D14 3 : Int) := (eF14 1 0).trans (pm14_1.trans (congrArg (fun q : Nat => (q : Int)) (eD14 3).symm))
  have r15 : (0 : Int) ≤ m14_1 ∧ m14_1 ≤ 1000000 := nleE (H.nle 3 (ltn len_V202_Row_Row_oz_D3cls rfl)) (show (N14 3 : Int) = m14_1 from (congrArg (fun q : Nat => (q : Int)) (eN14 3)).trans em14_1)
  have r16 : (-2147483648 : Int) ≤ y14_0_1 ∧ y14_0_1 ≤ 2147483647 := rngE (show (-2147483648 : Int) ≤ F14 1 1 ∧ F14 1 1 ≤ 2147483647 from H.krg 1 1 (ltn len_V202_Row_Row_oz_D3cls rfl)) (show F14 1 1 = y14_0_1 from ((eF14 1 1).trans ey14_0_1))
  refine Ew_of (pcₚ := 50) (fun _ => x_aload_n rfl (rk_o (rfl) rfl rfl)) ?_
  refine Ew_of (pcₚ := 51) (fun _ => x_aload_n rfl (rk_o (rfl) rfl rfl)) ?_
  refine Ew_stk (show ([.ref (D 2), .ref (D 1)] : List Value) = [.ref (D14 2), .ref (D14 1)] by rw [show D14 1 = D 1 from mD14 1 rfl, show D14 2 = D 2 from mD14 2 rfl]) ?_
  refine v_g H (o := 2) (v := .ref (D14 4)) rfl rfl rfl rfl rfl (vrf ((mF14 2 0 rfl).trans ((pf4).trans (congrArg (fun q : Nat => (q : Int)) (mD14 4 rfl).symm)))) ?_
  refine Ew_of (pcₚ := 55) (fun _ => x_iconst rfl) ?_
  refine Ew_of (pcₚ := 56) (fun _ => x_aload_n rfl (rk_o (rfl) rfl rfl)) ?_
  refine Ew_stk (congrArg (fun qz : Nat => ([.ref qz, I (0), .ref (D14 4), .ref (D14 1)] : List Value)) (show D14 2 = D 2 from mD14 2 rfl).symm) ?_
  refine v_g H (o := 2) (v := I (u2_1)) rfl rfl rfl rfl rfl (congrArg (fun z : Int => I z) (((mF14 2 1 rfl).trans (eu2_1)) : F14 2 1 = u2_1)) ?_
  refine v_inv H (o := 1) rfl rfl rfl rfl rfl rfl (by rfl) (C161_Br (D := puc 788481 D14) (N := puc 788481 N14) (HW_subc H oz_D3cls_63 oz_D3cls_68) (pf14_1_0) (n4) ((congrArg (fun q : Nat => (q : Int)) (mN14 4 rfl)).trans (en4)) (m14_1) ((congrArg (fun q : Nat => (q : Int)) (eN14 3)).trans em14_1) (y14_0_1) (((eF14 1 1).trans ey14_0_1)) (A14 3) (rfl) (show inr (0) from q_20) (show inr (u2_1) from q_884 h2) (show 0 ≤ (y14_0_1) ∧ (y14_0_1) ≤ (m14_1) ∧ (m14_1) ≤ 65536 from pz14_0) (show (u2_1) < 0 ∨ 0 ≤ (0) ∧ (0) + (u2_1) ≤ (n4) from q_2548 h2) (fun σ17 D17ₚ N17ₚ F17ₚ A17ₚ c17 s17 Hₚ Oₚ hD17 hN17 hS17 hA17 pm17_2 m17_2 em17_2 y17_0_1 ey17_0_1 w17_2 ew17_2 pz17_0 pz17_1 pz17_2 => ⟨rfl, ?_⟩))
  refine v_backMc (c := ((c + c9) + c14)) (s := ((s + s9) + s14)) H oz_D3cls_63 oz_D3cls_68 Hₚ Oₚ hD17 oz_D3cls_64 (fun D17 N17 F17 A17 H Oₚ eD17 eN17 eF17 eA17 => ?_)
  have O := OUT_trans O Oₚ
  -- Row.addPart
  have cF17 : SF oz_D3clsl_5 F F17 := SF_trans (cF14) (SF_gluc (ι := oz_D3clsl_23) oz_D3cls_68 hS17 eF17 (by decide +kernel)) (any_sub (lₚ := [(1, 0), (1, 1), (1, 2)]) (by decide +kernel))
  have mF17 := SFm_of cF17 oz_D3cls_20
  have cA17 : SA oz_D3clsl_20 A A17 := SA_trans (cA14) (SA_gluc (ι := oz_D3clsl_23) oz_D3cls_68 hA17 eA17 (by decide +kernel)) (any_subA (lₚ := [3]) (by decide +kernel))
  have mA17 := SAm_of cA17 oz_D3cls_65
  have cD17 : SD oz_D3clsl_20 D D17 := SD_trans (cD14) (SD_gluc (ι := oz_D3clsl_23) oz_D3cls_68 hD17 eD17 (by decide +kernel)) (any_subA (lₚ := [3]) (by decide +kernel))
  have mD17 := SDm_of cD17 oz_D3cls_65
  have cN17 : SD oz_D3clsl_20 N N17 := SD_trans (cN14) (SD_gluc (ι := oz_D3clsl_23) oz_D3cls_68 hN17 eN17 (by decide +kernel)) (any_subA (lₚ := [3]) (by decide +kernel))
  have mN17 := SDm_of cN17 oz_D3cls_65
  have pf17_1_0 : F17 1 0 = (D17 3 : Int) := (eF17 1 0).trans (pm17_2.trans (congrArg (fun q : Nat => (q : Int)) (eD17 3).symm))
  have r18 : (0 : Int) ≤ m17_2 ∧ m17_2 ≤ 1000000 := nleE (H.nle 3 (ltn len_V202_Row_Row_oz_D3cls rfl)) (show (N17 3 : Int) = m17_2 from (congrArg (fun q : Nat => (q : Int)) (eN17 3)).trans em17_2)
  have r19 : (-2147483648 : Int) ≤ y17_0_1 ∧ y17_0_1 ≤ 2147483647 := rngE (show (-2147483648 : Int) ≤ F17 1 1 ∧ F17 1 1 ≤ 2147483647 from H.krg 1 1 (ltn len_V202_Row_Row_oz_D3cls rfl)) (show F17 1 1 = y17_0_1 from ((eF17 1 1).trans ey17_0_1))
  exact w_ret rfl (k _ _ _ _ _ _ _ H O (cD17) (cN17) (cF17) (cA17) (pf17_1_0) (m17_2) ((congrArg (fun q : Nat => (q : Int)) (eN17 3)).trans em17_2) (y17_0_1) (((eF17 1 1).trans ey17_0_1)) (show 0 ≤ (y17_0_1) ∧ (y17_0_1) ≤ (m17_2) ∧ (m17_2) ≤ 65536 from pz17_0))
abbrev V202_Row_thisfinderdataa : vV := [(0, 10, [(4, 0), (4, 0), (4, 0), (4, 0), (0, 0), (4, 0), (0, 0), (2, 0), (0, 0)]), (0, 7, [(4, 0), (0, 0), (1, 0), (0, 0), (0, 0)]), (1, 0, []), (0, 5, [(4, 0), (4, 0), (4, 0), (4, 0), (0, 0), (0, 0), (0, 0), (4, 0), (4, 0), (0, 0), (0, 0), (0, 0), (0, 0), (0, 0), (0, 0), (0, 0), (0, 0), (0, 0), (0, 0)]), (0, 7, [(4, 0), (0, 0), (1, 0), (0, 0), (0, 0)]), (1, 0, [])]
theorem len_V202_Row_thisfinderdataa_oz_D3cls : (V202_Row_thisfinderdataa).length = 6 := by decide +kernel
theorem oz_D3cls_70 : vsub V202_Row_thisfinderdataa V160 [1, 2] = true := by decide +kernel
theorem oz_D3cls_71 : vmov V202_Row_thisfinderdataa [1, 2] [1] = true := by decide +kernel
theorem oz_D3cls_72 : vsub V202_Row_thisfinderdataa V53_Br [5] = true := by decide +kernel
theorem oz_D3cls_73 : vsub V202_Row_thisfinderdataa V54 [] = true := by decide +kernel
theorem oz_D3cls_74 : vsub V202_Row_thisfinderdataa V161_Br [1, 5, 2] = true := by decide +kernel
theorem oz_D3cls_75 : vmov V202_Row_thisfinderdataa [1, 5, 2] [2] = true := by decide +kernel
def oz_D3clsl_24 : List Nat := [5]
theorem oz_D3cls_76 : okc oz_D3clsl_24 5 = true := by decide +kernel
/-- Tags.addChunk: this, #1, #1.bytes, this.finder, this.finder.data, this.finder.data.bytes -/
theorem C202_Row_thisfinderdataa {σE : rS} {D N : Nat → Nat} {F : hF} {A : hA} {d c s : Nat} {Q : wQ} (H : HW V202_Row_thisfinderdataa σE D N F A) (HT : STC σE) {a3 : Int} (pf2 : F 1 0 = (D 2 : Int)) (pf3 : F 0 1 = (D 3 : Int)) (pf4 : F 3 0 = (D 4 : Int)) (pf5 : F 4 0 = (D 5 : Int)) (n2 : Int) (en2 : (N 2 : Int) = n2) (n5 : Int) (en5 : (N 5 : Int) = n5) (u1_1 : Int) (eu1_1 : F 1 1 = u1_1) (u4_1 : Int) (eu4_1 : F 4 1 = u4_1) (h0 : inr (a3)) (h1 : 0 ≤ (u1_1) ∧ (u1_1) ≤ (n2) ∧ (n2) ≤ 65536) (h2 : 0 ≤ (u4_1) ∧ (u4_1) ≤ (n5) ∧ (n5) ≤ 65536) (h3 : 0 ≤ (u4_1) ∧ (u4_1) ≤ (n5) ∧ (n5) ≤ 65536) (k : ∀ (σ : rS) (Dₚ Nₚ : Nat → Nat) (Fₚ : hF) (Aₚ : hA) (cₚ sₚ : Nat), HW V202_Row_thisfinderdataa σ Dₚ Nₚ Fₚ Aₚ → OUT (V202_Row_thisfinderdataa).length D N σE c s Dₚ Nₚ σ cₚ sₚ → SD [2] D Dₚ → SD [2] N Nₚ → SF [(1, 0), (1, 1), (1, 2)] F Fₚ → SA [2] A Aₚ → Fₚ 1 0 = (Dₚ 2 : Int) → ∀ m2 : Int, (Nₚ 2 : Int) = m2 → ∀ y1_1 : Int, Fₚ 1 1 = y1_1 → (0 ≤ (y1_1) ∧ (y1_1) ≤ (m2) ∧ (m2) ≤ 65536) → Q none σ cₚ sₚ) : Ew 202 (d + 3) 0 (rargs 0 [.ref (D 0), .ref (D 1), .ref (D 4), I a3]) [] σE c s Q := by
  have O := OUT_refl (n := (V202_Row_thisfinderdataa).length) (D := D) (N := N) (σ := σE) (c := c) (s := s)
  have HE := H
  have r1 : (-2147483648 : Int) ≤ u1_1 ∧ u1_1 ≤ 2147483647 := rngE (show (-2147483648 : Int) ≤ F 1 1 ∧ F 1 1 ≤ 2147483647 from H.krg 1 1 (ltn len_V202_Row_thisfinderdataa_oz_D3cls rfl)) (show F 1 1 = u1_1 from (eu1_1))
  have r2 : (-2147483648 : Int) ≤ u4_1 ∧ u4_1 ≤ 2147483647 := rngE (show (-2147483648 : Int) ≤ F 4 1 ∧ F 4 1 ≤ 2147483647 from H.krg 4 1 (ltn len_V202_Row_thisfinderdataa_oz_D3cls rfl)) (show F 4 1 = u4_1 from (eu4_1))
  have r3 : (0 : Int) ≤ n2 ∧ n2 ≤ 1000000 := nleE (H.nle 2 (ltn len_V202_Row_thisfinderdataa_oz_D3cls rfl)) (show (N 2 : Int) = n2 from en2)
  have r4 : (0 : Int) ≤ n5 ∧ n5 ≤ 1000000 := nleE (H.nle 5 (ltn len_V202_Row_thisfinderdataa_oz_D3cls rfl)) (show (N 5 : Int) = n5 from en5)
  refine Ew_of (pcₚ := 1) (fun _ => x_aload_n rfl rfl) ?_
  refine v_g H (o := 0) (v := .ref (D 3)) rfl rfl rfl rfl rfl (vrf (pf3)) ?_
  refine v_g H (o := 3) (v := .ref (D 4)) rfl rfl rfl rfl rfl (vrf (pf4)) ?_
  refine Ew_of (pcₚ := 9) (fun _ => x_astore rfl) ?_
  refine Ew_of (pcₚ := 10) (fun _ => x_aload_n rfl (rk_o (rfl) rfl rfl)) ?_
  refine Ew_of (pcₚ := 11) (fun _ => x_aload_n rfl (rk_o (rfl) rfl rfl)) ?_
  refine v_g H (o := 4) (v := I (u4_1)) rfl rfl rfl rfl rfl (congrArg (fun z : Int => I z) ((eu4_1) : F 4 1 = u4_1)) ?_
  refine Ew_of (pcₚ := 15) (fun _ => x_iconst rfl) ?_
  refine w_iadd rfl ?_
  refine Ew_of (pcₚ := 18) (fun _ => x_bipush (z := 8) rfl (by decide)) ?_
  refine w_ishlA rfl (fun z5 gz5 => ?_)
  refine Ew_of (pcₚ := 20) (fun _ => x_iload_n rfl (rk_o (rfl) rfl rfl)) ?_
  refine w_ior rfl (fun z6 gz6 => ?_)
  refine w_i2l rfl (show inr (z6) from gz6) ?_
  refine Ew_of (pcₚ := 23) (fun _ => x_iconst rfl) ?_
  refine v_inv H (o := 1) rfl rfl rfl rfl rfl rfl (by rfl) (C160 (D := puc 1025 D) (N := puc 1025 N) (HW_subc H oz_D3cls_70 oz_D3cls_23) (pf2) (n2) (en2) (u1_1) ((eu1_1)) (show inrJ (z6) from q_428 gz6) (show inr (4) from q_2) (show 0 ≤ (u1_1) ∧ (u1_1) ≤ (n2) ∧ (n2) ≤ 65536 from h1) (fun σ7 D7ₚ N7ₚ F7ₚ A7ₚ c7 s7 Hₚ Oₚ hD7 hN7 hS7 hA7 pm7_1 m7_1 em7_1 y7_0_1 ey7_0_1 pz7_0 pz7_1 => ⟨rfl, ?_⟩))
  refine v_backMc (c := c) (s := s) H oz_D3cls_70 oz_D3cls_23 Hₚ Oₚ hD7 oz_D3cls_71 (fun D7 N7 F7 A7 H Oₚ eD7 eN7 eF7 eA7 => ?_)
  have O := OUT_trans O Oₚ
  -- Row.addNumber
  have cF7 : SF oz_D3clsl_5 F F7 := SF_trans (SF_refl) (SF_gluc (ι := oz_D3clsl_8) oz_D3cls_23 hS7 eF7 (by decide +kernel)) (any_sub (lₚ := [(1, 0), (1, 1), (1, 2)]) (by decide +kernel))
  have mF7 := SFm_of cF7 oz_D3cls_20
  have cA7 : SA oz_D3clsl_6 A A7 := SA_trans (SA_refl) (SA_gluc (ι := oz_D3clsl_8) oz_D3cls_23 hA7 eA7 (by decide +kernel)) (any_subA (lₚ := [2]) (by decide +kernel))
  have mA7 := SAm_of cA7 oz_D3cls_21
  have cD7 : SD oz_D3clsl_6 D D7 := SD_trans (SD_refl) (SD_gluc (ι := oz_D3clsl_8) oz_D3cls_23 hD7 eD7 (by decide +kernel)) (any_subA (lₚ := [2]) (by decide +kernel))
  have mD7 := SDm_of cD7 oz_D3cls_21
  have cN7 : SD oz_D3clsl_6 N N7 := SD_trans (SD_refl) (SD_gluc (ι := oz_D3clsl_8) oz_D3cls_23 hN7 eN7 (by decide +kernel)) (any_subA (lₚ := [2]) (by decide +kernel))
  have mN7 := SDm_of cN7 oz_D3cls_21
  have pf7_1_0 : F7 1 0 = (D7 2 : Int) := (eF7 1 0).trans (pm7_1.trans (congrArg (fun q : Nat => (q : Int)) (eD7 2).symm))
  have r8 : (0 : Int) ≤ m7_1 ∧ m7_1 ≤ 1000000 := nleE (H.nle 2 (ltn len_V202_Row_thisfinderdataa_oz_D3cls rfl)) (show (N7 2 : Int) = m7_1 from (congrArg (fun q : Nat => (q : Int)) (eN7 2)).trans em7_1)
  have r9 : (-2147483648 : Int) ≤ y7_0_1 ∧ y7_0_1 ≤ 2147483647 := rngE (show (-2147483648 : Int) ≤ F7 1 1 ∧ F7 1 1 ≤ 2147483647 from H.krg 1 1 (ltn len_V202_Row_thisfinderdataa_oz_D3cls rfl)) (show F7 1 1 = y7_0_1 from ((eF7 1 1).trans ey7_0_1))
  refine Ew_of (pcₚ := 27) (fun _ => x_aload_n rfl (rk_o (rfl) rfl rfl)) ?_
  refine Ew_of (pcₚ := 29) (fun _ => x_aload rfl rk_s) ?_
  refine Ew_stk (show ([.ref (D 4), .ref (D 1)] : List Value) = [.ref (D7 4), .ref (D7 1)] by rw [show D7 1 = D 1 from mD7 1 rfl, show D7 4 = D 4 from mD7 4 rfl]) ?_
  refine v_g H (o := 4) (v := .ref (D7 5)) rfl rfl rfl rfl rfl (vrf ((mF7 4 0 rfl).trans ((pf5).trans (congrArg (fun q : Nat => (q : Int)) (mD7 5 rfl).symm)))) ?_
  refine Ew_of (pcₚ := 33) (fun _ => x_iconst rfl) ?_
  refine Ew_of (pcₚ := 35) (fun _ => x_aload rfl rk_s) ?_
  refine Ew_stk (congrArg (fun qz : Nat => ([.ref qz, I (0), .ref (D7 5), .ref (D7 1)] : List Value)) (show D7 4 = D 4 from mD7 4 rfl).symm) ?_
  refine v_g H (o := 4) (v := I (u4_1)) rfl rfl rfl rfl rfl (congrArg (fun z : Int => I z) (((mF7 4 1 rfl).trans (eu4_1)) : F7 4 1 = u4_1)) ?_
  refine w_stat25 rfl rfl (by rfl) (C53_Br (D := puc 5 D7) (N := puc 5 N7) (HW_subc H oz_D3cls_72 oz_D3cls_76) (STC_out HT HE O) (n5) ((congrArg (fun q : Nat => (q : Int)) (mN7 5 rfl)).trans (en5)) (show inr (0) from q_20) (show inr (u4_1) from q_884 h3) (show 0 ≤ (0) ∧ (0) ≤ (u4_1) ∧ (u4_1) ≤ (n5) from q_2877 h3) (fun z10 σ10 F10ₚ A10ₚ Hₚ Oₚ hS10 hA10 pz10_0 => ⟨rfl, ?_⟩))
  refine v_backc (c := (c + c7)) (s := (s + s7)) H oz_D3cls_72 oz_D3cls_76 Hₚ Oₚ (fun F10 A10 H Oₚ eF10 eA10 => ?_)
  have O := OUT_trans O Oₚ
  -- PackHouse.polynomialSum
  have cF10 : SF oz_D3clsl_5 F F10 := SF_trans (cF7) (SF_gluc (ι := oz_D3clsl_24) oz_D3cls_76 hS10 eF10 (by decide +kernel)) (any_sub (lₚ := []) (by decide +kernel))
  have mF10 := SFm_of cF10 oz_D3cls_20
  have cA10 : SA oz_D3clsl_6 A A10 := SA_trans (cA7) (SA_gluc (ι := oz_D3clsl_24) oz_D3cls_76 hA10 eA10 (by decide +kernel)) (any_subA (lₚ := []) (by decide +kernel))
  have mA10 := SAm_of cA10 oz_D3cls_21
  refine w_stat25 rfl rfl (by rfl) (C54 (D := puc 0 D7) (N := puc 0 N7) (HW_subc H oz_D3cls_73 oz_D3cls_7) (show inr (z10) from pz10_0) (fun z11 σ11 F11ₚ A11ₚ Hₚ Oₚ hS11 hA11 pz11_0 => ⟨rfl, ?_⟩))
  refine v_backc (c := (c + c7)) (s := (s + s7)) H oz_D3cls_73 oz_D3cls_7 Hₚ Oₚ (fun F11 A11 H Oₚ eF11 eA11 => ?_)
  have O := OUT_trans O Oₚ
  -- PackHouse.maskedSum
  have cF11 : SF oz_D3clsl_5 F F11 := SF_trans (cF10) (SF_gluc (ι := oz_D3clsl_1) oz_D3cls_7 hS11 eF11 (by decide +kernel)) (any_sub (lₚ := []) (by decide +kernel))
  have mF11 := SFm_of cF11 oz_D3cls_20
  have cA11 : SA oz_D3clsl_6 A A11 := SA_trans (cA10) (SA_gluc (ι := oz_D3clsl_1) oz_D3cls_7 hA11 eA11 (by decide +kernel)) (any_subA (lₚ := []) (by decide +kernel))
  have mA11 := SAm_of cA11 oz_D3cls_21
  refine w_i2l rfl (show inr (z11) from pz11_0) ?_
  refine Ew_of (pcₚ := 46) (fun _ => x_iconst rfl) ?_
  refine v_inv H (o := 1) rfl rfl rfl rfl rfl rfl (by rfl) (C160 (D := puc 1025 D7) (N := puc 1025 N7) (HW_subc H oz_D3cls_70 oz_D3cls_23) (((((show F11 1 0 = F10 1 0 from (eF11 1 0))).trans ((show F10 1 0 = F7 1 0 from (eF10 1 0))))).trans (pf7_1_0)) (m7_1) ((congrArg (fun q : Nat => (q : Int)) (eN7 2)).trans em7_1) (y7_0_1) (((((show F11 1 1 = F10 1 1 from (eF11 1 1))).trans ((show F10 1 1 = F7 1 1 from (eF10 1 1)))).trans ((eF7 1 1).trans ey7_0_1))) (show inrJ (z11) from q_428 pz11_0) (show inr (4) from q_2) (show 0 ≤ (y7_0_1) ∧ (y7_0_1) ≤ (m7_1) ∧ (m7_1) ≤ 65536 from pz7_0) (fun σ12 D12ₚ N12ₚ F12ₚ A12ₚ c12 s12 Hₚ Oₚ hD12 hN12 hS12 hA12 pm12_1 m12_1 em12_1 y12_0_1 ey12_0_1 pz12_0 pz12_1 => ⟨rfl, ?_⟩))
  refine v_backMc (c := (c + c7)) (s := (s + s7)) H oz_D3cls_70 oz_D3cls_23 Hₚ Oₚ hD12 oz_D3cls_71 (fun D12 N12 F12 A12 H Oₚ eD12 eN12 eF12 eA12 => ?_)
  have O := OUT_trans O Oₚ
  -- Row.addNumber
  have cF12 : SF oz_D3clsl_5 F F12 := SF_trans (cF11) (SF_gluc (ι := oz_D3clsl_8) oz_D3cls_23 hS12 eF12 (by decide +kernel)) (any_sub (lₚ := [(1, 0), (1, 1), (1, 2)]) (by decide +kernel))
  have mF12 := SFm_of cF12 oz_D3cls_20
  have cA12 : SA oz_D3clsl_6 A A12 := SA_trans (cA11) (SA_gluc (ι := oz_D3clsl_8) oz_D3cls_23 hA12 eA12 (by decide +kernel)) (any_subA (lₚ := [2]) (by decide +kernel))
  have mA12 := SAm_of cA12 oz_D3cls_21
  have cD12 : SD oz_D3clsl_6 D D12 := SD_trans (cD7) (SD_gluc (ι := oz_D3clsl_8) oz_D3cls_23 hD12 eD12 (by decide +kernel)) (any_subA (lₚ := [2]) (by decide +kernel))
  have mD12 := SDm_of cD12 oz_D3cls_21
  have cN12 : SD oz_D3clsl_6 N N12 := SD_trans (cN7) (SD_gluc (ι := oz_D3clsl_8) oz_D3cls_23 hN12 eN12 (by decide +kernel)) (any_subA (lₚ := [2]) (by decide +kernel))
  have mN12 := SDm_of cN12 oz_D3cls_21
  have pf12_1_0 : F12 1 0 = (D12 2 : Int) := (eF12 1 0).trans (pm12_1.trans (congrArg (fun q : Nat => (q : Int)) (eD12 2).symm))
  have r13 : (0 : Int) ≤ m12_1 ∧ m12_1 ≤ 1000000 := nleE (H.nle 2 (ltn len_V202_Row_thisfinderdataa_oz_D3cls rfl)) (show (N12 2 : Int) = m12_1 from (congrArg (fun q : Nat => (q : Int)) (eN12 2)).trans em12_1)
  have r14 : (-2147483648 : Int) ≤ y12_0_1 ∧ y12_0_1 ≤ 2147483647 := rngE (show (-2147483648 : Int) ≤ F12 1 1 ∧ F12 1 1 ≤ 2147483647 from H.krg 1 1 (ltn len_V202_Row_thisfinderdataa_oz_D3cls rfl)) (show F12 1 1 = y12_0_1 from ((eF12 1 1).trans ey12_0_1))
  refine Ew_of (pcₚ := 50) (fun _ => x_aload_n rfl (rk_o (rfl) rfl rfl)) ?_
  refine Ew_of (pcₚ := 51) (fun _ => x_aload_n rfl (rk_o (rfl) rfl rfl)) ?_
  refine Ew_stk (show ([.ref (D 4), .ref (D 1)] : List Value) = [.ref (D12 4), .ref (D12 1)] by rw [show D12 1 = D 1 from mD12 1 rfl, show D12 4 = D 4 from mD12 4 rfl]) ?_
  refine v_g H (o := 4) (v := .ref (D12 5)) rfl rfl rfl rfl rfl (vrf ((mF12 4 0 rfl).trans ((pf5).trans (congrArg (fun q : Nat => (q : Int)) (mD12 5 rfl).symm)))) ?_
  refine Ew_of (pcₚ := 55) (fun _ => x_iconst rfl) ?_
  refine Ew_of (pcₚ := 56) (fun _ => x_aload_n rfl (rk_o (rfl) rfl rfl)) ?_
  refine Ew_stk (congrArg (fun qz : Nat => ([.ref qz, I (0), .ref (D12 5), .ref (D12 1)] : List Value)) (show D12 4 = D 4 from mD12 4 rfl).symm) ?_
  refine v_g H (o := 4) (v := I (u4_1)) rfl rfl rfl rfl rfl (congrArg (fun z : Int => I z) (((mF12 4 1 rfl).trans (eu4_1)) : F12 4 1 = u4_1)) ?_
  refine v_inv H (o := 1) rfl rfl rfl rfl rfl rfl (by rfl) (C161_Br (D := puc 526849 D12) (N := puc 526849 N12) (HW_subc H oz_D3cls_74 oz_D3cls_22) (pf12_1_0) (n5) ((congrArg (fun q : Nat => (q : Int)) (mN12 5 rfl)).trans (en5)) (m12_1) ((congrArg (fun q : Nat => (q : Int)) (eN12 2)).trans em12_1) (y12_0_1) (((eF12 1 1).trans ey12_0_1)) (A12 2) (rfl) (show inr (0) from q_20) (show inr (u4_1) from q_884 h3) (show 0 ≤ (y12_0_1) ∧ (y12_0_1) ≤ (m12_1) ∧ (m12_1) ≤ 65536 from pz12_0) (show (u4_1) < 0 ∨ 0 ≤ (0) ∧ (0) + (u4_1) ≤ (n5) from q_2548 h3) (fun σ15 D15ₚ N15ₚ F15ₚ A15ₚ c15 s15 Hₚ Oₚ hD15 hN15 hS15 hA15 pm15_2 m15_2 em15_2 y15_0_1 ey15_0_1 w15_2 ew15_2 pz15_0 pz15_1 pz15_2 => ⟨rfl, ?_⟩))
  refine v_backMc (c := ((c + c7) + c12)) (s := ((s + s7) + s12)) H oz_D3cls_74 oz_D3cls_22 Hₚ Oₚ hD15 oz_D3cls_75 (fun D15 N15 F15 A15 H Oₚ eD15 eN15 eF15 eA15 => ?_)
  have O := OUT_trans O Oₚ
  -- Row.addPart
  have cF15 : SF oz_D3clsl_5 F F15 := SF_trans (cF12) (SF_gluc (ι := oz_D3clsl_7) oz_D3cls_22 hS15 eF15 (by decide +kernel)) (any_sub (lₚ := [(1, 0), (1, 1), (1, 2)]) (by decide +kernel))
  have mF15 := SFm_of cF15 oz_D3cls_20
  have cA15 : SA oz_D3clsl_6 A A15 := SA_trans (cA12) (SA_gluc (ι := oz_D3clsl_7) oz_D3cls_22 hA15 eA15 (by decide +kernel)) (any_subA (lₚ := [2]) (by decide +kernel))
  have mA15 := SAm_of cA15 oz_D3cls_21
  have cD15 : SD oz_D3clsl_6 D D15 := SD_trans (cD12) (SD_gluc (ι := oz_D3clsl_7) oz_D3cls_22 hD15 eD15 (by decide +kernel)) (any_subA (lₚ := [2]) (by decide +kernel))
  have mD15 := SDm_of cD15 oz_D3cls_21
  have cN15 : SD oz_D3clsl_6 N N15 := SD_trans (cN12) (SD_gluc (ι := oz_D3clsl_7) oz_D3cls_22 hN15 eN15 (by decide +kernel)) (any_subA (lₚ := [2]) (by decide +kernel))
  have mN15 := SDm_of cN15 oz_D3cls_21
  have pf15_1_0 : F15 1 0 = (D15 2 : Int) := (eF15 1 0).trans (pm15_2.trans (congrArg (fun q : Nat => (q : Int)) (eD15 2).symm))
  have r16 : (0 : Int) ≤ m15_2 ∧ m15_2 ≤ 1000000 := nleE (H.nle 2 (ltn len_V202_Row_thisfinderdataa_oz_D3cls rfl)) (show (N15 2 : Int) = m15_2 from (congrArg (fun q : Nat => (q : Int)) (eN15 2)).trans em15_2)
  have r17 : (-2147483648 : Int) ≤ y15_0_1 ∧ y15_0_1 ≤ 2147483647 := rngE (show (-2147483648 : Int) ≤ F15 1 1 ∧ F15 1 1 ≤ 2147483647 from H.krg 1 1 (ltn len_V202_Row_thisfinderdataa_oz_D3cls rfl)) (show F15 1 1 = y15_0_1 from ((eF15 1 1).trans ey15_0_1))
  exact w_ret rfl (k _ _ _ _ _ _ _ H O (cD15) (cN15) (cF15) (cA15) (pf15_1_0) (m15_2) ((congrArg (fun q : Nat => (q : Int)) (eN15 2)).trans em15_2) (y15_0_1) (((eF15 1 1).trans ey15_0_1)) (show 0 ≤ (y15_0_1) ∧ (y15_0_1) ≤ (m15_2) ∧ (m15_2) ≤ 65536 from pz15_0))
