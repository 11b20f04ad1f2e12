/-- Tags.orderly -/
theorem M350 {σ0 σ : rS} {D N : Nat → Nat} {F : hF} {A : hA} {d c s : Nat} {Q : wQ} (H : HS σ0 σ D N F A) {a1 a2 : Int} (u1_1 : Int) (eu1_1 : F 1 1 = u1_1) (u4_9 : Int) (eu4_9 : F 4 9 = u4_9) (u4_10 : Int) (eu4_10 : F 4 10 = u4_10) (h0 : inr (a1)) (h1 : inr (a2)) (h2 : 0 ≤ (a1) ∧ (a1) < (u1_1) ∧ 0 ≤ (a2) ∧ (a2) ≤ 255) (h3 : (u4_10) = 0) (h4 : (u4_9) ≤ (u1_1)) (k : ∀ (z : Int) σ F' A', HS σ0 σ D N F' A' → SF [(4, 9), (4, 10), (4, 11)] F F' → SA [] A A' → ∀ y4_9 : Int, F' 4 9 = y4_9 → ∀ y4_10 : Int, F' 4 10 = y4_10 → ((z) = 0 ∨ (z) = 1) → ((y4_9) ≤ (u1_1)) → ((z) = 1 → (y4_10) = 0 ∧ (a1) + 4 ≤ (y4_9) ∧ (y4_9) ≤ (u1_1) ∧ ((a2) ≤ 1 → (a1) + 8 ≤ (y4_9))) → ((z) = 0 → (y4_10) ≠ 0) → Q (some (I z)) σ c s) : Ew 350 (d + 1) 0 (rargs 0 [.ref (D 4), I a1, I a2]) [] σ c s Q := by
  have r1 : (0 : Int) ≤ u1_1 ∧ u1_1 ≤ 65536 := by have h1 : (0 : Int) ≤ F 1 1 ∧ F 1 1 ≤ 65536 := H.frng 1 1; rw [show F 1 1 = u1_1 from (eu1_1)] at h1; exact h1
  have r2 : (0 : Int) ≤ u4_9 ∧ u4_9 ≤ 65536 := by have h1 : (0 : Int) ≤ F 4 9 ∧ F 4 9 ≤ 65536 := H.frng 4 9; rw [show F 4 9 = u4_9 from (eu4_9)] at h1; exact h1
  have r3 : (-2147483648 : Int) ≤ u4_10 ∧ u4_10 ≤ 2147483647 := by have h1 : (-2147483648 : Int) ≤ F 4 10 ∧ F 4 10 ≤ 2147483647 := H.frng 4 10; rw [show F 4 10 = u4_10 from (eu4_10)] at h1; exact h1
  refine Ew_of (pc' := 1) (fun _ => x_iload_n rfl rfl) ?_
  have hc19 : ∀ (ls : rO) (σ : rS) (F_c19 : hF) (A_c19 : hA) , rlook ls 0 = some (.ref (D 4)) → rlook ls 1 = some (I (a1)) → rlook ls 2 = some (I (a2)) → HS σ0 σ D N F_c19 A_c19 → SF [] F F_c19 → SA [] A A_c19 → (((a1) ≠ (0)) ∨ ((a1) = (0) ∧ (a2) = (255))) → Ew 350 (d + 1) 19 ls [] σ c s Q := by
   as_aux_lemma =>
    intro  ls σ F_c19 A_c19  lc19_0 lc19_1 lc19_2 H hS_c19 hA_c19   jc19_0
    refine Ew_of (pc' := 20) (fun _ => x_iload_n rfl lc19_2) ?_
    refine Ew_of (pc' := 21) (fun _ => x_iconst rfl) ?_
    have hc38 : ∀ (ls : rO) (σ : rS) (F_c38 : hF) (A_c38 : hA) , rlook ls 0 = some (.ref (D 4)) → rlook ls 1 = some (I (a1)) → rlook ls 2 = some (I (a2)) → HS σ0 σ D N F_c38 A_c38 → SF [] F_c19 F_c38 → SA [] A_c19 A_c38 → (((a2) < (2)) ∨ ((a2) ≥ (2) ∧ (a2) > (127))) → Ew 350 (d + 1) 38 ls [] σ c s Q := by
     as_aux_lemma =>
      intro  ls σ F_c38 A_c38  lc38_0 lc38_1 lc38_2 H hS_c38 hA_c38   jc38_0
      refine Ew_of (pc' := 39) (fun _ => x_iload_n rfl lc38_1) ?_
      refine Ew_of (pc' := 40) (fun _ => x_iconst rfl) ?_
      refine w_iadd rfl ?_
      refine Ew_of (pc' := 42) (fun _ => x_aload_n rfl lc38_0) ?_
      refine w_gT H (o := 4) (t := 1) rfl (H.perm 4 rfl) rfl rfl rfl rfl rfl rfl ?_
      refine w_gI H (o := 1) (w := u1_1) rfl (H.perm 1 rfl) rfl rfl rfl (fun _ => rfl) (((hS_c38 1 1 rfl).trans (hS_c19 1 1 rfl)).trans (eu1_1)) ?_
      refine w_icmple (t := 65) rfl rfl (show inr ((a1 + 4)) by omega) (show inr (u1_1) by omega) (fun b4 => ?_) (fun b4 => ?_)
      · refine Ew_of (pc' := 66) (fun _ => x_aload_n rfl lc38_0) ?_
        refine Ew_of (pc' := 67) (fun _ => x_iload_n rfl lc38_1) ?_
        refine Ew_of (pc' := 68) (fun _ => x_iconst rfl) ?_
        refine w_iadd rfl ?_
        refine w_inv H (o := 4) rfl rfl rfl (H.perm 4 rfl) rfl rfl (by rfl) (M349 H (show inr ((a1 + 1)) by omega) (show 0 ≤ ((a1 + 1)) ∧ ((a1 + 1)) < 65536 by omega) (fun z9 σ F5 A6 H hS7 hA8 pz9_0 pz9_1 => ⟨rfl, ?_⟩))
        refine Ew_of (pc' := 75) (fun _ => x_sipush (z := 256) rfl (by decide)) ?_
        refine Ew_of (pc' := 76) (fun _ => x_aload_n rfl lc38_0) ?_
        refine Ew_of (pc' := 77) (fun _ => x_iload_n rfl lc38_1) ?_
        refine Ew_of (pc' := 78) (fun _ => x_iconst rfl) ?_
        refine w_iadd rfl ?_
        refine w_inv H (o := 4) rfl rfl rfl (H.perm 4 rfl) rfl rfl (by rfl) (M349 H (show inr ((a1 + 2)) by omega) (show 0 ≤ ((a1 + 2)) ∧ ((a1 + 2)) < 65536 by omega) (fun z14 σ F10 A11 H hS12 hA13 pz14_0 pz14_1 => ⟨rfl, ?_⟩))
        refine w_imul rfl ?_
        refine w_iadd rfl ?_
        refine Ew_of (pc' := 86) (fun _ => x_ldc (z := 65536) rfl (by decide)) ?_
        refine Ew_of (pc' := 87) (fun _ => x_aload_n rfl lc38_0) ?_
        refine Ew_of (pc' := 88) (fun _ => x_iload_n rfl lc38_1) ?_
        refine Ew_of (pc' := 89) (fun _ => x_iconst rfl) ?_
        refine w_iadd rfl ?_
        refine w_inv H (o := 4) rfl rfl rfl (H.perm 4 rfl) rfl rfl (by rfl) (M349 H (show inr ((a1 + 3)) by omega) (show 0 ≤ ((a1 + 3)) ∧ ((a1 + 3)) < 65536 by omega) (fun z19 σ F15 A16 H hS17 hA18 pz19_0 pz19_1 => ⟨rfl, ?_⟩))
        refine w_imul rfl ?_
        refine w_iadd rfl ?_
        refine Ew_of (pc' := 96) (fun _ => x_istore_n rfl) ?_
        refine Ew_of (pc' := 97) (fun _ => x_iload_n rfl (rk_o (lc38_1) rfl rfl)) ?_
        refine Ew_of (pc' := 98) (fun _ => x_iconst rfl) ?_
        refine w_iadd rfl ?_
        refine Ew_of (pc' := 100) (fun _ => x_iload_n rfl rk_s) ?_
        refine w_iadd rfl ?_
        refine Ew_of (pc' := 102) (fun _ => x_aload_n rfl (rk_o (lc38_0) rfl rfl)) ?_
        refine w_gT H (o := 4) (t := 1) rfl (H.perm 4 rfl) rfl rfl rfl rfl rfl rfl ?_
        refine w_gI H (o := 1) (w := u1_1) rfl (H.perm 1 rfl) rfl rfl rfl (fun _ => rfl) ((((((hS17 1 1 rfl).trans (hS12 1 1 rfl)).trans (hS7 1 1 rfl)).trans (hS_c38 1 1 rfl)).trans (hS_c19 1 1 rfl)).trans (eu1_1)) ?_
        refine w_icmple (t := 125) rfl rfl (show inr (((a1 + 4) + ((z9 + (256 * z14)) + (65536 * z19)))) by omega) (show inr (u1_1) by omega) (fun b20 => ?_) (fun b20 => ?_)
        · refine Ew_of (pc' := 126) (fun _ => x_aload_n rfl (rk_o (lc38_0) rfl rfl)) ?_
          refine Ew_of (pc' := 127) (fun _ => x_iload_n rfl (rk_o (lc38_1) rfl rfl)) ?_
          refine Ew_of (pc' := 128) (fun _ => x_iconst rfl) ?_
          refine w_iadd rfl ?_
          refine Ew_of (pc' := 130) (fun _ => x_iload_n rfl rk_s) ?_
          refine w_iadd rfl ?_
          refine w_pI H (o := 4) rfl rfl (H.perm 4 rfl) rfl rfl rfl (fun _ => rfl) rfl (show (0 : Int) ≤ ((a1 + 4) + ((z9 + (256 * z14)) + (65536 * z19))) ∧ ((a1 + 4) + ((z9 + (256 * z14)) + (65536 * z19))) ≤ 65536 by omega) (fun σ H => ?_)
          refine Ew_of (pc' := 135) (fun _ => x_iload_n rfl (rk_o (lc38_2) rfl rfl)) ?_
          refine Ew_of (pc' := 138) (fun _ => x_sipush (z := 255) rfl (by decide)) ?_
          refine w_icmpne (t := 221) rfl rfl (show inr (a2) by omega) (show inr (255) by omega) (fun b21 => ?_) (fun b21 => ?_)
          · refine Ew_of (pc' := 222) (fun _ => x_iload_n rfl (rk_o (lc38_2) rfl rfl)) ?_
            refine Ew_of (pc' := 223) (fun _ => x_iconst rfl) ?_
            have hc247 : ∀ (tc247_0 : Int), ∀ (ls : rO) (σ : rS) (F_c247 : hF) (A_c247 : hA) , rlook ls 0 = some (.ref (D 4)) → rlook ls 1 = some (I (a1)) → HS σ0 σ D N F_c247 A_c247 → SF [] (updF F15 4 9 (((a1 + 4) + ((z9 + (256 * z14)) + (65536 * z19))))) F_c247 → SA [] A16 A_c247 → (inr (tc247_0)) → (((a2) > (1) ∧ (a2) ≠ (1) ∧ (tc247_0) = (0)) ∨ ((a2) > (1) ∧ (a2) = (1) ∧ (((z9 + (256 * z14)) + (65536 * z19))) ≤ (65540) ∧ (tc247_0) = (0)) ∨ ((a2) > (1) ∧ (a2) = (1) ∧ (((z9 + (256 * z14)) + (65536 * z19))) > (65540) ∧ (tc247_0) = (1)) ∨ ((a2) ≤ (1) ∧ (((z9 + (256 * z14)) + (65536 * z19))) < (4) ∧ (tc247_0) = (1)) ∨ ((a2) ≤ (1) ∧ (((z9 + (256 * z14)) + (65536 * z19))) ≥ (4) ∧ (a2) ≠ (1) ∧ (tc247_0) = (0)) ∨ ((a2) ≤ (1) ∧ (((z9 + (256 * z14)) + (65536 * z19))) ≥ (4) ∧ (a2) = (1) ∧ (((z9 + (256 * z14)) + (65536 * z19))) ≤ (65540) ∧ (tc247_0) = (0)) ∨ ((a2) ≤ (1) ∧ (((z9 + (256 * z14)) + (65536 * z19))) ≥ (4) ∧ (a2) = (1) ∧ (((z9 + (256 * z14)) + (65536 * z19))) > (65540) ∧ (tc247_0) = (1))) → Ew 350 (d + 1) 247 ls [I (tc247_0)] σ c s Q := by
             as_aux_lemma =>
              intro tc247_0 ls σ F_c247 A_c247  lc247_0 lc247_1 H hS_c247 hA_c247   jc247_0 jc247_1
              refine Ew_of (pc' := 249) (fun _ => x_istore rfl) ?_
              refine Ew_of (pc' := 251) (fun _ => x_iload rfl rk_s) ?_
              refine w_ifeq (t := 264) rfl rfl (show inr (tc247_0) by omega) (fun b22 => ?_) (fun b22 => ?_)
              · refine Ew_of (pc' := 265) (fun _ => x_iconst rfl) ?_
                refine Ew_of (pc' := 269) (fun _ => x_goto rfl rfl) ?_
                exact w_ireturn rfl (k (1) σ _ _ H (SF_trans (SF_upd (SF_trans (SF_trans (SF_trans (SF_trans (SF_trans (SF_refl) hS_c19 (any_sub rfl)) hS_c38 (any_sub rfl)) hS7 (any_sub rfl)) hS12 (any_sub rfl)) hS17 (any_sub rfl)) rfl) hS_c247 (any_sub rfl)) (SA_trans (SA_trans (SA_trans (SA_trans (SA_trans (SA_trans (SA_refl) hA_c19 (any_subA rfl)) hA_c38 (any_subA rfl)) hA8 (any_subA rfl)) hA13 (any_subA rfl)) hA18 (any_subA rfl)) hA_c247 (any_subA rfl)) (((a1 + 4) + ((z9 + (256 * z14)) + (65536 * z19)))) ((hS_c247 4 9 rfl)) (u4_10) ((((((((hS_c247 4 10 rfl).trans (hS17 4 10 rfl)).trans (hS12 4 10 rfl)).trans (hS7 4 10 rfl)).trans (hS_c38 4 10 rfl)).trans (hS_c19 4 10 rfl)).trans (eu4_10))) (show (1) = 0 ∨ (1) = 1 by omega) (show (((a1 + 4) + ((z9 + (256 * z14)) + (65536 * z19)))) ≤ (u1_1) by omega) (show (1) = 1 → (u4_10) = 0 ∧ a1 + 4 ≤ (((a1 + 4) + ((z9 + (256 * z14)) + (65536 * z19)))) ∧ (((a1 + 4) + ((z9 + (256 * z14)) + (65536 * z19)))) ≤ (u1_1) ∧ (a2 ≤ 1 → a1 + 8 ≤ (((a1 + 4) + ((z9 + (256 * z14)) + (65536 * z19))))) by omega) (show (1) = 0 → (u4_10) ≠ 0 by omega))
              · refine Ew_of (pc' := 255) (fun _ => x_aload_n rfl (rk_o (lc247_0) rfl rfl)) ?_
                refine Ew_of (pc' := 257) (fun _ => x_bipush (z := 10) rfl (by decide)) ?_
                refine Ew_of (pc' := 258) (fun _ => x_iload_n rfl (rk_o (lc247_1) rfl rfl)) ?_
                refine w_inv H (o := 4) rfl rfl rfl (H.perm 4 rfl) rfl rfl (by rfl) (M335 H (u4_10) ((((((((hS_c247 4 10 rfl).trans (hS17 4 10 rfl)).trans (hS12 4 10 rfl)).trans (hS7 4 10 rfl)).trans (hS_c38 4 10 rfl)).trans (hS_c19 4 10 rfl)).trans (eu4_10))) (show inr (10) by omega) (show inr (a1) by omega) (fun z27 σ F23 A24 H hS25 hA26 y28 ey29 pz27_0 pz27_1 pz27_2 => ⟨rretB rfl pz27_0, ?_⟩))
                have r30 : (-2147483648 : Int) ≤ y28 ∧ y28 ≤ 2147483647 := by have h1 : (-2147483648 : Int) ≤ F23 4 10 ∧ F23 4 10 ≤ 2147483647 := H.frng 4 10; rw [show F23 4 10 = y28 from (ey29)] at h1; exact h1
                refine w_ifeq (t := 268) rfl rfl (show inr (z27) by omega) (fun b31 => ?_) (fun b31 => ?_)
                · refine Ew_of (pc' := 269) (fun _ => x_iconst rfl) ?_
                  exact w_ireturn rfl (k (0) σ _ _ H (SF_trans (SF_trans (SF_upd (SF_trans (SF_trans (SF_trans (SF_trans (SF_trans (SF_refl) hS_c19 (any_sub rfl)) hS_c38 (any_sub rfl)) hS7 (any_sub rfl)) hS12 (any_sub rfl)) hS17 (any_sub rfl)) rfl) hS_c247 (any_sub rfl)) hS25 (any_sub rfl)) (SA_trans (SA_trans (SA_trans (SA_trans (SA_trans (SA_trans (SA_trans (SA_refl) hA_c19 (any_subA rfl)) hA_c38 (any_subA rfl)) hA8 (any_subA rfl)) hA13 (any_subA rfl)) hA18 (any_subA rfl)) hA_c247 (any_subA rfl)) hA26 (any_subA rfl)) (((a1 + 4) + ((z9 + (256 * z14)) + (65536 * z19)))) (((hS25 4 9 rfl).trans (hS_c247 4 9 rfl))) (y28) ((ey29)) (show (0) = 0 ∨ (0) = 1 by omega) (show (((a1 + 4) + ((z9 + (256 * z14)) + (65536 * z19)))) ≤ (u1_1) by omega) (show (0) = 1 → (y28) = 0 ∧ a1 + 4 ≤ (((a1 + 4) + ((z9 + (256 * z14)) + (65536 * z19)))) ∧ (((a1 + 4) + ((z9 + (256 * z14)) + (65536 * z19)))) ≤ (u1_1) ∧ (a2 ≤ 1 → a1 + 8 ≤ (((a1 + 4) + ((z9 + (256 * z14)) + (65536 * z19))))) by omega) (show (0) = 0 → (y28) ≠ 0 by omega))
                · refine Ew_of (pc' := 265) (fun _ => x_iconst rfl) ?_
                  refine Ew_of (pc' := 269) (fun _ => x_goto rfl rfl) ?_
                  exact w_ireturn rfl (k (1) σ _ _ H (SF_trans (SF_trans (SF_upd (SF_trans (SF_trans (SF_trans (SF_trans (SF_trans (SF_refl) hS_c19 (any_sub rfl)) hS_c38 (any_sub rfl)) hS7 (any_sub rfl)) hS12 (any_sub rfl)) hS17 (any_sub rfl)) rfl) hS_c247 (any_sub rfl)) hS25 (any_sub rfl)) (SA_trans (SA_trans (SA_trans (SA_trans (SA_trans (SA_trans (SA_trans (SA_refl) hA_c19 (any_subA rfl)) hA_c38 (any_subA rfl)) hA8 (any_subA rfl)) hA13 (any_subA rfl)) hA18 (any_subA rfl)) hA_c247 (any_subA rfl)) hA26 (any_subA rfl)) (((a1 + 4) + ((z9 + (256 * z14)) + (65536 * z19)))) (((hS25 4 9 rfl).trans (hS_c247 4 9 rfl))) (y28) ((ey29)) (show (1) = 0 ∨ (1) = 1 by omega) (show (((a1 + 4) + ((z9 + (256 * z14)) + (65536 * z19)))) ≤ (u1_1) by omega) (show (1) = 1 → (y28) = 0 ∧ a1 + 4 ≤ (((a1 + 4) + ((z9 + (256 * z14)) + (65536 * z19)))) ∧ (((a1 + 4) + ((z9 + (256 * z14)) + (65536 * z19)))) ≤ (u1_1) ∧ (a2 ≤ 1 → a1 + 8 ≤ (((a1 + 4) + ((z9 + (256 * z14)) + (65536 * z19))))) by omega) (show (1) = 0 → (y28) ≠ 0 by omega))
            have hc231 : ∀ (ls : rO) (σ : rS) (F_c231 : hF) (A_c231 : hA) , rlook ls 0 = some (.ref (D 4)) → rlook ls 1 = some (I (a1)) → rlook ls 2 = some (I (a2)) → rlook ls 3 = some (I (((z9 + (256 * z14)) + (65536 * z19)))) → HS σ0 σ D N F_c231 A_c231 → SF [] (updF F15 4 9 (((a1 + 4) + ((z9 + (256 * z14)) + (65536 * z19))))) F_c231 → SA [] A16 A_c231 → (((a2) > (1)) ∨ ((a2) ≤ (1) ∧ (((z9 + (256 * z14)) + (65536 * z19))) ≥ (4))) → Ew 350 (d + 1) 231 ls [] σ c s Q := by
             as_aux_lemma =>
              intro  ls σ F_c231 A_c231  lc231_0 lc231_1 lc231_2 lc231_3 H hS_c231 hA_c231   jc231_0
              refine Ew_of (pc' := 232) (fun _ => x_iload_n rfl lc231_2) ?_
              refine Ew_of (pc' := 233) (fun _ => x_iconst rfl) ?_
              refine w_icmpne (t := 246) rfl rfl (show inr (a2) by omega) (show inr (1) by omega) (fun b32 => ?_) (fun b32 => ?_)
              · refine Ew_of (pc' := 247) (fun _ => x_iconst rfl) ?_
                exact hc247 (0) _ σ _ _  (lc231_0) (lc231_1) H (SF_trans (SF_refl) hS_c231 (any_sub rfl)) (SA_trans (SA_refl) hA_c231 (any_subA rfl))   (show inr (0) by omega) (show ((a2) > (1) ∧ (a2) ≠ (1) ∧ (0) = (0)) ∨ ((a2) > (1) ∧ (a2) = (1) ∧ (((z9 + (256 * z14)) + (65536 * z19))) ≤ (65540) ∧ (0) = (0)) ∨ ((a2) > (1) ∧ (a2) = (1) ∧ (((z9 + (256 * z14)) + (65536 * z19))) > (65540) ∧ (0) = (1)) ∨ ((a2) ≤ (1) ∧ (((z9 + (256 * z14)) + (65536 * z19))) < (4) ∧ (0) = (1)) ∨ ((a2) ≤ (1) ∧ (((z9 + (256 * z14)) + (65536 * z19))) ≥ (4) ∧ (a2) ≠ (1) ∧ (0) = (0)) ∨ ((a2) ≤ (1) ∧ (((z9 + (256 * z14)) + (65536 * z19))) ≥ (4) ∧ (a2) = (1) ∧ (((z9 + (256 * z14)) + (65536 * z19))) ≤ (65540) ∧ (0) = (0)) ∨ ((a2) ≤ (1) ∧ (((z9 + (256 * z14)) + (65536 * z19))) ≥ (4) ∧ (a2) = (1) ∧ (((z9 + (256 * z14)) + (65536 * z19))) > (65540) ∧ (0) = (1)) by omega)
              · refine Ew_of (pc' := 237) (fun _ => x_iload_n rfl lc231_3) ?_
                refine Ew_of (pc' := 239) (fun _ => x_ldc (z := 65540) rfl (by decide)) ?_
                refine w_icmple (t := 246) rfl rfl (show inr (((z9 + (256 * z14)) + (65536 * z19))) by omega) (show inr (65540) by omega) (fun b33 => ?_) (fun b33 => ?_)
                · refine Ew_of (pc' := 247) (fun _ => x_iconst rfl) ?_
                  exact hc247 (0) _ σ _ _  (lc231_0) (lc231_1) H (SF_trans (SF_refl) hS_c231 (any_sub rfl)) (SA_trans (SA_refl) hA_c231 (any_subA rfl))   (show inr (0) by omega) (show ((a2) > (1) ∧ (a2) ≠ (1) ∧ (0) = (0)) ∨ ((a2) > (1) ∧ (a2) = (1) ∧ (((z9 + (256 * z14)) + (65536 * z19))) ≤ (65540) ∧ (0) = (0)) ∨ ((a2) > (1) ∧ (a2) = (1) ∧ (((z9 + (256 * z14)) + (65536 * z19))) > (65540) ∧ (0) = (1)) ∨ ((a2) ≤ (1) ∧ (((z9 + (256 * z14)) + (65536 * z19))) < (4) ∧ (0) = (1)) ∨ ((a2) ≤ (1) ∧ (((z9 + (256 * z14)) + (65536 * z19))) ≥ (4) ∧ (a2) ≠ (1) ∧ (0) = (0)) ∨ ((a2) ≤ (1) ∧ (((z9 + (256 * z14)) + (65536 * z19))) ≥ (4) ∧ (a2) = (1) ∧ (((z9 + (256 * z14)) + (65536 * z19))) ≤ (65540) ∧ (0) = (0)) ∨ ((a2) ≤ (1) ∧ (((z9 + (256 * z14)) + (65536 * z19))) ≥ (4) ∧ (a2) = (1) ∧ (((z9 + (256 * z14)) + (65536 * z19))) > (65540) ∧ (0) = (1)) by omega)
                · refine Ew_of (pc' := 243) (fun _ => x_iconst rfl) ?_
                  refine Ew_of (pc' := 247) (fun _ => x_goto rfl rfl) ?_
                  exact hc247 (1) _ σ _ _  (lc231_0) (lc231_1) H (SF_trans (SF_refl) hS_c231 (any_sub rfl)) (SA_trans (SA_refl) hA_c231 (any_subA rfl))   (show inr (1) by omega) (show ((a2) > (1) ∧ (a2) ≠ (1) ∧ (1) = (0)) ∨ ((a2) > (1) ∧ (a2) = (1) ∧ (((z9 + (256 * z14)) + (65536 * z19))) ≤ (65540) ∧ (1) = (0)) ∨ ((a2) > (1) ∧ (a2) = (1) ∧ (((z9 + (256 * z14)) + (65536 * z19))) > (65540) ∧ (1) = (1)) ∨ ((a2) ≤ (1) ∧ (((z9 + (256 * z14)) + (65536 * z19))) < (4) ∧ (1) = (1)) ∨ ((a2) ≤ (1) ∧ (((z9 + (256 * z14)) + (65536 * z19))) ≥ (4) ∧ (a2) ≠ (1) ∧ (1) = (0)) ∨ ((a2) ≤ (1) ∧ (((z9 + (256 * z14)) + (65536 * z19))) ≥ (4) ∧ (a2) = (1) ∧ (((z9 + (256 * z14)) + (65536 * z19))) ≤ (65540) ∧ (1) = (0)) ∨ ((a2) ≤ (1) ∧ (((z9 + (256 * z14)) + (65536 * z19))) ≥ (4) ∧ (a2) = (1) ∧ (((z9 + (256 * z14)) + (65536 * z19))) > (65540) ∧ (1) = (1)) by omega)
            refine w_icmpgt (t := 231) rfl rfl (show inr (a2) by omega) (show inr (1) by omega) (fun b34 => ?_) (fun b34 => ?_)
            · exact hc231  _ σ _ _  (rk_o (lc38_0) rfl rfl) (rk_o (lc38_1) rfl rfl) (rk_o (lc38_2) rfl rfl) (rk_s) H (SF_refl) (SA_refl)   (show ((a2) > (1)) ∨ ((a2) ≤ (1) ∧ (((z9 + (256 * z14)) + (65536 * z19))) ≥ (4)) by omega)
            · refine Ew_of (pc' := 227) (fun _ => x_iload_n rfl rk_s) ?_
              refine Ew_of (pc' := 228) (fun _ => x_iconst rfl) ?_
              refine w_icmplt (t := 242) rfl rfl (show inr (((z9 + (256 * z14)) + (65536 * z19))) by omega) (show inr (4) by omega) (fun b35 => ?_) (fun b35 => ?_)
              · refine Ew_of (pc' := 243) (fun _ => x_iconst rfl) ?_
                refine Ew_of (pc' := 247) (fun _ => x_goto rfl rfl) ?_
                exact hc247 (1) _ σ _ _  (rk_o (lc38_0) rfl rfl) (rk_o (lc38_1) rfl rfl) H (SF_refl) (SA_refl)   (show inr (1) by omega) (show ((a2) > (1) ∧ (a2) ≠ (1) ∧ (1) = (0)) ∨ ((a2) > (1) ∧ (a2) = (1) ∧ (((z9 + (256 * z14)) + (65536 * z19))) ≤ (65540) ∧ (1) = (0)) ∨ ((a2) > (1) ∧ (a2) = (1) ∧ (((z9 + (256 * z14)) + (65536 * z19))) > (65540) ∧ (1) = (1)) ∨ ((a2) ≤ (1) ∧ (((z9 + (256 * z14)) + (65536 * z19))) < (4) ∧ (1) = (1)) ∨ ((a2) ≤ (1) ∧ (((z9 + (256 * z14)) + (65536 * z19))) ≥ (4) ∧ (a2) ≠ (1) ∧ (1) = (0)) ∨ ((a2) ≤ (1) ∧ (((z9 + (256 * z14)) + (65536 * z19))) ≥ (4) ∧ (a2) = (1) ∧ (((z9 + (256 * z14)) + (65536 * z19))) ≤ (65540) ∧ (1) = (0)) ∨ ((a2) ≤ (1) ∧ (((z9 + (256 * z14)) + (65536 * z19))) ≥ (4) ∧ (a2) = (1) ∧ (((z9 + (256 * z14)) + (65536 * z19))) > (65540) ∧ (1) = (1)) by omega)
              · exact hc231  _ σ _ _  (rk_o (lc38_0) rfl rfl) (rk_o (lc38_1) rfl rfl) (rk_o (lc38_2) rfl rfl) (rk_s) H (SF_refl) (SA_refl)   (show ((a2) > (1)) ∨ ((a2) ≤ (1) ∧ (((z9 + (256 * z14)) + (65536 * z19))) ≥ (4)) by omega)
          · refine Ew_of (pc' := 142) (fun _ => x_iload_n rfl rk_s) ?_
            refine Ew_of (pc' := 144) (fun _ => x_bipush (z := 6) rfl (by decide)) ?_
            have hc152 : ∀ (tc152_0 : Int), ∀ (ls : rO) (σ : rS) (F_c152 : hF) (A_c152 : hA) , rlook ls 0 = some (.ref (D 4)) → rlook ls 1 = some (I (a1)) → HS σ0 σ D N F_c152 A_c152 → SF [] (updF F15 4 9 (((a1 + 4) + ((z9 + (256 * z14)) + (65536 * z19))))) F_c152 → SA [] A16 A_c152 → (inr (tc152_0)) → (((((z9 + (256 * z14)) + (65536 * z19))) ≠ (6) ∧ (tc152_0) = (0)) ∨ ((((z9 + (256 * z14)) + (65536 * z19))) = (6) ∧ (tc152_0) = (1))) → Ew 350 (d + 1) 152 ls [I (tc152_0)] σ c s Q := by
             as_aux_lemma =>
              intro tc152_0 ls σ F_c152 A_c152  lc152_0 lc152_1 H hS_c152 hA_c152   jc152_0 jc152_1
              refine Ew_of (pc' := 154) (fun _ => x_istore rfl) ?_
              refine Ew_of (pc' := 155) (fun _ => x_iconst rfl) ?_
              refine Ew_of (pc' := 157) (fun _ => x_istore rfl) ?_
              suffices hl157 : ∀ (m : Nat), ∀ (ls : rO) (σ : rS) (F_157 : hF) (A_157 : hA) (x157_4 : Int) (x157_5 : Int), rlook ls 0 = some (.ref (D 4)) → rlook ls 1 = some (I (a1)) → rlook ls 4 = some (I (x157_4)) → rlook ls 5 = some (I (x157_5)) → HS σ0 σ D N F_157 A_157 → SF [] F_c152 F_157 → SA [] A_c152 A_157 → (inr (x157_4)) → (inr (x157_5)) → (0 ≤ (x157_5) ∧ (x157_5) ≤ 6) → ((x157_4) = 0 ∨ (x157_4) = 1) → ((x157_4) = 0 ∨ (((a1 + 4) + ((z9 + (256 * z14)) + (65536 * z19)))) = (a1) + 10) → (6 - (x157_5)).toNat = m → Ew 350 (d + 1) 157 ls [] σ c s Q from
                hl157 _ _ σ _ _ (tc152_0) (0) (rk_o (rk_o (lc152_0) rfl rfl) rfl rfl) (rk_o (rk_o (lc152_1) rfl rfl) rfl rfl) (rk_o (rk_s) rfl rfl) (rk_s) H (SF_refl) (SA_refl)   (show inr (tc152_0) by omega) (show inr (0) by omega) (show 0 ≤ (0) ∧ (0) ≤ 6 by omega) (show (tc152_0) = 0 ∨ (tc152_0) = 1 by omega) (show (tc152_0) = 0 ∨ (((a1 + 4) + ((z9 + (256 * z14)) + (65536 * z19)))) = (a1) + 10 by omega) rfl
              as_aux_lemma =>
              intro m
              induction m using Nat.strongRecOn with
              | _ m ih157 =>
                intro ls σ F_157 A_157 x157_4 x157_5 l157_0 l157_1 l157_4 l157_5 H hS_157 hA_157   j157_0 j157_1 j157_2 j157_3 j157_4 hm157
                refine Ew_of (pc' := 159) (fun _ => x_iload rfl l157_5) ?_
                refine Ew_of (pc' := 161) (fun _ => x_bipush (z := 6) rfl (by decide)) ?_
                have hc200 : ∀ (ls : rO) (σ : rS) (F_c200 : hF) (A_c200 : hA) , rlook ls 0 = some (.ref (D 4)) → rlook ls 1 = some (I (a1)) → rlook ls 4 = some (I (x157_4)) → HS σ0 σ D N F_c200 A_c200 → SF [] F_157 F_c200 → SA [] A_157 A_c200 → (((x157_5) ≥ (6)) ∨ ((x157_5) < (6) ∧ (x157_4) = (0))) → Ew 350 (d + 1) 200 ls [] σ c s Q := by
                 as_aux_lemma =>
                  intro  ls σ F_c200 A_c200  lc200_0 lc200_1 lc200_4 H hS_c200 hA_c200   jc200_0
                  refine Ew_of (pc' := 202) (fun _ => x_iload rfl lc200_4) ?_
                  refine w_ifne (t := 215) rfl rfl (show inr (x157_4) by omega) (fun b36 => ?_) (fun b36 => ?_)
                  · refine Ew_of (pc' := 216) (fun _ => x_iconst rfl) ?_
                    refine Ew_of (pc' := 220) (fun _ => x_goto rfl rfl) ?_
                    exact w_ireturn rfl (k (1) σ _ _ H (SF_trans (SF_trans (SF_trans (SF_upd (SF_trans (SF_trans (SF_trans (SF_trans (SF_trans (SF_refl) hS_c19 (any_sub rfl)) hS_c38 (any_sub rfl)) hS7 (any_sub rfl)) hS12 (any_sub rfl)) hS17 (any_sub rfl)) rfl) hS_c152 (any_sub rfl)) hS_157 (any_sub rfl)) hS_c200 (any_sub rfl)) (SA_trans (SA_trans (SA_trans (SA_trans (SA_trans (SA_trans (SA_trans (SA_trans (SA_refl) hA_c19 (any_subA rfl)) hA_c38 (any_subA rfl)) hA8 (any_subA rfl)) hA13 (any_subA rfl)) hA18 (any_subA rfl)) hA_c152 (any_subA rfl)) hA_157 (any_subA rfl)) hA_c200 (any_subA rfl)) (((a1 + 4) + ((z9 + (256 * z14)) + (65536 * z19)))) ((((hS_c200 4 9 rfl).trans (hS_157 4 9 rfl)).trans (hS_c152 4 9 rfl))) (u4_10) ((((((((((hS_c200 4 10 rfl).trans (hS_157 4 10 rfl)).trans (hS_c152 4 10 rfl)).trans (hS17 4 10 rfl)).trans (hS12 4 10 rfl)).trans (hS7 4 10 rfl)).trans (hS_c38 4 10 rfl)).trans (hS_c19 4 10 rfl)).trans (eu4_10))) (show (1) = 0 ∨ (1) = 1 by omega) (show (((a1 + 4) + ((z9 + (256 * z14)) + (65536 * z19)))) ≤ (u1_1) by omega) (show (1) = 1 → (u4_10) = 0 ∧ a1 + 4 ≤ (((a1 + 4) + ((z9 + (256 * z14)) + (65536 * z19)))) ∧ (((a1 + 4) + ((z9 + (256 * z14)) + (65536 * z19)))) ≤ (u1_1) ∧ (a2 ≤ 1 → a1 + 8 ≤ (((a1 + 4) + ((z9 + (256 * z14)) + (65536 * z19))))) by omega) (show (1) = 0 → (u4_10) ≠ 0 by omega))
                  · refine Ew_of (pc' := 206) (fun _ => x_aload_n rfl lc200_0) ?_
                    refine Ew_of (pc' := 208) (fun _ => x_bipush (z := 8) rfl (by decide)) ?_
                    refine Ew_of (pc' := 209) (fun _ => x_iload_n rfl lc200_1) ?_
                    refine w_inv H (o := 4) rfl rfl rfl (H.perm 4 rfl) rfl rfl (by rfl) (M335 H (u4_10) ((((((((((hS_c200 4 10 rfl).trans (hS_157 4 10 rfl)).trans (hS_c152 4 10 rfl)).trans (hS17 4 10 rfl)).trans (hS12 4 10 rfl)).trans (hS7 4 10 rfl)).trans (hS_c38 4 10 rfl)).trans (hS_c19 4 10 rfl)).trans (eu4_10))) (show inr (8) by omega) (show inr (a1) by omega) (fun z41 σ F37 A38 H hS39 hA40 y42 ey43 pz41_0 pz41_1 pz41_2 => ⟨rretB rfl pz41_0, ?_⟩))
                    have r44 : (-2147483648 : Int) ≤ y42 ∧ y42 ≤ 2147483647 := by have h1 : (-2147483648 : Int) ≤ F37 4 10 ∧ F37 4 10 ≤ 2147483647 := H.frng 4 10; rw [show F37 4 10 = y42 from (ey43)] at h1; exact h1
                    refine w_ifeq (t := 219) rfl rfl (show inr (z41) by omega) (fun b45 => ?_) (fun b45 => ?_)
                    · refine Ew_of (pc' := 220) (fun _ => x_iconst rfl) ?_
                      exact w_ireturn rfl (k (0) σ _ _ H (SF_trans (SF_trans (SF_trans (SF_trans (SF_upd (SF_trans (SF_trans (SF_trans (SF_trans (SF_trans (SF_refl) hS_c19 (any_sub rfl)) hS_c38 (any_sub rfl)) hS7 (any_sub rfl)) hS12 (any_sub rfl)) hS17 (any_sub rfl)) rfl) hS_c152 (any_sub rfl)) hS_157 (any_sub rfl)) hS_c200 (any_sub rfl)) hS39 (any_sub rfl)) (SA_trans (SA_trans (SA_trans (SA_trans (SA_trans (SA_trans (SA_trans (SA_trans (SA_trans (SA_refl) hA_c19 (any_subA rfl)) hA_c38 (any_subA rfl)) hA8 (any_subA rfl)) hA13 (any_subA rfl)) hA18 (any_subA rfl)) hA_c152 (any_subA rfl)) hA_157 (any_subA rfl)) hA_c200 (any_subA rfl)) hA40 (any_subA rfl)) (((a1 + 4) + ((z9 + (256 * z14)) + (65536 * z19)))) (((((hS39 4 9 rfl).trans (hS_c200 4 9 rfl)).trans (hS_157 4 9 rfl)).trans (hS_c152 4 9 rfl))) (y42) ((ey43)) (show (0) = 0 ∨ (0) = 1 by omega) (show (((a1 + 4) + ((z9 + (256 * z14)) + (65536 * z19)))) ≤ (u1_1) by omega) (show (0) = 1 → (y42) = 0 ∧ a1 + 4 ≤ (((a1 + 4) + ((z9 + (256 * z14)) + (65536 * z19)))) ∧ (((a1 + 4) + ((z9 + (256 * z14)) + (65536 * z19)))) ≤ (u1_1) ∧ (a2 ≤ 1 → a1 + 8 ≤ (((a1 + 4) + ((z9 + (256 * z14)) + (65536 * z19))))) by omega) (show (0) = 0 → (y42) ≠ 0 by omega))
                    · refine Ew_of (pc' := 216) (fun _ => x_iconst rfl) ?_
                      refine Ew_of (pc' := 220) (fun _ => x_goto rfl rfl) ?_
                      exact w_ireturn rfl (k (1) σ _ _ H (SF_trans (SF_trans (SF_trans (SF_trans (SF_upd (SF_trans (SF_trans (SF_trans (SF_trans (SF_trans (SF_refl) hS_c19 (any_sub rfl)) hS_c38 (any_sub rfl)) hS7 (any_sub rfl)) hS12 (any_sub rfl)) hS17 (any_sub rfl)) rfl) hS_c152 (any_sub rfl)) hS_157 (any_sub rfl)) hS_c200 (any_sub rfl)) hS39 (any_sub rfl)) (SA_trans (SA_trans (SA_trans (SA_trans (SA_trans (SA_trans (SA_trans (SA_trans (SA_trans (SA_refl) hA_c19 (any_subA rfl)) hA_c38 (any_subA rfl)) hA8 (any_subA rfl)) hA13 (any_subA rfl)) hA18 (any_subA rfl)) hA_c152 (any_subA rfl)) hA_157 (any_subA rfl)) hA_c200 (any_subA rfl)) hA40 (any_subA rfl)) (((a1 + 4) + ((z9 + (256 * z14)) + (65536 * z19)))) (((((hS39 4 9 rfl).trans (hS_c200 4 9 rfl)).trans (hS_157 4 9 rfl)).trans (hS_c152 4 9 rfl))) (y42) ((ey43)) (show (1) = 0 ∨ (1) = 1 by omega) (show (((a1 + 4) + ((z9 + (256 * z14)) + (65536 * z19)))) ≤ (u1_1) by omega) (show (1) = 1 → (y42) = 0 ∧ a1 + 4 ≤ (((a1 + 4) + ((z9 + (256 * z14)) + (65536 * z19)))) ∧ (((a1 + 4) + ((z9 + (256 * z14)) + (65536 * z19)))) ≤ (u1_1) ∧ (a2 ≤ 1 → a1 + 8 ≤ (((a1 + 4) + ((z9 + (256 * z14)) + (65536 * z19))))) by omega) (show (1) = 0 → (y42) ≠ 0 by omega))
                refine w_icmpge (t := 200) rfl rfl (show inr (x157_5) by omega) (show inr (6) by omega) (fun b46 => ?_) (fun b46 => ?_)
                · exact hc200  _ σ _ _  (l157_0) (l157_1) (l157_4) H (SF_refl) (SA_refl)   (show ((x157_5) ≥ (6)) ∨ ((x157_5) < (6) ∧ (x157_4) = (0)) by omega)
                · refine Ew_of (pc' := 166) (fun _ => x_iload rfl l157_4) ?_
                  refine w_ifeq (t := 200) rfl rfl (show inr (x157_4) by omega) (fun b47 => ?_) (fun b47 => ?_)
                  · exact hc200  _ σ _ _  (l157_0) (l157_1) (l157_4) H (SF_refl) (SA_refl)   (show ((x157_5) ≥ (6)) ∨ ((x157_5) < (6) ∧ (x157_4) = (0)) by omega)
                  · refine Ew_of (pc' := 170) (fun _ => x_aload_n rfl l157_0) ?_
                    refine Ew_of (pc' := 171) (fun _ => x_iload_n rfl l157_1) ?_
                    refine Ew_of (pc' := 172) (fun _ => x_iconst rfl) ?_
                    refine w_iadd rfl ?_
                    refine Ew_of (pc' := 175) (fun _ => x_iload rfl l157_5) ?_
                    refine w_iadd rfl ?_
                    refine w_inv H (o := 4) rfl rfl rfl (H.perm 4 rfl) rfl rfl (by rfl) (M349 H (show inr (((a1 + 4) + x157_5)) by omega) (show 0 ≤ (((a1 + 4) + x157_5)) ∧ (((a1 + 4) + x157_5)) < 65536 by omega) (fun z52 σ F48 A49 H hS50 hA51 pz52_0 pz52_1 => ⟨rfl, ?_⟩))
                    refine Ew_of (pc' := 181) (fun _ => x_iload rfl l157_5) ?_
                    refine w_stat24 rfl rfl (by rfl) (M346 H (show inr (x157_5) by omega) (fun z57 σ F53 A54 H hS55 hA56 pz57_0 pz57_1 => ⟨rfl, ?_⟩))
                    refine w_icmpne (t := 191) rfl rfl (show inr (z52) by omega) (show inr (z57) by omega) (fun b58 => ?_) (fun b58 => ?_)
                    · refine Ew_of (pc' := 192) (fun _ => x_iconst rfl) ?_
                      refine Ew_of (pc' := 194) (fun _ => x_istore rfl) ?_
                      refine Ew_of (pc' := 197) (fun _ => x_iinc (len := 3) rfl (rk_o (l157_5) rfl rfl)) ?_
                      refine Ew_of (pc' := 157) (fun _ => x_goto rfl rfl) ?_
                      exact ih157 _ (by omega) _ σ _ _ (0) ((x157_5 + 1)) (rk_o (rk_o (l157_0) rfl rfl) rfl rfl) (rk_o (rk_o (l157_1) rfl rfl) rfl rfl) (rk_o (rk_s) rfl rfl) (rk_s) H (SF_trans (SF_trans (hS_157) hS50 (any_sub rfl)) hS55 (any_sub rfl)) (SA_trans (SA_trans (hA_157) hA51 (any_subA rfl)) hA56 (any_subA rfl))   (show inr (0) by omega) (show inr ((x157_5 + 1)) by omega) (show 0 ≤ ((x157_5 + 1)) ∧ ((x157_5 + 1)) ≤ 6 by omega) (show (0) = 0 ∨ (0) = 1 by omega) (show (0) = 0 ∨ (((a1 + 4) + ((z9 + (256 * z14)) + (65536 * z19)))) = (a1) + 10 by omega) rfl
                    · refine Ew_of (pc' := 188) (fun _ => x_iconst rfl) ?_
                      refine Ew_of (pc' := 192) (fun _ => x_goto rfl rfl) ?_
                      refine Ew_of (pc' := 194) (fun _ => x_istore rfl) ?_
                      refine Ew_of (pc' := 197) (fun _ => x_iinc (len := 3) rfl (rk_o (l157_5) rfl rfl)) ?_
                      refine Ew_of (pc' := 157) (fun _ => x_goto rfl rfl) ?_
                      exact ih157 _ (by omega) _ σ _ _ (1) ((x157_5 + 1)) (rk_o (rk_o (l157_0) rfl rfl) rfl rfl) (rk_o (rk_o (l157_1) rfl rfl) rfl rfl) (rk_o (rk_s) rfl rfl) (rk_s) H (SF_trans (SF_trans (hS_157) hS50 (any_sub rfl)) hS55 (any_sub rfl)) (SA_trans (SA_trans (hA_157) hA51 (any_subA rfl)) hA56 (any_subA rfl))   (show inr (1) by omega) (show inr ((x157_5 + 1)) by omega) (show 0 ≤ ((x157_5 + 1)) ∧ ((x157_5 + 1)) ≤ 6 by omega) (show (1) = 0 ∨ (1) = 1 by omega) (show (1) = 0 ∨ (((a1 + 4) + ((z9 + (256 * z14)) + (65536 * z19)))) = (a1) + 10 by omega) rfl
            refine w_icmpne (t := 151) rfl rfl (show inr (((z9 + (256 * z14)) + (65536 * z19))) by omega) (show inr (6) by omega) (fun b59 => ?_) (fun b59 => ?_)
            · refine Ew_of (pc' := 152) (fun _ => x_iconst rfl) ?_
              exact hc152 (0) _ σ _ _  (rk_o (lc38_0) rfl rfl) (rk_o (lc38_1) rfl rfl) H (SF_refl) (SA_refl)   (show inr (0) by omega) (show ((((z9 + (256 * z14)) + (65536 * z19))) ≠ (6) ∧ (0) = (0)) ∨ ((((z9 + (256 * z14)) + (65536 * z19))) = (6) ∧ (0) = (1)) by omega)
            · refine Ew_of (pc' := 148) (fun _ => x_iconst rfl) ?_
              refine Ew_of (pc' := 152) (fun _ => x_goto rfl rfl) ?_
              exact hc152 (1) _ σ _ _  (rk_o (lc38_0) rfl rfl) (rk_o (lc38_1) rfl rfl) H (SF_refl) (SA_refl)   (show inr (1) by omega) (show ((((z9 + (256 * z14)) + (65536 * z19))) ≠ (6) ∧ (1) = (0)) ∨ ((((z9 + (256 * z14)) + (65536 * z19))) = (6) ∧ (1) = (1)) by omega)
        · refine Ew_of (pc' := 112) (fun _ => x_aload_n rfl (rk_o (lc38_0) rfl rfl)) ?_
          refine Ew_of (pc' := 114) (fun _ => x_bipush (z := 7) rfl (by decide)) ?_
          refine Ew_of (pc' := 115) (fun _ => x_aload_n rfl (rk_o (lc38_0) rfl rfl)) ?_
          refine w_gT H (o := 4) (t := 1) rfl (H.perm 4 rfl) rfl rfl rfl rfl rfl rfl ?_
          refine w_gI H (o := 1) (w := u1_1) rfl (H.perm 1 rfl) rfl rfl rfl (fun _ => rfl) ((((((hS17 1 1 rfl).trans (hS12 1 1 rfl)).trans (hS7 1 1 rfl)).trans (hS_c38 1 1 rfl)).trans (hS_c19 1 1 rfl)).trans (eu1_1)) ?_
          refine w_inv H (o := 4) rfl rfl rfl (H.perm 4 rfl) rfl rfl (by rfl) (M335 H (u4_10) (((((((hS17 4 10 rfl).trans (hS12 4 10 rfl)).trans (hS7 4 10 rfl)).trans (hS_c38 4 10 rfl)).trans (hS_c19 4 10 rfl)).trans (eu4_10))) (show inr (7) by omega) (show inr (u1_1) by omega) (fun z64 σ F60 A61 H hS62 hA63 y65 ey66 pz64_0 pz64_1 pz64_2 => ⟨rretB rfl pz64_0, ?_⟩))
          have r67 : (-2147483648 : Int) ≤ y65 ∧ y65 ≤ 2147483647 := by have h1 : (-2147483648 : Int) ≤ F60 4 10 ∧ F60 4 10 ≤ 2147483647 := H.frng 4 10; rw [show F60 4 10 = y65 from (ey66)] at h1; exact h1
          exact w_ireturn rfl (k (z64) σ _ _ H (SF_trans (SF_trans (SF_trans (SF_trans (SF_trans (SF_trans (SF_refl) hS_c19 (any_sub rfl)) hS_c38 (any_sub rfl)) hS7 (any_sub rfl)) hS12 (any_sub rfl)) hS17 (any_sub rfl)) hS62 (any_sub rfl)) (SA_trans (SA_trans (SA_trans (SA_trans (SA_trans (SA_trans (SA_refl) hA_c19 (any_subA rfl)) hA_c38 (any_subA rfl)) hA8 (any_subA rfl)) hA13 (any_subA rfl)) hA18 (any_subA rfl)) hA63 (any_subA rfl)) (u4_9) ((((((((hS62 4 9 rfl).trans (hS17 4 9 rfl)).trans (hS12 4 9 rfl)).trans (hS7 4 9 rfl)).trans (hS_c38 4 9 rfl)).trans (hS_c19 4 9 rfl)).trans (eu4_9))) (y65) ((ey66)) (show (z64) = 0 ∨ (z64) = 1 by omega) (show (u4_9) ≤ (u1_1) by omega) (show (z64) = 1 → (y65) = 0 ∧ a1 + 4 ≤ (u4_9) ∧ (u4_9) ≤ (u1_1) ∧ (a2 ≤ 1 → a1 + 8 ≤ (u4_9)) by omega) (show (z64) = 0 → (y65) ≠ 0 by omega))
      · refine Ew_of (pc' := 52) (fun _ => x_aload_n rfl lc38_0) ?_
        refine Ew_of (pc' := 54) (fun _ => x_bipush (z := 7) rfl (by decide)) ?_
        refine Ew_of (pc' := 55) (fun _ => x_aload_n rfl lc38_0) ?_
        refine w_gT H (o := 4) (t := 1) rfl (H.perm 4 rfl) rfl rfl rfl rfl rfl rfl ?_
        refine w_gI H (o := 1) (w := u1_1) rfl (H.perm 1 rfl) rfl rfl rfl (fun _ => rfl) (((hS_c38 1 1 rfl).trans (hS_c19 1 1 rfl)).trans (eu1_1)) ?_
        refine w_inv H (o := 4) rfl rfl rfl (H.perm 4 rfl) rfl rfl (by rfl) (M335 H (u4_10) ((((hS_c38 4 10 rfl).trans (hS_c19 4 10 rfl)).trans (eu4_10))) (show inr (7) by omega) (show inr (u1_1) by omega) (fun z72 σ F68 A69 H hS70 hA71 y73 ey74 pz72_0 pz72_1 pz72_2 => ⟨rretB rfl pz72_0, ?_⟩))
        have r75 : (-2147483648 : Int) ≤ y73 ∧ y73 ≤ 2147483647 := by have h1 : (-2147483648 : Int) ≤ F68 4 10 ∧ F68 4 10 ≤ 2147483647 := H.frng 4 10; rw [show F68 4 10 = y73 from (ey74)] at h1; exact h1
        exact w_ireturn rfl (k (z72) σ _ _ H (SF_trans (SF_trans (SF_trans (SF_refl) hS_c19 (any_sub rfl)) hS_c38 (any_sub rfl)) hS70 (any_sub rfl)) (SA_trans (SA_trans (SA_trans (SA_refl) hA_c19 (any_subA rfl)) hA_c38 (any_subA rfl)) hA71 (any_subA rfl)) (u4_9) (((((hS70 4 9 rfl).trans (hS_c38 4 9 rfl)).trans (hS_c19 4 9 rfl)).trans (eu4_9))) (y73) ((ey74)) (show (z72) = 0 ∨ (z72) = 1 by omega) (show (u4_9) ≤ (u1_1) by omega) (show (z72) = 1 → (y73) = 0 ∧ a1 + 4 ≤ (u4_9) ∧ (u4_9) ≤ (u1_1) ∧ (a2 ≤ 1 → a1 + 8 ≤ (u4_9)) by omega) (show (z72) = 0 → (y73) ≠ 0 by omega))
    refine w_icmplt (t := 38) rfl rfl (show inr (a2) by omega) (show inr (2) by omega) (fun b76 => ?_) (fun b76 => ?_)
    · exact hc38  _ σ _ _  (lc19_0) (lc19_1) (lc19_2) H (SF_refl) (SA_refl)   (show ((a2) < (2)) ∨ ((a2) ≥ (2) ∧ (a2) > (127)) by omega)
    · refine Ew_of (pc' := 25) (fun _ => x_iload_n rfl lc19_2) ?_
      refine Ew_of (pc' := 27) (fun _ => x_bipush (z := 127) rfl (by decide)) ?_
      refine w_icmpgt (t := 38) rfl rfl (show inr (a2) by omega) (show inr (127) by omega) (fun b77 => ?_) (fun b77 => ?_)
      · exact hc38  _ σ _ _  (lc19_0) (lc19_1) (lc19_2) H (SF_refl) (SA_refl)   (show ((a2) < (2)) ∨ ((a2) ≥ (2) ∧ (a2) > (127)) by omega)
      · refine Ew_of (pc' := 31) (fun _ => x_aload_n rfl lc19_0) ?_
        refine Ew_of (pc' := 33) (fun _ => x_bipush (z := 9) rfl (by decide)) ?_
        refine Ew_of (pc' := 34) (fun _ => x_iload_n rfl lc19_1) ?_
        refine w_inv H (o := 4) rfl rfl rfl (H.perm 4 rfl) rfl rfl (by rfl) (M335 H (u4_10) (((hS_c19 4 10 rfl).trans (eu4_10))) (show inr (9) by omega) (show inr (a1) by omega) (fun z82 σ F78 A79 H hS80 hA81 y83 ey84 pz82_0 pz82_1 pz82_2 => ⟨rretB rfl pz82_0, ?_⟩))
        have r85 : (-2147483648 : Int) ≤ y83 ∧ y83 ≤ 2147483647 := by have h1 : (-2147483648 : Int) ≤ F78 4 10 ∧ F78 4 10 ≤ 2147483647 := H.frng 4 10; rw [show F78 4 10 = y83 from (ey84)] at h1; exact h1
        exact w_ireturn rfl (k (z82) σ _ _ H (SF_trans (SF_trans (SF_refl) hS_c19 (any_sub rfl)) hS80 (any_sub rfl)) (SA_trans (SA_trans (SA_refl) hA_c19 (any_subA rfl)) hA81 (any_subA rfl)) (u4_9) ((((hS80 4 9 rfl).trans (hS_c19 4 9 rfl)).trans (eu4_9))) (y83) ((ey84)) (show (z82) = 0 ∨ (z82) = 1 by omega) (show (u4_9) ≤ (u1_1) by omega) (show (z82) = 1 → (y83) = 0 ∧ a1 + 4 ≤ (u4_9) ∧ (u4_9) ≤ (u1_1) ∧ (a2 ≤ 1 → a1 + 8 ≤ (u4_9)) by omega) (show (z82) = 0 → (y83) ≠ 0 by omega))
  refine w_ifne (t := 19) rfl rfl (show inr (a1) by omega) (fun b86 => ?_) (fun b86 => ?_)
  · exact hc19  _ σ _ _  (rfl) (rfl) (rfl) H (SF_refl) (SA_refl)   (show ((a1) ≠ (0)) ∨ ((a1) = (0) ∧ (a2) = (255)) by omega)
  · refine Ew_of (pc' := 5) (fun _ => x_iload_n rfl rfl) ?_
    refine Ew_of (pc' := 8) (fun _ => x_sipush (z := 255) rfl (by decide)) ?_
    refine w_icmpeq (t := 19) rfl rfl (show inr (a2) by omega) (show inr (255) by omega) (fun b87 => ?_) (fun b87 => ?_)
    · exact hc19  _ σ _ _  (rfl) (rfl) (rfl) H (SF_refl) (SA_refl)   (show ((a1) ≠ (0)) ∨ ((a1) = (0) ∧ (a2) = (255)) by omega)
    · refine Ew_of (pc' := 12) (fun _ => x_aload_n rfl rfl) ?_
      refine Ew_of (pc' := 14) (fun _ => x_bipush (z := 8) rfl (by decide)) ?_
      refine Ew_of (pc' := 15) (fun _ => x_iload_n rfl rfl) ?_
      refine w_inv H (o := 4) rfl rfl rfl (H.perm 4 rfl) rfl rfl (by rfl) (M335 H (u4_10) ((eu4_10)) (show inr (8) by omega) (show inr (a1) by omega) (fun z92 σ F88 A89 H hS90 hA91 y93 ey94 pz92_0 pz92_1 pz92_2 => ⟨rretB rfl pz92_0, ?_⟩))
      have r95 : (-2147483648 : Int) ≤ y93 ∧ y93 ≤ 2147483647 := by have h1 : (-2147483648 : Int) ≤ F88 4 10 ∧ F88 4 10 ≤ 2147483647 := H.frng 4 10; rw [show F88 4 10 = y93 from (ey94)] at h1; exact h1
      exact w_ireturn rfl (k (z92) σ _ _ H (SF_trans (SF_refl) hS90 (any_sub rfl)) (SA_trans (SA_refl) hA91 (any_subA rfl)) (u4_9) (((hS90 4 9 rfl).trans (eu4_9))) (y93) ((ey94)) (show (z92) = 0 ∨ (z92) = 1 by omega) (show (u4_9) ≤ (u1_1) by omega) (show (z92) = 1 → (y93) = 0 ∧ a1 + 4 ≤ (u4_9) ∧ (u4_9) ≤ (u1_1) ∧ (a2 ≤ 1 → a1 + 8 ≤ (u4_9)) by omega) (show (z92) = 0 → (y93) ≠ 0 by omega))
/-- Tags.takeChunk -/
theorem M351 {σ0 σ : rS} {D N : Nat → Nat} {F : hF} {A : hA} {d c s : Nat} {Q : wQ} (H : HS σ0 σ D N F A) {a1 a2 a3 : Int} (u1_1 : Int) (eu1_1 : F 1 1 = u1_1) (u4_2 : Int) (eu4_2 : F 4 2 = u4_2) (u4_9 : Int) (eu4_9 : F 4 9 = u4_9) (u4_10 : Int) (eu4_10 : F 4 10 = u4_10) (h0 : inr (a1)) (h1 : inr (a2)) (h2 : inr (a3)) (h3 : 0 ≤ (a1) ∧ (a1) < (u1_1) ∧ 0 ≤ (a2) ∧ (a2) ≤ 255) (h4 : (u4_10) = 0) (h5 : (a1) + 4 ≤ (u4_9) ∧ (u4_9) ≤ (u1_1) ∧ ((a2) ≤ 1 → (a1) + 8 ≤ (u4_9))) (h6 : 0 ≤ (u4_2) ∧ (u4_2) ≤ (a3) ∧ (a3) ≤ 65536) (k : ∀ σ F' A', HS σ0 σ D N F' A' → SF [(4, 2), (4, 8), (4, 10), (4, 11)] F F' → SA [23] A A' → ∀ y4_2 : Int, F' 4 2 = y4_2 → (0 ≤ (y4_2) ∧ (y4_2) ≤ (a3)) → Q none σ c s) : Ew 351 (d + 4) 0 (rargs 0 [.ref (D 4), I a1, I a2, I a3]) [] σ c s Q := by
  have r1 : (0 : Int) ≤ u1_1 ∧ u1_1 ≤ 65536 := by have h1 : (0 : Int) ≤ F 1 1 ∧ F 1 1 ≤ 65536 := H.frng 1 1; rw [show F 1 1 = u1_1 from (eu1_1)] at h1; exact h1
  have r2 : (-2147483648 : Int) ≤ u4_2 ∧ u4_2 ≤ 2147483647 := by have h1 : (-2147483648 : Int) ≤ F 4 2 ∧ F 4 2 ≤ 2147483647 := H.frng 4 2; rw [show F 4 2 = u4_2 from (eu4_2)] at h1; exact h1
  have r3 : (0 : Int) ≤ u4_9 ∧ u4_9 ≤ 65536 := by have h1 : (0 : Int) ≤ F 4 9 ∧ F 4 9 ≤ 65536 := H.frng 4 9; rw [show F 4 9 = u4_9 from (eu4_9)] at h1; exact h1
  have r4 : (-2147483648 : Int) ≤ u4_10 ∧ u4_10 ≤ 2147483647 := by have h1 : (-2147483648 : Int) ≤ F 4 10 ∧ F 4 10 ≤ 2147483647 := H.frng 4 10; rw [show F 4 10 = u4_10 from (eu4_10)] at h1; exact h1
  refine Ew_of (pc' := 1) (fun _ => x_iload_n rfl rfl) ?_
  refine Ew_of (pc' := 2) (fun _ => x_iconst rfl) ?_
  refine w_icmple (t := 6) rfl rfl (show inr (a2) by omega) (show inr (1) by omega) (fun b5 => ?_) (fun b5 => ?_)
  · refine Ew_of (pc' := 7) (fun _ => x_aload_n rfl rfl) ?_
    refine w_gI H (o := 4) (w := u4_2) rfl (H.perm 4 rfl) rfl rfl rfl (fun _ => rfl) (eu4_2) ?_
    refine Ew_of (pc' := 12) (fun _ => x_istore rfl) ?_
    refine Ew_of (pc' := 13) (fun _ => x_iload_n rfl (rk_o (rfl) rfl rfl)) ?_
    refine Ew_of (pc' := 15) (fun _ => x_iload rfl rk_s) ?_
    refine w_isub rfl ?_
    refine Ew_of (pc' := 18) (fun _ => x_istore rfl) ?_
    refine Ew_of (pc' := 19) (fun _ => x_aload_n rfl (rk_o (rk_o (rfl) rfl rfl) rfl rfl)) ?_
    refine Ew_of (pc' := 20) (fun _ => x_iload_n rfl (rk_o (rk_o (rfl) rfl rfl) rfl rfl)) ?_
    refine Ew_of (pc' := 22) (fun _ => x_bipush (z := 8) rfl (by decide)) ?_
    refine w_iadd rfl ?_
    refine w_pI H (o := 4) rfl rfl (H.perm 4 rfl) rfl rfl rfl (fun _ => rfl) rfl (show (0 : Int) ≤ (a1 + 8) ∧ (a1 + 8) ≤ 65536 by omega) (fun σ H => ?_)
    have hc130 : ∀ (ls : rO) (σ : rS) (F_c130 : hF) (A_c130 : hA) , rlook ls 0 = some (.ref (D 4)) → rlook ls 1 = some (I (a1)) → rlook ls 4 = some (I (u4_2)) → HS σ0 σ D N F_c130 A_c130 → SF [(4, 2), (4, 8), (4, 10), (4, 11)] (updF F 4 8 ((a1 + 8))) F_c130 → SA [23] A A_c130 → ∀ yc130_4_2 : Int, F_c130 4 2 = yc130_4_2 → ((u4_2) ≤ (yc130_4_2) ∧ (yc130_4_2) ≤ (a3)) → Ew 351 (d + 4) 130 ls [] σ c s Q := by
     as_aux_lemma =>
      intro  ls σ F_c130 A_c130  lc130_0 lc130_1 lc130_4 H hS_c130 hA_c130 yc130_4_2 eyc130_4_2  jc130_0
      have r6 : (-2147483648 : Int) ≤ yc130_4_2 ∧ yc130_4_2 ≤ 2147483647 := by have h1 : (-2147483648 : Int) ≤ F_c130 4 2 ∧ F_c130 4 2 ≤ 2147483647 := H.frng 4 2; rw [show F_c130 4 2 = yc130_4_2 from (eyc130_4_2)] at h1; exact h1
      refine Ew_of (pc' := 131) (fun _ => x_aload_n rfl lc130_0) ?_
      have r7 : (-2147483648 : Int) ≤ F_c130 4 10 ∧ F_c130 4 10 ≤ 2147483647 := by have h1 : (-2147483648 : Int) ≤ F_c130 4 10 ∧ F_c130 4 10 ≤ 2147483647 := H.frng 4 10; rw [show F_c130 4 10 = F_c130 4 10 from rfl] at h1; exact h1
      refine w_gI H (o := 4) (w := F_c130 4 10) rfl (H.perm 4 rfl) rfl rfl rfl (fun _ => rfl) rfl ?_
      refine w_ifeq (t := 138) rfl rfl (show inr (F_c130 4 10) by omega) (fun b8 => ?_) (fun b8 => ?_)
      · refine Ew_of (pc' := 139) (fun _ => x_aload_n rfl lc130_0) ?_
        refine Ew_of (pc' := 140) (fun _ => x_iload_n rfl lc130_1) ?_
        refine Ew_of (pc' := 141) (fun _ => x_iconst rfl) ?_
        refine w_iadd rfl ?_
        refine w_inv H (o := 4) rfl rfl rfl (H.perm 4 rfl) rfl rfl (by rfl) (M349 H (show inr ((a1 + 4)) by omega) (show 0 ≤ ((a1 + 4)) ∧ ((a1 + 4)) < 65536 by omega) (fun z13 σ F9 A10 H hS11 hA12 pz13_0 pz13_1 => ⟨rfl, ?_⟩))
        refine Ew_of (pc' := 146) (fun _ => x_aload_n rfl lc130_0) ?_
        refine Ew_of (pc' := 147) (fun _ => x_iload_n rfl lc130_1) ?_
        refine Ew_of (pc' := 148) (fun _ => x_iconst rfl) ?_
        refine w_iadd rfl ?_
        refine w_inv H (o := 4) rfl rfl rfl (H.perm 4 rfl) rfl rfl (by rfl) (M349 H (show inr ((a1 + 5)) by omega) (show 0 ≤ ((a1 + 5)) ∧ ((a1 + 5)) < 65536 by omega) (fun z18 σ F14 A15 H hS16 hA17 pz18_0 pz18_1 => ⟨rfl, ?_⟩))
        refine Ew_of (pc' := 154) (fun _ => x_bipush (z := 8) rfl (by decide)) ?_
        refine w_ishlA rfl (fun z19 gz19 => ?_)
        refine w_ior rfl (fun z20 gz20 => ?_)
        refine Ew_of (pc' := 157) (fun _ => x_aload_n rfl lc130_0) ?_
        refine Ew_of (pc' := 158) (fun _ => x_iload_n rfl lc130_1) ?_
        refine Ew_of (pc' := 160) (fun _ => x_bipush (z := 6) rfl (by decide)) ?_
        refine w_iadd rfl ?_
        refine w_inv H (o := 4) rfl rfl rfl (H.perm 4 rfl) rfl rfl (by rfl) (M349 H (show inr ((a1 + 6)) by omega) (show 0 ≤ ((a1 + 6)) ∧ ((a1 + 6)) < 65536 by omega) (fun z25 σ F21 A22 H hS23 hA24 pz25_0 pz25_1 => ⟨rfl, ?_⟩))
        refine Ew_of (pc' := 166) (fun _ => x_bipush (z := 16) rfl (by decide)) ?_
        refine w_ishlA rfl (fun z26 gz26 => ?_)
        refine w_ior rfl (fun z27 gz27 => ?_)
        refine Ew_of (pc' := 169) (fun _ => x_aload_n rfl lc130_0) ?_
        refine Ew_of (pc' := 170) (fun _ => x_iload_n rfl lc130_1) ?_
        refine Ew_of (pc' := 172) (fun _ => x_bipush (z := 7) rfl (by decide)) ?_
        refine w_iadd rfl ?_
        refine w_inv H (o := 4) rfl rfl rfl (H.perm 4 rfl) rfl rfl (by rfl) (M349 H (show inr ((a1 + 7)) by omega) (show 0 ≤ ((a1 + 7)) ∧ ((a1 + 7)) < 65536 by omega) (fun z32 σ F28 A29 H hS30 hA31 pz32_0 pz32_1 => ⟨rfl, ?_⟩))
        refine Ew_of (pc' := 178) (fun _ => x_bipush (z := 24) rfl (by decide)) ?_
        refine w_ishlA rfl (fun z33 gz33 => ?_)
        refine w_ior rfl (fun z34 gz34 => ?_)
        refine Ew_of (pc' := 182) (fun _ => x_istore rfl) ?_
        refine Ew_of (pc' := 183) (fun _ => x_aload_n rfl (rk_o (lc130_0) rfl rfl)) ?_
        refine w_gT H (o := 4) (t := 23) rfl (H.perm 4 rfl) rfl rfl rfl rfl rfl rfl ?_
        refine Ew_of (pc' := 188) (fun _ => x_iload rfl (rk_o (lc130_4) rfl rfl)) ?_
        refine Ew_of (pc' := 189) (fun _ => x_aload_n rfl (rk_o (lc130_0) rfl rfl)) ?_
        refine w_gI H (o := 4) (w := yc130_4_2) rfl (H.perm 4 rfl) rfl rfl rfl (fun _ => rfl) (((((hS30 4 2 rfl).trans (hS23 4 2 rfl)).trans (hS16 4 2 rfl)).trans (hS11 4 2 rfl)).trans (eyc130_4_2)) ?_
        refine w_stat24 rfl rfl (by rfl) (M345_23 H (show inr (u4_2) by omega) (show inr (yc130_4_2) by omega) (show 0 ≤ (u4_2) ∧ (u4_2) ≤ (yc130_4_2) ∧ (yc130_4_2) ≤ 70000 by omega) (fun z39 σ F35 A36 H hS37 hA38 pz39_0 => ⟨rfl, ?_⟩))
        refine Ew_of (pc' := 197) (fun _ => x_iload rfl rk_s) ?_
        refine w_icmpeq (t := 210) rfl rfl (show inr (z39) by omega) (show inr (z34) by omega) (fun b40 => ?_) (fun b40 => ?_)
        · exact w_ret rfl (k σ _ _ H (SF_trans (SF_trans (SF_trans (SF_trans (SF_trans (SF_trans (SF_upd (SF_refl) rfl) hS_c130 (any_sub rfl)) hS11 (any_sub rfl)) hS16 (any_sub rfl)) hS23 (any_sub rfl)) hS30 (any_sub rfl)) hS37 (any_sub rfl)) (SA_trans (SA_trans (SA_trans (SA_trans (SA_trans (SA_trans (SA_refl) hA_c130 (any_subA rfl)) hA12 (any_subA rfl)) hA17 (any_subA rfl)) hA24 (any_subA rfl)) hA31 (any_subA rfl)) hA38 (any_subA rfl)) (yc130_4_2) (((((((hS37 4 2 rfl).trans (hS30 4 2 rfl)).trans (hS23 4 2 rfl)).trans (hS16 4 2 rfl)).trans (hS11 4 2 rfl)).trans (eyc130_4_2))) (show 0 ≤ (yc130_4_2) ∧ (yc130_4_2) ≤ a3 by omega))
        · refine Ew_of (pc' := 201) (fun _ => x_aload_n rfl (rk_o (lc130_0) rfl rfl)) ?_
          refine Ew_of (pc' := 203) (fun _ => x_bipush (z := 11) rfl (by decide)) ?_
          refine Ew_of (pc' := 204) (fun _ => x_iload_n rfl (rk_o (lc130_1) rfl rfl)) ?_
          refine Ew_of (pc' := 205) (fun _ => x_iconst rfl) ?_
          refine w_iadd rfl ?_
          refine w_inv H (o := 4) rfl rfl rfl (H.perm 4 rfl) rfl rfl (by rfl) (M335 H (F_c130 4 10) ((((((hS37 4 10 rfl).trans (hS30 4 10 rfl)).trans (hS23 4 10 rfl)).trans (hS16 4 10 rfl)).trans (hS11 4 10 rfl))) (show inr (11) by omega) (show inr ((a1 + 4)) by omega) (fun z45 σ F41 A42 H hS43 hA44 y46 ey47 pz45_0 pz45_1 pz45_2 => ⟨rretB rfl pz45_0, ?_⟩))
          have r48 : (-2147483648 : Int) ≤ y46 ∧ y46 ≤ 2147483647 := by have h1 : (-2147483648 : Int) ≤ F41 4 10 ∧ F41 4 10 ≤ 2147483647 := H.frng 4 10; rw [show F41 4 10 = y46 from (ey47)] at h1; exact h1
          refine Ew_of (pc' := 210) (fun _ => x_pop rfl rfl) ?_
          exact w_ret rfl (k σ _ _ H (SF_trans (SF_trans (SF_trans (SF_trans (SF_trans (SF_trans (SF_trans (SF_upd (SF_refl) rfl) hS_c130 (any_sub rfl)) hS11 (any_sub rfl)) hS16 (any_sub rfl)) hS23 (any_sub rfl)) hS30 (any_sub rfl)) hS37 (any_sub rfl)) hS43 (any_sub rfl)) (SA_trans (SA_trans (SA_trans (SA_trans (SA_trans (SA_trans (SA_trans (SA_refl) hA_c130 (any_subA rfl)) hA12 (any_subA rfl)) hA17 (any_subA rfl)) hA24 (any_subA rfl)) hA31 (any_subA rfl)) hA38 (any_subA rfl)) hA44 (any_subA rfl)) (yc130_4_2) ((((((((hS43 4 2 rfl).trans (hS37 4 2 rfl)).trans (hS30 4 2 rfl)).trans (hS23 4 2 rfl)).trans (hS16 4 2 rfl)).trans (hS11 4 2 rfl)).trans (eyc130_4_2))) (show 0 ≤ (yc130_4_2) ∧ (yc130_4_2) ≤ a3 by omega))
      · exact w_ret rfl (k σ _ _ H (SF_trans (SF_upd (SF_refl) rfl) hS_c130 (any_sub rfl)) (SA_trans (SA_refl) hA_c130 (any_subA rfl)) (yc130_4_2) ((eyc130_4_2)) (show 0 ≤ (yc130_4_2) ∧ (yc130_4_2) ≤ a3 by omega))
    refine Ew_of (pc' := 27) (fun _ => x_iload_n rfl (rk_o (rk_o (rfl) rfl rfl) rfl rfl)) ?_
    refine w_ifne (t := 65) rfl rfl (show inr (a2) by omega) (fun b49 => ?_) (fun b49 => ?_)
    · refine Ew_of (pc' := 66) (fun _ => x_aload_n rfl (rk_o (rk_o (rfl) rfl rfl) rfl rfl)) ?_
      refine w_gI H (o := 4) (w := u4_9) rfl (H.perm 4 rfl) rfl rfl rfl (fun _ => rfl) (eu4_9) ?_
      refine Ew_of (pc' := 70) (fun _ => x_aload_n rfl (rk_o (rk_o (rfl) rfl rfl) rfl rfl)) ?_
      refine w_gI H (o := 4) (w := (a1 + 8)) rfl (H.perm 4 rfl) rfl rfl rfl (fun _ => rfl) rfl ?_
      refine w_isub rfl ?_
      refine Ew_of (pc' := 76) (fun _ => x_iload rfl rk_s) ?_
      refine w_icmple (t := 95) rfl rfl (show inr ((u4_9 - (a1 + 8))) by omega) (show inr ((a3 - u4_2)) by omega) (fun b50 => ?_) (fun b50 => ?_)
      · refine Ew_of (pc' := 96) (fun _ => x_aload_n rfl (rk_o (rk_o (rfl) rfl rfl) rfl rfl)) ?_
        refine w_gI H (o := 4) (w := (a1 + 8)) rfl (H.perm 4 rfl) rfl rfl rfl (fun _ => rfl) rfl ?_
        refine Ew_of (pc' := 101) (fun _ => x_istore rfl) ?_
        suffices hl101 : ∀ (m : Nat), ∀ (ls : rO) (σ : rS) (F_101 : hF) (A_101 : hA) (x101_6 : Int), rlook ls 0 = some (.ref (D 4)) → rlook ls 1 = some (I (a1)) → rlook ls 4 = some (I (u4_2)) → rlook ls 6 = some (I (x101_6)) → HS σ0 σ D N F_101 A_101 → SF [(4, 2)] (updF F 4 8 ((a1 + 8))) F_101 → SA [23] A A_101 → ∀ y101_4_2 : Int, F_101 4 2 = y101_4_2 → (inr (x101_6)) → (((a1 + 8)) ≤ (x101_6)) → ((x101_6) ≤ ((a1 + 8)) ∨ (x101_6) ≤ ((u4_9))) → ((y101_4_2) = (u4_2) + ((x101_6) - ((a1) + 8))) → (((u4_9)) - (x101_6)).toNat = m → Ew 351 (d + 4) 101 ls [] σ c s Q from
          hl101 _ _ σ _ _ ((a1 + 8)) (rk_o (rk_o (rk_o (rfl) rfl rfl) rfl rfl) rfl rfl) (rk_o (rk_o (rk_o (rfl) rfl rfl) rfl rfl) rfl rfl) (rk_o (rk_o (rk_s) rfl rfl) rfl rfl) (rk_s) H (SF_refl) (SA_refl) (u4_2) ((eu4_2))  (show inr ((a1 + 8)) by omega) (show ((a1 + 8)) ≤ ((a1 + 8)) by omega) (show ((a1 + 8)) ≤ ((a1 + 8)) ∨ ((a1 + 8)) ≤ ((u4_9)) by omega) (show (u4_2) = (u4_2) + (((a1 + 8)) - ((a1) + 8)) by omega) rfl
        as_aux_lemma =>
        intro m
        induction m using Nat.strongRecOn with
        | _ m ih101 =>
          intro ls σ F_101 A_101 x101_6 l101_0 l101_1 l101_4 l101_6 H hS_101 hA_101 y101_4_2 ey101_4_2  j101_0 j101_1 j101_2 j101_3 hm101
          have r51 : (-2147483648 : Int) ≤ y101_4_2 ∧ y101_4_2 ≤ 2147483647 := by have h1 : (-2147483648 : Int) ≤ F_101 4 2 ∧ F_101 4 2 ≤ 2147483647 := H.frng 4 2; rw [show F_101 4 2 = y101_4_2 from (ey101_4_2)] at h1; exact h1
          refine Ew_of (pc' := 103) (fun _ => x_iload rfl l101_6) ?_
          refine Ew_of (pc' := 104) (fun _ => x_aload_n rfl l101_0) ?_
          refine w_gI H (o := 4) (w := u4_9) rfl (H.perm 4 rfl) rfl rfl rfl (fun _ => rfl) ((hS_101 4 9 rfl).trans (eu4_9)) ?_
          refine w_icmpge (t := 130) rfl rfl (show inr (x101_6) by omega) (show inr (u4_9) by omega) (fun b52 => ?_) (fun b52 => ?_)
          · exact hc130  _ σ _ _  (l101_0) (l101_1) (l101_4) H (SF_trans (SF_refl) hS_101 (any_sub rfl)) (SA_trans (SA_refl) hA_101 (any_subA rfl)) (y101_4_2) ((ey101_4_2))  (show (u4_2) ≤ (y101_4_2) ∧ (y101_4_2) ≤ (a3) by omega)
          · refine Ew_of (pc' := 111) (fun _ => x_aload_n rfl l101_0) ?_
            refine Ew_of (pc' := 112) (fun _ => x_aload_n rfl l101_0) ?_
            refine w_gT H (o := 4) (t := 1) rfl (H.perm 4 rfl) rfl rfl rfl rfl rfl rfl ?_
            refine w_gT H (o := 1) (t := 14) rfl (H.perm 1 rfl) rfl rfl rfl rfl rfl rfl ?_
            refine Ew_of (pc' := 120) (fun _ => x_iload rfl l101_6) ?_
            refine w_lI H (o := 14) (n := 65536) rfl (H.perm 14 rfl) rfl rfl (H.fix 14 rfl rfl) (show 0 ≤ x101_6 ∧ x101_6 < ((65536 : Nat) : Int) by omega) (by decide) (fun v53 ev53 qv53 => ?_)
            have qv53 : (0 : Int) ≤ v53 ∧ v53 ≤ 255 := qv53
            have ev53 : (A 14) (x101_6) = v53 := (congrFun (funext (hA_101 14 rfl)) (x101_6)).symm.trans ev53
            refine w_inv H (o := 4) rfl rfl rfl (H.perm 4 rfl) rfl rfl (by rfl) (M320 H (y101_4_2) ((ey101_4_2)) (show inr (v53) by omega) (show 0 ≤ (y101_4_2) ∧ (y101_4_2) ≤ 100000000 by omega) (fun σ F54 A55 H hS56 hA57 y59 ey60 pz58_0 => ⟨rfl, ?_⟩))
            have r61 : (-2147483648 : Int) ≤ y59 ∧ y59 ≤ 2147483647 := by have h1 : (-2147483648 : Int) ≤ F54 4 2 ∧ F54 4 2 ≤ 2147483647 := H.frng 4 2; rw [show F54 4 2 = y59 from (ey60)] at h1; exact h1
            refine Ew_of (pc' := 127) (fun _ => x_iinc (len := 3) rfl (l101_6)) ?_
            refine Ew_of (pc' := 101) (fun _ => x_goto rfl rfl) ?_
            exact ih101 _ (by omega) _ σ _ _ ((x101_6 + 1)) (rk_o (l101_0) rfl rfl) (rk_o (l101_1) rfl rfl) (rk_o (l101_4) rfl rfl) (rk_s) H (SF_trans (hS_101) hS56 (any_sub rfl)) (SA_trans (hA_101) hA57 (any_subA rfl)) (y59) ((ey60))  (show inr ((x101_6 + 1)) by omega) (show ((a1 + 8)) ≤ ((x101_6 + 1)) by omega) (show ((x101_6 + 1)) ≤ ((a1 + 8)) ∨ ((x101_6 + 1)) ≤ ((u4_9)) by omega) (show (y59) = (u4_2) + (((x101_6 + 1)) - ((a1) + 8)) by omega) rfl
      · refine Ew_of (pc' := 80) (fun _ => x_aload_n rfl (rk_o (rk_o (rfl) rfl rfl) rfl rfl)) ?_
        refine Ew_of (pc' := 81) (fun _ => x_iconst rfl) ?_
        refine Ew_of (pc' := 82) (fun _ => x_aload_n rfl (rk_o (rk_o (rfl) rfl rfl) rfl rfl)) ?_
        refine w_gI H (o := 4) (w := (a1 + 8)) rfl (H.perm 4 rfl) rfl rfl rfl (fun _ => rfl) rfl ?_
        refine Ew_of (pc' := 87) (fun _ => x_iload rfl rk_s) ?_
        refine w_iadd rfl ?_
        refine w_inv H (o := 4) rfl rfl rfl (H.perm 4 rfl) rfl rfl (by rfl) (M335 H (u4_10) ((eu4_10)) (show inr (3) by omega) (show inr (((a1 + 8) + (a3 - u4_2))) by omega) (fun z66 σ F62 A63 H hS64 hA65 y67 ey68 pz66_0 pz66_1 pz66_2 => ⟨rretB rfl pz66_0, ?_⟩))
        have r69 : (-2147483648 : Int) ≤ y67 ∧ y67 ≤ 2147483647 := by have h1 : (-2147483648 : Int) ≤ F62 4 10 ∧ F62 4 10 ≤ 2147483647 := H.frng 4 10; rw [show F62 4 10 = y67 from (ey68)] at h1; exact h1
        refine Ew_of (pc' := 92) (fun _ => x_pop rfl rfl) ?_
        refine Ew_of (pc' := 130) (fun _ => x_goto rfl rfl) ?_
        exact hc130  _ σ _ _  (rk_o (rk_o (rfl) rfl rfl) rfl rfl) (rk_o (rk_o (rfl) rfl rfl) rfl rfl) (rk_o (rk_s) rfl rfl) H (SF_trans (SF_refl) hS64 (any_sub rfl)) (SA_trans (SA_refl) hA65 (any_subA rfl)) (u4_2) (((hS64 4 2 rfl).trans (eu4_2)))  (show (u4_2) ≤ (u4_2) ∧ (u4_2) ≤ (a3) by omega)
    · refine Ew_of (pc' := 31) (fun _ => x_aload_n rfl (rk_o (rk_o (rfl) rfl rfl) rfl rfl)) ?_
      refine Ew_of (pc' := 33) (fun _ => x_iload rfl rk_s) ?_
      refine Ew_of (pc' := 35) (fun _ => x_ldc (z := 65536) rfl (by decide)) ?_
      have hc45 : ∀ (tc45_0 : Int), ∀ (ls : rO) (σ : rS) (F_c45 : hF) (A_c45 : hA) , rlook ls 0 = some (.ref (D 4)) → rlook ls 1 = some (I (a1)) → rlook ls 4 = some (I (u4_2)) → HS σ0 σ D N F_c45 A_c45 → SF [] (updF F 4 8 ((a1 + 8))) F_c45 → SA [] A A_c45 → (inr (tc45_0)) → ((((a3 - u4_2)) ≥ (65536) ∧ (tc45_0) = (65536)) ∨ (((a3 - u4_2)) < (65536) ∧ (tc45_0) = ((a3 - u4_2)))) → Ew 351 (d + 4) 45 ls [I (tc45_0), .ref (D 4)] σ c s Q := by
       as_aux_lemma =>
        intro tc45_0 ls σ F_c45 A_c45  lc45_0 lc45_1 lc45_4 H hS_c45 hA_c45   jc45_0 jc45_1
        refine w_inv H (o := 4) rfl rfl rfl (H.perm 4 rfl) rfl rfl (by rfl) (M341 H (u4_2) (((hS_c45 4 2 rfl).trans (eu4_2))) ((a1 + 8)) ((hS_c45 4 8 rfl)) (u4_9) (((hS_c45 4 9 rfl).trans (eu4_9))) (show inr (tc45_0) by omega) (show 0 ≤ (tc45_0) ∧ 0 ≤ (u4_2) ∧ (u4_2) + (tc45_0) ≤ 65536 by omega) (show 0 ≤ ((a1 + 8)) ∧ ((a1 + 8)) ≤ (u4_9) by omega) (fun σ F70 A71 H hS72 hA73 y75 ey76 y77 ey78 pz74_0 pz74_1 => ⟨rfl, ?_⟩))
        have r79 : (-2147483648 : Int) ≤ y75 ∧ y75 ≤ 2147483647 := by have h1 : (-2147483648 : Int) ≤ F70 4 2 ∧ F70 4 2 ≤ 2147483647 := H.frng 4 2; rw [show F70 4 2 = y75 from (ey76)] at h1; exact h1
        have r80 : (0 : Int) ≤ y77 ∧ y77 ≤ 65536 := by have h1 : (0 : Int) ≤ F70 4 8 ∧ F70 4 8 ≤ 65536 := H.frng 4 8; rw [show F70 4 8 = y77 from (ey78)] at h1; exact h1
        refine Ew_of (pc' := 49) (fun _ => x_aload_n rfl lc45_0) ?_
        have r81 : (-2147483648 : Int) ≤ F70 4 10 ∧ F70 4 10 ≤ 2147483647 := by have h1 : (-2147483648 : Int) ≤ F70 4 10 ∧ F70 4 10 ≤ 2147483647 := H.frng 4 10; rw [show F70 4 10 = F70 4 10 from rfl] at h1; exact h1
        refine w_gI H (o := 4) (w := F70 4 10) rfl (H.perm 4 rfl) rfl rfl rfl (fun _ => rfl) rfl ?_
        refine Ew_of (pc' := 53) (fun _ => x_iconst rfl) ?_
        refine w_icmpne (t := 130) rfl rfl (show inr (F70 4 10) by omega) (show inr (1) by omega) (fun b82 => ?_) (fun b82 => ?_)
        · exact hc130  _ σ _ _  (lc45_0) (lc45_1) (lc45_4) H (SF_trans (SF_trans (SF_refl) hS_c45 (any_sub rfl)) hS72 (any_sub rfl)) (SA_trans (SA_trans (SA_refl) hA_c45 (any_subA rfl)) hA73 (any_subA rfl)) (y75) ((ey76))  (show (u4_2) ≤ (y75) ∧ (y75) ≤ (a3) by omega)
        · refine Ew_of (pc' := 57) (fun _ => x_aload_n rfl lc45_0) ?_
          refine Ew_of (pc' := 59) (fun _ => x_bipush (z := 12) rfl (by decide)) ?_
          refine w_pI H (o := 4) rfl rfl (H.perm 4 rfl) rfl rfl rfl (fun _ => rfl) rfl (show (-2147483648 : Int) ≤ 12 ∧ 12 ≤ 2147483647 by omega) (fun σ H => ?_)
          refine Ew_of (pc' := 130) (fun _ => x_goto rfl rfl) ?_
          exact hc130  _ σ _ _  (lc45_0) (lc45_1) (lc45_4) H (SF_upd (SF_trans (SF_trans (SF_refl) hS_c45 (any_sub rfl)) hS72 (any_sub rfl)) rfl) (SA_trans (SA_trans (SA_refl) hA_c45 (any_subA rfl)) hA73 (any_subA rfl)) (y75) ((ey76))  (show (u4_2) ≤ (y75) ∧ (y75) ≤ (a3) by omega)
      refine w_icmpge (t := 43) rfl rfl (show inr ((a3 - u4_2)) by omega) (show inr (65536) by omega) (fun b83 => ?_) (fun b83 => ?_)
      · refine Ew_of (pc' := 45) (fun _ => x_ldc (z := 65536) rfl (by decide)) ?_
        exact hc45 (65536) _ σ _ _  (rk_o (rk_o (rfl) rfl rfl) rfl rfl) (rk_o (rk_o (rfl) rfl rfl) rfl rfl) (rk_o (rk_s) rfl rfl) H (SF_refl) (SA_refl)   (show inr (65536) by omega) (show (((a3 - u4_2)) ≥ (65536) ∧ (65536) = (65536)) ∨ (((a3 - u4_2)) < (65536) ∧ (65536) = ((a3 - u4_2))) by omega)
      · refine Ew_of (pc' := 40) (fun _ => x_iload rfl rk_s) ?_
        refine Ew_of (pc' := 45) (fun _ => x_goto rfl rfl) ?_
        exact hc45 ((a3 - u4_2)) _ σ _ _  (rk_o (rk_o (rfl) rfl rfl) rfl rfl) (rk_o (rk_o (rfl) rfl rfl) rfl rfl) (rk_o (rk_s) rfl rfl) H (SF_refl) (SA_refl)   (show inr ((a3 - u4_2)) by omega) (show (((a3 - u4_2)) ≥ (65536) ∧ ((a3 - u4_2)) = (65536)) ∨ (((a3 - u4_2)) < (65536) ∧ ((a3 - u4_2)) = ((a3 - u4_2))) by omega)
  · exact w_ret rfl (k σ _ _ H (SF_refl) (SA_refl) (u4_2) ((eu4_2)) (show 0 ≤ (u4_2) ∧ (u4_2) ≤ a3 by omega))
/-- Tags.endReading -/
theorem M343 {σ0 σ : rS} {D N : Nat → Nat} {F : hF} {A : hA} {d c s : Nat} {Q : wQ} (H : HS σ0 σ D N F A)  (u4_2 : Int) (eu4_2 : F 4 2 = u4_2) (h0 : 0 ≤ (u4_2) ∧ (u4_2) ≤ 65536) (k : ∀ (z : Int) σ F' A', HS σ0 σ D N F' A' → SF [(1, 3), (1, 4)] F F' → SA [15] A A' → (inr (z)) → Q (some (I z)) σ c s) : Ew 343 (d + 1) 0 (rargs 0 [.ref (D 4)]) [] σ c s Q := by
  have r1 : (-2147483648 : Int) ≤ u4_2 ∧ u4_2 ≤ 2147483647 := by have h1 : (-2147483648 : Int) ≤ F 4 2 ∧ F 4 2 ≤ 2147483647 := H.frng 4 2; rw [show F 4 2 = u4_2 from (eu4_2)] at h1; exact h1
  refine Ew_of (pc' := 1) (fun _ => x_aload_n rfl rfl) ?_
  refine w_gT H (o := 4) (t := 1) rfl (H.perm 4 rfl) rfl rfl rfl rfl rfl rfl ?_
  refine Ew_of (pc' := 5) (fun _ => x_aload_n rfl rfl) ?_
  have r2 : (-2147483648 : Int) ≤ F 4 10 ∧ F 4 10 ≤ 2147483647 := by have h1 : (-2147483648 : Int) ≤ F 4 10 ∧ F 4 10 ≤ 2147483647 := H.frng 4 10; rw [show F 4 10 = F 4 10 from rfl] at h1; exact h1
  refine w_gI H (o := 4) (w := F 4 10) rfl (H.perm 4 rfl) rfl rfl rfl (fun _ => rfl) rfl ?_
  have hc25 : ∀ (tc25_0 : Int), ∀ (ls : rO) (σ : rS) (F_c25 : hF) (A_c25 : hA) , rlook ls 0 = some (.ref (D 4)) → HS σ0 σ D N F_c25 A_c25 → SF [] F F_c25 → SA [] A A_c25 → (inr (tc25_0)) → (((F 4 10) ≠ (0) ∧ (-2147483648) ≤ (F 4 11) ∧ (F 4 11) ≤ 2147483647 ∧ (tc25_0) = (F 4 11)) ∨ ((F 4 10) = (0) ∧ 0 ≤ (F 1 1) ∧ (F 1 1) ≤ 65536 ∧ (tc25_0) = (F 1 1))) → Ew 343 (d + 1) 25 ls [I (tc25_0), .ref (D 1)] σ c s Q := by
   as_aux_lemma =>
    intro tc25_0 ls σ F_c25 A_c25  lc25_0 H hS_c25 hA_c25   jc25_0 jc25_1
    refine w_pI H (o := 1) rfl rfl (H.perm 1 rfl) rfl rfl rfl (fun _ => rfl) rfl (show (-2147483648 : Int) ≤ tc25_0 ∧ tc25_0 ≤ 2147483647 by omega) (fun σ H => ?_)
    refine Ew_of (pc' := 29) (fun _ => x_aload_n rfl lc25_0) ?_
    refine w_gI H (o := 4) (w := F 4 10) rfl (H.perm 4 rfl) rfl rfl rfl (fun _ => rfl) (hS_c25 4 10 rfl) ?_
    refine w_ifne (t := 42) rfl rfl (show inr (F 4 10) by omega) (fun b3 => ?_) (fun b3 => ?_)
    · refine Ew_of (pc' := 43) (fun _ => x_aload_n rfl lc25_0) ?_
      refine w_gI H (o := 4) (w := F 4 10) rfl (H.perm 4 rfl) rfl rfl rfl (fun _ => rfl) (hS_c25 4 10 rfl) ?_
      refine w_inegA rfl (fun z4 gz4 => ?_)
      exact w_ireturn rfl (k (z4) σ _ _ H (SF_upd (SF_trans (SF_refl) hS_c25 (any_sub rfl)) rfl) (SA_trans (SA_refl) hA_c25 (any_subA rfl)) (show inr (z4) by omega))
    · refine Ew_of (pc' := 36) (fun _ => x_aload_n rfl lc25_0) ?_
      refine w_inv H (o := 4) rfl rfl rfl (H.perm 4 rfl) rfl rfl (by rfl) (M322 H (u4_2) (((hS_c25 4 2 rfl).trans (eu4_2))) (show 0 ≤ (u4_2) ∧ (u4_2) ≤ 65536 by omega) (fun z9 σ F5 A6 H hS7 hA8 pz9_0 => ⟨rfl, ?_⟩))
      refine Ew_of (pc' := 47) (fun _ => x_goto rfl rfl) ?_
      exact w_ireturn rfl (k (z9) σ _ _ H (SF_trans (SF_upd (SF_trans (SF_refl) hS_c25 (any_sub rfl)) rfl) hS7 (any_sub rfl)) (SA_trans (SA_trans (SA_refl) hA_c25 (any_subA rfl)) hA8 (any_subA rfl)) (show inr (z9) by omega))
  refine w_ifne (t := 21) rfl rfl (show inr (F 4 10) by omega) (fun b10 => ?_) (fun b10 => ?_)
  · refine Ew_of (pc' := 22) (fun _ => x_aload_n rfl rfl) ?_
    have r11 : (-2147483648 : Int) ≤ F 4 11 ∧ F 4 11 ≤ 2147483647 := by have h1 : (-2147483648 : Int) ≤ F 4 11 ∧ F 4 11 ≤ 2147483647 := H.frng 4 11; rw [show F 4 11 = F 4 11 from rfl] at h1; exact h1
    refine w_gI H (o := 4) (w := F 4 11) rfl (H.perm 4 rfl) rfl rfl rfl (fun _ => rfl) rfl ?_
    exact hc25 (F 4 11) _ σ _ _  (rfl) H (SF_refl) (SA_refl)   (show inr (F 4 11) by omega) (show ((F 4 10) ≠ (0) ∧ (-2147483648) ≤ (F 4 11) ∧ (F 4 11) ≤ 2147483647 ∧ (F 4 11) = (F 4 11)) ∨ ((F 4 10) = (0) ∧ 0 ≤ (F 1 1) ∧ (F 1 1) ≤ 65536 ∧ (F 4 11) = (F 1 1)) by omega)
  · refine Ew_of (pc' := 12) (fun _ => x_aload_n rfl rfl) ?_
    refine w_gT H (o := 4) (t := 1) rfl (H.perm 4 rfl) rfl rfl rfl rfl rfl rfl ?_
    have r12 : (0 : Int) ≤ F 1 1 ∧ F 1 1 ≤ 65536 := by have h1 : (0 : Int) ≤ F 1 1 ∧ F 1 1 ≤ 65536 := H.frng 1 1; rw [show F 1 1 = F 1 1 from rfl] at h1; exact h1
    refine w_gI H (o := 1) (w := F 1 1) rfl (H.perm 1 rfl) rfl rfl rfl (fun _ => rfl) rfl ?_
    refine Ew_of (pc' := 25) (fun _ => x_goto rfl rfl) ?_
    exact hc25 (F 1 1) _ σ _ _  (rfl) H (SF_refl) (SA_refl)   (show inr (F 1 1) by omega) (show ((F 4 10) ≠ (0) ∧ (-2147483648) ≤ (F 4 11) ∧ (F 4 11) ≤ 2147483647 ∧ (F 1 1) = (F 4 11)) ∨ ((F 4 10) = (0) ∧ 0 ≤ (F 1 1) ∧ (F 1 1) ≤ 65536 ∧ (F 1 1) = (F 1 1)) by omega)
/-- Tags.unpack -/
theorem M344 {σ0 σ : rS} {D N : Nat → Nat} {F : hF} {A : hA} {d c s : Nat} {Q : wQ} (H : HS σ0 σ D N F A) {a1 : Int} (h0 : inr (a1)) (h1 : 0 ≤ (a1) ∧ (a1) ≤ 65536) (k : ∀ (z : Int) σ F' A', HS σ0 σ D N F' A' → SF [(1, 3), (1, 4), (4, 2), (4, 8), (4, 9), (4, 10), (4, 11)] F F' → SA [15, 23] A A' → (inr (z)) → Q (some (I z)) σ c s) : Ew 344 (d + 4) 0 (rargs 0 [.ref (D 4), I a1]) [] σ c s Q := by
  refine Ew_of (pc' := 1) (fun _ => x_aload_n rfl rfl) ?_
  have r1 : (0 : Int) ≤ F 1 1 ∧ F 1 1 ≤ 65536 := by have h1 : (0 : Int) ≤ F 1 1 ∧ F 1 1 ≤ 65536 := H.frng 1 1; rw [show F 1 1 = F 1 1 from rfl] at h1; exact h1
  refine w_inv H (o := 4) rfl rfl rfl (H.perm 4 rfl) rfl rfl (by rfl) (M342 H (F 1 1) (rfl)  (fun σ F2 A3 H hS4 hA5 y7 ey8 y9 ey10 y11 ey12 y13 ey14 pz6_0 => ⟨rfl, ?_⟩))
  have r15 : (-2147483648 : Int) ≤ y7 ∧ y7 ≤ 2147483647 := by have h1 : (-2147483648 : Int) ≤ F2 4 2 ∧ F2 4 2 ≤ 2147483647 := H.frng 4 2; rw [show F2 4 2 = y7 from (ey8)] at h1; exact h1
  have r16 : (0 : Int) ≤ y9 ∧ y9 ≤ 65536 := by have h1 : (0 : Int) ≤ F2 4 8 ∧ F2 4 8 ≤ 65536 := H.frng 4 8; rw [show F2 4 8 = y9 from (ey10)] at h1; exact h1
  have r17 : (0 : Int) ≤ y11 ∧ y11 ≤ 65536 := by have h1 : (0 : Int) ≤ F2 4 9 ∧ F2 4 9 ≤ 65536 := H.frng 4 9; rw [show F2 4 9 = y11 from (ey12)] at h1; exact h1
  have r18 : (-2147483648 : Int) ≤ y13 ∧ y13 ≤ 2147483647 := by have h1 : (-2147483648 : Int) ≤ F2 4 10 ∧ F2 4 10 ≤ 2147483647 := H.frng 4 10; rw [show F2 4 10 = y13 from (ey14)] at h1; exact h1
  refine Ew_of (pc' := 5) (fun _ => x_aload_n rfl rfl) ?_
  refine Ew_of (pc' := 6) (fun _ => x_iload_n rfl rfl) ?_
  refine w_inv H (o := 4) rfl rfl rfl (H.perm 4 rfl) rfl rfl (by rfl) (M341 H (y7) ((ey8)) (y9) ((ey10)) (y11) ((ey12)) (show inr (a1) by omega) (show 0 ≤ (a1) ∧ 0 ≤ (y7) ∧ (y7) + (a1) ≤ 65536 by omega) (show 0 ≤ (y9) ∧ (y9) ≤ (y11) by omega) (fun σ F19 A20 H hS21 hA22 y24 ey25 y26 ey27 pz23_0 pz23_1 => ⟨rfl, ?_⟩))
  have r28 : (-2147483648 : Int) ≤ y24 ∧ y24 ≤ 2147483647 := by have h1 : (-2147483648 : Int) ≤ F19 4 2 ∧ F19 4 2 ≤ 2147483647 := H.frng 4 2; rw [show F19 4 2 = y24 from (ey25)] at h1; exact h1
  have r29 : (0 : Int) ≤ y26 ∧ y26 ≤ 65536 := by have h1 : (0 : Int) ≤ F19 4 8 ∧ F19 4 8 ≤ 65536 := H.frng 4 8; rw [show F19 4 8 = y26 from (ey27)] at h1; exact h1
  refine Ew_of (pc' := 10) (fun _ => x_aload_n rfl rfl) ?_
  refine w_inv H (o := 4) rfl rfl rfl (H.perm 4 rfl) rfl rfl (by rfl) (M343 H (y24) ((ey25)) (show 0 ≤ (y24) ∧ (y24) ≤ 65536 by omega) (fun z34 σ F30 A31 H hS32 hA33 pz34_0 => ⟨rfl, ?_⟩))
  exact w_ireturn rfl (k (z34) σ _ _ H (SF_trans (SF_trans (SF_trans (SF_refl) hS4 (any_sub rfl)) hS21 (any_sub rfl)) hS32 (any_sub rfl)) (SA_trans (SA_trans (SA_trans (SA_refl) hA5 (any_subA rfl)) hA22 (any_subA rfl)) hA33 (any_subA rfl)) (show inr (z34) by omega))
/-- Tags.unchunk -/
theorem M352 {σ0 σ : rS} {D N : Nat → Nat} {F : hF} {A : hA} {d c s : Nat} {Q : wQ} (H : HS σ0 σ D N F A) {a1 : Int} (h0 : inr (a1)) (h1 : 0 ≤ (a1) ∧ (a1) ≤ 65536) (k : ∀ (z : Int) σ F' A', HS σ0 σ D N F' A' → SF [(1, 3), (1, 4), (4, 2), (4, 8), (4, 9), (4, 10), (4, 11)] F F' → SA [15, 23] A A' → (inr (z)) → Q (some (I z)) σ c s) : Ew 352 (d + 5) 0 (rargs 0 [.ref (D 4), I a1]) [] σ c s Q := by
  refine Ew_of (pc' := 1) (fun _ => x_aload_n rfl rfl) ?_
  have r1 : (0 : Int) ≤ F 1 1 ∧ F 1 1 ≤ 65536 := by have h1 : (0 : Int) ≤ F 1 1 ∧ F 1 1 ≤ 65536 := H.frng 1 1; rw [show F 1 1 = F 1 1 from rfl] at h1; exact h1
  refine w_inv H (o := 4) rfl rfl rfl (H.perm 4 rfl) rfl rfl (by rfl) (M342 H (F 1 1) (rfl)  (fun σ F2 A3 H hS4 hA5 y7 ey8 y9 ey10 y11 ey12 y13 ey14 pz6_0 => ⟨rfl, ?_⟩))
  have r15 : (-2147483648 : Int) ≤ y7 ∧ y7 ≤ 2147483647 := by have h1 : (-2147483648 : Int) ≤ F2 4 2 ∧ F2 4 2 ≤ 2147483647 := H.frng 4 2; rw [show F2 4 2 = y7 from (ey8)] at h1; exact h1
  have r16 : (0 : Int) ≤ y9 ∧ y9 ≤ 65536 := by have h1 : (0 : Int) ≤ F2 4 8 ∧ F2 4 8 ≤ 65536 := H.frng 4 8; rw [show F2 4 8 = y9 from (ey10)] at h1; exact h1
  have r17 : (0 : Int) ≤ y11 ∧ y11 ≤ 65536 := by have h1 : (0 : Int) ≤ F2 4 9 ∧ F2 4 9 ≤ 65536 := H.frng 4 9; rw [show F2 4 9 = y11 from (ey12)] at h1; exact h1
  have r18 : (-2147483648 : Int) ≤ y13 ∧ y13 ≤ 2147483647 := by have h1 : (-2147483648 : Int) ≤ F2 4 10 ∧ F2 4 10 ≤ 2147483647 := H.frng 4 10; rw [show F2 4 10 = y13 from (ey14)] at h1; exact h1
  refine Ew_of (pc' := 5) (fun _ => x_iconst rfl) ?_
  refine Ew_of (pc' := 6) (fun _ => x_istore_n rfl) ?_
  suffices hl6 : ∀ (m : Nat), ∀ (ls : rO) (σ : rS) (F_6 : hF) (A_6 : hA) (x6_2 : Int), rlook ls 0 = some (.ref (D 4)) → rlook ls 1 = some (I (a1)) → rlook ls 2 = some (I (x6_2)) → HS σ0 σ D N F_6 A_6 → SF [(4, 2), (4, 8), (4, 9), (4, 10), (4, 11)] F2 F_6 → SA [23] A3 A_6 → ∀ y6_4_2 : Int, F_6 4 2 = y6_4_2 → ∀ y6_4_9 : Int, F_6 4 9 = y6_4_9 → ∀ y6_4_10 : Int, F_6 4 10 = y6_4_10 → (inr (x6_2)) → (0 ≤ (x6_2) ∧ (x6_2) ≤ (F 1 1)) → ((y6_4_9) ≤ (F 1 1)) → (0 ≤ (y6_4_2) ∧ (y6_4_2) ≤ (a1)) → (0 ≤ 0 + (if (y6_4_10) = 0 then (F 1 1) - (x6_2) + 1 else 0) ∨ True) → (if (y6_4_10) = 0 then (F 1 1) - (x6_2) + 1 else 0).toNat = m → Ew 352 (d + 5) 6 ls [] σ c s Q from
    hl6 _ _ σ _ _ (0) (rk_o (rfl) rfl rfl) (rk_o (rfl) rfl rfl) (rk_s) H (SF_refl) (SA_refl) (y7) ((ey8)) (y11) ((ey12)) (y13) ((ey14))  (show inr (0) by omega) (show 0 ≤ (0) ∧ (0) ≤ (F 1 1) by omega) (show (y11) ≤ (F 1 1) by omega) (show 0 ≤ (y7) ∧ (y7) ≤ (a1) by omega) (show 0 ≤ 0 + (if (y13) = 0 then (F 1 1) - (0) + 1 else 0) ∨ True by omega) rfl
  as_aux_lemma =>
  intro m
  induction m using Nat.strongRecOn with
  | _ m ih6 =>
    intro ls σ F_6 A_6 x6_2 l6_0 l6_1 l6_2 H hS_6 hA_6 y6_4_2 ey6_4_2 y6_4_9 ey6_4_9 y6_4_10 ey6_4_10  j6_0 j6_1 j6_2 j6_3 j6_4 hm6
    have r19 : (-2147483648 : Int) ≤ y6_4_2 ∧ y6_4_2 ≤ 2147483647 := by have h1 : (-2147483648 : Int) ≤ F_6 4 2 ∧ F_6 4 2 ≤ 2147483647 := H.frng 4 2; rw [show F_6 4 2 = y6_4_2 from (ey6_4_2)] at h1; exact h1
    have r20 : (0 : Int) ≤ y6_4_9 ∧ y6_4_9 ≤ 65536 := by have h1 : (0 : Int) ≤ F_6 4 9 ∧ F_6 4 9 ≤ 65536 := H.frng 4 9; rw [show F_6 4 9 = y6_4_9 from (ey6_4_9)] at h1; exact h1
    have r21 : (-2147483648 : Int) ≤ y6_4_10 ∧ y6_4_10 ≤ 2147483647 := by have h1 : (-2147483648 : Int) ≤ F_6 4 10 ∧ F_6 4 10 ≤ 2147483647 := H.frng 4 10; rw [show F_6 4 10 = y6_4_10 from (ey6_4_10)] at h1; exact h1
    refine Ew_of (pc' := 7) (fun _ => x_aload_n rfl l6_0) ?_
    refine w_gI H (o := 4) (w := y6_4_10) rfl (H.perm 4 rfl) rfl rfl rfl (fun _ => rfl) (ey6_4_10) ?_
    refine w_ifne (t := 54) rfl rfl (show inr (y6_4_10) by omega) (fun b22 => ?_) (fun b22 => ?_)
    · refine Ew_of (pc' := 55) (fun _ => x_aload_n rfl l6_0) ?_
      refine w_inv H (o := 4) rfl rfl rfl (H.perm 4 rfl) rfl rfl (by rfl) (M343 H (y6_4_2) ((ey6_4_2)) (show 0 ≤ (y6_4_2) ∧ (y6_4_2) ≤ 65536 by omega) (fun z27 σ F23 A24 H hS25 hA26 pz27_0 => ⟨rfl, ?_⟩))
      exact w_ireturn rfl (k (z27) σ _ _ H (SF_trans (SF_trans (SF_trans (SF_refl) hS4 (any_sub rfl)) hS_6 (any_sub rfl)) hS25 (any_sub rfl)) (SA_trans (SA_trans (SA_trans (SA_refl) hA5 (any_subA rfl)) hA_6 (any_subA rfl)) hA26 (any_subA rfl)) (show inr (z27) by omega))
    · refine Ew_of (pc' := 14) (fun _ => x_iload_n rfl l6_2) ?_
      refine Ew_of (pc' := 15) (fun _ => x_aload_n rfl l6_0) ?_
      refine w_gT H (o := 4) (t := 1) rfl (H.perm 4 rfl) rfl rfl rfl rfl rfl rfl ?_
      refine w_gI H (o := 1) (w := F 1 1) rfl (H.perm 1 rfl) rfl rfl rfl (fun _ => rfl) ((hS_6 1 1 rfl).trans (hS4 1 1 rfl)) ?_
      refine w_icmpge (t := 54) rfl rfl (show inr (x6_2) by omega) (show inr (F 1 1) by omega) (fun b28 => ?_) (fun b28 => ?_)
      · refine Ew_of (pc' := 55) (fun _ => x_aload_n rfl l6_0) ?_
        refine w_inv H (o := 4) rfl rfl rfl (H.perm 4 rfl) rfl rfl (by rfl) (M343 H (y6_4_2) ((ey6_4_2)) (show 0 ≤ (y6_4_2) ∧ (y6_4_2) ≤ 65536 by omega) (fun z33 σ F29 A30 H hS31 hA32 pz33_0 => ⟨rfl, ?_⟩))
        exact w_ireturn rfl (k (z33) σ _ _ H (SF_trans (SF_trans (SF_trans (SF_refl) hS4 (any_sub rfl)) hS_6 (any_sub rfl)) hS31 (any_sub rfl)) (SA_trans (SA_trans (SA_trans (SA_refl) hA5 (any_subA rfl)) hA_6 (any_subA rfl)) hA32 (any_subA rfl)) (show inr (z33) by omega))
      · refine Ew_of (pc' := 25) (fun _ => x_aload_n rfl l6_0) ?_
        refine Ew_of (pc' := 26) (fun _ => x_iload_n rfl l6_2) ?_
        refine w_inv H (o := 4) rfl rfl rfl (H.perm 4 rfl) rfl rfl (by rfl) (M349 H (show inr (x6_2) by omega) (show 0 ≤ (x6_2) ∧ (x6_2) < 65536 by omega) (fun z38 σ F34 A35 H hS36 hA37 pz38_0 pz38_1 => ⟨rfl, ?_⟩))
        refine Ew_of (pc' := 30) (fun _ => x_istore_n rfl) ?_
        refine Ew_of (pc' := 31) (fun _ => x_aload_n rfl (rk_o (l6_0) rfl rfl)) ?_
        refine Ew_of (pc' := 32) (fun _ => x_iload_n rfl (rk_o (l6_2) rfl rfl)) ?_
        refine Ew_of (pc' := 33) (fun _ => x_iload_n rfl rk_s) ?_
        refine w_inv H (o := 4) rfl rfl rfl (H.perm 4 rfl) rfl rfl (by rfl) (M350 H (F 1 1) ((((hS36 1 1 rfl).trans (hS_6 1 1 rfl)).trans (hS4 1 1 rfl))) (y6_4_9) (((hS36 4 9 rfl).trans (ey6_4_9))) (y6_4_10) (((hS36 4 10 rfl).trans (ey6_4_10))) (show inr (x6_2) by omega) (show inr (z38) by omega) (show 0 ≤ (x6_2) ∧ (x6_2) < (F 1 1) ∧ 0 ≤ (z38) ∧ (z38) ≤ 255 by omega) (show (y6_4_10) = 0 by omega) (show (y6_4_9) ≤ (F 1 1) by omega) (fun z43 σ F39 A40 H hS41 hA42 y44 ey45 y46 ey47 pz43_0 pz43_1 pz43_2 pz43_3 => ⟨rretB rfl pz43_0, ?_⟩))
        have r48 : (0 : Int) ≤ y44 ∧ y44 ≤ 65536 := by have h1 : (0 : Int) ≤ F39 4 9 ∧ F39 4 9 ≤ 65536 := H.frng 4 9; rw [show F39 4 9 = y44 from (ey45)] at h1; exact h1
        have r49 : (-2147483648 : Int) ≤ y46 ∧ y46 ≤ 2147483647 := by have h1 : (-2147483648 : Int) ≤ F39 4 10 ∧ F39 4 10 ≤ 2147483647 := H.frng 4 10; rw [show F39 4 10 = y46 from (ey47)] at h1; exact h1
        have hc46 : ∀ (ls : rO) (σ : rS) (F_c46 : hF) (A_c46 : hA) , rlook ls 0 = some (.ref (D 4)) → rlook ls 1 = some (I (a1)) → HS σ0 σ D N F_c46 A_c46 → SF [(4, 2), (4, 8), (4, 10), (4, 11)] F39 F_c46 → SA [23] A40 A_c46 → ∀ yc46_4_2 : Int, F_c46 4 2 = yc46_4_2 → ∀ yc46_4_10 : Int, F_c46 4 10 = yc46_4_10 → ((yc46_4_10) ≠ 0 ∨ (x6_2) + 4 ≤ (y44) ∧ (y44) ≤ (F 1 1)) → (0 ≤ (yc46_4_2) ∧ (yc46_4_2) ≤ (a1)) → (0 ≤ (y44) ∧ (y44) ≤ (F 1 1)) → Ew 352 (d + 5) 46 ls [] σ c s Q := by
         as_aux_lemma =>
          intro  ls σ F_c46 A_c46  lc46_0 lc46_1 H hS_c46 hA_c46 yc46_4_2 eyc46_4_2 yc46_4_10 eyc46_4_10  jc46_0 jc46_1 jc46_2
          have r50 : (-2147483648 : Int) ≤ yc46_4_2 ∧ yc46_4_2 ≤ 2147483647 := by have h1 : (-2147483648 : Int) ≤ F_c46 4 2 ∧ F_c46 4 2 ≤ 2147483647 := H.frng 4 2; rw [show F_c46 4 2 = yc46_4_2 from (eyc46_4_2)] at h1; exact h1
          have r51 : (-2147483648 : Int) ≤ yc46_4_10 ∧ yc46_4_10 ≤ 2147483647 := by have h1 : (-2147483648 : Int) ≤ F_c46 4 10 ∧ F_c46 4 10 ≤ 2147483647 := H.frng 4 10; rw [show F_c46 4 10 = yc46_4_10 from (eyc46_4_10)] at h1; exact h1
          refine Ew_of (pc' := 47) (fun _ => x_aload_n rfl lc46_0) ?_
          refine w_gI H (o := 4) (w := y44) rfl (H.perm 4 rfl) rfl rfl rfl (fun _ => rfl) ((hS_c46 4 9 rfl).trans (ey45)) ?_
          refine Ew_of (pc' := 51) (fun _ => x_istore_n rfl) ?_
          refine Ew_of (pc' := 6) (fun _ => x_goto rfl rfl) ?_
          exact ih6 _ (by omega) _ σ _ _ (y44) (rk_o (lc46_0) rfl rfl) (rk_o (lc46_1) rfl rfl) (rk_s) H (SF_trans (SF_trans (SF_trans (hS_6) hS36 (any_sub rfl)) hS41 (any_sub rfl)) hS_c46 (any_sub rfl)) (SA_trans (SA_trans (SA_trans (hA_6) hA37 (any_subA rfl)) hA42 (any_subA rfl)) hA_c46 (any_subA rfl)) (yc46_4_2) ((eyc46_4_2)) (y44) (((hS_c46 4 9 rfl).trans (ey45))) (yc46_4_10) ((eyc46_4_10))  (show inr (y44) by omega) (show 0 ≤ (y44) ∧ (y44) ≤ (F 1 1) by omega) (show (y44) ≤ (F 1 1) by omega) (show 0 ≤ (yc46_4_2) ∧ (yc46_4_2) ≤ (a1) by omega) (show 0 ≤ 0 + (if (yc46_4_10) = 0 then (F 1 1) - (y44) + 1 else 0) ∨ True by omega) rfl
        refine w_ifeq (t := 46) rfl rfl (show inr (z43) by omega) (fun b52 => ?_) (fun b52 => ?_)
        · exact hc46  _ σ _ _  (rk_o (l6_0) rfl rfl) (rk_o (l6_1) rfl rfl) H (SF_refl) (SA_refl) (y6_4_2) ((((hS41 4 2 rfl).trans (hS36 4 2 rfl)).trans (ey6_4_2))) (y46) ((ey47))  (show (y46) ≠ 0 ∨ (x6_2) + 4 ≤ (y44) ∧ (y44) ≤ (F 1 1) by omega) (show 0 ≤ (y6_4_2) ∧ (y6_4_2) ≤ (a1) by omega) (show 0 ≤ (y44) ∧ (y44) ≤ (F 1 1) by omega)
        · refine Ew_of (pc' := 40) (fun _ => x_aload_n rfl (rk_o (l6_0) rfl rfl)) ?_
          refine Ew_of (pc' := 41) (fun _ => x_iload_n rfl (rk_o (l6_2) rfl rfl)) ?_
          refine Ew_of (pc' := 42) (fun _ => x_iload_n rfl rk_s) ?_
          refine Ew_of (pc' := 43) (fun _ => x_iload_n rfl (rk_o (l6_1) rfl rfl)) ?_
          refine w_inv H (o := 4) rfl rfl rfl (H.perm 4 rfl) rfl rfl (by rfl) (M351 H (F 1 1) (((((hS41 1 1 rfl).trans (hS36 1 1 rfl)).trans (hS_6 1 1 rfl)).trans (hS4 1 1 rfl))) (y6_4_2) ((((hS41 4 2 rfl).trans (hS36 4 2 rfl)).trans (ey6_4_2))) (y44) ((ey45)) (y46) ((ey47)) (show inr (x6_2) by omega) (show inr (z38) by omega) (show inr (a1) by omega) (show 0 ≤ (x6_2) ∧ (x6_2) < (F 1 1) ∧ 0 ≤ (z38) ∧ (z38) ≤ 255 by omega) (show (y46) = 0 by omega) (show (x6_2) + 4 ≤ (y44) ∧ (y44) ≤ (F 1 1) ∧ ((z38) ≤ 1 → (x6_2) + 8 ≤ (y44)) by omega) (show 0 ≤ (y6_4_2) ∧ (y6_4_2) ≤ (a1) ∧ (a1) ≤ 65536 by omega) (fun σ F53 A54 H hS55 hA56 y58 ey59 pz57_0 => ⟨rfl, ?_⟩))
          have r60 : (-2147483648 : Int) ≤ y58 ∧ y58 ≤ 2147483647 := by have h1 : (-2147483648 : Int) ≤ F53 4 2 ∧ F53 4 2 ≤ 2147483647 := H.frng 4 2; rw [show F53 4 2 = y58 from (ey59)] at h1; exact h1
          have r61 : (-2147483648 : Int) ≤ F53 4 10 ∧ F53 4 10 ≤ 2147483647 := by have h1 : (-2147483648 : Int) ≤ F53 4 10 ∧ F53 4 10 ≤ 2147483647 := H.frng 4 10; rw [show F53 4 10 = F53 4 10 from rfl] at h1; exact h1
          exact hc46  _ σ _ _  (rk_o (l6_0) rfl rfl) (rk_o (l6_1) rfl rfl) H (SF_trans (SF_refl) hS55 (any_sub rfl)) (SA_trans (SA_refl) hA56 (any_subA rfl)) (y58) ((ey59)) (F53 4 10) (rfl)  (show (F53 4 10) ≠ 0 ∨ (x6_2) + 4 ≤ (y44) ∧ (y44) ≤ (F 1 1) by omega) (show 0 ≤ (y58) ∧ (y58) ≤ (a1) by omega) (show 0 ≤ (y44) ∧ (y44) ≤ (F 1 1) by omega)
/-- Tags.putRow -/
theorem M347 {σ0 σ : rS} {D N : Nat → Nat} {F : hF} {A : hA} {d c s : Nat} {Q : wQ} (H : HS σ0 σ D N F A) {a1 a2 a3 : Int} (u4_2 : Int) (eu4_2 : F 4 2 = u4_2) (u4_5 : Int) (eu4_5 : F 4 5 = u4_5) (w24 : Int → Int) (ew24 : A 24 = w24) (w25 : Int → Int) (ew25 : A 25 = w25) (h0 : inr (a1)) (h1 : inr (a2)) (h2 : inr (a3)) (h3 : 0 ≤ (a1) ∧ (a1) ≤ (a2) ∧ (a2) ≤ 16384) (h4 : 0 ≤ (a3) ∧ (a3) ≤ 3) (h5 : 0 ≤ (u4_2) ∧ (u4_2) ≤ 7000000) (h6 : KQ bN ((w24)) ((u4_5))) (h7 : KQ bF ((w25)) ((u4_5))) (k : ∀ σ F' A', HS σ0 σ D N F' A' → SF [(4, 2), (4, 5), (4, 6), (4, 7)] F F' → SA [23, 24, 25] A A' → ∀ y4_2 : Int, F' 4 2 = y4_2 → ∀ y4_5 : Int, F' 4 5 = y4_5 → ∀ v24 : Int → Int, A' 24 = v24 → ∀ v25 : Int → Int, A' 25 = v25 → (KQ bN ((v24)) ((y4_5))) → (KQ bF ((v25)) ((y4_5))) → ((u4_2) ≤ (y4_2) ∧ (y4_2) ≤ (u4_2) + 10 * ((a2) - (a1)) + 28) → Q none σ c s) : Ew 347 (d + 5) 0 (rargs 0 [.ref (D 4), I a1, I a2, I a3]) [] σ c s Q := by
  have r1 : (-2147483648 : Int) ≤ u4_2 ∧ u4_2 ≤ 2147483647 := by have h1 : (-2147483648 : Int) ≤ F 4 2 ∧ F 4 2 ≤ 2147483647 := H.frng 4 2; rw [show F 4 2 = u4_2 from (eu4_2)] at h1; exact h1
  have r2 : (0 : Int) ≤ u4_5 ∧ u4_5 ≤ 16384 := by have h1 : (0 : Int) ≤ F 4 5 ∧ F 4 5 ≤ 16384 := H.frng 4 5; rw [show F 4 5 = u4_5 from (eu4_5)] at h1; exact h1
  refine Ew_of (pc' := 1) (fun _ => x_aload_n rfl rfl) ?_
  refine w_gI H (o := 4) (w := u4_2) rfl (H.perm 4 rfl) rfl rfl rfl (fun _ => rfl) (eu4_2) ?_
  refine Ew_of (pc' := 6) (fun _ => x_istore rfl) ?_
  refine Ew_of (pc' := 7) (fun _ => x_aload_n rfl (rk_o (rfl) rfl rfl)) ?_
  refine Ew_of (pc' := 8) (fun _ => x_iconst rfl) ?_
  refine Ew_of (pc' := 9) (fun _ => x_iconst rfl) ?_
  refine w_inv H (o := 4) rfl rfl rfl (H.perm 4 rfl) rfl rfl (by rfl) (M321 H (u4_2) ((eu4_2)) (show inr (0) by omega) (show inr (4) by omega) (show 0 ≤ (4) ∧ (4) ≤ 4 by omega) (show 0 ≤ (u4_2) ∧ (u4_2) ≤ 10000000 by omega) (fun σ F3 A4 H hS5 hA6 y8 ey9 pz7_0 => ⟨rfl, ?_⟩))
  have r10 : (-2147483648 : Int) ≤ y8 ∧ y8 ≤ 2147483647 := by have h1 : (-2147483648 : Int) ≤ F3 4 2 ∧ F3 4 2 ≤ 2147483647 := H.frng 4 2; rw [show F3 4 2 = y8 from (ey9)] at h1; exact h1
  refine Ew_of (pc' := 13) (fun _ => x_aload_n rfl (rk_o (rfl) rfl rfl)) ?_
  refine Ew_of (pc' := 14) (fun _ => x_aload_n rfl (rk_o (rfl) rfl rfl)) ?_
  refine w_gT H (o := 4) (t := 1) rfl (H.perm 4 rfl) rfl rfl rfl rfl rfl rfl ?_
  refine w_gT H (o := 1) (t := 14) rfl (H.perm 1 rfl) rfl rfl rfl rfl rfl rfl ?_
  refine Ew_of (pc' := 21) (fun _ => x_iload_n rfl (rk_o (rfl) rfl rfl)) ?_
  refine Ew_of (pc' := 22) (fun _ => x_iload_n rfl (rk_o (rfl) rfl rfl)) ?_
  refine w_stat24 rfl rfl (by rfl) (M345_14 H (show inr (a1) by omega) (show inr (a2) by omega) (show 0 ≤ (a1) ∧ (a1) ≤ (a2) ∧ (a2) ≤ 65536 by omega) (fun z15 σ F11 A12 H hS13 hA14 pz15_0 => ⟨rfl, ?_⟩))
  refine Ew_of (pc' := 26) (fun _ => x_iconst rfl) ?_
  refine w_inv H (o := 4) rfl rfl rfl (H.perm 4 rfl) rfl rfl (by rfl) (M321 H (y8) (((hS13 4 2 rfl).trans (ey9))) (show inr (z15) by omega) (show inr (4) by omega) (show 0 ≤ (4) ∧ (4) ≤ 4 by omega) (show 0 ≤ (y8) ∧ (y8) ≤ 10000000 by omega) (fun σ F16 A17 H hS18 hA19 y21 ey22 pz20_0 => ⟨rfl, ?_⟩))
  have r23 : (-2147483648 : Int) ≤ y21 ∧ y21 ≤ 2147483647 := by have h1 : (-2147483648 : Int) ≤ F16 4 2 ∧ F16 4 2 ≤ 2147483647 := H.frng 4 2; rw [show F16 4 2 = y21 from (ey22)] at h1; exact h1
  refine Ew_of (pc' := 30) (fun _ => x_aload_n rfl (rk_o (rfl) rfl rfl)) ?_
  refine Ew_of (pc' := 31) (fun _ => x_iload_n rfl (rk_o (rfl) rfl rfl)) ?_
  refine Ew_of (pc' := 32) (fun _ => x_iload_n rfl (rk_o (rfl) rfl rfl)) ?_
  refine Ew_of (pc' := 33) (fun _ => x_iload_n rfl (rk_o (rfl) rfl rfl)) ?_
  refine w_inv H (o := 4) rfl rfl rfl (H.perm 4 rfl) rfl rfl (by rfl) (M333 H (y21) ((ey22)) (u4_5) (((((hS18 4 5 rfl).trans (hS13 4 5 rfl)).trans (hS5 4 5 rfl)).trans (eu4_5))) (w24) ((funext (hA19 24 rfl)).trans ((funext (hA14 24 rfl)).trans ((funext (hA6 24 rfl)).trans (ew24)))) (w25) ((funext (hA19 25 rfl)).trans ((funext (hA14 25 rfl)).trans ((funext (hA6 25 rfl)).trans (ew25)))) (show inr (a1) by omega) (show inr (a2) by omega) (show inr (a3) by omega) (show 0 ≤ (a1) ∧ (a1) ≤ (a2) ∧ (a2) ≤ 16384 by omega) (show 0 ≤ (a3) ∧ (a3) ≤ 3 by omega) (show 0 ≤ (y21) ∧ (y21) ≤ 8000000 by omega) (show KQ bN ((w24)) ((u4_5)) by assumption) (show KQ bF ((w25)) ((u4_5)) by assumption) (fun σ F24 A25 H hS26 hA27 y29 ey30 y31 ey32 w33 ew34 w35 ew36 pz28_0 pz28_1 pz28_2 => ⟨rfl, ?_⟩))
  have r37 : (-2147483648 : Int) ≤ y29 ∧ y29 ≤ 2147483647 := by have h1 : (-2147483648 : Int) ≤ F24 4 2 ∧ F24 4 2 ≤ 2147483647 := H.frng 4 2; rw [show F24 4 2 = y29 from (ey30)] at h1; exact h1
  have r38 : (0 : Int) ≤ y31 ∧ y31 ≤ 16384 := by have h1 : (0 : Int) ≤ F24 4 5 ∧ F24 4 5 ≤ 16384 := H.frng 4 5; rw [show F24 4 5 = y31 from (ey32)] at h1; exact h1
  refine Ew_of (pc' := 37) (fun _ => x_aload_n rfl (rk_o (rfl) rfl rfl)) ?_
  refine w_gI H (o := 4) (w := y29) rfl (H.perm 4 rfl) rfl rfl rfl (fun _ => rfl) (ey30) ?_
  refine Ew_of (pc' := 42) (fun _ => x_iload rfl rk_s) ?_
  refine w_isub rfl ?_
  refine Ew_of (pc' := 44) (fun _ => x_iconst rfl) ?_
  refine w_isub rfl ?_
  refine Ew_of (pc' := 47) (fun _ => x_istore rfl) ?_
  refine Ew_of (pc' := 48) (fun _ => x_iconst rfl) ?_
  refine Ew_of (pc' := 50) (fun _ => x_istore rfl) ?_
  have hc108 : ∀ (ls : rO) (σ : rS) (F_c108 : hF) (A_c108 : hA) (xc108_5 : Int) (xc108_6 : Int), rlook ls 0 = some (.ref (D 4)) → rlook ls 4 = some (I (u4_2)) → rlook ls 5 = some (I (xc108_5)) → rlook ls 6 = some (I (xc108_6)) → HS σ0 σ D N F_c108 A_c108 → SF [(4, 2)] F24 F_c108 → SA [23] A25 A_c108 → ∀ yc108_4_2 : Int, F_c108 4 2 = yc108_4_2 → (inr (xc108_5)) → (inr (xc108_6)) → ((u4_2) + 8 ≤ (yc108_4_2) ∧ (yc108_4_2) ≤ (u4_2) + 10 * ((a2) - (a1)) + 28) → Ew 347 (d + 5) 108 ls [] σ c s Q := by
   as_aux_lemma =>
    intro  ls σ F_c108 A_c108 xc108_5 xc108_6 lc108_0 lc108_4 lc108_5 lc108_6 H hS_c108 hA_c108 yc108_4_2 eyc108_4_2  jc108_0 jc108_1 jc108_2
    have r39 : (-2147483648 : Int) ≤ yc108_4_2 ∧ yc108_4_2 ≤ 2147483647 := by have h1 : (-2147483648 : Int) ≤ F_c108 4 2 ∧ F_c108 4 2 ≤ 2147483647 := H.frng 4 2; rw [show F_c108 4 2 = yc108_4_2 from (eyc108_4_2)] at h1; exact h1
    refine Ew_of (pc' := 109) (fun _ => x_aload_n rfl lc108_0) ?_
    refine w_gI H (o := 4) (w := yc108_4_2) rfl (H.perm 4 rfl) rfl rfl rfl (fun _ => rfl) (eyc108_4_2) ?_
    refine Ew_of (pc' := 114) (fun _ => x_istore rfl) ?_
    refine Ew_of (pc' := 115) (fun _ => x_aload_n rfl (rk_o (lc108_0) rfl rfl)) ?_
    refine Ew_of (pc' := 117) (fun _ => x_iload rfl (rk_o (lc108_4) rfl rfl)) ?_
    refine w_pI H (o := 4) rfl rfl (H.perm 4 rfl) rfl rfl rfl (fun _ => rfl) rfl (show (-2147483648 : Int) ≤ u4_2 ∧ u4_2 ≤ 2147483647 by omega) (fun σ H => ?_)
    refine Ew_of (pc' := 121) (fun _ => x_aload_n rfl (rk_o (lc108_0) rfl rfl)) ?_
    refine Ew_of (pc' := 123) (fun _ => x_iload rfl (rk_o (lc108_6) rfl rfl)) ?_
    refine w_inv H (o := 4) rfl rfl rfl (H.perm 4 rfl) rfl rfl (by rfl) (M320 H (u4_2) (rfl) (show inr (xc108_6) by omega) (show 0 ≤ (u4_2) ∧ (u4_2) ≤ 100000000 by omega) (fun σ F40 A41 H hS42 hA43 y45 ey46 pz44_0 => ⟨rfl, ?_⟩))
    have r47 : (-2147483648 : Int) ≤ y45 ∧ y45 ≤ 2147483647 := by have h1 : (-2147483648 : Int) ≤ F40 4 2 ∧ F40 4 2 ≤ 2147483647 := H.frng 4 2; rw [show F40 4 2 = y45 from (ey46)] at h1; exact h1
    refine Ew_of (pc' := 127) (fun _ => x_aload_n rfl (rk_o (lc108_0) rfl rfl)) ?_
    refine Ew_of (pc' := 129) (fun _ => x_iload rfl (rk_o (lc108_5) rfl rfl)) ?_
    refine Ew_of (pc' := 130) (fun _ => x_iconst rfl) ?_
    refine w_inv H (o := 4) rfl rfl rfl (H.perm 4 rfl) rfl rfl (by rfl) (M321 H (y45) ((ey46)) (show inr (xc108_5) by omega) (show inr (3) by omega) (show 0 ≤ (3) ∧ (3) ≤ 4 by omega) (show 0 ≤ (y45) ∧ (y45) ≤ 10000000 by omega) (fun σ F48 A49 H hS50 hA51 y53 ey54 pz52_0 => ⟨rfl, ?_⟩))
    have r55 : (-2147483648 : Int) ≤ y53 ∧ y53 ≤ 2147483647 := by have h1 : (-2147483648 : Int) ≤ F48 4 2 ∧ F48 4 2 ≤ 2147483647 := H.frng 4 2; rw [show F48 4 2 = y53 from (ey54)] at h1; exact h1
    refine Ew_of (pc' := 134) (fun _ => x_aload_n rfl (rk_o (lc108_0) rfl rfl)) ?_
    refine Ew_of (pc' := 136) (fun _ => x_iload rfl rk_s) ?_
    refine w_pI H (o := 4) rfl rfl (H.perm 4 rfl) rfl rfl rfl (fun _ => rfl) rfl (show (-2147483648 : Int) ≤ yc108_4_2 ∧ yc108_4_2 ≤ 2147483647 by omega) (fun σ H => ?_)
    exact w_ret rfl (k σ _ _ H (SF_upd (SF_trans (SF_trans (SF_upd (SF_trans (SF_trans (SF_trans (SF_trans (SF_trans (SF_refl) hS5 (any_sub rfl)) hS13 (any_sub rfl)) hS18 (any_sub rfl)) hS26 (any_sub rfl)) hS_c108 (any_sub rfl)) rfl) hS42 (any_sub rfl)) hS50 (any_sub rfl)) rfl) (SA_trans (SA_trans (SA_trans (SA_trans (SA_trans (SA_trans (SA_trans (SA_refl) hA6 (any_subA rfl)) hA14 (any_subA rfl)) hA19 (any_subA rfl)) hA27 (any_subA rfl)) hA_c108 (any_subA rfl)) hA43 (any_subA rfl)) hA51 (any_subA rfl)) (yc108_4_2) (rfl) (y31) (((((hS50 4 5 rfl).trans (hS42 4 5 rfl)).trans (hS_c108 4 5 rfl)).trans (ey32))) (w33) ((funext (hA51 24 rfl)).trans ((funext (hA43 24 rfl)).trans ((funext (hA_c108 24 rfl)).trans (ew34)))) (w35) ((funext (hA51 25 rfl)).trans ((funext (hA43 25 rfl)).trans ((funext (hA_c108 25 rfl)).trans (ew36)))) (show KQ bN ((w33)) ((y31)) by assumption) (show KQ bF ((w35)) ((y31)) by assumption) (show (u4_2) ≤ (yc108_4_2) ∧ (yc108_4_2) ≤ (u4_2) + 10 * (a2 - a1) + 28 by omega))
  refine Ew_of (pc' := 52) (fun _ => x_iload rfl (rk_o (rk_s) rfl rfl)) ?_
  refine Ew_of (pc' := 53) (fun _ => x_iconst rfl) ?_
  refine w_isub rfl ?_
  refine Ew_of (pc' := 55) (fun _ => x_iload_n rfl (rk_o (rk_o (rk_o (rfl) rfl rfl) rfl rfl) rfl rfl)) ?_
  refine Ew_of (pc' := 56) (fun _ => x_iload_n rfl (rk_o (rk_o (rk_o (rfl) rfl rfl) rfl rfl) rfl rfl)) ?_
  refine w_isub rfl ?_
  refine w_icmplt (t := 108) rfl rfl (show inr ((((y29 - u4_2) - 4) - 4)) by omega) (show inr ((a2 - a1)) by omega) (fun b56 => ?_) (fun b56 => ?_)
  · exact hc108  _ σ _ _ (((y29 - u4_2) - 4)) (0) (rk_o (rk_o (rk_o (rfl) rfl rfl) rfl rfl) rfl rfl) (rk_o (rk_o (rk_s) rfl rfl) rfl rfl) (rk_o (rk_s) rfl rfl) (rk_s) H (SF_refl) (SA_refl) (y29) ((ey30))  (show inr (((y29 - u4_2) - 4)) by omega) (show inr (0) by omega) (show (u4_2) + 8 ≤ (y29) ∧ (y29) ≤ (u4_2) + 10 * ((a2) - (a1)) + 28 by omega)
  · refine Ew_of (pc' := 61) (fun _ => x_iconst rfl) ?_
    refine Ew_of (pc' := 63) (fun _ => x_istore rfl) ?_
    refine Ew_of (pc' := 64) (fun _ => x_iload_n rfl (rk_o (rk_o (rk_o (rk_o (rfl) rfl rfl) rfl rfl) rfl rfl) rfl rfl)) ?_
    refine Ew_of (pc' := 65) (fun _ => x_iload_n rfl (rk_o (rk_o (rk_o (rk_o (rfl) rfl rfl) rfl rfl) rfl rfl) rfl rfl)) ?_
    refine w_isub rfl ?_
    refine Ew_of (pc' := 67) (fun _ => x_iconst rfl) ?_
    refine w_iadd rfl ?_
    refine Ew_of (pc' := 70) (fun _ => x_istore rfl) ?_
    refine Ew_of (pc' := 71) (fun _ => x_aload_n rfl (rk_o (rk_o (rk_o (rk_o (rk_o (rfl) rfl rfl) rfl rfl) rfl rfl) rfl rfl) rfl rfl)) ?_
    refine Ew_of (pc' := 73) (fun _ => x_iload rfl (rk_o (rk_o (rk_o (rk_o (rk_s) rfl rfl) rfl rfl) rfl rfl) rfl rfl)) ?_
    refine Ew_of (pc' := 75) (fun _ => x_bipush (z := 8) rfl (by decide)) ?_
    refine w_iadd rfl ?_
    refine w_pI H (o := 4) rfl rfl (H.perm 4 rfl) rfl rfl rfl (fun _ => rfl) rfl (show (-2147483648 : Int) ≤ (u4_2 + 8) ∧ (u4_2 + 8) ≤ 2147483647 by omega) (fun σ H => ?_)
    refine Ew_of (pc' := 80) (fun _ => x_iload_n rfl (rk_o (rk_o (rk_o (rk_o (rk_o (rfl) rfl rfl) rfl rfl) rfl rfl) rfl rfl) rfl rfl)) ?_
    refine Ew_of (pc' := 82) (fun _ => x_istore rfl) ?_
    suffices hl82 : ∀ (m : Nat), ∀ (ls : rO) (σ : rS) (F_82 : hF) (A_82 : hA) (x82_7 : Int), rlook ls 0 = some (.ref (D 4)) → rlook ls 2 = some (I (a2)) → rlook ls 4 = some (I (u4_2)) → rlook ls 5 = some (I (((a2 - a1) + 4))) → rlook ls 6 = some (I (1)) → rlook ls 7 = some (I (x82_7)) → HS σ0 σ D N F_82 A_82 → SF [(4, 2)] (updF F24 4 2 ((u4_2 + 8))) F_82 → SA [23] A25 A_82 → ∀ y82_4_2 : Int, F_82 4 2 = y82_4_2 → (inr (x82_7)) → ((a1) ≤ (x82_7)) → ((x82_7) ≤ (a1) ∨ (x82_7) ≤ ((a2))) → ((y82_4_2) = (u4_2) + 8 + ((x82_7) - (a1))) → (((a2)) - (x82_7)).toNat = m → Ew 347 (d + 5) 82 ls [] σ c s Q from
      hl82 _ _ σ _ _ (a1) (rk_o (rk_o (rk_o (rk_o (rk_o (rk_o (rfl) rfl rfl) rfl rfl) rfl rfl) rfl rfl) rfl rfl) rfl rfl) (rk_o (rk_o (rk_o (rk_o (rk_o (rk_o (rfl) rfl rfl) rfl rfl) rfl rfl) rfl rfl) rfl rfl) rfl rfl) (rk_o (rk_o (rk_o (rk_o (rk_o (rk_s) rfl rfl) rfl rfl) rfl rfl) rfl rfl) rfl rfl) (rk_o (rk_s) rfl rfl) (rk_o (rk_o (rk_s) rfl rfl) rfl rfl) (rk_s) H (SF_refl) (SA_refl) ((u4_2 + 8)) (rfl)  (show inr (a1) by omega) (show (a1) ≤ (a1) by omega) (show (a1) ≤ (a1) ∨ (a1) ≤ ((a2)) by omega) (show ((u4_2 + 8)) = (u4_2) + 8 + ((a1) - (a1)) by omega) rfl
    as_aux_lemma =>
    intro m
    induction m using Nat.strongRecOn with
    | _ m ih82 =>
      intro ls σ F_82 A_82 x82_7 l82_0 l82_2 l82_4 l82_5 l82_6 l82_7 H hS_82 hA_82 y82_4_2 ey82_4_2  j82_0 j82_1 j82_2 j82_3 hm82
      have r57 : (-2147483648 : Int) ≤ y82_4_2 ∧ y82_4_2 ≤ 2147483647 := by have h1 : (-2147483648 : Int) ≤ F_82 4 2 ∧ F_82 4 2 ≤ 2147483647 := H.frng 4 2; rw [show F_82 4 2 = y82_4_2 from (ey82_4_2)] at h1; exact h1
      refine Ew_of (pc' := 84) (fun _ => x_iload rfl l82_7) ?_
      refine Ew_of (pc' := 85) (fun _ => x_iload_n rfl l82_2) ?_
      refine w_icmpge (t := 108) rfl rfl (show inr (x82_7) by omega) (show inr (a2) by omega) (fun b58 => ?_) (fun b58 => ?_)
      · exact hc108  _ σ _ _ (((a2 - a1) + 4)) (1) (l82_0) (l82_4) (l82_5) (l82_6) H (SF_trans (SF_upd (SF_refl) rfl) hS_82 (any_sub rfl)) (SA_trans (SA_refl) hA_82 (any_subA rfl)) (y82_4_2) ((ey82_4_2))  (show inr (((a2 - a1) + 4)) by omega) (show inr (1) by omega) (show (u4_2) + 8 ≤ (y82_4_2) ∧ (y82_4_2) ≤ (u4_2) + 10 * ((a2) - (a1)) + 28 by omega)
      · refine Ew_of (pc' := 89) (fun _ => x_aload_n rfl l82_0) ?_
        refine Ew_of (pc' := 90) (fun _ => x_aload_n rfl l82_0) ?_
        refine w_gT H (o := 4) (t := 1) rfl (H.perm 4 rfl) rfl rfl rfl rfl rfl rfl ?_
        refine w_gT H (o := 1) (t := 14) rfl (H.perm 1 rfl) rfl rfl rfl rfl rfl rfl ?_
        refine Ew_of (pc' := 98) (fun _ => x_iload rfl l82_7) ?_
        refine w_lI H (o := 14) (n := 65536) rfl (H.perm 14 rfl) rfl rfl (H.fix 14 rfl rfl) (show 0 ≤ x82_7 ∧ x82_7 < ((65536 : Nat) : Int) by omega) (by decide) (fun v59 ev59 qv59 => ?_)
        have qv59 : (0 : Int) ≤ v59 ∧ v59 ≤ 255 := qv59
        have ev59 : (A 14) (x82_7) = v59 := (congrFun ((funext (hA_82 14 rfl)).trans ((funext (hA27 14 rfl)).trans ((funext (hA19 14 rfl)).trans ((funext (hA14 14 rfl)).trans (funext (hA6 14 rfl)))))) (x82_7)).symm.trans ev59
        refine w_inv H (o := 4) rfl rfl rfl (H.perm 4 rfl) rfl rfl (by rfl) (M320 H (y82_4_2) ((ey82_4_2)) (show inr (v59) by omega) (show 0 ≤ (y82_4_2) ∧ (y82_4_2) ≤ 100000000 by omega) (fun σ F60 A61 H hS62 hA63 y65 ey66 pz64_0 => ⟨rfl, ?_⟩))
        have r67 : (-2147483648 : Int) ≤ y65 ∧ y65 ≤ 2147483647 := by have h1 : (-2147483648 : Int) ≤ F60 4 2 ∧ F60 4 2 ≤ 2147483647 := H.frng 4 2; rw [show F60 4 2 = y65 from (ey66)] at h1; exact h1
        refine Ew_of (pc' := 105) (fun _ => x_iinc (len := 3) rfl (l82_7)) ?_
        refine Ew_of (pc' := 82) (fun _ => x_goto rfl rfl) ?_
        exact ih82 _ (by omega) _ σ _ _ ((x82_7 + 1)) (rk_o (l82_0) rfl rfl) (rk_o (l82_2) rfl rfl) (rk_o (l82_4) rfl rfl) (rk_o (l82_5) rfl rfl) (rk_o (l82_6) rfl rfl) (rk_s) H (SF_trans (hS_82) hS62 (any_sub rfl)) (SA_trans (hA_82) hA63 (any_subA rfl)) (y65) ((ey66))  (show inr ((x82_7 + 1)) by omega) (show (a1) ≤ ((x82_7 + 1)) by omega) (show ((x82_7 + 1)) ≤ (a1) ∨ ((x82_7 + 1)) ≤ ((a2)) by omega) (show (y65) = (u4_2) + 8 + (((x82_7 + 1)) - (a1)) by omega) rfl
/-- Tags.chunks -/
theorem M348 {σ0 σ : rS} {D N : Nat → Nat} {F : hF} {A : hA} {d c s : Nat} {Q : wQ} (H : HS σ0 σ D N F A) {a1 a2 a3 : Int} (u1_1 : Int) (eu1_1 : F 1 1 = u1_1) (u4_5 : Int) (eu4_5 : F 4 5 = u4_5) (w24 : Int → Int) (ew24 : A 24 = w24) (w25 : Int → Int) (ew25 : A 25 = w25) (h0 : inr (a1)) (h1 : inr (a2)) (h2 : inr (a3)) (h3 : 1 ≤ (a1) ∧ (a1) ≤ 65536) (h4 : 0 ≤ (a2) ∧ (a2) ≤ 3) (h5 : 0 ≤ (a3) ∧ (a3) ≤ 255) (h6 : (u1_1) ≤ 16384) (h7 : KQ bN ((w24)) ((u4_5))) (h8 : KQ bF ((w25)) ((u4_5))) (k : ∀ (z : Int) σ F' A', HS σ0 σ D N F' A' → SF [(1, 3), (4, 2), (4, 5), (4, 6), (4, 7)] F F' → SA [15, 23, 24, 25] A A' → ∀ y4_5 : Int, F' 4 5 = y4_5 → ∀ v24 : Int → Int, A' 24 = v24 → ∀ v25 : Int → Int, A' 25 = v25 → (inr (z)) → (KQ bN ((v24)) ((y4_5))) → (KQ bF ((v25)) ((y4_5))) → Q (some (I z)) σ c s) : Ew 348 (d + 6) 0 (rargs 0 [.ref (D 4), I a1, I a2, I a3]) [] σ c s Q := by
  have r1 : (0 : Int) ≤ u1_1 ∧ u1_1 ≤ 65536 := by have h1 : (0 : Int) ≤ F 1 1 ∧ F 1 1 ≤ 65536 := H.frng 1 1; rw [show F 1 1 = u1_1 from (eu1_1)] at h1; exact h1
  have r2 : (0 : Int) ≤ u4_5 ∧ u4_5 ≤ 16384 := by have h1 : (0 : Int) ≤ F 4 5 ∧ F 4 5 ≤ 16384 := H.frng 4 5; rw [show F 4 5 = u4_5 from (eu4_5)] at h1; exact h1
  refine Ew_of (pc' := 1) (fun _ => x_aload_n rfl rfl) ?_
  refine Ew_of (pc' := 2) (fun _ => x_iconst rfl) ?_
  refine w_pI H (o := 4) rfl rfl (H.perm 4 rfl) rfl rfl rfl (fun _ => rfl) rfl (show (-2147483648 : Int) ≤ 0 ∧ 0 ≤ 2147483647 by omega) (fun σ H => ?_)
  refine Ew_of (pc' := 6) (fun _ => x_aload_n rfl rfl) ?_
  refine Ew_of (pc' := 9) (fun _ => x_sipush (z := 255) rfl (by decide)) ?_
  refine w_inv H (o := 4) rfl rfl rfl (H.perm 4 rfl) rfl rfl (by rfl) (M320 H (0) (rfl) (show inr (255) by omega) (show 0 ≤ (0) ∧ (0) ≤ 100000000 by omega) (fun σ F3 A4 H hS5 hA6 y8 ey9 pz7_0 => ⟨rfl, ?_⟩))
  have r10 : (-2147483648 : Int) ≤ y8 ∧ y8 ≤ 2147483647 := by have h1 : (-2147483648 : Int) ≤ F3 4 2 ∧ F3 4 2 ≤ 2147483647 := H.frng 4 2; rw [show F3 4 2 = y8 from (ey9)] at h1; exact h1
  refine Ew_of (pc' := 13) (fun _ => x_aload_n rfl rfl) ?_
  refine Ew_of (pc' := 15) (fun _ => x_bipush (z := 6) rfl (by decide)) ?_
  refine Ew_of (pc' := 16) (fun _ => x_iconst rfl) ?_
  refine w_inv H (o := 4) rfl rfl rfl (H.perm 4 rfl) rfl rfl (by rfl) (M321 H (y8) ((ey9)) (show inr (6) by omega) (show inr (3) by omega) (show 0 ≤ (3) ∧ (3) ≤ 4 by omega) (show 0 ≤ (y8) ∧ (y8) ≤ 10000000 by omega) (fun σ F11 A12 H hS13 hA14 y16 ey17 pz15_0 => ⟨rfl, ?_⟩))
  have r18 : (-2147483648 : Int) ≤ y16 ∧ y16 ≤ 2147483647 := by have h1 : (-2147483648 : Int) ≤ F11 4 2 ∧ F11 4 2 ≤ 2147483647 := H.frng 4 2; rw [show F11 4 2 = y16 from (ey17)] at h1; exact h1
  refine Ew_of (pc' := 20) (fun _ => x_iconst rfl) ?_
  refine Ew_of (pc' := 22) (fun _ => x_istore rfl) ?_
  suffices hl22 : ∀ (m : Nat), ∀ (ls : rO) (σ : rS) (F_22 : hF) (A_22 : hA) (x22_4 : Int), rlook ls 0 = some (.ref (D 4)) → rlook ls 1 = some (I (a1)) → rlook ls 2 = some (I (a2)) → rlook ls 3 = some (I (a3)) → rlook ls 4 = some (I (x22_4)) → HS σ0 σ D N F_22 A_22 → SF [(4, 2)] F11 F_22 → SA [23] A12 A_22 → ∀ y22_4_2 : Int, F_22 4 2 = y22_4_2 → (inr (x22_4)) → ((0) ≤ (x22_4)) → ((x22_4) ≤ (0) ∨ (x22_4) ≤ ((6))) → ((y22_4_2) = 4 + (x22_4)) → (((6)) - (x22_4)).toNat = m → Ew 348 (d + 6) 22 ls [] σ c s Q from
    hl22 _ _ σ _ _ (0) (rk_o (rfl) rfl rfl) (rk_o (rfl) rfl rfl) (rk_o (rfl) rfl rfl) (rk_o (rfl) rfl rfl) (rk_s) H (SF_refl) (SA_refl) (y16) ((ey17))  (show inr (0) by omega) (show (0) ≤ (0) by omega) (show (0) ≤ (0) ∨ (0) ≤ ((6)) by omega) (show (y16) = 4 + (0) by omega) rfl
  as_aux_lemma =>
  intro m
  induction m using Nat.strongRecOn with
  | _ m ih22 =>
    intro ls σ F_22 A_22 x22_4 l22_0 l22_1 l22_2 l22_3 l22_4 H hS_22 hA_22 y22_4_2 ey22_4_2  j22_0 j22_1 j22_2 j22_3 hm22
    have r19 : (-2147483648 : Int) ≤ y22_4_2 ∧ y22_4_2 ≤ 2147483647 := by have h1 : (-2147483648 : Int) ≤ F_22 4 2 ∧ F_22 4 2 ≤ 2147483647 := H.frng 4 2; rw [show F_22 4 2 = y22_4_2 from (ey22_4_2)] at h1; exact h1
    refine Ew_of (pc' := 24) (fun _ => x_iload rfl l22_4) ?_
    refine Ew_of (pc' := 26) (fun _ => x_bipush (z := 6) rfl (by decide)) ?_
    refine w_icmpge (t := 44) rfl rfl (show inr (x22_4) by omega) (show inr (6) by omega) (fun b20 => ?_) (fun b20 => ?_)
    · refine Ew_of (pc' := 45) (fun _ => x_iconst rfl) ?_
      refine Ew_of (pc' := 47) (fun _ => x_istore rfl) ?_
      suffices hl47 : ∀ (m : Nat), ∀ (ls : rO) (σ : rS) (F_47 : hF) (A_47 : hA) (x47_4 : Int), rlook ls 0 = some (.ref (D 4)) → rlook ls 1 = some (I (a1)) → rlook ls 2 = some (I (a2)) → rlook ls 3 = some (I (a3)) → rlook ls 4 = some (I (x47_4)) → HS σ0 σ D N F_47 A_47 → SF [(4, 2), (4, 5), (4, 6), (4, 7)] F_22 F_47 → SA [23, 24, 25] A_22 A_47 → ∀ y47_4_2 : Int, F_47 4 2 = y47_4_2 → ∀ y47_4_5 : Int, F_47 4 5 = y47_4_5 → ∀ w47_24 : Int → Int, A_47 24 = w47_24 → ∀ w47_25 : Int → Int, A_47 25 = w47_25 → (inr (x47_4)) → (0 ≤ (x47_4)) → (0 ≤ (y47_4_2)) → ((y47_4_2) ≤ 10 + 310 * (x47_4) ∧ (x47_4) ≤ (u1_1) ∨ (y47_4_2) ≤ 10 + 310 * (u1_1) ∧ (u1_1) ≤ (x47_4)) → (KQ bN ((w47_24)) ((y47_4_5))) → (KQ bF ((w47_25)) ((y47_4_5))) → ((u1_1) - (x47_4)).toNat = m → Ew 348 (d + 6) 47 ls [] σ c s Q from
        hl47 _ _ σ _ _ (0) (rk_o (l22_0) rfl rfl) (rk_o (l22_1) rfl rfl) (rk_o (l22_2) rfl rfl) (rk_o (l22_3) rfl rfl) (rk_s) H (SF_refl) (SA_refl) (y22_4_2) ((ey22_4_2)) (u4_5) (((((hS_22 4 5 rfl).trans (hS13 4 5 rfl)).trans (hS5 4 5 rfl)).trans (eu4_5))) (w24) ((funext (hA_22 24 rfl)).trans ((funext (hA14 24 rfl)).trans ((funext (hA6 24 rfl)).trans (ew24)))) (w25) ((funext (hA_22 25 rfl)).trans ((funext (hA14 25 rfl)).trans ((funext (hA6 25 rfl)).trans (ew25)))) (show inr (0) by omega) (show 0 ≤ (0) by omega) (show 0 ≤ (y22_4_2) by omega) (show (y22_4_2) ≤ 10 + 310 * (0) ∧ (0) ≤ (u1_1) ∨ (y22_4_2) ≤ 10 + 310 * (u1_1) ∧ (u1_1) ≤ (0) by omega) (show KQ bN ((w24)) ((u4_5)) by assumption) (show KQ bF ((w25)) ((u4_5)) by assumption) rfl
      as_aux_lemma =>
      intro m
      induction m using Nat.strongRecOn with
      | _ m ih47 =>
        intro ls σ F_47 A_47 x47_4 l47_0 l47_1 l47_2 l47_3 l47_4 H hS_47 hA_47 y47_4_2 ey47_4_2 y47_4_5 ey47_4_5 w47_24 ew47_24 w47_25 ew47_25 j47_0 j47_1 j47_2 j47_3 j47_4 j47_5 hm47
        have r21 : (-2147483648 : Int) ≤ y47_4_2 ∧ y47_4_2 ≤ 2147483647 := by have h1 : (-2147483648 : Int) ≤ F_47 4 2 ∧ F_47 4 2 ≤ 2147483647 := H.frng 4 2; rw [show F_47 4 2 = y47_4_2 from (ey47_4_2)] at h1; exact h1
        have r22 : (0 : Int) ≤ y47_4_5 ∧ y47_4_5 ≤ 16384 := by have h1 : (0 : Int) ≤ F_47 4 5 ∧ F_47 4 5 ≤ 16384 := H.frng 4 5; rw [show F_47 4 5 = y47_4_5 from (ey47_4_5)] at h1; exact h1
        refine Ew_of (pc' := 49) (fun _ => x_iload rfl l47_4) ?_
        refine Ew_of (pc' := 50) (fun _ => x_aload_n rfl l47_0) ?_
        refine w_gT H (o := 4) (t := 1) rfl (H.perm 4 rfl) rfl rfl rfl rfl rfl rfl ?_
        refine w_gI H (o := 1) (w := u1_1) rfl (H.perm 1 rfl) rfl rfl rfl (fun _ => rfl) (((((hS_47 1 1 rfl).trans (hS_22 1 1 rfl)).trans (hS13 1 1 rfl)).trans (hS5 1 1 rfl)).trans (eu1_1)) ?_
        refine w_icmpge (t := 140) rfl rfl (show inr (x47_4) by omega) (show inr (u1_1) by omega) (fun b23 => ?_) (fun b23 => ?_)
        · refine Ew_of (pc' := 141) (fun _ => x_aload_n rfl l47_0) ?_
          refine w_gI H (o := 4) (w := y47_4_2) rfl (H.perm 4 rfl) rfl rfl rfl (fun _ => rfl) (ey47_4_2) ?_
          refine Ew_of (pc' := 146) (fun _ => x_ldc (z := 65536) rfl (by decide)) ?_
          refine w_icmple (t := 153) rfl rfl (show inr (y47_4_2) by omega) (show inr (65536) by omega) (fun b24 => ?_) (fun b24 => ?_)
          · refine Ew_of (pc' := 154) (fun _ => x_aload_n rfl l47_0) ?_
            refine w_inv H (o := 4) rfl rfl rfl (H.perm 4 rfl) rfl rfl (by rfl) (M322 H (y47_4_2) ((ey47_4_2)) (show 0 ≤ (y47_4_2) ∧ (y47_4_2) ≤ 65536 by omega) (fun z29 σ F25 A26 H hS27 hA28 pz29_0 => ⟨rfl, ?_⟩))
            exact w_ireturn rfl (k (z29) σ _ _ H (SF_trans (SF_trans (SF_trans (SF_trans (SF_trans (SF_upd (SF_refl) rfl) hS5 (any_sub rfl)) hS13 (any_sub rfl)) hS_22 (any_sub rfl)) hS_47 (any_sub rfl)) hS27 (any_sub rfl)) (SA_trans (SA_trans (SA_trans (SA_trans (SA_trans (SA_refl) hA6 (any_subA rfl)) hA14 (any_subA rfl)) hA_22 (any_subA rfl)) hA_47 (any_subA rfl)) hA28 (any_subA rfl)) (y47_4_5) (((hS27 4 5 rfl).trans (ey47_4_5))) (w47_24) ((funext (hA28 24 rfl)).trans (ew47_24)) (w47_25) ((funext (hA28 25 rfl)).trans (ew47_25)) (show inr (z29) by omega) (show KQ bN ((w47_24)) ((y47_4_5)) by assumption) (show KQ bF ((w47_25)) ((y47_4_5)) by assumption))
          · refine Ew_of (pc' := 150) (fun _ => x_iconst rfl) ?_
            refine Ew_of (pc' := 157) (fun _ => x_goto rfl rfl) ?_
            exact w_ireturn rfl (k ((-1)) σ _ _ H (SF_trans (SF_trans (SF_trans (SF_trans (SF_upd (SF_refl) rfl) hS5 (any_sub rfl)) hS13 (any_sub rfl)) hS_22 (any_sub rfl)) hS_47 (any_sub rfl)) (SA_trans (SA_trans (SA_trans (SA_trans (SA_refl) hA6 (any_subA rfl)) hA14 (any_subA rfl)) hA_22 (any_subA rfl)) hA_47 (any_subA rfl)) (y47_4_5) ((ey47_4_5)) (w47_24) (ew47_24) (w47_25) (ew47_25) (show inr ((-1)) by omega) (show KQ bN ((w47_24)) ((y47_4_5)) by assumption) (show KQ bF ((w47_25)) ((y47_4_5)) by assumption))
        · refine Ew_of (pc' := 60) (fun _ => x_aload_n rfl l47_0) ?_
          refine Ew_of (pc' := 62) (fun _ => x_iload rfl l47_4) ?_
          refine Ew_of (pc' := 64) (fun _ => x_iload rfl l47_4) ?_
          refine Ew_of (pc' := 65) (fun _ => x_iload_n rfl l47_1) ?_
          refine w_iadd rfl ?_
          refine Ew_of (pc' := 67) (fun _ => x_aload_n rfl l47_0) ?_
          refine w_gT H (o := 4) (t := 1) rfl (H.perm 4 rfl) rfl rfl rfl rfl rfl rfl ?_
          refine w_gI H (o := 1) (w := u1_1) rfl (H.perm 1 rfl) rfl rfl rfl (fun _ => rfl) (((((hS_47 1 1 rfl).trans (hS_22 1 1 rfl)).trans (hS13 1 1 rfl)).trans (hS5 1 1 rfl)).trans (eu1_1)) ?_
          have hc90 : ∀ (tc90_0 : Int), ∀ (ls : rO) (σ : rS) (F_c90 : hF) (A_c90 : hA) , rlook ls 0 = some (.ref (D 4)) → rlook ls 1 = some (I (a1)) → rlook ls 2 = some (I (a2)) → rlook ls 3 = some (I (a3)) → rlook ls 4 = some (I (x47_4)) → HS σ0 σ D N F_c90 A_c90 → SF [] F_47 F_c90 → SA [] A_47 A_c90 → (inr (tc90_0)) → ((((x47_4 + a1)) ≥ (u1_1) ∧ (tc90_0) = (u1_1)) ∨ (((x47_4 + a1)) < (u1_1) ∧ (tc90_0) = ((x47_4 + a1)))) → Ew 348 (d + 6) 90 ls [I (tc90_0), I (x47_4), .ref (D 4)] σ c s Q := by
           as_aux_lemma =>
            intro tc90_0 ls σ F_c90 A_c90  lc90_0 lc90_1 lc90_2 lc90_3 lc90_4 H hS_c90 hA_c90   jc90_0 jc90_1
            refine Ew_of (pc' := 91) (fun _ => x_iload_n rfl lc90_2) ?_
            refine w_inv H (o := 4) rfl rfl rfl (H.perm 4 rfl) rfl rfl (by rfl) (M347 H (y47_4_2) (((hS_c90 4 2 rfl).trans (ey47_4_2))) (y47_4_5) (((hS_c90 4 5 rfl).trans (ey47_4_5))) (w47_24) ((funext (hA_c90 24 rfl)).trans (ew47_24)) (w47_25) ((funext (hA_c90 25 rfl)).trans (ew47_25)) (show inr (x47_4) by omega) (show inr (tc90_0) by omega) (show inr (a2) by omega) (show 0 ≤ (x47_4) ∧ (x47_4) ≤ (tc90_0) ∧ (tc90_0) ≤ 16384 by omega) (show 0 ≤ (a2) ∧ (a2) ≤ 3 by omega) (show 0 ≤ (y47_4_2) ∧ (y47_4_2) ≤ 7000000 by omega) (show KQ bN ((w47_24)) ((y47_4_5)) by assumption) (show KQ bF ((w47_25)) ((y47_4_5)) by assumption) (fun σ F30 A31 H hS32 hA33 y35 ey36 y37 ey38 w39 ew40 w41 ew42 pz34_0 pz34_1 pz34_2 => ⟨rfl, ?_⟩))
            have r43 : (-2147483648 : Int) ≤ y35 ∧ y35 ≤ 2147483647 := by have h1 : (-2147483648 : Int) ≤ F30 4 2 ∧ F30 4 2 ≤ 2147483647 := H.frng 4 2; rw [show F30 4 2 = y35 from (ey36)] at h1; exact h1
            have r44 : (0 : Int) ≤ y37 ∧ y37 ≤ 16384 := by have h1 : (0 : Int) ≤ F30 4 5 ∧ F30 4 5 ≤ 16384 := H.frng 4 5; rw [show F30 4 5 = y37 from (ey38)] at h1; exact h1
            have hc131 : ∀ (ls : rO) (σ : rS) (F_c131 : hF) (A_c131 : hA) , rlook ls 0 = some (.ref (D 4)) → rlook ls 1 = some (I (a1)) → rlook ls 2 = some (I (a2)) → rlook ls 3 = some (I (a3)) → rlook ls 4 = some (I (x47_4)) → HS σ0 σ D N F_c131 A_c131 → SF [(4, 2)] F30 F_c131 → SA [23] A31 A_c131 → ∀ yc131_4_2 : Int, F_c131 4 2 = yc131_4_2 → ((y35) ≤ (yc131_4_2) ∧ (yc131_4_2) ≤ (y35) + 4 + (a3)) → Ew 348 (d + 6) 131 ls [] σ c s Q := by
             as_aux_lemma =>
              intro  ls σ F_c131 A_c131  lc131_0 lc131_1 lc131_2 lc131_3 lc131_4 H hS_c131 hA_c131 yc131_4_2 eyc131_4_2  jc131_0
              have r45 : (-2147483648 : Int) ≤ yc131_4_2 ∧ yc131_4_2 ≤ 2147483647 := by have h1 : (-2147483648 : Int) ≤ F_c131 4 2 ∧ F_c131 4 2 ≤ 2147483647 := H.frng 4 2; rw [show F_c131 4 2 = yc131_4_2 from (eyc131_4_2)] at h1; exact h1
              refine Ew_of (pc' := 133) (fun _ => x_iload rfl lc131_4) ?_
              refine Ew_of (pc' := 134) (fun _ => x_iload_n rfl lc131_1) ?_
              refine w_iadd rfl ?_
              refine Ew_of (pc' := 137) (fun _ => x_istore rfl) ?_
              refine Ew_of (pc' := 47) (fun _ => x_goto rfl rfl) ?_
              exact ih47 _ (by omega) _ σ _ _ ((x47_4 + a1)) (rk_o (lc131_0) rfl rfl) (rk_o (lc131_1) rfl rfl) (rk_o (lc131_2) rfl rfl) (rk_o (lc131_3) rfl rfl) (rk_s) H (SF_trans (SF_trans (SF_trans (hS_47) hS_c90 (any_sub rfl)) hS32 (any_sub rfl)) hS_c131 (any_sub rfl)) (SA_trans (SA_trans (SA_trans (hA_47) hA_c90 (any_subA rfl)) hA33 (any_subA rfl)) hA_c131 (any_subA rfl)) (yc131_4_2) ((eyc131_4_2)) (y37) (((hS_c131 4 5 rfl).trans (ey38))) (w39) ((funext (hA_c131 24 rfl)).trans (ew40)) (w41) ((funext (hA_c131 25 rfl)).trans (ew42)) (show inr ((x47_4 + a1)) by omega) (show 0 ≤ ((x47_4 + a1)) by omega) (show 0 ≤ (yc131_4_2) by omega) (show (yc131_4_2) ≤ 10 + 310 * ((x47_4 + a1)) ∧ ((x47_4 + a1)) ≤ (u1_1) ∨ (yc131_4_2) ≤ 10 + 310 * (u1_1) ∧ (u1_1) ≤ ((x47_4 + a1)) by omega) (show KQ bN ((w39)) ((y37)) by assumption) (show KQ bF ((w41)) ((y37)) by assumption) rfl
            refine Ew_of (pc' := 95) (fun _ => x_iload_n rfl lc90_3) ?_
            refine w_ifle (t := 131) rfl rfl (show inr (a3) by omega) (fun b46 => ?_) (fun b46 => ?_)
            · exact hc131  _ σ _ _  (lc90_0) (lc90_1) (lc90_2) (lc90_3) (lc90_4) H (SF_refl) (SA_refl) (y35) ((ey36))  (show (y35) ≤ (y35) ∧ (y35) ≤ (y35) + 4 + (a3) by omega)
            · refine Ew_of (pc' := 99) (fun _ => x_aload_n rfl lc90_0) ?_
              refine Ew_of (pc' := 102) (fun _ => x_sipush (z := 254) rfl (by decide)) ?_
              refine w_inv H (o := 4) rfl rfl rfl (H.perm 4 rfl) rfl rfl (by rfl) (M320 H (y35) ((ey36)) (show inr (254) by omega) (show 0 ≤ (y35) ∧ (y35) ≤ 100000000 by omega) (fun σ F47 A48 H hS49 hA50 y52 ey53 pz51_0 => ⟨rfl, ?_⟩))
              have r54 : (-2147483648 : Int) ≤ y52 ∧ y52 ≤ 2147483647 := by have h1 : (-2147483648 : Int) ≤ F47 4 2 ∧ F47 4 2 ≤ 2147483647 := H.frng 4 2; rw [show F47 4 2 = y52 from (ey53)] at h1; exact h1
              refine Ew_of (pc' := 106) (fun _ => x_aload_n rfl lc90_0) ?_
              refine Ew_of (pc' := 107) (fun _ => x_iload_n rfl lc90_3) ?_
              refine Ew_of (pc' := 108) (fun _ => x_iconst rfl) ?_
              refine w_inv H (o := 4) rfl rfl rfl (H.perm 4 rfl) rfl rfl (by rfl) (M321 H (y52) ((ey53)) (show inr (a3) by omega) (show inr (3) by omega) (show 0 ≤ (3) ∧ (3) ≤ 4 by omega) (show 0 ≤ (y52) ∧ (y52) ≤ 10000000 by omega) (fun σ F55 A56 H hS57 hA58 y60 ey61 pz59_0 => ⟨rfl, ?_⟩))
              have r62 : (-2147483648 : Int) ≤ y60 ∧ y60 ≤ 2147483647 := by have h1 : (-2147483648 : Int) ≤ F55 4 2 ∧ F55 4 2 ≤ 2147483647 := H.frng 4 2; rw [show F55 4 2 = y60 from (ey61)] at h1; exact h1
              refine Ew_of (pc' := 112) (fun _ => x_iconst rfl) ?_
              refine Ew_of (pc' := 114) (fun _ => x_istore rfl) ?_
              suffices hl114 : ∀ (m : Nat), ∀ (ls : rO) (σ : rS) (F_114 : hF) (A_114 : hA) (x114_5 : Int), rlook ls 0 = some (.ref (D 4)) → rlook ls 1 = some (I (a1)) → rlook ls 2 = some (I (a2)) → rlook ls 3 = some (I (a3)) → rlook ls 4 = some (I (x47_4)) → rlook ls 5 = some (I (x114_5)) → HS σ0 σ D N F_114 A_114 → SF [(4, 2)] F55 F_114 → SA [23] A56 A_114 → ∀ y114_4_2 : Int, F_114 4 2 = y114_4_2 → (inr (x114_5)) → ((0) ≤ (x114_5)) → ((x114_5) ≤ (0) ∨ (x114_5) ≤ ((a3))) → ((y114_4_2) = (y60) + (x114_5)) → (((a3)) - (x114_5)).toNat = m → Ew 348 (d + 6) 114 ls [] σ c s Q from
                hl114 _ _ σ _ _ (0) (rk_o (lc90_0) rfl rfl) (rk_o (lc90_1) rfl rfl) (rk_o (lc90_2) rfl rfl) (rk_o (lc90_3) rfl rfl) (rk_o (lc90_4) rfl rfl) (rk_s) H (SF_refl) (SA_refl) (y60) ((ey61))  (show inr (0) by omega) (show (0) ≤ (0) by omega) (show (0) ≤ (0) ∨ (0) ≤ ((a3)) by omega) (show (y60) = (y60) + (0) by omega) rfl
              as_aux_lemma =>
              intro m
              induction m using Nat.strongRecOn with
              | _ m ih114 =>
                intro ls σ F_114 A_114 x114_5 l114_0 l114_1 l114_2 l114_3 l114_4 l114_5 H hS_114 hA_114 y114_4_2 ey114_4_2  j114_0 j114_1 j114_2 j114_3 hm114
                have r63 : (-2147483648 : Int) ≤ y114_4_2 ∧ y114_4_2 ≤ 2147483647 := by have h1 : (-2147483648 : Int) ≤ F_114 4 2 ∧ F_114 4 2 ≤ 2147483647 := H.frng 4 2; rw [show F_114 4 2 = y114_4_2 from (ey114_4_2)] at h1; exact h1
                refine Ew_of (pc' := 116) (fun _ => x_iload rfl l114_5) ?_
                refine Ew_of (pc' := 117) (fun _ => x_iload_n rfl l114_3) ?_
                refine w_icmpge (t := 131) rfl rfl (show inr (x114_5) by omega) (show inr (a3) by omega) (fun b64 => ?_) (fun b64 => ?_)
                · exact hc131  _ σ _ _  (l114_0) (l114_1) (l114_2) (l114_3) (l114_4) H (SF_trans (SF_trans (SF_trans (SF_refl) hS49 (any_sub rfl)) hS57 (any_sub rfl)) hS_114 (any_sub rfl)) (SA_trans (SA_trans (SA_trans (SA_refl) hA50 (any_subA rfl)) hA58 (any_subA rfl)) hA_114 (any_subA rfl)) (y114_4_2) ((ey114_4_2))  (show (y35) ≤ (y114_4_2) ∧ (y114_4_2) ≤ (y35) + 4 + (a3) by omega)
                · refine Ew_of (pc' := 121) (fun _ => x_aload_n rfl l114_0) ?_
                  refine Ew_of (pc' := 122) (fun _ => x_iconst rfl) ?_
                  refine w_inv H (o := 4) rfl rfl rfl (H.perm 4 rfl) rfl rfl (by rfl) (M320 H (y114_4_2) ((ey114_4_2)) (show inr (0) by omega) (show 0 ≤ (y114_4_2) ∧ (y114_4_2) ≤ 100000000 by omega) (fun σ F65 A66 H hS67 hA68 y70 ey71 pz69_0 => ⟨rfl, ?_⟩))
                  have r72 : (-2147483648 : Int) ≤ y70 ∧ y70 ≤ 2147483647 := by have h1 : (-2147483648 : Int) ≤ F65 4 2 ∧ F65 4 2 ≤ 2147483647 := H.frng 4 2; rw [show F65 4 2 = y70 from (ey71)] at h1; exact h1
                  refine Ew_of (pc' := 128) (fun _ => x_iinc (len := 3) rfl (l114_5)) ?_
                  refine Ew_of (pc' := 114) (fun _ => x_goto rfl rfl) ?_
                  exact ih114 _ (by omega) _ σ _ _ ((x114_5 + 1)) (rk_o (l114_0) rfl rfl) (rk_o (l114_1) rfl rfl) (rk_o (l114_2) rfl rfl) (rk_o (l114_3) rfl rfl) (rk_o (l114_4) rfl rfl) (rk_s) H (SF_trans (hS_114) hS67 (any_sub rfl)) (SA_trans (hA_114) hA68 (any_subA rfl)) (y70) ((ey71))  (show inr ((x114_5 + 1)) by omega) (show (0) ≤ ((x114_5 + 1)) by omega) (show ((x114_5 + 1)) ≤ (0) ∨ ((x114_5 + 1)) ≤ ((a3)) by omega) (show (y70) = (y60) + ((x114_5 + 1)) by omega) rfl
          refine w_icmpge (t := 83) rfl rfl (show inr ((x47_4 + a1)) by omega) (show inr (u1_1) by omega) (fun b73 => ?_) (fun b73 => ?_)
          · refine Ew_of (pc' := 84) (fun _ => x_aload_n rfl l47_0) ?_
            refine w_gT H (o := 4) (t := 1) rfl (H.perm 4 rfl) rfl rfl rfl rfl rfl rfl ?_
            refine w_gI H (o := 1) (w := u1_1) rfl (H.perm 1 rfl) rfl rfl rfl (fun _ => rfl) (((((hS_47 1 1 rfl).trans (hS_22 1 1 rfl)).trans (hS13 1 1 rfl)).trans (hS5 1 1 rfl)).trans (eu1_1)) ?_
            exact hc90 (u1_1) _ σ _ _  (l47_0) (l47_1) (l47_2) (l47_3) (l47_4) H (SF_refl) (SA_refl)   (show inr (u1_1) by omega) (show (((x47_4 + a1)) ≥ (u1_1) ∧ (u1_1) = (u1_1)) ∨ (((x47_4 + a1)) < (u1_1) ∧ (u1_1) = ((x47_4 + a1))) by omega)
          · refine Ew_of (pc' := 78) (fun _ => x_iload rfl l47_4) ?_
            refine Ew_of (pc' := 79) (fun _ => x_iload_n rfl l47_1) ?_
            refine w_iadd rfl ?_
            refine Ew_of (pc' := 90) (fun _ => x_goto rfl rfl) ?_
            exact hc90 ((x47_4 + a1)) _ σ _ _  (l47_0) (l47_1) (l47_2) (l47_3) (l47_4) H (SF_refl) (SA_refl)   (show inr ((x47_4 + a1)) by omega) (show (((x47_4 + a1)) ≥ (u1_1) ∧ ((x47_4 + a1)) = (u1_1)) ∨ (((x47_4 + a1)) < (u1_1) ∧ ((x47_4 + a1)) = ((x47_4 + a1))) by omega)
    · refine Ew_of (pc' := 30) (fun _ => x_aload_n rfl l22_0) ?_
      refine Ew_of (pc' := 32) (fun _ => x_iload rfl l22_4) ?_
      refine w_stat24 rfl rfl (by rfl) (M346 H (show inr (x22_4) by omega) (fun z78 σ F74 A75 H hS76 hA77 pz78_0 pz78_1 => ⟨rfl, ?_⟩))
      refine w_inv H (o := 4) rfl rfl rfl (H.perm 4 rfl) rfl rfl (by rfl) (M320 H (y22_4_2) (((hS76 4 2 rfl).trans (ey22_4_2))) (show inr (z78) by omega) (show 0 ≤ (y22_4_2) ∧ (y22_4_2) ≤ 100000000 by omega) (fun σ F79 A80 H hS81 hA82 y84 ey85 pz83_0 => ⟨rfl, ?_⟩))
      have r86 : (-2147483648 : Int) ≤ y84 ∧ y84 ≤ 2147483647 := by have h1 : (-2147483648 : Int) ≤ F79 4 2 ∧ F79 4 2 ≤ 2147483647 := H.frng 4 2; rw [show F79 4 2 = y84 from (ey85)] at h1; exact h1
      refine Ew_of (pc' := 41) (fun _ => x_iinc (len := 3) rfl (l22_4)) ?_
      refine Ew_of (pc' := 22) (fun _ => x_goto rfl rfl) ?_
      exact ih22 _ (by omega) _ σ _ _ ((x22_4 + 1)) (rk_o (l22_0) rfl rfl) (rk_o (l22_1) rfl rfl) (rk_o (l22_2) rfl rfl) (rk_o (l22_3) rfl rfl) (rk_s) H (SF_trans (SF_trans (hS_22) hS76 (any_sub rfl)) hS81 (any_sub rfl)) (SA_trans (SA_trans (hA_22) hA77 (any_subA rfl)) hA82 (any_subA rfl)) (y84) ((ey85))  (show inr ((x22_4 + 1)) by omega) (show (0) ≤ ((x22_4 + 1)) by omega) (show ((x22_4 + 1)) ≤ (0) ∨ ((x22_4 + 1)) ≤ ((6)) by omega) (show (y84) = 4 + ((x22_4 + 1)) by omega) rfl
