/-- Tokens.frame -/
theorem M378 {σ0 σ : rS} {D N : Nat → Nat} {F : hF} {A : hA} {d c s : Nat} {Q : wQ} (H : HS σ0 σ D N F A) {a1 a2 a3 a4 a5 : Int} (u1_1 : Int) (eu1_1 : F 1 1 = u1_1) (u3_2 : Int) (eu3_2 : F 3 2 = u3_2) (h0 : inr (a1)) (h1 : inr (a2)) (h2 : inr (a3)) (h3 : inr (a4)) (h4 : inr (a5)) (h5 : (u3_2) + (u1_1) ≤ 16384) (k : ∀ (z : Int) σ F' A', HS σ0 σ D N F' A' → SF [(1, 3), (3, 5), (3, 6), (3, 8), (3, 10)] F F' → SA [15, 17, 18, 19, 20] A A' → (inr (z)) → Q (some (I z)) σ c s) : Ew 378 (d + 4) 0 (rargs 0 [.ref (D 3), I a1, I a2, I a3, I a4, I a5]) [] σ c s Q := by
  have r1 : (0 : Int) ≤ u1_1 ∧ u1_1 ≤ 65536 := by have h1 : (0 : Int) ≤ F 1 1 ∧ F 1 1 ≤ 65536 := H.frng 1 1; rw [show F 1 1 = u1_1 from (eu1_1)] at h1; exact h1
  have r2 : (0 : Int) ≤ u3_2 ∧ u3_2 ≤ 65536 := by have h1 : (0 : Int) ≤ F 3 2 ∧ F 3 2 ≤ 65536 := H.frng 3 2; rw [show F 3 2 = u3_2 from (eu3_2)] at h1; exact h1
  refine Ew_of (pc' := 1) (fun _ => x_iload_n rfl rfl) ?_
  refine w_stat24 rfl rfl (by rfl) (M375 H (show inr (a1) by omega) (fun z7 σ F3 A4 H hS5 hA6 pz7_0 pz7_1 => ⟨rretB rfl pz7_0, ?_⟩))
  refine w_ifeq (t := 42) rfl rfl (show inr (z7) by omega) (fun b8 => ?_) (fun b8 => ?_)
  · refine Ew_of (pc' := 43) (fun _ => x_iconst rfl) ?_
    exact w_ireturn rfl (k ((-1)) σ _ _ H (SF_trans (SF_refl) hS5 (any_sub rfl)) (SA_trans (SA_refl) hA6 (any_subA rfl)) (show inr ((-1)) by omega))
  · refine Ew_of (pc' := 8) (fun _ => x_iload_n rfl rfl) ?_
    refine Ew_of (pc' := 9) (fun _ => x_iconst rfl) ?_
    refine w_icmplt (t := 42) rfl rfl (show inr (a2) by omega) (show inr (4) by omega) (fun b9 => ?_) (fun b9 => ?_)
    · refine Ew_of (pc' := 43) (fun _ => x_iconst rfl) ?_
      exact w_ireturn rfl (k ((-1)) σ _ _ H (SF_trans (SF_refl) hS5 (any_sub rfl)) (SA_trans (SA_refl) hA6 (any_subA rfl)) (show inr ((-1)) by omega))
    · refine Ew_of (pc' := 13) (fun _ => x_iload_n rfl rfl) ?_
      refine Ew_of (pc' := 15) (fun _ => x_bipush (z := 7) rfl (by decide)) ?_
      refine w_icmpgt (t := 42) rfl rfl (show inr (a2) by omega) (show inr (7) by omega) (fun b10 => ?_) (fun b10 => ?_)
      · refine Ew_of (pc' := 43) (fun _ => x_iconst rfl) ?_
        exact w_ireturn rfl (k ((-1)) σ _ _ H (SF_trans (SF_refl) hS5 (any_sub rfl)) (SA_trans (SA_refl) hA6 (any_subA rfl)) (show inr ((-1)) by omega))
      · refine Ew_of (pc' := 20) (fun _ => x_iload rfl rfl) ?_
        refine Ew_of (pc' := 21) (fun _ => x_iconst rfl) ?_
        refine w_icmplt (t := 42) rfl rfl (show inr (a4) by omega) (show inr (1) by omega) (fun b11 => ?_) (fun b11 => ?_)
        · refine Ew_of (pc' := 43) (fun _ => x_iconst rfl) ?_
          exact w_ireturn rfl (k ((-1)) σ _ _ H (SF_trans (SF_refl) hS5 (any_sub rfl)) (SA_trans (SA_refl) hA6 (any_subA rfl)) (show inr ((-1)) by omega))
        · refine Ew_of (pc' := 26) (fun _ => x_iload rfl rfl) ?_
          refine Ew_of (pc' := 28) (fun _ => x_ldc (z := 65536) rfl (by decide)) ?_
          refine w_icmpgt (t := 42) rfl rfl (show inr (a4) by omega) (show inr (65536) by omega) (fun b12 => ?_) (fun b12 => ?_)
          · refine Ew_of (pc' := 43) (fun _ => x_iconst rfl) ?_
            exact w_ireturn rfl (k ((-1)) σ _ _ H (SF_trans (SF_refl) hS5 (any_sub rfl)) (SA_trans (SA_refl) hA6 (any_subA rfl)) (show inr ((-1)) by omega))
          · refine Ew_of (pc' := 33) (fun _ => x_iload rfl rfl) ?_
            refine w_iflt (t := 42) rfl rfl (show inr (a5) by omega) (fun b13 => ?_) (fun b13 => ?_)
            · refine Ew_of (pc' := 43) (fun _ => x_iconst rfl) ?_
              exact w_ireturn rfl (k ((-1)) σ _ _ H (SF_trans (SF_refl) hS5 (any_sub rfl)) (SA_trans (SA_refl) hA6 (any_subA rfl)) (show inr ((-1)) by omega))
            · refine Ew_of (pc' := 38) (fun _ => x_iload rfl rfl) ?_
              refine Ew_of (pc' := 39) (fun _ => x_iconst rfl) ?_
              refine w_icmple (t := 44) rfl rfl (show inr (a5) by omega) (show inr (3) by omega) (fun b14 => ?_) (fun b14 => ?_)
              · refine Ew_of (pc' := 45) (fun _ => x_aload_n rfl rfl) ?_
                refine Ew_of (pc' := 46) (fun _ => x_iconst rfl) ?_
                refine w_pI H (o := 3) rfl rfl (H.perm 3 rfl) rfl rfl rfl (fun _ => rfl) rfl (show (-2147483648 : Int) ≤ 0 ∧ 0 ≤ 2147483647 by omega) (fun σ H => ?_)
                refine Ew_of (pc' := 50) (fun _ => x_aload_n rfl rfl) ?_
                refine Ew_of (pc' := 53) (fun _ => x_ldc2 (z := 407708164) rfl (by decide)) ?_
                refine Ew_of (pc' := 54) (fun _ => x_iconst rfl) ?_
                refine w_inv H (o := 3) rfl rfl rfl (H.perm 3 rfl) rfl rfl (by rfl) (M377 H (0) (rfl) (show inrJ (407708164) by omega) (show inr (4) by omega) (show 0 ≤ (4) ∧ (4) ≤ 8 by omega) (show 0 ≤ (0) ∧ (0) ≤ 10000000 by omega) (fun σ F15 A16 H hS17 hA18 y20 ey21 pz19_0 => ⟨rfl, ?_⟩))
                have r22 : (-2147483648 : Int) ≤ y20 ∧ y20 ≤ 2147483647 := by have h1 : (-2147483648 : Int) ≤ F15 3 8 ∧ F15 3 8 ≤ 2147483647 := H.frng 3 8; rw [show F15 3 8 = y20 from (ey21)] at h1; exact h1
                refine Ew_of (pc' := 58) (fun _ => x_aload_n rfl rfl) ?_
                refine Ew_of (pc' := 59) (fun _ => x_iload_n rfl rfl) ?_
                refine w_inv H (o := 3) rfl rfl rfl (H.perm 3 rfl) rfl rfl (by rfl) (M376 H (y20) ((ey21)) (show inr (a1) by omega) (show 0 ≤ (a1) ∧ (a1) ≤ 255 by omega) (show 0 ≤ (y20) ∧ (y20) ≤ 100000000 by omega) (fun σ F23 A24 H hS25 hA26 y28 ey29 pz27_0 => ⟨rfl, ?_⟩))
                have r30 : (-2147483648 : Int) ≤ y28 ∧ y28 ≤ 2147483647 := by have h1 : (-2147483648 : Int) ≤ F23 3 8 ∧ F23 3 8 ≤ 2147483647 := H.frng 3 8; rw [show F23 3 8 = y28 from (ey29)] at h1; exact h1
                refine Ew_of (pc' := 63) (fun _ => x_aload_n rfl rfl) ?_
                refine Ew_of (pc' := 65) (fun _ => x_bipush (z := 16) rfl (by decide)) ?_
                refine Ew_of (pc' := 66) (fun _ => x_iload_n rfl rfl) ?_
                refine w_imul rfl ?_
                refine w_inv H (o := 3) rfl rfl rfl (H.perm 3 rfl) rfl rfl (by rfl) (M376 H (y28) ((ey29)) (show inr ((16 * a2)) by omega) (show 0 ≤ ((16 * a2)) ∧ ((16 * a2)) ≤ 255 by omega) (show 0 ≤ (y28) ∧ (y28) ≤ 100000000 by omega) (fun σ F31 A32 H hS33 hA34 y36 ey37 pz35_0 => ⟨rfl, ?_⟩))
                have r38 : (-2147483648 : Int) ≤ y36 ∧ y36 ≤ 2147483647 := by have h1 : (-2147483648 : Int) ≤ F31 3 8 ∧ F31 3 8 ≤ 2147483647 := H.frng 3 8; rw [show F31 3 8 = y36 from (ey37)] at h1; exact h1
                have hc91 : ∀ (ls : rO) (σ : rS) (F_c91 : hF) (A_c91 : hA) , rlook ls 0 = some (.ref (D 3)) → rlook ls 1 = some (I (a1)) → rlook ls 3 = some (I (a3)) → rlook ls 4 = some (I (a4)) → rlook ls 5 = some (I (a5)) → HS σ0 σ D N F_c91 A_c91 → SF [(3, 8)] F31 F_c91 → SA [19] A32 A_c91 → ∀ yc91_3_8 : Int, F_c91 3 8 = yc91_3_8 → (6 ≤ (yc91_3_8) ∧ (yc91_3_8) ≤ 14) → Ew 378 (d + 4) 91 ls [] σ c s Q := by
                 as_aux_lemma =>
                  intro  ls σ F_c91 A_c91  lc91_0 lc91_1 lc91_3 lc91_4 lc91_5 H hS_c91 hA_c91 yc91_3_8 eyc91_3_8  jc91_0
                  have r39 : (-2147483648 : Int) ≤ yc91_3_8 ∧ yc91_3_8 ≤ 2147483647 := by have h1 : (-2147483648 : Int) ≤ F_c91 3 8 ∧ F_c91 3 8 ≤ 2147483647 := H.frng 3 8; rw [show F_c91 3 8 = yc91_3_8 from (eyc91_3_8)] at h1; exact h1
                  have hc108 : ∀ (ls : rO) (σ : rS) (F_c108 : hF) (A_c108 : hA) , rlook ls 0 = some (.ref (D 3)) → rlook ls 1 = some (I (a1)) → rlook ls 4 = some (I (a4)) → rlook ls 5 = some (I (a5)) → HS σ0 σ D N F_c108 A_c108 → SF [(3, 8)] F_c91 F_c108 → SA [19] A_c91 A_c108 → ∀ yc108_3_8 : Int, F_c108 3 8 = yc108_3_8 → (6 ≤ (yc108_3_8) ∧ (yc108_3_8) ≤ 18) → Ew 378 (d + 4) 108 ls [] σ c s Q := by
                   as_aux_lemma =>
                    intro  ls σ F_c108 A_c108  lc108_0 lc108_1 lc108_4 lc108_5 H hS_c108 hA_c108 yc108_3_8 eyc108_3_8  jc108_0
                    have r40 : (-2147483648 : Int) ≤ yc108_3_8 ∧ yc108_3_8 ≤ 2147483647 := by have h1 : (-2147483648 : Int) ≤ F_c108 3 8 ∧ F_c108 3 8 ≤ 2147483647 := H.frng 3 8; rw [show F_c108 3 8 = yc108_3_8 from (eyc108_3_8)] at h1; exact h1
                    refine Ew_of (pc' := 109) (fun _ => x_aload_n rfl lc108_0) ?_
                    refine Ew_of (pc' := 110) (fun _ => x_aload_n rfl lc108_0) ?_
                    refine Ew_of (pc' := 111) (fun _ => x_aload_n rfl lc108_0) ?_
                    refine w_gT H (o := 3) (t := 19) rfl (H.perm 3 rfl) rfl rfl rfl rfl rfl rfl ?_
                    refine Ew_of (pc' := 115) (fun _ => x_iconst rfl) ?_
                    refine Ew_of (pc' := 116) (fun _ => x_aload_n rfl lc108_0) ?_
                    refine w_gI H (o := 3) (w := yc108_3_8) rfl (H.perm 3 rfl) rfl rfl rfl (fun _ => rfl) (eyc108_3_8) ?_
                    refine w_inv H (o := 3) rfl rfl rfl (H.perm 3 rfl) rfl rfl (by rfl) (M359_19 H (show inr (4) by omega) (show inr (yc108_3_8) by omega) (show 0 ≤ (4) ∧ (4) ≤ (yc108_3_8) ∧ (yc108_3_8) ≤ 70000 by omega) (fun z45 σ F41 A42 H hS43 hA44 pz45_0 => ⟨rfl, ?_⟩))
                    refine Ew_of (pc' := 124) (fun _ => x_bipush (z := 8) rfl (by decide)) ?_
                    refine w_lshrA rfl (fun z46 gz46 => ?_)
                    refine Ew_of (pc' := 128) (fun _ => x_ldc2 (z := 255) rfl (by decide)) ?_
                    refine w_land rfl (show inrJ (z46) by omega) (show inrJ (255) by omega) (fun z47 gz47 gaz47 gbz47 => ?_)
                    refine w_l2i rfl ?_
                    refine w_inv H (o := 3) rfl rfl rfl (H.perm 3 rfl) rfl rfl (by rfl) (M376 H (yc108_3_8) (((hS43 3 8 rfl).trans (eyc108_3_8))) (show inr (z47) by omega) (show 0 ≤ (z47) ∧ (z47) ≤ 255 by omega) (show 0 ≤ (yc108_3_8) ∧ (yc108_3_8) ≤ 100000000 by omega) (fun σ F48 A49 H hS50 hA51 y53 ey54 pz52_0 => ⟨rfl, ?_⟩))
                    have r55 : (-2147483648 : Int) ≤ y53 ∧ y53 ≤ 2147483647 := by have h1 : (-2147483648 : Int) ≤ F48 3 8 ∧ F48 3 8 ≤ 2147483647 := H.frng 3 8; rw [show F48 3 8 = y53 from (ey54)] at h1; exact h1
                    refine Ew_of (pc' := 134) (fun _ => x_iconst rfl) ?_
                    refine Ew_of (pc' := 136) (fun _ => x_istore rfl) ?_
                    suffices hl136 : ∀ (m : Nat), ∀ (ls : rO) (σ : rS) (F_136 : hF) (A_136 : hA) (x136_6 : Int), rlook ls 0 = some (.ref (D 3)) → rlook ls 1 = some (I (a1)) → rlook ls 4 = some (I (a4)) → rlook ls 5 = some (I (a5)) → rlook ls 6 = some (I (x136_6)) → HS σ0 σ D N F_136 A_136 → SF [(3, 5), (3, 6), (3, 8), (3, 10)] F48 F_136 → SA [17, 18, 19, 20] A49 A_136 → ∀ y136_3_8 : Int, F_136 3 8 = y136_3_8 → (inr (x136_6)) → (0 ≤ (x136_6)) → (0 ≤ (y136_3_8)) → ((y136_3_8) ≤ 30 + 9 * (x136_6) ∧ (x136_6) ≤ (u1_1) ∨ (y136_3_8) ≤ 30 + 9 * (u1_1) ∧ (u1_1) ≤ (x136_6)) → ((u1_1) - (x136_6)).toNat = m → Ew 378 (d + 4) 136 ls [] σ c s Q from
                      hl136 _ _ σ _ _ (0) (rk_o (lc108_0) rfl rfl) (rk_o (lc108_1) rfl rfl) (rk_o (lc108_4) rfl rfl) (rk_o (lc108_5) rfl rfl) (rk_s) H (SF_refl) (SA_refl) (y53) ((ey54))  (show inr (0) by omega) (show 0 ≤ (0) by omega) (show 0 ≤ (y53) by omega) (show (y53) ≤ 30 + 9 * (0) ∧ (0) ≤ (u1_1) ∨ (y53) ≤ 30 + 9 * (u1_1) ∧ (u1_1) ≤ (0) by omega) rfl
                    as_aux_lemma =>
                    intro m
                    induction m using Nat.strongRecOn with
                    | _ m ih136 =>
                      intro ls σ F_136 A_136 x136_6 l136_0 l136_1 l136_4 l136_5 l136_6 H hS_136 hA_136 y136_3_8 ey136_3_8  j136_0 j136_1 j136_2 j136_3 hm136
                      have r56 : (-2147483648 : Int) ≤ y136_3_8 ∧ y136_3_8 ≤ 2147483647 := by have h1 : (-2147483648 : Int) ≤ F_136 3 8 ∧ F_136 3 8 ≤ 2147483647 := H.frng 3 8; rw [show F_136 3 8 = y136_3_8 from (ey136_3_8)] at h1; exact h1
                      refine Ew_of (pc' := 138) (fun _ => x_iload rfl l136_6) ?_
                      refine Ew_of (pc' := 139) (fun _ => x_aload_n rfl l136_0) ?_
                      refine w_gT H (o := 3) (t := 1) rfl (H.perm 3 rfl) rfl rfl rfl rfl rfl rfl ?_
                      refine w_gI H (o := 1) (w := u1_1) rfl (H.perm 1 rfl) rfl rfl rfl (fun _ => rfl) ((((((((((hS_136 1 1 rfl).trans (hS50 1 1 rfl)).trans (hS43 1 1 rfl)).trans (hS_c108 1 1 rfl)).trans (hS_c91 1 1 rfl)).trans (hS33 1 1 rfl)).trans (hS25 1 1 rfl)).trans (hS17 1 1 rfl)).trans (hS5 1 1 rfl)).trans (eu1_1)) ?_
                      refine w_icmpge (t := 366) rfl rfl (show inr (x136_6) by omega) (show inr (u1_1) by omega) (fun b57 => ?_) (fun b57 => ?_)
                      · refine Ew_of (pc' := 367) (fun _ => x_aload_n rfl l136_0) ?_
                        refine Ew_of (pc' := 368) (fun _ => x_lconst (z := 0) rfl (by decide)) ?_
                        refine Ew_of (pc' := 369) (fun _ => x_iconst rfl) ?_
                        refine w_inv H (o := 3) rfl rfl rfl (H.perm 3 rfl) rfl rfl (by rfl) (M377 H (y136_3_8) ((ey136_3_8)) (show inrJ (0) by omega) (show inr (4) by omega) (show 0 ≤ (4) ∧ (4) ≤ 8 by omega) (show 0 ≤ (y136_3_8) ∧ (y136_3_8) ≤ 10000000 by omega) (fun σ F58 A59 H hS60 hA61 y63 ey64 pz62_0 => ⟨rfl, ?_⟩))
                        have r65 : (-2147483648 : Int) ≤ y63 ∧ y63 ≤ 2147483647 := by have h1 : (-2147483648 : Int) ≤ F58 3 8 ∧ F58 3 8 ≤ 2147483647 := H.frng 3 8; rw [show F58 3 8 = y63 from (ey64)] at h1; exact h1
                        refine Ew_of (pc' := 373) (fun _ => x_iload_n rfl l136_1) ?_
                        refine Ew_of (pc' := 374) (fun _ => x_iconst rfl) ?_
                        refine w_iand rfl (show inr (a1) by omega) (show inr (4) by omega) (fun z66 gz66 gaz66 gbz66 => ?_)
                        refine w_ifeq (t := 402) rfl rfl (show inr (z66) by omega) (fun b67 => ?_) (fun b67 => ?_)
                        · refine Ew_of (pc' := 403) (fun _ => x_aload_n rfl l136_0) ?_
                          refine Ew_of (pc' := 404) (fun _ => x_aload_n rfl l136_0) ?_
                          refine w_gT H (o := 3) (t := 19) rfl (H.perm 3 rfl) rfl rfl rfl rfl rfl rfl ?_
                          refine Ew_of (pc' := 408) (fun _ => x_aload_n rfl l136_0) ?_
                          refine w_gI H (o := 3) (w := y63) rfl (H.perm 3 rfl) rfl rfl rfl (fun _ => rfl) (ey64) ?_
                          refine w_inv H (o := 3) rfl rfl rfl (H.perm 3 rfl) rfl rfl (by rfl) (M369_19 H (show inr (y63) by omega) (show 0 ≤ (y63) ∧ (y63) ≤ 100000000 by omega) (fun z72 σ F68 A69 H hS70 hA71 pz72_0 pz72_1 => ⟨rfl, ?_⟩))
                          exact w_ireturn rfl (k (z72) σ _ _ H (SF_trans (SF_trans (SF_trans (SF_trans (SF_trans (SF_trans (SF_trans (SF_trans (SF_trans (SF_trans (SF_upd (SF_trans (SF_refl) hS5 (any_sub rfl)) rfl) hS17 (any_sub rfl)) hS25 (any_sub rfl)) hS33 (any_sub rfl)) hS_c91 (any_sub rfl)) hS_c108 (any_sub rfl)) hS43 (any_sub rfl)) hS50 (any_sub rfl)) hS_136 (any_sub rfl)) hS60 (any_sub rfl)) hS70 (any_sub rfl)) (SA_trans (SA_trans (SA_trans (SA_trans (SA_trans (SA_trans (SA_trans (SA_trans (SA_trans (SA_trans (SA_trans (SA_refl) hA6 (any_subA rfl)) hA18 (any_subA rfl)) hA26 (any_subA rfl)) hA34 (any_subA rfl)) hA_c91 (any_subA rfl)) hA_c108 (any_subA rfl)) hA44 (any_subA rfl)) hA51 (any_subA rfl)) hA_136 (any_subA rfl)) hA61 (any_subA rfl)) hA71 (any_subA rfl)) (show inr (z72) by omega))
                        · refine Ew_of (pc' := 379) (fun _ => x_aload_n rfl l136_0) ?_
                          refine Ew_of (pc' := 380) (fun _ => x_aload_n rfl l136_0) ?_
                          refine Ew_of (pc' := 381) (fun _ => x_aload_n rfl l136_0) ?_
                          refine w_gT H (o := 3) (t := 1) rfl (H.perm 3 rfl) rfl rfl rfl rfl rfl rfl ?_
                          refine w_gT H (o := 1) (t := 14) rfl (H.perm 1 rfl) rfl rfl rfl rfl rfl rfl ?_
                          refine Ew_of (pc' := 388) (fun _ => x_iconst rfl) ?_
                          refine Ew_of (pc' := 389) (fun _ => x_aload_n rfl l136_0) ?_
                          refine w_gT H (o := 3) (t := 1) rfl (H.perm 3 rfl) rfl rfl rfl rfl rfl rfl ?_
                          refine w_gI H (o := 1) (w := u1_1) rfl (H.perm 1 rfl) rfl rfl rfl (fun _ => rfl) (((((((((((hS60 1 1 rfl).trans (hS_136 1 1 rfl)).trans (hS50 1 1 rfl)).trans (hS43 1 1 rfl)).trans (hS_c108 1 1 rfl)).trans (hS_c91 1 1 rfl)).trans (hS33 1 1 rfl)).trans (hS25 1 1 rfl)).trans (hS17 1 1 rfl)).trans (hS5 1 1 rfl)).trans (eu1_1)) ?_
                          refine w_inv H (o := 3) rfl rfl rfl (H.perm 3 rfl) rfl rfl (by rfl) (M359_14 H (show inr (0) by omega) (show inr (u1_1) by omega) (show 0 ≤ (0) ∧ (0) ≤ (u1_1) ∧ (u1_1) ≤ 65536 by omega) (fun z77 σ F73 A74 H hS75 hA76 pz77_0 => ⟨rfl, ?_⟩))
                          refine Ew_of (pc' := 399) (fun _ => x_iconst rfl) ?_
                          refine w_inv H (o := 3) rfl rfl rfl (H.perm 3 rfl) rfl rfl (by rfl) (M377 H (y63) (((hS75 3 8 rfl).trans (ey64))) (show inrJ (z77) by omega) (show inr (4) by omega) (show 0 ≤ (4) ∧ (4) ≤ 8 by omega) (show 0 ≤ (y63) ∧ (y63) ≤ 10000000 by omega) (fun σ F78 A79 H hS80 hA81 y83 ey84 pz82_0 => ⟨rfl, ?_⟩))
                          have r85 : (-2147483648 : Int) ≤ y83 ∧ y83 ≤ 2147483647 := by have h1 : (-2147483648 : Int) ≤ F78 3 8 ∧ F78 3 8 ≤ 2147483647 := H.frng 3 8; rw [show F78 3 8 = y83 from (ey84)] at h1; exact h1
                          refine Ew_of (pc' := 403) (fun _ => x_aload_n rfl l136_0) ?_
                          refine Ew_of (pc' := 404) (fun _ => x_aload_n rfl l136_0) ?_
                          refine w_gT H (o := 3) (t := 19) rfl (H.perm 3 rfl) rfl rfl rfl rfl rfl rfl ?_
                          refine Ew_of (pc' := 408) (fun _ => x_aload_n rfl l136_0) ?_
                          refine w_gI H (o := 3) (w := y83) rfl (H.perm 3 rfl) rfl rfl rfl (fun _ => rfl) (ey84) ?_
                          refine w_inv H (o := 3) rfl rfl rfl (H.perm 3 rfl) rfl rfl (by rfl) (M369_19 H (show inr (y83) by omega) (show 0 ≤ (y83) ∧ (y83) ≤ 100000000 by omega) (fun z90 σ F86 A87 H hS88 hA89 pz90_0 pz90_1 => ⟨rfl, ?_⟩))
                          exact w_ireturn rfl (k (z90) σ _ _ H (SF_trans (SF_trans (SF_trans (SF_trans (SF_trans (SF_trans (SF_trans (SF_trans (SF_trans (SF_trans (SF_trans (SF_trans (SF_upd (SF_trans (SF_refl) hS5 (any_sub rfl)) rfl) hS17 (any_sub rfl)) hS25 (any_sub rfl)) hS33 (any_sub rfl)) hS_c91 (any_sub rfl)) hS_c108 (any_sub rfl)) hS43 (any_sub rfl)) hS50 (any_sub rfl)) hS_136 (any_sub rfl)) hS60 (any_sub rfl)) hS75 (any_sub rfl)) hS80 (any_sub rfl)) hS88 (any_sub rfl)) (SA_trans (SA_trans (SA_trans (SA_trans (SA_trans (SA_trans (SA_trans (SA_trans (SA_trans (SA_trans (SA_trans (SA_trans (SA_trans (SA_refl) hA6 (any_subA rfl)) hA18 (any_subA rfl)) hA26 (any_subA rfl)) hA34 (any_subA rfl)) hA_c91 (any_subA rfl)) hA_c108 (any_subA rfl)) hA44 (any_subA rfl)) hA51 (any_subA rfl)) hA_136 (any_subA rfl)) hA61 (any_subA rfl)) hA76 (any_subA rfl)) hA81 (any_subA rfl)) hA89 (any_subA rfl)) (show inr (z90) by omega))
                      · have hc180 : ∀ (ls : rO) (σ : rS) (F_c180 : hF) (A_c180 : hA) (xc180_7 : Int), rlook ls 0 = some (.ref (D 3)) → rlook ls 1 = some (I (a1)) → rlook ls 4 = some (I (a4)) → rlook ls 5 = some (I (a5)) → rlook ls 6 = some (I (x136_6)) → rlook ls 7 = some (I (xc180_7)) → HS σ0 σ D N F_c180 A_c180 → SF [] F_136 F_c180 → SA [] A_136 A_c180 → (inr (xc180_7)) → ((x136_6) ≤ (xc180_7) ∧ (xc180_7) ≤ (u1_1)) → ((xc180_7) = (x136_6) + (a4) ∨ (xc180_7) = (u1_1)) → ((xc180_7) ≤ (x136_6) + (a4)) → Ew 378 (d + 4) 180 ls [] σ c s Q := by
                         as_aux_lemma =>
                          intro  ls σ F_c180 A_c180 xc180_7 lc180_0 lc180_1 lc180_4 lc180_5 lc180_6 lc180_7 H hS_c180 hA_c180   jc180_0 jc180_1 jc180_2 jc180_3
                          refine Ew_of (pc' := 181) (fun _ => x_aload_n rfl lc180_0) ?_
                          refine w_inv H (o := 3) rfl rfl rfl (H.perm 3 rfl) rfl rfl (by rfl) (M367 H (u3_2) ((((((((((((hS_c180 3 2 rfl).trans (hS_136 3 2 rfl)).trans (hS50 3 2 rfl)).trans (hS43 3 2 rfl)).trans (hS_c108 3 2 rfl)).trans (hS_c91 3 2 rfl)).trans (hS33 3 2 rfl)).trans (hS25 3 2 rfl)).trans (hS17 3 2 rfl)).trans (hS5 3 2 rfl)).trans (eu3_2))) (show (u3_2) ≤ 16384 by omega) (fun σ F91 A92 H hS93 hA94 y96 ey97 pz95_0 => ⟨rfl, ?_⟩))
                          have r98 : (-2147483648 : Int) ≤ y96 ∧ y96 ≤ 2147483647 := by have h1 : (-2147483648 : Int) ≤ F91 3 5 ∧ F91 3 5 ≤ 2147483647 := H.frng 3 5; rw [show F91 3 5 = y96 from (ey97)] at h1; exact h1
                          have hc198 : ∀ (ls : rO) (σ : rS) (F_c198 : hF) (A_c198 : hA) , rlook ls 0 = some (.ref (D 3)) → rlook ls 1 = some (I (a1)) → rlook ls 4 = some (I (a4)) → rlook ls 5 = some (I (a5)) → rlook ls 6 = some (I (x136_6)) → rlook ls 7 = some (I (xc180_7)) → HS σ0 σ D N F_c198 A_c198 → SF [(3, 5)] F91 F_c198 → SA [18] A92 A_c198 → ∀ yc198_3_5 : Int, F_c198 3 5 = yc198_3_5 → (0 ≤ (yc198_3_5) ∧ (yc198_3_5) ≤ (u3_2) + (x136_6)) → Ew 378 (d + 4) 198 ls [] σ c s Q := by
                           as_aux_lemma =>
                            intro  ls σ F_c198 A_c198  lc198_0 lc198_1 lc198_4 lc198_5 lc198_6 lc198_7 H hS_c198 hA_c198 yc198_3_5 eyc198_3_5  jc198_0
                            have r99 : (-2147483648 : Int) ≤ yc198_3_5 ∧ yc198_3_5 ≤ 2147483647 := by have h1 : (-2147483648 : Int) ≤ F_c198 3 5 ∧ F_c198 3 5 ≤ 2147483647 := H.frng 3 5; rw [show F_c198 3 5 = yc198_3_5 from (eyc198_3_5)] at h1; exact h1
                            refine Ew_of (pc' := 199) (fun _ => x_aload_n rfl lc198_0) ?_
                            refine w_gI H (o := 3) (w := yc198_3_5) rfl (H.perm 3 rfl) rfl rfl rfl (fun _ => rfl) (eyc198_3_5) ?_
                            refine Ew_of (pc' := 204) (fun _ => x_istore rfl) ?_
                            refine Ew_of (pc' := 205) (fun _ => x_aload_n rfl (rk_o (lc198_0) rfl rfl)) ?_
                            refine Ew_of (pc' := 207) (fun _ => x_iload rfl (rk_o (lc198_6) rfl rfl)) ?_
                            refine Ew_of (pc' := 209) (fun _ => x_iload rfl (rk_o (lc198_7) rfl rfl)) ?_
                            refine w_inv H (o := 3) rfl rfl rfl (H.perm 3 rfl) rfl rfl (by rfl) (M368 H (yc198_3_5) ((eyc198_3_5)) (show inr (x136_6) by omega) (show inr (xc180_7) by omega) (show 0 ≤ (yc198_3_5) ∧ (yc198_3_5) ≤ 16384 by omega) (show 0 ≤ (x136_6) ∧ (x136_6) ≤ (xc180_7) ∧ (xc180_7) ≤ 65536 ∧ (yc198_3_5) + ((xc180_7) - (x136_6)) ≤ 16384 by omega) (fun σ F100 A101 H hS102 hA103 y105 ey106 pz104_0 => ⟨rfl, ?_⟩))
                            have r107 : (-2147483648 : Int) ≤ y105 ∧ y105 ≤ 2147483647 := by have h1 : (-2147483648 : Int) ≤ F100 3 5 ∧ F100 3 5 ≤ 2147483647 := H.frng 3 5; rw [show F100 3 5 = y105 from (ey106)] at h1; exact h1
                            refine Ew_of (pc' := 213) (fun _ => x_aload_n rfl (rk_o (lc198_0) rfl rfl)) ?_
                            refine Ew_of (pc' := 215) (fun _ => x_iload rfl rk_s) ?_
                            refine Ew_of (pc' := 217) (fun _ => x_iload rfl (rk_o (lc198_5) rfl rfl)) ?_
                            refine w_inv H (o := 3) rfl rfl rfl (H.perm 3 rfl) rfl rfl (by rfl) (M366 H (y105) ((ey106)) (show inr (yc198_3_5) by omega) (show inr (a5) by omega) (show 0 ≤ (y105) ∧ (y105) ≤ 16384 by omega) (show 0 ≤ (yc198_3_5) ∧ (yc198_3_5) ≤ (y105) by omega) (fun σ F108 A109 H hS110 hA111 y113 ey114 pz112_0 => ⟨rfl, ?_⟩))
                            have r115 : (-2147483648 : Int) ≤ y113 ∧ y113 ≤ 2147483647 := by have h1 : (-2147483648 : Int) ≤ F108 3 10 ∧ F108 3 10 ≤ 2147483647 := H.frng 3 10; rw [show F108 3 10 = y113 from (ey114)] at h1; exact h1
                            have hc239 : ∀ (ls : rO) (σ : rS) (F_c239 : hF) (A_c239 : hA) (xc239_9 : Int), rlook ls 0 = some (.ref (D 3)) → rlook ls 1 = some (I (a1)) → rlook ls 4 = some (I (a4)) → rlook ls 5 = some (I (a5)) → rlook ls 6 = some (I (x136_6)) → rlook ls 7 = some (I (xc180_7)) → rlook ls 9 = some (I (xc239_9)) → HS σ0 σ D N F_c239 A_c239 → SF [] F108 F_c239 → SA [] A109 A_c239 → (inr (xc239_9)) → ((xc239_9) = 0 ∨ (xc239_9) = 1) → ((xc239_9) = 0 → (y113) < (xc180_7) - (x136_6)) → Ew 378 (d + 4) 239 ls [] σ c s Q := by
                             as_aux_lemma =>
                              intro  ls σ F_c239 A_c239 xc239_9 lc239_0 lc239_1 lc239_4 lc239_5 lc239_6 lc239_7 lc239_9 H hS_c239 hA_c239   jc239_0 jc239_1 jc239_2
                              have hc258 : ∀ (ls : rO) (σ : rS) (F_c258 : hF) (A_c258 : hA) (xc258_10 : Int), rlook ls 0 = some (.ref (D 3)) → rlook ls 1 = some (I (a1)) → rlook ls 4 = some (I (a4)) → rlook ls 5 = some (I (a5)) → rlook ls 6 = some (I (x136_6)) → rlook ls 9 = some (I (xc239_9)) → rlook ls 10 = some (I (xc258_10)) → HS σ0 σ D N F_c258 A_c258 → SF [] F_c239 F_c258 → SA [] A_c239 A_c258 → (inr (xc258_10)) → (0 ≤ (xc258_10) ∧ (xc258_10) ≤ (xc180_7) - (x136_6)) → Ew 378 (d + 4) 258 ls [] σ c s Q := by
                               as_aux_lemma =>
                                intro  ls σ F_c258 A_c258 xc258_10 lc258_0 lc258_1 lc258_4 lc258_5 lc258_6 lc258_9 lc258_10 H hS_c258 hA_c258   jc258_0 jc258_1
                                have hc281 : ∀ (ls : rO) (σ : rS) (F_c281 : hF) (A_c281 : hA) , rlook ls 0 = some (.ref (D 3)) → rlook ls 1 = some (I (a1)) → rlook ls 4 = some (I (a4)) → rlook ls 5 = some (I (a5)) → rlook ls 6 = some (I (x136_6)) → rlook ls 9 = some (I (xc239_9)) → rlook ls 10 = some (I (xc258_10)) → HS σ0 σ D N F_c281 A_c281 → SF [(3, 8)] F_c258 F_c281 → SA [19] A_c258 A_c281 → ∀ yc281_3_8 : Int, F_c281 3 8 = yc281_3_8 → ((yc281_3_8) = (y136_3_8) + 4) → Ew 378 (d + 4) 281 ls [] σ c s Q := by
                                 as_aux_lemma =>
                                  intro  ls σ F_c281 A_c281  lc281_0 lc281_1 lc281_4 lc281_5 lc281_6 lc281_9 lc281_10 H hS_c281 hA_c281 yc281_3_8 eyc281_3_8  jc281_0
                                  have r116 : (-2147483648 : Int) ≤ yc281_3_8 ∧ yc281_3_8 ≤ 2147483647 := by have h1 : (-2147483648 : Int) ≤ F_c281 3 8 ∧ F_c281 3 8 ≤ 2147483647 := H.frng 3 8; rw [show F_c281 3 8 = yc281_3_8 from (eyc281_3_8)] at h1; exact h1
                                  refine Ew_of (pc' := 282) (fun _ => x_iconst rfl) ?_
                                  refine Ew_of (pc' := 284) (fun _ => x_istore rfl) ?_
                                  suffices hl284 : ∀ (m : Nat), ∀ (ls : rO) (σ : rS) (F_284 : hF) (A_284 : hA) (x284_11 : Int), rlook ls 0 = some (.ref (D 3)) → rlook ls 1 = some (I (a1)) → rlook ls 4 = some (I (a4)) → rlook ls 5 = some (I (a5)) → rlook ls 6 = some (I (x136_6)) → rlook ls 9 = some (I (xc239_9)) → rlook ls 10 = some (I (xc258_10)) → rlook ls 11 = some (I (x284_11)) → HS σ0 σ D N F_284 A_284 → SF [(3, 8)] F_c281 F_284 → SA [19, 20] A_c281 A_284 → ∀ y284_3_8 : Int, F_284 3 8 = y284_3_8 → (inr (x284_11)) → ((0) ≤ (x284_11)) → ((x284_11) ≤ (0) ∨ (x284_11) ≤ ((xc258_10))) → ((y284_3_8) = (yc281_3_8) + (x284_11)) → (((xc258_10)) - (x284_11)).toNat = m → Ew 378 (d + 4) 284 ls [] σ c s Q from
                                    hl284 _ _ σ _ _ (0) (rk_o (lc281_0) rfl rfl) (rk_o (lc281_1) rfl rfl) (rk_o (lc281_4) rfl rfl) (rk_o (lc281_5) rfl rfl) (rk_o (lc281_6) rfl rfl) (rk_o (lc281_9) rfl rfl) (rk_o (lc281_10) rfl rfl) (rk_s) H (SF_refl) (SA_refl) (yc281_3_8) ((eyc281_3_8))  (show inr (0) by omega) (show (0) ≤ (0) by omega) (show (0) ≤ (0) ∨ (0) ≤ ((xc258_10)) by omega) (show (yc281_3_8) = (yc281_3_8) + (0) by omega) rfl
                                  as_aux_lemma =>
                                  intro m
                                  induction m using Nat.strongRecOn with
                                  | _ m ih284 =>
                                    intro ls σ F_284 A_284 x284_11 l284_0 l284_1 l284_4 l284_5 l284_6 l284_9 l284_10 l284_11 H hS_284 hA_284 y284_3_8 ey284_3_8  j284_0 j284_1 j284_2 j284_3 hm284
                                    have r117 : (-2147483648 : Int) ≤ y284_3_8 ∧ y284_3_8 ≤ 2147483647 := by have h1 : (-2147483648 : Int) ≤ F_284 3 8 ∧ F_284 3 8 ≤ 2147483647 := H.frng 3 8; rw [show F_284 3 8 = y284_3_8 from (ey284_3_8)] at h1; exact h1
                                    refine Ew_of (pc' := 286) (fun _ => x_iload rfl l284_11) ?_
                                    refine Ew_of (pc' := 288) (fun _ => x_iload rfl l284_10) ?_
                                    refine w_icmpge (t := 333) rfl rfl (show inr (x284_11) by omega) (show inr (xc258_10) by omega) (fun b118 => ?_) (fun b118 => ?_)
                                    · refine Ew_of (pc' := 334) (fun _ => x_iload_n rfl l284_1) ?_
                                      refine Ew_of (pc' := 336) (fun _ => x_bipush (z := 16) rfl (by decide)) ?_
                                      refine w_iand rfl (show inr (a1) by omega) (show inr (16) by omega) (fun z119 gz119 gaz119 gbz119 => ?_)
                                      refine w_ifeq (t := 356) rfl rfl (show inr (z119) by omega) (fun b120 => ?_) (fun b120 => ?_)
                                      · refine Ew_of (pc' := 358) (fun _ => x_iload rfl l284_6) ?_
                                        refine Ew_of (pc' := 360) (fun _ => x_iload rfl l284_4) ?_
                                        refine w_iadd rfl ?_
                                        refine Ew_of (pc' := 363) (fun _ => x_istore rfl) ?_
                                        refine Ew_of (pc' := 136) (fun _ => x_goto rfl rfl) ?_
                                        exact ih136 _ (by omega) _ σ _ _ ((x136_6 + a4)) (rk_o (l284_0) rfl rfl) (rk_o (l284_1) rfl rfl) (rk_o (l284_4) rfl rfl) (rk_o (l284_5) rfl rfl) (rk_s) H (SF_trans (SF_trans (SF_trans (SF_trans (SF_trans (SF_trans (SF_trans (SF_trans (SF_trans (hS_136) hS_c180 (any_sub rfl)) hS93 (any_sub rfl)) hS_c198 (any_sub rfl)) hS102 (any_sub rfl)) hS110 (any_sub rfl)) hS_c239 (any_sub rfl)) hS_c258 (any_sub rfl)) hS_c281 (any_sub rfl)) hS_284 (any_sub rfl)) (SA_trans (SA_trans (SA_trans (SA_trans (SA_trans (SA_trans (SA_trans (SA_trans (SA_trans (hA_136) hA_c180 (any_subA rfl)) hA94 (any_subA rfl)) hA_c198 (any_subA rfl)) hA103 (any_subA rfl)) hA111 (any_subA rfl)) hA_c239 (any_subA rfl)) hA_c258 (any_subA rfl)) hA_c281 (any_subA rfl)) hA_284 (any_subA rfl)) (y284_3_8) ((ey284_3_8))  (show inr ((x136_6 + a4)) by omega) (show 0 ≤ ((x136_6 + a4)) by omega) (show 0 ≤ (y284_3_8) by omega) (show (y284_3_8) ≤ 30 + 9 * ((x136_6 + a4)) ∧ ((x136_6 + a4)) ≤ (u1_1) ∨ (y284_3_8) ≤ 30 + 9 * (u1_1) ∧ (u1_1) ≤ ((x136_6 + a4)) by omega) rfl
                                      · refine Ew_of (pc' := 341) (fun _ => x_aload_n rfl l284_0) ?_
                                        refine Ew_of (pc' := 342) (fun _ => x_aload_n rfl l284_0) ?_
                                        refine Ew_of (pc' := 343) (fun _ => x_aload_n rfl l284_0) ?_
                                        refine w_gT H (o := 3) (t := 20) rfl (H.perm 3 rfl) rfl rfl rfl rfl rfl rfl ?_
                                        refine Ew_of (pc' := 347) (fun _ => x_iconst rfl) ?_
                                        refine Ew_of (pc' := 349) (fun _ => x_iload rfl l284_10) ?_
                                        refine w_inv H (o := 3) rfl rfl rfl (H.perm 3 rfl) rfl rfl (by rfl) (M359_20 H (show inr (0) by omega) (show inr (xc258_10) by omega) (show 0 ≤ (0) ∧ (0) ≤ (xc258_10) ∧ (xc258_10) ≤ 70000 by omega) (fun z125 σ F121 A122 H hS123 hA124 pz125_0 => ⟨rfl, ?_⟩))
                                        refine Ew_of (pc' := 353) (fun _ => x_iconst rfl) ?_
                                        refine w_inv H (o := 3) rfl rfl rfl (H.perm 3 rfl) rfl rfl (by rfl) (M377 H (y284_3_8) (((hS123 3 8 rfl).trans (ey284_3_8))) (show inrJ (z125) by omega) (show inr (4) by omega) (show 0 ≤ (4) ∧ (4) ≤ 8 by omega) (show 0 ≤ (y284_3_8) ∧ (y284_3_8) ≤ 10000000 by omega) (fun σ F126 A127 H hS128 hA129 y131 ey132 pz130_0 => ⟨rfl, ?_⟩))
                                        have r133 : (-2147483648 : Int) ≤ y131 ∧ y131 ≤ 2147483647 := by have h1 : (-2147483648 : Int) ≤ F126 3 8 ∧ F126 3 8 ≤ 2147483647 := H.frng 3 8; rw [show F126 3 8 = y131 from (ey132)] at h1; exact h1
                                        refine Ew_of (pc' := 358) (fun _ => x_iload rfl l284_6) ?_
                                        refine Ew_of (pc' := 360) (fun _ => x_iload rfl l284_4) ?_
                                        refine w_iadd rfl ?_
                                        refine Ew_of (pc' := 363) (fun _ => x_istore rfl) ?_
                                        refine Ew_of (pc' := 136) (fun _ => x_goto rfl rfl) ?_
                                        exact ih136 _ (by omega) _ σ _ _ ((x136_6 + a4)) (rk_o (l284_0) rfl rfl) (rk_o (l284_1) rfl rfl) (rk_o (l284_4) rfl rfl) (rk_o (l284_5) rfl rfl) (rk_s) H (SF_trans (SF_trans (SF_trans (SF_trans (SF_trans (SF_trans (SF_trans (SF_trans (SF_trans (SF_trans (SF_trans (hS_136) hS_c180 (any_sub rfl)) hS93 (any_sub rfl)) hS_c198 (any_sub rfl)) hS102 (any_sub rfl)) hS110 (any_sub rfl)) hS_c239 (any_sub rfl)) hS_c258 (any_sub rfl)) hS_c281 (any_sub rfl)) hS_284 (any_sub rfl)) hS123 (any_sub rfl)) hS128 (any_sub rfl)) (SA_trans (SA_trans (SA_trans (SA_trans (SA_trans (SA_trans (SA_trans (SA_trans (SA_trans (SA_trans (SA_trans (hA_136) hA_c180 (any_subA rfl)) hA94 (any_subA rfl)) hA_c198 (any_subA rfl)) hA103 (any_subA rfl)) hA111 (any_subA rfl)) hA_c239 (any_subA rfl)) hA_c258 (any_subA rfl)) hA_c281 (any_subA rfl)) hA_284 (any_subA rfl)) hA124 (any_subA rfl)) hA129 (any_subA rfl)) (y131) ((ey132))  (show inr ((x136_6 + a4)) by omega) (show 0 ≤ ((x136_6 + a4)) by omega) (show 0 ≤ (y131) by omega) (show (y131) ≤ 30 + 9 * ((x136_6 + a4)) ∧ ((x136_6 + a4)) ≤ (u1_1) ∨ (y131) ≤ 30 + 9 * (u1_1) ∧ (u1_1) ≤ ((x136_6 + a4)) by omega) rfl
                                    · have hc316 : ∀ (ls : rO) (σ : rS) (F_c316 : hF) (A_c316 : hA) , rlook ls 0 = some (.ref (D 3)) → rlook ls 1 = some (I (a1)) → rlook ls 4 = some (I (a4)) → rlook ls 5 = some (I (a5)) → rlook ls 6 = some (I (x136_6)) → rlook ls 9 = some (I (xc239_9)) → rlook ls 10 = some (I (xc258_10)) → rlook ls 11 = some (I (x284_11)) → HS σ0 σ D N F_c316 A_c316 → SF [] F_284 F_c316 → SA [20] A_284 A_c316 → Ew 378 (d + 4) 316 ls [] σ c s Q := by
                                       as_aux_lemma =>
                                        intro  ls σ F_c316 A_c316  lc316_0 lc316_1 lc316_4 lc316_5 lc316_6 lc316_9 lc316_10 lc316_11 H hS_c316 hA_c316   
                                        refine Ew_of (pc' := 317) (fun _ => x_aload_n rfl lc316_0) ?_
                                        refine Ew_of (pc' := 318) (fun _ => x_aload_n rfl lc316_0) ?_
                                        refine w_gT H (o := 3) (t := 20) rfl (H.perm 3 rfl) rfl rfl rfl rfl rfl rfl ?_
                                        refine Ew_of (pc' := 323) (fun _ => x_iload rfl lc316_11) ?_
                                        refine w_lI H (o := 20) (n := 70000) rfl (H.perm 20 rfl) rfl rfl (H.fix 20 rfl rfl) (show 0 ≤ x284_11 ∧ x284_11 < ((70000 : Nat) : Int) by omega) (by decide) (fun v134 ev134 qv134 => ?_)
                                        have qv134 : (0 : Int) ≤ v134 ∧ v134 ≤ 255 := qv134
                                        have ev134 : (A_c316 20) (x284_11) = v134 := (congrFun (rfl : A_c316 20 = A_c316 20) (x284_11)).symm.trans ev134
                                        refine w_inv H (o := 3) rfl rfl rfl (H.perm 3 rfl) rfl rfl (by rfl) (M376 H (y284_3_8) (((hS_c316 3 8 rfl).trans (ey284_3_8))) (show inr (v134) by omega) (show 0 ≤ (v134) ∧ (v134) ≤ 255 by omega) (show 0 ≤ (y284_3_8) ∧ (y284_3_8) ≤ 100000000 by omega) (fun σ F135 A136 H hS137 hA138 y140 ey141 pz139_0 => ⟨rfl, ?_⟩))
                                        have r142 : (-2147483648 : Int) ≤ y140 ∧ y140 ≤ 2147483647 := by have h1 : (-2147483648 : Int) ≤ F135 3 8 ∧ F135 3 8 ≤ 2147483647 := H.frng 3 8; rw [show F135 3 8 = y140 from (ey141)] at h1; exact h1
                                        refine Ew_of (pc' := 330) (fun _ => x_iinc (len := 3) rfl (lc316_11)) ?_
                                        refine Ew_of (pc' := 284) (fun _ => x_goto rfl rfl) ?_
                                        exact ih284 _ (by omega) _ σ _ _ ((x284_11 + 1)) (rk_o (lc316_0) rfl rfl) (rk_o (lc316_1) rfl rfl) (rk_o (lc316_4) rfl rfl) (rk_o (lc316_5) rfl rfl) (rk_o (lc316_6) rfl rfl) (rk_o (lc316_9) rfl rfl) (rk_o (lc316_10) rfl rfl) (rk_s) H (SF_trans (SF_trans (hS_284) hS_c316 (any_sub rfl)) hS137 (any_sub rfl)) (SA_trans (SA_trans (hA_284) hA_c316 (any_subA rfl)) hA138 (any_subA rfl)) (y140) ((ey141))  (show inr ((x284_11 + 1)) by omega) (show (0) ≤ ((x284_11 + 1)) by omega) (show ((x284_11 + 1)) ≤ (0) ∨ ((x284_11 + 1)) ≤ ((xc258_10)) by omega) (show (y140) = (yc281_3_8) + ((x284_11 + 1)) by omega) rfl
                                      refine Ew_of (pc' := 293) (fun _ => x_iload rfl l284_9) ?_
                                      refine w_ifeq (t := 316) rfl rfl (show inr (xc239_9) by omega) (fun b143 => ?_) (fun b143 => ?_)
                                      · exact hc316  _ σ _ _  (l284_0) (l284_1) (l284_4) (l284_5) (l284_6) (l284_9) (l284_10) (l284_11) H (SF_refl) (SA_refl)
                                      · refine Ew_of (pc' := 297) (fun _ => x_aload_n rfl l284_0) ?_
                                        refine w_gT H (o := 3) (t := 20) rfl (H.perm 3 rfl) rfl rfl rfl rfl rfl rfl ?_
                                        refine Ew_of (pc' := 302) (fun _ => x_iload rfl l284_11) ?_
                                        refine Ew_of (pc' := 303) (fun _ => x_aload_n rfl l284_0) ?_
                                        refine w_gT H (o := 3) (t := 1) rfl (H.perm 3 rfl) rfl rfl rfl rfl rfl rfl ?_
                                        refine w_gT H (o := 1) (t := 14) rfl (H.perm 1 rfl) rfl rfl rfl rfl rfl rfl ?_
                                        refine Ew_of (pc' := 311) (fun _ => x_iload rfl l284_6) ?_
                                        refine Ew_of (pc' := 313) (fun _ => x_iload rfl l284_11) ?_
                                        refine w_iadd rfl ?_
                                        refine w_lI H (o := 14) (n := 65536) rfl (H.perm 14 rfl) rfl rfl (H.fix 14 rfl rfl) (show 0 ≤ (x136_6 + x284_11) ∧ (x136_6 + x284_11) < ((65536 : Nat) : Int) by omega) (by decide) (fun v144 ev144 qv144 => ?_)
                                        have qv144 : (0 : Int) ≤ v144 ∧ v144 ≤ 255 := qv144
                                        have ev144 : (A 14) ((x136_6 + x284_11)) = v144 := (congrFun ((funext (hA_284 14 rfl)).trans ((funext (hA_c281 14 rfl)).trans ((funext (hA_c258 14 rfl)).trans ((funext (hA_c239 14 rfl)).trans ((funext (hA111 14 rfl)).trans ((funext (hA103 14 rfl)).trans ((funext (hA_c198 14 rfl)).trans ((funext (hA94 14 rfl)).trans ((funext (hA_c180 14 rfl)).trans ((funext (hA_136 14 rfl)).trans ((funext (hA51 14 rfl)).trans ((funext (hA44 14 rfl)).trans ((funext (hA_c108 14 rfl)).trans ((funext (hA_c91 14 rfl)).trans ((funext (hA34 14 rfl)).trans ((funext (hA26 14 rfl)).trans ((funext (hA18 14 rfl)).trans (funext (hA6 14 rfl))))))))))))))))))) ((x136_6 + x284_11))).symm.trans ev144
                                        refine w_sI H (o := 20) (n := 70000) rfl (H.perm 20 rfl) rfl rfl (H.fix 20 rfl rfl) (show 0 ≤ x284_11 ∧ x284_11 < ((70000 : Nat) : Int) by omega) (by decide) (show (0 : Int) ≤ v144 ∧ v144 ≤ 255 by omega) (fun σ H => ?_)
                                        exact hc316  _ σ _ _  (l284_0) (l284_1) (l284_4) (l284_5) (l284_6) (l284_9) (l284_10) (l284_11) H (SF_refl) (SA_upd (SA_refl) rfl)   
                                refine Ew_of (pc' := 259) (fun _ => x_aload_n rfl lc258_0) ?_
                                refine Ew_of (pc' := 261) (fun _ => x_iload rfl lc258_9) ?_
                                refine w_ifeq (t := 274) rfl rfl (show inr (xc239_9) by omega) (fun b145 => ?_) (fun b145 => ?_)
                                · refine Ew_of (pc' := 276) (fun _ => x_iload rfl lc258_10) ?_
                                  refine w_i2l rfl (show inr (xc258_10) by omega) ?_
                                  refine Ew_of (pc' := 278) (fun _ => x_iconst rfl) ?_
                                  refine w_inv H (o := 3) rfl rfl rfl (H.perm 3 rfl) rfl rfl (by rfl) (M377 H (y136_3_8) (((((((((hS_c258 3 8 rfl).trans (hS_c239 3 8 rfl)).trans (hS110 3 8 rfl)).trans (hS102 3 8 rfl)).trans (hS_c198 3 8 rfl)).trans (hS93 3 8 rfl)).trans (hS_c180 3 8 rfl)).trans (ey136_3_8))) (show inrJ (xc258_10) by omega) (show inr (4) by omega) (show 0 ≤ (4) ∧ (4) ≤ 8 by omega) (show 0 ≤ (y136_3_8) ∧ (y136_3_8) ≤ 10000000 by omega) (fun σ F146 A147 H hS148 hA149 y151 ey152 pz150_0 => ⟨rfl, ?_⟩))
                                  have r153 : (-2147483648 : Int) ≤ y151 ∧ y151 ≤ 2147483647 := by have h1 : (-2147483648 : Int) ≤ F146 3 8 ∧ F146 3 8 ≤ 2147483647 := H.frng 3 8; rw [show F146 3 8 = y151 from (ey152)] at h1; exact h1
                                  exact hc281  _ σ _ _  (lc258_0) (lc258_1) (lc258_4) (lc258_5) (lc258_6) (lc258_9) (lc258_10) H (SF_trans (SF_refl) hS148 (any_sub rfl)) (SA_trans (SA_refl) hA149 (any_subA rfl)) (y151) ((ey152))  (show (y151) = (y136_3_8) + 4 by omega)
                                · refine Ew_of (pc' := 267) (fun _ => x_ldc2 (z := 2147483648) rfl (by decide)) ?_
                                  refine Ew_of (pc' := 269) (fun _ => x_iload rfl lc258_10) ?_
                                  refine w_i2l rfl (show inr (xc258_10) by omega) ?_
                                  refine w_ladd rfl ?_
                                  refine Ew_of (pc' := 277) (fun _ => x_goto rfl rfl) ?_
                                  refine Ew_of (pc' := 278) (fun _ => x_iconst rfl) ?_
                                  refine w_inv H (o := 3) rfl rfl rfl (H.perm 3 rfl) rfl rfl (by rfl) (M377 H (y136_3_8) (((((((((hS_c258 3 8 rfl).trans (hS_c239 3 8 rfl)).trans (hS110 3 8 rfl)).trans (hS102 3 8 rfl)).trans (hS_c198 3 8 rfl)).trans (hS93 3 8 rfl)).trans (hS_c180 3 8 rfl)).trans (ey136_3_8))) (show inrJ ((2147483648 + xc258_10)) by omega) (show inr (4) by omega) (show 0 ≤ (4) ∧ (4) ≤ 8 by omega) (show 0 ≤ (y136_3_8) ∧ (y136_3_8) ≤ 10000000 by omega) (fun σ F154 A155 H hS156 hA157 y159 ey160 pz158_0 => ⟨rfl, ?_⟩))
                                  have r161 : (-2147483648 : Int) ≤ y159 ∧ y159 ≤ 2147483647 := by have h1 : (-2147483648 : Int) ≤ F154 3 8 ∧ F154 3 8 ≤ 2147483647 := H.frng 3 8; rw [show F154 3 8 = y159 from (ey160)] at h1; exact h1
                                  exact hc281  _ σ _ _  (lc258_0) (lc258_1) (lc258_4) (lc258_5) (lc258_6) (lc258_9) (lc258_10) H (SF_trans (SF_refl) hS156 (any_sub rfl)) (SA_trans (SA_refl) hA157 (any_subA rfl)) (y159) ((ey160))  (show (y159) = (y136_3_8) + 4 by omega)
                              refine Ew_of (pc' := 241) (fun _ => x_iload rfl lc239_9) ?_
                              refine w_ifeq (t := 252) rfl rfl (show inr (xc239_9) by omega) (fun b162 => ?_) (fun b162 => ?_)
                              · refine Ew_of (pc' := 253) (fun _ => x_aload_n rfl lc239_0) ?_
                                refine w_gI H (o := 3) (w := y113) rfl (H.perm 3 rfl) rfl rfl rfl (fun _ => rfl) ((hS_c239 3 10 rfl).trans (ey114)) ?_
                                refine Ew_of (pc' := 258) (fun _ => x_istore rfl) ?_
                                exact hc258  _ σ _ _ (y113) (rk_o (lc239_0) rfl rfl) (rk_o (lc239_1) rfl rfl) (rk_o (lc239_4) rfl rfl) (rk_o (lc239_5) rfl rfl) (rk_o (lc239_6) rfl rfl) (rk_o (lc239_9) rfl rfl) (rk_s) H (SF_refl) (SA_refl)   (show inr (y113) by omega) (show 0 ≤ (y113) ∧ (y113) ≤ (xc180_7) - (x136_6) by omega)
                              · refine Ew_of (pc' := 246) (fun _ => x_iload rfl lc239_7) ?_
                                refine Ew_of (pc' := 248) (fun _ => x_iload rfl lc239_6) ?_
                                refine w_isub rfl ?_
                                refine Ew_of (pc' := 256) (fun _ => x_goto rfl rfl) ?_
                                refine Ew_of (pc' := 258) (fun _ => x_istore rfl) ?_
                                exact hc258  _ σ _ _ ((xc180_7 - x136_6)) (rk_o (lc239_0) rfl rfl) (rk_o (lc239_1) rfl rfl) (rk_o (lc239_4) rfl rfl) (rk_o (lc239_5) rfl rfl) (rk_o (lc239_6) rfl rfl) (rk_o (lc239_9) rfl rfl) (rk_s) H (SF_refl) (SA_refl)   (show inr ((xc180_7 - x136_6)) by omega) (show 0 ≤ ((xc180_7 - x136_6)) ∧ ((xc180_7 - x136_6)) ≤ (xc180_7) - (x136_6) by omega)
                            refine Ew_of (pc' := 221) (fun _ => x_aload_n rfl (rk_o (lc198_0) rfl rfl)) ?_
                            refine w_gI H (o := 3) (w := y113) rfl (H.perm 3 rfl) rfl rfl rfl (fun _ => rfl) (ey114) ?_
                            refine Ew_of (pc' := 226) (fun _ => x_iload rfl (rk_o (lc198_7) rfl rfl)) ?_
                            refine Ew_of (pc' := 228) (fun _ => x_iload rfl (rk_o (lc198_6) rfl rfl)) ?_
                            refine w_isub rfl ?_
                            refine w_icmplt (t := 236) rfl rfl (show inr (y113) by omega) (show inr ((xc180_7 - x136_6)) by omega) (fun b163 => ?_) (fun b163 => ?_)
                            · refine Ew_of (pc' := 237) (fun _ => x_iconst rfl) ?_
                              refine Ew_of (pc' := 239) (fun _ => x_istore rfl) ?_
                              exact hc239  _ σ _ _ (0) (rk_o (rk_o (lc198_0) rfl rfl) rfl rfl) (rk_o (rk_o (lc198_1) rfl rfl) rfl rfl) (rk_o (rk_o (lc198_4) rfl rfl) rfl rfl) (rk_o (rk_o (lc198_5) rfl rfl) rfl rfl) (rk_o (rk_o (lc198_6) rfl rfl) rfl rfl) (rk_o (rk_o (lc198_7) rfl rfl) rfl rfl) (rk_s) H (SF_refl) (SA_refl)   (show inr (0) by omega) (show (0) = 0 ∨ (0) = 1 by omega) (show (0) = 0 → (y113) < (xc180_7) - (x136_6) by omega)
                            · refine Ew_of (pc' := 233) (fun _ => x_iconst rfl) ?_
                              refine Ew_of (pc' := 237) (fun _ => x_goto rfl rfl) ?_
                              refine Ew_of (pc' := 239) (fun _ => x_istore rfl) ?_
                              exact hc239  _ σ _ _ (1) (rk_o (rk_o (lc198_0) rfl rfl) rfl rfl) (rk_o (rk_o (lc198_1) rfl rfl) rfl rfl) (rk_o (rk_o (lc198_4) rfl rfl) rfl rfl) (rk_o (rk_o (lc198_5) rfl rfl) rfl rfl) (rk_o (rk_o (lc198_6) rfl rfl) rfl rfl) (rk_o (rk_o (lc198_7) rfl rfl) rfl rfl) (rk_s) H (SF_refl) (SA_refl)   (show inr (1) by omega) (show (1) = 0 ∨ (1) = 1 by omega) (show (1) = 0 → (y113) < (xc180_7) - (x136_6) by omega)
                          refine Ew_of (pc' := 185) (fun _ => x_iload_n rfl lc180_1) ?_
                          refine Ew_of (pc' := 187) (fun _ => x_bipush (z := 32) rfl (by decide)) ?_
                          refine w_iand rfl (show inr (a1) by omega) (show inr (32) by omega) (fun z164 gz164 gaz164 gbz164 => ?_)
                          refine w_ifne (t := 198) rfl rfl (show inr (z164) by omega) (fun b165 => ?_) (fun b165 => ?_)
                          · exact hc198  _ σ _ _  (lc180_0) (lc180_1) (lc180_4) (lc180_5) (lc180_6) (lc180_7) H (SF_refl) (SA_refl) (y96) ((ey97))  (show 0 ≤ (y96) ∧ (y96) ≤ (u3_2) + (x136_6) by omega)
                          · refine Ew_of (pc' := 192) (fun _ => x_aload_n rfl lc180_0) ?_
                            refine Ew_of (pc' := 193) (fun _ => x_iconst rfl) ?_
                            refine Ew_of (pc' := 195) (fun _ => x_iload rfl lc180_6) ?_
                            refine w_inv H (o := 3) rfl rfl rfl (H.perm 3 rfl) rfl rfl (by rfl) (M368 H (y96) ((ey97)) (show inr (0) by omega) (show inr (x136_6) by omega) (show 0 ≤ (y96) ∧ (y96) ≤ 16384 by omega) (show 0 ≤ (0) ∧ (0) ≤ (x136_6) ∧ (x136_6) ≤ 65536 ∧ (y96) + ((x136_6) - (0)) ≤ 16384 by omega) (fun σ F166 A167 H hS168 hA169 y171 ey172 pz170_0 => ⟨rfl, ?_⟩))
                            have r173 : (-2147483648 : Int) ≤ y171 ∧ y171 ≤ 2147483647 := by have h1 : (-2147483648 : Int) ≤ F166 3 5 ∧ F166 3 5 ≤ 2147483647 := H.frng 3 5; rw [show F166 3 5 = y171 from (ey172)] at h1; exact h1
                            exact hc198  _ σ _ _  (lc180_0) (lc180_1) (lc180_4) (lc180_5) (lc180_6) (lc180_7) H (SF_trans (SF_refl) hS168 (any_sub rfl)) (SA_trans (SA_refl) hA169 (any_subA rfl)) (y171) ((ey172))  (show 0 ≤ (y171) ∧ (y171) ≤ (u3_2) + (x136_6) by omega)
                        refine Ew_of (pc' := 150) (fun _ => x_iload rfl l136_6) ?_
                        refine Ew_of (pc' := 152) (fun _ => x_iload rfl l136_4) ?_
                        refine w_iadd rfl ?_
                        refine Ew_of (pc' := 154) (fun _ => x_aload_n rfl l136_0) ?_
                        refine w_gT H (o := 3) (t := 1) rfl (H.perm 3 rfl) rfl rfl rfl rfl rfl rfl ?_
                        refine w_gI H (o := 1) (w := u1_1) rfl (H.perm 1 rfl) rfl rfl rfl (fun _ => rfl) ((((((((((hS_136 1 1 rfl).trans (hS50 1 1 rfl)).trans (hS43 1 1 rfl)).trans (hS_c108 1 1 rfl)).trans (hS_c91 1 1 rfl)).trans (hS33 1 1 rfl)).trans (hS25 1 1 rfl)).trans (hS17 1 1 rfl)).trans (hS5 1 1 rfl)).trans (eu1_1)) ?_
                        refine w_icmpge (t := 171) rfl rfl (show inr ((x136_6 + a4)) by omega) (show inr (u1_1) by omega) (fun b174 => ?_) (fun b174 => ?_)
                        · refine Ew_of (pc' := 172) (fun _ => x_aload_n rfl l136_0) ?_
                          refine w_gT H (o := 3) (t := 1) rfl (H.perm 3 rfl) rfl rfl rfl rfl rfl rfl ?_
                          refine w_gI H (o := 1) (w := u1_1) rfl (H.perm 1 rfl) rfl rfl rfl (fun _ => rfl) ((((((((((hS_136 1 1 rfl).trans (hS50 1 1 rfl)).trans (hS43 1 1 rfl)).trans (hS_c108 1 1 rfl)).trans (hS_c91 1 1 rfl)).trans (hS33 1 1 rfl)).trans (hS25 1 1 rfl)).trans (hS17 1 1 rfl)).trans (hS5 1 1 rfl)).trans (eu1_1)) ?_
                          refine Ew_of (pc' := 180) (fun _ => x_istore rfl) ?_
                          exact hc180  _ σ _ _ (u1_1) (rk_o (l136_0) rfl rfl) (rk_o (l136_1) rfl rfl) (rk_o (l136_4) rfl rfl) (rk_o (l136_5) rfl rfl) (rk_o (l136_6) rfl rfl) (rk_s) H (SF_refl) (SA_refl)   (show inr (u1_1) by omega) (show (x136_6) ≤ (u1_1) ∧ (u1_1) ≤ (u1_1) by omega) (show (u1_1) = (x136_6) + (a4) ∨ (u1_1) = (u1_1) by omega) (show (u1_1) ≤ (x136_6) + (a4) by omega)
                        · refine Ew_of (pc' := 165) (fun _ => x_iload rfl l136_6) ?_
                          refine Ew_of (pc' := 167) (fun _ => x_iload rfl l136_4) ?_
                          refine w_iadd rfl ?_
                          refine Ew_of (pc' := 178) (fun _ => x_goto rfl rfl) ?_
                          refine Ew_of (pc' := 180) (fun _ => x_istore rfl) ?_
                          exact hc180  _ σ _ _ ((x136_6 + a4)) (rk_o (l136_0) rfl rfl) (rk_o (l136_1) rfl rfl) (rk_o (l136_4) rfl rfl) (rk_o (l136_5) rfl rfl) (rk_o (l136_6) rfl rfl) (rk_s) H (SF_refl) (SA_refl)   (show inr ((x136_6 + a4)) by omega) (show (x136_6) ≤ ((x136_6 + a4)) ∧ ((x136_6 + a4)) ≤ (u1_1) by omega) (show ((x136_6 + a4)) = (x136_6) + (a4) ∨ ((x136_6 + a4)) = (u1_1) by omega) (show ((x136_6 + a4)) ≤ (x136_6) + (a4) by omega)
                  refine Ew_of (pc' := 92) (fun _ => x_iload_n rfl lc91_1) ?_
                  refine Ew_of (pc' := 93) (fun _ => x_iconst rfl) ?_
                  refine w_iand rfl (show inr (a1) by omega) (show inr (1) by omega) (fun z175 gz175 gaz175 gbz175 => ?_)
                  refine w_ifeq (t := 108) rfl rfl (show inr (z175) by omega) (fun b176 => ?_) (fun b176 => ?_)
                  · exact hc108  _ σ _ _  (lc91_0) (lc91_1) (lc91_4) (lc91_5) H (SF_refl) (SA_refl) (yc91_3_8) ((eyc91_3_8))  (show 6 ≤ (yc91_3_8) ∧ (yc91_3_8) ≤ 18 by omega)
                  · refine Ew_of (pc' := 98) (fun _ => x_aload_n rfl lc91_0) ?_
                    refine Ew_of (pc' := 99) (fun _ => x_iload_n rfl lc91_3) ?_
                    refine w_i2l rfl (show inr (a3) by omega) ?_
                    refine Ew_of (pc' := 103) (fun _ => x_ldc2 (z := 4294967295) rfl (by decide)) ?_
                    refine w_land rfl (show inrJ (a3) by omega) (show inrJ (4294967295) by omega) (fun z177 gz177 gaz177 gbz177 => ?_)
                    refine Ew_of (pc' := 105) (fun _ => x_iconst rfl) ?_
                    refine w_inv H (o := 3) rfl rfl rfl (H.perm 3 rfl) rfl rfl (by rfl) (M377 H (yc91_3_8) ((eyc91_3_8)) (show inrJ (z177) by omega) (show inr (4) by omega) (show 0 ≤ (4) ∧ (4) ≤ 8 by omega) (show 0 ≤ (yc91_3_8) ∧ (yc91_3_8) ≤ 10000000 by omega) (fun σ F178 A179 H hS180 hA181 y183 ey184 pz182_0 => ⟨rfl, ?_⟩))
                    have r185 : (-2147483648 : Int) ≤ y183 ∧ y183 ≤ 2147483647 := by have h1 : (-2147483648 : Int) ≤ F178 3 8 ∧ F178 3 8 ≤ 2147483647 := H.frng 3 8; rw [show F178 3 8 = y183 from (ey184)] at h1; exact h1
                    exact hc108  _ σ _ _  (lc91_0) (lc91_1) (lc91_4) (lc91_5) H (SF_trans (SF_refl) hS180 (any_sub rfl)) (SA_trans (SA_refl) hA181 (any_subA rfl)) (y183) ((ey184))  (show 6 ≤ (y183) ∧ (y183) ≤ 18 by omega)
                refine Ew_of (pc' := 71) (fun _ => x_iload_n rfl rfl) ?_
                refine Ew_of (pc' := 73) (fun _ => x_bipush (z := 8) rfl (by decide)) ?_
                refine w_iand rfl (show inr (a1) by omega) (show inr (8) by omega) (fun z186 gz186 gaz186 gbz186 => ?_)
                refine w_ifeq (t := 91) rfl rfl (show inr (z186) by omega) (fun b187 => ?_) (fun b187 => ?_)
                · exact hc91  _ σ _ _  (rfl) (rfl) (rfl) (rfl) (rfl) H (SF_refl) (SA_refl) (y36) ((ey37))  (show 6 ≤ (y36) ∧ (y36) ≤ 14 by omega)
                · refine Ew_of (pc' := 78) (fun _ => x_aload_n rfl rfl) ?_
                  refine Ew_of (pc' := 79) (fun _ => x_aload_n rfl rfl) ?_
                  refine w_gT H (o := 3) (t := 1) rfl (H.perm 3 rfl) rfl rfl rfl rfl rfl rfl ?_
                  refine w_gI H (o := 1) (w := u1_1) rfl (H.perm 1 rfl) rfl rfl rfl (fun _ => rfl) (((((hS33 1 1 rfl).trans (hS25 1 1 rfl)).trans (hS17 1 1 rfl)).trans (hS5 1 1 rfl)).trans (eu1_1)) ?_
                  refine w_i2l rfl (show inr (u1_1) by omega) ?_
                  refine Ew_of (pc' := 88) (fun _ => x_bipush (z := 8) rfl (by decide)) ?_
                  refine w_inv H (o := 3) rfl rfl rfl (H.perm 3 rfl) rfl rfl (by rfl) (M377 H (y36) ((ey37)) (show inrJ (u1_1) by omega) (show inr (8) by omega) (show 0 ≤ (8) ∧ (8) ≤ 8 by omega) (show 0 ≤ (y36) ∧ (y36) ≤ 10000000 by omega) (fun σ F188 A189 H hS190 hA191 y193 ey194 pz192_0 => ⟨rfl, ?_⟩))
                  have r195 : (-2147483648 : Int) ≤ y193 ∧ y193 ≤ 2147483647 := by have h1 : (-2147483648 : Int) ≤ F188 3 8 ∧ F188 3 8 ≤ 2147483647 := H.frng 3 8; rw [show F188 3 8 = y193 from (ey194)] at h1; exact h1
                  exact hc91  _ σ _ _  (rfl) (rfl) (rfl) (rfl) (rfl) H (SF_trans (SF_refl) hS190 (any_sub rfl)) (SA_trans (SA_refl) hA191 (any_subA rfl)) (y193) ((ey194))  (show 6 ≤ (y193) ∧ (y193) ≤ 14 by omega)
              · refine Ew_of (pc' := 43) (fun _ => x_iconst rfl) ?_
                exact w_ireturn rfl (k ((-1)) σ _ _ H (SF_trans (SF_refl) hS5 (any_sub rfl)) (SA_trans (SA_refl) hA6 (any_subA rfl)) (show inr ((-1)) by omega))
