/-- Tokens.frame -/
theorem M378 {σ0 σ : rS} {D N : Nat → Nat} {F : hF} {A : hA} {d c s : Nat} {Q : wQ} (H : HS σ0 σ D N F A) {a1 a2 a3 a4 a5 : Int} (u1_1 : Int) (eu1_1 : F 1 1 = u1_1) (u3_2 : Int) (eu3_2 : F 3 2 = u3_2) (h0 : inr (a1)) (h1 : inr (a2)) (h2 : inr (a3)) (h3 : inr (a4)) (h4 : inr (a5)) (h5 : (u3_2) + (u1_1) ≤ 16384) (k : ∀ (z : Int) σ Fₚ Aₚ, HS σ0 σ D N Fₚ Aₚ → SF [(1, 3), (3, 5), (3, 6), (3, 8), (3, 10)] F Fₚ → SA [15, 17, 18, 19, 20] A Aₚ → (inr (z)) → Q (some (I z)) σ c s) : Ew 378 (d + 4) 0 (rargs 0 [.ref (D 3), I a1, I a2, I a3, I a4, I a5]) [] σ c s Q := by
  have r1 : (0 : Int) ≤ u1_1 ∧ u1_1 ≤ 65536 := rngE (show (0 : Int) ≤ F 1 1 ∧ F 1 1 ≤ 65536 from H.frng 1 1) (show F 1 1 = u1_1 from (eu1_1))
  have r2 : (0 : Int) ≤ u3_2 ∧ u3_2 ≤ 65536 := rngE (show (0 : Int) ≤ F 3 2 ∧ F 3 2 ≤ 65536 from H.frng 3 2) (show F 3 2 = u3_2 from (eu3_2))
  refine Ew_of (pcₚ := 1) (fun _ => x_iload_n rfl rfl) ?_
  refine w_stat24 rfl rfl (by rfl) (M375 H (show inr (a1) from h0) (fun z7 σ F3 A4 H hS5 hA6 pz7_0 pz7_1 => ⟨rretB rfl pz7_0, ?_⟩))
  refine w_ifeq (t := 42) rfl rfl (show inr (z7) from q_15 pz7_0) (fun b8 => ?_) (fun b8 => ?_)
  · refine Ew_of (pcₚ := 43) (fun _ => x_iconst rfl) ?_
    exact w_ireturn rfl (k ((-1)) σ _ _ H (SF_trans (SF_refl) hS5 (any_sub rfl)) (SA_trans (SA_refl) hA6 (any_subA rfl)) (show inr ((-1)) from q_16))
  · refine Ew_of (pcₚ := 8) (fun _ => x_iload_n rfl rfl) ?_
    refine Ew_of (pcₚ := 9) (fun _ => x_iconst rfl) ?_
    refine w_icmplt (t := 42) rfl rfl (show inr (a2) from h1) (show inr (4) from q_2) (fun b9 => ?_) (fun b9 => ?_)
    · refine Ew_of (pcₚ := 43) (fun _ => x_iconst rfl) ?_
      exact w_ireturn rfl (k ((-1)) σ _ _ H (SF_trans (SF_refl) hS5 (any_sub rfl)) (SA_trans (SA_refl) hA6 (any_subA rfl)) (show inr ((-1)) from q_16))
    · refine Ew_of (pcₚ := 13) (fun _ => x_iload_n rfl rfl) ?_
      refine Ew_of (pcₚ := 15) (fun _ => x_bipush (z := 7) rfl (by decide)) ?_
      refine w_icmpgt (t := 42) rfl rfl (show inr (a2) from h1) (show inr (7) from q_355) (fun b10 => ?_) (fun b10 => ?_)
      · refine Ew_of (pcₚ := 43) (fun _ => x_iconst rfl) ?_
        exact w_ireturn rfl (k ((-1)) σ _ _ H (SF_trans (SF_refl) hS5 (any_sub rfl)) (SA_trans (SA_refl) hA6 (any_subA rfl)) (show inr ((-1)) from q_16))
      · refine Ew_of (pcₚ := 20) (fun _ => x_iload rfl rfl) ?_
        refine Ew_of (pcₚ := 21) (fun _ => x_iconst rfl) ?_
        refine w_icmplt (t := 42) rfl rfl (show inr (a4) from h3) (show inr (1) from q_23) (fun b11 => ?_) (fun b11 => ?_)
        · refine Ew_of (pcₚ := 43) (fun _ => x_iconst rfl) ?_
          exact w_ireturn rfl (k ((-1)) σ _ _ H (SF_trans (SF_refl) hS5 (any_sub rfl)) (SA_trans (SA_refl) hA6 (any_subA rfl)) (show inr ((-1)) from q_16))
        · refine Ew_of (pcₚ := 26) (fun _ => x_iload rfl rfl) ?_
          refine Ew_of (pcₚ := 28) (fun _ => x_ldc (z := 65536) rfl (by decide)) ?_
          refine w_icmpgt (t := 42) rfl rfl (show inr (a4) from h3) (show inr (65536) from q_35) (fun b12 => ?_) (fun b12 => ?_)
          · refine Ew_of (pcₚ := 43) (fun _ => x_iconst rfl) ?_
            exact w_ireturn rfl (k ((-1)) σ _ _ H (SF_trans (SF_refl) hS5 (any_sub rfl)) (SA_trans (SA_refl) hA6 (any_subA rfl)) (show inr ((-1)) from q_16))
          · refine Ew_of (pcₚ := 33) (fun _ => x_iload rfl rfl) ?_
            refine w_iflt (t := 42) rfl rfl (show inr (a5) from h4) (fun b13 => ?_) (fun b13 => ?_)
            · refine Ew_of (pcₚ := 43) (fun _ => x_iconst rfl) ?_
              exact w_ireturn rfl (k ((-1)) σ _ _ H (SF_trans (SF_refl) hS5 (any_sub rfl)) (SA_trans (SA_refl) hA6 (any_subA rfl)) (show inr ((-1)) from q_16))
            · refine Ew_of (pcₚ := 38) (fun _ => x_iload rfl rfl) ?_
              refine Ew_of (pcₚ := 39) (fun _ => x_iconst rfl) ?_
              refine w_icmple (t := 44) rfl rfl (show inr (a5) from h4) (show inr (3) from q_66) (fun b14 => ?_) (fun b14 => ?_)
              · refine Ew_of (pcₚ := 45) (fun _ => x_aload_n rfl rfl) ?_
                refine Ew_of (pcₚ := 46) (fun _ => x_iconst rfl) ?_
                refine w_pI H (o := 3) rfl rfl (H.perm 3 rfl) rfl rfl rfl (fun _ => rfl) rfl (show (-2147483648 : Int) ≤ 0 ∧ 0 ≤ 2147483647 from q_240) (fun σ H => ?_)
                refine Ew_of (pcₚ := 50) (fun _ => x_aload_n rfl rfl) ?_
                refine Ew_of (pcₚ := 53) (fun _ => x_ldc2 (z := 407708164) rfl (by decide)) ?_
                refine Ew_of (pcₚ := 54) (fun _ => x_iconst rfl) ?_
                refine w_inv H (o := 3) rfl rfl rfl (H.perm 3 rfl) rfl rfl (by rfl) (M377 H (0) (rfl) (show inrJ (407708164) from q_382) (show inr (4) from q_2) (show 0 ≤ (4) ∧ (4) ≤ 8 from q_381) (show 0 ≤ (0) ∧ (0) ≤ 10000000 from q_380) (fun σ F15 A16 H hS17 hA18 y20 ey21 pz19_0 => ⟨rfl, ?_⟩))
                have r22 : (-2147483648 : Int) ≤ y20 ∧ y20 ≤ 2147483647 := rngE (show (-2147483648 : Int) ≤ F15 3 8 ∧ F15 3 8 ≤ 2147483647 from H.frng 3 8) (show F15 3 8 = y20 from (ey21))
                refine Ew_of (pcₚ := 58) (fun _ => x_aload_n rfl rfl) ?_
                refine Ew_of (pcₚ := 59) (fun _ => x_iload_n rfl rfl) ?_
                refine w_inv H (o := 3) rfl rfl rfl (H.perm 3 rfl) rfl rfl (by rfl) (M376 H (y20) ((ey21)) (show inr (a1) from h0) (show 0 ≤ (a1) ∧ (a1) ≤ 255 from q_384 b8 pz7_0 pz7_1) (show 0 ≤ (y20) ∧ (y20) ≤ 100000000 from q_383 pz19_0) (fun σ F23 A24 H hS25 hA26 y28 ey29 pz27_0 => ⟨rfl, ?_⟩))
                have r30 : (-2147483648 : Int) ≤ y28 ∧ y28 ≤ 2147483647 := rngE (show (-2147483648 : Int) ≤ F23 3 8 ∧ F23 3 8 ≤ 2147483647 from H.frng 3 8) (show F23 3 8 = y28 from (ey29))
                refine Ew_of (pcₚ := 63) (fun _ => x_aload_n rfl rfl) ?_
                refine Ew_of (pcₚ := 65) (fun _ => x_bipush (z := 16) rfl (by decide)) ?_
                refine Ew_of (pcₚ := 66) (fun _ => x_iload_n rfl rfl) ?_
                refine w_imul rfl ?_
                refine w_inv H (o := 3) rfl rfl rfl (H.perm 3 rfl) rfl rfl (by rfl) (M376 H (y28) ((ey29)) (show inr ((16 * a2)) from q_387 b10 b9) (show 0 ≤ ((16 * a2)) ∧ ((16 * a2)) ≤ 255 from q_386 b10 b9) (show 0 ≤ (y28) ∧ (y28) ≤ 100000000 from q_385 pz19_0 pz27_0) (fun σ F31 A32 H hS33 hA34 y36 ey37 pz35_0 => ⟨rfl, ?_⟩))
                have r38 : (-2147483648 : Int) ≤ y36 ∧ y36 ≤ 2147483647 := rngE (show (-2147483648 : Int) ≤ F31 3 8 ∧ F31 3 8 ≤ 2147483647 from H.frng 3 8) (show F31 3 8 = y36 from (ey37))
                have hc91 : ∀ (ls : rO) (σ : rS) (F_c91 : hF) (A_c91 : hA) , rlook ls 0 = some (.ref (D 3)) → rlook ls 1 = some (I (a1)) → rlook ls 3 = some (I (a3)) → rlook ls 4 = some (I (a4)) → rlook ls 5 = some (I (a5)) → HS σ0 σ D N F_c91 A_c91 → SF [(3, 8)] F31 F_c91 → SA [19] A32 A_c91 → ∀ yc91_3_8 : Int, F_c91 3 8 = yc91_3_8 → (6 ≤ (yc91_3_8) ∧ (yc91_3_8) ≤ 14) → Ew 378 (d + 4) 91 ls [] σ c s Q := by
                 as_aux_lemma =>
                  intro  ls σ F_c91 A_c91  lc91_0 lc91_1 lc91_3 lc91_4 lc91_5 H hS_c91 hA_c91 yc91_3_8 eyc91_3_8  jc91_0
                  have r39 : (-2147483648 : Int) ≤ yc91_3_8 ∧ yc91_3_8 ≤ 2147483647 := rngE (show (-2147483648 : Int) ≤ F_c91 3 8 ∧ F_c91 3 8 ≤ 2147483647 from H.frng 3 8) (show F_c91 3 8 = yc91_3_8 from (eyc91_3_8))
                  have hc108 : ∀ (ls : rO) (σ : rS) (F_c108 : hF) (A_c108 : hA) , rlook ls 0 = some (.ref (D 3)) → rlook ls 1 = some (I (a1)) → rlook ls 4 = some (I (a4)) → rlook ls 5 = some (I (a5)) → HS σ0 σ D N F_c108 A_c108 → SF [(3, 8)] F_c91 F_c108 → SA [19] A_c91 A_c108 → ∀ yc108_3_8 : Int, F_c108 3 8 = yc108_3_8 → (6 ≤ (yc108_3_8) ∧ (yc108_3_8) ≤ 18) → Ew 378 (d + 4) 108 ls [] σ c s Q := by
                   as_aux_lemma =>
                    intro  ls σ F_c108 A_c108  lc108_0 lc108_1 lc108_4 lc108_5 H hS_c108 hA_c108 yc108_3_8 eyc108_3_8  jc108_0
                    have r40 : (-2147483648 : Int) ≤ yc108_3_8 ∧ yc108_3_8 ≤ 2147483647 := rngE (show (-2147483648 : Int) ≤ F_c108 3 8 ∧ F_c108 3 8 ≤ 2147483647 from H.frng 3 8) (show F_c108 3 8 = yc108_3_8 from (eyc108_3_8))
                    refine Ew_of (pcₚ := 109) (fun _ => x_aload_n rfl lc108_0) ?_
                    refine Ew_of (pcₚ := 110) (fun _ => x_aload_n rfl lc108_0) ?_
                    refine Ew_of (pcₚ := 111) (fun _ => x_aload_n rfl lc108_0) ?_
                    refine w_gT H (o := 3) (t := 19) rfl (H.perm 3 rfl) rfl rfl rfl rfl rfl rfl ?_
                    refine Ew_of (pcₚ := 115) (fun _ => x_iconst rfl) ?_
                    refine Ew_of (pcₚ := 116) (fun _ => x_aload_n rfl lc108_0) ?_
                    refine w_gI H (o := 3) (w := yc108_3_8) rfl (H.perm 3 rfl) rfl rfl rfl (fun _ => rfl) (eyc108_3_8) ?_
                    refine w_inv H (o := 3) rfl rfl rfl (H.perm 3 rfl) rfl rfl (by rfl) (M359_19 H (show inr (4) from q_2) (show inr (yc108_3_8) from q_389 jc108_0) (show 0 ≤ (4) ∧ (4) ≤ (yc108_3_8) ∧ (yc108_3_8) ≤ 70000 from q_388 jc108_0) (fun z45 σ F41 A42 H hS43 hA44 pz45_0 => ⟨rfl, ?_⟩))
                    refine Ew_of (pcₚ := 124) (fun _ => x_bipush (z := 8) rfl (by decide)) ?_
                    refine w_lshrA rfl (fun z46 gz46 => ?_)
                    refine Ew_of (pcₚ := 128) (fun _ => x_ldc2 (z := 255) rfl (by decide)) ?_
                    refine w_land rfl (show inrJ (z46) from gz46) (show inrJ (255) from q_268) (fun z47 gz47 gaz47 gbz47 => ?_)
                    refine w_l2i rfl ?_
                    refine w_inv H (o := 3) rfl rfl rfl (H.perm 3 rfl) rfl rfl (by rfl) (M376 H (yc108_3_8) (((hS43 3 8 rfl).trans (eyc108_3_8))) (show inr (z47) by omega) (show 0 ≤ (z47) ∧ (z47) ≤ 255 by omega) (show 0 ≤ (yc108_3_8) ∧ (yc108_3_8) ≤ 100000000 from q_390 jc108_0) (fun σ F48 A49 H hS50 hA51 y53 ey54 pz52_0 => ⟨rfl, ?_⟩))
                    have r55 : (-2147483648 : Int) ≤ y53 ∧ y53 ≤ 2147483647 := rngE (show (-2147483648 : Int) ≤ F48 3 8 ∧ F48 3 8 ≤ 2147483647 from H.frng 3 8) (show F48 3 8 = y53 from (ey54))
                    refine Ew_of (pcₚ := 134) (fun _ => x_iconst rfl) ?_
                    refine Ew_of (pcₚ := 136) (fun _ => x_istore rfl) ?_
                    suffices hl136 : ∀ (m : Nat), ∀ (ls : rO) (σ : rS) (F_136 : hF) (A_136 : hA) (x136_6 : Int), rlook ls 0 = some (.ref (D 3)) → rlook ls 1 = some (I (a1)) → rlook ls 4 = some (I (a4)) → rlook ls 5 = some (I (a5)) → rlook ls 6 = some (I (x136_6)) → HS σ0 σ D N F_136 A_136 → SF [(3, 5), (3, 6), (3, 8), (3, 10)] F48 F_136 → SA [17, 18, 19, 20] A49 A_136 → ∀ y136_3_8 : Int, F_136 3 8 = y136_3_8 → (inr (x136_6)) → (0 ≤ (x136_6)) → (0 ≤ (y136_3_8)) → ((y136_3_8) ≤ 30 + 9 * (x136_6) ∧ (x136_6) ≤ (u1_1) ∨ (y136_3_8) ≤ 30 + 9 * (u1_1) ∧ (u1_1) ≤ (x136_6)) → ((u1_1) - (x136_6)).toNat = m → Ew 378 (d + 4) 136 ls [] σ c s Q from
                      hl136 _ _ σ _ _ (0) (rk_o (lc108_0) rfl rfl) (rk_o (lc108_1) rfl rfl) (rk_o (lc108_4) rfl rfl) (rk_o (lc108_5) rfl rfl) (rk_s) H (SF_refl) (SA_refl) (y53) ((ey54))  (show inr (0) from q_20) (show 0 ≤ (0) from q_25) (show 0 ≤ (y53) from q_392 jc108_0 pz52_0) (show (y53) ≤ 30 + 9 * (0) ∧ (0) ≤ (u1_1) ∨ (y53) ≤ 30 + 9 * (u1_1) ∧ (u1_1) ≤ (0) from q_391 jc108_0 pz52_0 r1) rfl
                    as_aux_lemma =>
                    intro m
                    induction m using Nat.strongRecOn with
                    | _ m ih136 =>
                      intro ls σ F_136 A_136 x136_6 l136_0 l136_1 l136_4 l136_5 l136_6 H hS_136 hA_136 y136_3_8 ey136_3_8  j136_0 j136_1 j136_2 j136_3 hm136
                      have r56 : (-2147483648 : Int) ≤ y136_3_8 ∧ y136_3_8 ≤ 2147483647 := rngE (show (-2147483648 : Int) ≤ F_136 3 8 ∧ F_136 3 8 ≤ 2147483647 from H.frng 3 8) (show F_136 3 8 = y136_3_8 from (ey136_3_8))
                      refine Ew_of (pcₚ := 138) (fun _ => x_iload rfl l136_6) ?_
                      refine Ew_of (pcₚ := 139) (fun _ => x_aload_n rfl l136_0) ?_
                      refine w_gT H (o := 3) (t := 1) rfl (H.perm 3 rfl) rfl rfl rfl rfl rfl rfl ?_
                      refine w_gI H (o := 1) (w := u1_1) rfl (H.perm 1 rfl) rfl rfl rfl (fun _ => rfl) ((((((((((hS_136 1 1 rfl).trans (hS50 1 1 rfl)).trans (hS43 1 1 rfl)).trans (hS_c108 1 1 rfl)).trans (hS_c91 1 1 rfl)).trans (hS33 1 1 rfl)).trans (hS25 1 1 rfl)).trans (hS17 1 1 rfl)).trans (hS5 1 1 rfl)).trans (eu1_1)) ?_
                      refine w_icmpge (t := 366) rfl rfl (show inr (x136_6) from j136_0) (show inr (u1_1) from q_12 r1) (fun b57 => ?_) (fun b57 => ?_)
                      · refine Ew_of (pcₚ := 367) (fun _ => x_aload_n rfl l136_0) ?_
                        refine Ew_of (pcₚ := 368) (fun _ => x_lconst (z := 0) rfl (by decide)) ?_
                        refine Ew_of (pcₚ := 369) (fun _ => x_iconst rfl) ?_
                        refine w_inv H (o := 3) rfl rfl rfl (H.perm 3 rfl) rfl rfl (by rfl) (M377 H (y136_3_8) ((ey136_3_8)) (show inrJ (0) from q_81) (show inr (4) from q_2) (show 0 ≤ (4) ∧ (4) ≤ 8 from q_381) (show 0 ≤ (y136_3_8) ∧ (y136_3_8) ≤ 10000000 from q_393 j136_2 j136_3 r1) (fun σ F58 A59 H hS60 hA61 y63 ey64 pz62_0 => ⟨rfl, ?_⟩))
                        have r65 : (-2147483648 : Int) ≤ y63 ∧ y63 ≤ 2147483647 := rngE (show (-2147483648 : Int) ≤ F58 3 8 ∧ F58 3 8 ≤ 2147483647 from H.frng 3 8) (show F58 3 8 = y63 from (ey64))
                        refine Ew_of (pcₚ := 373) (fun _ => x_iload_n rfl l136_1) ?_
                        refine Ew_of (pcₚ := 374) (fun _ => x_iconst rfl) ?_
                        refine w_iand rfl (show inr (a1) from h0) (show inr (4) from q_2) (fun z66 gz66 gaz66 gbz66 => ?_)
                        refine w_ifeq (t := 402) rfl rfl (show inr (z66) from gz66) (fun b67 => ?_) (fun b67 => ?_)
                        · refine Ew_of (pcₚ := 403) (fun _ => x_aload_n rfl l136_0) ?_
                          refine Ew_of (pcₚ := 404) (fun _ => x_aload_n rfl l136_0) ?_
                          refine w_gT H (o := 3) (t := 19) rfl (H.perm 3 rfl) rfl rfl rfl rfl rfl rfl ?_
                          refine Ew_of (pcₚ := 408) (fun _ => x_aload_n rfl l136_0) ?_
                          refine w_gI H (o := 3) (w := y63) rfl (H.perm 3 rfl) rfl rfl rfl (fun _ => rfl) (ey64) ?_
                          refine w_inv H (o := 3) rfl rfl rfl (H.perm 3 rfl) rfl rfl (by rfl) (M369_19 H (show inr (y63) from q_22 r65) (show 0 ≤ (y63) ∧ (y63) ≤ 100000000 by omega) (fun z72 σ F68 A69 H hS70 hA71 pz72_0 pz72_1 => ⟨rfl, ?_⟩))
                          exact w_ireturn rfl (k (z72) σ _ _ H (SF_trans (SF_trans (SF_trans (SF_trans (SF_trans (SF_trans (SF_trans (SF_trans (SF_trans (SF_trans (SF_upd (SF_trans (SF_refl) hS5 (any_sub rfl)) rfl) hS17 (any_sub rfl)) hS25 (any_sub rfl)) hS33 (any_sub rfl)) hS_c91 (any_sub rfl)) hS_c108 (any_sub rfl)) hS43 (any_sub rfl)) hS50 (any_sub rfl)) hS_136 (any_sub rfl)) hS60 (any_sub rfl)) hS70 (any_sub rfl)) (SA_trans (SA_trans (SA_trans (SA_trans (SA_trans (SA_trans (SA_trans (SA_trans (SA_trans (SA_trans (SA_trans (SA_refl) hA6 (any_subA rfl)) hA18 (any_subA rfl)) hA26 (any_subA rfl)) hA34 (any_subA rfl)) hA_c91 (any_subA rfl)) hA_c108 (any_subA rfl)) hA44 (any_subA rfl)) hA51 (any_subA rfl)) hA_136 (any_subA rfl)) hA61 (any_subA rfl)) hA71 (any_subA rfl)) (show inr (z72) from pz72_0))
                        · refine Ew_of (pcₚ := 379) (fun _ => x_aload_n rfl l136_0) ?_
                          refine Ew_of (pcₚ := 380) (fun _ => x_aload_n rfl l136_0) ?_
                          refine Ew_of (pcₚ := 381) (fun _ => x_aload_n rfl l136_0) ?_
                          refine w_gT H (o := 3) (t := 1) rfl (H.perm 3 rfl) rfl rfl rfl rfl rfl rfl ?_
                          refine w_gT H (o := 1) (t := 14) rfl (H.perm 1 rfl) rfl rfl rfl rfl rfl rfl ?_
                          refine Ew_of (pcₚ := 388) (fun _ => x_iconst rfl) ?_
                          refine Ew_of (pcₚ := 389) (fun _ => x_aload_n rfl l136_0) ?_
                          refine w_gT H (o := 3) (t := 1) rfl (H.perm 3 rfl) rfl rfl rfl rfl rfl rfl ?_
                          refine w_gI H (o := 1) (w := u1_1) rfl (H.perm 1 rfl) rfl rfl rfl (fun _ => rfl) (((((((((((hS60 1 1 rfl).trans (hS_136 1 1 rfl)).trans (hS50 1 1 rfl)).trans (hS43 1 1 rfl)).trans (hS_c108 1 1 rfl)).trans (hS_c91 1 1 rfl)).trans (hS33 1 1 rfl)).trans (hS25 1 1 rfl)).trans (hS17 1 1 rfl)).trans (hS5 1 1 rfl)).trans (eu1_1)) ?_
                          refine w_inv H (o := 3) rfl rfl rfl (H.perm 3 rfl) rfl rfl (by rfl) (M359_14 H (show inr (0) from q_20) (show inr (u1_1) from q_12 r1) (show 0 ≤ (0) ∧ (0) ≤ (u1_1) ∧ (u1_1) ≤ 65536 from q_394 r1) (fun z77 σ F73 A74 H hS75 hA76 pz77_0 => ⟨rfl, ?_⟩))
                          refine Ew_of (pcₚ := 399) (fun _ => x_iconst rfl) ?_
                          refine w_inv H (o := 3) rfl rfl rfl (H.perm 3 rfl) rfl rfl (by rfl) (M377 H (y63) (((hS75 3 8 rfl).trans (ey64))) (show inrJ (z77) from pz77_0) (show inr (4) from q_2) (show 0 ≤ (4) ∧ (4) ≤ 8 from q_381) (show 0 ≤ (y63) ∧ (y63) ≤ 10000000 by omega) (fun σ F78 A79 H hS80 hA81 y83 ey84 pz82_0 => ⟨rfl, ?_⟩))
                          have r85 : (-2147483648 : Int) ≤ y83 ∧ y83 ≤ 2147483647 := rngE (show (-2147483648 : Int) ≤ F78 3 8 ∧ F78 3 8 ≤ 2147483647 from H.frng 3 8) (show F78 3 8 = y83 from (ey84))
                          refine Ew_of (pcₚ := 403) (fun _ => x_aload_n rfl l136_0) ?_
                          refine Ew_of (pcₚ := 404) (fun _ => x_aload_n rfl l136_0) ?_
                          refine w_gT H (o := 3) (t := 19) rfl (H.perm 3 rfl) rfl rfl rfl rfl rfl rfl ?_
                          refine Ew_of (pcₚ := 408) (fun _ => x_aload_n rfl l136_0) ?_
                          refine w_gI H (o := 3) (w := y83) rfl (H.perm 3 rfl) rfl rfl rfl (fun _ => rfl) (ey84) ?_
                          refine w_inv H (o := 3) rfl rfl rfl (H.perm 3 rfl) rfl rfl (by rfl) (M369_19 H (show inr (y83) from q_22 r85) (show 0 ≤ (y83) ∧ (y83) ≤ 100000000 by omega) (fun z90 σ F86 A87 H hS88 hA89 pz90_0 pz90_1 => ⟨rfl, ?_⟩))
                          exact w_ireturn rfl (k (z90) σ _ _ H (SF_trans (SF_trans (SF_trans (SF_trans (SF_trans (SF_trans (SF_trans (SF_trans (SF_trans (SF_trans (SF_trans (SF_trans (SF_upd (SF_trans (SF_refl) hS5 (any_sub rfl)) rfl) hS17 (any_sub rfl)) hS25 (any_sub rfl)) hS33 (any_sub rfl)) hS_c91 (any_sub rfl)) hS_c108 (any_sub rfl)) hS43 (any_sub rfl)) hS50 (any_sub rfl)) hS_136 (any_sub rfl)) hS60 (any_sub rfl)) hS75 (any_sub rfl)) hS80 (any_sub rfl)) hS88 (any_sub rfl)) (SA_trans (SA_trans (SA_trans (SA_trans (SA_trans (SA_trans (SA_trans (SA_trans (SA_trans (SA_trans (SA_trans (SA_trans (SA_trans (SA_refl) hA6 (any_subA rfl)) hA18 (any_subA rfl)) hA26 (any_subA rfl)) hA34 (any_subA rfl)) hA_c91 (any_subA rfl)) hA_c108 (any_subA rfl)) hA44 (any_subA rfl)) hA51 (any_subA rfl)) hA_136 (any_subA rfl)) hA61 (any_subA rfl)) hA76 (any_subA rfl)) hA81 (any_subA rfl)) hA89 (any_subA rfl)) (show inr (z90) from pz90_0))
                      · have hc180 : ∀ (ls : rO) (σ : rS) (F_c180 : hF) (A_c180 : hA) (xc180_7 : Int), rlook ls 0 = some (.ref (D 3)) → rlook ls 1 = some (I (a1)) → rlook ls 4 = some (I (a4)) → rlook ls 5 = some (I (a5)) → rlook ls 6 = some (I (x136_6)) → rlook ls 7 = some (I (xc180_7)) → HS σ0 σ D N F_c180 A_c180 → SF [] F_136 F_c180 → SA [] A_136 A_c180 → (inr (xc180_7)) → ((x136_6) ≤ (xc180_7) ∧ (xc180_7) ≤ (u1_1)) → ((xc180_7) = (x136_6) + (a4) ∨ (xc180_7) = (u1_1)) → ((xc180_7) ≤ (x136_6) + (a4)) → Ew 378 (d + 4) 180 ls [] σ c s Q := by
                         as_aux_lemma =>
                          intro  ls σ F_c180 A_c180 xc180_7 lc180_0 lc180_1 lc180_4 lc180_5 lc180_6 lc180_7 H hS_c180 hA_c180   jc180_0 jc180_1 jc180_2 jc180_3
                          refine Ew_of (pcₚ := 181) (fun _ => x_aload_n rfl lc180_0) ?_
                          refine w_inv H (o := 3) rfl rfl rfl (H.perm 3 rfl) rfl rfl (by rfl) (M367 H (u3_2) ((((((((((((hS_c180 3 2 rfl).trans (hS_136 3 2 rfl)).trans (hS50 3 2 rfl)).trans (hS43 3 2 rfl)).trans (hS_c108 3 2 rfl)).trans (hS_c91 3 2 rfl)).trans (hS33 3 2 rfl)).trans (hS25 3 2 rfl)).trans (hS17 3 2 rfl)).trans (hS5 3 2 rfl)).trans (eu3_2))) (show (u3_2) ≤ 16384 from q_260 h5 r1) (fun σ F91 A92 H hS93 hA94 y96 ey97 pz95_0 => ⟨rfl, ?_⟩))
                          have r98 : (-2147483648 : Int) ≤ y96 ∧ y96 ≤ 2147483647 := rngE (show (-2147483648 : Int) ≤ F91 3 5 ∧ F91 3 5 ≤ 2147483647 from H.frng 3 5) (show F91 3 5 = y96 from (ey97))
                          have hc198 : ∀ (ls : rO) (σ : rS) (F_c198 : hF) (A_c198 : hA) , rlook ls 0 = some (.ref (D 3)) → rlook ls 1 = some (I (a1)) → rlook ls 4 = some (I (a4)) → rlook ls 5 = some (I (a5)) → rlook ls 6 = some (I (x136_6)) → rlook ls 7 = some (I (xc180_7)) → HS σ0 σ D N F_c198 A_c198 → SF [(3, 5)] F91 F_c198 → SA [18] A92 A_c198 → ∀ yc198_3_5 : Int, F_c198 3 5 = yc198_3_5 → (0 ≤ (yc198_3_5) ∧ (yc198_3_5) ≤ (u3_2) + (x136_6)) → Ew 378 (d + 4) 198 ls [] σ c s Q := by
                           as_aux_lemma =>
                            intro  ls σ F_c198 A_c198  lc198_0 lc198_1 lc198_4 lc198_5 lc198_6 lc198_7 H hS_c198 hA_c198 yc198_3_5 eyc198_3_5  jc198_0
                            have r99 : (-2147483648 : Int) ≤ yc198_3_5 ∧ yc198_3_5 ≤ 2147483647 := rngE (show (-2147483648 : Int) ≤ F_c198 3 5 ∧ F_c198 3 5 ≤ 2147483647 from H.frng 3 5) (show F_c198 3 5 = yc198_3_5 from (eyc198_3_5))
                            refine Ew_of (pcₚ := 199) (fun _ => x_aload_n rfl lc198_0) ?_
                            refine w_gI H (o := 3) (w := yc198_3_5) rfl (H.perm 3 rfl) rfl rfl rfl (fun _ => rfl) (eyc198_3_5) ?_
                            refine Ew_of (pcₚ := 204) (fun _ => x_istore rfl) ?_
                            refine Ew_of (pcₚ := 205) (fun _ => x_aload_n rfl (rk_o (lc198_0) rfl rfl)) ?_
                            refine Ew_of (pcₚ := 207) (fun _ => x_iload rfl (rk_o (lc198_6) rfl rfl)) ?_
                            refine Ew_of (pcₚ := 209) (fun _ => x_iload rfl (rk_o (lc198_7) rfl rfl)) ?_
                            refine w_inv H (o := 3) rfl rfl rfl (H.perm 3 rfl) rfl rfl (by rfl) (M368 H (yc198_3_5) ((eyc198_3_5)) (show inr (x136_6) from j136_0) (show inr (xc180_7) from jc180_0) (show 0 ≤ (yc198_3_5) ∧ (yc198_3_5) ≤ 16384 from q_396 b57 h5 jc198_0) (show 0 ≤ (x136_6) ∧ (x136_6) ≤ (xc180_7) ∧ (xc180_7) ≤ 65536 ∧ (yc198_3_5) + ((xc180_7) - (x136_6)) ≤ 16384 from q_395 h5 j136_1 jc180_1 jc198_0 r1) (fun σ F100 A101 H hS102 hA103 y105 ey106 pz104_0 => ⟨rfl, ?_⟩))
                            have r107 : (-2147483648 : Int) ≤ y105 ∧ y105 ≤ 2147483647 := rngE (show (-2147483648 : Int) ≤ F100 3 5 ∧ F100 3 5 ≤ 2147483647 from H.frng 3 5) (show F100 3 5 = y105 from (ey106))
                            refine Ew_of (pcₚ := 213) (fun _ => x_aload_n rfl (rk_o (lc198_0) rfl rfl)) ?_
                            refine Ew_of (pcₚ := 215) (fun _ => x_iload rfl rk_s) ?_
                            refine Ew_of (pcₚ := 217) (fun _ => x_iload rfl (rk_o (lc198_5) rfl rfl)) ?_
                            refine w_inv H (o := 3) rfl rfl rfl (H.perm 3 rfl) rfl rfl (by rfl) (M366 H (y105) ((ey106)) (show inr (yc198_3_5) from q_399 jc198_0 r99) (show inr (a5) from h4) (show 0 ≤ (y105) ∧ (y105) ≤ 16384 from q_398 h5 jc180_1 jc198_0 pz104_0) (show 0 ≤ (yc198_3_5) ∧ (yc198_3_5) ≤ (y105) from q_397 jc180_1 jc198_0 pz104_0) (fun σ F108 A109 H hS110 hA111 y113 ey114 pz112_0 => ⟨rfl, ?_⟩))
                            have r115 : (-2147483648 : Int) ≤ y113 ∧ y113 ≤ 2147483647 := rngE (show (-2147483648 : Int) ≤ F108 3 10 ∧ F108 3 10 ≤ 2147483647 from H.frng 3 10) (show F108 3 10 = y113 from (ey114))
                            have hc239 : ∀ (ls : rO) (σ : rS) (F_c239 : hF) (A_c239 : hA) (xc239_9 : Int), rlook ls 0 = some (.ref (D 3)) → rlook ls 1 = some (I (a1)) → rlook ls 4 = some (I (a4)) → rlook ls 5 = some (I (a5)) → rlook ls 6 = some (I (x136_6)) → rlook ls 7 = some (I (xc180_7)) → rlook ls 9 = some (I (xc239_9)) → HS σ0 σ D N F_c239 A_c239 → SF [] F108 F_c239 → SA [] A109 A_c239 → (inr (xc239_9)) → ((xc239_9) = 0 ∨ (xc239_9) = 1) → ((xc239_9) = 0 → (y113) < (xc180_7) - (x136_6)) → Ew 378 (d + 4) 239 ls [] σ c s Q := by
                             as_aux_lemma =>
                              intro  ls σ F_c239 A_c239 xc239_9 lc239_0 lc239_1 lc239_4 lc239_5 lc239_6 lc239_7 lc239_9 H hS_c239 hA_c239   jc239_0 jc239_1 jc239_2
                              have hc258 : ∀ (ls : rO) (σ : rS) (F_c258 : hF) (A_c258 : hA) (xc258_10 : Int), rlook ls 0 = some (.ref (D 3)) → rlook ls 1 = some (I (a1)) → rlook ls 4 = some (I (a4)) → rlook ls 5 = some (I (a5)) → rlook ls 6 = some (I (x136_6)) → rlook ls 9 = some (I (xc239_9)) → rlook ls 10 = some (I (xc258_10)) → HS σ0 σ D N F_c258 A_c258 → SF [] F_c239 F_c258 → SA [] A_c239 A_c258 → (inr (xc258_10)) → (0 ≤ (xc258_10) ∧ (xc258_10) ≤ (xc180_7) - (x136_6)) → Ew 378 (d + 4) 258 ls [] σ c s Q := by
                               as_aux_lemma =>
                                intro  ls σ F_c258 A_c258 xc258_10 lc258_0 lc258_1 lc258_4 lc258_5 lc258_6 lc258_9 lc258_10 H hS_c258 hA_c258   jc258_0 jc258_1
                                have hc281 : ∀ (ls : rO) (σ : rS) (F_c281 : hF) (A_c281 : hA) , rlook ls 0 = some (.ref (D 3)) → rlook ls 1 = some (I (a1)) → rlook ls 4 = some (I (a4)) → rlook ls 5 = some (I (a5)) → rlook ls 6 = some (I (x136_6)) → rlook ls 9 = some (I (xc239_9)) → rlook ls 10 = some (I (xc258_10)) → HS σ0 σ D N F_c281 A_c281 → SF [(3, 8)] F_c258 F_c281 → SA [19] A_c258 A_c281 → ∀ yc281_3_8 : Int, F_c281 3 8 = yc281_3_8 → ((yc281_3_8) = (y136_3_8) + 4) → Ew 378 (d + 4) 281 ls [] σ c s Q := by
                                 as_aux_lemma =>
                                  intro  ls σ F_c281 A_c281  lc281_0 lc281_1 lc281_4 lc281_5 lc281_6 lc281_9 lc281_10 H hS_c281 hA_c281 yc281_3_8 eyc281_3_8  jc281_0
                                  have r116 : (-2147483648 : Int) ≤ yc281_3_8 ∧ yc281_3_8 ≤ 2147483647 := rngE (show (-2147483648 : Int) ≤ F_c281 3 8 ∧ F_c281 3 8 ≤ 2147483647 from H.frng 3 8) (show F_c281 3 8 = yc281_3_8 from (eyc281_3_8))
                                  refine Ew_of (pcₚ := 282) (fun _ => x_iconst rfl) ?_
                                  refine Ew_of (pcₚ := 284) (fun _ => x_istore rfl) ?_
                                  suffices hl284 : ∀ (m : Nat), ∀ (ls : rO) (σ : rS) (F_284 : hF) (A_284 : hA) (x284_11 : Int), rlook ls 0 = some (.ref (D 3)) → rlook ls 1 = some (I (a1)) → rlook ls 4 = some (I (a4)) → rlook ls 5 = some (I (a5)) → rlook ls 6 = some (I (x136_6)) → rlook ls 9 = some (I (xc239_9)) → rlook ls 10 = some (I (xc258_10)) → rlook ls 11 = some (I (x284_11)) → HS σ0 σ D N F_284 A_284 → SF [(3, 8)] F_c281 F_284 → SA [19, 20] A_c281 A_284 → ∀ y284_3_8 : Int, F_284 3 8 = y284_3_8 → (inr (x284_11)) → ((0) ≤ (x284_11)) → ((x284_11) ≤ (0) ∨ (x284_11) ≤ ((xc258_10))) → ((y284_3_8) = (yc281_3_8) + (x284_11)) → (((xc258_10)) - (x284_11)).toNat = m → Ew 378 (d + 4) 284 ls [] σ c s Q from
                                    hl284 _ _ σ _ _ (0) (rk_o (lc281_0) rfl rfl) (rk_o (lc281_1) rfl rfl) (rk_o (lc281_4) rfl rfl) (rk_o (lc281_5) rfl rfl) (rk_o (lc281_6) rfl rfl) (rk_o (lc281_9) rfl rfl) (rk_o (lc281_10) rfl rfl) (rk_s) H (SF_refl) (SA_refl) (yc281_3_8) ((eyc281_3_8))  (show inr (0) from q_20) (show (0) ≤ (0) from q_25) (show (0) ≤ (0) ∨ (0) ≤ ((xc258_10)) from q_24) (show (yc281_3_8) = (yc281_3_8) + (0) from q_110) rfl
                                  as_aux_lemma =>
                                  intro m
                                  induction m using Nat.strongRecOn with
                                  | _ m ih284 =>
                                    intro ls σ F_284 A_284 x284_11 l284_0 l284_1 l284_4 l284_5 l284_6 l284_9 l284_10 l284_11 H hS_284 hA_284 y284_3_8 ey284_3_8  j284_0 j284_1 j284_2 j284_3 hm284
                                    have r117 : (-2147483648 : Int) ≤ y284_3_8 ∧ y284_3_8 ≤ 2147483647 := rngE (show (-2147483648 : Int) ≤ F_284 3 8 ∧ F_284 3 8 ≤ 2147483647 from H.frng 3 8) (show F_284 3 8 = y284_3_8 from (ey284_3_8))
                                    refine Ew_of (pcₚ := 286) (fun _ => x_iload rfl l284_11) ?_
                                    refine Ew_of (pcₚ := 288) (fun _ => x_iload rfl l284_10) ?_
                                    refine w_icmpge (t := 333) rfl rfl (show inr (x284_11) from j284_0) (show inr (xc258_10) from jc258_0) (fun b118 => ?_) (fun b118 => ?_)
                                    · refine Ew_of (pcₚ := 334) (fun _ => x_iload_n rfl l284_1) ?_
                                      refine Ew_of (pcₚ := 336) (fun _ => x_bipush (z := 16) rfl (by decide)) ?_
                                      refine w_iand rfl (show inr (a1) from h0) (show inr (16) from q_86) (fun z119 gz119 gaz119 gbz119 => ?_)
                                      refine w_ifeq (t := 356) rfl rfl (show inr (z119) from gz119) (fun b120 => ?_) (fun b120 => ?_)
                                      · refine Ew_of (pcₚ := 358) (fun _ => x_iload rfl l284_6) ?_
                                        refine Ew_of (pcₚ := 360) (fun _ => x_iload rfl l284_4) ?_
                                        refine w_iadd rfl ?_
                                        refine Ew_of (pcₚ := 363) (fun _ => x_istore rfl) ?_
                                        refine Ew_of (pcₚ := 136) (fun _ => x_goto rfl rfl) ?_
                                        exact ih136 _ (msE hm136 (q_403 b11) (q_34 b57)) _ σ _ _ ((x136_6 + a4)) (rk_o (l284_0) rfl rfl) (rk_o (l284_1) rfl rfl) (rk_o (l284_4) rfl rfl) (rk_o (l284_5) rfl rfl) (rk_s) H (SF_trans (SF_trans (SF_trans (SF_trans (SF_trans (SF_trans (SF_trans (SF_trans (SF_trans (hS_136) hS_c180 (any_sub rfl)) hS93 (any_sub rfl)) hS_c198 (any_sub rfl)) hS102 (any_sub rfl)) hS110 (any_sub rfl)) hS_c239 (any_sub rfl)) hS_c258 (any_sub rfl)) hS_c281 (any_sub rfl)) hS_284 (any_sub rfl)) (SA_trans (SA_trans (SA_trans (SA_trans (SA_trans (SA_trans (SA_trans (SA_trans (SA_trans (hA_136) hA_c180 (any_subA rfl)) hA94 (any_subA rfl)) hA_c198 (any_subA rfl)) hA103 (any_subA rfl)) hA111 (any_subA rfl)) hA_c239 (any_subA rfl)) hA_c258 (any_subA rfl)) hA_c281 (any_subA rfl)) hA_284 (any_subA rfl)) (y284_3_8) ((ey284_3_8))  (show inr ((x136_6 + a4)) from q_402 b11 b12 b57 j136_1 r1) (show 0 ≤ ((x136_6 + a4)) from q_401 b11 j136_1) (show 0 ≤ (y284_3_8) from q_400 j136_2 j284_1 j284_3 jc281_0) (show (y284_3_8) ≤ 30 + 9 * ((x136_6 + a4)) ∧ ((x136_6 + a4)) ≤ (u1_1) ∨ (y284_3_8) ≤ 30 + 9 * (u1_1) ∧ (u1_1) ≤ ((x136_6 + a4)) by omega) rfl
                                      · refine Ew_of (pcₚ := 341) (fun _ => x_aload_n rfl l284_0) ?_
                                        refine Ew_of (pcₚ := 342) (fun _ => x_aload_n rfl l284_0) ?_
                                        refine Ew_of (pcₚ := 343) (fun _ => x_aload_n rfl l284_0) ?_
                                        refine w_gT H (o := 3) (t := 20) rfl (H.perm 3 rfl) rfl rfl rfl rfl rfl rfl ?_
                                        refine Ew_of (pcₚ := 347) (fun _ => x_iconst rfl) ?_
                                        refine Ew_of (pcₚ := 349) (fun _ => x_iload rfl l284_10) ?_
                                        refine w_inv H (o := 3) rfl rfl rfl (H.perm 3 rfl) rfl rfl (by rfl) (M359_20 H (show inr (0) from q_20) (show inr (xc258_10) from jc258_0) (show 0 ≤ (0) ∧ (0) ≤ (xc258_10) ∧ (xc258_10) ≤ 70000 from q_404 b12 jc180_3 jc258_1) (fun z125 σ F121 A122 H hS123 hA124 pz125_0 => ⟨rfl, ?_⟩))
                                        refine Ew_of (pcₚ := 353) (fun _ => x_iconst rfl) ?_
                                        refine w_inv H (o := 3) rfl rfl rfl (H.perm 3 rfl) rfl rfl (by rfl) (M377 H (y284_3_8) (((hS123 3 8 rfl).trans (ey284_3_8))) (show inrJ (z125) from pz125_0) (show inr (4) from q_2) (show 0 ≤ (4) ∧ (4) ≤ 8 from q_381) (show 0 ≤ (y284_3_8) ∧ (y284_3_8) ≤ 10000000 by omega) (fun σ F126 A127 H hS128 hA129 y131 ey132 pz130_0 => ⟨rfl, ?_⟩))
                                        have r133 : (-2147483648 : Int) ≤ y131 ∧ y131 ≤ 2147483647 := rngE (show (-2147483648 : Int) ≤ F126 3 8 ∧ F126 3 8 ≤ 2147483647 from H.frng 3 8) (show F126 3 8 = y131 from (ey132))
                                        refine Ew_of (pcₚ := 358) (fun _ => x_iload rfl l284_6) ?_
                                        refine Ew_of (pcₚ := 360) (fun _ => x_iload rfl l284_4) ?_
                                        refine w_iadd rfl ?_
                                        refine Ew_of (pcₚ := 363) (fun _ => x_istore rfl) ?_
                                        refine Ew_of (pcₚ := 136) (fun _ => x_goto rfl rfl) ?_
                                        exact ih136 _ (msE hm136 (q_403 b11) (q_34 b57)) _ σ _ _ ((x136_6 + a4)) (rk_o (l284_0) rfl rfl) (rk_o (l284_1) rfl rfl) (rk_o (l284_4) rfl rfl) (rk_o (l284_5) rfl rfl) (rk_s) H (SF_trans (SF_trans (SF_trans (SF_trans (SF_trans (SF_trans (SF_trans (SF_trans (SF_trans (SF_trans (SF_trans (hS_136) hS_c180 (any_sub rfl)) hS93 (any_sub rfl)) hS_c198 (any_sub rfl)) hS102 (any_sub rfl)) hS110 (any_sub rfl)) hS_c239 (any_sub rfl)) hS_c258 (any_sub rfl)) hS_c281 (any_sub rfl)) hS_284 (any_sub rfl)) hS123 (any_sub rfl)) hS128 (any_sub rfl)) (SA_trans (SA_trans (SA_trans (SA_trans (SA_trans (SA_trans (SA_trans (SA_trans (SA_trans (SA_trans (SA_trans (hA_136) hA_c180 (any_subA rfl)) hA94 (any_subA rfl)) hA_c198 (any_subA rfl)) hA103 (any_subA rfl)) hA111 (any_subA rfl)) hA_c239 (any_subA rfl)) hA_c258 (any_subA rfl)) hA_c281 (any_subA rfl)) hA_284 (any_subA rfl)) hA124 (any_subA rfl)) hA129 (any_subA rfl)) (y131) ((ey132))  (show inr ((x136_6 + a4)) from q_402 b11 b12 b57 j136_1 r1) (show 0 ≤ ((x136_6 + a4)) from q_401 b11 j136_1) (show 0 ≤ (y131) from q_405 j136_2 j284_1 j284_3 jc281_0 pz130_0) (show (y131) ≤ 30 + 9 * ((x136_6 + a4)) ∧ ((x136_6 + a4)) ≤ (u1_1) ∨ (y131) ≤ 30 + 9 * (u1_1) ∧ (u1_1) ≤ ((x136_6 + a4)) by omega) rfl
                                    · have hc316 : ∀ (ls : rO) (σ : rS) (F_c316 : hF) (A_c316 : hA) , rlook ls 0 = some (.ref (D 3)) → rlook ls 1 = some (I (a1)) → rlook ls 4 = some (I (a4)) → rlook ls 5 = some (I (a5)) → rlook ls 6 = some (I (x136_6)) → rlook ls 9 = some (I (xc239_9)) → rlook ls 10 = some (I (xc258_10)) → rlook ls 11 = some (I (x284_11)) → HS σ0 σ D N F_c316 A_c316 → SF [] F_284 F_c316 → SA [20] A_284 A_c316 → Ew 378 (d + 4) 316 ls [] σ c s Q := by
                                       as_aux_lemma =>
                                        intro  ls σ F_c316 A_c316  lc316_0 lc316_1 lc316_4 lc316_5 lc316_6 lc316_9 lc316_10 lc316_11 H hS_c316 hA_c316   
                                        refine Ew_of (pcₚ := 317) (fun _ => x_aload_n rfl lc316_0) ?_
                                        refine Ew_of (pcₚ := 318) (fun _ => x_aload_n rfl lc316_0) ?_
                                        refine w_gT H (o := 3) (t := 20) rfl (H.perm 3 rfl) rfl rfl rfl rfl rfl rfl ?_
                                        refine Ew_of (pcₚ := 323) (fun _ => x_iload rfl lc316_11) ?_
                                        refine w_lI H (o := 20) (n := 70000) rfl (H.perm 20 rfl) rfl rfl (H.fix 20 rfl rfl) (show 0 ≤ x284_11 ∧ x284_11 < ((70000 : Nat) : Int) from q_406 b118 b12 j284_1 jc180_3 jc258_1) (by decide) (fun v134 ev134 qv134 => ?_)
                                        have qv134 : (0 : Int) ≤ v134 ∧ v134 ≤ 255 := qv134
                                        have ev134 : (A_c316 20) (x284_11) = v134 := (congrFun (rfl : A_c316 20 = A_c316 20) (x284_11)).symm.trans ev134
                                        refine w_inv H (o := 3) rfl rfl rfl (H.perm 3 rfl) rfl rfl (by rfl) (M376 H (y284_3_8) (((hS_c316 3 8 rfl).trans (ey284_3_8))) (show inr (v134) from q_38 qv134) (show 0 ≤ (v134) ∧ (v134) ≤ 255 from qv134) (show 0 ≤ (y284_3_8) ∧ (y284_3_8) ≤ 100000000 by omega) (fun σ F135 A136 H hS137 hA138 y140 ey141 pz139_0 => ⟨rfl, ?_⟩))
                                        have r142 : (-2147483648 : Int) ≤ y140 ∧ y140 ≤ 2147483647 := rngE (show (-2147483648 : Int) ≤ F135 3 8 ∧ F135 3 8 ≤ 2147483647 from H.frng 3 8) (show F135 3 8 = y140 from (ey141))
                                        refine Ew_of (pcₚ := 330) (fun _ => x_iinc (len := 3) rfl (lc316_11)) ?_
                                        refine Ew_of (pcₚ := 284) (fun _ => x_goto rfl rfl) ?_
                                        exact ih284 _ (msE hm284 q_31 (q_34 b118)) _ σ _ _ ((x284_11 + 1)) (rk_o (lc316_0) rfl rfl) (rk_o (lc316_1) rfl rfl) (rk_o (lc316_4) rfl rfl) (rk_o (lc316_5) rfl rfl) (rk_o (lc316_6) rfl rfl) (rk_o (lc316_9) rfl rfl) (rk_o (lc316_10) rfl rfl) (rk_s) H (SF_trans (SF_trans (hS_284) hS_c316 (any_sub rfl)) hS137 (any_sub rfl)) (SA_trans (SA_trans (hA_284) hA_c316 (any_subA rfl)) hA138 (any_subA rfl)) (y140) ((ey141))  (show inr ((x284_11 + 1)) from q_407 b118 b12 j284_1 jc180_3 jc258_1) (show (0) ≤ ((x284_11 + 1)) from q_29 j284_1) (show ((x284_11 + 1)) ≤ (0) ∨ ((x284_11 + 1)) ≤ ((xc258_10)) from q_33 b118) (show (y140) = (yc281_3_8) + ((x284_11 + 1)) from q_113 j284_3 pz139_0) rfl
                                      refine Ew_of (pcₚ := 293) (fun _ => x_iload rfl l284_9) ?_
                                      refine w_ifeq (t := 316) rfl rfl (show inr (xc239_9) from jc239_0) (fun b143 => ?_) (fun b143 => ?_)
                                      · exact hc316  _ σ _ _  (l284_0) (l284_1) (l284_4) (l284_5) (l284_6) (l284_9) (l284_10) (l284_11) H (SF_refl) (SA_refl)
                                      · refine Ew_of (pcₚ := 297) (fun _ => x_aload_n rfl l284_0) ?_
                                        refine w_gT H (o := 3) (t := 20) rfl (H.perm 3 rfl) rfl rfl rfl rfl rfl rfl ?_
                                        refine Ew_of (pcₚ := 302) (fun _ => x_iload rfl l284_11) ?_
                                        refine Ew_of (pcₚ := 303) (fun _ => x_aload_n rfl l284_0) ?_
                                        refine w_gT H (o := 3) (t := 1) rfl (H.perm 3 rfl) rfl rfl rfl rfl rfl rfl ?_
                                        refine w_gT H (o := 1) (t := 14) rfl (H.perm 1 rfl) rfl rfl rfl rfl rfl rfl ?_
                                        refine Ew_of (pcₚ := 311) (fun _ => x_iload rfl l284_6) ?_
                                        refine Ew_of (pcₚ := 313) (fun _ => x_iload rfl l284_11) ?_
                                        refine w_iadd rfl ?_
                                        refine w_lI H (o := 14) (n := 65536) rfl (H.perm 14 rfl) rfl rfl (H.fix 14 rfl rfl) (show 0 ≤ (x136_6 + x284_11) ∧ (x136_6 + x284_11) < ((65536 : Nat) : Int) from q_408 b118 j136_1 j284_1 jc180_1 jc258_1 r1) (by decide) (fun v144 ev144 qv144 => ?_)
                                        have qv144 : (0 : Int) ≤ v144 ∧ v144 ≤ 255 := qv144
                                        have ev144 : (A 14) ((x136_6 + x284_11)) = v144 := (congrFun ((funext (hA_284 14 rfl)).trans ((funext (hA_c281 14 rfl)).trans ((funext (hA_c258 14 rfl)).trans ((funext (hA_c239 14 rfl)).trans ((funext (hA111 14 rfl)).trans ((funext (hA103 14 rfl)).trans ((funext (hA_c198 14 rfl)).trans ((funext (hA94 14 rfl)).trans ((funext (hA_c180 14 rfl)).trans ((funext (hA_136 14 rfl)).trans ((funext (hA51 14 rfl)).trans ((funext (hA44 14 rfl)).trans ((funext (hA_c108 14 rfl)).trans ((funext (hA_c91 14 rfl)).trans ((funext (hA34 14 rfl)).trans ((funext (hA26 14 rfl)).trans ((funext (hA18 14 rfl)).trans (funext (hA6 14 rfl))))))))))))))))))) ((x136_6 + x284_11))).symm.trans ev144
                                        refine w_sI H (o := 20) (n := 70000) rfl (H.perm 20 rfl) rfl rfl (H.fix 20 rfl rfl) (show 0 ≤ x284_11 ∧ x284_11 < ((70000 : Nat) : Int) from q_406 b118 b12 j284_1 jc180_3 jc258_1) (by decide) (show (0 : Int) ≤ v144 ∧ v144 ≤ 255 from qv144) (fun σ H => ?_)
                                        exact hc316  _ σ _ _  (l284_0) (l284_1) (l284_4) (l284_5) (l284_6) (l284_9) (l284_10) (l284_11) H (SF_refl) (SA_upd (SA_refl) rfl)   
                                refine Ew_of (pcₚ := 259) (fun _ => x_aload_n rfl lc258_0) ?_
                                refine Ew_of (pcₚ := 261) (fun _ => x_iload rfl lc258_9) ?_
                                refine w_ifeq (t := 274) rfl rfl (show inr (xc239_9) from jc239_0) (fun b145 => ?_) (fun b145 => ?_)
                                · refine Ew_of (pcₚ := 276) (fun _ => x_iload rfl lc258_10) ?_
                                  refine w_i2l rfl (show inr (xc258_10) from jc258_0) ?_
                                  refine Ew_of (pcₚ := 278) (fun _ => x_iconst rfl) ?_
                                  refine w_inv H (o := 3) rfl rfl rfl (H.perm 3 rfl) rfl rfl (by rfl) (M377 H (y136_3_8) (((((((((hS_c258 3 8 rfl).trans (hS_c239 3 8 rfl)).trans (hS110 3 8 rfl)).trans (hS102 3 8 rfl)).trans (hS_c198 3 8 rfl)).trans (hS93 3 8 rfl)).trans (hS_c180 3 8 rfl)).trans (ey136_3_8))) (show inrJ (xc258_10) from q_410 jc258_0 jc258_1) (show inr (4) from q_2) (show 0 ≤ (4) ∧ (4) ≤ 8 from q_381) (show 0 ≤ (y136_3_8) ∧ (y136_3_8) ≤ 10000000 from q_409 b57 j136_2 j136_3 r1) (fun σ F146 A147 H hS148 hA149 y151 ey152 pz150_0 => ⟨rfl, ?_⟩))
                                  have r153 : (-2147483648 : Int) ≤ y151 ∧ y151 ≤ 2147483647 := rngE (show (-2147483648 : Int) ≤ F146 3 8 ∧ F146 3 8 ≤ 2147483647 from H.frng 3 8) (show F146 3 8 = y151 from (ey152))
                                  exact hc281  _ σ _ _  (lc258_0) (lc258_1) (lc258_4) (lc258_5) (lc258_6) (lc258_9) (lc258_10) H (SF_trans (SF_refl) hS148 (any_sub rfl)) (SA_trans (SA_refl) hA149 (any_subA rfl)) (y151) ((ey152))  (show (y151) = (y136_3_8) + 4 from pz150_0)
                                · refine Ew_of (pcₚ := 267) (fun _ => x_ldc2 (z := 2147483648) rfl (by decide)) ?_
                                  refine Ew_of (pcₚ := 269) (fun _ => x_iload rfl lc258_10) ?_
                                  refine w_i2l rfl (show inr (xc258_10) from jc258_0) ?_
                                  refine w_ladd rfl ?_
                                  refine Ew_of (pcₚ := 277) (fun _ => x_goto rfl rfl) ?_
                                  refine Ew_of (pcₚ := 278) (fun _ => x_iconst rfl) ?_
                                  refine w_inv H (o := 3) rfl rfl rfl (H.perm 3 rfl) rfl rfl (by rfl) (M377 H (y136_3_8) (((((((((hS_c258 3 8 rfl).trans (hS_c239 3 8 rfl)).trans (hS110 3 8 rfl)).trans (hS102 3 8 rfl)).trans (hS_c198 3 8 rfl)).trans (hS93 3 8 rfl)).trans (hS_c180 3 8 rfl)).trans (ey136_3_8))) (show inrJ ((2147483648 + xc258_10)) from q_411 jc258_0 jc258_1) (show inr (4) from q_2) (show 0 ≤ (4) ∧ (4) ≤ 8 from q_381) (show 0 ≤ (y136_3_8) ∧ (y136_3_8) ≤ 10000000 from q_409 b57 j136_2 j136_3 r1) (fun σ F154 A155 H hS156 hA157 y159 ey160 pz158_0 => ⟨rfl, ?_⟩))
                                  have r161 : (-2147483648 : Int) ≤ y159 ∧ y159 ≤ 2147483647 := rngE (show (-2147483648 : Int) ≤ F154 3 8 ∧ F154 3 8 ≤ 2147483647 from H.frng 3 8) (show F154 3 8 = y159 from (ey160))
                                  exact hc281  _ σ _ _  (lc258_0) (lc258_1) (lc258_4) (lc258_5) (lc258_6) (lc258_9) (lc258_10) H (SF_trans (SF_refl) hS156 (any_sub rfl)) (SA_trans (SA_refl) hA157 (any_subA rfl)) (y159) ((ey160))  (show (y159) = (y136_3_8) + 4 from pz158_0)
                              refine Ew_of (pcₚ := 241) (fun _ => x_iload rfl lc239_9) ?_
                              refine w_ifeq (t := 252) rfl rfl (show inr (xc239_9) from jc239_0) (fun b162 => ?_) (fun b162 => ?_)
                              · refine Ew_of (pcₚ := 253) (fun _ => x_aload_n rfl lc239_0) ?_
                                refine w_gI H (o := 3) (w := y113) rfl (H.perm 3 rfl) rfl rfl rfl (fun _ => rfl) ((hS_c239 3 10 rfl).trans (ey114)) ?_
                                refine Ew_of (pcₚ := 258) (fun _ => x_istore rfl) ?_
                                exact hc258  _ σ _ _ (y113) (rk_o (lc239_0) rfl rfl) (rk_o (lc239_1) rfl rfl) (rk_o (lc239_4) rfl rfl) (rk_o (lc239_5) rfl rfl) (rk_o (lc239_6) rfl rfl) (rk_o (lc239_9) rfl rfl) (rk_s) H (SF_refl) (SA_refl)   (show inr (y113) from q_266 pz112_0 r115) (show 0 ≤ (y113) ∧ (y113) ≤ (xc180_7) - (x136_6) from q_412 b162 jc239_2 pz112_0)
                              · refine Ew_of (pcₚ := 246) (fun _ => x_iload rfl lc239_7) ?_
                                refine Ew_of (pcₚ := 248) (fun _ => x_iload rfl lc239_6) ?_
                                refine w_isub rfl ?_
                                refine Ew_of (pcₚ := 256) (fun _ => x_goto rfl rfl) ?_
                                refine Ew_of (pcₚ := 258) (fun _ => x_istore rfl) ?_
                                exact hc258  _ σ _ _ ((xc180_7 - x136_6)) (rk_o (lc239_0) rfl rfl) (rk_o (lc239_1) rfl rfl) (rk_o (lc239_4) rfl rfl) (rk_o (lc239_5) rfl rfl) (rk_o (lc239_6) rfl rfl) (rk_o (lc239_9) rfl rfl) (rk_s) H (SF_refl) (SA_refl)   (show inr ((xc180_7 - x136_6)) from q_414 j136_1 jc180_0 jc180_1) (show 0 ≤ ((xc180_7 - x136_6)) ∧ ((xc180_7 - x136_6)) ≤ (xc180_7) - (x136_6) from q_413 jc180_1)
                            refine Ew_of (pcₚ := 221) (fun _ => x_aload_n rfl (rk_o (lc198_0) rfl rfl)) ?_
                            refine w_gI H (o := 3) (w := y113) rfl (H.perm 3 rfl) rfl rfl rfl (fun _ => rfl) (ey114) ?_
                            refine Ew_of (pcₚ := 226) (fun _ => x_iload rfl (rk_o (lc198_7) rfl rfl)) ?_
                            refine Ew_of (pcₚ := 228) (fun _ => x_iload rfl (rk_o (lc198_6) rfl rfl)) ?_
                            refine w_isub rfl ?_
                            refine w_icmplt (t := 236) rfl rfl (show inr (y113) from q_266 pz112_0 r115) (show inr ((xc180_7 - x136_6)) from q_414 j136_1 jc180_0 jc180_1) (fun b163 => ?_) (fun b163 => ?_)
                            · refine Ew_of (pcₚ := 237) (fun _ => x_iconst rfl) ?_
                              refine Ew_of (pcₚ := 239) (fun _ => x_istore rfl) ?_
                              exact hc239  _ σ _ _ (0) (rk_o (rk_o (lc198_0) rfl rfl) rfl rfl) (rk_o (rk_o (lc198_1) rfl rfl) rfl rfl) (rk_o (rk_o (lc198_4) rfl rfl) rfl rfl) (rk_o (rk_o (lc198_5) rfl rfl) rfl rfl) (rk_o (rk_o (lc198_6) rfl rfl) rfl rfl) (rk_o (rk_o (lc198_7) rfl rfl) rfl rfl) (rk_s) H (SF_refl) (SA_refl)   (show inr (0) from q_20) (show (0) = 0 ∨ (0) = 1 from q_1) (show (0) = 0 → (y113) < (xc180_7) - (x136_6) from q_415 b163)
                            · refine Ew_of (pcₚ := 233) (fun _ => x_iconst rfl) ?_
                              refine Ew_of (pcₚ := 237) (fun _ => x_goto rfl rfl) ?_
                              refine Ew_of (pcₚ := 239) (fun _ => x_istore rfl) ?_
                              exact hc239  _ σ _ _ (1) (rk_o (rk_o (lc198_0) rfl rfl) rfl rfl) (rk_o (rk_o (lc198_1) rfl rfl) rfl rfl) (rk_o (rk_o (lc198_4) rfl rfl) rfl rfl) (rk_o (rk_o (lc198_5) rfl rfl) rfl rfl) (rk_o (rk_o (lc198_6) rfl rfl) rfl rfl) (rk_o (rk_o (lc198_7) rfl rfl) rfl rfl) (rk_s) H (SF_refl) (SA_refl)   (show inr (1) from q_23) (show (1) = 0 ∨ (1) = 1 from q_5) (show (1) = 0 → (y113) < (xc180_7) - (x136_6) from q_416 jc180_1 pz112_0)
                          refine Ew_of (pcₚ := 185) (fun _ => x_iload_n rfl lc180_1) ?_
                          refine Ew_of (pcₚ := 187) (fun _ => x_bipush (z := 32) rfl (by decide)) ?_
                          refine w_iand rfl (show inr (a1) from h0) (show inr (32) from q_417) (fun z164 gz164 gaz164 gbz164 => ?_)
                          refine w_ifne (t := 198) rfl rfl (show inr (z164) from gz164) (fun b165 => ?_) (fun b165 => ?_)
                          · exact hc198  _ σ _ _  (lc180_0) (lc180_1) (lc180_4) (lc180_5) (lc180_6) (lc180_7) H (SF_refl) (SA_refl) (y96) ((ey97))  (show 0 ≤ (y96) ∧ (y96) ≤ (u3_2) + (x136_6) from q_418 j136_1 pz95_0 r2)
                          · refine Ew_of (pcₚ := 192) (fun _ => x_aload_n rfl lc180_0) ?_
                            refine Ew_of (pcₚ := 193) (fun _ => x_iconst rfl) ?_
                            refine Ew_of (pcₚ := 195) (fun _ => x_iload rfl lc180_6) ?_
                            refine w_inv H (o := 3) rfl rfl rfl (H.perm 3 rfl) rfl rfl (by rfl) (M368 H (y96) ((ey97)) (show inr (0) from q_20) (show inr (x136_6) from j136_0) (show 0 ≤ (y96) ∧ (y96) ≤ 16384 from q_262 h5 pz95_0 r1 r2) (show 0 ≤ (0) ∧ (0) ≤ (x136_6) ∧ (x136_6) ≤ 65536 ∧ (y96) + ((x136_6) - (0)) ≤ 16384 from q_419 b57 h5 j136_1 pz95_0 r1) (fun σ F166 A167 H hS168 hA169 y171 ey172 pz170_0 => ⟨rfl, ?_⟩))
                            have r173 : (-2147483648 : Int) ≤ y171 ∧ y171 ≤ 2147483647 := rngE (show (-2147483648 : Int) ≤ F166 3 5 ∧ F166 3 5 ≤ 2147483647 from H.frng 3 5) (show F166 3 5 = y171 from (ey172))
                            exact hc198  _ σ _ _  (lc180_0) (lc180_1) (lc180_4) (lc180_5) (lc180_6) (lc180_7) H (SF_trans (SF_refl) hS168 (any_sub rfl)) (SA_trans (SA_refl) hA169 (any_subA rfl)) (y171) ((ey172))  (show 0 ≤ (y171) ∧ (y171) ≤ (u3_2) + (x136_6) from q_420 j136_1 pz170_0 pz95_0 r2)
                        refine Ew_of (pcₚ := 150) (fun _ => x_iload rfl l136_6) ?_
                        refine Ew_of (pcₚ := 152) (fun _ => x_iload rfl l136_4) ?_
                        refine w_iadd rfl ?_
                        refine Ew_of (pcₚ := 154) (fun _ => x_aload_n rfl l136_0) ?_
                        refine w_gT H (o := 3) (t := 1) rfl (H.perm 3 rfl) rfl rfl rfl rfl rfl rfl ?_
                        refine w_gI H (o := 1) (w := u1_1) rfl (H.perm 1 rfl) rfl rfl rfl (fun _ => rfl) ((((((((((hS_136 1 1 rfl).trans (hS50 1 1 rfl)).trans (hS43 1 1 rfl)).trans (hS_c108 1 1 rfl)).trans (hS_c91 1 1 rfl)).trans (hS33 1 1 rfl)).trans (hS25 1 1 rfl)).trans (hS17 1 1 rfl)).trans (hS5 1 1 rfl)).trans (eu1_1)) ?_
                        refine w_icmpge (t := 171) rfl rfl (show inr ((x136_6 + a4)) from q_402 b11 b12 b57 j136_1 r1) (show inr (u1_1) from q_12 r1) (fun b174 => ?_) (fun b174 => ?_)
                        · refine Ew_of (pcₚ := 172) (fun _ => x_aload_n rfl l136_0) ?_
                          refine w_gT H (o := 3) (t := 1) rfl (H.perm 3 rfl) rfl rfl rfl rfl rfl rfl ?_
                          refine w_gI H (o := 1) (w := u1_1) rfl (H.perm 1 rfl) rfl rfl rfl (fun _ => rfl) ((((((((((hS_136 1 1 rfl).trans (hS50 1 1 rfl)).trans (hS43 1 1 rfl)).trans (hS_c108 1 1 rfl)).trans (hS_c91 1 1 rfl)).trans (hS33 1 1 rfl)).trans (hS25 1 1 rfl)).trans (hS17 1 1 rfl)).trans (hS5 1 1 rfl)).trans (eu1_1)) ?_
                          refine Ew_of (pcₚ := 180) (fun _ => x_istore rfl) ?_
                          exact hc180  _ σ _ _ (u1_1) (rk_o (l136_0) rfl rfl) (rk_o (l136_1) rfl rfl) (rk_o (l136_4) rfl rfl) (rk_o (l136_5) rfl rfl) (rk_o (l136_6) rfl rfl) (rk_s) H (SF_refl) (SA_refl)   (show inr (u1_1) from q_12 r1) (show (x136_6) ≤ (u1_1) ∧ (u1_1) ≤ (u1_1) from q_422 b57) (show (u1_1) = (x136_6) + (a4) ∨ (u1_1) = (u1_1) from q_421) (show (u1_1) ≤ (x136_6) + (a4) from b174)
                        · refine Ew_of (pcₚ := 165) (fun _ => x_iload rfl l136_6) ?_
                          refine Ew_of (pcₚ := 167) (fun _ => x_iload rfl l136_4) ?_
                          refine w_iadd rfl ?_
                          refine Ew_of (pcₚ := 178) (fun _ => x_goto rfl rfl) ?_
                          refine Ew_of (pcₚ := 180) (fun _ => x_istore rfl) ?_
                          exact hc180  _ σ _ _ ((x136_6 + a4)) (rk_o (l136_0) rfl rfl) (rk_o (l136_1) rfl rfl) (rk_o (l136_4) rfl rfl) (rk_o (l136_5) rfl rfl) (rk_o (l136_6) rfl rfl) (rk_s) H (SF_refl) (SA_refl)   (show inr ((x136_6 + a4)) from q_426 b11 b174 j136_1 r1) (show (x136_6) ≤ ((x136_6 + a4)) ∧ ((x136_6 + a4)) ≤ (u1_1) from q_425 b11 b174) (show ((x136_6 + a4)) = (x136_6) + (a4) ∨ ((x136_6 + a4)) = (u1_1) from q_424) (show ((x136_6 + a4)) ≤ (x136_6) + (a4) from q_423)
                  refine Ew_of (pcₚ := 92) (fun _ => x_iload_n rfl lc91_1) ?_
                  refine Ew_of (pcₚ := 93) (fun _ => x_iconst rfl) ?_
                  refine w_iand rfl (show inr (a1) from h0) (show inr (1) from q_23) (fun z175 gz175 gaz175 gbz175 => ?_)
                  refine w_ifeq (t := 108) rfl rfl (show inr (z175) from gz175) (fun b176 => ?_) (fun b176 => ?_)
                  · exact hc108  _ σ _ _  (lc91_0) (lc91_1) (lc91_4) (lc91_5) H (SF_refl) (SA_refl) (yc91_3_8) ((eyc91_3_8))  (show 6 ≤ (yc91_3_8) ∧ (yc91_3_8) ≤ 18 from q_427 jc91_0)
                  · refine Ew_of (pcₚ := 98) (fun _ => x_aload_n rfl lc91_0) ?_
                    refine Ew_of (pcₚ := 99) (fun _ => x_iload_n rfl lc91_3) ?_
                    refine w_i2l rfl (show inr (a3) from h2) ?_
                    refine Ew_of (pcₚ := 103) (fun _ => x_ldc2 (z := 4294967295) rfl (by decide)) ?_
                    refine w_land rfl (show inrJ (a3) from q_428 h2) (show inrJ (4294967295) from q_50) (fun z177 gz177 gaz177 gbz177 => ?_)
                    refine Ew_of (pcₚ := 105) (fun _ => x_iconst rfl) ?_
                    refine w_inv H (o := 3) rfl rfl rfl (H.perm 3 rfl) rfl rfl (by rfl) (M377 H (yc91_3_8) ((eyc91_3_8)) (show inrJ (z177) from gz177) (show inr (4) from q_2) (show 0 ≤ (4) ∧ (4) ≤ 8 from q_381) (show 0 ≤ (yc91_3_8) ∧ (yc91_3_8) ≤ 10000000 from q_429 jc91_0) (fun σ F178 A179 H hS180 hA181 y183 ey184 pz182_0 => ⟨rfl, ?_⟩))
                    have r185 : (-2147483648 : Int) ≤ y183 ∧ y183 ≤ 2147483647 := rngE (show (-2147483648 : Int) ≤ F178 3 8 ∧ F178 3 8 ≤ 2147483647 from H.frng 3 8) (show F178 3 8 = y183 from (ey184))
                    exact hc108  _ σ _ _  (lc91_0) (lc91_1) (lc91_4) (lc91_5) H (SF_trans (SF_refl) hS180 (any_sub rfl)) (SA_trans (SA_refl) hA181 (any_subA rfl)) (y183) ((ey184))  (show 6 ≤ (y183) ∧ (y183) ≤ 18 from q_430 jc91_0 pz182_0)
                refine Ew_of (pcₚ := 71) (fun _ => x_iload_n rfl rfl) ?_
                refine Ew_of (pcₚ := 73) (fun _ => x_bipush (z := 8) rfl (by decide)) ?_
                refine w_iand rfl (show inr (a1) from h0) (show inr (8) from q_96) (fun z186 gz186 gaz186 gbz186 => ?_)
                refine w_ifeq (t := 91) rfl rfl (show inr (z186) from gz186) (fun b187 => ?_) (fun b187 => ?_)
                · exact hc91  _ σ _ _  (rfl) (rfl) (rfl) (rfl) (rfl) H (SF_refl) (SA_refl) (y36) ((ey37))  (show 6 ≤ (y36) ∧ (y36) ≤ 14 from q_431 pz19_0 pz27_0 pz35_0)
                · refine Ew_of (pcₚ := 78) (fun _ => x_aload_n rfl rfl) ?_
                  refine Ew_of (pcₚ := 79) (fun _ => x_aload_n rfl rfl) ?_
                  refine w_gT H (o := 3) (t := 1) rfl (H.perm 3 rfl) rfl rfl rfl rfl rfl rfl ?_
                  refine w_gI H (o := 1) (w := u1_1) rfl (H.perm 1 rfl) rfl rfl rfl (fun _ => rfl) (((((hS33 1 1 rfl).trans (hS25 1 1 rfl)).trans (hS17 1 1 rfl)).trans (hS5 1 1 rfl)).trans (eu1_1)) ?_
                  refine w_i2l rfl (show inr (u1_1) from q_12 r1) ?_
                  refine Ew_of (pcₚ := 88) (fun _ => x_bipush (z := 8) rfl (by decide)) ?_
                  refine w_inv H (o := 3) rfl rfl rfl (H.perm 3 rfl) rfl rfl (by rfl) (M377 H (y36) ((ey37)) (show inrJ (u1_1) from q_434 r1) (show inr (8) from q_96) (show 0 ≤ (8) ∧ (8) ≤ 8 from q_433) (show 0 ≤ (y36) ∧ (y36) ≤ 10000000 from q_432 pz19_0 pz27_0 pz35_0) (fun σ F188 A189 H hS190 hA191 y193 ey194 pz192_0 => ⟨rfl, ?_⟩))
                  have r195 : (-2147483648 : Int) ≤ y193 ∧ y193 ≤ 2147483647 := rngE (show (-2147483648 : Int) ≤ F188 3 8 ∧ F188 3 8 ≤ 2147483647 from H.frng 3 8) (show F188 3 8 = y193 from (ey194))
                  exact hc91  _ σ _ _  (rfl) (rfl) (rfl) (rfl) (rfl) H (SF_trans (SF_refl) hS190 (any_sub rfl)) (SA_trans (SA_refl) hA191 (any_subA rfl)) (y193) ((ey194))  (show 6 ≤ (y193) ∧ (y193) ≤ 14 from q_435 pz192_0 pz19_0 pz27_0 pz35_0)
              · refine Ew_of (pcₚ := 43) (fun _ => x_iconst rfl) ?_
                exact w_ireturn rfl (k ((-1)) σ _ _ H (SF_trans (SF_refl) hS5 (any_sub rfl)) (SA_trans (SA_refl) hA6 (any_subA rfl)) (show inr ((-1)) from q_16))
