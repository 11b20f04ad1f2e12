/-- Tokens.frame -/
theorem M378 {σ0 σ : rS} {D N : Nat → Nat} {F : hF} {A : hA} {d c s : Nat} {Q : wQ} (H : HS σ0 σ D N F A) {a1 a2 a3 a4 a5 : Int} (h0 : inr a1) (h1 : inr a2) (h2 : inr a3) (h3 : inr a4) (h4 : inr a5) (h5 : F 3 2 + F 1 1 ≤ 16384) (k : ∀ (z : Int) σ F' A', HS σ0 σ D N F' A' → SF [(1, 3), (3, 5), (3, 6), (3, 8), (3, 10)] F F' → SA [15, 17, 18, 19, 20] A A' → (inr z) → Q (some (I z)) σ c s) : Ew 378 (d + 4) 0 (rargs 0 [.ref (D 3), I a1, I a2, I a3, I a4, I a5]) [] σ c s Q := by
  have rp1_1 : (0 : Int) ≤ F 1 1 ∧ F 1 1 ≤ 65536 := H.frng 1 1
  have rp3_2 : (0 : Int) ≤ F 3 2 ∧ F 3 2 ≤ 65536 := H.frng 3 2
  refine Ew_of (pc' := 1) (fun _ => x_iload_n rfl rfl) ?_
  refine w_stat24 rfl rfl (by rfl) (M375 H (by show inr (a1); omega) (fun z5 σ F1 A2 H hS3 hA4 pz50 pz51 => ⟨rretB rfl pz50, ?_⟩))
  refine w_ifeq (t := 42) rfl rfl (show inr (z5) by omega) (fun b6 => ?_) (fun b6 => ?_)
  · refine Ew_of (pc' := 43) (fun _ => x_iconst rfl) ?_
    exact w_ireturn rfl (k ((-1)) σ _ _ H (SF_trans (SF_refl) hS3 (any_sub rfl)) (SA_trans (SA_refl) hA4 (any_subA rfl)) (by show inr ((-1)); omega))
  · refine Ew_of (pc' := 8) (fun _ => x_iload_n rfl rfl) ?_
    refine Ew_of (pc' := 9) (fun _ => x_iconst rfl) ?_
    refine w_icmplt (t := 42) rfl rfl (show inr (a2) by omega) (show inr (4) by omega) (fun b7 => ?_) (fun b7 => ?_)
    · refine Ew_of (pc' := 43) (fun _ => x_iconst rfl) ?_
      exact w_ireturn rfl (k ((-1)) σ _ _ H (SF_trans (SF_refl) hS3 (any_sub rfl)) (SA_trans (SA_refl) hA4 (any_subA rfl)) (by show inr ((-1)); omega))
    · refine Ew_of (pc' := 13) (fun _ => x_iload_n rfl rfl) ?_
      refine Ew_of (pc' := 15) (fun _ => x_bipush (z := 7) rfl (by decide)) ?_
      refine w_icmpgt (t := 42) rfl rfl (show inr (a2) by omega) (show inr (7) by omega) (fun b8 => ?_) (fun b8 => ?_)
      · refine Ew_of (pc' := 43) (fun _ => x_iconst rfl) ?_
        exact w_ireturn rfl (k ((-1)) σ _ _ H (SF_trans (SF_refl) hS3 (any_sub rfl)) (SA_trans (SA_refl) hA4 (any_subA rfl)) (by show inr ((-1)); omega))
      · refine Ew_of (pc' := 20) (fun _ => x_iload rfl rfl) ?_
        refine Ew_of (pc' := 21) (fun _ => x_iconst rfl) ?_
        refine w_icmplt (t := 42) rfl rfl (show inr (a4) by omega) (show inr (1) by omega) (fun b9 => ?_) (fun b9 => ?_)
        · refine Ew_of (pc' := 43) (fun _ => x_iconst rfl) ?_
          exact w_ireturn rfl (k ((-1)) σ _ _ H (SF_trans (SF_refl) hS3 (any_sub rfl)) (SA_trans (SA_refl) hA4 (any_subA rfl)) (by show inr ((-1)); omega))
        · refine Ew_of (pc' := 26) (fun _ => x_iload rfl rfl) ?_
          refine Ew_of (pc' := 28) (fun _ => x_ldc (z := 65536) rfl (by decide)) ?_
          refine w_icmpgt (t := 42) rfl rfl (show inr (a4) by omega) (show inr (65536) by omega) (fun b10 => ?_) (fun b10 => ?_)
          · refine Ew_of (pc' := 43) (fun _ => x_iconst rfl) ?_
            exact w_ireturn rfl (k ((-1)) σ _ _ H (SF_trans (SF_refl) hS3 (any_sub rfl)) (SA_trans (SA_refl) hA4 (any_subA rfl)) (by show inr ((-1)); omega))
          · refine Ew_of (pc' := 33) (fun _ => x_iload rfl rfl) ?_
            refine w_iflt (t := 42) rfl rfl (show inr (a5) by omega) (fun b11 => ?_) (fun b11 => ?_)
            · refine Ew_of (pc' := 43) (fun _ => x_iconst rfl) ?_
              exact w_ireturn rfl (k ((-1)) σ _ _ H (SF_trans (SF_refl) hS3 (any_sub rfl)) (SA_trans (SA_refl) hA4 (any_subA rfl)) (by show inr ((-1)); omega))
            · refine Ew_of (pc' := 38) (fun _ => x_iload rfl rfl) ?_
              refine Ew_of (pc' := 39) (fun _ => x_iconst rfl) ?_
              refine w_icmple (t := 44) rfl rfl (show inr (a5) by omega) (show inr (3) by omega) (fun b12 => ?_) (fun b12 => ?_)
              · refine Ew_of (pc' := 45) (fun _ => x_aload_n rfl rfl) ?_
                refine Ew_of (pc' := 46) (fun _ => x_iconst rfl) ?_
                refine w_pI H (o := 3) rfl rfl (H.perm 3 rfl) rfl rfl rfl (fun _ => rfl) rfl (show (-2147483648 : Int) ≤ 0 ∧ 0 ≤ 2147483647 by omega) (fun σ H => ?_)
                refine Ew_of (pc' := 50) (fun _ => x_aload_n rfl rfl) ?_
                refine Ew_of (pc' := 53) (fun _ => x_ldc2 (z := 407708164) rfl (by decide)) ?_
                refine Ew_of (pc' := 54) (fun _ => x_iconst rfl) ?_
                have r18 : (-2147483648 : Int) ≤ 0 ∧ 0 ≤ 2147483647 := by have : (-2147483648 : Int) ≤ (updF F1 3 8 (0)) 3 8 ∧ (updF F1 3 8 (0)) 3 8 ≤ 2147483647 := H.frng 3 8; have : (updF F1 3 8 (0)) 3 8 = 0 := rfl; omega
                refine w_inv H (o := 3) rfl rfl rfl (H.perm 3 rfl) rfl rfl (by rfl) (M377 H (by show inrJ (407708164); omega) (by show inr (4); omega) (by show 0 ≤ (4) ∧ (4) ≤ 8; omega) (by have : (-2147483648 : Int) ≤ (updF F1 3 8 (0)) 3 8 ∧ (updF F1 3 8 (0)) 3 8 ≤ 2147483647 := H.frng 3 8; have : (updF F1 3 8 (0)) 3 8 = 0 := rfl; show 0 ≤ ((updF F1 3 8 (0)) 3 8) ∧ ((updF F1 3 8 (0)) 3 8) ≤ 10000000; omega) (fun σ F13 A14 H hS15 hA16 pz170 => ⟨rfl, ?_⟩))
                have pz170 : (F13 3 8) = (0) + (4) := by have : (updF F1 3 8 (0)) 3 8 = 0 := rfl; have : (F13 3 8) = ((updF F1 3 8 (0)) 3 8) + (4) := pz170; omega
                refine Ew_of (pc' := 58) (fun _ => x_aload_n rfl rfl) ?_
                refine Ew_of (pc' := 59) (fun _ => x_iload_n rfl rfl) ?_
                have r24 : (-2147483648 : Int) ≤ F13 3 8 ∧ F13 3 8 ≤ 2147483647 := by have : (-2147483648 : Int) ≤ F13 3 8 ∧ F13 3 8 ≤ 2147483647 := H.frng 3 8; have : F13 3 8 = F13 3 8 := rfl; omega
                refine w_inv H (o := 3) rfl rfl rfl (H.perm 3 rfl) rfl rfl (by rfl) (M376 H (by show inr (a1); omega) (by show 0 ≤ (a1) ∧ (a1) ≤ 255; omega) (by have : (-2147483648 : Int) ≤ F13 3 8 ∧ F13 3 8 ≤ 2147483647 := H.frng 3 8; have : F13 3 8 = F13 3 8 := rfl; show 0 ≤ (F13 3 8) ∧ (F13 3 8) ≤ 100000000; omega) (fun σ F19 A20 H hS21 hA22 pz230 => ⟨rfl, ?_⟩))
                have pz230 : (F19 3 8) = (F13 3 8) + 1 := by have : F13 3 8 = F13 3 8 := rfl; have : (F19 3 8) = (F13 3 8) + 1 := pz230; omega
                refine Ew_of (pc' := 63) (fun _ => x_aload_n rfl rfl) ?_
                refine Ew_of (pc' := 65) (fun _ => x_bipush (z := 16) rfl (by decide)) ?_
                refine Ew_of (pc' := 66) (fun _ => x_iload_n rfl rfl) ?_
                refine w_imul rfl ?_
                have r30 : (-2147483648 : Int) ≤ F19 3 8 ∧ F19 3 8 ≤ 2147483647 := by have : (-2147483648 : Int) ≤ F19 3 8 ∧ F19 3 8 ≤ 2147483647 := H.frng 3 8; have : F19 3 8 = F19 3 8 := rfl; omega
                refine w_inv H (o := 3) rfl rfl rfl (H.perm 3 rfl) rfl rfl (by rfl) (M376 H (by show inr ((16 * a2)); omega) (by show 0 ≤ ((16 * a2)) ∧ ((16 * a2)) ≤ 255; omega) (by have : (-2147483648 : Int) ≤ F19 3 8 ∧ F19 3 8 ≤ 2147483647 := H.frng 3 8; have : F19 3 8 = F19 3 8 := rfl; show 0 ≤ (F19 3 8) ∧ (F19 3 8) ≤ 100000000; omega) (fun σ F25 A26 H hS27 hA28 pz290 => ⟨rfl, ?_⟩))
                have pz290 : (F25 3 8) = (F19 3 8) + 1 := by have : F19 3 8 = F19 3 8 := rfl; have : (F25 3 8) = (F19 3 8) + 1 := pz290; omega
                have hc91 : ∀ (ls : rO) (σ : rS) (F_c91 : hF) (A_c91 : hA) , rlook ls 0 = some (.ref (D 3)) → rlook ls 1 = some (I (a1)) → rlook ls 3 = some (I (a3)) → rlook ls 4 = some (I (a4)) → rlook ls 5 = some (I (a5)) → HS σ0 σ D N F_c91 A_c91 → SF [(3, 8)] F25 F_c91 → SA [19] A26 A_c91 → (6 ≤ (F_c91 3 8) ∧ (F_c91 3 8) ≤ 14) → Ew 378 (d + 4) 91 ls [] σ c s Q := by
                  intro ls σ F_c91 A_c91  k91_0 k91_1 k91_3 k91_4 k91_5 H hS_c91 hA_c91 i91_0
                  have hc108 : ∀ (ls : rO) (σ : rS) (F_c108 : hF) (A_c108 : hA) , rlook ls 0 = some (.ref (D 3)) → rlook ls 1 = some (I (a1)) → rlook ls 4 = some (I (a4)) → rlook ls 5 = some (I (a5)) → HS σ0 σ D N F_c108 A_c108 → SF [(3, 8)] F_c91 F_c108 → SA [19] A_c91 A_c108 → (6 ≤ (F_c108 3 8) ∧ (F_c108 3 8) ≤ 18) → Ew 378 (d + 4) 108 ls [] σ c s Q := by
                    intro ls σ F_c108 A_c108  k108_0 k108_1 k108_4 k108_5 H hS_c108 hA_c108 i108_0
                    refine Ew_of (pc' := 109) (fun _ => x_aload_n rfl k108_0) ?_
                    refine Ew_of (pc' := 110) (fun _ => x_aload_n rfl k108_0) ?_
                    refine Ew_of (pc' := 111) (fun _ => x_aload_n rfl k108_0) ?_
                    refine w_gT H (o := 3) (t := 19) rfl (H.perm 3 rfl) rfl rfl rfl rfl rfl rfl ?_
                    refine Ew_of (pc' := 115) (fun _ => x_iconst rfl) ?_
                    refine Ew_of (pc' := 116) (fun _ => x_aload_n rfl k108_0) ?_
                    refine w_gI H (o := 3) (w := F_c108 3 8) rfl (H.perm 3 rfl) rfl rfl rfl (fun _ => rfl) rfl ?_
                    have r31 : (-2147483648 : Int) ≤ F_c108 3 8 ∧ F_c108 3 8 ≤ 2147483647 := by have h1 : (-2147483648 : Int) ≤ F_c108 3 8 ∧ F_c108 3 8 ≤ 2147483647 := H.frng 3 8; have h2 : F_c108 3 8 = F_c108 3 8 := rfl; omega
                    refine w_inv H (o := 3) rfl rfl rfl (H.perm 3 rfl) rfl rfl (by rfl) (M359_19 H (by show inr (4); omega) (by show inr (F_c108 3 8); omega) (by show 0 ≤ (4) ∧ (4) ≤ (F_c108 3 8) ∧ (F_c108 3 8) ≤ 70000; omega) (fun z36 σ F32 A33 H hS34 hA35 pz360 => ⟨rfl, ?_⟩))
                    refine Ew_of (pc' := 124) (fun _ => x_bipush (z := 8) rfl (by decide)) ?_
                    refine w_lshrA rfl (fun z37 gz37 => ?_)
                    refine Ew_of (pc' := 128) (fun _ => x_ldc2 (z := 255) rfl (by decide)) ?_
                    refine w_land rfl (show inrJ (z37) by omega) (show inrJ (255) by omega) (fun z38 gz38 gaz38 gbz38 => ?_)
                    refine w_l2i rfl ?_
                    have r44 : (-2147483648 : Int) ≤ F_c108 3 8 ∧ F_c108 3 8 ≤ 2147483647 := by have : (-2147483648 : Int) ≤ F32 3 8 ∧ F32 3 8 ≤ 2147483647 := H.frng 3 8; have : F32 3 8 = F_c108 3 8 := (hS34 3 8 rfl); omega
                    refine w_inv H (o := 3) rfl rfl rfl (H.perm 3 rfl) rfl rfl (by rfl) (M376 H (by show inr (z38); omega) (by show 0 ≤ (z38) ∧ (z38) ≤ 255; omega) (by have : (-2147483648 : Int) ≤ F32 3 8 ∧ F32 3 8 ≤ 2147483647 := H.frng 3 8; have : F32 3 8 = F_c108 3 8 := (hS34 3 8 rfl); show 0 ≤ (F32 3 8) ∧ (F32 3 8) ≤ 100000000; omega) (fun σ F39 A40 H hS41 hA42 pz430 => ⟨rfl, ?_⟩))
                    have pz430 : (F39 3 8) = (F_c108 3 8) + 1 := by have : F32 3 8 = F_c108 3 8 := (hS34 3 8 rfl); have : (F39 3 8) = (F32 3 8) + 1 := pz430; omega
                    refine Ew_of (pc' := 134) (fun _ => x_iconst rfl) ?_
                    refine Ew_of (pc' := 136) (fun _ => x_istore rfl) ?_
                    have r45 : (0 : Int) ≤ F 1 1 ∧ F 1 1 ≤ 65536 := by have h1 : (0 : Int) ≤ F39 1 1 ∧ F39 1 1 ≤ 65536 := H.frng 1 1; have h2 : F39 1 1 = F 1 1 := ((((((((hS41 1 1 rfl).trans (hS34 1 1 rfl)).trans (hS_c108 1 1 rfl)).trans (hS_c91 1 1 rfl)).trans (hS27 1 1 rfl)).trans (hS21 1 1 rfl)).trans (hS15 1 1 rfl)).trans (hS3 1 1 rfl)); omega
                    have r46 : (-2147483648 : Int) ≤ F39 3 8 ∧ F39 3 8 ≤ 2147483647 := by have h1 : (-2147483648 : Int) ≤ F39 3 8 ∧ F39 3 8 ≤ 2147483647 := H.frng 3 8; have h2 : F39 3 8 = F39 3 8 := rfl; omega
                    suffices hl136 : ∀ (m : Nat) (ls : rO) (σ : rS) (F_136 : hF) (A_136 : hA) (x136_6 : Int), rlook ls 0 = some (.ref (D 3)) → rlook ls 1 = some (I (a1)) → rlook ls 4 = some (I (a4)) → rlook ls 5 = some (I (a5)) → rlook ls 6 = some (I (x136_6)) → HS σ0 σ D N F_136 A_136 → SF [(3, 5), (3, 6), (3, 8), (3, 10)] F39 F_136 → SA [17, 18, 19, 20] A40 A_136 → (inr x136_6) → (0 ≤ x136_6) → (0 ≤ (F_136 3 8)) → ((F_136 3 8) ≤ 30 + 9 * x136_6 ∧ x136_6 ≤ (F 1 1) ∨ (F_136 3 8) ≤ 30 + 9 * (F 1 1) ∧ (F 1 1) ≤ x136_6) → ((F 1 1) - x136_6).toNat = m → Ew 378 (d + 4) 136 ls [] σ c s Q from
                      hl136 _ _ _ _ _ (0) (rk_o (k108_0) rfl rfl) (rk_o (k108_1) rfl rfl) (rk_o (k108_4) rfl rfl) (rk_o (k108_5) rfl rfl) (rk_s) H SF_refl SA_refl (by show inr (0); omega) (by show 0 ≤ (0); omega) (by have : (-2147483648 : Int) ≤ F39 3 8 ∧ F39 3 8 ≤ 2147483647 := H.frng 3 8; have : F39 3 8 = F39 3 8 := rfl; show 0 ≤ (F39 3 8); omega) (by have : (-2147483648 : Int) ≤ F39 3 8 ∧ F39 3 8 ≤ 2147483647 := H.frng 3 8; have : F39 3 8 = F39 3 8 := rfl; show (F39 3 8) ≤ 30 + 9 * (0) ∧ (0) ≤ (F 1 1) ∨ (F39 3 8) ≤ 30 + 9 * (F 1 1) ∧ (F 1 1) ≤ (0); omega) rfl
                    intro m
                    induction m using Nat.strongRecOn with
                    | _ m ih136 =>
                      intro ls σ F_136 A_136 x136_6 l136_0 l136_1 l136_4 l136_5 l136_6 H hS_136 hA_136 j136_0 j136_1 j136_2 j136_3 hm136
                      have r47 : (0 : Int) ≤ F 1 1 ∧ F 1 1 ≤ 65536 := by have h1 : (0 : Int) ≤ F_136 1 1 ∧ F_136 1 1 ≤ 65536 := H.frng 1 1; have h2 : F_136 1 1 = F 1 1 := (((((((((hS_136 1 1 rfl).trans (hS41 1 1 rfl)).trans (hS34 1 1 rfl)).trans (hS_c108 1 1 rfl)).trans (hS_c91 1 1 rfl)).trans (hS27 1 1 rfl)).trans (hS21 1 1 rfl)).trans (hS15 1 1 rfl)).trans (hS3 1 1 rfl)); omega
                      have r48 : (-2147483648 : Int) ≤ F_136 3 8 ∧ F_136 3 8 ≤ 2147483647 := by have h1 : (-2147483648 : Int) ≤ F_136 3 8 ∧ F_136 3 8 ≤ 2147483647 := H.frng 3 8; have h2 : F_136 3 8 = F_136 3 8 := rfl; omega
                      refine Ew_of (pc' := 138) (fun _ => x_iload rfl l136_6) ?_
                      refine Ew_of (pc' := 139) (fun _ => x_aload_n rfl l136_0) ?_
                      refine w_gT H (o := 3) (t := 1) rfl (H.perm 3 rfl) rfl rfl rfl rfl rfl rfl ?_
                      refine w_gI H (o := 1) (w := F 1 1) rfl (H.perm 1 rfl) rfl rfl rfl (fun _ => rfl) (((((((((hS_136 1 1 rfl).trans (hS41 1 1 rfl)).trans (hS34 1 1 rfl)).trans (hS_c108 1 1 rfl)).trans (hS_c91 1 1 rfl)).trans (hS27 1 1 rfl)).trans (hS21 1 1 rfl)).trans (hS15 1 1 rfl)).trans (hS3 1 1 rfl)) ?_
                      have r49 : (0 : Int) ≤ F 1 1 ∧ F 1 1 ≤ 65536 := by have h1 : (0 : Int) ≤ F_136 1 1 ∧ F_136 1 1 ≤ 65536 := H.frng 1 1; have h2 : F_136 1 1 = F 1 1 := (((((((((hS_136 1 1 rfl).trans (hS41 1 1 rfl)).trans (hS34 1 1 rfl)).trans (hS_c108 1 1 rfl)).trans (hS_c91 1 1 rfl)).trans (hS27 1 1 rfl)).trans (hS21 1 1 rfl)).trans (hS15 1 1 rfl)).trans (hS3 1 1 rfl)); omega
                      refine w_icmpge (t := 366) rfl rfl (show inr (x136_6) by omega) (show inr (F 1 1) by omega) (fun b50 => ?_) (fun b50 => ?_)
                      · refine Ew_of (pc' := 367) (fun _ => x_aload_n rfl l136_0) ?_
                        refine Ew_of (pc' := 368) (fun _ => x_lconst (z := 0) rfl (by decide)) ?_
                        refine Ew_of (pc' := 369) (fun _ => x_iconst rfl) ?_
                        have r56 : (-2147483648 : Int) ≤ F_136 3 8 ∧ F_136 3 8 ≤ 2147483647 := by have : (-2147483648 : Int) ≤ F_136 3 8 ∧ F_136 3 8 ≤ 2147483647 := H.frng 3 8; have : F_136 3 8 = F_136 3 8 := rfl; omega
                        refine w_inv H (o := 3) rfl rfl rfl (H.perm 3 rfl) rfl rfl (by rfl) (M377 H (by show inrJ (0); omega) (by show inr (4); omega) (by show 0 ≤ (4) ∧ (4) ≤ 8; omega) (by have : (-2147483648 : Int) ≤ F_136 3 8 ∧ F_136 3 8 ≤ 2147483647 := H.frng 3 8; have : F_136 3 8 = F_136 3 8 := rfl; show 0 ≤ (F_136 3 8) ∧ (F_136 3 8) ≤ 10000000; omega) (fun σ F51 A52 H hS53 hA54 pz550 => ⟨rfl, ?_⟩))
                        have pz550 : (F51 3 8) = (F_136 3 8) + (4) := by have : F_136 3 8 = F_136 3 8 := rfl; have : (F51 3 8) = (F_136 3 8) + (4) := pz550; omega
                        refine Ew_of (pc' := 373) (fun _ => x_iload_n rfl l136_1) ?_
                        refine Ew_of (pc' := 374) (fun _ => x_iconst rfl) ?_
                        refine w_iand rfl (show inr (a1) by omega) (show inr (4) by omega) (fun z57 gz57 gaz57 gbz57 => ?_)
                        refine w_ifeq (t := 402) rfl rfl (show inr (z57) by omega) (fun b58 => ?_) (fun b58 => ?_)
                        · refine Ew_of (pc' := 403) (fun _ => x_aload_n rfl l136_0) ?_
                          refine Ew_of (pc' := 404) (fun _ => x_aload_n rfl l136_0) ?_
                          refine w_gT H (o := 3) (t := 19) rfl (H.perm 3 rfl) rfl rfl rfl rfl rfl rfl ?_
                          refine Ew_of (pc' := 408) (fun _ => x_aload_n rfl l136_0) ?_
                          refine w_gI H (o := 3) (w := F51 3 8) rfl (H.perm 3 rfl) rfl rfl rfl (fun _ => rfl) rfl ?_
                          have r59 : (-2147483648 : Int) ≤ F51 3 8 ∧ F51 3 8 ≤ 2147483647 := by have h1 : (-2147483648 : Int) ≤ F51 3 8 ∧ F51 3 8 ≤ 2147483647 := H.frng 3 8; have h2 : F51 3 8 = F51 3 8 := rfl; omega
                          refine w_inv H (o := 3) rfl rfl rfl (H.perm 3 rfl) rfl rfl (by rfl) (M369_19 H (by show inr (F51 3 8); omega) (by show 0 ≤ (F51 3 8) ∧ (F51 3 8) ≤ 100000000; omega) (fun z64 σ F60 A61 H hS62 hA63 pz640 pz641 => ⟨rfl, ?_⟩))
                          exact w_ireturn rfl (k (z64) σ _ _ H (SF_trans (SF_trans (SF_trans (SF_trans (SF_trans (SF_trans (SF_trans (SF_trans (SF_trans (SF_trans (SF_upd (SF_trans (SF_refl) hS3 (any_sub rfl)) rfl) hS15 (any_sub rfl)) hS21 (any_sub rfl)) hS27 (any_sub rfl)) hS_c91 (any_sub rfl)) hS_c108 (any_sub rfl)) hS34 (any_sub rfl)) hS41 (any_sub rfl)) hS_136 (any_sub rfl)) hS53 (any_sub rfl)) hS62 (any_sub rfl)) (SA_trans (SA_trans (SA_trans (SA_trans (SA_trans (SA_trans (SA_trans (SA_trans (SA_trans (SA_trans (SA_trans (SA_refl) hA4 (any_subA rfl)) hA16 (any_subA rfl)) hA22 (any_subA rfl)) hA28 (any_subA rfl)) hA_c91 (any_subA rfl)) hA_c108 (any_subA rfl)) hA35 (any_subA rfl)) hA42 (any_subA rfl)) hA_136 (any_subA rfl)) hA54 (any_subA rfl)) hA63 (any_subA rfl)) (by show inr (z64); omega))
                        · refine Ew_of (pc' := 379) (fun _ => x_aload_n rfl l136_0) ?_
                          refine Ew_of (pc' := 380) (fun _ => x_aload_n rfl l136_0) ?_
                          refine Ew_of (pc' := 381) (fun _ => x_aload_n rfl l136_0) ?_
                          refine w_gT H (o := 3) (t := 1) rfl (H.perm 3 rfl) rfl rfl rfl rfl rfl rfl ?_
                          refine w_gT H (o := 1) (t := 14) rfl (H.perm 1 rfl) rfl rfl rfl rfl rfl rfl ?_
                          refine Ew_of (pc' := 388) (fun _ => x_iconst rfl) ?_
                          refine Ew_of (pc' := 389) (fun _ => x_aload_n rfl l136_0) ?_
                          refine w_gT H (o := 3) (t := 1) rfl (H.perm 3 rfl) rfl rfl rfl rfl rfl rfl ?_
                          refine w_gI H (o := 1) (w := F 1 1) rfl (H.perm 1 rfl) rfl rfl rfl (fun _ => rfl) ((((((((((hS53 1 1 rfl).trans (hS_136 1 1 rfl)).trans (hS41 1 1 rfl)).trans (hS34 1 1 rfl)).trans (hS_c108 1 1 rfl)).trans (hS_c91 1 1 rfl)).trans (hS27 1 1 rfl)).trans (hS21 1 1 rfl)).trans (hS15 1 1 rfl)).trans (hS3 1 1 rfl)) ?_
                          have r65 : (0 : Int) ≤ F 1 1 ∧ F 1 1 ≤ 65536 := by have h1 : (0 : Int) ≤ F51 1 1 ∧ F51 1 1 ≤ 65536 := H.frng 1 1; have h2 : F51 1 1 = F 1 1 := ((((((((((hS53 1 1 rfl).trans (hS_136 1 1 rfl)).trans (hS41 1 1 rfl)).trans (hS34 1 1 rfl)).trans (hS_c108 1 1 rfl)).trans (hS_c91 1 1 rfl)).trans (hS27 1 1 rfl)).trans (hS21 1 1 rfl)).trans (hS15 1 1 rfl)).trans (hS3 1 1 rfl)); omega
                          refine w_inv H (o := 3) rfl rfl rfl (H.perm 3 rfl) rfl rfl (by rfl) (M359_14 H (by show inr (0); omega) (by show inr (F 1 1); omega) (by show 0 ≤ (0) ∧ (0) ≤ (F 1 1) ∧ (F 1 1) ≤ 65536; omega) (fun z70 σ F66 A67 H hS68 hA69 pz700 => ⟨rfl, ?_⟩))
                          refine Ew_of (pc' := 399) (fun _ => x_iconst rfl) ?_
                          have r76 : (-2147483648 : Int) ≤ F51 3 8 ∧ F51 3 8 ≤ 2147483647 := by have : (-2147483648 : Int) ≤ F66 3 8 ∧ F66 3 8 ≤ 2147483647 := H.frng 3 8; have : F66 3 8 = F51 3 8 := (hS68 3 8 rfl); omega
                          refine w_inv H (o := 3) rfl rfl rfl (H.perm 3 rfl) rfl rfl (by rfl) (M377 H (by show inrJ (z70); omega) (by show inr (4); omega) (by show 0 ≤ (4) ∧ (4) ≤ 8; omega) (by have : (-2147483648 : Int) ≤ F66 3 8 ∧ F66 3 8 ≤ 2147483647 := H.frng 3 8; have : F66 3 8 = F51 3 8 := (hS68 3 8 rfl); show 0 ≤ (F66 3 8) ∧ (F66 3 8) ≤ 10000000; omega) (fun σ F71 A72 H hS73 hA74 pz750 => ⟨rfl, ?_⟩))
                          have pz750 : (F71 3 8) = (F51 3 8) + (4) := by have : F66 3 8 = F51 3 8 := (hS68 3 8 rfl); have : (F71 3 8) = (F66 3 8) + (4) := pz750; omega
                          refine Ew_of (pc' := 403) (fun _ => x_aload_n rfl l136_0) ?_
                          refine Ew_of (pc' := 404) (fun _ => x_aload_n rfl l136_0) ?_
                          refine w_gT H (o := 3) (t := 19) rfl (H.perm 3 rfl) rfl rfl rfl rfl rfl rfl ?_
                          refine Ew_of (pc' := 408) (fun _ => x_aload_n rfl l136_0) ?_
                          refine w_gI H (o := 3) (w := F71 3 8) rfl (H.perm 3 rfl) rfl rfl rfl (fun _ => rfl) rfl ?_
                          have r77 : (-2147483648 : Int) ≤ F71 3 8 ∧ F71 3 8 ≤ 2147483647 := by have h1 : (-2147483648 : Int) ≤ F71 3 8 ∧ F71 3 8 ≤ 2147483647 := H.frng 3 8; have h2 : F71 3 8 = F71 3 8 := rfl; omega
                          refine w_inv H (o := 3) rfl rfl rfl (H.perm 3 rfl) rfl rfl (by rfl) (M369_19 H (by show inr (F71 3 8); omega) (by show 0 ≤ (F71 3 8) ∧ (F71 3 8) ≤ 100000000; omega) (fun z82 σ F78 A79 H hS80 hA81 pz820 pz821 => ⟨rfl, ?_⟩))
                          exact w_ireturn rfl (k (z82) σ _ _ H (SF_trans (SF_trans (SF_trans (SF_trans (SF_trans (SF_trans (SF_trans (SF_trans (SF_trans (SF_trans (SF_trans (SF_trans (SF_upd (SF_trans (SF_refl) hS3 (any_sub rfl)) rfl) hS15 (any_sub rfl)) hS21 (any_sub rfl)) hS27 (any_sub rfl)) hS_c91 (any_sub rfl)) hS_c108 (any_sub rfl)) hS34 (any_sub rfl)) hS41 (any_sub rfl)) hS_136 (any_sub rfl)) hS53 (any_sub rfl)) hS68 (any_sub rfl)) hS73 (any_sub rfl)) hS80 (any_sub rfl)) (SA_trans (SA_trans (SA_trans (SA_trans (SA_trans (SA_trans (SA_trans (SA_trans (SA_trans (SA_trans (SA_trans (SA_trans (SA_trans (SA_refl) hA4 (any_subA rfl)) hA16 (any_subA rfl)) hA22 (any_subA rfl)) hA28 (any_subA rfl)) hA_c91 (any_subA rfl)) hA_c108 (any_subA rfl)) hA35 (any_subA rfl)) hA42 (any_subA rfl)) hA_136 (any_subA rfl)) hA54 (any_subA rfl)) hA69 (any_subA rfl)) hA74 (any_subA rfl)) hA81 (any_subA rfl)) (by show inr (z82); omega))
                      · have hc180 : ∀ (ls : rO) (σ : rS) (F_c180 : hF) (A_c180 : hA) (y180_7 : Int), rlook ls 0 = some (.ref (D 3)) → rlook ls 1 = some (I (a1)) → rlook ls 4 = some (I (a4)) → rlook ls 5 = some (I (a5)) → rlook ls 6 = some (I (x136_6)) → rlook ls 7 = some (I (y180_7)) → HS σ0 σ D N F_c180 A_c180 → SF [] F_136 F_c180 → SA [] A_136 A_c180 → (inr y180_7) → (x136_6 ≤ y180_7 ∧ y180_7 ≤ (F 1 1)) → (y180_7 = x136_6 + a4 ∨ y180_7 = (F 1 1)) → (y180_7 ≤ x136_6 + a4) → Ew 378 (d + 4) 180 ls [] σ c s Q := by
                          intro ls σ F_c180 A_c180 y180_7 k180_0 k180_1 k180_4 k180_5 k180_6 k180_7 H hS_c180 hA_c180 i180_0 i180_1 i180_2 i180_3
                          refine Ew_of (pc' := 181) (fun _ => x_aload_n rfl k180_0) ?_
                          have r88 : (0 : Int) ≤ F 3 2 ∧ F 3 2 ≤ 65536 := by have : (0 : Int) ≤ F_c180 3 2 ∧ F_c180 3 2 ≤ 65536 := H.frng 3 2; have : F_c180 3 2 = F 3 2 := ((((((((((hS_c180 3 2 rfl).trans (hS_136 3 2 rfl)).trans (hS41 3 2 rfl)).trans (hS34 3 2 rfl)).trans (hS_c108 3 2 rfl)).trans (hS_c91 3 2 rfl)).trans (hS27 3 2 rfl)).trans (hS21 3 2 rfl)).trans (hS15 3 2 rfl)).trans (hS3 3 2 rfl)); omega
                          refine w_inv H (o := 3) rfl rfl rfl (H.perm 3 rfl) rfl rfl (by rfl) (M367 H (by have : (0 : Int) ≤ F_c180 3 2 ∧ F_c180 3 2 ≤ 65536 := H.frng 3 2; have : F_c180 3 2 = F 3 2 := ((((((((((hS_c180 3 2 rfl).trans (hS_136 3 2 rfl)).trans (hS41 3 2 rfl)).trans (hS34 3 2 rfl)).trans (hS_c108 3 2 rfl)).trans (hS_c91 3 2 rfl)).trans (hS27 3 2 rfl)).trans (hS21 3 2 rfl)).trans (hS15 3 2 rfl)).trans (hS3 3 2 rfl)); show (F_c180 3 2) ≤ 16384; omega) (fun σ F83 A84 H hS85 hA86 pz870 => ⟨rfl, ?_⟩))
                          have pz870 : (F83 3 5) = (F 3 2) := by have : F_c180 3 2 = F 3 2 := ((((((((((hS_c180 3 2 rfl).trans (hS_136 3 2 rfl)).trans (hS41 3 2 rfl)).trans (hS34 3 2 rfl)).trans (hS_c108 3 2 rfl)).trans (hS_c91 3 2 rfl)).trans (hS27 3 2 rfl)).trans (hS21 3 2 rfl)).trans (hS15 3 2 rfl)).trans (hS3 3 2 rfl)); have : (F83 3 5) = (F_c180 3 2) := pz870; omega
                          have hc198 : ∀ (ls : rO) (σ : rS) (F_c198 : hF) (A_c198 : hA) , rlook ls 0 = some (.ref (D 3)) → rlook ls 1 = some (I (a1)) → rlook ls 4 = some (I (a4)) → rlook ls 5 = some (I (a5)) → rlook ls 6 = some (I (x136_6)) → rlook ls 7 = some (I (y180_7)) → HS σ0 σ D N F_c198 A_c198 → SF [(3, 5)] F83 F_c198 → SA [18] A84 A_c198 → (0 ≤ (F_c198 3 5) ∧ (F_c198 3 5) ≤ (F 3 2) + x136_6) → Ew 378 (d + 4) 198 ls [] σ c s Q := by
                            intro ls σ F_c198 A_c198  k198_0 k198_1 k198_4 k198_5 k198_6 k198_7 H hS_c198 hA_c198 i198_0
                            refine Ew_of (pc' := 199) (fun _ => x_aload_n rfl k198_0) ?_
                            refine w_gI H (o := 3) (w := F_c198 3 5) rfl (H.perm 3 rfl) rfl rfl rfl (fun _ => rfl) rfl ?_
                            have r89 : (-2147483648 : Int) ≤ F_c198 3 5 ∧ F_c198 3 5 ≤ 2147483647 := by have h1 : (-2147483648 : Int) ≤ F_c198 3 5 ∧ F_c198 3 5 ≤ 2147483647 := H.frng 3 5; have h2 : F_c198 3 5 = F_c198 3 5 := rfl; omega
                            refine Ew_of (pc' := 204) (fun _ => x_istore rfl) ?_
                            refine Ew_of (pc' := 205) (fun _ => x_aload_n rfl (rk_o (k198_0) rfl rfl)) ?_
                            refine Ew_of (pc' := 207) (fun _ => x_iload rfl (rk_o (k198_6) rfl rfl)) ?_
                            refine Ew_of (pc' := 209) (fun _ => x_iload rfl (rk_o (k198_7) rfl rfl)) ?_
                            have r95 : (-2147483648 : Int) ≤ F_c198 3 5 ∧ F_c198 3 5 ≤ 2147483647 := by have : (-2147483648 : Int) ≤ F_c198 3 5 ∧ F_c198 3 5 ≤ 2147483647 := H.frng 3 5; have : F_c198 3 5 = F_c198 3 5 := rfl; omega
                            refine w_inv H (o := 3) rfl rfl rfl (H.perm 3 rfl) rfl rfl (by rfl) (M368 H (by show inr (x136_6); omega) (by show inr (y180_7); omega) (by have : (-2147483648 : Int) ≤ F_c198 3 5 ∧ F_c198 3 5 ≤ 2147483647 := H.frng 3 5; have : F_c198 3 5 = F_c198 3 5 := rfl; show 0 ≤ (F_c198 3 5) ∧ (F_c198 3 5) ≤ 16384; omega) (by have : (-2147483648 : Int) ≤ F_c198 3 5 ∧ F_c198 3 5 ≤ 2147483647 := H.frng 3 5; have : F_c198 3 5 = F_c198 3 5 := rfl; show 0 ≤ (x136_6) ∧ (x136_6) ≤ (y180_7) ∧ (y180_7) ≤ 65536 ∧ (F_c198 3 5) + ((y180_7) - (x136_6)) ≤ 16384; omega) (fun σ F90 A91 H hS92 hA93 pz940 => ⟨rfl, ?_⟩))
                            have pz940 : (F90 3 5) = (F_c198 3 5) + ((y180_7) - (x136_6)) := by have : F_c198 3 5 = F_c198 3 5 := rfl; have : (F90 3 5) = (F_c198 3 5) + ((y180_7) - (x136_6)) := pz940; omega
                            refine Ew_of (pc' := 213) (fun _ => x_aload_n rfl (rk_o (k198_0) rfl rfl)) ?_
                            refine Ew_of (pc' := 215) (fun _ => x_iload rfl rk_s) ?_
                            refine Ew_of (pc' := 217) (fun _ => x_iload rfl (rk_o (k198_5) rfl rfl)) ?_
                            refine w_inv H (o := 3) rfl rfl rfl (H.perm 3 rfl) rfl rfl (by rfl) (M366 H (by show inr (F_c198 3 5); omega) (by show inr (a5); omega) (by have : (-2147483648 : Int) ≤ F90 3 5 ∧ F90 3 5 ≤ 2147483647 := H.frng 3 5; have : F90 3 5 = F90 3 5 := rfl; show 0 ≤ (F90 3 5) ∧ (F90 3 5) ≤ 16384; omega) (by have : (-2147483648 : Int) ≤ F90 3 5 ∧ F90 3 5 ≤ 2147483647 := H.frng 3 5; have : F90 3 5 = F90 3 5 := rfl; show 0 ≤ (F_c198 3 5) ∧ (F_c198 3 5) ≤ (F90 3 5); omega) (fun σ F96 A97 H hS98 hA99 pz1000 => ⟨rfl, ?_⟩))
                            have pz1000 : 0 ≤ (F96 3 10) ∧ (F96 3 10) ≤ 3000000 := by have : 0 ≤ (F96 3 10) ∧ (F96 3 10) ≤ 3000000 := pz1000; omega
                            have hc239 : ∀ (ls : rO) (σ : rS) (F_c239 : hF) (A_c239 : hA) (y239_9 : Int), rlook ls 0 = some (.ref (D 3)) → rlook ls 1 = some (I (a1)) → rlook ls 4 = some (I (a4)) → rlook ls 5 = some (I (a5)) → rlook ls 6 = some (I (x136_6)) → rlook ls 7 = some (I (y180_7)) → rlook ls 9 = some (I (y239_9)) → HS σ0 σ D N F_c239 A_c239 → SF [] F96 F_c239 → SA [] A97 A_c239 → (inr y239_9) → (y239_9 = 0 ∨ y239_9 = 1) → (y239_9 = 0 → (F96 3 10) < y180_7 - x136_6) → Ew 378 (d + 4) 239 ls [] σ c s Q := by
                              intro ls σ F_c239 A_c239 y239_9 k239_0 k239_1 k239_4 k239_5 k239_6 k239_7 k239_9 H hS_c239 hA_c239 i239_0 i239_1 i239_2
                              have hc258 : ∀ (ls : rO) (σ : rS) (F_c258 : hF) (A_c258 : hA) (y258_10 : Int), rlook ls 0 = some (.ref (D 3)) → rlook ls 1 = some (I (a1)) → rlook ls 4 = some (I (a4)) → rlook ls 5 = some (I (a5)) → rlook ls 6 = some (I (x136_6)) → rlook ls 9 = some (I (y239_9)) → rlook ls 10 = some (I (y258_10)) → HS σ0 σ D N F_c258 A_c258 → SF [] F_c239 F_c258 → SA [] A_c239 A_c258 → (inr y258_10) → (0 ≤ y258_10 ∧ y258_10 ≤ y180_7 - x136_6) → Ew 378 (d + 4) 258 ls [] σ c s Q := by
                                intro ls σ F_c258 A_c258 y258_10 k258_0 k258_1 k258_4 k258_5 k258_6 k258_9 k258_10 H hS_c258 hA_c258 i258_0 i258_1
                                have hc281 : ∀ (ls : rO) (σ : rS) (F_c281 : hF) (A_c281 : hA) , rlook ls 0 = some (.ref (D 3)) → rlook ls 1 = some (I (a1)) → rlook ls 4 = some (I (a4)) → rlook ls 5 = some (I (a5)) → rlook ls 6 = some (I (x136_6)) → rlook ls 9 = some (I (y239_9)) → rlook ls 10 = some (I (y258_10)) → HS σ0 σ D N F_c281 A_c281 → SF [(3, 8)] F_c258 F_c281 → SA [19] A_c258 A_c281 → ((F_c281 3 8) = (F_136 3 8) + 4) → Ew 378 (d + 4) 281 ls [] σ c s Q := by
                                  intro ls σ F_c281 A_c281  k281_0 k281_1 k281_4 k281_5 k281_6 k281_9 k281_10 H hS_c281 hA_c281 i281_0
                                  refine Ew_of (pc' := 282) (fun _ => x_iconst rfl) ?_
                                  refine Ew_of (pc' := 284) (fun _ => x_istore rfl) ?_
                                  have r101 : (-2147483648 : Int) ≤ F_c281 3 8 ∧ F_c281 3 8 ≤ 2147483647 := by have h1 : (-2147483648 : Int) ≤ F_c281 3 8 ∧ F_c281 3 8 ≤ 2147483647 := H.frng 3 8; have h2 : F_c281 3 8 = F_c281 3 8 := rfl; omega
                                  suffices hl284 : ∀ (m : Nat) (ls : rO) (σ : rS) (F_284 : hF) (A_284 : hA) (x284_11 : Int), rlook ls 0 = some (.ref (D 3)) → rlook ls 1 = some (I (a1)) → rlook ls 4 = some (I (a4)) → rlook ls 5 = some (I (a5)) → rlook ls 6 = some (I (x136_6)) → rlook ls 9 = some (I (y239_9)) → rlook ls 10 = some (I (y258_10)) → rlook ls 11 = some (I (x284_11)) → HS σ0 σ D N F_284 A_284 → SF [(3, 8)] F_c281 F_284 → SA [19, 20] A_c281 A_284 → (inr x284_11) → ((0) ≤ x284_11) → (x284_11 ≤ (0) ∨ x284_11 ≤ (y258_10)) → ((F_284 3 8) = (F_c281 3 8) + x284_11) → ((y258_10) - x284_11).toNat = m → Ew 378 (d + 4) 284 ls [] σ c s Q from
                                    hl284 _ _ _ _ _ (0) (rk_o (k281_0) rfl rfl) (rk_o (k281_1) rfl rfl) (rk_o (k281_4) rfl rfl) (rk_o (k281_5) rfl rfl) (rk_o (k281_6) rfl rfl) (rk_o (k281_9) rfl rfl) (rk_o (k281_10) rfl rfl) (rk_s) H SF_refl SA_refl (by show inr (0); omega) (by show (0) ≤ (0); omega) (by show (0) ≤ (0) ∨ (0) ≤ ((y258_10)); omega) (by have : (-2147483648 : Int) ≤ F_c281 3 8 ∧ F_c281 3 8 ≤ 2147483647 := H.frng 3 8; have : F_c281 3 8 = F_c281 3 8 := rfl; show (F_c281 3 8) = (F_c281 3 8) + (0); omega) rfl
                                  intro m
                                  induction m using Nat.strongRecOn with
                                  | _ m ih284 =>
                                    intro ls σ F_284 A_284 x284_11 l284_0 l284_1 l284_4 l284_5 l284_6 l284_9 l284_10 l284_11 H hS_284 hA_284 j284_0 j284_1 j284_2 j284_3 hm284
                                    have r102 : (-2147483648 : Int) ≤ F_284 3 8 ∧ F_284 3 8 ≤ 2147483647 := by have h1 : (-2147483648 : Int) ≤ F_284 3 8 ∧ F_284 3 8 ≤ 2147483647 := H.frng 3 8; have h2 : F_284 3 8 = F_284 3 8 := rfl; omega
                                    refine Ew_of (pc' := 286) (fun _ => x_iload rfl l284_11) ?_
                                    refine Ew_of (pc' := 288) (fun _ => x_iload rfl l284_10) ?_
                                    refine w_icmpge (t := 333) rfl rfl (show inr (x284_11) by omega) (show inr (y258_10) by omega) (fun b103 => ?_) (fun b103 => ?_)
                                    · refine Ew_of (pc' := 334) (fun _ => x_iload_n rfl l284_1) ?_
                                      refine Ew_of (pc' := 336) (fun _ => x_bipush (z := 16) rfl (by decide)) ?_
                                      refine w_iand rfl (show inr (a1) by omega) (show inr (16) by omega) (fun z104 gz104 gaz104 gbz104 => ?_)
                                      refine w_ifeq (t := 356) rfl rfl (show inr (z104) by omega) (fun b105 => ?_) (fun b105 => ?_)
                                      · refine Ew_of (pc' := 358) (fun _ => x_iload rfl l284_6) ?_
                                        refine Ew_of (pc' := 360) (fun _ => x_iload rfl l284_4) ?_
                                        refine w_iadd rfl ?_
                                        refine Ew_of (pc' := 363) (fun _ => x_istore rfl) ?_
                                        refine Ew_of (pc' := 136) (fun _ => x_goto rfl rfl) ?_
                                        exact ih136 _ (by omega) _ σ _ _ ((x136_6 + a4)) (rk_o (l284_0) rfl rfl) (rk_o (l284_1) rfl rfl) (rk_o (l284_4) rfl rfl) (rk_o (l284_5) rfl rfl) (rk_s) H (SF_trans (SF_trans (SF_trans (SF_trans (SF_trans (SF_trans (SF_trans (SF_trans (SF_trans (hS_136) hS_c180 (any_sub rfl)) hS85 (any_sub rfl)) hS_c198 (any_sub rfl)) hS92 (any_sub rfl)) hS98 (any_sub rfl)) hS_c239 (any_sub rfl)) hS_c258 (any_sub rfl)) hS_c281 (any_sub rfl)) hS_284 (any_sub rfl)) (SA_trans (SA_trans (SA_trans (SA_trans (SA_trans (SA_trans (SA_trans (SA_trans (SA_trans (hA_136) hA_c180 (any_subA rfl)) hA86 (any_subA rfl)) hA_c198 (any_subA rfl)) hA93 (any_subA rfl)) hA99 (any_subA rfl)) hA_c239 (any_subA rfl)) hA_c258 (any_subA rfl)) hA_c281 (any_subA rfl)) hA_284 (any_subA rfl)) (by show inr ((x136_6 + a4)); omega) (by show 0 ≤ ((x136_6 + a4)); omega) (by have : (-2147483648 : Int) ≤ F_284 3 8 ∧ F_284 3 8 ≤ 2147483647 := H.frng 3 8; have : F_284 3 8 = F_284 3 8 := rfl; show 0 ≤ (F_284 3 8); omega) (by have : (-2147483648 : Int) ≤ F_284 3 8 ∧ F_284 3 8 ≤ 2147483647 := H.frng 3 8; have : F_284 3 8 = F_284 3 8 := rfl; show (F_284 3 8) ≤ 30 + 9 * ((x136_6 + a4)) ∧ ((x136_6 + a4)) ≤ (F 1 1) ∨ (F_284 3 8) ≤ 30 + 9 * (F 1 1) ∧ (F 1 1) ≤ ((x136_6 + a4)); omega) rfl
                                      · refine Ew_of (pc' := 341) (fun _ => x_aload_n rfl l284_0) ?_
                                        refine Ew_of (pc' := 342) (fun _ => x_aload_n rfl l284_0) ?_
                                        refine Ew_of (pc' := 343) (fun _ => x_aload_n rfl l284_0) ?_
                                        refine w_gT H (o := 3) (t := 20) rfl (H.perm 3 rfl) rfl rfl rfl rfl rfl rfl ?_
                                        refine Ew_of (pc' := 347) (fun _ => x_iconst rfl) ?_
                                        refine Ew_of (pc' := 349) (fun _ => x_iload rfl l284_10) ?_
                                        refine w_inv H (o := 3) rfl rfl rfl (H.perm 3 rfl) rfl rfl (by rfl) (M359_20 H (by show inr (0); omega) (by show inr (y258_10); omega) (by show 0 ≤ (0) ∧ (0) ≤ (y258_10) ∧ (y258_10) ≤ 70000; omega) (fun z110 σ F106 A107 H hS108 hA109 pz1100 => ⟨rfl, ?_⟩))
                                        refine Ew_of (pc' := 353) (fun _ => x_iconst rfl) ?_
                                        have r116 : (-2147483648 : Int) ≤ F_284 3 8 ∧ F_284 3 8 ≤ 2147483647 := by have : (-2147483648 : Int) ≤ F106 3 8 ∧ F106 3 8 ≤ 2147483647 := H.frng 3 8; have : F106 3 8 = F_284 3 8 := (hS108 3 8 rfl); omega
                                        refine w_inv H (o := 3) rfl rfl rfl (H.perm 3 rfl) rfl rfl (by rfl) (M377 H (by show inrJ (z110); omega) (by show inr (4); omega) (by show 0 ≤ (4) ∧ (4) ≤ 8; omega) (by have : (-2147483648 : Int) ≤ F106 3 8 ∧ F106 3 8 ≤ 2147483647 := H.frng 3 8; have : F106 3 8 = F_284 3 8 := (hS108 3 8 rfl); show 0 ≤ (F106 3 8) ∧ (F106 3 8) ≤ 10000000; omega) (fun σ F111 A112 H hS113 hA114 pz1150 => ⟨rfl, ?_⟩))
                                        have pz1150 : (F111 3 8) = (F_284 3 8) + (4) := by have : F106 3 8 = F_284 3 8 := (hS108 3 8 rfl); have : (F111 3 8) = (F106 3 8) + (4) := pz1150; omega
                                        refine Ew_of (pc' := 358) (fun _ => x_iload rfl l284_6) ?_
                                        refine Ew_of (pc' := 360) (fun _ => x_iload rfl l284_4) ?_
                                        refine w_iadd rfl ?_
                                        refine Ew_of (pc' := 363) (fun _ => x_istore rfl) ?_
                                        refine Ew_of (pc' := 136) (fun _ => x_goto rfl rfl) ?_
                                        exact ih136 _ (by omega) _ σ _ _ ((x136_6 + a4)) (rk_o (l284_0) rfl rfl) (rk_o (l284_1) rfl rfl) (rk_o (l284_4) rfl rfl) (rk_o (l284_5) rfl rfl) (rk_s) H (SF_trans (SF_trans (SF_trans (SF_trans (SF_trans (SF_trans (SF_trans (SF_trans (SF_trans (SF_trans (SF_trans (hS_136) hS_c180 (any_sub rfl)) hS85 (any_sub rfl)) hS_c198 (any_sub rfl)) hS92 (any_sub rfl)) hS98 (any_sub rfl)) hS_c239 (any_sub rfl)) hS_c258 (any_sub rfl)) hS_c281 (any_sub rfl)) hS_284 (any_sub rfl)) hS108 (any_sub rfl)) hS113 (any_sub rfl)) (SA_trans (SA_trans (SA_trans (SA_trans (SA_trans (SA_trans (SA_trans (SA_trans (SA_trans (SA_trans (SA_trans (hA_136) hA_c180 (any_subA rfl)) hA86 (any_subA rfl)) hA_c198 (any_subA rfl)) hA93 (any_subA rfl)) hA99 (any_subA rfl)) hA_c239 (any_subA rfl)) hA_c258 (any_subA rfl)) hA_c281 (any_subA rfl)) hA_284 (any_subA rfl)) hA109 (any_subA rfl)) hA114 (any_subA rfl)) (by show inr ((x136_6 + a4)); omega) (by show 0 ≤ ((x136_6 + a4)); omega) (by have : (-2147483648 : Int) ≤ F111 3 8 ∧ F111 3 8 ≤ 2147483647 := H.frng 3 8; have : F111 3 8 = F111 3 8 := rfl; show 0 ≤ (F111 3 8); omega) (by have : (-2147483648 : Int) ≤ F111 3 8 ∧ F111 3 8 ≤ 2147483647 := H.frng 3 8; have : F111 3 8 = F111 3 8 := rfl; show (F111 3 8) ≤ 30 + 9 * ((x136_6 + a4)) ∧ ((x136_6 + a4)) ≤ (F 1 1) ∨ (F111 3 8) ≤ 30 + 9 * (F 1 1) ∧ (F 1 1) ≤ ((x136_6 + a4)); omega) rfl
                                    · have hc316 : ∀ (ls : rO) (σ : rS) (F_c316 : hF) (A_c316 : hA) , rlook ls 0 = some (.ref (D 3)) → rlook ls 1 = some (I (a1)) → rlook ls 4 = some (I (a4)) → rlook ls 5 = some (I (a5)) → rlook ls 6 = some (I (x136_6)) → rlook ls 9 = some (I (y239_9)) → rlook ls 10 = some (I (y258_10)) → rlook ls 11 = some (I (x284_11)) → HS σ0 σ D N F_c316 A_c316 → SF [] F_284 F_c316 → SA [20] A_284 A_c316 → Ew 378 (d + 4) 316 ls [] σ c s Q := by
                                        intro ls σ F_c316 A_c316  k316_0 k316_1 k316_4 k316_5 k316_6 k316_9 k316_10 k316_11 H hS_c316 hA_c316 
                                        refine Ew_of (pc' := 317) (fun _ => x_aload_n rfl k316_0) ?_
                                        refine Ew_of (pc' := 318) (fun _ => x_aload_n rfl k316_0) ?_
                                        refine w_gT H (o := 3) (t := 20) rfl (H.perm 3 rfl) rfl rfl rfl rfl rfl rfl ?_
                                        refine Ew_of (pc' := 323) (fun _ => x_iload rfl k316_11) ?_
                                        refine w_lI H (o := 20) (n := 70000) rfl (H.perm 20 rfl) rfl rfl (H.fix 20 rfl rfl) (show 0 ≤ x284_11 ∧ x284_11 < ((70000 : Nat) : Int) by omega) (by decide) (fun v117 ev117 qv117 => ?_)
                                        have qv117 : (0 : Int) ≤ v117 ∧ v117 ≤ 255 := qv117
                                        have ev117 : A_c316 20 (x284_11) = v117 := ev117
                                        have r123 : (-2147483648 : Int) ≤ F_284 3 8 ∧ F_284 3 8 ≤ 2147483647 := by have : (-2147483648 : Int) ≤ F_c316 3 8 ∧ F_c316 3 8 ≤ 2147483647 := H.frng 3 8; have : F_c316 3 8 = F_284 3 8 := (hS_c316 3 8 rfl); omega
                                        refine w_inv H (o := 3) rfl rfl rfl (H.perm 3 rfl) rfl rfl (by rfl) (M376 H (by show inr (v117); omega) (by show 0 ≤ (v117) ∧ (v117) ≤ 255; omega) (by have : (-2147483648 : Int) ≤ F_c316 3 8 ∧ F_c316 3 8 ≤ 2147483647 := H.frng 3 8; have : F_c316 3 8 = F_284 3 8 := (hS_c316 3 8 rfl); show 0 ≤ (F_c316 3 8) ∧ (F_c316 3 8) ≤ 100000000; omega) (fun σ F118 A119 H hS120 hA121 pz1220 => ⟨rfl, ?_⟩))
                                        have pz1220 : (F118 3 8) = (F_284 3 8) + 1 := by have : F_c316 3 8 = F_284 3 8 := (hS_c316 3 8 rfl); have : (F118 3 8) = (F_c316 3 8) + 1 := pz1220; omega
                                        refine Ew_of (pc' := 330) (fun _ => x_iinc (len := 3) rfl (k316_11)) ?_
                                        refine Ew_of (pc' := 284) (fun _ => x_goto rfl rfl) ?_
                                        exact ih284 _ (by omega) _ σ _ _ ((x284_11 + 1)) (rk_o (k316_0) rfl rfl) (rk_o (k316_1) rfl rfl) (rk_o (k316_4) rfl rfl) (rk_o (k316_5) rfl rfl) (rk_o (k316_6) rfl rfl) (rk_o (k316_9) rfl rfl) (rk_o (k316_10) rfl rfl) (rk_s) H (SF_trans (SF_trans (hS_284) hS_c316 (any_sub rfl)) hS120 (any_sub rfl)) (SA_trans (SA_trans (hA_284) hA_c316 (any_subA rfl)) hA121 (any_subA rfl)) (by show inr ((x284_11 + 1)); omega) (by show (0) ≤ ((x284_11 + 1)); omega) (by show ((x284_11 + 1)) ≤ (0) ∨ ((x284_11 + 1)) ≤ ((y258_10)); omega) (by have : (-2147483648 : Int) ≤ F118 3 8 ∧ F118 3 8 ≤ 2147483647 := H.frng 3 8; have : F118 3 8 = F118 3 8 := rfl; show (F118 3 8) = (F_c281 3 8) + ((x284_11 + 1)); omega) rfl
                                      refine Ew_of (pc' := 293) (fun _ => x_iload rfl l284_9) ?_
                                      refine w_ifeq (t := 316) rfl rfl (show inr (y239_9) by omega) (fun b124 => ?_) (fun b124 => ?_)
                                      · exact hc316 _ σ _ _  (l284_0) (l284_1) (l284_4) (l284_5) (l284_6) (l284_9) (l284_10) (l284_11) H (SF_refl) (SA_refl)
                                      · refine Ew_of (pc' := 297) (fun _ => x_aload_n rfl l284_0) ?_
                                        refine w_gT H (o := 3) (t := 20) rfl (H.perm 3 rfl) rfl rfl rfl rfl rfl rfl ?_
                                        refine Ew_of (pc' := 302) (fun _ => x_iload rfl l284_11) ?_
                                        refine Ew_of (pc' := 303) (fun _ => x_aload_n rfl l284_0) ?_
                                        refine w_gT H (o := 3) (t := 1) rfl (H.perm 3 rfl) rfl rfl rfl rfl rfl rfl ?_
                                        refine w_gT H (o := 1) (t := 14) rfl (H.perm 1 rfl) rfl rfl rfl rfl rfl rfl ?_
                                        refine Ew_of (pc' := 311) (fun _ => x_iload rfl l284_6) ?_
                                        refine Ew_of (pc' := 313) (fun _ => x_iload rfl l284_11) ?_
                                        refine w_iadd rfl ?_
                                        refine w_lI H (o := 14) (n := 65536) rfl (H.perm 14 rfl) rfl rfl (H.fix 14 rfl rfl) (show 0 ≤ (x136_6 + x284_11) ∧ (x136_6 + x284_11) < ((65536 : Nat) : Int) by omega) (by decide) (fun v125 ev125 qv125 => ?_)
                                        have qv125 : (0 : Int) ≤ v125 ∧ v125 ≤ 255 := qv125
                                        have ev125 : A_284 14 ((x136_6 + x284_11)) = v125 := ev125
                                        have ev125 : A 14 ((x136_6 + x284_11)) = v125 := by have : A_284 14 ((x136_6 + x284_11)) = A_c281 14 ((x136_6 + x284_11)) := hA_284 14 rfl ((x136_6 + x284_11)); have : A_c281 14 ((x136_6 + x284_11)) = A_c258 14 ((x136_6 + x284_11)) := hA_c281 14 rfl ((x136_6 + x284_11)); have : A_c258 14 ((x136_6 + x284_11)) = A_c239 14 ((x136_6 + x284_11)) := hA_c258 14 rfl ((x136_6 + x284_11)); have : A_c239 14 ((x136_6 + x284_11)) = A97 14 ((x136_6 + x284_11)) := hA_c239 14 rfl ((x136_6 + x284_11)); have : A97 14 ((x136_6 + x284_11)) = A91 14 ((x136_6 + x284_11)) := hA99 14 rfl ((x136_6 + x284_11)); have : A91 14 ((x136_6 + x284_11)) = A_c198 14 ((x136_6 + x284_11)) := hA93 14 rfl ((x136_6 + x284_11)); have : A_c198 14 ((x136_6 + x284_11)) = A84 14 ((x136_6 + x284_11)) := hA_c198 14 rfl ((x136_6 + x284_11)); have : A84 14 ((x136_6 + x284_11)) = A_c180 14 ((x136_6 + x284_11)) := hA86 14 rfl ((x136_6 + x284_11)); have : A_c180 14 ((x136_6 + x284_11)) = A_136 14 ((x136_6 + x284_11)) := hA_c180 14 rfl ((x136_6 + x284_11)); have : A_136 14 ((x136_6 + x284_11)) = A40 14 ((x136_6 + x284_11)) := hA_136 14 rfl ((x136_6 + x284_11)); have : A40 14 ((x136_6 + x284_11)) = A33 14 ((x136_6 + x284_11)) := hA42 14 rfl ((x136_6 + x284_11)); have : A33 14 ((x136_6 + x284_11)) = A_c108 14 ((x136_6 + x284_11)) := hA35 14 rfl ((x136_6 + x284_11)); have : A_c108 14 ((x136_6 + x284_11)) = A_c91 14 ((x136_6 + x284_11)) := hA_c108 14 rfl ((x136_6 + x284_11)); have : A_c91 14 ((x136_6 + x284_11)) = A26 14 ((x136_6 + x284_11)) := hA_c91 14 rfl ((x136_6 + x284_11)); have : A26 14 ((x136_6 + x284_11)) = A20 14 ((x136_6 + x284_11)) := hA28 14 rfl ((x136_6 + x284_11)); have : A20 14 ((x136_6 + x284_11)) = A14 14 ((x136_6 + x284_11)) := hA22 14 rfl ((x136_6 + x284_11)); have : A14 14 ((x136_6 + x284_11)) = A2 14 ((x136_6 + x284_11)) := hA16 14 rfl ((x136_6 + x284_11)); have : A2 14 ((x136_6 + x284_11)) = A 14 ((x136_6 + x284_11)) := hA4 14 rfl ((x136_6 + x284_11)); omega
                                        refine w_sI H (o := 20) (n := 70000) rfl (H.perm 20 rfl) rfl rfl (H.fix 20 rfl rfl) (show 0 ≤ x284_11 ∧ x284_11 < ((70000 : Nat) : Int) by omega) (by decide) (show (0 : Int) ≤ v125 ∧ v125 ≤ 255 by omega) (fun σ H => ?_)
                                        exact hc316 _ σ _ _  (l284_0) (l284_1) (l284_4) (l284_5) (l284_6) (l284_9) (l284_10) (l284_11) H (SF_refl) (SA_upd (SA_refl) rfl) 
                                refine Ew_of (pc' := 259) (fun _ => x_aload_n rfl k258_0) ?_
                                refine Ew_of (pc' := 261) (fun _ => x_iload rfl k258_9) ?_
                                refine w_ifeq (t := 274) rfl rfl (show inr (y239_9) by omega) (fun b126 => ?_) (fun b126 => ?_)
                                · refine Ew_of (pc' := 276) (fun _ => x_iload rfl k258_10) ?_
                                  refine w_i2l rfl (show inr (y258_10) by omega) ?_
                                  refine Ew_of (pc' := 278) (fun _ => x_iconst rfl) ?_
                                  have r132 : (-2147483648 : Int) ≤ F_136 3 8 ∧ F_136 3 8 ≤ 2147483647 := by have : (-2147483648 : Int) ≤ F_c258 3 8 ∧ F_c258 3 8 ≤ 2147483647 := H.frng 3 8; have : F_c258 3 8 = F_136 3 8 := (((((((hS_c258 3 8 rfl).trans (hS_c239 3 8 rfl)).trans (hS98 3 8 rfl)).trans (hS92 3 8 rfl)).trans (hS_c198 3 8 rfl)).trans (hS85 3 8 rfl)).trans (hS_c180 3 8 rfl)); omega
                                  refine w_inv H (o := 3) rfl rfl rfl (H.perm 3 rfl) rfl rfl (by rfl) (M377 H (by show inrJ (y258_10); omega) (by show inr (4); omega) (by show 0 ≤ (4) ∧ (4) ≤ 8; omega) (by have : (-2147483648 : Int) ≤ F_c258 3 8 ∧ F_c258 3 8 ≤ 2147483647 := H.frng 3 8; have : F_c258 3 8 = F_136 3 8 := (((((((hS_c258 3 8 rfl).trans (hS_c239 3 8 rfl)).trans (hS98 3 8 rfl)).trans (hS92 3 8 rfl)).trans (hS_c198 3 8 rfl)).trans (hS85 3 8 rfl)).trans (hS_c180 3 8 rfl)); show 0 ≤ (F_c258 3 8) ∧ (F_c258 3 8) ≤ 10000000; omega) (fun σ F127 A128 H hS129 hA130 pz1310 => ⟨rfl, ?_⟩))
                                  have pz1310 : (F127 3 8) = (F_136 3 8) + (4) := by have : F_c258 3 8 = F_136 3 8 := (((((((hS_c258 3 8 rfl).trans (hS_c239 3 8 rfl)).trans (hS98 3 8 rfl)).trans (hS92 3 8 rfl)).trans (hS_c198 3 8 rfl)).trans (hS85 3 8 rfl)).trans (hS_c180 3 8 rfl)); have : (F127 3 8) = (F_c258 3 8) + (4) := pz1310; omega
                                  exact hc281 _ σ _ _  (k258_0) (k258_1) (k258_4) (k258_5) (k258_6) (k258_9) (k258_10) H (SF_trans (SF_refl) hS129 (any_sub rfl)) (SA_trans (SA_refl) hA130 (any_subA rfl)) (by have : (-2147483648 : Int) ≤ F127 3 8 ∧ F127 3 8 ≤ 2147483647 := H.frng 3 8; have : F127 3 8 = F127 3 8 := rfl; show (F127 3 8) = (F_136 3 8) + 4; omega)
                                · refine Ew_of (pc' := 267) (fun _ => x_ldc2 (z := 2147483648) rfl (by decide)) ?_
                                  refine Ew_of (pc' := 269) (fun _ => x_iload rfl k258_10) ?_
                                  refine w_i2l rfl (show inr (y258_10) by omega) ?_
                                  refine w_ladd rfl ?_
                                  refine Ew_of (pc' := 277) (fun _ => x_goto rfl rfl) ?_
                                  refine Ew_of (pc' := 278) (fun _ => x_iconst rfl) ?_
                                  have r138 : (-2147483648 : Int) ≤ F_136 3 8 ∧ F_136 3 8 ≤ 2147483647 := by have : (-2147483648 : Int) ≤ F_c258 3 8 ∧ F_c258 3 8 ≤ 2147483647 := H.frng 3 8; have : F_c258 3 8 = F_136 3 8 := (((((((hS_c258 3 8 rfl).trans (hS_c239 3 8 rfl)).trans (hS98 3 8 rfl)).trans (hS92 3 8 rfl)).trans (hS_c198 3 8 rfl)).trans (hS85 3 8 rfl)).trans (hS_c180 3 8 rfl)); omega
                                  refine w_inv H (o := 3) rfl rfl rfl (H.perm 3 rfl) rfl rfl (by rfl) (M377 H (by show inrJ ((2147483648 + y258_10)); omega) (by show inr (4); omega) (by show 0 ≤ (4) ∧ (4) ≤ 8; omega) (by have : (-2147483648 : Int) ≤ F_c258 3 8 ∧ F_c258 3 8 ≤ 2147483647 := H.frng 3 8; have : F_c258 3 8 = F_136 3 8 := (((((((hS_c258 3 8 rfl).trans (hS_c239 3 8 rfl)).trans (hS98 3 8 rfl)).trans (hS92 3 8 rfl)).trans (hS_c198 3 8 rfl)).trans (hS85 3 8 rfl)).trans (hS_c180 3 8 rfl)); show 0 ≤ (F_c258 3 8) ∧ (F_c258 3 8) ≤ 10000000; omega) (fun σ F133 A134 H hS135 hA136 pz1370 => ⟨rfl, ?_⟩))
                                  have pz1370 : (F133 3 8) = (F_136 3 8) + (4) := by have : F_c258 3 8 = F_136 3 8 := (((((((hS_c258 3 8 rfl).trans (hS_c239 3 8 rfl)).trans (hS98 3 8 rfl)).trans (hS92 3 8 rfl)).trans (hS_c198 3 8 rfl)).trans (hS85 3 8 rfl)).trans (hS_c180 3 8 rfl)); have : (F133 3 8) = (F_c258 3 8) + (4) := pz1370; omega
                                  exact hc281 _ σ _ _  (k258_0) (k258_1) (k258_4) (k258_5) (k258_6) (k258_9) (k258_10) H (SF_trans (SF_refl) hS135 (any_sub rfl)) (SA_trans (SA_refl) hA136 (any_subA rfl)) (by have : (-2147483648 : Int) ≤ F133 3 8 ∧ F133 3 8 ≤ 2147483647 := H.frng 3 8; have : F133 3 8 = F133 3 8 := rfl; show (F133 3 8) = (F_136 3 8) + 4; omega)
                              refine Ew_of (pc' := 241) (fun _ => x_iload rfl k239_9) ?_
                              refine w_ifeq (t := 252) rfl rfl (show inr (y239_9) by omega) (fun b139 => ?_) (fun b139 => ?_)
                              · refine Ew_of (pc' := 253) (fun _ => x_aload_n rfl k239_0) ?_
                                refine w_gI H (o := 3) (w := F96 3 10) rfl (H.perm 3 rfl) rfl rfl rfl (fun _ => rfl) (hS_c239 3 10 rfl) ?_
                                have r140 : (-2147483648 : Int) ≤ F96 3 10 ∧ F96 3 10 ≤ 2147483647 := by have h1 : (-2147483648 : Int) ≤ F_c239 3 10 ∧ F_c239 3 10 ≤ 2147483647 := H.frng 3 10; have h2 : F_c239 3 10 = F96 3 10 := (hS_c239 3 10 rfl); omega
                                refine Ew_of (pc' := 258) (fun _ => x_istore rfl) ?_
                                exact hc258 _ σ _ _ (F96 3 10) (rk_o (k239_0) rfl rfl) (rk_o (k239_1) rfl rfl) (rk_o (k239_4) rfl rfl) (rk_o (k239_5) rfl rfl) (rk_o (k239_6) rfl rfl) (rk_o (k239_9) rfl rfl) (rk_s) H (SF_refl) (SA_refl) (by show inr (F96 3 10); omega) (by show 0 ≤ (F96 3 10) ∧ (F96 3 10) ≤ (y180_7) - (x136_6); omega)
                              · refine Ew_of (pc' := 246) (fun _ => x_iload rfl k239_7) ?_
                                refine Ew_of (pc' := 248) (fun _ => x_iload rfl k239_6) ?_
                                refine w_isub rfl ?_
                                refine Ew_of (pc' := 256) (fun _ => x_goto rfl rfl) ?_
                                refine Ew_of (pc' := 258) (fun _ => x_istore rfl) ?_
                                exact hc258 _ σ _ _ ((y180_7 - x136_6)) (rk_o (k239_0) rfl rfl) (rk_o (k239_1) rfl rfl) (rk_o (k239_4) rfl rfl) (rk_o (k239_5) rfl rfl) (rk_o (k239_6) rfl rfl) (rk_o (k239_9) rfl rfl) (rk_s) H (SF_refl) (SA_refl) (by show inr ((y180_7 - x136_6)); omega) (by show 0 ≤ ((y180_7 - x136_6)) ∧ ((y180_7 - x136_6)) ≤ (y180_7) - (x136_6); omega)
                            refine Ew_of (pc' := 221) (fun _ => x_aload_n rfl (rk_o (k198_0) rfl rfl)) ?_
                            refine w_gI H (o := 3) (w := F96 3 10) rfl (H.perm 3 rfl) rfl rfl rfl (fun _ => rfl) rfl ?_
                            have r141 : (-2147483648 : Int) ≤ F96 3 10 ∧ F96 3 10 ≤ 2147483647 := by have h1 : (-2147483648 : Int) ≤ F96 3 10 ∧ F96 3 10 ≤ 2147483647 := H.frng 3 10; have h2 : F96 3 10 = F96 3 10 := rfl; omega
                            refine Ew_of (pc' := 226) (fun _ => x_iload rfl (rk_o (k198_7) rfl rfl)) ?_
                            refine Ew_of (pc' := 228) (fun _ => x_iload rfl (rk_o (k198_6) rfl rfl)) ?_
                            refine w_isub rfl ?_
                            refine w_icmplt (t := 236) rfl rfl (show inr (F96 3 10) by omega) (show inr ((y180_7 - x136_6)) by omega) (fun b142 => ?_) (fun b142 => ?_)
                            · refine Ew_of (pc' := 237) (fun _ => x_iconst rfl) ?_
                              refine Ew_of (pc' := 239) (fun _ => x_istore rfl) ?_
                              exact hc239 _ σ _ _ (0) (rk_o (rk_o (k198_0) rfl rfl) rfl rfl) (rk_o (rk_o (k198_1) rfl rfl) rfl rfl) (rk_o (rk_o (k198_4) rfl rfl) rfl rfl) (rk_o (rk_o (k198_5) rfl rfl) rfl rfl) (rk_o (rk_o (k198_6) rfl rfl) rfl rfl) (rk_o (rk_o (k198_7) rfl rfl) rfl rfl) (rk_s) H (SF_refl) (SA_refl) (by show inr (0); omega) (by show (0) = 0 ∨ (0) = 1; omega) (by show (0) = 0 → (F96 3 10) < (y180_7) - (x136_6); omega)
                            · refine Ew_of (pc' := 233) (fun _ => x_iconst rfl) ?_
                              refine Ew_of (pc' := 237) (fun _ => x_goto rfl rfl) ?_
                              refine Ew_of (pc' := 239) (fun _ => x_istore rfl) ?_
                              exact hc239 _ σ _ _ (1) (rk_o (rk_o (k198_0) rfl rfl) rfl rfl) (rk_o (rk_o (k198_1) rfl rfl) rfl rfl) (rk_o (rk_o (k198_4) rfl rfl) rfl rfl) (rk_o (rk_o (k198_5) rfl rfl) rfl rfl) (rk_o (rk_o (k198_6) rfl rfl) rfl rfl) (rk_o (rk_o (k198_7) rfl rfl) rfl rfl) (rk_s) H (SF_refl) (SA_refl) (by show inr (1); omega) (by show (1) = 0 ∨ (1) = 1; omega) (by show (1) = 0 → (F96 3 10) < (y180_7) - (x136_6); omega)
                          refine Ew_of (pc' := 185) (fun _ => x_iload_n rfl k180_1) ?_
                          refine Ew_of (pc' := 187) (fun _ => x_bipush (z := 32) rfl (by decide)) ?_
                          refine w_iand rfl (show inr (a1) by omega) (show inr (32) by omega) (fun z143 gz143 gaz143 gbz143 => ?_)
                          refine w_ifne (t := 198) rfl rfl (show inr (z143) by omega) (fun b144 => ?_) (fun b144 => ?_)
                          · exact hc198 _ σ _ _  (k180_0) (k180_1) (k180_4) (k180_5) (k180_6) (k180_7) H (SF_refl) (SA_refl) (by have : (-2147483648 : Int) ≤ F83 3 5 ∧ F83 3 5 ≤ 2147483647 := H.frng 3 5; have : F83 3 5 = F83 3 5 := rfl; show 0 ≤ (F83 3 5) ∧ (F83 3 5) ≤ (F 3 2) + (x136_6); omega)
                          · refine Ew_of (pc' := 192) (fun _ => x_aload_n rfl k180_0) ?_
                            refine Ew_of (pc' := 193) (fun _ => x_iconst rfl) ?_
                            refine Ew_of (pc' := 195) (fun _ => x_iload rfl k180_6) ?_
                            have r150 : (-2147483648 : Int) ≤ F83 3 5 ∧ F83 3 5 ≤ 2147483647 := by have : (-2147483648 : Int) ≤ F83 3 5 ∧ F83 3 5 ≤ 2147483647 := H.frng 3 5; have : F83 3 5 = F83 3 5 := rfl; omega
                            refine w_inv H (o := 3) rfl rfl rfl (H.perm 3 rfl) rfl rfl (by rfl) (M368 H (by show inr (0); omega) (by show inr (x136_6); omega) (by have : (-2147483648 : Int) ≤ F83 3 5 ∧ F83 3 5 ≤ 2147483647 := H.frng 3 5; have : F83 3 5 = F83 3 5 := rfl; show 0 ≤ (F83 3 5) ∧ (F83 3 5) ≤ 16384; omega) (by have : (-2147483648 : Int) ≤ F83 3 5 ∧ F83 3 5 ≤ 2147483647 := H.frng 3 5; have : F83 3 5 = F83 3 5 := rfl; show 0 ≤ (0) ∧ (0) ≤ (x136_6) ∧ (x136_6) ≤ 65536 ∧ (F83 3 5) + ((x136_6) - (0)) ≤ 16384; omega) (fun σ F145 A146 H hS147 hA148 pz1490 => ⟨rfl, ?_⟩))
                            have pz1490 : (F145 3 5) = (F83 3 5) + ((x136_6) - (0)) := by have : F83 3 5 = F83 3 5 := rfl; have : (F145 3 5) = (F83 3 5) + ((x136_6) - (0)) := pz1490; omega
                            exact hc198 _ σ _ _  (k180_0) (k180_1) (k180_4) (k180_5) (k180_6) (k180_7) H (SF_trans (SF_refl) hS147 (any_sub rfl)) (SA_trans (SA_refl) hA148 (any_subA rfl)) (by have : (-2147483648 : Int) ≤ F145 3 5 ∧ F145 3 5 ≤ 2147483647 := H.frng 3 5; have : F145 3 5 = F145 3 5 := rfl; show 0 ≤ (F145 3 5) ∧ (F145 3 5) ≤ (F 3 2) + (x136_6); omega)
                        refine Ew_of (pc' := 150) (fun _ => x_iload rfl l136_6) ?_
                        refine Ew_of (pc' := 152) (fun _ => x_iload rfl l136_4) ?_
                        refine w_iadd rfl ?_
                        refine Ew_of (pc' := 154) (fun _ => x_aload_n rfl l136_0) ?_
                        refine w_gT H (o := 3) (t := 1) rfl (H.perm 3 rfl) rfl rfl rfl rfl rfl rfl ?_
                        refine w_gI H (o := 1) (w := F 1 1) rfl (H.perm 1 rfl) rfl rfl rfl (fun _ => rfl) (((((((((hS_136 1 1 rfl).trans (hS41 1 1 rfl)).trans (hS34 1 1 rfl)).trans (hS_c108 1 1 rfl)).trans (hS_c91 1 1 rfl)).trans (hS27 1 1 rfl)).trans (hS21 1 1 rfl)).trans (hS15 1 1 rfl)).trans (hS3 1 1 rfl)) ?_
                        have r151 : (0 : Int) ≤ F 1 1 ∧ F 1 1 ≤ 65536 := by have h1 : (0 : Int) ≤ F_136 1 1 ∧ F_136 1 1 ≤ 65536 := H.frng 1 1; have h2 : F_136 1 1 = F 1 1 := (((((((((hS_136 1 1 rfl).trans (hS41 1 1 rfl)).trans (hS34 1 1 rfl)).trans (hS_c108 1 1 rfl)).trans (hS_c91 1 1 rfl)).trans (hS27 1 1 rfl)).trans (hS21 1 1 rfl)).trans (hS15 1 1 rfl)).trans (hS3 1 1 rfl)); omega
                        refine w_icmpge (t := 171) rfl rfl (show inr ((x136_6 + a4)) by omega) (show inr (F 1 1) by omega) (fun b152 => ?_) (fun b152 => ?_)
                        · refine Ew_of (pc' := 172) (fun _ => x_aload_n rfl l136_0) ?_
                          refine w_gT H (o := 3) (t := 1) rfl (H.perm 3 rfl) rfl rfl rfl rfl rfl rfl ?_
                          refine w_gI H (o := 1) (w := F 1 1) rfl (H.perm 1 rfl) rfl rfl rfl (fun _ => rfl) (((((((((hS_136 1 1 rfl).trans (hS41 1 1 rfl)).trans (hS34 1 1 rfl)).trans (hS_c108 1 1 rfl)).trans (hS_c91 1 1 rfl)).trans (hS27 1 1 rfl)).trans (hS21 1 1 rfl)).trans (hS15 1 1 rfl)).trans (hS3 1 1 rfl)) ?_
                          have r153 : (0 : Int) ≤ F 1 1 ∧ F 1 1 ≤ 65536 := by have h1 : (0 : Int) ≤ F_136 1 1 ∧ F_136 1 1 ≤ 65536 := H.frng 1 1; have h2 : F_136 1 1 = F 1 1 := (((((((((hS_136 1 1 rfl).trans (hS41 1 1 rfl)).trans (hS34 1 1 rfl)).trans (hS_c108 1 1 rfl)).trans (hS_c91 1 1 rfl)).trans (hS27 1 1 rfl)).trans (hS21 1 1 rfl)).trans (hS15 1 1 rfl)).trans (hS3 1 1 rfl)); omega
                          refine Ew_of (pc' := 180) (fun _ => x_istore rfl) ?_
                          exact hc180 _ σ _ _ (F 1 1) (rk_o (l136_0) rfl rfl) (rk_o (l136_1) rfl rfl) (rk_o (l136_4) rfl rfl) (rk_o (l136_5) rfl rfl) (rk_o (l136_6) rfl rfl) (rk_s) H (SF_refl) (SA_refl) (by show inr (F 1 1); omega) (by show (x136_6) ≤ (F 1 1) ∧ (F 1 1) ≤ (F 1 1); omega) (by show (F 1 1) = (x136_6) + (a4) ∨ (F 1 1) = (F 1 1); omega) (by show (F 1 1) ≤ (x136_6) + (a4); omega)
                        · refine Ew_of (pc' := 165) (fun _ => x_iload rfl l136_6) ?_
                          refine Ew_of (pc' := 167) (fun _ => x_iload rfl l136_4) ?_
                          refine w_iadd rfl ?_
                          refine Ew_of (pc' := 178) (fun _ => x_goto rfl rfl) ?_
                          refine Ew_of (pc' := 180) (fun _ => x_istore rfl) ?_
                          exact hc180 _ σ _ _ ((x136_6 + a4)) (rk_o (l136_0) rfl rfl) (rk_o (l136_1) rfl rfl) (rk_o (l136_4) rfl rfl) (rk_o (l136_5) rfl rfl) (rk_o (l136_6) rfl rfl) (rk_s) H (SF_refl) (SA_refl) (by show inr ((x136_6 + a4)); omega) (by show (x136_6) ≤ ((x136_6 + a4)) ∧ ((x136_6 + a4)) ≤ (F 1 1); omega) (by show ((x136_6 + a4)) = (x136_6) + (a4) ∨ ((x136_6 + a4)) = (F 1 1); omega) (by show ((x136_6 + a4)) ≤ (x136_6) + (a4); omega)
                  refine Ew_of (pc' := 92) (fun _ => x_iload_n rfl k91_1) ?_
                  refine Ew_of (pc' := 93) (fun _ => x_iconst rfl) ?_
                  refine w_iand rfl (show inr (a1) by omega) (show inr (1) by omega) (fun z154 gz154 gaz154 gbz154 => ?_)
                  refine w_ifeq (t := 108) rfl rfl (show inr (z154) by omega) (fun b155 => ?_) (fun b155 => ?_)
                  · exact hc108 _ σ _ _  (k91_0) (k91_1) (k91_4) (k91_5) H (SF_refl) (SA_refl) (by have : (-2147483648 : Int) ≤ F_c91 3 8 ∧ F_c91 3 8 ≤ 2147483647 := H.frng 3 8; have : F_c91 3 8 = F_c91 3 8 := rfl; show 6 ≤ (F_c91 3 8) ∧ (F_c91 3 8) ≤ 18; omega)
                  · refine Ew_of (pc' := 98) (fun _ => x_aload_n rfl k91_0) ?_
                    refine Ew_of (pc' := 99) (fun _ => x_iload_n rfl k91_3) ?_
                    refine w_i2l rfl (show inr (a3) by omega) ?_
                    refine Ew_of (pc' := 103) (fun _ => x_ldc2 (z := 4294967295) rfl (by decide)) ?_
                    refine w_land rfl (show inrJ (a3) by omega) (show inrJ (4294967295) by omega) (fun z156 gz156 gaz156 gbz156 => ?_)
                    refine Ew_of (pc' := 105) (fun _ => x_iconst rfl) ?_
                    have r162 : (-2147483648 : Int) ≤ F_c91 3 8 ∧ F_c91 3 8 ≤ 2147483647 := by have : (-2147483648 : Int) ≤ F_c91 3 8 ∧ F_c91 3 8 ≤ 2147483647 := H.frng 3 8; have : F_c91 3 8 = F_c91 3 8 := rfl; omega
                    refine w_inv H (o := 3) rfl rfl rfl (H.perm 3 rfl) rfl rfl (by rfl) (M377 H (by show inrJ (z156); omega) (by show inr (4); omega) (by show 0 ≤ (4) ∧ (4) ≤ 8; omega) (by have : (-2147483648 : Int) ≤ F_c91 3 8 ∧ F_c91 3 8 ≤ 2147483647 := H.frng 3 8; have : F_c91 3 8 = F_c91 3 8 := rfl; show 0 ≤ (F_c91 3 8) ∧ (F_c91 3 8) ≤ 10000000; omega) (fun σ F157 A158 H hS159 hA160 pz1610 => ⟨rfl, ?_⟩))
                    have pz1610 : (F157 3 8) = (F_c91 3 8) + (4) := by have : F_c91 3 8 = F_c91 3 8 := rfl; have : (F157 3 8) = (F_c91 3 8) + (4) := pz1610; omega
                    exact hc108 _ σ _ _  (k91_0) (k91_1) (k91_4) (k91_5) H (SF_trans (SF_refl) hS159 (any_sub rfl)) (SA_trans (SA_refl) hA160 (any_subA rfl)) (by have : (-2147483648 : Int) ≤ F157 3 8 ∧ F157 3 8 ≤ 2147483647 := H.frng 3 8; have : F157 3 8 = F157 3 8 := rfl; show 6 ≤ (F157 3 8) ∧ (F157 3 8) ≤ 18; omega)
                refine Ew_of (pc' := 71) (fun _ => x_iload_n rfl rfl) ?_
                refine Ew_of (pc' := 73) (fun _ => x_bipush (z := 8) rfl (by decide)) ?_
                refine w_iand rfl (show inr (a1) by omega) (show inr (8) by omega) (fun z163 gz163 gaz163 gbz163 => ?_)
                refine w_ifeq (t := 91) rfl rfl (show inr (z163) by omega) (fun b164 => ?_) (fun b164 => ?_)
                · exact hc91 _ σ _ _  (rfl) (rfl) (rfl) (rfl) (rfl) H (SF_refl) (SA_refl) (by have : (-2147483648 : Int) ≤ F25 3 8 ∧ F25 3 8 ≤ 2147483647 := H.frng 3 8; have : F25 3 8 = F25 3 8 := rfl; show 6 ≤ (F25 3 8) ∧ (F25 3 8) ≤ 14; omega)
                · refine Ew_of (pc' := 78) (fun _ => x_aload_n rfl rfl) ?_
                  refine Ew_of (pc' := 79) (fun _ => x_aload_n rfl rfl) ?_
                  refine w_gT H (o := 3) (t := 1) rfl (H.perm 3 rfl) rfl rfl rfl rfl rfl rfl ?_
                  refine w_gI H (o := 1) (w := F 1 1) rfl (H.perm 1 rfl) rfl rfl rfl (fun _ => rfl) ((((hS27 1 1 rfl).trans (hS21 1 1 rfl)).trans (hS15 1 1 rfl)).trans (hS3 1 1 rfl)) ?_
                  have r165 : (0 : Int) ≤ F 1 1 ∧ F 1 1 ≤ 65536 := by have h1 : (0 : Int) ≤ F25 1 1 ∧ F25 1 1 ≤ 65536 := H.frng 1 1; have h2 : F25 1 1 = F 1 1 := ((((hS27 1 1 rfl).trans (hS21 1 1 rfl)).trans (hS15 1 1 rfl)).trans (hS3 1 1 rfl)); omega
                  refine w_i2l rfl (show inr (F 1 1) by omega) ?_
                  refine Ew_of (pc' := 88) (fun _ => x_bipush (z := 8) rfl (by decide)) ?_
                  have r171 : (-2147483648 : Int) ≤ F25 3 8 ∧ F25 3 8 ≤ 2147483647 := by have : (-2147483648 : Int) ≤ F25 3 8 ∧ F25 3 8 ≤ 2147483647 := H.frng 3 8; have : F25 3 8 = F25 3 8 := rfl; omega
                  refine w_inv H (o := 3) rfl rfl rfl (H.perm 3 rfl) rfl rfl (by rfl) (M377 H (by show inrJ (F 1 1); omega) (by show inr (8); omega) (by show 0 ≤ (8) ∧ (8) ≤ 8; omega) (by have : (-2147483648 : Int) ≤ F25 3 8 ∧ F25 3 8 ≤ 2147483647 := H.frng 3 8; have : F25 3 8 = F25 3 8 := rfl; show 0 ≤ (F25 3 8) ∧ (F25 3 8) ≤ 10000000; omega) (fun σ F166 A167 H hS168 hA169 pz1700 => ⟨rfl, ?_⟩))
                  have pz1700 : (F166 3 8) = (F25 3 8) + (8) := by have : F25 3 8 = F25 3 8 := rfl; have : (F166 3 8) = (F25 3 8) + (8) := pz1700; omega
                  exact hc91 _ σ _ _  (rfl) (rfl) (rfl) (rfl) (rfl) H (SF_trans (SF_refl) hS168 (any_sub rfl)) (SA_trans (SA_refl) hA169 (any_subA rfl)) (by have : (-2147483648 : Int) ≤ F166 3 8 ∧ F166 3 8 ≤ 2147483647 := H.frng 3 8; have : F166 3 8 = F166 3 8 := rfl; show 6 ≤ (F166 3 8) ∧ (F166 3 8) ≤ 14; omega)
              · refine Ew_of (pc' := 43) (fun _ => x_iconst rfl) ?_
                exact w_ireturn rfl (k ((-1)) σ _ _ H (SF_trans (SF_refl) hS3 (any_sub rfl)) (SA_trans (SA_refl) hA4 (any_subA rfl)) (by show inr ((-1)); omega))
