/-- Reader.readLiterals -/
theorem M291 {σ0 σ : rS} {D N : Nat → Nat} {F : hF} {A : hA} {d c s : Nat} {Q : wQ} (H : HS σ0 σ D N F A) {a1 : Int} (u1_1 : Int) (eu1_1 : F 1 1 = u1_1) (u5_25 : Int) (eu5_25 : F 5 25 = u5_25) (u5_39 : Int) (eu5_39 : F 5 39 = u5_39) (h0 : inr (a1)) (h1 : 0 ≤ (u5_25) ∧ (u5_25) ≤ (a1) ∧ (a1) ≤ (u1_1)) (h2 : (u5_39) = 0) (k : ∀ (z : Int) σ F' A', HS σ0 σ D N F' A' → SF [(5, 10), (5, 19), (5, 25), (5, 30), (5, 31), (5, 39), (5, 44), (5, 45)] F F' → SA [31, 32, 39, 40, 41, 42, 43, 44, 46] A A' → ∀ y5_25 : Int, F' 5 25 = y5_25 → ∀ y5_39 : Int, F' 5 39 = y5_39 → ((z) = 0 ∨ (z) = 1) → ((z) = 1 → (u5_25) ≤ (y5_25) ∧ (y5_25) ≤ (a1)) → (0 ≤ (y5_39) ∧ (y5_39) ≤ 131072) → Q (some (I z)) σ c s) : Ew 291 (d + 4) 0 (rargs 0 [.ref (D 5), I a1]) [] σ c s Q := by
  have r1 : (0 : Int) ≤ u1_1 ∧ u1_1 ≤ 65536 := by have h1 : (0 : Int) ≤ F 1 1 ∧ F 1 1 ≤ 65536 := H.frng 1 1; rw [show F 1 1 = u1_1 from (eu1_1)] at h1; exact h1
  have r2 : (0 : Int) ≤ u5_25 ∧ u5_25 ≤ 65536 := by have h1 : (0 : Int) ≤ F 5 25 ∧ F 5 25 ≤ 65536 := H.frng 5 25; rw [show F 5 25 = u5_25 from (eu5_25)] at h1; exact h1
  have r3 : (0 : Int) ≤ u5_39 ∧ u5_39 ≤ 131072 := by have h1 : (0 : Int) ≤ F 5 39 ∧ F 5 39 ≤ 131072 := H.frng 5 39; rw [show F 5 39 = u5_39 from (eu5_39)] at h1; exact h1
  refine Ew_of (pc' := 1) (fun _ => x_aload_n rfl rfl) ?_
  refine w_gI H (o := 5) (w := u5_25) rfl (H.perm 5 rfl) rfl rfl rfl (fun _ => rfl) (eu5_25) ?_
  refine Ew_of (pc' := 5) (fun _ => x_istore_n rfl) ?_
  refine Ew_of (pc' := 6) (fun _ => x_aload_n rfl (rk_o (rfl) rfl rfl)) ?_
  refine w_gI H (o := 5) (w := u5_25) rfl (H.perm 5 rfl) rfl rfl rfl (fun _ => rfl) (eu5_25) ?_
  refine Ew_of (pc' := 10) (fun _ => x_iload_n rfl (rk_o (rfl) rfl rfl)) ?_
  refine w_icmplt (t := 21) rfl rfl (show inr (u5_25) by omega) (show inr (a1) by omega) (fun b4 => ?_) (fun b4 => ?_)
  · refine Ew_of (pc' := 22) (fun _ => x_aload_n rfl (rk_o (rfl) rfl rfl)) ?_
    refine w_gT H (o := 5) (t := 1) rfl (H.perm 5 rfl) rfl rfl rfl rfl rfl rfl ?_
    refine w_gT H (o := 1) (t := 14) rfl (H.perm 1 rfl) rfl rfl rfl rfl rfl rfl ?_
    refine Ew_of (pc' := 29) (fun _ => x_aload_n rfl (rk_o (rfl) rfl rfl)) ?_
    refine w_gI H (o := 5) (w := u5_25) rfl (H.perm 5 rfl) rfl rfl rfl (fun _ => rfl) (eu5_25) ?_
    refine w_lI H (o := 14) (n := 65536) rfl (H.perm 14 rfl) rfl rfl (H.fix 14 rfl rfl) (show 0 ≤ u5_25 ∧ u5_25 < ((65536 : Nat) : Int) by omega) (by decide) (fun v5 ev5 qv5 => ?_)
    have qv5 : (0 : Int) ≤ v5 ∧ v5 ≤ 255 := qv5
    have ev5 : (A 14) (u5_25) = v5 := (congrFun (rfl : A 14 = A 14) (u5_25)).symm.trans ev5
    refine Ew_of (pc' := 34) (fun _ => x_iconst rfl) ?_
    refine w_irem rfl (show inr (v5) ∧ 0 ≤ v5 by omega) (show inr (4) ∧ 0 < 4 by omega) ?_
    refine Ew_of (pc' := 36) (fun _ => x_istore_n rfl) ?_
    refine Ew_of (pc' := 37) (fun _ => x_aload_n rfl (rk_o (rk_o (rfl) rfl rfl) rfl rfl)) ?_
    refine w_gT H (o := 5) (t := 1) rfl (H.perm 5 rfl) rfl rfl rfl rfl rfl rfl ?_
    refine w_gT H (o := 1) (t := 14) rfl (H.perm 1 rfl) rfl rfl rfl rfl rfl rfl ?_
    refine Ew_of (pc' := 44) (fun _ => x_aload_n rfl (rk_o (rk_o (rfl) rfl rfl) rfl rfl)) ?_
    refine w_gI H (o := 5) (w := u5_25) rfl (H.perm 5 rfl) rfl rfl rfl (fun _ => rfl) (eu5_25) ?_
    refine w_lI H (o := 14) (n := 65536) rfl (H.perm 14 rfl) rfl rfl (H.fix 14 rfl rfl) (show 0 ≤ u5_25 ∧ u5_25 < ((65536 : Nat) : Int) by omega) (by decide) (fun v6 ev6 qv6 => ?_)
    have qv6 : (0 : Int) ≤ v6 ∧ v6 ≤ 255 := qv6
    have ev6 : (A 14) (u5_25) = v6 := (congrFun (rfl : A 14 = A 14) (u5_25)).symm.trans ev6
    refine Ew_of (pc' := 49) (fun _ => x_iconst rfl) ?_
    refine w_idiv rfl (show inr (v6) ∧ 0 ≤ v6 by omega) (show inr (4) ∧ 0 < 4 by omega) ?_
    refine Ew_of (pc' := 51) (fun _ => x_iconst rfl) ?_
    refine w_irem rfl (show inr ((v6 / 4)) ∧ 0 ≤ (v6 / 4) by omega) (show inr (4) ∧ 0 < 4 by omega) ?_
    refine Ew_of (pc' := 54) (fun _ => x_istore rfl) ?_
    refine Ew_of (pc' := 55) (fun _ => x_iload_n rfl (rk_o (rk_s) rfl rfl)) ?_
    refine Ew_of (pc' := 56) (fun _ => x_iconst rfl) ?_
    refine w_icmpge (t := 256) rfl rfl (show inr ((v5 % 4)) by omega) (show inr (2) by omega) (fun b7 => ?_) (fun b7 => ?_)
    · refine Ew_of (pc' := 258) (fun _ => x_iload rfl rk_s) ?_
      refine Ew_of (pc' := 259) (fun _ => x_iconst rfl) ?_
      have hc270 : ∀ (tc270_0 : Int), ∀ (ls : rO) (σ : rS) (F_c270 : hF) (A_c270 : hA) , rlook ls 0 = some (.ref (D 5)) → rlook ls 1 = some (I (a1)) → rlook ls 2 = some (I (u5_25)) → rlook ls 3 = some (I ((v5 % 4))) → rlook ls 4 = some (I (((v6 / 4) % 4))) → HS σ0 σ D N F_c270 A_c270 → SF [] F F_c270 → SA [] A A_c270 → (inr (tc270_0)) → (((((v6 / 4) % 4)) ≥ (2) ∧ (tc270_0) = ((((v6 / 4) % 4) + 2))) ∨ ((((v6 / 4) % 4)) < (2) ∧ (tc270_0) = (3))) → Ew 291 (d + 4) 270 ls [I (tc270_0)] σ c s Q := by
       as_aux_lemma =>
        intro tc270_0 ls σ F_c270 A_c270  lc270_0 lc270_1 lc270_2 lc270_3 lc270_4 H hS_c270 hA_c270   jc270_0 jc270_1
        refine Ew_of (pc' := 272) (fun _ => x_istore rfl) ?_
        refine Ew_of (pc' := 274) (fun _ => x_iload rfl (rk_o (lc270_4) rfl rfl)) ?_
        refine Ew_of (pc' := 275) (fun _ => x_iconst rfl) ?_
        have hc296 : ∀ (tc296_0 : Int), ∀ (ls : rO) (σ : rS) (F_c296 : hF) (A_c296 : hA) , rlook ls 0 = some (.ref (D 5)) → rlook ls 1 = some (I (a1)) → rlook ls 2 = some (I (u5_25)) → rlook ls 3 = some (I ((v5 % 4))) → rlook ls 4 = some (I (((v6 / 4) % 4))) → rlook ls 5 = some (I (tc270_0)) → HS σ0 σ D N F_c296 A_c296 → SF [] F_c270 F_c296 → SA [] A_c270 A_c296 → (inr (tc296_0)) → (((((v6 / 4) % 4)) ≥ (2) ∧ (((v6 / 4) % 4)) ≠ (2) ∧ (tc296_0) = (18)) ∨ ((((v6 / 4) % 4)) ≥ (2) ∧ (((v6 / 4) % 4)) = (2) ∧ (tc296_0) = (14)) ∨ ((((v6 / 4) % 4)) < (2) ∧ (tc296_0) = (10))) → Ew 291 (d + 4) 296 ls [I (tc296_0)] σ c s Q := by
         as_aux_lemma =>
          intro tc296_0 ls σ F_c296 A_c296  lc296_0 lc296_1 lc296_2 lc296_3 lc296_4 lc296_5 H hS_c296 hA_c296   jc296_0 jc296_1
          refine Ew_of (pc' := 298) (fun _ => x_istore rfl) ?_
          refine Ew_of (pc' := 299) (fun _ => x_iload_n rfl (rk_o (lc296_1) rfl rfl)) ?_
          refine Ew_of (pc' := 300) (fun _ => x_aload_n rfl (rk_o (lc296_0) rfl rfl)) ?_
          refine w_gI H (o := 5) (w := u5_25) rfl (H.perm 5 rfl) rfl rfl rfl (fun _ => rfl) (((hS_c296 5 25 rfl).trans (hS_c270 5 25 rfl)).trans (eu5_25)) ?_
          refine w_isub rfl ?_
          refine Ew_of (pc' := 306) (fun _ => x_iload rfl (rk_o (lc296_5) rfl rfl)) ?_
          refine w_icmpge (t := 317) rfl rfl (show inr ((a1 - u5_25)) by omega) (show inr (tc270_0) by omega) (fun b8 => ?_) (fun b8 => ?_)
          · refine Ew_of (pc' := 318) (fun _ => x_aload_n rfl (rk_o (lc296_0) rfl rfl)) ?_
            refine Ew_of (pc' := 319) (fun _ => x_aload_n rfl (rk_o (lc296_0) rfl rfl)) ?_
            refine w_gI H (o := 5) (w := u5_25) rfl (H.perm 5 rfl) rfl rfl rfl (fun _ => rfl) (((hS_c296 5 25 rfl).trans (hS_c270 5 25 rfl)).trans (eu5_25)) ?_
            refine Ew_of (pc' := 324) (fun _ => x_iload rfl (rk_o (lc296_5) rfl rfl)) ?_
            refine w_inv H (o := 5) rfl rfl rfl (H.perm 5 rfl) rfl rfl (by rfl) (M257 H (A 14) ((funext (hA_c296 14 rfl)).trans (funext (hA_c270 14 rfl))) (show inr (u5_25) by omega) (show inr (tc270_0) by omega) (show 0 ≤ (u5_25) ∧ 0 ≤ (tc270_0) ∧ (tc270_0) ≤ 8 ∧ (u5_25) + (tc270_0) ≤ 65536 by omega) (fun z13 σ F9 A10 H hS11 hA12 pz13_0 pz13_1 pz13_2 pz13_3 pz13_4 pz13_5 pz13_6 pz13_7 pz13_8 => ⟨rfl, ?_⟩))
            refine Ew_of (pc' := 328) (fun _ => x_iconst rfl) ?_
            refine w_lshrK 4 16 (by decide) (by decide) rfl (show inrJ (z13) by omega) (fun z14 gz14 dz14 => ?_)
            refine Ew_of (pc' := 331) (fun _ => x_lstore rfl) ?_
            have : p2 ((tc296_0)) ≤ p2 18 := p2_mono (by omega)
            have : p2 18 = 262144 := by decide
            have := p2_pos ((tc296_0))
            refine Ew_of (pc' := 333) (fun _ => x_lload rfl rk2_s) ?_
            refine Ew_of (pc' := 334) (fun _ => x_lconst (z := 1) rfl (by decide)) ?_
            refine Ew_of (pc' := 336) (fun _ => x_iload rfl (rk2_o (rk_s) rfl rfl)) ?_
            refine w_lshl1 rfl (show 0 ≤ tc296_0 ∧ tc296_0 ≤ 63 by omega) ?_
            refine Ew_of (pc' := 338) (fun _ => x_lconst (z := 1) rfl (by decide)) ?_
            refine w_lsub rfl ?_
            refine w_land rfl (show inrJ (z14) by omega) (show inrJ ((p2 (tc296_0) - 1)) by omega) (fun z16 gz16 gaz16 gbz16 => ?_)
            refine w_l2i rfl ?_
            refine Ew_of (pc' := 343) (fun _ => x_istore rfl) ?_
            refine Ew_of (pc' := 345) (fun _ => x_lload rfl (rk_o (rk2_s) rfl rfl)) ?_
            refine Ew_of (pc' := 347) (fun _ => x_iload rfl (rk_o (rk2_o (rk_s) rfl rfl) rfl rfl)) ?_
            refine w_lshrA rfl (fun z17 gz17 => ?_)
            refine Ew_of (pc' := 349) (fun _ => x_lconst (z := 1) rfl (by decide)) ?_
            refine Ew_of (pc' := 351) (fun _ => x_iload rfl (rk_o (rk2_o (rk_s) rfl rfl) rfl rfl)) ?_
            refine w_lshl1 rfl (show 0 ≤ tc296_0 ∧ tc296_0 ≤ 63 by omega) ?_
            refine Ew_of (pc' := 353) (fun _ => x_lconst (z := 1) rfl (by decide)) ?_
            refine w_lsub rfl ?_
            refine w_land rfl (show inrJ (z17) by omega) (show inrJ ((p2 (tc296_0) - 1)) by omega) (fun z19 gz19 gaz19 gbz19 => ?_)
            refine w_l2i rfl ?_
            refine Ew_of (pc' := 358) (fun _ => x_istore rfl) ?_
            refine Ew_of (pc' := 359) (fun _ => x_aload_n rfl (rk_o (rk_o (rk2_o (rk_o (lc296_0) rfl rfl) rfl rfl) rfl rfl) rfl rfl)) ?_
            refine Ew_of (pc' := 360) (fun _ => x_dup rfl rfl) ?_
            refine w_gI H (o := 5) (w := u5_25) rfl (H.perm 5 rfl) rfl rfl rfl (fun _ => rfl) ((((hS11 5 25 rfl).trans (hS_c296 5 25 rfl)).trans (hS_c270 5 25 rfl)).trans (eu5_25)) ?_
            refine Ew_of (pc' := 365) (fun _ => x_iload rfl (rk_o (rk_o (rk2_o (rk_o (lc296_5) rfl rfl) rfl rfl) rfl rfl) rfl rfl)) ?_
            refine w_iadd rfl ?_
            refine w_pI H (o := 5) rfl rfl (H.perm 5 rfl) rfl rfl rfl (fun _ => rfl) rfl (show (0 : Int) ≤ (u5_25 + tc270_0) ∧ (u5_25 + tc270_0) ≤ 65536 by omega) (fun σ H => ?_)
            refine Ew_of (pc' := 371) (fun _ => x_iload rfl (rk_o (rk_s) rfl rfl)) ?_
            refine Ew_of (pc' := 372) (fun _ => x_iconst rfl) ?_
            refine w_iadd rfl ?_
            refine Ew_of (pc' := 374) (fun _ => x_iconst rfl) ?_
            refine w_idiv rfl (show inr ((z16 + 3)) ∧ 0 ≤ (z16 + 3) by omega) (show inr (4) ∧ 0 < 4 by omega) ?_
            refine Ew_of (pc' := 377) (fun _ => x_istore rfl) ?_
            refine Ew_of (pc' := 379) (fun _ => x_iload rfl (rk_o (rk_o (rk_s) rfl rfl) rfl rfl)) ?_
            refine Ew_of (pc' := 380) (fun _ => x_aload_n rfl (rk_o (rk_o (rk_o (rk2_o (rk_o (lc296_0) rfl rfl) rfl rfl) rfl rfl) rfl rfl) rfl rfl)) ?_
            have r20 : (0 : Int) ≤ F 5 29 ∧ F 5 29 ≤ 131072 := by have h1 : (0 : Int) ≤ (updF F9 5 25 ((u5_25 + tc270_0))) 5 29 ∧ (updF F9 5 25 ((u5_25 + tc270_0))) 5 29 ≤ 131072 := H.frng 5 29; rw [show (updF F9 5 25 ((u5_25 + tc270_0))) 5 29 = F 5 29 from (((hS11 5 29 rfl).trans (hS_c296 5 29 rfl)).trans (hS_c270 5 29 rfl))] at h1; exact h1
            refine w_gI H (o := 5) (w := F 5 29) rfl (H.perm 5 rfl) rfl rfl rfl (fun _ => rfl) (((hS11 5 29 rfl).trans (hS_c296 5 29 rfl)).trans (hS_c270 5 29 rfl)) ?_
            refine w_icmpgt (t := 400) rfl rfl (show inr (z16) by omega) (show inr (F 5 29) by omega) (fun b21 => ?_) (fun b21 => ?_)
            · refine Ew_of (pc' := 401) (fun _ => x_aload_n rfl (rk_o (rk_o (rk_o (rk2_o (rk_o (lc296_0) rfl rfl) rfl rfl) rfl rfl) rfl rfl) rfl rfl)) ?_
              refine Ew_of (pc' := 403) (fun _ => x_bipush (z := 11) rfl (by decide)) ?_
              refine Ew_of (pc' := 404) (fun _ => x_iload_n rfl (rk_o (rk_o (rk_o (rk2_o (rk_o (lc296_2) rfl rfl) rfl rfl) rfl rfl) rfl rfl) rfl rfl)) ?_
              refine w_inv H (o := 5) rfl rfl rfl (H.perm 5 rfl) rfl rfl (by rfl) (M282 H (show inr (11) by omega) (show inr (u5_25) by omega) (show 0 ≤ (11) ∧ (11) ≤ 20 by omega) (show 0 ≤ (u5_25) ∧ (u5_25) ≤ 65536 by omega) (fun z26 σ F22 A23 H hS24 hA25 pz26_0 pz26_1 => ⟨rretB rfl pz26_0, ?_⟩))
              exact w_ireturn rfl (k (z26) σ _ _ H (SF_trans (SF_upd (SF_trans (SF_trans (SF_trans (SF_refl) hS_c270 (any_sub rfl)) hS_c296 (any_sub rfl)) hS11 (any_sub rfl)) rfl) hS24 (any_sub rfl)) (SA_trans (SA_trans (SA_trans (SA_trans (SA_refl) hA_c270 (any_subA rfl)) hA_c296 (any_subA rfl)) hA12 (any_subA rfl)) hA25 (any_subA rfl)) ((u5_25 + tc270_0)) ((hS24 5 25 rfl)) (u5_39) ((((((hS24 5 39 rfl).trans (hS11 5 39 rfl)).trans (hS_c296 5 39 rfl)).trans (hS_c270 5 39 rfl)).trans (eu5_39))) (show (z26) = 0 ∨ (z26) = 1 by omega) (show (z26) = 1 → (u5_25) ≤ ((u5_25 + tc270_0)) ∧ ((u5_25 + tc270_0)) ≤ a1 by omega) (show 0 ≤ (u5_39) ∧ (u5_39) ≤ 131072 by omega))
            · refine Ew_of (pc' := 388) (fun _ => x_iload rfl (rk_o (rk_o (rk_o (rk2_o (rk_o (lc296_4) rfl rfl) rfl rfl) rfl rfl) rfl rfl) rfl rfl)) ?_
              have hc408 : ∀ (ls : rO) (σ : rS) (F_c408 : hF) (A_c408 : hA) , rlook ls 0 = some (.ref (D 5)) → rlook ls 1 = some (I (a1)) → rlook ls 2 = some (I (u5_25)) → rlook ls 3 = some (I ((v5 % 4))) → rlook ls 4 = some (I (((v6 / 4) % 4))) → rlook ls 9 = some (I (z16)) → rlook ls 10 = some (I (z19)) → rlook ls 11 = some (I (((z16 + 3) / 4))) → HS σ0 σ D N F_c408 A_c408 → SF [] (updF F9 5 25 ((u5_25 + tc270_0))) F_c408 → SA [] A10 A_c408 → (((((v6 / 4) % 4)) ≤ (0)) ∨ ((((v6 / 4) % 4)) > (0) ∧ (z16) ≥ ((3 * ((z16 + 3) / 4))))) → Ew 291 (d + 4) 408 ls [] σ c s Q := by
               as_aux_lemma =>
                intro  ls σ F_c408 A_c408  lc408_0 lc408_1 lc408_2 lc408_3 lc408_4 lc408_9 lc408_10 lc408_11 H hS_c408 hA_c408   jc408_0
                refine Ew_of (pc' := 409) (fun _ => x_iload_n rfl lc408_3) ?_
                refine Ew_of (pc' := 410) (fun _ => x_iconst rfl) ?_
                have hc428 : ∀ (ls : rO) (σ : rS) (F_c428 : hF) (A_c428 : hA) , rlook ls 0 = some (.ref (D 5)) → rlook ls 1 = some (I (a1)) → rlook ls 3 = some (I ((v5 % 4))) → rlook ls 4 = some (I (((v6 / 4) % 4))) → rlook ls 9 = some (I (z16)) → rlook ls 10 = some (I (z19)) → rlook ls 11 = some (I (((z16 + 3) / 4))) → HS σ0 σ D N F_c428 A_c428 → SF [] F_c408 F_c428 → SA [] A_c408 A_c428 → ((((v5 % 4)) ≠ (3)) ∨ (((v5 % 4)) = (3) ∧ 0 ≤ (F 5 10) ∧ (F 5 10) ≤ 11 ∧ (F 5 10) ≠ (0))) → Ew 291 (d + 4) 428 ls [] σ c s Q := by
                 as_aux_lemma =>
                  intro  ls σ F_c428 A_c428  lc428_0 lc428_1 lc428_3 lc428_4 lc428_9 lc428_10 lc428_11 H hS_c428 hA_c428   jc428_0
                  refine Ew_of (pc' := 429) (fun _ => x_iload_n rfl lc428_1) ?_
                  refine Ew_of (pc' := 430) (fun _ => x_aload_n rfl lc428_0) ?_
                  refine w_gI H (o := 5) (w := (u5_25 + tc270_0)) rfl (H.perm 5 rfl) rfl rfl rfl (fun _ => rfl) ((hS_c428 5 25 rfl).trans (hS_c408 5 25 rfl)) ?_
                  refine w_isub rfl ?_
                  refine Ew_of (pc' := 436) (fun _ => x_iload rfl lc428_10) ?_
                  refine w_icmpge (t := 447) rfl rfl (show inr ((a1 - (u5_25 + tc270_0))) by omega) (show inr (z19) by omega) (fun b27 => ?_) (fun b27 => ?_)
                  · refine Ew_of (pc' := 448) (fun _ => x_aload_n rfl lc428_0) ?_
                    refine w_gI H (o := 5) (w := (u5_25 + tc270_0)) rfl (H.perm 5 rfl) rfl rfl rfl (fun _ => rfl) ((hS_c428 5 25 rfl).trans (hS_c408 5 25 rfl)) ?_
                    refine Ew_of (pc' := 453) (fun _ => x_iload rfl lc428_10) ?_
                    refine w_iadd rfl ?_
                    refine Ew_of (pc' := 456) (fun _ => x_istore rfl) ?_
                    have hc495 : ∀ (ls : rO) (σ : rS) (F_c495 : hF) (A_c495 : hA) , rlook ls 0 = some (.ref (D 5)) → rlook ls 4 = some (I (((v6 / 4) % 4))) → rlook ls 9 = some (I (z16)) → rlook ls 11 = some (I (((z16 + 3) / 4))) → rlook ls 12 = some (I (((u5_25 + tc270_0) + z19))) → HS σ0 σ D N F_c495 A_c495 → SF [(5, 10), (5, 19), (5, 25), (5, 44), (5, 45)] F_c428 F_c495 → SA [31, 32, 39, 40, 41, 42, 43, 44] A_c428 A_c495 → ∀ yc495_5_25 : Int, F_c495 5 25 = yc495_5_25 → (((u5_25 + tc270_0)) ≤ (yc495_5_25) ∧ (yc495_5_25) ≤ (((u5_25 + tc270_0) + z19))) → Ew 291 (d + 4) 495 ls [] σ c s Q := by
                     as_aux_lemma =>
                      intro  ls σ F_c495 A_c495  lc495_0 lc495_4 lc495_9 lc495_11 lc495_12 H hS_c495 hA_c495 yc495_5_25 eyc495_5_25  jc495_0
                      have r28 : (0 : Int) ≤ yc495_5_25 ∧ yc495_5_25 ≤ 65536 := by have h1 : (0 : Int) ≤ F_c495 5 25 ∧ F_c495 5 25 ≤ 65536 := H.frng 5 25; rw [show F_c495 5 25 = yc495_5_25 from (eyc495_5_25)] at h1; exact h1
                      refine Ew_of (pc' := 497) (fun _ => x_iload rfl lc495_4) ?_
                      refine w_ifne (t := 526) rfl rfl (show inr (((v6 / 4) % 4)) by omega) (fun b29 => ?_) (fun b29 => ?_)
                      · refine Ew_of (pc' := 527) (fun _ => x_aload_n rfl lc495_0) ?_
                        refine Ew_of (pc' := 529) (fun _ => x_iload rfl lc495_12) ?_
                        refine Ew_of (pc' := 531) (fun _ => x_iload rfl lc495_9) ?_
                        refine Ew_of (pc' := 533) (fun _ => x_iload rfl lc495_11) ?_
                        refine w_inv H (o := 5) rfl rfl rfl (H.perm 5 rfl) rfl rfl (by rfl) (M292 H (yc495_5_25) ((eyc495_5_25)) (u5_39) ((((((((hS_c495 5 39 rfl).trans (hS_c428 5 39 rfl)).trans (hS_c408 5 39 rfl)).trans (hS11 5 39 rfl)).trans (hS_c296 5 39 rfl)).trans (hS_c270 5 39 rfl)).trans (eu5_39))) (show inr (((u5_25 + tc270_0) + z19)) by omega) (show inr (z16) by omega) (show inr (((z16 + 3) / 4)) by omega) (show 0 ≤ (yc495_5_25) ∧ (yc495_5_25) ≤ (((u5_25 + tc270_0) + z19)) ∧ (((u5_25 + tc270_0) + z19)) ≤ 65536 by omega) (show 0 ≤ (((z16 + 3) / 4)) ∧ 3 * (((z16 + 3) / 4)) ≤ (z16) ∧ (z16) ≤ 131072 by omega) (show (u5_39) = 0 by omega) (fun z34 σ F30 A31 H hS32 hA33 y35 ey36 pz34_0 pz34_1 => ⟨rretB rfl pz34_0, ?_⟩))
                        have r37 : (0 : Int) ≤ y35 ∧ y35 ≤ 131072 := by have h1 : (0 : Int) ≤ F30 5 39 ∧ F30 5 39 ≤ 131072 := H.frng 5 39; rw [show F30 5 39 = y35 from (ey36)] at h1; exact h1
                        refine w_ifne (t := 541) rfl rfl (show inr (z34) by omega) (fun b38 => ?_) (fun b38 => ?_)
                        · refine Ew_of (pc' := 542) (fun _ => x_aload_n rfl lc495_0) ?_
                          refine Ew_of (pc' := 544) (fun _ => x_iload rfl lc495_12) ?_
                          refine w_pI H (o := 5) rfl rfl (H.perm 5 rfl) rfl rfl rfl (fun _ => rfl) rfl (show (0 : Int) ≤ ((u5_25 + tc270_0) + z19) ∧ ((u5_25 + tc270_0) + z19) ≤ 65536 by omega) (fun σ H => ?_)
                          refine Ew_of (pc' := 548) (fun _ => x_iconst rfl) ?_
                          exact w_ireturn rfl (k (1) σ _ _ H (SF_upd (SF_trans (SF_trans (SF_trans (SF_trans (SF_upd (SF_trans (SF_trans (SF_trans (SF_refl) hS_c270 (any_sub rfl)) hS_c296 (any_sub rfl)) hS11 (any_sub rfl)) rfl) hS_c408 (any_sub rfl)) hS_c428 (any_sub rfl)) hS_c495 (any_sub rfl)) hS32 (any_sub rfl)) rfl) (SA_trans (SA_trans (SA_trans (SA_trans (SA_trans (SA_trans (SA_trans (SA_refl) hA_c270 (any_subA rfl)) hA_c296 (any_subA rfl)) hA12 (any_subA rfl)) hA_c408 (any_subA rfl)) hA_c428 (any_subA rfl)) hA_c495 (any_subA rfl)) hA33 (any_subA rfl)) (((u5_25 + tc270_0) + z19)) (rfl) (y35) ((ey36)) (show (1) = 0 ∨ (1) = 1 by omega) (show (1) = 1 → (u5_25) ≤ (((u5_25 + tc270_0) + z19)) ∧ (((u5_25 + tc270_0) + z19)) ≤ a1 by omega) (show 0 ≤ (y35) ∧ (y35) ≤ 131072 by omega))
                        · refine Ew_of (pc' := 540) (fun _ => x_iconst rfl) ?_
                          exact w_ireturn rfl (k (0) σ _ _ H (SF_trans (SF_trans (SF_trans (SF_trans (SF_upd (SF_trans (SF_trans (SF_trans (SF_refl) hS_c270 (any_sub rfl)) hS_c296 (any_sub rfl)) hS11 (any_sub rfl)) rfl) hS_c408 (any_sub rfl)) hS_c428 (any_sub rfl)) hS_c495 (any_sub rfl)) hS32 (any_sub rfl)) (SA_trans (SA_trans (SA_trans (SA_trans (SA_trans (SA_trans (SA_trans (SA_refl) hA_c270 (any_subA rfl)) hA_c296 (any_subA rfl)) hA12 (any_subA rfl)) hA_c408 (any_subA rfl)) hA_c428 (any_subA rfl)) hA_c495 (any_subA rfl)) hA33 (any_subA rfl)) (yc495_5_25) (((hS32 5 25 rfl).trans (eyc495_5_25))) (y35) ((ey36)) (show (0) = 0 ∨ (0) = 1 by omega) (show (0) = 1 → (u5_25) ≤ (yc495_5_25) ∧ (yc495_5_25) ≤ a1 by omega) (show 0 ≤ (y35) ∧ (y35) ≤ 131072 by omega))
                      · refine Ew_of (pc' := 501) (fun _ => x_aload_n rfl lc495_0) ?_
                        refine Ew_of (pc' := 502) (fun _ => x_aload_n rfl lc495_0) ?_
                        refine w_gI H (o := 5) (w := yc495_5_25) rfl (H.perm 5 rfl) rfl rfl rfl (fun _ => rfl) (eyc495_5_25) ?_
                        refine Ew_of (pc' := 507) (fun _ => x_iload rfl lc495_12) ?_
                        refine Ew_of (pc' := 509) (fun _ => x_iload rfl lc495_9) ?_
                        refine w_inv H (o := 5) rfl rfl rfl (H.perm 5 rfl) rfl rfl (by rfl) (M273 H (u5_39) ((((((((hS_c495 5 39 rfl).trans (hS_c428 5 39 rfl)).trans (hS_c408 5 39 rfl)).trans (hS11 5 39 rfl)).trans (hS_c296 5 39 rfl)).trans (hS_c270 5 39 rfl)).trans (eu5_39))) (show inr (yc495_5_25) by omega) (show inr (((u5_25 + tc270_0) + z19)) by omega) (show inr (z16) by omega) (show 0 ≤ (yc495_5_25) ∧ (yc495_5_25) ≤ 65536 ∧ 0 ≤ (((u5_25 + tc270_0) + z19)) ∧ (((u5_25 + tc270_0) + z19)) ≤ 65536 by omega) (show 0 ≤ (z16) ∧ (u5_39) + (z16) ≤ 131072 by omega) (fun z43 σ F39 A40 H hS41 hA42 y44 ey45 pz43_0 pz43_1 => ⟨rretB rfl pz43_0, ?_⟩))
                        have r46 : (0 : Int) ≤ y44 ∧ y44 ≤ 131072 := by have h1 : (0 : Int) ≤ F39 5 39 ∧ F39 5 39 ≤ 131072 := H.frng 5 39; rw [show F39 5 39 = y44 from (ey45)] at h1; exact h1
                        refine w_ifne (t := 541) rfl rfl (show inr (z43) by omega) (fun b47 => ?_) (fun b47 => ?_)
                        · refine Ew_of (pc' := 542) (fun _ => x_aload_n rfl lc495_0) ?_
                          refine Ew_of (pc' := 544) (fun _ => x_iload rfl lc495_12) ?_
                          refine w_pI H (o := 5) rfl rfl (H.perm 5 rfl) rfl rfl rfl (fun _ => rfl) rfl (show (0 : Int) ≤ ((u5_25 + tc270_0) + z19) ∧ ((u5_25 + tc270_0) + z19) ≤ 65536 by omega) (fun σ H => ?_)
                          refine Ew_of (pc' := 548) (fun _ => x_iconst rfl) ?_
                          exact w_ireturn rfl (k (1) σ _ _ H (SF_upd (SF_trans (SF_trans (SF_trans (SF_trans (SF_upd (SF_trans (SF_trans (SF_trans (SF_refl) hS_c270 (any_sub rfl)) hS_c296 (any_sub rfl)) hS11 (any_sub rfl)) rfl) hS_c408 (any_sub rfl)) hS_c428 (any_sub rfl)) hS_c495 (any_sub rfl)) hS41 (any_sub rfl)) rfl) (SA_trans (SA_trans (SA_trans (SA_trans (SA_trans (SA_trans (SA_trans (SA_refl) hA_c270 (any_subA rfl)) hA_c296 (any_subA rfl)) hA12 (any_subA rfl)) hA_c408 (any_subA rfl)) hA_c428 (any_subA rfl)) hA_c495 (any_subA rfl)) hA42 (any_subA rfl)) (((u5_25 + tc270_0) + z19)) (rfl) (y44) ((ey45)) (show (1) = 0 ∨ (1) = 1 by omega) (show (1) = 1 → (u5_25) ≤ (((u5_25 + tc270_0) + z19)) ∧ (((u5_25 + tc270_0) + z19)) ≤ a1 by omega) (show 0 ≤ (y44) ∧ (y44) ≤ 131072 by omega))
                        · refine Ew_of (pc' := 516) (fun _ => x_aload_n rfl lc495_0) ?_
                          refine Ew_of (pc' := 518) (fun _ => x_bipush (z := 14) rfl (by decide)) ?_
                          refine Ew_of (pc' := 519) (fun _ => x_aload_n rfl lc495_0) ?_
                          refine w_gI H (o := 5) (w := yc495_5_25) rfl (H.perm 5 rfl) rfl rfl rfl (fun _ => rfl) ((hS41 5 25 rfl).trans (eyc495_5_25)) ?_
                          refine w_inv H (o := 5) rfl rfl rfl (H.perm 5 rfl) rfl rfl (by rfl) (M282 H (show inr (14) by omega) (show inr (yc495_5_25) by omega) (show 0 ≤ (14) ∧ (14) ≤ 20 by omega) (show 0 ≤ (yc495_5_25) ∧ (yc495_5_25) ≤ 65536 by omega) (fun z52 σ F48 A49 H hS50 hA51 pz52_0 pz52_1 => ⟨rretB rfl pz52_0, ?_⟩))
                          exact w_ireturn rfl (k (z52) σ _ _ H (SF_trans (SF_trans (SF_trans (SF_trans (SF_trans (SF_upd (SF_trans (SF_trans (SF_trans (SF_refl) hS_c270 (any_sub rfl)) hS_c296 (any_sub rfl)) hS11 (any_sub rfl)) rfl) hS_c408 (any_sub rfl)) hS_c428 (any_sub rfl)) hS_c495 (any_sub rfl)) hS41 (any_sub rfl)) hS50 (any_sub rfl)) (SA_trans (SA_trans (SA_trans (SA_trans (SA_trans (SA_trans (SA_trans (SA_trans (SA_refl) hA_c270 (any_subA rfl)) hA_c296 (any_subA rfl)) hA12 (any_subA rfl)) hA_c408 (any_subA rfl)) hA_c428 (any_subA rfl)) hA_c495 (any_subA rfl)) hA42 (any_subA rfl)) hA51 (any_subA rfl)) (yc495_5_25) ((((hS50 5 25 rfl).trans (hS41 5 25 rfl)).trans (eyc495_5_25))) (y44) (((hS50 5 39 rfl).trans (ey45))) (show (z52) = 0 ∨ (z52) = 1 by omega) (show (z52) = 1 → (u5_25) ≤ (yc495_5_25) ∧ (yc495_5_25) ≤ a1 by omega) (show 0 ≤ (y44) ∧ (y44) ≤ 131072 by omega))
                    refine Ew_of (pc' := 457) (fun _ => x_iload_n rfl (rk_o (lc428_3) rfl rfl)) ?_
                    refine Ew_of (pc' := 458) (fun _ => x_iconst rfl) ?_
                    refine w_icmpne (t := 495) rfl rfl (show inr ((v5 % 4)) by omega) (show inr (2) by omega) (fun b53 => ?_) (fun b53 => ?_)
                    · exact hc495  _ σ _ _  (rk_o (lc428_0) rfl rfl) (rk_o (lc428_4) rfl rfl) (rk_o (lc428_9) rfl rfl) (rk_o (lc428_11) rfl rfl) (rk_s) H (SF_refl) (SA_refl) ((u5_25 + tc270_0)) (((hS_c428 5 25 rfl).trans (hS_c408 5 25 rfl)))  (show ((u5_25 + tc270_0)) ≤ ((u5_25 + tc270_0)) ∧ ((u5_25 + tc270_0)) ≤ (((u5_25 + tc270_0) + z19)) by omega)
                    · refine Ew_of (pc' := 462) (fun _ => x_aload_n rfl (rk_o (lc428_0) rfl rfl)) ?_
                      refine Ew_of (pc' := 463) (fun _ => x_aload_n rfl (rk_o (lc428_0) rfl rfl)) ?_
                      refine w_gI H (o := 5) (w := (u5_25 + tc270_0)) rfl (H.perm 5 rfl) rfl rfl rfl (fun _ => rfl) ((hS_c428 5 25 rfl).trans (hS_c408 5 25 rfl)) ?_
                      refine Ew_of (pc' := 468) (fun _ => x_iload rfl rk_s) ?_
                      refine w_inv H (o := 5) rfl rfl rfl (H.perm 5 rfl) rfl rfl (by rfl) (M271 H (show inr ((u5_25 + tc270_0)) by omega) (show inr (((u5_25 + tc270_0) + z19)) by omega) (show 0 ≤ ((u5_25 + tc270_0)) ∧ ((u5_25 + tc270_0)) ≤ 65536 ∧ 0 ≤ (((u5_25 + tc270_0) + z19)) ∧ (((u5_25 + tc270_0) + z19)) ≤ 65536 by omega) (fun z58 σ F54 A55 H hS56 hA57 y59 ey60 wq61 ewq62 pz58_0 pz58_1 pz58_2 => ⟨rfl, ?_⟩))
                      have r63 : (0 : Int) ≤ y59 ∧ y59 ≤ 11 := by have h1 : (0 : Int) ≤ F54 5 10 ∧ F54 5 10 ≤ 11 := H.frng 5 10; rw [show F54 5 10 = y59 from (ey60)] at h1; exact h1
                      refine Ew_of (pc' := 473) (fun _ => x_istore rfl) ?_
                      refine Ew_of (pc' := 475) (fun _ => x_iload rfl rk_s) ?_
                      refine w_ifge (t := 489) rfl rfl (show inr (z58) by omega) (fun b64 => ?_) (fun b64 => ?_)
                      · refine Ew_of (pc' := 490) (fun _ => x_aload_n rfl (rk_o (rk_o (lc428_0) rfl rfl) rfl rfl)) ?_
                        refine Ew_of (pc' := 492) (fun _ => x_iload rfl rk_s) ?_
                        refine w_pI H (o := 5) rfl rfl (H.perm 5 rfl) rfl rfl rfl (fun _ => rfl) rfl (show (0 : Int) ≤ z58 ∧ z58 ≤ 65536 by omega) (fun σ H => ?_)
                        exact hc495  _ σ _ _  (rk_o (rk_o (lc428_0) rfl rfl) rfl rfl) (rk_o (rk_o (lc428_4) rfl rfl) rfl rfl) (rk_o (rk_o (lc428_9) rfl rfl) rfl rfl) (rk_o (rk_o (lc428_11) rfl rfl) rfl rfl) (rk_o (rk_s) rfl rfl) H (SF_upd (SF_trans (SF_refl) hS56 (any_sub rfl)) rfl) (SA_trans (SA_refl) hA57 (any_subA rfl)) (z58) (rfl)  (show ((u5_25 + tc270_0)) ≤ (z58) ∧ (z58) ≤ (((u5_25 + tc270_0) + z19)) by omega)
                      · refine Ew_of (pc' := 479) (fun _ => x_aload_n rfl (rk_o (rk_o (lc428_0) rfl rfl) rfl rfl)) ?_
                        refine Ew_of (pc' := 481) (fun _ => x_bipush (z := 12) rfl (by decide)) ?_
                        refine Ew_of (pc' := 482) (fun _ => x_aload_n rfl (rk_o (rk_o (lc428_0) rfl rfl) rfl rfl)) ?_
                        refine w_gI H (o := 5) (w := (u5_25 + tc270_0)) rfl (H.perm 5 rfl) rfl rfl rfl (fun _ => rfl) (((hS56 5 25 rfl).trans (hS_c428 5 25 rfl)).trans (hS_c408 5 25 rfl)) ?_
                        refine w_inv H (o := 5) rfl rfl rfl (H.perm 5 rfl) rfl rfl (by rfl) (M282 H (show inr (12) by omega) (show inr ((u5_25 + tc270_0)) by omega) (show 0 ≤ (12) ∧ (12) ≤ 20 by omega) (show 0 ≤ ((u5_25 + tc270_0)) ∧ ((u5_25 + tc270_0)) ≤ 65536 by omega) (fun z69 σ F65 A66 H hS67 hA68 pz69_0 pz69_1 => ⟨rretB rfl pz69_0, ?_⟩))
                        exact w_ireturn rfl (k (z69) σ _ _ H (SF_trans (SF_trans (SF_trans (SF_trans (SF_upd (SF_trans (SF_trans (SF_trans (SF_refl) hS_c270 (any_sub rfl)) hS_c296 (any_sub rfl)) hS11 (any_sub rfl)) rfl) hS_c408 (any_sub rfl)) hS_c428 (any_sub rfl)) hS56 (any_sub rfl)) hS67 (any_sub rfl)) (SA_trans (SA_trans (SA_trans (SA_trans (SA_trans (SA_trans (SA_trans (SA_refl) hA_c270 (any_subA rfl)) hA_c296 (any_subA rfl)) hA12 (any_subA rfl)) hA_c408 (any_subA rfl)) hA_c428 (any_subA rfl)) hA57 (any_subA rfl)) hA68 (any_subA rfl)) ((u5_25 + tc270_0)) (((((hS67 5 25 rfl).trans (hS56 5 25 rfl)).trans (hS_c428 5 25 rfl)).trans (hS_c408 5 25 rfl))) (u5_39) (((((((((hS67 5 39 rfl).trans (hS56 5 39 rfl)).trans (hS_c428 5 39 rfl)).trans (hS_c408 5 39 rfl)).trans (hS11 5 39 rfl)).trans (hS_c296 5 39 rfl)).trans (hS_c270 5 39 rfl)).trans (eu5_39))) (show (z69) = 0 ∨ (z69) = 1 by omega) (show (z69) = 1 → (u5_25) ≤ ((u5_25 + tc270_0)) ∧ ((u5_25 + tc270_0)) ≤ a1 by omega) (show 0 ≤ (u5_39) ∧ (u5_39) ≤ 131072 by omega))
                  · refine Ew_of (pc' := 440) (fun _ => x_aload_n rfl lc428_0) ?_
                    refine Ew_of (pc' := 442) (fun _ => x_bipush (z := 10) rfl (by decide)) ?_
                    refine Ew_of (pc' := 443) (fun _ => x_iload_n rfl lc428_1) ?_
                    refine w_inv H (o := 5) rfl rfl rfl (H.perm 5 rfl) rfl rfl (by rfl) (M282 H (show inr (10) by omega) (show inr (a1) by omega) (show 0 ≤ (10) ∧ (10) ≤ 20 by omega) (show 0 ≤ (a1) ∧ (a1) ≤ 65536 by omega) (fun z74 σ F70 A71 H hS72 hA73 pz74_0 pz74_1 => ⟨rretB rfl pz74_0, ?_⟩))
                    exact w_ireturn rfl (k (z74) σ _ _ H (SF_trans (SF_trans (SF_trans (SF_upd (SF_trans (SF_trans (SF_trans (SF_refl) hS_c270 (any_sub rfl)) hS_c296 (any_sub rfl)) hS11 (any_sub rfl)) rfl) hS_c408 (any_sub rfl)) hS_c428 (any_sub rfl)) hS72 (any_sub rfl)) (SA_trans (SA_trans (SA_trans (SA_trans (SA_trans (SA_trans (SA_refl) hA_c270 (any_subA rfl)) hA_c296 (any_subA rfl)) hA12 (any_subA rfl)) hA_c408 (any_subA rfl)) hA_c428 (any_subA rfl)) hA73 (any_subA rfl)) ((u5_25 + tc270_0)) ((((hS72 5 25 rfl).trans (hS_c428 5 25 rfl)).trans (hS_c408 5 25 rfl))) (u5_39) ((((((((hS72 5 39 rfl).trans (hS_c428 5 39 rfl)).trans (hS_c408 5 39 rfl)).trans (hS11 5 39 rfl)).trans (hS_c296 5 39 rfl)).trans (hS_c270 5 39 rfl)).trans (eu5_39))) (show (z74) = 0 ∨ (z74) = 1 by omega) (show (z74) = 1 → (u5_25) ≤ ((u5_25 + tc270_0)) ∧ ((u5_25 + tc270_0)) ≤ a1 by omega) (show 0 ≤ (u5_39) ∧ (u5_39) ≤ 131072 by omega))
                refine w_icmpne (t := 428) rfl rfl (show inr ((v5 % 4)) by omega) (show inr (3) by omega) (fun b75 => ?_) (fun b75 => ?_)
                · exact hc428  _ σ _ _  (lc408_0) (lc408_1) (lc408_3) (lc408_4) (lc408_9) (lc408_10) (lc408_11) H (SF_refl) (SA_refl)   (show (((v5 % 4)) ≠ (3)) ∨ (((v5 % 4)) = (3) ∧ 0 ≤ (F 5 10) ∧ (F 5 10) ≤ 11 ∧ (F 5 10) ≠ (0)) by omega)
                · refine Ew_of (pc' := 414) (fun _ => x_aload_n rfl lc408_0) ?_
                  have r76 : (0 : Int) ≤ F 5 10 ∧ F 5 10 ≤ 11 := by have h1 : (0 : Int) ≤ F_c408 5 10 ∧ F_c408 5 10 ≤ 11 := H.frng 5 10; rw [show F_c408 5 10 = F 5 10 from ((((hS_c408 5 10 rfl).trans (hS11 5 10 rfl)).trans (hS_c296 5 10 rfl)).trans (hS_c270 5 10 rfl))] at h1; exact h1
                  refine w_gI H (o := 5) (w := F 5 10) rfl (H.perm 5 rfl) rfl rfl rfl (fun _ => rfl) ((((hS_c408 5 10 rfl).trans (hS11 5 10 rfl)).trans (hS_c296 5 10 rfl)).trans (hS_c270 5 10 rfl)) ?_
                  refine w_ifne (t := 428) rfl rfl (show inr (F 5 10) by omega) (fun b77 => ?_) (fun b77 => ?_)
                  · exact hc428  _ σ _ _  (lc408_0) (lc408_1) (lc408_3) (lc408_4) (lc408_9) (lc408_10) (lc408_11) H (SF_refl) (SA_refl)   (show (((v5 % 4)) ≠ (3)) ∨ (((v5 % 4)) = (3) ∧ 0 ≤ (F 5 10) ∧ (F 5 10) ≤ 11 ∧ (F 5 10) ≠ (0)) by omega)
                  · refine Ew_of (pc' := 421) (fun _ => x_aload_n rfl lc408_0) ?_
                    refine Ew_of (pc' := 423) (fun _ => x_bipush (z := 13) rfl (by decide)) ?_
                    refine Ew_of (pc' := 424) (fun _ => x_iload_n rfl lc408_2) ?_
                    refine w_inv H (o := 5) rfl rfl rfl (H.perm 5 rfl) rfl rfl (by rfl) (M282 H (show inr (13) by omega) (show inr (u5_25) by omega) (show 0 ≤ (13) ∧ (13) ≤ 20 by omega) (show 0 ≤ (u5_25) ∧ (u5_25) ≤ 65536 by omega) (fun z82 σ F78 A79 H hS80 hA81 pz82_0 pz82_1 => ⟨rretB rfl pz82_0, ?_⟩))
                    exact w_ireturn rfl (k (z82) σ _ _ H (SF_trans (SF_trans (SF_upd (SF_trans (SF_trans (SF_trans (SF_refl) hS_c270 (any_sub rfl)) hS_c296 (any_sub rfl)) hS11 (any_sub rfl)) rfl) hS_c408 (any_sub rfl)) hS80 (any_sub rfl)) (SA_trans (SA_trans (SA_trans (SA_trans (SA_trans (SA_refl) hA_c270 (any_subA rfl)) hA_c296 (any_subA rfl)) hA12 (any_subA rfl)) hA_c408 (any_subA rfl)) hA81 (any_subA rfl)) ((u5_25 + tc270_0)) (((hS80 5 25 rfl).trans (hS_c408 5 25 rfl))) (u5_39) (((((((hS80 5 39 rfl).trans (hS_c408 5 39 rfl)).trans (hS11 5 39 rfl)).trans (hS_c296 5 39 rfl)).trans (hS_c270 5 39 rfl)).trans (eu5_39))) (show (z82) = 0 ∨ (z82) = 1 by omega) (show (z82) = 1 → (u5_25) ≤ ((u5_25 + tc270_0)) ∧ ((u5_25 + tc270_0)) ≤ a1 by omega) (show 0 ≤ (u5_39) ∧ (u5_39) ≤ 131072 by omega))
              refine w_ifle (t := 408) rfl rfl (show inr (((v6 / 4) % 4)) by omega) (fun b83 => ?_) (fun b83 => ?_)
              · exact hc408  _ σ _ _  (rk_o (rk_o (rk_o (rk2_o (rk_o (lc296_0) rfl rfl) rfl rfl) rfl rfl) rfl rfl) rfl rfl) (rk_o (rk_o (rk_o (rk2_o (rk_o (lc296_1) rfl rfl) rfl rfl) rfl rfl) rfl rfl) rfl rfl) (rk_o (rk_o (rk_o (rk2_o (rk_o (lc296_2) rfl rfl) rfl rfl) rfl rfl) rfl rfl) rfl rfl) (rk_o (rk_o (rk_o (rk2_o (rk_o (lc296_3) rfl rfl) rfl rfl) rfl rfl) rfl rfl) rfl rfl) (rk_o (rk_o (rk_o (rk2_o (rk_o (lc296_4) rfl rfl) rfl rfl) rfl rfl) rfl rfl) rfl rfl) (rk_o (rk_o (rk_s) rfl rfl) rfl rfl) (rk_o (rk_s) rfl rfl) (rk_s) H (SF_refl) (SA_refl)   (show ((((v6 / 4) % 4)) ≤ (0)) ∨ ((((v6 / 4) % 4)) > (0) ∧ (z16) ≥ ((3 * ((z16 + 3) / 4)))) by omega)
              · refine Ew_of (pc' := 393) (fun _ => x_iload rfl (rk_o (rk_o (rk_s) rfl rfl) rfl rfl)) ?_
                refine Ew_of (pc' := 394) (fun _ => x_iconst rfl) ?_
                refine Ew_of (pc' := 396) (fun _ => x_iload rfl rk_s) ?_
                refine w_imul rfl ?_
                refine w_icmpge (t := 408) rfl rfl (show inr (z16) by omega) (show inr ((3 * ((z16 + 3) / 4))) by omega) (fun b84 => ?_) (fun b84 => ?_)
                · exact hc408  _ σ _ _  (rk_o (rk_o (rk_o (rk2_o (rk_o (lc296_0) rfl rfl) rfl rfl) rfl rfl) rfl rfl) rfl rfl) (rk_o (rk_o (rk_o (rk2_o (rk_o (lc296_1) rfl rfl) rfl rfl) rfl rfl) rfl rfl) rfl rfl) (rk_o (rk_o (rk_o (rk2_o (rk_o (lc296_2) rfl rfl) rfl rfl) rfl rfl) rfl rfl) rfl rfl) (rk_o (rk_o (rk_o (rk2_o (rk_o (lc296_3) rfl rfl) rfl rfl) rfl rfl) rfl rfl) rfl rfl) (rk_o (rk_o (rk_o (rk2_o (rk_o (lc296_4) rfl rfl) rfl rfl) rfl rfl) rfl rfl) rfl rfl) (rk_o (rk_o (rk_s) rfl rfl) rfl rfl) (rk_o (rk_s) rfl rfl) (rk_s) H (SF_refl) (SA_refl)   (show ((((v6 / 4) % 4)) ≤ (0)) ∨ ((((v6 / 4) % 4)) > (0) ∧ (z16) ≥ ((3 * ((z16 + 3) / 4)))) by omega)
                · refine Ew_of (pc' := 401) (fun _ => x_aload_n rfl (rk_o (rk_o (rk_o (rk2_o (rk_o (lc296_0) rfl rfl) rfl rfl) rfl rfl) rfl rfl) rfl rfl)) ?_
                  refine Ew_of (pc' := 403) (fun _ => x_bipush (z := 11) rfl (by decide)) ?_
                  refine Ew_of (pc' := 404) (fun _ => x_iload_n rfl (rk_o (rk_o (rk_o (rk2_o (rk_o (lc296_2) rfl rfl) rfl rfl) rfl rfl) rfl rfl) rfl rfl)) ?_
                  refine w_inv H (o := 5) rfl rfl rfl (H.perm 5 rfl) rfl rfl (by rfl) (M282 H (show inr (11) by omega) (show inr (u5_25) by omega) (show 0 ≤ (11) ∧ (11) ≤ 20 by omega) (show 0 ≤ (u5_25) ∧ (u5_25) ≤ 65536 by omega) (fun z89 σ F85 A86 H hS87 hA88 pz89_0 pz89_1 => ⟨rretB rfl pz89_0, ?_⟩))
                  exact w_ireturn rfl (k (z89) σ _ _ H (SF_trans (SF_upd (SF_trans (SF_trans (SF_trans (SF_refl) hS_c270 (any_sub rfl)) hS_c296 (any_sub rfl)) hS11 (any_sub rfl)) rfl) hS87 (any_sub rfl)) (SA_trans (SA_trans (SA_trans (SA_trans (SA_refl) hA_c270 (any_subA rfl)) hA_c296 (any_subA rfl)) hA12 (any_subA rfl)) hA88 (any_subA rfl)) ((u5_25 + tc270_0)) ((hS87 5 25 rfl)) (u5_39) ((((((hS87 5 39 rfl).trans (hS11 5 39 rfl)).trans (hS_c296 5 39 rfl)).trans (hS_c270 5 39 rfl)).trans (eu5_39))) (show (z89) = 0 ∨ (z89) = 1 by omega) (show (z89) = 1 → (u5_25) ≤ ((u5_25 + tc270_0)) ∧ ((u5_25 + tc270_0)) ≤ a1 by omega) (show 0 ≤ (u5_39) ∧ (u5_39) ≤ 131072 by omega))
          · refine Ew_of (pc' := 310) (fun _ => x_aload_n rfl (rk_o (lc296_0) rfl rfl)) ?_
            refine Ew_of (pc' := 312) (fun _ => x_bipush (z := 10) rfl (by decide)) ?_
            refine Ew_of (pc' := 313) (fun _ => x_iload_n rfl (rk_o (lc296_1) rfl rfl)) ?_
            refine w_inv H (o := 5) rfl rfl rfl (H.perm 5 rfl) rfl rfl (by rfl) (M282 H (show inr (10) by omega) (show inr (a1) by omega) (show 0 ≤ (10) ∧ (10) ≤ 20 by omega) (show 0 ≤ (a1) ∧ (a1) ≤ 65536 by omega) (fun z94 σ F90 A91 H hS92 hA93 pz94_0 pz94_1 => ⟨rretB rfl pz94_0, ?_⟩))
            exact w_ireturn rfl (k (z94) σ _ _ H (SF_trans (SF_trans (SF_trans (SF_refl) hS_c270 (any_sub rfl)) hS_c296 (any_sub rfl)) hS92 (any_sub rfl)) (SA_trans (SA_trans (SA_trans (SA_refl) hA_c270 (any_subA rfl)) hA_c296 (any_subA rfl)) hA93 (any_subA rfl)) (u5_25) (((((hS92 5 25 rfl).trans (hS_c296 5 25 rfl)).trans (hS_c270 5 25 rfl)).trans (eu5_25))) (u5_39) (((((hS92 5 39 rfl).trans (hS_c296 5 39 rfl)).trans (hS_c270 5 39 rfl)).trans (eu5_39))) (show (z94) = 0 ∨ (z94) = 1 by omega) (show (z94) = 1 → (u5_25) ≤ (u5_25) ∧ (u5_25) ≤ a1 by omega) (show 0 ≤ (u5_39) ∧ (u5_39) ≤ 131072 by omega))
        refine w_icmpge (t := 283) rfl rfl (show inr (((v6 / 4) % 4)) by omega) (show inr (2) by omega) (fun b95 => ?_) (fun b95 => ?_)
        · refine Ew_of (pc' := 285) (fun _ => x_iload rfl (rk_o (lc270_4) rfl rfl)) ?_
          refine Ew_of (pc' := 286) (fun _ => x_iconst rfl) ?_
          refine w_icmpne (t := 294) rfl rfl (show inr (((v6 / 4) % 4)) by omega) (show inr (2) by omega) (fun b96 => ?_) (fun b96 => ?_)
          · refine Ew_of (pc' := 296) (fun _ => x_bipush (z := 18) rfl (by decide)) ?_
            exact hc296 (18) _ σ _ _  (rk_o (lc270_0) rfl rfl) (rk_o (lc270_1) rfl rfl) (rk_o (lc270_2) rfl rfl) (rk_o (lc270_3) rfl rfl) (rk_o (lc270_4) rfl rfl) (rk_s) H (SF_refl) (SA_refl)   (show inr (18) by omega) (show ((((v6 / 4) % 4)) ≥ (2) ∧ (((v6 / 4) % 4)) ≠ (2) ∧ (18) = (18)) ∨ ((((v6 / 4) % 4)) ≥ (2) ∧ (((v6 / 4) % 4)) = (2) ∧ (18) = (14)) ∨ ((((v6 / 4) % 4)) < (2) ∧ (18) = (10)) by omega)
          · refine Ew_of (pc' := 291) (fun _ => x_bipush (z := 14) rfl (by decide)) ?_
            refine Ew_of (pc' := 296) (fun _ => x_goto rfl rfl) ?_
            exact hc296 (14) _ σ _ _  (rk_o (lc270_0) rfl rfl) (rk_o (lc270_1) rfl rfl) (rk_o (lc270_2) rfl rfl) (rk_o (lc270_3) rfl rfl) (rk_o (lc270_4) rfl rfl) (rk_s) H (SF_refl) (SA_refl)   (show inr (14) by omega) (show ((((v6 / 4) % 4)) ≥ (2) ∧ (((v6 / 4) % 4)) ≠ (2) ∧ (14) = (18)) ∨ ((((v6 / 4) % 4)) ≥ (2) ∧ (((v6 / 4) % 4)) = (2) ∧ (14) = (14)) ∨ ((((v6 / 4) % 4)) < (2) ∧ (14) = (10)) by omega)
        · refine Ew_of (pc' := 280) (fun _ => x_bipush (z := 10) rfl (by decide)) ?_
          refine Ew_of (pc' := 296) (fun _ => x_goto rfl rfl) ?_
          exact hc296 (10) _ σ _ _  (rk_o (lc270_0) rfl rfl) (rk_o (lc270_1) rfl rfl) (rk_o (lc270_2) rfl rfl) (rk_o (lc270_3) rfl rfl) (rk_o (lc270_4) rfl rfl) (rk_s) H (SF_refl) (SA_refl)   (show inr (10) by omega) (show ((((v6 / 4) % 4)) ≥ (2) ∧ (((v6 / 4) % 4)) ≠ (2) ∧ (10) = (18)) ∨ ((((v6 / 4) % 4)) ≥ (2) ∧ (((v6 / 4) % 4)) = (2) ∧ (10) = (14)) ∨ ((((v6 / 4) % 4)) < (2) ∧ (10) = (10)) by omega)
      refine w_icmpge (t := 266) rfl rfl (show inr (((v6 / 4) % 4)) by omega) (show inr (2) by omega) (fun b97 => ?_) (fun b97 => ?_)
      · refine Ew_of (pc' := 268) (fun _ => x_iload rfl rk_s) ?_
        refine Ew_of (pc' := 269) (fun _ => x_iconst rfl) ?_
        refine w_iadd rfl ?_
        exact hc270 ((((v6 / 4) % 4) + 2)) _ σ _ _  (rk_o (rk_o (rk_o (rfl) rfl rfl) rfl rfl) rfl rfl) (rk_o (rk_o (rk_o (rfl) rfl rfl) rfl rfl) rfl rfl) (rk_o (rk_o (rk_s) rfl rfl) rfl rfl) (rk_o (rk_s) rfl rfl) (rk_s) H (SF_refl) (SA_refl)   (show inr ((((v6 / 4) % 4) + 2)) by omega) (show ((((v6 / 4) % 4)) ≥ (2) ∧ ((((v6 / 4) % 4) + 2)) = ((((v6 / 4) % 4) + 2))) ∨ ((((v6 / 4) % 4)) < (2) ∧ ((((v6 / 4) % 4) + 2)) = (3)) by omega)
      · refine Ew_of (pc' := 263) (fun _ => x_iconst rfl) ?_
        refine Ew_of (pc' := 270) (fun _ => x_goto rfl rfl) ?_
        exact hc270 (3) _ σ _ _  (rk_o (rk_o (rk_o (rfl) rfl rfl) rfl rfl) rfl rfl) (rk_o (rk_o (rk_o (rfl) rfl rfl) rfl rfl) rfl rfl) (rk_o (rk_o (rk_s) rfl rfl) rfl rfl) (rk_o (rk_s) rfl rfl) (rk_s) H (SF_refl) (SA_refl)   (show inr (3) by omega) (show ((((v6 / 4) % 4)) ≥ (2) ∧ (3) = ((((v6 / 4) % 4) + 2))) ∨ ((((v6 / 4) % 4)) < (2) ∧ (3) = (3)) by omega)
    · refine Ew_of (pc' := 61) (fun _ => x_iload rfl rk_s) ?_
      refine Ew_of (pc' := 62) (fun _ => x_iconst rfl) ?_
      refine w_irem rfl (show inr (((v6 / 4) % 4)) ∧ 0 ≤ ((v6 / 4) % 4) by omega) (show inr (2) ∧ 0 < 2 by omega) ?_
      have hc81 : ∀ (tc81_0 : Int), ∀ (ls : rO) (σ : rS) (F_c81 : hF) (A_c81 : hA) , rlook ls 0 = some (.ref (D 5)) → rlook ls 1 = some (I (a1)) → rlook ls 2 = some (I (u5_25)) → rlook ls 3 = some (I ((v5 % 4))) → HS σ0 σ D N F_c81 A_c81 → SF [] F F_c81 → SA [] A A_c81 → (inr (tc81_0)) → ((((((v6 / 4) % 4) % 2)) ≠ (0) ∧ (((v6 / 4) % 4)) ≠ (1) ∧ (tc81_0) = (3)) ∨ (((((v6 / 4) % 4) % 2)) ≠ (0) ∧ (((v6 / 4) % 4)) = (1) ∧ (tc81_0) = (2)) ∨ (((((v6 / 4) % 4) % 2)) = (0) ∧ (tc81_0) = (1))) → Ew 291 (d + 4) 81 ls [I (tc81_0)] σ c s Q := by
       as_aux_lemma =>
        intro tc81_0 ls σ F_c81 A_c81  lc81_0 lc81_1 lc81_2 lc81_3 H hS_c81 hA_c81   jc81_0 jc81_1
        refine Ew_of (pc' := 83) (fun _ => x_istore rfl) ?_
        refine Ew_of (pc' := 84) (fun _ => x_iload_n rfl (rk_o (lc81_1) rfl rfl)) ?_
        refine Ew_of (pc' := 85) (fun _ => x_aload_n rfl (rk_o (lc81_0) rfl rfl)) ?_
        refine w_gI H (o := 5) (w := u5_25) rfl (H.perm 5 rfl) rfl rfl rfl (fun _ => rfl) ((hS_c81 5 25 rfl).trans (eu5_25)) ?_
        refine w_isub rfl ?_
        refine Ew_of (pc' := 91) (fun _ => x_iload rfl rk_s) ?_
        refine w_icmpge (t := 102) rfl rfl (show inr ((a1 - u5_25)) by omega) (show inr (tc81_0) by omega) (fun b98 => ?_) (fun b98 => ?_)
        · refine Ew_of (pc' := 103) (fun _ => x_aload_n rfl (rk_o (lc81_0) rfl rfl)) ?_
          refine Ew_of (pc' := 104) (fun _ => x_aload_n rfl (rk_o (lc81_0) rfl rfl)) ?_
          refine w_gI H (o := 5) (w := u5_25) rfl (H.perm 5 rfl) rfl rfl rfl (fun _ => rfl) ((hS_c81 5 25 rfl).trans (eu5_25)) ?_
          refine Ew_of (pc' := 109) (fun _ => x_iload rfl rk_s) ?_
          refine w_inv H (o := 5) rfl rfl rfl (H.perm 5 rfl) rfl rfl (by rfl) (M257 H (A 14) (funext (hA_c81 14 rfl)) (show inr (u5_25) by omega) (show inr (tc81_0) by omega) (show 0 ≤ (u5_25) ∧ 0 ≤ (tc81_0) ∧ (tc81_0) ≤ 8 ∧ (u5_25) + (tc81_0) ≤ 65536 by omega) (fun z103 σ F99 A100 H hS101 hA102 pz103_0 pz103_1 pz103_2 pz103_3 pz103_4 pz103_5 pz103_6 pz103_7 pz103_8 => ⟨rfl, ?_⟩))
          refine w_l2i rfl ?_
          refine Ew_of (pc' := 115) (fun _ => x_iload rfl rk_s) ?_
          refine Ew_of (pc' := 116) (fun _ => x_iconst rfl) ?_
          have hc126 : ∀ (tc126_0 : Int), ∀ (ls : rO) (σ : rS) (F_c126 : hF) (A_c126 : hA) , rlook ls 0 = some (.ref (D 5)) → rlook ls 1 = some (I (a1)) → rlook ls 2 = some (I (u5_25)) → rlook ls 3 = some (I ((v5 % 4))) → rlook ls 5 = some (I (tc81_0)) → HS σ0 σ D N F_c126 A_c126 → SF [] F99 F_c126 → SA [] A100 A_c126 → (inr (tc126_0)) → (((tc81_0) ≠ (1) ∧ (tc126_0) = (16)) ∨ ((tc81_0) = (1) ∧ (tc126_0) = (8))) → Ew 291 (d + 4) 126 ls [I (tc126_0), I (z103)] σ c s Q := by
           as_aux_lemma =>
            intro tc126_0 ls σ F_c126 A_c126  lc126_0 lc126_1 lc126_2 lc126_3 lc126_5 H hS_c126 hA_c126   jc126_0 jc126_1
            have hdv : 0 ≤ (z103) / (tc126_0) ∧ (z103) / (tc126_0) ≤ (z103) := ⟨Int.ediv_nonneg (by omega) (by omega), Int.ediv_le_self _ (by omega)⟩
            refine w_idiv rfl (show inr (z103) ∧ 0 ≤ z103 by omega) (show inr (tc126_0) ∧ 0 < tc126_0 by omega) ?_
            refine Ew_of (pc' := 129) (fun _ => x_istore rfl) ?_
            refine Ew_of (pc' := 130) (fun _ => x_aload_n rfl (rk_o (lc126_0) rfl rfl)) ?_
            refine Ew_of (pc' := 131) (fun _ => x_dup rfl rfl) ?_
            refine w_gI H (o := 5) (w := u5_25) rfl (H.perm 5 rfl) rfl rfl rfl (fun _ => rfl) ((((hS_c126 5 25 rfl).trans (hS101 5 25 rfl)).trans (hS_c81 5 25 rfl)).trans (eu5_25)) ?_
            refine Ew_of (pc' := 136) (fun _ => x_iload rfl (rk_o (lc126_5) rfl rfl)) ?_
            refine w_iadd rfl ?_
            refine w_pI H (o := 5) rfl rfl (H.perm 5 rfl) rfl rfl rfl (fun _ => rfl) rfl (show (0 : Int) ≤ (u5_25 + tc81_0) ∧ (u5_25 + tc81_0) ≤ 65536 by omega) (fun σ H => ?_)
            refine Ew_of (pc' := 142) (fun _ => x_iload rfl rk_s) ?_
            refine Ew_of (pc' := 143) (fun _ => x_aload_n rfl (rk_o (lc126_0) rfl rfl)) ?_
            have r104 : (0 : Int) ≤ F 5 29 ∧ F 5 29 ≤ 131072 := by have h1 : (0 : Int) ≤ (updF F_c126 5 25 ((u5_25 + tc81_0))) 5 29 ∧ (updF F_c126 5 25 ((u5_25 + tc81_0))) 5 29 ≤ 131072 := H.frng 5 29; rw [show (updF F_c126 5 25 ((u5_25 + tc81_0))) 5 29 = F 5 29 from (((hS_c126 5 29 rfl).trans (hS101 5 29 rfl)).trans (hS_c81 5 29 rfl))] at h1; exact h1
            refine w_gI H (o := 5) (w := F 5 29) rfl (H.perm 5 rfl) rfl rfl rfl (fun _ => rfl) (((hS_c126 5 29 rfl).trans (hS101 5 29 rfl)).trans (hS_c81 5 29 rfl)) ?_
            refine w_icmple (t := 157) rfl rfl (show inr ((z103 / tc126_0)) by omega) (show inr (F 5 29) by omega) (fun b105 => ?_) (fun b105 => ?_)
            · refine Ew_of (pc' := 158) (fun _ => x_iload_n rfl (rk_o (lc126_3) rfl rfl)) ?_
              have hc167 : ∀ (tc167_0 : Int), ∀ (ls : rO) (σ : rS) (F_c167 : hF) (A_c167 : hA) , rlook ls 0 = some (.ref (D 5)) → rlook ls 1 = some (I (a1)) → rlook ls 3 = some (I ((v5 % 4))) → rlook ls 6 = some (I ((z103 / tc126_0))) → HS σ0 σ D N F_c167 A_c167 → SF [] (updF F_c126 5 25 ((u5_25 + tc81_0))) F_c167 → SA [] A_c126 A_c167 → (inr (tc167_0)) → ((((v5 % 4)) ≠ (0) ∧ (tc167_0) = (1)) ∨ (((v5 % 4)) = (0) ∧ (tc167_0) = ((z103 / tc126_0)))) → Ew 291 (d + 4) 167 ls [I (tc167_0)] σ c s Q := by
               as_aux_lemma =>
                intro tc167_0 ls σ F_c167 A_c167  lc167_0 lc167_1 lc167_3 lc167_6 H hS_c167 hA_c167   jc167_0 jc167_1
                refine Ew_of (pc' := 169) (fun _ => x_istore rfl) ?_
                refine Ew_of (pc' := 170) (fun _ => x_iload_n rfl (rk_o (lc167_1) rfl rfl)) ?_
                refine Ew_of (pc' := 171) (fun _ => x_aload_n rfl (rk_o (lc167_0) rfl rfl)) ?_
                refine w_gI H (o := 5) (w := (u5_25 + tc81_0)) rfl (H.perm 5 rfl) rfl rfl rfl (fun _ => rfl) (hS_c167 5 25 rfl) ?_
                refine w_isub rfl ?_
                refine Ew_of (pc' := 177) (fun _ => x_iload rfl rk_s) ?_
                refine w_icmpge (t := 188) rfl rfl (show inr ((a1 - (u5_25 + tc81_0))) by omega) (show inr (tc167_0) by omega) (fun b106 => ?_) (fun b106 => ?_)
                · refine Ew_of (pc' := 189) (fun _ => x_iconst rfl) ?_
                  refine Ew_of (pc' := 191) (fun _ => x_istore rfl) ?_
                  suffices hl191 : ∀ (m : Nat), ∀ (ls : rO) (σ : rS) (F_191 : hF) (A_191 : hA) (x191_8 : Int), rlook ls 0 = some (.ref (D 5)) → rlook ls 3 = some (I ((v5 % 4))) → rlook ls 6 = some (I ((z103 / tc126_0))) → rlook ls 7 = some (I (tc167_0)) → rlook ls 8 = some (I (x191_8)) → HS σ0 σ D N F_191 A_191 → SF [] F_c167 F_191 → SA [46] A_c167 A_191 → (inr (x191_8)) → ((0) ≤ (x191_8)) → ((x191_8) ≤ (0) ∨ (x191_8) ≤ (((z103 / tc126_0)))) → ((((z103 / tc126_0))) - (x191_8)).toNat = m → Ew 291 (d + 4) 191 ls [] σ c s Q from
                    hl191 _ _ σ _ _ (0) (rk_o (rk_o (lc167_0) rfl rfl) rfl rfl) (rk_o (rk_o (lc167_3) rfl rfl) rfl rfl) (rk_o (rk_o (lc167_6) rfl rfl) rfl rfl) (rk_o (rk_s) rfl rfl) (rk_s) H (SF_refl) (SA_refl)   (show inr (0) by omega) (show (0) ≤ (0) by omega) (show (0) ≤ (0) ∨ (0) ≤ (((z103 / tc126_0))) by omega) rfl
                  as_aux_lemma =>
                  intro m
                  induction m using Nat.strongRecOn with
                  | _ m ih191 =>
                    intro ls σ F_191 A_191 x191_8 l191_0 l191_3 l191_6 l191_7 l191_8 H hS_191 hA_191   j191_0 j191_1 j191_2 hm191
                    refine Ew_of (pc' := 193) (fun _ => x_iload rfl l191_8) ?_
                    refine Ew_of (pc' := 195) (fun _ => x_iload rfl l191_6) ?_
                    refine w_icmpge (t := 237) rfl rfl (show inr (x191_8) by omega) (show inr ((z103 / tc126_0)) by omega) (fun b107 => ?_) (fun b107 => ?_)
                    · refine Ew_of (pc' := 238) (fun _ => x_aload_n rfl l191_0) ?_
                      refine Ew_of (pc' := 240) (fun _ => x_iload rfl l191_6) ?_
                      refine w_pI H (o := 5) rfl rfl (H.perm 5 rfl) rfl rfl rfl (fun _ => rfl) rfl (show (0 : Int) ≤ (z103 / tc126_0) ∧ (z103 / tc126_0) ≤ 131072 by omega) (fun σ H => ?_)
                      refine Ew_of (pc' := 244) (fun _ => x_aload_n rfl l191_0) ?_
                      refine Ew_of (pc' := 245) (fun _ => x_dup rfl rfl) ?_
                      refine w_gI H (o := 5) (w := (u5_25 + tc81_0)) rfl (H.perm 5 rfl) rfl rfl rfl (fun _ => rfl) ((hS_191 5 25 rfl).trans (hS_c167 5 25 rfl)) ?_
                      refine Ew_of (pc' := 250) (fun _ => x_iload rfl l191_7) ?_
                      refine w_iadd rfl ?_
                      refine w_pI H (o := 5) rfl rfl (H.perm 5 rfl) rfl rfl rfl (fun _ => rfl) rfl (show (0 : Int) ≤ ((u5_25 + tc81_0) + tc167_0) ∧ ((u5_25 + tc81_0) + tc167_0) ≤ 65536 by omega) (fun σ H => ?_)
                      refine Ew_of (pc' := 255) (fun _ => x_iconst rfl) ?_
                      exact w_ireturn rfl (k (1) σ _ _ H (SF_upd (SF_upd (SF_trans (SF_trans (SF_upd (SF_trans (SF_trans (SF_trans (SF_refl) hS_c81 (any_sub rfl)) hS101 (any_sub rfl)) hS_c126 (any_sub rfl)) rfl) hS_c167 (any_sub rfl)) hS_191 (any_sub rfl)) rfl) rfl) (SA_trans (SA_trans (SA_trans (SA_trans (SA_trans (SA_refl) hA_c81 (any_subA rfl)) hA102 (any_subA rfl)) hA_c126 (any_subA rfl)) hA_c167 (any_subA rfl)) hA_191 (any_subA rfl)) (((u5_25 + tc81_0) + tc167_0)) (rfl) ((z103 / tc126_0)) (rfl) (show (1) = 0 ∨ (1) = 1 by omega) (show (1) = 1 → (u5_25) ≤ (((u5_25 + tc81_0) + tc167_0)) ∧ (((u5_25 + tc81_0) + tc167_0)) ≤ a1 by omega) (show 0 ≤ ((z103 / tc126_0)) ∧ ((z103 / tc126_0)) ≤ 131072 by omega))
                    · refine Ew_of (pc' := 199) (fun _ => x_aload_n rfl l191_0) ?_
                      refine w_gT H (o := 5) (t := 46) rfl (H.perm 5 rfl) rfl rfl rfl rfl rfl rfl ?_
                      refine Ew_of (pc' := 204) (fun _ => x_iload rfl l191_8) ?_
                      refine Ew_of (pc' := 205) (fun _ => x_aload_n rfl l191_0) ?_
                      refine w_gT H (o := 5) (t := 1) rfl (H.perm 5 rfl) rfl rfl rfl rfl rfl rfl ?_
                      refine w_gT H (o := 1) (t := 14) rfl (H.perm 1 rfl) rfl rfl rfl rfl rfl rfl ?_
                      refine Ew_of (pc' := 212) (fun _ => x_iload_n rfl l191_3) ?_
                      refine w_ifne (t := 225) rfl rfl (show inr ((v5 % 4)) by omega) (fun b108 => ?_) (fun b108 => ?_)
                      · refine Ew_of (pc' := 226) (fun _ => x_aload_n rfl l191_0) ?_
                        refine w_gI H (o := 5) (w := (u5_25 + tc81_0)) rfl (H.perm 5 rfl) rfl rfl rfl (fun _ => rfl) ((hS_191 5 25 rfl).trans (hS_c167 5 25 rfl)) ?_
                        refine w_lI H (o := 14) (n := 65536) rfl (H.perm 14 rfl) rfl rfl (H.fix 14 rfl rfl) (show 0 ≤ (u5_25 + tc81_0) ∧ (u5_25 + tc81_0) < ((65536 : Nat) : Int) by omega) (by decide) (fun v109 ev109 qv109 => ?_)
                        have qv109 : (0 : Int) ≤ v109 ∧ v109 ≤ 255 := qv109
                        have ev109 : (A 14) ((u5_25 + tc81_0)) = v109 := (congrFun ((funext (hA_191 14 rfl)).trans ((funext (hA_c167 14 rfl)).trans ((funext (hA_c126 14 rfl)).trans ((funext (hA102 14 rfl)).trans (funext (hA_c81 14 rfl)))))) ((u5_25 + tc81_0))).symm.trans ev109
                        refine w_sI H (o := 46) (n := 131072) rfl (H.perm 46 rfl) rfl rfl (H.fix 46 rfl rfl) (show 0 ≤ x191_8 ∧ x191_8 < ((131072 : Nat) : Int) by omega) (by decide) (show (0 : Int) ≤ v109 ∧ v109 ≤ 255 by omega) (fun σ H => ?_)
                        refine Ew_of (pc' := 234) (fun _ => x_iinc (len := 3) rfl (l191_8)) ?_
                        refine Ew_of (pc' := 191) (fun _ => x_goto rfl rfl) ?_
                        exact ih191 _ (by omega) _ σ _ _ ((x191_8 + 1)) (rk_o (l191_0) rfl rfl) (rk_o (l191_3) rfl rfl) (rk_o (l191_6) rfl rfl) (rk_o (l191_7) rfl rfl) (rk_s) H (hS_191) (SA_upd (hA_191) rfl)   (show inr ((x191_8 + 1)) by omega) (show (0) ≤ ((x191_8 + 1)) by omega) (show ((x191_8 + 1)) ≤ (0) ∨ ((x191_8 + 1)) ≤ (((z103 / tc126_0))) by omega) rfl
                      · refine Ew_of (pc' := 216) (fun _ => x_aload_n rfl l191_0) ?_
                        refine w_gI H (o := 5) (w := (u5_25 + tc81_0)) rfl (H.perm 5 rfl) rfl rfl rfl (fun _ => rfl) ((hS_191 5 25 rfl).trans (hS_c167 5 25 rfl)) ?_
                        refine Ew_of (pc' := 221) (fun _ => x_iload rfl l191_8) ?_
                        refine w_iadd rfl ?_
                        refine Ew_of (pc' := 229) (fun _ => x_goto rfl rfl) ?_
                        refine w_lI H (o := 14) (n := 65536) rfl (H.perm 14 rfl) rfl rfl (H.fix 14 rfl rfl) (show 0 ≤ ((u5_25 + tc81_0) + x191_8) ∧ ((u5_25 + tc81_0) + x191_8) < ((65536 : Nat) : Int) by omega) (by decide) (fun v110 ev110 qv110 => ?_)
                        have qv110 : (0 : Int) ≤ v110 ∧ v110 ≤ 255 := qv110
                        have ev110 : (A 14) (((u5_25 + tc81_0) + x191_8)) = v110 := (congrFun ((funext (hA_191 14 rfl)).trans ((funext (hA_c167 14 rfl)).trans ((funext (hA_c126 14 rfl)).trans ((funext (hA102 14 rfl)).trans (funext (hA_c81 14 rfl)))))) (((u5_25 + tc81_0) + x191_8))).symm.trans ev110
                        refine w_sI H (o := 46) (n := 131072) rfl (H.perm 46 rfl) rfl rfl (H.fix 46 rfl rfl) (show 0 ≤ x191_8 ∧ x191_8 < ((131072 : Nat) : Int) by omega) (by decide) (show (0 : Int) ≤ v110 ∧ v110 ≤ 255 by omega) (fun σ H => ?_)
                        refine Ew_of (pc' := 234) (fun _ => x_iinc (len := 3) rfl (l191_8)) ?_
                        refine Ew_of (pc' := 191) (fun _ => x_goto rfl rfl) ?_
                        exact ih191 _ (by omega) _ σ _ _ ((x191_8 + 1)) (rk_o (l191_0) rfl rfl) (rk_o (l191_3) rfl rfl) (rk_o (l191_6) rfl rfl) (rk_o (l191_7) rfl rfl) (rk_s) H (hS_191) (SA_upd (hA_191) rfl)   (show inr ((x191_8 + 1)) by omega) (show (0) ≤ ((x191_8 + 1)) by omega) (show ((x191_8 + 1)) ≤ (0) ∨ ((x191_8 + 1)) ≤ (((z103 / tc126_0))) by omega) rfl
                · refine Ew_of (pc' := 181) (fun _ => x_aload_n rfl (rk_o (lc167_0) rfl rfl)) ?_
                  refine Ew_of (pc' := 183) (fun _ => x_bipush (z := 10) rfl (by decide)) ?_
                  refine Ew_of (pc' := 184) (fun _ => x_iload_n rfl (rk_o (lc167_1) rfl rfl)) ?_
                  refine w_inv H (o := 5) rfl rfl rfl (H.perm 5 rfl) rfl rfl (by rfl) (M282 H (show inr (10) by omega) (show inr (a1) by omega) (show 0 ≤ (10) ∧ (10) ≤ 20 by omega) (show 0 ≤ (a1) ∧ (a1) ≤ 65536 by omega) (fun z115 σ F111 A112 H hS113 hA114 pz115_0 pz115_1 => ⟨rretB rfl pz115_0, ?_⟩))
                  exact w_ireturn rfl (k (z115) σ _ _ H (SF_trans (SF_trans (SF_upd (SF_trans (SF_trans (SF_trans (SF_refl) hS_c81 (any_sub rfl)) hS101 (any_sub rfl)) hS_c126 (any_sub rfl)) rfl) hS_c167 (any_sub rfl)) hS113 (any_sub rfl)) (SA_trans (SA_trans (SA_trans (SA_trans (SA_trans (SA_refl) hA_c81 (any_subA rfl)) hA102 (any_subA rfl)) hA_c126 (any_subA rfl)) hA_c167 (any_subA rfl)) hA114 (any_subA rfl)) ((u5_25 + tc81_0)) (((hS113 5 25 rfl).trans (hS_c167 5 25 rfl))) (u5_39) (((((((hS113 5 39 rfl).trans (hS_c167 5 39 rfl)).trans (hS_c126 5 39 rfl)).trans (hS101 5 39 rfl)).trans (hS_c81 5 39 rfl)).trans (eu5_39))) (show (z115) = 0 ∨ (z115) = 1 by omega) (show (z115) = 1 → (u5_25) ≤ ((u5_25 + tc81_0)) ∧ ((u5_25 + tc81_0)) ≤ a1 by omega) (show 0 ≤ (u5_39) ∧ (u5_39) ≤ 131072 by omega))
              refine w_ifne (t := 166) rfl rfl (show inr ((v5 % 4)) by omega) (fun b116 => ?_) (fun b116 => ?_)
              · refine Ew_of (pc' := 167) (fun _ => x_iconst rfl) ?_
                exact hc167 (1) _ σ _ _  (rk_o (lc126_0) rfl rfl) (rk_o (lc126_1) rfl rfl) (rk_o (lc126_3) rfl rfl) (rk_s) H (SF_refl) (SA_refl)   (show inr (1) by omega) (show (((v5 % 4)) ≠ (0) ∧ (1) = (1)) ∨ (((v5 % 4)) = (0) ∧ (1) = ((z103 / tc126_0))) by omega)
              · refine Ew_of (pc' := 163) (fun _ => x_iload rfl rk_s) ?_
                refine Ew_of (pc' := 167) (fun _ => x_goto rfl rfl) ?_
                exact hc167 ((z103 / tc126_0)) _ σ _ _  (rk_o (lc126_0) rfl rfl) (rk_o (lc126_1) rfl rfl) (rk_o (lc126_3) rfl rfl) (rk_s) H (SF_refl) (SA_refl)   (show inr ((z103 / tc126_0)) by omega) (show (((v5 % 4)) ≠ (0) ∧ ((z103 / tc126_0)) = (1)) ∨ (((v5 % 4)) = (0) ∧ ((z103 / tc126_0)) = ((z103 / tc126_0))) by omega)
            · refine Ew_of (pc' := 150) (fun _ => x_aload_n rfl (rk_o (lc126_0) rfl rfl)) ?_
              refine Ew_of (pc' := 152) (fun _ => x_bipush (z := 11) rfl (by decide)) ?_
              refine Ew_of (pc' := 153) (fun _ => x_iload_n rfl (rk_o (lc126_2) rfl rfl)) ?_
              refine w_inv H (o := 5) rfl rfl rfl (H.perm 5 rfl) rfl rfl (by rfl) (M282 H (show inr (11) by omega) (show inr (u5_25) by omega) (show 0 ≤ (11) ∧ (11) ≤ 20 by omega) (show 0 ≤ (u5_25) ∧ (u5_25) ≤ 65536 by omega) (fun z121 σ F117 A118 H hS119 hA120 pz121_0 pz121_1 => ⟨rretB rfl pz121_0, ?_⟩))
              exact w_ireturn rfl (k (z121) σ _ _ H (SF_trans (SF_upd (SF_trans (SF_trans (SF_trans (SF_refl) hS_c81 (any_sub rfl)) hS101 (any_sub rfl)) hS_c126 (any_sub rfl)) rfl) hS119 (any_sub rfl)) (SA_trans (SA_trans (SA_trans (SA_trans (SA_refl) hA_c81 (any_subA rfl)) hA102 (any_subA rfl)) hA_c126 (any_subA rfl)) hA120 (any_subA rfl)) ((u5_25 + tc81_0)) ((hS119 5 25 rfl)) (u5_39) ((((((hS119 5 39 rfl).trans (hS_c126 5 39 rfl)).trans (hS101 5 39 rfl)).trans (hS_c81 5 39 rfl)).trans (eu5_39))) (show (z121) = 0 ∨ (z121) = 1 by omega) (show (z121) = 1 → (u5_25) ≤ ((u5_25 + tc81_0)) ∧ ((u5_25 + tc81_0)) ≤ a1 by omega) (show 0 ≤ (u5_39) ∧ (u5_39) ≤ 131072 by omega))
          refine w_icmpne (t := 124) rfl rfl (show inr (tc81_0) by omega) (show inr (1) by omega) (fun b122 => ?_) (fun b122 => ?_)
          · refine Ew_of (pc' := 126) (fun _ => x_bipush (z := 16) rfl (by decide)) ?_
            exact hc126 (16) _ σ _ _  (rk_o (lc81_0) rfl rfl) (rk_o (lc81_1) rfl rfl) (rk_o (lc81_2) rfl rfl) (rk_o (lc81_3) rfl rfl) (rk_s) H (SF_refl) (SA_refl)   (show inr (16) by omega) (show ((tc81_0) ≠ (1) ∧ (16) = (16)) ∨ ((tc81_0) = (1) ∧ (16) = (8)) by omega)
          · refine Ew_of (pc' := 121) (fun _ => x_bipush (z := 8) rfl (by decide)) ?_
            refine Ew_of (pc' := 126) (fun _ => x_goto rfl rfl) ?_
            exact hc126 (8) _ σ _ _  (rk_o (lc81_0) rfl rfl) (rk_o (lc81_1) rfl rfl) (rk_o (lc81_2) rfl rfl) (rk_o (lc81_3) rfl rfl) (rk_s) H (SF_refl) (SA_refl)   (show inr (8) by omega) (show ((tc81_0) ≠ (1) ∧ (8) = (16)) ∨ ((tc81_0) = (1) ∧ (8) = (8)) by omega)
        · refine Ew_of (pc' := 95) (fun _ => x_aload_n rfl (rk_o (lc81_0) rfl rfl)) ?_
          refine Ew_of (pc' := 97) (fun _ => x_bipush (z := 10) rfl (by decide)) ?_
          refine Ew_of (pc' := 98) (fun _ => x_iload_n rfl (rk_o (lc81_1) rfl rfl)) ?_
          refine w_inv H (o := 5) rfl rfl rfl (H.perm 5 rfl) rfl rfl (by rfl) (M282 H (show inr (10) by omega) (show inr (a1) by omega) (show 0 ≤ (10) ∧ (10) ≤ 20 by omega) (show 0 ≤ (a1) ∧ (a1) ≤ 65536 by omega) (fun z127 σ F123 A124 H hS125 hA126 pz127_0 pz127_1 => ⟨rretB rfl pz127_0, ?_⟩))
          exact w_ireturn rfl (k (z127) σ _ _ H (SF_trans (SF_trans (SF_refl) hS_c81 (any_sub rfl)) hS125 (any_sub rfl)) (SA_trans (SA_trans (SA_refl) hA_c81 (any_subA rfl)) hA126 (any_subA rfl)) (u5_25) ((((hS125 5 25 rfl).trans (hS_c81 5 25 rfl)).trans (eu5_25))) (u5_39) ((((hS125 5 39 rfl).trans (hS_c81 5 39 rfl)).trans (eu5_39))) (show (z127) = 0 ∨ (z127) = 1 by omega) (show (z127) = 1 → (u5_25) ≤ (u5_25) ∧ (u5_25) ≤ a1 by omega) (show 0 ≤ (u5_39) ∧ (u5_39) ≤ 131072 by omega))
      refine w_ifne (t := 70) rfl rfl (show inr ((((v6 / 4) % 4) % 2)) by omega) (fun b128 => ?_) (fun b128 => ?_)
      · refine Ew_of (pc' := 72) (fun _ => x_iload rfl rk_s) ?_
        refine Ew_of (pc' := 73) (fun _ => x_iconst rfl) ?_
        refine w_icmpne (t := 80) rfl rfl (show inr (((v6 / 4) % 4)) by omega) (show inr (1) by omega) (fun b129 => ?_) (fun b129 => ?_)
        · refine Ew_of (pc' := 81) (fun _ => x_iconst rfl) ?_
          exact hc81 (3) _ σ _ _  (rk_o (rk_o (rk_o (rfl) rfl rfl) rfl rfl) rfl rfl) (rk_o (rk_o (rk_o (rfl) rfl rfl) rfl rfl) rfl rfl) (rk_o (rk_o (rk_s) rfl rfl) rfl rfl) (rk_o (rk_s) rfl rfl) H (SF_refl) (SA_refl)   (show inr (3) by omega) (show (((((v6 / 4) % 4) % 2)) ≠ (0) ∧ (((v6 / 4) % 4)) ≠ (1) ∧ (3) = (3)) ∨ (((((v6 / 4) % 4) % 2)) ≠ (0) ∧ (((v6 / 4) % 4)) = (1) ∧ (3) = (2)) ∨ (((((v6 / 4) % 4) % 2)) = (0) ∧ (3) = (1)) by omega)
        · refine Ew_of (pc' := 77) (fun _ => x_iconst rfl) ?_
          refine Ew_of (pc' := 81) (fun _ => x_goto rfl rfl) ?_
          exact hc81 (2) _ σ _ _  (rk_o (rk_o (rk_o (rfl) rfl rfl) rfl rfl) rfl rfl) (rk_o (rk_o (rk_o (rfl) rfl rfl) rfl rfl) rfl rfl) (rk_o (rk_o (rk_s) rfl rfl) rfl rfl) (rk_o (rk_s) rfl rfl) H (SF_refl) (SA_refl)   (show inr (2) by omega) (show (((((v6 / 4) % 4) % 2)) ≠ (0) ∧ (((v6 / 4) % 4)) ≠ (1) ∧ (2) = (3)) ∨ (((((v6 / 4) % 4) % 2)) ≠ (0) ∧ (((v6 / 4) % 4)) = (1) ∧ (2) = (2)) ∨ (((((v6 / 4) % 4) % 2)) = (0) ∧ (2) = (1)) by omega)
      · refine Ew_of (pc' := 67) (fun _ => x_iconst rfl) ?_
        refine Ew_of (pc' := 81) (fun _ => x_goto rfl rfl) ?_
        exact hc81 (1) _ σ _ _  (rk_o (rk_o (rk_o (rfl) rfl rfl) rfl rfl) rfl rfl) (rk_o (rk_o (rk_o (rfl) rfl rfl) rfl rfl) rfl rfl) (rk_o (rk_o (rk_s) rfl rfl) rfl rfl) (rk_o (rk_s) rfl rfl) H (SF_refl) (SA_refl)   (show inr (1) by omega) (show (((((v6 / 4) % 4) % 2)) ≠ (0) ∧ (((v6 / 4) % 4)) ≠ (1) ∧ (1) = (3)) ∨ (((((v6 / 4) % 4) % 2)) ≠ (0) ∧ (((v6 / 4) % 4)) = (1) ∧ (1) = (2)) ∨ (((((v6 / 4) % 4) % 2)) = (0) ∧ (1) = (1)) by omega)
  · refine Ew_of (pc' := 14) (fun _ => x_aload_n rfl (rk_o (rfl) rfl rfl)) ?_
    refine Ew_of (pc' := 16) (fun _ => x_bipush (z := 10) rfl (by decide)) ?_
    refine Ew_of (pc' := 17) (fun _ => x_iload_n rfl (rk_o (rfl) rfl rfl)) ?_
    refine w_inv H (o := 5) rfl rfl rfl (H.perm 5 rfl) rfl rfl (by rfl) (M282 H (show inr (10) by omega) (show inr (a1) by omega) (show 0 ≤ (10) ∧ (10) ≤ 20 by omega) (show 0 ≤ (a1) ∧ (a1) ≤ 65536 by omega) (fun z134 σ F130 A131 H hS132 hA133 pz134_0 pz134_1 => ⟨rretB rfl pz134_0, ?_⟩))
    exact w_ireturn rfl (k (z134) σ _ _ H (SF_trans (SF_refl) hS132 (any_sub rfl)) (SA_trans (SA_refl) hA133 (any_subA rfl)) (u5_25) (((hS132 5 25 rfl).trans (eu5_25))) (u5_39) (((hS132 5 39 rfl).trans (eu5_39))) (show (z134) = 0 ∨ (z134) = 1 by omega) (show (z134) = 1 → (u5_25) ≤ (u5_25) ∧ (u5_25) ≤ a1 by omega) (show 0 ≤ (u5_39) ∧ (u5_39) ≤ 131072 by omega))
