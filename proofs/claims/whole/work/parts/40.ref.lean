/-- Reader.readLiterals -/
theorem M291 {σ0 σ : rS} {D N : Nat → Nat} {F : hF} {A : hA} {d c s : Nat} {Q : wQ} (H : HS σ0 σ D N F A) {a1 : Int} (u1_1 : Int) (eu1_1 : F 1 1 = u1_1) (u5_25 : Int) (eu5_25 : F 5 25 = u5_25) (u5_39 : Int) (eu5_39 : F 5 39 = u5_39) (h0 : inr (a1)) (h1 : 0 ≤ (u5_25) ∧ (u5_25) ≤ (a1) ∧ (a1) ≤ (u1_1)) (h2 : (u5_39) = 0) (k : ∀ (z : Int) σ F' A', HS σ0 σ D N F' A' → SF [(5, 10), (5, 19), (5, 25), (5, 30), (5, 31), (5, 39), (5, 44), (5, 45)] F F' → SA [31, 32, 39, 40, 41, 42, 43, 44, 46] A A' → ∀ y5_25 : Int, F' 5 25 = y5_25 → ∀ y5_39 : Int, F' 5 39 = y5_39 → ((z) = 0 ∨ (z) = 1) → ((z) = 1 → (u5_25) ≤ (y5_25) ∧ (y5_25) ≤ (a1)) → (0 ≤ (y5_39) ∧ (y5_39) ≤ 131072) → Q (some (I z)) σ c s) : Ew 291 (d + 4) 0 (rargs 0 [.ref (D 5), I a1]) [] σ c s Q := by
  have r1 : (0 : Int) ≤ u1_1 ∧ u1_1 ≤ 65536 := by have h1 : (0 : Int) ≤ F 1 1 ∧ F 1 1 ≤ 65536 := H.frng 1 1; rw [show F 1 1 = u1_1 from (eu1_1)] at h1; exact h1
  have r2 : (0 : Int) ≤ u5_25 ∧ u5_25 ≤ 65536 := by have h1 : (0 : Int) ≤ F 5 25 ∧ F 5 25 ≤ 65536 := H.frng 5 25; rw [show F 5 25 = u5_25 from (eu5_25)] at h1; exact h1
  have r3 : (0 : Int) ≤ u5_39 ∧ u5_39 ≤ 131072 := by have h1 : (0 : Int) ≤ F 5 39 ∧ F 5 39 ≤ 131072 := H.frng 5 39; rw [show F 5 39 = u5_39 from (eu5_39)] at h1; exact h1
  refine Ew_of (pc' := 1) (fun _ => x_aload_n rfl rfl) ?_
  refine w_gI H (o := 5) (w := u5_25) rfl (H.perm 5 rfl) rfl rfl rfl (fun _ => rfl) (eu5_25) ?_
  refine Ew_of (pc' := 5) (fun _ => x_istore_n rfl) ?_
  refine Ew_of (pc' := 6) (fun _ => x_aload_n rfl (rk_o (rfl) rfl rfl)) ?_
  refine w_gI H (o := 5) (w := u5_25) rfl (H.perm 5 rfl) rfl rfl rfl (fun _ => rfl) (eu5_25) ?_
  refine Ew_of (pc' := 10) (fun _ => x_iload_n rfl (rk_o (rfl) rfl rfl)) ?_
  refine w_icmplt (t := 21) rfl rfl (show inr (u5_25) by omega) (show inr (a1) by omega) (fun b4 => ?_) (fun b4 => ?_)
  · refine Ew_of (pc' := 22) (fun _ => x_aload_n rfl (rk_o (rfl) rfl rfl)) ?_
    refine w_gT H (o := 5) (t := 1) rfl (H.perm 5 rfl) rfl rfl rfl rfl rfl rfl ?_
    refine w_gT H (o := 1) (t := 14) rfl (H.perm 1 rfl) rfl rfl rfl rfl rfl rfl ?_
    refine Ew_of (pc' := 29) (fun _ => x_aload_n rfl (rk_o (rfl) rfl rfl)) ?_
    refine w_gI H (o := 5) (w := u5_25) rfl (H.perm 5 rfl) rfl rfl rfl (fun _ => rfl) (eu5_25) ?_
    refine w_lI H (o := 14) (n := 65536) rfl (H.perm 14 rfl) rfl rfl (H.fix 14 rfl rfl) (show 0 ≤ u5_25 ∧ u5_25 < ((65536 : Nat) : Int) by omega) (by decide) (fun v5 ev5 qv5 => ?_)
    have qv5 : (0 : Int) ≤ v5 ∧ v5 ≤ 255 := qv5
    have ev5 : (A 14) (u5_25) = v5 := (congrFun (rfl : A 14 = A 14) (u5_25)).symm.trans ev5
    refine Ew_of (pc' := 34) (fun _ => x_iconst rfl) ?_
    refine w_irem rfl (show inr (v5) ∧ 0 ≤ v5 by omega) (show inr (4) ∧ 0 < 4 by omega) ?_
    refine Ew_of (pc' := 36) (fun _ => x_istore_n rfl) ?_
    refine Ew_of (pc' := 37) (fun _ => x_aload_n rfl (rk_o (rk_o (rfl) rfl rfl) rfl rfl)) ?_
    refine w_gT H (o := 5) (t := 1) rfl (H.perm 5 rfl) rfl rfl rfl rfl rfl rfl ?_
    refine w_gT H (o := 1) (t := 14) rfl (H.perm 1 rfl) rfl rfl rfl rfl rfl rfl ?_
    refine Ew_of (pc' := 44) (fun _ => x_aload_n rfl (rk_o (rk_o (rfl) rfl rfl) rfl rfl)) ?_
    refine w_gI H (o := 5) (w := u5_25) rfl (H.perm 5 rfl) rfl rfl rfl (fun _ => rfl) (eu5_25) ?_
    refine w_lI H (o := 14) (n := 65536) rfl (H.perm 14 rfl) rfl rfl (H.fix 14 rfl rfl) (show 0 ≤ u5_25 ∧ u5_25 < ((65536 : Nat) : Int) by omega) (by decide) (fun v6 ev6 qv6 => ?_)
    have qv6 : (0 : Int) ≤ v6 ∧ v6 ≤ 255 := qv6
    have ev6 : (A 14) (u5_25) = v6 := (congrFun (rfl : A 14 = A 14) (u5_25)).symm.trans ev6
    refine Ew_of (pc' := 49) (fun _ => x_iconst rfl) ?_
    refine w_idiv rfl (show inr (v6) ∧ 0 ≤ v6 by omega) (show inr (4) ∧ 0 < 4 by omega) ?_
    refine Ew_of (pc' := 51) (fun _ => x_iconst rfl) ?_
    refine w_irem rfl (show inr ((v6 / 4)) ∧ 0 ≤ (v6 / 4) by omega) (show inr (4) ∧ 0 < 4 by omega) ?_
    refine Ew_of (pc' := 54) (fun _ => x_istore rfl) ?_
    refine Ew_of (pc' := 55) (fun _ => x_iload_n rfl (rk_o (rk_s) rfl rfl)) ?_
    refine Ew_of (pc' := 56) (fun _ => x_iconst rfl) ?_
    refine w_icmpge (t := 256) rfl rfl (show inr ((v5 % 4)) by omega) (show inr (2) by omega) (fun b7 => ?_) (fun b7 => ?_)
    · refine Ew_of (pc' := 258) (fun _ => x_iload rfl rk_s) ?_
      refine Ew_of (pc' := 259) (fun _ => x_iconst rfl) ?_
      have hc270 : ∀ (tc270_0 : Int), ∀ (ls : rO) (σ : rS) (F_c270 : hF) (A_c270 : hA) , rlook ls 0 = some (.ref (D 5)) → rlook ls 1 = some (I (a1)) → rlook ls 2 = some (I (u5_25)) → rlook ls 3 = some (I ((v5 % 4))) → rlook ls 4 = some (I (((v6 / 4) % 4))) → HS σ0 σ D N F_c270 A_c270 → SF [] F F_c270 → SA [] A A_c270 → (inr (tc270_0)) → (((((v6 / 4) % 4)) ≥ (2) ∧ (tc270_0) = ((((v6 / 4) % 4) + 2))) ∨ ((((v6 / 4) % 4)) < (2) ∧ (tc270_0) = (3))) → Ew 291 (d + 4) 270 ls [I (tc270_0)] σ c s Q := by
       as_aux_lemma =>
        intro tc270_0 ls σ F_c270 A_c270  lc270_0 lc270_1 lc270_2 lc270_3 lc270_4 H hS_c270 hA_c270   jc270_0 jc270_1
        refine Ew_of (pc' := 272) (fun _ => x_istore rfl) ?_
        refine Ew_of (pc' := 274) (fun _ => x_iload rfl (rk_o (lc270_4) rfl rfl)) ?_
        refine Ew_of (pc' := 275) (fun _ => x_iconst rfl) ?_
        have hc296 : ∀ (tc296_0 : Int), ∀ (ls : rO) (σ : rS) (F_c296 : hF) (A_c296 : hA) , rlook ls 0 = some (.ref (D 5)) → rlook ls 1 = some (I (a1)) → rlook ls 2 = some (I (u5_25)) → rlook ls 3 = some (I ((v5 % 4))) → rlook ls 4 = some (I (((v6 / 4) % 4))) → rlook ls 5 = some (I (tc270_0)) → HS σ0 σ D N F_c296 A_c296 → SF [] F_c270 F_c296 → SA [] A_c270 A_c296 → (inr (tc296_0)) → (((((v6 / 4) % 4)) ≥ (2) ∧ (((v6 / 4) % 4)) ≠ (2) ∧ (tc296_0) = (18)) ∨ ((((v6 / 4) % 4)) ≥ (2) ∧ (((v6 / 4) % 4)) = (2) ∧ (tc296_0) = (14)) ∨ ((((v6 / 4) % 4)) < (2) ∧ (tc296_0) = (10))) → Ew 291 (d + 4) 296 ls [I (tc296_0)] σ c s Q := by
         as_aux_lemma =>
          intro tc296_0 ls σ F_c296 A_c296  lc296_0 lc296_1 lc296_2 lc296_3 lc296_4 lc296_5 H hS_c296 hA_c296   jc296_0 jc296_1
          refine Ew_of (pc' := 298) (fun _ => x_istore rfl) ?_
          refine Ew_of (pc' := 299) (fun _ => x_iload_n rfl (rk_o (lc296_1) rfl rfl)) ?_
          refine Ew_of (pc' := 300) (fun _ => x_aload_n rfl (rk_o (lc296_0) rfl rfl)) ?_
          refine w_gI H (o := 5) (w := u5_25) rfl (H.perm 5 rfl) rfl rfl rfl (fun _ => rfl) (((hS_c296 5 25 rfl).trans (hS_c270 5 25 rfl)).trans (eu5_25)) ?_
          refine w_isub rfl ?_
          refine Ew_of (pc' := 306) (fun _ => x_iload rfl (rk_o (lc296_5) rfl rfl)) ?_
          refine w_icmpge (t := 317) rfl rfl (show inr ((a1 - u5_25)) by omega) (show inr (tc270_0) by omega) (fun b8 => ?_) (fun b8 => ?_)
          · refine Ew_of (pc' := 318) (fun _ => x_aload_n rfl (rk_o (lc296_0) rfl rfl)) ?_
            refine Ew_of (pc' := 319) (fun _ => x_aload_n rfl (rk_o (lc296_0) rfl rfl)) ?_
            refine w_gI H (o := 5) (w := u5_25) rfl (H.perm 5 rfl) rfl rfl rfl (fun _ => rfl) (((hS_c296 5 25 rfl).trans (hS_c270 5 25 rfl)).trans (eu5_25)) ?_
            refine Ew_of (pc' := 324) (fun _ => x_iload rfl (rk_o (lc296_5) rfl rfl)) ?_
            refine w_inv H (o := 5) rfl rfl rfl (H.perm 5 rfl) rfl rfl (by rfl) (M257 H (A 14) ((funext (hA_c296 14 rfl)).trans (funext (hA_c270 14 rfl))) (show inr (u5_25) by omega) (show inr (tc270_0) by omega) (show 0 ≤ (u5_25) ∧ 0 ≤ (tc270_0) ∧ (tc270_0) ≤ 8 ∧ (u5_25) + (tc270_0) ≤ 65536 by omega) (fun z13 σ F9 A10 H hS11 hA12 pz13_0 pz13_1 pz13_2 pz13_3 pz13_4 pz13_5 pz13_6 pz13_7 pz13_8 pz13_9 => ⟨rfl, ?_⟩))
            refine Ew_of (pc' := 328) (fun _ => x_iconst rfl) ?_
            refine w_lshrK 4 16 (by decide) (by decide) rfl (show inrJ (z13) by omega) (fun z14 gz14 dz14 => ?_)
            refine Ew_of (pc' := 331) (fun _ => x_lstore rfl) ?_
            have : p2 ((tc296_0)) ≤ p2 18 := p2_mono (by omega)
            have : p2 18 = 262144 := by decide
            have := p2_pos ((tc296_0))
            refine Ew_of (pc' := 333) (fun _ => x_lload rfl rk2_s) ?_
            refine Ew_of (pc' := 334) (fun _ => x_lconst (z := 1) rfl (by decide)) ?_
            refine Ew_of (pc' := 336) (fun _ => x_iload rfl (rk2_o (rk_s) rfl rfl)) ?_
            refine w_lshl1 rfl (show 0 ≤ tc296_0 ∧ tc296_0 ≤ 63 by omega) ?_
            refine Ew_of (pc' := 338) (fun _ => x_lconst (z := 1) rfl (by decide)) ?_
            refine w_lsub rfl ?_
            refine w_land rfl (show inrJ (z14) by omega) (show inrJ ((p2 (tc296_0) - 1)) by omega) (fun z16 gz16 gaz16 gbz16 => ?_)
            refine w_l2i rfl ?_
            refine Ew_of (pc' := 343) (fun _ => x_istore rfl) ?_
            refine Ew_of (pc' := 345) (fun _ => x_lload rfl (rk_o (rk2_s) rfl rfl)) ?_
            refine Ew_of (pc' := 347) (fun _ => x_iload rfl (rk_o (rk2_o (rk_s) rfl rfl) rfl rfl)) ?_
            refine w_lshrA rfl (fun z17 gz17 => ?_)
            refine Ew_of (pc' := 349) (fun _ => x_lconst (z := 1) rfl (by decide)) ?_
            refine Ew_of (pc' := 351) (fun _ => x_iload rfl (rk_o (rk2_o (rk_s) rfl rfl) rfl rfl)) ?_
            refine w_lshl1 rfl (show 0 ≤ tc296_0 ∧ tc296_0 ≤ 63 by omega) ?_
            refine Ew_of (pc' := 353) (fun _ => x_lconst (z := 1) rfl (by decide)) ?_
            refine w_lsub rfl ?_
            refine w_land rfl (show inrJ (z17) by omega) (show inrJ ((p2 (tc296_0) - 1)) by omega) (fun z19 gz19 gaz19 gbz19 => ?_)
            refine w_l2i rfl ?_
            refine Ew_of (pc' := 358) (fun _ => x_istore rfl) ?_
            refine Ew_of (pc' := 359) (fun _ => x_aload_n rfl (rk_o (rk_o (rk2_o (rk_o (lc296_0) rfl rfl) rfl rfl) rfl rfl) rfl rfl)) ?_
            refine Ew_of (pc' := 360) (fun _ => x_dup rfl rfl) ?_
            refine w_gI H (o := 5) (w := u5_25) rfl (H.perm 5 rfl) rfl rfl rfl (fun _ => rfl) ((((hS11 5 25 rfl).trans (hS_c296 5 25 rfl)).trans (hS_c270 5 25 rfl)).trans (eu5_25)) ?_
            refine Ew_of (pc' := 365) (fun _ => x_iload rfl (rk_o (rk_o (rk2_o (rk_o (lc296_5) rfl rfl) rfl rfl) rfl rfl) rfl rfl)) ?_
            refine w_iadd rfl ?_
            refine w_pI H (o := 5) rfl rfl (H.perm 5 rfl) rfl rfl rfl (fun _ => rfl) rfl (show (0 : Int) ≤ (u5_25 + tc270_0) ∧ (u5_25 + tc270_0) ≤ 65536 by omega) (fun σ H => ?_)
            refine Ew_of (pc' := 371) (fun _ => x_iload rfl (rk_o (rk_s) rfl rfl)) ?_
            refine Ew_of (pc' := 372) (fun _ => x_iconst rfl) ?_
            refine w_iadd rfl ?_
            refine Ew_of (pc' := 374) (fun _ => x_iconst rfl) ?_
            refine w_idiv rfl (show inr ((z16 + 3)) ∧ 0 ≤ (z16 + 3) by omega) (show inr (4) ∧ 0 < 4 by omega) ?_
            refine Ew_of (pc' := 377) (fun _ => x_istore rfl) ?_
            refine Ew_of (pc' := 379) (fun _ => x_iload rfl (rk_o (rk_o (rk_s) rfl rfl) rfl rfl)) ?_
            refine Ew_of (pc' := 380) (fun _ => x_aload_n rfl (rk_o (rk_o (rk_o (rk2_o (rk_o (lc296_0) rfl rfl) rfl rfl) rfl rfl) rfl rfl) rfl rfl)) ?_
            have r20 : (0 : Int) ≤ F 5 29 ∧ F 5 29 ≤ 131072 := by have h1 : (0 : Int) ≤ (updF F9 5 25 ((u5_25 + tc270_0))) 5 29 ∧ (updF F9 5 25 ((u5_25 + tc270_0))) 5 29 ≤ 131072 := H.frng 5 29; rw [show (updF F9 5 25 ((u5_25 + tc270_0))) 5 29 = F 5 29 from (((hS11 5 29 rfl).trans (hS_c296 5 29 rfl)).trans (hS_c270 5 29 rfl))] at h1; exact h1
            refine w_gI H (o := 5) (w := F 5 29) rfl (H.perm 5 rfl) rfl rfl rfl (fun _ => rfl) (((hS11 5 29 rfl).trans (hS_c296 5 29 rfl)).trans (hS_c270 5 29 rfl)) ?_
            refine w_icmpgt (t := 400) rfl rfl (show inr (z16) by omega) (show inr (F 5 29) by omega) (fun b21 => ?_) (fun b21 => ?_)
            · refine Ew_of (pc' := 401) (fun _ => x_aload_n rfl (rk_o (rk_o (rk_o (rk2_o (rk_o (lc296_0) rfl rfl) rfl rfl) rfl rfl) rfl rfl) rfl rfl)) ?_
              refine Ew_of (pc' := 403) (fun _ => x_bipush (z := 11) rfl (by decide)) ?_
              refine Ew_of (pc' := 404) (fun _ => x_iload_n rfl (rk_o (rk_o (rk_o (rk2_o (rk_o (lc296_2) rfl rfl) rfl rfl) rfl rfl) rfl rfl) rfl rfl)) ?_
              refine w_inv H (o := 5) rfl rfl rfl (H.perm 5 rfl) rfl rfl (by rfl) (M282 H (show inr (11) by omega) (show inr (u5_25) by omega) (show 0 ≤ (11) ∧ (11) ≤ 20 by omega) (show 0 ≤ (u5_25) ∧ (u5_25) ≤ 65536 by omega) (fun z26 σ F22 A23 H hS24 hA25 y27 ey28 y29 ey30 pz26_0 pz26_1 pz26_2 pz26_3 => ⟨rretB rfl pz26_0, ?_⟩))
              have r31 : (0 : Int) ≤ y27 ∧ y27 ≤ 20 := by have h1 : (0 : Int) ≤ F22 5 30 ∧ F22 5 30 ≤ 20 := H.frng 5 30; rw [show F22 5 30 = y27 from (ey28)] at h1; exact h1
              have r32 : (0 : Int) ≤ y29 ∧ y29 ≤ 65536 := by have h1 : (0 : Int) ≤ F22 5 31 ∧ F22 5 31 ≤ 65536 := H.frng 5 31; rw [show F22 5 31 = y29 from (ey30)] at h1; exact h1
              exact w_ireturn rfl (k (z26) σ _ _ H (SF_trans (SF_upd (SF_trans (SF_trans (SF_trans (SF_refl) hS_c270 (any_sub rfl)) hS_c296 (any_sub rfl)) hS11 (any_sub rfl)) rfl) hS24 (any_sub rfl)) (SA_trans (SA_trans (SA_trans (SA_trans (SA_refl) hA_c270 (any_subA rfl)) hA_c296 (any_subA rfl)) hA12 (any_subA rfl)) hA25 (any_subA rfl)) ((u5_25 + tc270_0)) ((hS24 5 25 rfl)) (u5_39) ((((((hS24 5 39 rfl).trans (hS11 5 39 rfl)).trans (hS_c296 5 39 rfl)).trans (hS_c270 5 39 rfl)).trans (eu5_39))) (show (z26) = 0 ∨ (z26) = 1 by omega) (show (z26) = 1 → (u5_25) ≤ ((u5_25 + tc270_0)) ∧ ((u5_25 + tc270_0)) ≤ a1 by omega) (show 0 ≤ (u5_39) ∧ (u5_39) ≤ 131072 by omega))
            · refine Ew_of (pc' := 388) (fun _ => x_iload rfl (rk_o (rk_o (rk_o (rk2_o (rk_o (lc296_4) rfl rfl) rfl rfl) rfl rfl) rfl rfl) rfl rfl)) ?_
              have hc408 : ∀ (ls : rO) (σ : rS) (F_c408 : hF) (A_c408 : hA) , rlook ls 0 = some (.ref (D 5)) → rlook ls 1 = some (I (a1)) → rlook ls 2 = some (I (u5_25)) → rlook ls 3 = some (I ((v5 % 4))) → rlook ls 4 = some (I (((v6 / 4) % 4))) → rlook ls 9 = some (I (z16)) → rlook ls 10 = some (I (z19)) → rlook ls 11 = some (I (((z16 + 3) / 4))) → HS σ0 σ D N F_c408 A_c408 → SF [] (updF F9 5 25 ((u5_25 + tc270_0))) F_c408 → SA [] A10 A_c408 → (((((v6 / 4) % 4)) ≤ (0)) ∨ ((((v6 / 4) % 4)) > (0) ∧ (z16) ≥ ((3 * ((z16 + 3) / 4))))) → Ew 291 (d + 4) 408 ls [] σ c s Q := by
               as_aux_lemma =>
                intro  ls σ F_c408 A_c408  lc408_0 lc408_1 lc408_2 lc408_3 lc408_4 lc408_9 lc408_10 lc408_11 H hS_c408 hA_c408   jc408_0
                refine Ew_of (pc' := 409) (fun _ => x_iload_n rfl lc408_3) ?_
                refine Ew_of (pc' := 410) (fun _ => x_iconst rfl) ?_
                have hc428 : ∀ (ls : rO) (σ : rS) (F_c428 : hF) (A_c428 : hA) , rlook ls 0 = some (.ref (D 5)) → rlook ls 1 = some (I (a1)) → rlook ls 3 = some (I ((v5 % 4))) → rlook ls 4 = some (I (((v6 / 4) % 4))) → rlook ls 9 = some (I (z16)) → rlook ls 10 = some (I (z19)) → rlook ls 11 = some (I (((z16 + 3) / 4))) → HS σ0 σ D N F_c428 A_c428 → SF [] F_c408 F_c428 → SA [] A_c408 A_c428 → ((((v5 % 4)) ≠ (3)) ∨ (((v5 % 4)) = (3) ∧ 0 ≤ (F 5 10) ∧ (F 5 10) ≤ 11 ∧ (F 5 10) ≠ (0))) → Ew 291 (d + 4) 428 ls [] σ c s Q := by
                 as_aux_lemma =>
                  intro  ls σ F_c428 A_c428  lc428_0 lc428_1 lc428_3 lc428_4 lc428_9 lc428_10 lc428_11 H hS_c428 hA_c428   jc428_0
                  refine Ew_of (pc' := 429) (fun _ => x_iload_n rfl lc428_1) ?_
                  refine Ew_of (pc' := 430) (fun _ => x_aload_n rfl lc428_0) ?_
                  refine w_gI H (o := 5) (w := (u5_25 + tc270_0)) rfl (H.perm 5 rfl) rfl rfl rfl (fun _ => rfl) ((hS_c428 5 25 rfl).trans (hS_c408 5 25 rfl)) ?_
                  refine w_isub rfl ?_
                  refine Ew_of (pc' := 436) (fun _ => x_iload rfl lc428_10) ?_
                  refine w_icmpge (t := 447) rfl rfl (show inr ((a1 - (u5_25 + tc270_0))) by omega) (show inr (z19) by omega) (fun b33 => ?_) (fun b33 => ?_)
                  · refine Ew_of (pc' := 448) (fun _ => x_aload_n rfl lc428_0) ?_
                    refine w_gI H (o := 5) (w := (u5_25 + tc270_0)) rfl (H.perm 5 rfl) rfl rfl rfl (fun _ => rfl) ((hS_c428 5 25 rfl).trans (hS_c408 5 25 rfl)) ?_
                    refine Ew_of (pc' := 453) (fun _ => x_iload rfl lc428_10) ?_
                    refine w_iadd rfl ?_
                    refine Ew_of (pc' := 456) (fun _ => x_istore rfl) ?_
                    have hc495 : ∀ (ls : rO) (σ : rS) (F_c495 : hF) (A_c495 : hA) , rlook ls 0 = some (.ref (D 5)) → rlook ls 4 = some (I (((v6 / 4) % 4))) → rlook ls 9 = some (I (z16)) → rlook ls 11 = some (I (((z16 + 3) / 4))) → rlook ls 12 = some (I (((u5_25 + tc270_0) + z19))) → HS σ0 σ D N F_c495 A_c495 → SF [(5, 10), (5, 19), (5, 25), (5, 44), (5, 45)] F_c428 F_c495 → SA [31, 32, 39, 40, 41, 42, 43, 44] A_c428 A_c495 → ∀ yc495_5_25 : Int, F_c495 5 25 = yc495_5_25 → (((u5_25 + tc270_0)) ≤ (yc495_5_25) ∧ (yc495_5_25) ≤ (((u5_25 + tc270_0) + z19))) → Ew 291 (d + 4) 495 ls [] σ c s Q := by
                     as_aux_lemma =>
                      intro  ls σ F_c495 A_c495  lc495_0 lc495_4 lc495_9 lc495_11 lc495_12 H hS_c495 hA_c495 yc495_5_25 eyc495_5_25  jc495_0
                      have r34 : (0 : Int) ≤ yc495_5_25 ∧ yc495_5_25 ≤ 65536 := by have h1 : (0 : Int) ≤ F_c495 5 25 ∧ F_c495 5 25 ≤ 65536 := H.frng 5 25; rw [show F_c495 5 25 = yc495_5_25 from (eyc495_5_25)] at h1; exact h1
                      refine Ew_of (pc' := 497) (fun _ => x_iload rfl lc495_4) ?_
                      refine w_ifne (t := 526) rfl rfl (show inr (((v6 / 4) % 4)) by omega) (fun b35 => ?_) (fun b35 => ?_)
                      · refine Ew_of (pc' := 527) (fun _ => x_aload_n rfl lc495_0) ?_
                        refine Ew_of (pc' := 529) (fun _ => x_iload rfl lc495_12) ?_
                        refine Ew_of (pc' := 531) (fun _ => x_iload rfl lc495_9) ?_
                        refine Ew_of (pc' := 533) (fun _ => x_iload rfl lc495_11) ?_
                        refine w_inv H (o := 5) rfl rfl rfl (H.perm 5 rfl) rfl rfl (by rfl) (M292 H (yc495_5_25) ((eyc495_5_25)) (u5_39) ((((((((hS_c495 5 39 rfl).trans (hS_c428 5 39 rfl)).trans (hS_c408 5 39 rfl)).trans (hS11 5 39 rfl)).trans (hS_c296 5 39 rfl)).trans (hS_c270 5 39 rfl)).trans (eu5_39))) (show inr (((u5_25 + tc270_0) + z19)) by omega) (show inr (z16) by omega) (show inr (((z16 + 3) / 4)) by omega) (show 0 ≤ (yc495_5_25) ∧ (yc495_5_25) ≤ (((u5_25 + tc270_0) + z19)) ∧ (((u5_25 + tc270_0) + z19)) ≤ 65536 by omega) (show 0 ≤ (((z16 + 3) / 4)) ∧ 3 * (((z16 + 3) / 4)) ≤ (z16) ∧ (z16) ≤ 131072 by omega) (show (u5_39) = 0 by omega) (fun z40 σ F36 A37 H hS38 hA39 y41 ey42 pz40_0 pz40_1 => ⟨rretB rfl pz40_0, ?_⟩))
                        have r43 : (0 : Int) ≤ y41 ∧ y41 ≤ 131072 := by have h1 : (0 : Int) ≤ F36 5 39 ∧ F36 5 39 ≤ 131072 := H.frng 5 39; rw [show F36 5 39 = y41 from (ey42)] at h1; exact h1
                        refine w_ifne (t := 541) rfl rfl (show inr (z40) by omega) (fun b44 => ?_) (fun b44 => ?_)
                        · refine Ew_of (pc' := 542) (fun _ => x_aload_n rfl lc495_0) ?_
                          refine Ew_of (pc' := 544) (fun _ => x_iload rfl lc495_12) ?_
                          refine w_pI H (o := 5) rfl rfl (H.perm 5 rfl) rfl rfl rfl (fun _ => rfl) rfl (show (0 : Int) ≤ ((u5_25 + tc270_0) + z19) ∧ ((u5_25 + tc270_0) + z19) ≤ 65536 by omega) (fun σ H => ?_)
                          refine Ew_of (pc' := 548) (fun _ => x_iconst rfl) ?_
                          exact w_ireturn rfl (k (1) σ _ _ H (SF_upd (SF_trans (SF_trans (SF_trans (SF_trans (SF_upd (SF_trans (SF_trans (SF_trans (SF_refl) hS_c270 (any_sub rfl)) hS_c296 (any_sub rfl)) hS11 (any_sub rfl)) rfl) hS_c408 (any_sub rfl)) hS_c428 (any_sub rfl)) hS_c495 (any_sub rfl)) hS38 (any_sub rfl)) rfl) (SA_trans (SA_trans (SA_trans (SA_trans (SA_trans (SA_trans (SA_trans (SA_refl) hA_c270 (any_subA rfl)) hA_c296 (any_subA rfl)) hA12 (any_subA rfl)) hA_c408 (any_subA rfl)) hA_c428 (any_subA rfl)) hA_c495 (any_subA rfl)) hA39 (any_subA rfl)) (((u5_25 + tc270_0) + z19)) (rfl) (y41) ((ey42)) (show (1) = 0 ∨ (1) = 1 by omega) (show (1) = 1 → (u5_25) ≤ (((u5_25 + tc270_0) + z19)) ∧ (((u5_25 + tc270_0) + z19)) ≤ a1 by omega) (show 0 ≤ (y41) ∧ (y41) ≤ 131072 by omega))
                        · refine Ew_of (pc' := 540) (fun _ => x_iconst rfl) ?_
                          exact w_ireturn rfl (k (0) σ _ _ H (SF_trans (SF_trans (SF_trans (SF_trans (SF_upd (SF_trans (SF_trans (SF_trans (SF_refl) hS_c270 (any_sub rfl)) hS_c296 (any_sub rfl)) hS11 (any_sub rfl)) rfl) hS_c408 (any_sub rfl)) hS_c428 (any_sub rfl)) hS_c495 (any_sub rfl)) hS38 (any_sub rfl)) (SA_trans (SA_trans (SA_trans (SA_trans (SA_trans (SA_trans (SA_trans (SA_refl) hA_c270 (any_subA rfl)) hA_c296 (any_subA rfl)) hA12 (any_subA rfl)) hA_c408 (any_subA rfl)) hA_c428 (any_subA rfl)) hA_c495 (any_subA rfl)) hA39 (any_subA rfl)) (yc495_5_25) (((hS38 5 25 rfl).trans (eyc495_5_25))) (y41) ((ey42)) (show (0) = 0 ∨ (0) = 1 by omega) (show (0) = 1 → (u5_25) ≤ (yc495_5_25) ∧ (yc495_5_25) ≤ a1 by omega) (show 0 ≤ (y41) ∧ (y41) ≤ 131072 by omega))
                      · refine Ew_of (pc' := 501) (fun _ => x_aload_n rfl lc495_0) ?_
                        refine Ew_of (pc' := 502) (fun _ => x_aload_n rfl lc495_0) ?_
                        refine w_gI H (o := 5) (w := yc495_5_25) rfl (H.perm 5 rfl) rfl rfl rfl (fun _ => rfl) (eyc495_5_25) ?_
                        refine Ew_of (pc' := 507) (fun _ => x_iload rfl lc495_12) ?_
                        refine Ew_of (pc' := 509) (fun _ => x_iload rfl lc495_9) ?_
                        have r45 : (0 : Int) ≤ F_c495 5 10 ∧ F_c495 5 10 ≤ 11 := by have h1 : (0 : Int) ≤ F_c495 5 10 ∧ F_c495 5 10 ≤ 11 := H.frng 5 10; rw [show F_c495 5 10 = F_c495 5 10 from rfl] at h1; exact h1
                        refine w_inv H (o := 5) rfl rfl rfl (H.perm 5 rfl) rfl rfl (by rfl) (M273 H (F_c495 5 10) (rfl) (u5_39) ((((((((hS_c495 5 39 rfl).trans (hS_c428 5 39 rfl)).trans (hS_c408 5 39 rfl)).trans (hS11 5 39 rfl)).trans (hS_c296 5 39 rfl)).trans (hS_c270 5 39 rfl)).trans (eu5_39))) (A 14) ((funext (hA_c495 14 rfl)).trans ((funext (hA_c428 14 rfl)).trans ((funext (hA_c408 14 rfl)).trans ((funext (hA12 14 rfl)).trans ((funext (hA_c296 14 rfl)).trans (funext (hA_c270 14 rfl))))))) (A_c495 31) (rfl) (A_c495 32) (rfl) (A 46) ((funext (hA_c495 46 rfl)).trans ((funext (hA_c428 46 rfl)).trans ((funext (hA_c408 46 rfl)).trans ((funext (hA12 46 rfl)).trans ((funext (hA_c296 46 rfl)).trans (funext (hA_c270 46 rfl))))))) (show inr (yc495_5_25) by omega) (show inr (((u5_25 + tc270_0) + z19)) by omega) (show inr (z16) by omega) (show 0 ≤ (yc495_5_25) ∧ (yc495_5_25) ≤ 65536 ∧ 0 ≤ (((u5_25 + tc270_0) + z19)) ∧ (((u5_25 + tc270_0) + z19)) ≤ 65536 by omega) (show 0 ≤ (z16) ∧ (u5_39) + (z16) ≤ 131072 by omega) (show 0 ≤ (u5_39) by omega) (show 0 ≤ (F_c495 5 10) by omega) (show fl ((A_c495 32)) (p2 ((F_c495 5 10))) = CELS ((A_c495 31)) ((F_c495 5 10)) by assumption) (fun z50 σ F46 A47 H hS48 hA49 y51 ey52 wq53 ewq54 pz50_0 pz50_1 pz50_2 pz50_3 => ⟨rretB rfl pz50_0, ?_⟩))
                        have r55 : (0 : Int) ≤ y51 ∧ y51 ≤ 131072 := by have h1 : (0 : Int) ≤ F46 5 39 ∧ F46 5 39 ≤ 131072 := H.frng 5 39; rw [show F46 5 39 = y51 from (ey52)] at h1; exact h1
                        refine w_ifne (t := 541) rfl rfl (show inr (z50) by omega) (fun b56 => ?_) (fun b56 => ?_)
                        · refine Ew_of (pc' := 542) (fun _ => x_aload_n rfl lc495_0) ?_
                          refine Ew_of (pc' := 544) (fun _ => x_iload rfl lc495_12) ?_
                          refine w_pI H (o := 5) rfl rfl (H.perm 5 rfl) rfl rfl rfl (fun _ => rfl) rfl (show (0 : Int) ≤ ((u5_25 + tc270_0) + z19) ∧ ((u5_25 + tc270_0) + z19) ≤ 65536 by omega) (fun σ H => ?_)
                          refine Ew_of (pc' := 548) (fun _ => x_iconst rfl) ?_
                          exact w_ireturn rfl (k (1) σ _ _ H (SF_upd (SF_trans (SF_trans (SF_trans (SF_trans (SF_upd (SF_trans (SF_trans (SF_trans (SF_refl) hS_c270 (any_sub rfl)) hS_c296 (any_sub rfl)) hS11 (any_sub rfl)) rfl) hS_c408 (any_sub rfl)) hS_c428 (any_sub rfl)) hS_c495 (any_sub rfl)) hS48 (any_sub rfl)) rfl) (SA_trans (SA_trans (SA_trans (SA_trans (SA_trans (SA_trans (SA_trans (SA_refl) hA_c270 (any_subA rfl)) hA_c296 (any_subA rfl)) hA12 (any_subA rfl)) hA_c408 (any_subA rfl)) hA_c428 (any_subA rfl)) hA_c495 (any_subA rfl)) hA49 (any_subA rfl)) (((u5_25 + tc270_0) + z19)) (rfl) (y51) ((ey52)) (show (1) = 0 ∨ (1) = 1 by omega) (show (1) = 1 → (u5_25) ≤ (((u5_25 + tc270_0) + z19)) ∧ (((u5_25 + tc270_0) + z19)) ≤ a1 by omega) (show 0 ≤ (y51) ∧ (y51) ≤ 131072 by omega))
                        · refine Ew_of (pc' := 516) (fun _ => x_aload_n rfl lc495_0) ?_
                          refine Ew_of (pc' := 518) (fun _ => x_bipush (z := 14) rfl (by decide)) ?_
                          refine Ew_of (pc' := 519) (fun _ => x_aload_n rfl lc495_0) ?_
                          refine w_gI H (o := 5) (w := yc495_5_25) rfl (H.perm 5 rfl) rfl rfl rfl (fun _ => rfl) ((hS48 5 25 rfl).trans (eyc495_5_25)) ?_
                          refine w_inv H (o := 5) rfl rfl rfl (H.perm 5 rfl) rfl rfl (by rfl) (M282 H (show inr (14) by omega) (show inr (yc495_5_25) by omega) (show 0 ≤ (14) ∧ (14) ≤ 20 by omega) (show 0 ≤ (yc495_5_25) ∧ (yc495_5_25) ≤ 65536 by omega) (fun z61 σ F57 A58 H hS59 hA60 y62 ey63 y64 ey65 pz61_0 pz61_1 pz61_2 pz61_3 => ⟨rretB rfl pz61_0, ?_⟩))
                          have r66 : (0 : Int) ≤ y62 ∧ y62 ≤ 20 := by have h1 : (0 : Int) ≤ F57 5 30 ∧ F57 5 30 ≤ 20 := H.frng 5 30; rw [show F57 5 30 = y62 from (ey63)] at h1; exact h1
                          have r67 : (0 : Int) ≤ y64 ∧ y64 ≤ 65536 := by have h1 : (0 : Int) ≤ F57 5 31 ∧ F57 5 31 ≤ 65536 := H.frng 5 31; rw [show F57 5 31 = y64 from (ey65)] at h1; exact h1
                          exact w_ireturn rfl (k (z61) σ _ _ H (SF_trans (SF_trans (SF_trans (SF_trans (SF_trans (SF_upd (SF_trans (SF_trans (SF_trans (SF_refl) hS_c270 (any_sub rfl)) hS_c296 (any_sub rfl)) hS11 (any_sub rfl)) rfl) hS_c408 (any_sub rfl)) hS_c428 (any_sub rfl)) hS_c495 (any_sub rfl)) hS48 (any_sub rfl)) hS59 (any_sub rfl)) (SA_trans (SA_trans (SA_trans (SA_trans (SA_trans (SA_trans (SA_trans (SA_trans (SA_refl) hA_c270 (any_subA rfl)) hA_c296 (any_subA rfl)) hA12 (any_subA rfl)) hA_c408 (any_subA rfl)) hA_c428 (any_subA rfl)) hA_c495 (any_subA rfl)) hA49 (any_subA rfl)) hA60 (any_subA rfl)) (yc495_5_25) ((((hS59 5 25 rfl).trans (hS48 5 25 rfl)).trans (eyc495_5_25))) (y51) (((hS59 5 39 rfl).trans (ey52))) (show (z61) = 0 ∨ (z61) = 1 by omega) (show (z61) = 1 → (u5_25) ≤ (yc495_5_25) ∧ (yc495_5_25) ≤ a1 by omega) (show 0 ≤ (y51) ∧ (y51) ≤ 131072 by omega))
                    refine Ew_of (pc' := 457) (fun _ => x_iload_n rfl (rk_o (lc428_3) rfl rfl)) ?_
                    refine Ew_of (pc' := 458) (fun _ => x_iconst rfl) ?_
                    refine w_icmpne (t := 495) rfl rfl (show inr ((v5 % 4)) by omega) (show inr (2) by omega) (fun b68 => ?_) (fun b68 => ?_)
                    · exact hc495  _ σ _ _  (rk_o (lc428_0) rfl rfl) (rk_o (lc428_4) rfl rfl) (rk_o (lc428_9) rfl rfl) (rk_o (lc428_11) rfl rfl) (rk_s) H (SF_refl) (SA_refl) ((u5_25 + tc270_0)) (((hS_c428 5 25 rfl).trans (hS_c408 5 25 rfl)))  (show ((u5_25 + tc270_0)) ≤ ((u5_25 + tc270_0)) ∧ ((u5_25 + tc270_0)) ≤ (((u5_25 + tc270_0) + z19)) by omega)
                    · refine Ew_of (pc' := 462) (fun _ => x_aload_n rfl (rk_o (lc428_0) rfl rfl)) ?_
                      refine Ew_of (pc' := 463) (fun _ => x_aload_n rfl (rk_o (lc428_0) rfl rfl)) ?_
                      refine w_gI H (o := 5) (w := (u5_25 + tc270_0)) rfl (H.perm 5 rfl) rfl rfl rfl (fun _ => rfl) ((hS_c428 5 25 rfl).trans (hS_c408 5 25 rfl)) ?_
                      refine Ew_of (pc' := 468) (fun _ => x_iload rfl rk_s) ?_
                      refine w_inv H (o := 5) rfl rfl rfl (H.perm 5 rfl) rfl rfl (by rfl) (M271 H (A 14) ((funext (hA_c428 14 rfl)).trans ((funext (hA_c408 14 rfl)).trans ((funext (hA12 14 rfl)).trans ((funext (hA_c296 14 rfl)).trans (funext (hA_c270 14 rfl)))))) (show inr ((u5_25 + tc270_0)) by omega) (show inr (((u5_25 + tc270_0) + z19)) by omega) (show 0 ≤ ((u5_25 + tc270_0)) ∧ ((u5_25 + tc270_0)) ≤ 65536 ∧ 0 ≤ (((u5_25 + tc270_0) + z19)) ∧ (((u5_25 + tc270_0) + z19)) ≤ 65536 by omega) (fun z73 σ F69 A70 H hS71 hA72 y74 ey75 wq76 ewq77 wq78 ewq79 pz73_0 pz73_1 pz73_2 pz73_3 pz73_4 => ⟨rfl, ?_⟩))
                      have r80 : (0 : Int) ≤ y74 ∧ y74 ≤ 11 := by have h1 : (0 : Int) ≤ F69 5 10 ∧ F69 5 10 ≤ 11 := H.frng 5 10; rw [show F69 5 10 = y74 from (ey75)] at h1; exact h1
                      refine Ew_of (pc' := 473) (fun _ => x_istore rfl) ?_
                      refine Ew_of (pc' := 475) (fun _ => x_iload rfl rk_s) ?_
                      refine w_ifge (t := 489) rfl rfl (show inr (z73) by omega) (fun b81 => ?_) (fun b81 => ?_)
                      · refine Ew_of (pc' := 490) (fun _ => x_aload_n rfl (rk_o (rk_o (lc428_0) rfl rfl) rfl rfl)) ?_
                        refine Ew_of (pc' := 492) (fun _ => x_iload rfl rk_s) ?_
                        refine w_pI H (o := 5) rfl rfl (H.perm 5 rfl) rfl rfl rfl (fun _ => rfl) rfl (show (0 : Int) ≤ z73 ∧ z73 ≤ 65536 by omega) (fun σ H => ?_)
                        exact hc495  _ σ _ _  (rk_o (rk_o (lc428_0) rfl rfl) rfl rfl) (rk_o (rk_o (lc428_4) rfl rfl) rfl rfl) (rk_o (rk_o (lc428_9) rfl rfl) rfl rfl) (rk_o (rk_o (lc428_11) rfl rfl) rfl rfl) (rk_o (rk_s) rfl rfl) H (SF_upd (SF_trans (SF_refl) hS71 (any_sub rfl)) rfl) (SA_trans (SA_refl) hA72 (any_subA rfl)) (z73) (rfl)  (show ((u5_25 + tc270_0)) ≤ (z73) ∧ (z73) ≤ (((u5_25 + tc270_0) + z19)) by omega)
                      · refine Ew_of (pc' := 479) (fun _ => x_aload_n rfl (rk_o (rk_o (lc428_0) rfl rfl) rfl rfl)) ?_
                        refine Ew_of (pc' := 481) (fun _ => x_bipush (z := 12) rfl (by decide)) ?_
                        refine Ew_of (pc' := 482) (fun _ => x_aload_n rfl (rk_o (rk_o (lc428_0) rfl rfl) rfl rfl)) ?_
                        refine w_gI H (o := 5) (w := (u5_25 + tc270_0)) rfl (H.perm 5 rfl) rfl rfl rfl (fun _ => rfl) (((hS71 5 25 rfl).trans (hS_c428 5 25 rfl)).trans (hS_c408 5 25 rfl)) ?_
                        refine w_inv H (o := 5) rfl rfl rfl (H.perm 5 rfl) rfl rfl (by rfl) (M282 H (show inr (12) by omega) (show inr ((u5_25 + tc270_0)) by omega) (show 0 ≤ (12) ∧ (12) ≤ 20 by omega) (show 0 ≤ ((u5_25 + tc270_0)) ∧ ((u5_25 + tc270_0)) ≤ 65536 by omega) (fun z86 σ F82 A83 H hS84 hA85 y87 ey88 y89 ey90 pz86_0 pz86_1 pz86_2 pz86_3 => ⟨rretB rfl pz86_0, ?_⟩))
                        have r91 : (0 : Int) ≤ y87 ∧ y87 ≤ 20 := by have h1 : (0 : Int) ≤ F82 5 30 ∧ F82 5 30 ≤ 20 := H.frng 5 30; rw [show F82 5 30 = y87 from (ey88)] at h1; exact h1
                        have r92 : (0 : Int) ≤ y89 ∧ y89 ≤ 65536 := by have h1 : (0 : Int) ≤ F82 5 31 ∧ F82 5 31 ≤ 65536 := H.frng 5 31; rw [show F82 5 31 = y89 from (ey90)] at h1; exact h1
                        exact w_ireturn rfl (k (z86) σ _ _ H (SF_trans (SF_trans (SF_trans (SF_trans (SF_upd (SF_trans (SF_trans (SF_trans (SF_refl) hS_c270 (any_sub rfl)) hS_c296 (any_sub rfl)) hS11 (any_sub rfl)) rfl) hS_c408 (any_sub rfl)) hS_c428 (any_sub rfl)) hS71 (any_sub rfl)) hS84 (any_sub rfl)) (SA_trans (SA_trans (SA_trans (SA_trans (SA_trans (SA_trans (SA_trans (SA_refl) hA_c270 (any_subA rfl)) hA_c296 (any_subA rfl)) hA12 (any_subA rfl)) hA_c408 (any_subA rfl)) hA_c428 (any_subA rfl)) hA72 (any_subA rfl)) hA85 (any_subA rfl)) ((u5_25 + tc270_0)) (((((hS84 5 25 rfl).trans (hS71 5 25 rfl)).trans (hS_c428 5 25 rfl)).trans (hS_c408 5 25 rfl))) (u5_39) (((((((((hS84 5 39 rfl).trans (hS71 5 39 rfl)).trans (hS_c428 5 39 rfl)).trans (hS_c408 5 39 rfl)).trans (hS11 5 39 rfl)).trans (hS_c296 5 39 rfl)).trans (hS_c270 5 39 rfl)).trans (eu5_39))) (show (z86) = 0 ∨ (z86) = 1 by omega) (show (z86) = 1 → (u5_25) ≤ ((u5_25 + tc270_0)) ∧ ((u5_25 + tc270_0)) ≤ a1 by omega) (show 0 ≤ (u5_39) ∧ (u5_39) ≤ 131072 by omega))
                  · refine Ew_of (pc' := 440) (fun _ => x_aload_n rfl lc428_0) ?_
                    refine Ew_of (pc' := 442) (fun _ => x_bipush (z := 10) rfl (by decide)) ?_
                    refine Ew_of (pc' := 443) (fun _ => x_iload_n rfl lc428_1) ?_
                    refine w_inv H (o := 5) rfl rfl rfl (H.perm 5 rfl) rfl rfl (by rfl) (M282 H (show inr (10) by omega) (show inr (a1) by omega) (show 0 ≤ (10) ∧ (10) ≤ 20 by omega) (show 0 ≤ (a1) ∧ (a1) ≤ 65536 by omega) (fun z97 σ F93 A94 H hS95 hA96 y98 ey99 y100 ey101 pz97_0 pz97_1 pz97_2 pz97_3 => ⟨rretB rfl pz97_0, ?_⟩))
                    have r102 : (0 : Int) ≤ y98 ∧ y98 ≤ 20 := by have h1 : (0 : Int) ≤ F93 5 30 ∧ F93 5 30 ≤ 20 := H.frng 5 30; rw [show F93 5 30 = y98 from (ey99)] at h1; exact h1
                    have r103 : (0 : Int) ≤ y100 ∧ y100 ≤ 65536 := by have h1 : (0 : Int) ≤ F93 5 31 ∧ F93 5 31 ≤ 65536 := H.frng 5 31; rw [show F93 5 31 = y100 from (ey101)] at h1; exact h1
                    exact w_ireturn rfl (k (z97) σ _ _ H (SF_trans (SF_trans (SF_trans (SF_upd (SF_trans (SF_trans (SF_trans (SF_refl) hS_c270 (any_sub rfl)) hS_c296 (any_sub rfl)) hS11 (any_sub rfl)) rfl) hS_c408 (any_sub rfl)) hS_c428 (any_sub rfl)) hS95 (any_sub rfl)) (SA_trans (SA_trans (SA_trans (SA_trans (SA_trans (SA_trans (SA_refl) hA_c270 (any_subA rfl)) hA_c296 (any_subA rfl)) hA12 (any_subA rfl)) hA_c408 (any_subA rfl)) hA_c428 (any_subA rfl)) hA96 (any_subA rfl)) ((u5_25 + tc270_0)) ((((hS95 5 25 rfl).trans (hS_c428 5 25 rfl)).trans (hS_c408 5 25 rfl))) (u5_39) ((((((((hS95 5 39 rfl).trans (hS_c428 5 39 rfl)).trans (hS_c408 5 39 rfl)).trans (hS11 5 39 rfl)).trans (hS_c296 5 39 rfl)).trans (hS_c270 5 39 rfl)).trans (eu5_39))) (show (z97) = 0 ∨ (z97) = 1 by omega) (show (z97) = 1 → (u5_25) ≤ ((u5_25 + tc270_0)) ∧ ((u5_25 + tc270_0)) ≤ a1 by omega) (show 0 ≤ (u5_39) ∧ (u5_39) ≤ 131072 by omega))
                refine w_icmpne (t := 428) rfl rfl (show inr ((v5 % 4)) by omega) (show inr (3) by omega) (fun b104 => ?_) (fun b104 => ?_)
                · exact hc428  _ σ _ _  (lc408_0) (lc408_1) (lc408_3) (lc408_4) (lc408_9) (lc408_10) (lc408_11) H (SF_refl) (SA_refl)   (show (((v5 % 4)) ≠ (3)) ∨ (((v5 % 4)) = (3) ∧ 0 ≤ (F 5 10) ∧ (F 5 10) ≤ 11 ∧ (F 5 10) ≠ (0)) by omega)
                · refine Ew_of (pc' := 414) (fun _ => x_aload_n rfl lc408_0) ?_
                  have r105 : (0 : Int) ≤ F 5 10 ∧ F 5 10 ≤ 11 := by have h1 : (0 : Int) ≤ F_c408 5 10 ∧ F_c408 5 10 ≤ 11 := H.frng 5 10; rw [show F_c408 5 10 = F 5 10 from ((((hS_c408 5 10 rfl).trans (hS11 5 10 rfl)).trans (hS_c296 5 10 rfl)).trans (hS_c270 5 10 rfl))] at h1; exact h1
                  refine w_gI H (o := 5) (w := F 5 10) rfl (H.perm 5 rfl) rfl rfl rfl (fun _ => rfl) ((((hS_c408 5 10 rfl).trans (hS11 5 10 rfl)).trans (hS_c296 5 10 rfl)).trans (hS_c270 5 10 rfl)) ?_
                  refine w_ifne (t := 428) rfl rfl (show inr (F 5 10) by omega) (fun b106 => ?_) (fun b106 => ?_)
                  · exact hc428  _ σ _ _  (lc408_0) (lc408_1) (lc408_3) (lc408_4) (lc408_9) (lc408_10) (lc408_11) H (SF_refl) (SA_refl)   (show (((v5 % 4)) ≠ (3)) ∨ (((v5 % 4)) = (3) ∧ 0 ≤ (F 5 10) ∧ (F 5 10) ≤ 11 ∧ (F 5 10) ≠ (0)) by omega)
                  · refine Ew_of (pc' := 421) (fun _ => x_aload_n rfl lc408_0) ?_
                    refine Ew_of (pc' := 423) (fun _ => x_bipush (z := 13) rfl (by decide)) ?_
                    refine Ew_of (pc' := 424) (fun _ => x_iload_n rfl lc408_2) ?_
                    refine w_inv H (o := 5) rfl rfl rfl (H.perm 5 rfl) rfl rfl (by rfl) (M282 H (show inr (13) by omega) (show inr (u5_25) by omega) (show 0 ≤ (13) ∧ (13) ≤ 20 by omega) (show 0 ≤ (u5_25) ∧ (u5_25) ≤ 65536 by omega) (fun z111 σ F107 A108 H hS109 hA110 y112 ey113 y114 ey115 pz111_0 pz111_1 pz111_2 pz111_3 => ⟨rretB rfl pz111_0, ?_⟩))
                    have r116 : (0 : Int) ≤ y112 ∧ y112 ≤ 20 := by have h1 : (0 : Int) ≤ F107 5 30 ∧ F107 5 30 ≤ 20 := H.frng 5 30; rw [show F107 5 30 = y112 from (ey113)] at h1; exact h1
                    have r117 : (0 : Int) ≤ y114 ∧ y114 ≤ 65536 := by have h1 : (0 : Int) ≤ F107 5 31 ∧ F107 5 31 ≤ 65536 := H.frng 5 31; rw [show F107 5 31 = y114 from (ey115)] at h1; exact h1
                    exact w_ireturn rfl (k (z111) σ _ _ H (SF_trans (SF_trans (SF_upd (SF_trans (SF_trans (SF_trans (SF_refl) hS_c270 (any_sub rfl)) hS_c296 (any_sub rfl)) hS11 (any_sub rfl)) rfl) hS_c408 (any_sub rfl)) hS109 (any_sub rfl)) (SA_trans (SA_trans (SA_trans (SA_trans (SA_trans (SA_refl) hA_c270 (any_subA rfl)) hA_c296 (any_subA rfl)) hA12 (any_subA rfl)) hA_c408 (any_subA rfl)) hA110 (any_subA rfl)) ((u5_25 + tc270_0)) (((hS109 5 25 rfl).trans (hS_c408 5 25 rfl))) (u5_39) (((((((hS109 5 39 rfl).trans (hS_c408 5 39 rfl)).trans (hS11 5 39 rfl)).trans (hS_c296 5 39 rfl)).trans (hS_c270 5 39 rfl)).trans (eu5_39))) (show (z111) = 0 ∨ (z111) = 1 by omega) (show (z111) = 1 → (u5_25) ≤ ((u5_25 + tc270_0)) ∧ ((u5_25 + tc270_0)) ≤ a1 by omega) (show 0 ≤ (u5_39) ∧ (u5_39) ≤ 131072 by omega))
              refine w_ifle (t := 408) rfl rfl (show inr (((v6 / 4) % 4)) by omega) (fun b118 => ?_) (fun b118 => ?_)
              · exact hc408  _ σ _ _  (rk_o (rk_o (rk_o (rk2_o (rk_o (lc296_0) rfl rfl) rfl rfl) rfl rfl) rfl rfl) rfl rfl) (rk_o (rk_o (rk_o (rk2_o (rk_o (lc296_1) rfl rfl) rfl rfl) rfl rfl) rfl rfl) rfl rfl) (rk_o (rk_o (rk_o (rk2_o (rk_o (lc296_2) rfl rfl) rfl rfl) rfl rfl) rfl rfl) rfl rfl) (rk_o (rk_o (rk_o (rk2_o (rk_o (lc296_3) rfl rfl) rfl rfl) rfl rfl) rfl rfl) rfl rfl) (rk_o (rk_o (rk_o (rk2_o (rk_o (lc296_4) rfl rfl) rfl rfl) rfl rfl) rfl rfl) rfl rfl) (rk_o (rk_o (rk_s) rfl rfl) rfl rfl) (rk_o (rk_s) rfl rfl) (rk_s) H (SF_refl) (SA_refl)   (show ((((v6 / 4) % 4)) ≤ (0)) ∨ ((((v6 / 4) % 4)) > (0) ∧ (z16) ≥ ((3 * ((z16 + 3) / 4)))) by omega)
              · refine Ew_of (pc' := 393) (fun _ => x_iload rfl (rk_o (rk_o (rk_s) rfl rfl) rfl rfl)) ?_
                refine Ew_of (pc' := 394) (fun _ => x_iconst rfl) ?_
                refine Ew_of (pc' := 396) (fun _ => x_iload rfl rk_s) ?_
                refine w_imul rfl ?_
                refine w_icmpge (t := 408) rfl rfl (show inr (z16) by omega) (show inr ((3 * ((z16 + 3) / 4))) by omega) (fun b119 => ?_) (fun b119 => ?_)
                · exact hc408  _ σ _ _  (rk_o (rk_o (rk_o (rk2_o (rk_o (lc296_0) rfl rfl) rfl rfl) rfl rfl) rfl rfl) rfl rfl) (rk_o (rk_o (rk_o (rk2_o (rk_o (lc296_1) rfl rfl) rfl rfl) rfl rfl) rfl rfl) rfl rfl) (rk_o (rk_o (rk_o (rk2_o (rk_o (lc296_2) rfl rfl) rfl rfl) rfl rfl) rfl rfl) rfl rfl) (rk_o (rk_o (rk_o (rk2_o (rk_o (lc296_3) rfl rfl) rfl rfl) rfl rfl) rfl rfl) rfl rfl) (rk_o (rk_o (rk_o (rk2_o (rk_o (lc296_4) rfl rfl) rfl rfl) rfl rfl) rfl rfl) rfl rfl) (rk_o (rk_o (rk_s) rfl rfl) rfl rfl) (rk_o (rk_s) rfl rfl) (rk_s) H (SF_refl) (SA_refl)   (show ((((v6 / 4) % 4)) ≤ (0)) ∨ ((((v6 / 4) % 4)) > (0) ∧ (z16) ≥ ((3 * ((z16 + 3) / 4)))) by omega)
                · refine Ew_of (pc' := 401) (fun _ => x_aload_n rfl (rk_o (rk_o (rk_o (rk2_o (rk_o (lc296_0) rfl rfl) rfl rfl) rfl rfl) rfl rfl) rfl rfl)) ?_
                  refine Ew_of (pc' := 403) (fun _ => x_bipush (z := 11) rfl (by decide)) ?_
                  refine Ew_of (pc' := 404) (fun _ => x_iload_n rfl (rk_o (rk_o (rk_o (rk2_o (rk_o (lc296_2) rfl rfl) rfl rfl) rfl rfl) rfl rfl) rfl rfl)) ?_
                  refine w_inv H (o := 5) rfl rfl rfl (H.perm 5 rfl) rfl rfl (by rfl) (M282 H (show inr (11) by omega) (show inr (u5_25) by omega) (show 0 ≤ (11) ∧ (11) ≤ 20 by omega) (show 0 ≤ (u5_25) ∧ (u5_25) ≤ 65536 by omega) (fun z124 σ F120 A121 H hS122 hA123 y125 ey126 y127 ey128 pz124_0 pz124_1 pz124_2 pz124_3 => ⟨rretB rfl pz124_0, ?_⟩))
                  have r129 : (0 : Int) ≤ y125 ∧ y125 ≤ 20 := by have h1 : (0 : Int) ≤ F120 5 30 ∧ F120 5 30 ≤ 20 := H.frng 5 30; rw [show F120 5 30 = y125 from (ey126)] at h1; exact h1
                  have r130 : (0 : Int) ≤ y127 ∧ y127 ≤ 65536 := by have h1 : (0 : Int) ≤ F120 5 31 ∧ F120 5 31 ≤ 65536 := H.frng 5 31; rw [show F120 5 31 = y127 from (ey128)] at h1; exact h1
                  exact w_ireturn rfl (k (z124) σ _ _ H (SF_trans (SF_upd (SF_trans (SF_trans (SF_trans (SF_refl) hS_c270 (any_sub rfl)) hS_c296 (any_sub rfl)) hS11 (any_sub rfl)) rfl) hS122 (any_sub rfl)) (SA_trans (SA_trans (SA_trans (SA_trans (SA_refl) hA_c270 (any_subA rfl)) hA_c296 (any_subA rfl)) hA12 (any_subA rfl)) hA123 (any_subA rfl)) ((u5_25 + tc270_0)) ((hS122 5 25 rfl)) (u5_39) ((((((hS122 5 39 rfl).trans (hS11 5 39 rfl)).trans (hS_c296 5 39 rfl)).trans (hS_c270 5 39 rfl)).trans (eu5_39))) (show (z124) = 0 ∨ (z124) = 1 by omega) (show (z124) = 1 → (u5_25) ≤ ((u5_25 + tc270_0)) ∧ ((u5_25 + tc270_0)) ≤ a1 by omega) (show 0 ≤ (u5_39) ∧ (u5_39) ≤ 131072 by omega))
          · refine Ew_of (pc' := 310) (fun _ => x_aload_n rfl (rk_o (lc296_0) rfl rfl)) ?_
            refine Ew_of (pc' := 312) (fun _ => x_bipush (z := 10) rfl (by decide)) ?_
            refine Ew_of (pc' := 313) (fun _ => x_iload_n rfl (rk_o (lc296_1) rfl rfl)) ?_
            refine w_inv H (o := 5) rfl rfl rfl (H.perm 5 rfl) rfl rfl (by rfl) (M282 H (show inr (10) by omega) (show inr (a1) by omega) (show 0 ≤ (10) ∧ (10) ≤ 20 by omega) (show 0 ≤ (a1) ∧ (a1) ≤ 65536 by omega) (fun z135 σ F131 A132 H hS133 hA134 y136 ey137 y138 ey139 pz135_0 pz135_1 pz135_2 pz135_3 => ⟨rretB rfl pz135_0, ?_⟩))
            have r140 : (0 : Int) ≤ y136 ∧ y136 ≤ 20 := by have h1 : (0 : Int) ≤ F131 5 30 ∧ F131 5 30 ≤ 20 := H.frng 5 30; rw [show F131 5 30 = y136 from (ey137)] at h1; exact h1
            have r141 : (0 : Int) ≤ y138 ∧ y138 ≤ 65536 := by have h1 : (0 : Int) ≤ F131 5 31 ∧ F131 5 31 ≤ 65536 := H.frng 5 31; rw [show F131 5 31 = y138 from (ey139)] at h1; exact h1
            exact w_ireturn rfl (k (z135) σ _ _ H (SF_trans (SF_trans (SF_trans (SF_refl) hS_c270 (any_sub rfl)) hS_c296 (any_sub rfl)) hS133 (any_sub rfl)) (SA_trans (SA_trans (SA_trans (SA_refl) hA_c270 (any_subA rfl)) hA_c296 (any_subA rfl)) hA134 (any_subA rfl)) (u5_25) (((((hS133 5 25 rfl).trans (hS_c296 5 25 rfl)).trans (hS_c270 5 25 rfl)).trans (eu5_25))) (u5_39) (((((hS133 5 39 rfl).trans (hS_c296 5 39 rfl)).trans (hS_c270 5 39 rfl)).trans (eu5_39))) (show (z135) = 0 ∨ (z135) = 1 by omega) (show (z135) = 1 → (u5_25) ≤ (u5_25) ∧ (u5_25) ≤ a1 by omega) (show 0 ≤ (u5_39) ∧ (u5_39) ≤ 131072 by omega))
        refine w_icmpge (t := 283) rfl rfl (show inr (((v6 / 4) % 4)) by omega) (show inr (2) by omega) (fun b142 => ?_) (fun b142 => ?_)
        · refine Ew_of (pc' := 285) (fun _ => x_iload rfl (rk_o (lc270_4) rfl rfl)) ?_
          refine Ew_of (pc' := 286) (fun _ => x_iconst rfl) ?_
          refine w_icmpne (t := 294) rfl rfl (show inr (((v6 / 4) % 4)) by omega) (show inr (2) by omega) (fun b143 => ?_) (fun b143 => ?_)
          · refine Ew_of (pc' := 296) (fun _ => x_bipush (z := 18) rfl (by decide)) ?_
            exact hc296 (18) _ σ _ _  (rk_o (lc270_0) rfl rfl) (rk_o (lc270_1) rfl rfl) (rk_o (lc270_2) rfl rfl) (rk_o (lc270_3) rfl rfl) (rk_o (lc270_4) rfl rfl) (rk_s) H (SF_refl) (SA_refl)   (show inr (18) by omega) (show ((((v6 / 4) % 4)) ≥ (2) ∧ (((v6 / 4) % 4)) ≠ (2) ∧ (18) = (18)) ∨ ((((v6 / 4) % 4)) ≥ (2) ∧ (((v6 / 4) % 4)) = (2) ∧ (18) = (14)) ∨ ((((v6 / 4) % 4)) < (2) ∧ (18) = (10)) by omega)
          · refine Ew_of (pc' := 291) (fun _ => x_bipush (z := 14) rfl (by decide)) ?_
            refine Ew_of (pc' := 296) (fun _ => x_goto rfl rfl) ?_
            exact hc296 (14) _ σ _ _  (rk_o (lc270_0) rfl rfl) (rk_o (lc270_1) rfl rfl) (rk_o (lc270_2) rfl rfl) (rk_o (lc270_3) rfl rfl) (rk_o (lc270_4) rfl rfl) (rk_s) H (SF_refl) (SA_refl)   (show inr (14) by omega) (show ((((v6 / 4) % 4)) ≥ (2) ∧ (((v6 / 4) % 4)) ≠ (2) ∧ (14) = (18)) ∨ ((((v6 / 4) % 4)) ≥ (2) ∧ (((v6 / 4) % 4)) = (2) ∧ (14) = (14)) ∨ ((((v6 / 4) % 4)) < (2) ∧ (14) = (10)) by omega)
        · refine Ew_of (pc' := 280) (fun _ => x_bipush (z := 10) rfl (by decide)) ?_
          refine Ew_of (pc' := 296) (fun _ => x_goto rfl rfl) ?_
          exact hc296 (10) _ σ _ _  (rk_o (lc270_0) rfl rfl) (rk_o (lc270_1) rfl rfl) (rk_o (lc270_2) rfl rfl) (rk_o (lc270_3) rfl rfl) (rk_o (lc270_4) rfl rfl) (rk_s) H (SF_refl) (SA_refl)   (show inr (10) by omega) (show ((((v6 / 4) % 4)) ≥ (2) ∧ (((v6 / 4) % 4)) ≠ (2) ∧ (10) = (18)) ∨ ((((v6 / 4) % 4)) ≥ (2) ∧ (((v6 / 4) % 4)) = (2) ∧ (10) = (14)) ∨ ((((v6 / 4) % 4)) < (2) ∧ (10) = (10)) by omega)
      refine w_icmpge (t := 266) rfl rfl (show inr (((v6 / 4) % 4)) by omega) (show inr (2) by omega) (fun b144 => ?_) (fun b144 => ?_)
      · refine Ew_of (pc' := 268) (fun _ => x_iload rfl rk_s) ?_
        refine Ew_of (pc' := 269) (fun _ => x_iconst rfl) ?_
        refine w_iadd rfl ?_
        exact hc270 ((((v6 / 4) % 4) + 2)) _ σ _ _  (rk_o (rk_o (rk_o (rfl) rfl rfl) rfl rfl) rfl rfl) (rk_o (rk_o (rk_o (rfl) rfl rfl) rfl rfl) rfl rfl) (rk_o (rk_o (rk_s) rfl rfl) rfl rfl) (rk_o (rk_s) rfl rfl) (rk_s) H (SF_refl) (SA_refl)   (show inr ((((v6 / 4) % 4) + 2)) by omega) (show ((((v6 / 4) % 4)) ≥ (2) ∧ ((((v6 / 4) % 4) + 2)) = ((((v6 / 4) % 4) + 2))) ∨ ((((v6 / 4) % 4)) < (2) ∧ ((((v6 / 4) % 4) + 2)) = (3)) by omega)
      · refine Ew_of (pc' := 263) (fun _ => x_iconst rfl) ?_
        refine Ew_of (pc' := 270) (fun _ => x_goto rfl rfl) ?_
        exact hc270 (3) _ σ _ _  (rk_o (rk_o (rk_o (rfl) rfl rfl) rfl rfl) rfl rfl) (rk_o (rk_o (rk_o (rfl) rfl rfl) rfl rfl) rfl rfl) (rk_o (rk_o (rk_s) rfl rfl) rfl rfl) (rk_o (rk_s) rfl rfl) (rk_s) H (SF_refl) (SA_refl)   (show inr (3) by omega) (show ((((v6 / 4) % 4)) ≥ (2) ∧ (3) = ((((v6 / 4) % 4) + 2))) ∨ ((((v6 / 4) % 4)) < (2) ∧ (3) = (3)) by omega)
    · refine Ew_of (pc' := 61) (fun _ => x_iload rfl rk_s) ?_
      refine Ew_of (pc' := 62) (fun _ => x_iconst rfl) ?_
      refine w_irem rfl (show inr (((v6 / 4) % 4)) ∧ 0 ≤ ((v6 / 4) % 4) by omega) (show inr (2) ∧ 0 < 2 by omega) ?_
      have hc81 : ∀ (tc81_0 : Int), ∀ (ls : rO) (σ : rS) (F_c81 : hF) (A_c81 : hA) , rlook ls 0 = some (.ref (D 5)) → rlook ls 1 = some (I (a1)) → rlook ls 2 = some (I (u5_25)) → rlook ls 3 = some (I ((v5 % 4))) → HS σ0 σ D N F_c81 A_c81 → SF [] F F_c81 → SA [] A A_c81 → (inr (tc81_0)) → ((((((v6 / 4) % 4) % 2)) ≠ (0) ∧ (((v6 / 4) % 4)) ≠ (1) ∧ (tc81_0) = (3)) ∨ (((((v6 / 4) % 4) % 2)) ≠ (0) ∧ (((v6 / 4) % 4)) = (1) ∧ (tc81_0) = (2)) ∨ (((((v6 / 4) % 4) % 2)) = (0) ∧ (tc81_0) = (1))) → Ew 291 (d + 4) 81 ls [I (tc81_0)] σ c s Q := by
       as_aux_lemma =>
        intro tc81_0 ls σ F_c81 A_c81  lc81_0 lc81_1 lc81_2 lc81_3 H hS_c81 hA_c81   jc81_0 jc81_1
        refine Ew_of (pc' := 83) (fun _ => x_istore rfl) ?_
        refine Ew_of (pc' := 84) (fun _ => x_iload_n rfl (rk_o (lc81_1) rfl rfl)) ?_
        refine Ew_of (pc' := 85) (fun _ => x_aload_n rfl (rk_o (lc81_0) rfl rfl)) ?_
        refine w_gI H (o := 5) (w := u5_25) rfl (H.perm 5 rfl) rfl rfl rfl (fun _ => rfl) ((hS_c81 5 25 rfl).trans (eu5_25)) ?_
        refine w_isub rfl ?_
        refine Ew_of (pc' := 91) (fun _ => x_iload rfl rk_s) ?_
        refine w_icmpge (t := 102) rfl rfl (show inr ((a1 - u5_25)) by omega) (show inr (tc81_0) by omega) (fun b145 => ?_) (fun b145 => ?_)
        · refine Ew_of (pc' := 103) (fun _ => x_aload_n rfl (rk_o (lc81_0) rfl rfl)) ?_
          refine Ew_of (pc' := 104) (fun _ => x_aload_n rfl (rk_o (lc81_0) rfl rfl)) ?_
          refine w_gI H (o := 5) (w := u5_25) rfl (H.perm 5 rfl) rfl rfl rfl (fun _ => rfl) ((hS_c81 5 25 rfl).trans (eu5_25)) ?_
          refine Ew_of (pc' := 109) (fun _ => x_iload rfl rk_s) ?_
          refine w_inv H (o := 5) rfl rfl rfl (H.perm 5 rfl) rfl rfl (by rfl) (M257 H (A 14) (funext (hA_c81 14 rfl)) (show inr (u5_25) by omega) (show inr (tc81_0) by omega) (show 0 ≤ (u5_25) ∧ 0 ≤ (tc81_0) ∧ (tc81_0) ≤ 8 ∧ (u5_25) + (tc81_0) ≤ 65536 by omega) (fun z150 σ F146 A147 H hS148 hA149 pz150_0 pz150_1 pz150_2 pz150_3 pz150_4 pz150_5 pz150_6 pz150_7 pz150_8 pz150_9 => ⟨rfl, ?_⟩))
          refine w_l2i rfl ?_
          refine Ew_of (pc' := 115) (fun _ => x_iload rfl rk_s) ?_
          refine Ew_of (pc' := 116) (fun _ => x_iconst rfl) ?_
          have hc126 : ∀ (tc126_0 : Int), ∀ (ls : rO) (σ : rS) (F_c126 : hF) (A_c126 : hA) , rlook ls 0 = some (.ref (D 5)) → rlook ls 1 = some (I (a1)) → rlook ls 2 = some (I (u5_25)) → rlook ls 3 = some (I ((v5 % 4))) → rlook ls 5 = some (I (tc81_0)) → HS σ0 σ D N F_c126 A_c126 → SF [] F146 F_c126 → SA [] A147 A_c126 → (inr (tc126_0)) → (((tc81_0) ≠ (1) ∧ (tc126_0) = (16)) ∨ ((tc81_0) = (1) ∧ (tc126_0) = (8))) → Ew 291 (d + 4) 126 ls [I (tc126_0), I (z150)] σ c s Q := by
           as_aux_lemma =>
            intro tc126_0 ls σ F_c126 A_c126  lc126_0 lc126_1 lc126_2 lc126_3 lc126_5 H hS_c126 hA_c126   jc126_0 jc126_1
            have hdv : 0 ≤ (z150) / (tc126_0) ∧ (z150) / (tc126_0) ≤ (z150) := ⟨Int.ediv_nonneg (by omega) (by omega), Int.ediv_le_self _ (by omega)⟩
            refine w_idiv rfl (show inr (z150) ∧ 0 ≤ z150 by omega) (show inr (tc126_0) ∧ 0 < tc126_0 by omega) ?_
            refine Ew_of (pc' := 129) (fun _ => x_istore rfl) ?_
            refine Ew_of (pc' := 130) (fun _ => x_aload_n rfl (rk_o (lc126_0) rfl rfl)) ?_
            refine Ew_of (pc' := 131) (fun _ => x_dup rfl rfl) ?_
            refine w_gI H (o := 5) (w := u5_25) rfl (H.perm 5 rfl) rfl rfl rfl (fun _ => rfl) ((((hS_c126 5 25 rfl).trans (hS148 5 25 rfl)).trans (hS_c81 5 25 rfl)).trans (eu5_25)) ?_
            refine Ew_of (pc' := 136) (fun _ => x_iload rfl (rk_o (lc126_5) rfl rfl)) ?_
            refine w_iadd rfl ?_
            refine w_pI H (o := 5) rfl rfl (H.perm 5 rfl) rfl rfl rfl (fun _ => rfl) rfl (show (0 : Int) ≤ (u5_25 + tc81_0) ∧ (u5_25 + tc81_0) ≤ 65536 by omega) (fun σ H => ?_)
            refine Ew_of (pc' := 142) (fun _ => x_iload rfl rk_s) ?_
            refine Ew_of (pc' := 143) (fun _ => x_aload_n rfl (rk_o (lc126_0) rfl rfl)) ?_
            have r151 : (0 : Int) ≤ F 5 29 ∧ F 5 29 ≤ 131072 := by have h1 : (0 : Int) ≤ (updF F_c126 5 25 ((u5_25 + tc81_0))) 5 29 ∧ (updF F_c126 5 25 ((u5_25 + tc81_0))) 5 29 ≤ 131072 := H.frng 5 29; rw [show (updF F_c126 5 25 ((u5_25 + tc81_0))) 5 29 = F 5 29 from (((hS_c126 5 29 rfl).trans (hS148 5 29 rfl)).trans (hS_c81 5 29 rfl))] at h1; exact h1
            refine w_gI H (o := 5) (w := F 5 29) rfl (H.perm 5 rfl) rfl rfl rfl (fun _ => rfl) (((hS_c126 5 29 rfl).trans (hS148 5 29 rfl)).trans (hS_c81 5 29 rfl)) ?_
            refine w_icmple (t := 157) rfl rfl (show inr ((z150 / tc126_0)) by omega) (show inr (F 5 29) by omega) (fun b152 => ?_) (fun b152 => ?_)
            · refine Ew_of (pc' := 158) (fun _ => x_iload_n rfl (rk_o (lc126_3) rfl rfl)) ?_
              have hc167 : ∀ (tc167_0 : Int), ∀ (ls : rO) (σ : rS) (F_c167 : hF) (A_c167 : hA) , rlook ls 0 = some (.ref (D 5)) → rlook ls 1 = some (I (a1)) → rlook ls 3 = some (I ((v5 % 4))) → rlook ls 6 = some (I ((z150 / tc126_0))) → HS σ0 σ D N F_c167 A_c167 → SF [] (updF F_c126 5 25 ((u5_25 + tc81_0))) F_c167 → SA [] A_c126 A_c167 → (inr (tc167_0)) → ((((v5 % 4)) ≠ (0) ∧ (tc167_0) = (1)) ∨ (((v5 % 4)) = (0) ∧ (tc167_0) = ((z150 / tc126_0)))) → Ew 291 (d + 4) 167 ls [I (tc167_0)] σ c s Q := by
               as_aux_lemma =>
                intro tc167_0 ls σ F_c167 A_c167  lc167_0 lc167_1 lc167_3 lc167_6 H hS_c167 hA_c167   jc167_0 jc167_1
                refine Ew_of (pc' := 169) (fun _ => x_istore rfl) ?_
                refine Ew_of (pc' := 170) (fun _ => x_iload_n rfl (rk_o (lc167_1) rfl rfl)) ?_
                refine Ew_of (pc' := 171) (fun _ => x_aload_n rfl (rk_o (lc167_0) rfl rfl)) ?_
                refine w_gI H (o := 5) (w := (u5_25 + tc81_0)) rfl (H.perm 5 rfl) rfl rfl rfl (fun _ => rfl) (hS_c167 5 25 rfl) ?_
                refine w_isub rfl ?_
                refine Ew_of (pc' := 177) (fun _ => x_iload rfl rk_s) ?_
                refine w_icmpge (t := 188) rfl rfl (show inr ((a1 - (u5_25 + tc81_0))) by omega) (show inr (tc167_0) by omega) (fun b153 => ?_) (fun b153 => ?_)
                · refine Ew_of (pc' := 189) (fun _ => x_iconst rfl) ?_
                  refine Ew_of (pc' := 191) (fun _ => x_istore rfl) ?_
                  suffices hl191 : ∀ (m : Nat), ∀ (ls : rO) (σ : rS) (F_191 : hF) (A_191 : hA) (x191_8 : Int), rlook ls 0 = some (.ref (D 5)) → rlook ls 3 = some (I ((v5 % 4))) → rlook ls 6 = some (I ((z150 / tc126_0))) → rlook ls 7 = some (I (tc167_0)) → rlook ls 8 = some (I (x191_8)) → HS σ0 σ D N F_191 A_191 → SF [] F_c167 F_191 → SA [46] A_c167 A_191 → (inr (x191_8)) → ((0) ≤ (x191_8)) → ((x191_8) ≤ (0) ∨ (x191_8) ≤ (((z150 / tc126_0)))) → ((((z150 / tc126_0))) - (x191_8)).toNat = m → Ew 291 (d + 4) 191 ls [] σ c s Q from
                    hl191 _ _ σ _ _ (0) (rk_o (rk_o (lc167_0) rfl rfl) rfl rfl) (rk_o (rk_o (lc167_3) rfl rfl) rfl rfl) (rk_o (rk_o (lc167_6) rfl rfl) rfl rfl) (rk_o (rk_s) rfl rfl) (rk_s) H (SF_refl) (SA_refl)   (show inr (0) by omega) (show (0) ≤ (0) by omega) (show (0) ≤ (0) ∨ (0) ≤ (((z150 / tc126_0))) by omega) rfl
                  as_aux_lemma =>
                  intro m
                  induction m using Nat.strongRecOn with
                  | _ m ih191 =>
                    intro ls σ F_191 A_191 x191_8 l191_0 l191_3 l191_6 l191_7 l191_8 H hS_191 hA_191   j191_0 j191_1 j191_2 hm191
                    refine Ew_of (pc' := 193) (fun _ => x_iload rfl l191_8) ?_
                    refine Ew_of (pc' := 195) (fun _ => x_iload rfl l191_6) ?_
                    refine w_icmpge (t := 237) rfl rfl (show inr (x191_8) by omega) (show inr ((z150 / tc126_0)) by omega) (fun b154 => ?_) (fun b154 => ?_)
                    · refine Ew_of (pc' := 238) (fun _ => x_aload_n rfl l191_0) ?_
                      refine Ew_of (pc' := 240) (fun _ => x_iload rfl l191_6) ?_
                      refine w_pI H (o := 5) rfl rfl (H.perm 5 rfl) rfl rfl rfl (fun _ => rfl) rfl (show (0 : Int) ≤ (z150 / tc126_0) ∧ (z150 / tc126_0) ≤ 131072 by omega) (fun σ H => ?_)
                      refine Ew_of (pc' := 244) (fun _ => x_aload_n rfl l191_0) ?_
                      refine Ew_of (pc' := 245) (fun _ => x_dup rfl rfl) ?_
                      refine w_gI H (o := 5) (w := (u5_25 + tc81_0)) rfl (H.perm 5 rfl) rfl rfl rfl (fun _ => rfl) ((hS_191 5 25 rfl).trans (hS_c167 5 25 rfl)) ?_
                      refine Ew_of (pc' := 250) (fun _ => x_iload rfl l191_7) ?_
                      refine w_iadd rfl ?_
                      refine w_pI H (o := 5) rfl rfl (H.perm 5 rfl) rfl rfl rfl (fun _ => rfl) rfl (show (0 : Int) ≤ ((u5_25 + tc81_0) + tc167_0) ∧ ((u5_25 + tc81_0) + tc167_0) ≤ 65536 by omega) (fun σ H => ?_)
                      refine Ew_of (pc' := 255) (fun _ => x_iconst rfl) ?_
                      exact w_ireturn rfl (k (1) σ _ _ H (SF_upd (SF_upd (SF_trans (SF_trans (SF_upd (SF_trans (SF_trans (SF_trans (SF_refl) hS_c81 (any_sub rfl)) hS148 (any_sub rfl)) hS_c126 (any_sub rfl)) rfl) hS_c167 (any_sub rfl)) hS_191 (any_sub rfl)) rfl) rfl) (SA_trans (SA_trans (SA_trans (SA_trans (SA_trans (SA_refl) hA_c81 (any_subA rfl)) hA149 (any_subA rfl)) hA_c126 (any_subA rfl)) hA_c167 (any_subA rfl)) hA_191 (any_subA rfl)) (((u5_25 + tc81_0) + tc167_0)) (rfl) ((z150 / tc126_0)) (rfl) (show (1) = 0 ∨ (1) = 1 by omega) (show (1) = 1 → (u5_25) ≤ (((u5_25 + tc81_0) + tc167_0)) ∧ (((u5_25 + tc81_0) + tc167_0)) ≤ a1 by omega) (show 0 ≤ ((z150 / tc126_0)) ∧ ((z150 / tc126_0)) ≤ 131072 by omega))
                    · refine Ew_of (pc' := 199) (fun _ => x_aload_n rfl l191_0) ?_
                      refine w_gT H (o := 5) (t := 46) rfl (H.perm 5 rfl) rfl rfl rfl rfl rfl rfl ?_
                      refine Ew_of (pc' := 204) (fun _ => x_iload rfl l191_8) ?_
                      refine Ew_of (pc' := 205) (fun _ => x_aload_n rfl l191_0) ?_
                      refine w_gT H (o := 5) (t := 1) rfl (H.perm 5 rfl) rfl rfl rfl rfl rfl rfl ?_
                      refine w_gT H (o := 1) (t := 14) rfl (H.perm 1 rfl) rfl rfl rfl rfl rfl rfl ?_
                      refine Ew_of (pc' := 212) (fun _ => x_iload_n rfl l191_3) ?_
                      refine w_ifne (t := 225) rfl rfl (show inr ((v5 % 4)) by omega) (fun b155 => ?_) (fun b155 => ?_)
                      · refine Ew_of (pc' := 226) (fun _ => x_aload_n rfl l191_0) ?_
                        refine w_gI H (o := 5) (w := (u5_25 + tc81_0)) rfl (H.perm 5 rfl) rfl rfl rfl (fun _ => rfl) ((hS_191 5 25 rfl).trans (hS_c167 5 25 rfl)) ?_
                        refine w_lI H (o := 14) (n := 65536) rfl (H.perm 14 rfl) rfl rfl (H.fix 14 rfl rfl) (show 0 ≤ (u5_25 + tc81_0) ∧ (u5_25 + tc81_0) < ((65536 : Nat) : Int) by omega) (by decide) (fun v156 ev156 qv156 => ?_)
                        have qv156 : (0 : Int) ≤ v156 ∧ v156 ≤ 255 := qv156
                        have ev156 : (A 14) ((u5_25 + tc81_0)) = v156 := (congrFun ((funext (hA_191 14 rfl)).trans ((funext (hA_c167 14 rfl)).trans ((funext (hA_c126 14 rfl)).trans ((funext (hA149 14 rfl)).trans (funext (hA_c81 14 rfl)))))) ((u5_25 + tc81_0))).symm.trans ev156
                        refine w_sI H (o := 46) (n := 131072) rfl (H.perm 46 rfl) rfl rfl (H.fix 46 rfl rfl) (show 0 ≤ x191_8 ∧ x191_8 < ((131072 : Nat) : Int) by omega) (by decide) (show (0 : Int) ≤ v156 ∧ v156 ≤ 255 by omega) (fun σ H => ?_)
                        refine Ew_of (pc' := 234) (fun _ => x_iinc (len := 3) rfl (l191_8)) ?_
                        refine Ew_of (pc' := 191) (fun _ => x_goto rfl rfl) ?_
                        exact ih191 _ (by omega) _ σ _ _ ((x191_8 + 1)) (rk_o (l191_0) rfl rfl) (rk_o (l191_3) rfl rfl) (rk_o (l191_6) rfl rfl) (rk_o (l191_7) rfl rfl) (rk_s) H (hS_191) (SA_upd (hA_191) rfl)   (show inr ((x191_8 + 1)) by omega) (show (0) ≤ ((x191_8 + 1)) by omega) (show ((x191_8 + 1)) ≤ (0) ∨ ((x191_8 + 1)) ≤ (((z150 / tc126_0))) by omega) rfl
                      · refine Ew_of (pc' := 216) (fun _ => x_aload_n rfl l191_0) ?_
                        refine w_gI H (o := 5) (w := (u5_25 + tc81_0)) rfl (H.perm 5 rfl) rfl rfl rfl (fun _ => rfl) ((hS_191 5 25 rfl).trans (hS_c167 5 25 rfl)) ?_
                        refine Ew_of (pc' := 221) (fun _ => x_iload rfl l191_8) ?_
                        refine w_iadd rfl ?_
                        refine Ew_of (pc' := 229) (fun _ => x_goto rfl rfl) ?_
                        refine w_lI H (o := 14) (n := 65536) rfl (H.perm 14 rfl) rfl rfl (H.fix 14 rfl rfl) (show 0 ≤ ((u5_25 + tc81_0) + x191_8) ∧ ((u5_25 + tc81_0) + x191_8) < ((65536 : Nat) : Int) by omega) (by decide) (fun v157 ev157 qv157 => ?_)
                        have qv157 : (0 : Int) ≤ v157 ∧ v157 ≤ 255 := qv157
                        have ev157 : (A 14) (((u5_25 + tc81_0) + x191_8)) = v157 := (congrFun ((funext (hA_191 14 rfl)).trans ((funext (hA_c167 14 rfl)).trans ((funext (hA_c126 14 rfl)).trans ((funext (hA149 14 rfl)).trans (funext (hA_c81 14 rfl)))))) (((u5_25 + tc81_0) + x191_8))).symm.trans ev157
                        refine w_sI H (o := 46) (n := 131072) rfl (H.perm 46 rfl) rfl rfl (H.fix 46 rfl rfl) (show 0 ≤ x191_8 ∧ x191_8 < ((131072 : Nat) : Int) by omega) (by decide) (show (0 : Int) ≤ v157 ∧ v157 ≤ 255 by omega) (fun σ H => ?_)
                        refine Ew_of (pc' := 234) (fun _ => x_iinc (len := 3) rfl (l191_8)) ?_
                        refine Ew_of (pc' := 191) (fun _ => x_goto rfl rfl) ?_
                        exact ih191 _ (by omega) _ σ _ _ ((x191_8 + 1)) (rk_o (l191_0) rfl rfl) (rk_o (l191_3) rfl rfl) (rk_o (l191_6) rfl rfl) (rk_o (l191_7) rfl rfl) (rk_s) H (hS_191) (SA_upd (hA_191) rfl)   (show inr ((x191_8 + 1)) by omega) (show (0) ≤ ((x191_8 + 1)) by omega) (show ((x191_8 + 1)) ≤ (0) ∨ ((x191_8 + 1)) ≤ (((z150 / tc126_0))) by omega) rfl
                · refine Ew_of (pc' := 181) (fun _ => x_aload_n rfl (rk_o (lc167_0) rfl rfl)) ?_
                  refine Ew_of (pc' := 183) (fun _ => x_bipush (z := 10) rfl (by decide)) ?_
                  refine Ew_of (pc' := 184) (fun _ => x_iload_n rfl (rk_o (lc167_1) rfl rfl)) ?_
                  refine w_inv H (o := 5) rfl rfl rfl (H.perm 5 rfl) rfl rfl (by rfl) (M282 H (show inr (10) by omega) (show inr (a1) by omega) (show 0 ≤ (10) ∧ (10) ≤ 20 by omega) (show 0 ≤ (a1) ∧ (a1) ≤ 65536 by omega) (fun z162 σ F158 A159 H hS160 hA161 y163 ey164 y165 ey166 pz162_0 pz162_1 pz162_2 pz162_3 => ⟨rretB rfl pz162_0, ?_⟩))
                  have r167 : (0 : Int) ≤ y163 ∧ y163 ≤ 20 := by have h1 : (0 : Int) ≤ F158 5 30 ∧ F158 5 30 ≤ 20 := H.frng 5 30; rw [show F158 5 30 = y163 from (ey164)] at h1; exact h1
                  have r168 : (0 : Int) ≤ y165 ∧ y165 ≤ 65536 := by have h1 : (0 : Int) ≤ F158 5 31 ∧ F158 5 31 ≤ 65536 := H.frng 5 31; rw [show F158 5 31 = y165 from (ey166)] at h1; exact h1
                  exact w_ireturn rfl (k (z162) σ _ _ H (SF_trans (SF_trans (SF_upd (SF_trans (SF_trans (SF_trans (SF_refl) hS_c81 (any_sub rfl)) hS148 (any_sub rfl)) hS_c126 (any_sub rfl)) rfl) hS_c167 (any_sub rfl)) hS160 (any_sub rfl)) (SA_trans (SA_trans (SA_trans (SA_trans (SA_trans (SA_refl) hA_c81 (any_subA rfl)) hA149 (any_subA rfl)) hA_c126 (any_subA rfl)) hA_c167 (any_subA rfl)) hA161 (any_subA rfl)) ((u5_25 + tc81_0)) (((hS160 5 25 rfl).trans (hS_c167 5 25 rfl))) (u5_39) (((((((hS160 5 39 rfl).trans (hS_c167 5 39 rfl)).trans (hS_c126 5 39 rfl)).trans (hS148 5 39 rfl)).trans (hS_c81 5 39 rfl)).trans (eu5_39))) (show (z162) = 0 ∨ (z162) = 1 by omega) (show (z162) = 1 → (u5_25) ≤ ((u5_25 + tc81_0)) ∧ ((u5_25 + tc81_0)) ≤ a1 by omega) (show 0 ≤ (u5_39) ∧ (u5_39) ≤ 131072 by omega))
              refine w_ifne (t := 166) rfl rfl (show inr ((v5 % 4)) by omega) (fun b169 => ?_) (fun b169 => ?_)
              · refine Ew_of (pc' := 167) (fun _ => x_iconst rfl) ?_
                exact hc167 (1) _ σ _ _  (rk_o (lc126_0) rfl rfl) (rk_o (lc126_1) rfl rfl) (rk_o (lc126_3) rfl rfl) (rk_s) H (SF_refl) (SA_refl)   (show inr (1) by omega) (show (((v5 % 4)) ≠ (0) ∧ (1) = (1)) ∨ (((v5 % 4)) = (0) ∧ (1) = ((z150 / tc126_0))) by omega)
              · refine Ew_of (pc' := 163) (fun _ => x_iload rfl rk_s) ?_
                refine Ew_of (pc' := 167) (fun _ => x_goto rfl rfl) ?_
                exact hc167 ((z150 / tc126_0)) _ σ _ _  (rk_o (lc126_0) rfl rfl) (rk_o (lc126_1) rfl rfl) (rk_o (lc126_3) rfl rfl) (rk_s) H (SF_refl) (SA_refl)   (show inr ((z150 / tc126_0)) by omega) (show (((v5 % 4)) ≠ (0) ∧ ((z150 / tc126_0)) = (1)) ∨ (((v5 % 4)) = (0) ∧ ((z150 / tc126_0)) = ((z150 / tc126_0))) by omega)
            · refine Ew_of (pc' := 150) (fun _ => x_aload_n rfl (rk_o (lc126_0) rfl rfl)) ?_
              refine Ew_of (pc' := 152) (fun _ => x_bipush (z := 11) rfl (by decide)) ?_
              refine Ew_of (pc' := 153) (fun _ => x_iload_n rfl (rk_o (lc126_2) rfl rfl)) ?_
              refine w_inv H (o := 5) rfl rfl rfl (H.perm 5 rfl) rfl rfl (by rfl) (M282 H (show inr (11) by omega) (show inr (u5_25) by omega) (show 0 ≤ (11) ∧ (11) ≤ 20 by omega) (show 0 ≤ (u5_25) ∧ (u5_25) ≤ 65536 by omega) (fun z174 σ F170 A171 H hS172 hA173 y175 ey176 y177 ey178 pz174_0 pz174_1 pz174_2 pz174_3 => ⟨rretB rfl pz174_0, ?_⟩))
              have r179 : (0 : Int) ≤ y175 ∧ y175 ≤ 20 := by have h1 : (0 : Int) ≤ F170 5 30 ∧ F170 5 30 ≤ 20 := H.frng 5 30; rw [show F170 5 30 = y175 from (ey176)] at h1; exact h1
              have r180 : (0 : Int) ≤ y177 ∧ y177 ≤ 65536 := by have h1 : (0 : Int) ≤ F170 5 31 ∧ F170 5 31 ≤ 65536 := H.frng 5 31; rw [show F170 5 31 = y177 from (ey178)] at h1; exact h1
              exact w_ireturn rfl (k (z174) σ _ _ H (SF_trans (SF_upd (SF_trans (SF_trans (SF_trans (SF_refl) hS_c81 (any_sub rfl)) hS148 (any_sub rfl)) hS_c126 (any_sub rfl)) rfl) hS172 (any_sub rfl)) (SA_trans (SA_trans (SA_trans (SA_trans (SA_refl) hA_c81 (any_subA rfl)) hA149 (any_subA rfl)) hA_c126 (any_subA rfl)) hA173 (any_subA rfl)) ((u5_25 + tc81_0)) ((hS172 5 25 rfl)) (u5_39) ((((((hS172 5 39 rfl).trans (hS_c126 5 39 rfl)).trans (hS148 5 39 rfl)).trans (hS_c81 5 39 rfl)).trans (eu5_39))) (show (z174) = 0 ∨ (z174) = 1 by omega) (show (z174) = 1 → (u5_25) ≤ ((u5_25 + tc81_0)) ∧ ((u5_25 + tc81_0)) ≤ a1 by omega) (show 0 ≤ (u5_39) ∧ (u5_39) ≤ 131072 by omega))
          refine w_icmpne (t := 124) rfl rfl (show inr (tc81_0) by omega) (show inr (1) by omega) (fun b181 => ?_) (fun b181 => ?_)
          · refine Ew_of (pc' := 126) (fun _ => x_bipush (z := 16) rfl (by decide)) ?_
            exact hc126 (16) _ σ _ _  (rk_o (lc81_0) rfl rfl) (rk_o (lc81_1) rfl rfl) (rk_o (lc81_2) rfl rfl) (rk_o (lc81_3) rfl rfl) (rk_s) H (SF_refl) (SA_refl)   (show inr (16) by omega) (show ((tc81_0) ≠ (1) ∧ (16) = (16)) ∨ ((tc81_0) = (1) ∧ (16) = (8)) by omega)
          · refine Ew_of (pc' := 121) (fun _ => x_bipush (z := 8) rfl (by decide)) ?_
            refine Ew_of (pc' := 126) (fun _ => x_goto rfl rfl) ?_
            exact hc126 (8) _ σ _ _  (rk_o (lc81_0) rfl rfl) (rk_o (lc81_1) rfl rfl) (rk_o (lc81_2) rfl rfl) (rk_o (lc81_3) rfl rfl) (rk_s) H (SF_refl) (SA_refl)   (show inr (8) by omega) (show ((tc81_0) ≠ (1) ∧ (8) = (16)) ∨ ((tc81_0) = (1) ∧ (8) = (8)) by omega)
        · refine Ew_of (pc' := 95) (fun _ => x_aload_n rfl (rk_o (lc81_0) rfl rfl)) ?_
          refine Ew_of (pc' := 97) (fun _ => x_bipush (z := 10) rfl (by decide)) ?_
          refine Ew_of (pc' := 98) (fun _ => x_iload_n rfl (rk_o (lc81_1) rfl rfl)) ?_
          refine w_inv H (o := 5) rfl rfl rfl (H.perm 5 rfl) rfl rfl (by rfl) (M282 H (show inr (10) by omega) (show inr (a1) by omega) (show 0 ≤ (10) ∧ (10) ≤ 20 by omega) (show 0 ≤ (a1) ∧ (a1) ≤ 65536 by omega) (fun z186 σ F182 A183 H hS184 hA185 y187 ey188 y189 ey190 pz186_0 pz186_1 pz186_2 pz186_3 => ⟨rretB rfl pz186_0, ?_⟩))
          have r191 : (0 : Int) ≤ y187 ∧ y187 ≤ 20 := by have h1 : (0 : Int) ≤ F182 5 30 ∧ F182 5 30 ≤ 20 := H.frng 5 30; rw [show F182 5 30 = y187 from (ey188)] at h1; exact h1
          have r192 : (0 : Int) ≤ y189 ∧ y189 ≤ 65536 := by have h1 : (0 : Int) ≤ F182 5 31 ∧ F182 5 31 ≤ 65536 := H.frng 5 31; rw [show F182 5 31 = y189 from (ey190)] at h1; exact h1
          exact w_ireturn rfl (k (z186) σ _ _ H (SF_trans (SF_trans (SF_refl) hS_c81 (any_sub rfl)) hS184 (any_sub rfl)) (SA_trans (SA_trans (SA_refl) hA_c81 (any_subA rfl)) hA185 (any_subA rfl)) (u5_25) ((((hS184 5 25 rfl).trans (hS_c81 5 25 rfl)).trans (eu5_25))) (u5_39) ((((hS184 5 39 rfl).trans (hS_c81 5 39 rfl)).trans (eu5_39))) (show (z186) = 0 ∨ (z186) = 1 by omega) (show (z186) = 1 → (u5_25) ≤ (u5_25) ∧ (u5_25) ≤ a1 by omega) (show 0 ≤ (u5_39) ∧ (u5_39) ≤ 131072 by omega))
      refine w_ifne (t := 70) rfl rfl (show inr ((((v6 / 4) % 4) % 2)) by omega) (fun b193 => ?_) (fun b193 => ?_)
      · refine Ew_of (pc' := 72) (fun _ => x_iload rfl rk_s) ?_
        refine Ew_of (pc' := 73) (fun _ => x_iconst rfl) ?_
        refine w_icmpne (t := 80) rfl rfl (show inr (((v6 / 4) % 4)) by omega) (show inr (1) by omega) (fun b194 => ?_) (fun b194 => ?_)
        · refine Ew_of (pc' := 81) (fun _ => x_iconst rfl) ?_
          exact hc81 (3) _ σ _ _  (rk_o (rk_o (rk_o (rfl) rfl rfl) rfl rfl) rfl rfl) (rk_o (rk_o (rk_o (rfl) rfl rfl) rfl rfl) rfl rfl) (rk_o (rk_o (rk_s) rfl rfl) rfl rfl) (rk_o (rk_s) rfl rfl) H (SF_refl) (SA_refl)   (show inr (3) by omega) (show (((((v6 / 4) % 4) % 2)) ≠ (0) ∧ (((v6 / 4) % 4)) ≠ (1) ∧ (3) = (3)) ∨ (((((v6 / 4) % 4) % 2)) ≠ (0) ∧ (((v6 / 4) % 4)) = (1) ∧ (3) = (2)) ∨ (((((v6 / 4) % 4) % 2)) = (0) ∧ (3) = (1)) by omega)
        · refine Ew_of (pc' := 77) (fun _ => x_iconst rfl) ?_
          refine Ew_of (pc' := 81) (fun _ => x_goto rfl rfl) ?_
          exact hc81 (2) _ σ _ _  (rk_o (rk_o (rk_o (rfl) rfl rfl) rfl rfl) rfl rfl) (rk_o (rk_o (rk_o (rfl) rfl rfl) rfl rfl) rfl rfl) (rk_o (rk_o (rk_s) rfl rfl) rfl rfl) (rk_o (rk_s) rfl rfl) H (SF_refl) (SA_refl)   (show inr (2) by omega) (show (((((v6 / 4) % 4) % 2)) ≠ (0) ∧ (((v6 / 4) % 4)) ≠ (1) ∧ (2) = (3)) ∨ (((((v6 / 4) % 4) % 2)) ≠ (0) ∧ (((v6 / 4) % 4)) = (1) ∧ (2) = (2)) ∨ (((((v6 / 4) % 4) % 2)) = (0) ∧ (2) = (1)) by omega)
      · refine Ew_of (pc' := 67) (fun _ => x_iconst rfl) ?_
        refine Ew_of (pc' := 81) (fun _ => x_goto rfl rfl) ?_
        exact hc81 (1) _ σ _ _  (rk_o (rk_o (rk_o (rfl) rfl rfl) rfl rfl) rfl rfl) (rk_o (rk_o (rk_o (rfl) rfl rfl) rfl rfl) rfl rfl) (rk_o (rk_o (rk_s) rfl rfl) rfl rfl) (rk_o (rk_s) rfl rfl) H (SF_refl) (SA_refl)   (show inr (1) by omega) (show (((((v6 / 4) % 4) % 2)) ≠ (0) ∧ (((v6 / 4) % 4)) ≠ (1) ∧ (1) = (3)) ∨ (((((v6 / 4) % 4) % 2)) ≠ (0) ∧ (((v6 / 4) % 4)) = (1) ∧ (1) = (2)) ∨ (((((v6 / 4) % 4) % 2)) = (0) ∧ (1) = (1)) by omega)
  · refine Ew_of (pc' := 14) (fun _ => x_aload_n rfl (rk_o (rfl) rfl rfl)) ?_
    refine Ew_of (pc' := 16) (fun _ => x_bipush (z := 10) rfl (by decide)) ?_
    refine Ew_of (pc' := 17) (fun _ => x_iload_n rfl (rk_o (rfl) rfl rfl)) ?_
    refine w_inv H (o := 5) rfl rfl rfl (H.perm 5 rfl) rfl rfl (by rfl) (M282 H (show inr (10) by omega) (show inr (a1) by omega) (show 0 ≤ (10) ∧ (10) ≤ 20 by omega) (show 0 ≤ (a1) ∧ (a1) ≤ 65536 by omega) (fun z199 σ F195 A196 H hS197 hA198 y200 ey201 y202 ey203 pz199_0 pz199_1 pz199_2 pz199_3 => ⟨rretB rfl pz199_0, ?_⟩))
    have r204 : (0 : Int) ≤ y200 ∧ y200 ≤ 20 := by have h1 : (0 : Int) ≤ F195 5 30 ∧ F195 5 30 ≤ 20 := H.frng 5 30; rw [show F195 5 30 = y200 from (ey201)] at h1; exact h1
    have r205 : (0 : Int) ≤ y202 ∧ y202 ≤ 65536 := by have h1 : (0 : Int) ≤ F195 5 31 ∧ F195 5 31 ≤ 65536 := H.frng 5 31; rw [show F195 5 31 = y202 from (ey203)] at h1; exact h1
    exact w_ireturn rfl (k (z199) σ _ _ H (SF_trans (SF_refl) hS197 (any_sub rfl)) (SA_trans (SA_refl) hA198 (any_subA rfl)) (u5_25) (((hS197 5 25 rfl).trans (eu5_25))) (u5_39) (((hS197 5 39 rfl).trans (eu5_39))) (show (z199) = 0 ∨ (z199) = 1 by omega) (show (z199) = 1 → (u5_25) ≤ (u5_25) ∧ (u5_25) ≤ a1 by omega) (show 0 ≤ (u5_39) ∧ (u5_39) ≤ 131072 by omega))
