/-- Reader.readLiterals -/
theorem M291 {σ0 σ : rS} {D N : Nat → Nat} {F : hF} {A : hA} {d c s : Nat} {Q : wQ} (H : HS σ0 σ D N F A) {a1 : Int} (u1_1 : Int) (eu1_1 : F 1 1 = u1_1) (u5_25 : Int) (eu5_25 : F 5 25 = u5_25) (u5_39 : Int) (eu5_39 : F 5 39 = u5_39) (h0 : inr (a1)) (h1 : 0 ≤ (u5_25) ∧ (u5_25) ≤ (a1) ∧ (a1) ≤ (u1_1)) (h2 : (u5_39) = 0) (k : ∀ (z : Int) σ Fₚ Aₚ, HS σ0 σ D N Fₚ Aₚ → SF [(5, 10), (5, 19), (5, 25), (5, 30), (5, 31), (5, 39), (5, 44), (5, 45)] F Fₚ → SA [31, 32, 39, 40, 41, 42, 43, 44, 46] A Aₚ → ∀ y5_25 : Int, Fₚ 5 25 = y5_25 → ∀ y5_39 : Int, Fₚ 5 39 = y5_39 → ((z) = 0 ∨ (z) = 1) → ((z) = 1 → (u5_25) ≤ (y5_25) ∧ (y5_25) ≤ (a1)) → (0 ≤ (y5_39) ∧ (y5_39) ≤ 131072) → Q (some (I z)) σ c s) : Ew 291 (d + 4) 0 (rargs 0 [.ref (D 5), I a1]) [] σ c s Q := by
  have r1 : (0 : Int) ≤ u1_1 ∧ u1_1 ≤ 65536 := rngE (show (0 : Int) ≤ F 1 1 ∧ F 1 1 ≤ 65536 from H.frng 1 1) (show F 1 1 = u1_1 from (eu1_1))
  have r2 : (0 : Int) ≤ u5_25 ∧ u5_25 ≤ 65536 := rngE (show (0 : Int) ≤ F 5 25 ∧ F 5 25 ≤ 65536 from H.frng 5 25) (show F 5 25 = u5_25 from (eu5_25))
  have r3 : (0 : Int) ≤ u5_39 ∧ u5_39 ≤ 131072 := rngE (show (0 : Int) ≤ F 5 39 ∧ F 5 39 ≤ 131072 from H.frng 5 39) (show F 5 39 = u5_39 from (eu5_39))
  refine Ew_of (pcₚ := 1) (fun _ => x_aload_n rfl rfl) ?_
  refine w_gI H (o := 5) (w := u5_25) rfl (H.perm 5 rfl) rfl rfl rfl (fun _ => rfl) (eu5_25) ?_
  refine Ew_of (pcₚ := 5) (fun _ => x_istore_n rfl) ?_
  refine Ew_of (pcₚ := 6) (fun _ => x_aload_n rfl (rk_o (rfl) rfl rfl)) ?_
  refine w_gI H (o := 5) (w := u5_25) rfl (H.perm 5 rfl) rfl rfl rfl (fun _ => rfl) (eu5_25) ?_
  refine Ew_of (pcₚ := 10) (fun _ => x_iload_n rfl (rk_o (rfl) rfl rfl)) ?_
  refine w_icmplt (t := 21) rfl rfl (show inr (u5_25) from q_12 r2) (show inr (a1) from h0) (fun b4 => ?_) (fun b4 => ?_)
  · refine Ew_of (pcₚ := 22) (fun _ => x_aload_n rfl (rk_o (rfl) rfl rfl)) ?_
    refine w_gT H (o := 5) (t := 1) rfl (H.perm 5 rfl) rfl rfl rfl rfl rfl rfl ?_
    refine w_gT H (o := 1) (t := 14) rfl (H.perm 1 rfl) rfl rfl rfl rfl rfl rfl ?_
    refine Ew_of (pcₚ := 29) (fun _ => x_aload_n rfl (rk_o (rfl) rfl rfl)) ?_
    refine w_gI H (o := 5) (w := u5_25) rfl (H.perm 5 rfl) rfl rfl rfl (fun _ => rfl) (eu5_25) ?_
    refine w_lI H (o := 14) (n := 65536) rfl (H.perm 14 rfl) rfl rfl (H.fix 14 rfl rfl) (show 0 ≤ u5_25 ∧ u5_25 < ((65536 : Nat) : Int) from q_1363 b4 h1 r1 r2) (by decide) (fun v5 ev5 qv5 => ?_)
    have qv5 : (0 : Int) ≤ v5 ∧ v5 ≤ 255 := qv5
    have ev5 : (A 14) (u5_25) = v5 := (congrFun (rfl : A 14 = A 14) (u5_25)).symm.trans ev5
    refine Ew_of (pcₚ := 34) (fun _ => x_iconst rfl) ?_
    refine w_irem rfl (show inr (v5) ∧ 0 ≤ v5 from q_278 qv5) (show inr (4) ∧ 0 < 4 from q_828) ?_
    refine Ew_of (pcₚ := 36) (fun _ => x_istore_n rfl) ?_
    refine Ew_of (pcₚ := 37) (fun _ => x_aload_n rfl (rk_o (rk_o (rfl) rfl rfl) rfl rfl)) ?_
    refine w_gT H (o := 5) (t := 1) rfl (H.perm 5 rfl) rfl rfl rfl rfl rfl rfl ?_
    refine w_gT H (o := 1) (t := 14) rfl (H.perm 1 rfl) rfl rfl rfl rfl rfl rfl ?_
    refine Ew_of (pcₚ := 44) (fun _ => x_aload_n rfl (rk_o (rk_o (rfl) rfl rfl) rfl rfl)) ?_
    refine w_gI H (o := 5) (w := u5_25) rfl (H.perm 5 rfl) rfl rfl rfl (fun _ => rfl) (eu5_25) ?_
    refine w_lI H (o := 14) (n := 65536) rfl (H.perm 14 rfl) rfl rfl (H.fix 14 rfl rfl) (show 0 ≤ u5_25 ∧ u5_25 < ((65536 : Nat) : Int) from q_1363 b4 h1 r1 r2) (by decide) (fun v6 ev6 qv6 => ?_)
    have qv6 : (0 : Int) ≤ v6 ∧ v6 ≤ 255 := qv6
    have ev6 : (A 14) (u5_25) = v6 := (congrFun (rfl : A 14 = A 14) (u5_25)).symm.trans ev6
    refine Ew_of (pcₚ := 49) (fun _ => x_iconst rfl) ?_
    refine w_idiv rfl (show inr (v6) ∧ 0 ≤ v6 from q_278 qv6) (show inr (4) ∧ 0 < 4 from q_828) ?_
    refine Ew_of (pcₚ := 51) (fun _ => x_iconst rfl) ?_
    refine w_irem rfl (show inr ((v6 / 4)) ∧ 0 ≤ (v6 / 4) from q_1364 qv6) (show inr (4) ∧ 0 < 4 from q_828) ?_
    refine Ew_of (pcₚ := 54) (fun _ => x_istore rfl) ?_
    refine Ew_of (pcₚ := 55) (fun _ => x_iload_n rfl (rk_o (rk_s) rfl rfl)) ?_
    refine Ew_of (pcₚ := 56) (fun _ => x_iconst rfl) ?_
    refine w_icmpge (t := 256) rfl rfl (show inr ((v5 % 4)) from q_829) (show inr (2) from q_55) (fun b7 => ?_) (fun b7 => ?_)
    · refine Ew_of (pcₚ := 258) (fun _ => x_iload rfl rk_s) ?_
      refine Ew_of (pcₚ := 259) (fun _ => x_iconst rfl) ?_
      have hc270 : ∀ (tc270_0 : Int), ∀ (ls : rO) (σ : rS) (F_c270 : hF) (A_c270 : hA) , rlook ls 0 = some (.ref (D 5)) → rlook ls 1 = some (I (a1)) → rlook ls 2 = some (I (u5_25)) → rlook ls 3 = some (I ((v5 % 4))) → rlook ls 4 = some (I (((v6 / 4) % 4))) → HS σ0 σ D N F_c270 A_c270 → SF [] F F_c270 → SA [] A A_c270 → (inr (tc270_0)) → (((((v6 / 4) % 4)) ≥ (2) ∧ (tc270_0) = ((((v6 / 4) % 4) + 2))) ∨ ((((v6 / 4) % 4)) < (2) ∧ (tc270_0) = (3))) → Ew 291 (d + 4) 270 ls [I (tc270_0)] σ c s Q := by
       as_aux_lemma =>
        intro tc270_0 ls σ F_c270 A_c270  lc270_0 lc270_1 lc270_2 lc270_3 lc270_4 H hS_c270 hA_c270   jc270_0 jc270_1
        refine Ew_of (pcₚ := 272) (fun _ => x_istore rfl) ?_
        refine Ew_of (pcₚ := 274) (fun _ => x_iload rfl (rk_o (lc270_4) rfl rfl)) ?_
        refine Ew_of (pcₚ := 275) (fun _ => x_iconst rfl) ?_
        have hc296 : ∀ (tc296_0 : Int), ∀ (ls : rO) (σ : rS) (F_c296 : hF) (A_c296 : hA) , rlook ls 0 = some (.ref (D 5)) → rlook ls 1 = some (I (a1)) → rlook ls 2 = some (I (u5_25)) → rlook ls 3 = some (I ((v5 % 4))) → rlook ls 4 = some (I (((v6 / 4) % 4))) → rlook ls 5 = some (I (tc270_0)) → HS σ0 σ D N F_c296 A_c296 → SF [] F_c270 F_c296 → SA [] A_c270 A_c296 → (inr (tc296_0)) → (((((v6 / 4) % 4)) ≥ (2) ∧ (((v6 / 4) % 4)) ≠ (2) ∧ (tc296_0) = (18)) ∨ ((((v6 / 4) % 4)) ≥ (2) ∧ (((v6 / 4) % 4)) = (2) ∧ (tc296_0) = (14)) ∨ ((((v6 / 4) % 4)) < (2) ∧ (tc296_0) = (10))) → Ew 291 (d + 4) 296 ls [I (tc296_0)] σ c s Q := by
         as_aux_lemma =>
          intro tc296_0 ls σ F_c296 A_c296  lc296_0 lc296_1 lc296_2 lc296_3 lc296_4 lc296_5 H hS_c296 hA_c296   jc296_0 jc296_1
          refine Ew_of (pcₚ := 298) (fun _ => x_istore rfl) ?_
          refine Ew_of (pcₚ := 299) (fun _ => x_iload_n rfl (rk_o (lc296_1) rfl rfl)) ?_
          refine Ew_of (pcₚ := 300) (fun _ => x_aload_n rfl (rk_o (lc296_0) rfl rfl)) ?_
          refine w_gI H (o := 5) (w := u5_25) rfl (H.perm 5 rfl) rfl rfl rfl (fun _ => rfl) (((hS_c296 5 25 rfl).trans (hS_c270 5 25 rfl)).trans (eu5_25)) ?_
          refine w_isub rfl ?_
          refine Ew_of (pcₚ := 306) (fun _ => x_iload rfl (rk_o (lc296_5) rfl rfl)) ?_
          refine w_icmpge (t := 317) rfl rfl (show inr ((a1 - u5_25)) from q_1365 b4 h0 r2) (show inr (tc270_0) from jc270_0) (fun b8 => ?_) (fun b8 => ?_)
          · refine Ew_of (pcₚ := 318) (fun _ => x_aload_n rfl (rk_o (lc296_0) rfl rfl)) ?_
            refine Ew_of (pcₚ := 319) (fun _ => x_aload_n rfl (rk_o (lc296_0) rfl rfl)) ?_
            refine w_gI H (o := 5) (w := u5_25) rfl (H.perm 5 rfl) rfl rfl rfl (fun _ => rfl) (((hS_c296 5 25 rfl).trans (hS_c270 5 25 rfl)).trans (eu5_25)) ?_
            refine Ew_of (pcₚ := 324) (fun _ => x_iload rfl (rk_o (lc296_5) rfl rfl)) ?_
            refine w_inv H (o := 5) rfl rfl rfl (H.perm 5 rfl) rfl rfl (by rfl) (M257 H (A 14) ((funext (hA_c296 14 rfl)).trans (funext (hA_c270 14 rfl))) (show inr (u5_25) from q_12 r2) (show inr (tc270_0) from jc270_0) (show 0 ≤ (u5_25) ∧ 0 ≤ (tc270_0) ∧ (tc270_0) ≤ 8 ∧ (u5_25) + (tc270_0) ≤ 65536 from q_1366 b8 h1 jc270_1 r1 r2) (fun z13 σ F9 A10 H hS11 hA12 pz13_0 pz13_1 pz13_2 pz13_3 pz13_4 pz13_5 pz13_6 pz13_7 pz13_8 => ⟨rfl, ?_⟩))
            refine Ew_of (pcₚ := 328) (fun _ => x_iconst rfl) ?_
            refine w_lshrK 4 16 (by decide) (by decide) rfl (show inrJ (z13) from pz13_0) (fun z14 gz14 dz14 => ?_)
            refine Ew_of (pcₚ := 331) (fun _ => x_lstore rfl) ?_
            have : p2 ((tc296_0)) ≤ p2 18 := p2_mono (by omega)
            have : p2 18 = 262144 := by decide
            have := p2_pos ((tc296_0))
            refine Ew_of (pcₚ := 333) (fun _ => x_lload rfl rk2_s) ?_
            refine Ew_of (pcₚ := 334) (fun _ => x_lconst (z := 1) rfl (by decide)) ?_
            refine Ew_of (pcₚ := 336) (fun _ => x_iload rfl (rk2_o (rk_s) rfl rfl)) ?_
            refine w_lshl1 rfl (show 0 ≤ tc296_0 ∧ tc296_0 ≤ 63 from q_1367 jc296_1) ?_
            refine Ew_of (pcₚ := 338) (fun _ => x_lconst (z := 1) rfl (by decide)) ?_
            refine w_lsub rfl ?_
            refine w_land rfl (show inrJ (z14) by omega) (show inrJ ((p2 (tc296_0) - 1)) by omega) (fun z16 gz16 gaz16 gbz16 => ?_)
            refine w_l2i rfl ?_
            refine Ew_of (pcₚ := 343) (fun _ => x_istore rfl) ?_
            refine Ew_of (pcₚ := 345) (fun _ => x_lload rfl (rk_o (rk2_s) rfl rfl)) ?_
            refine Ew_of (pcₚ := 347) (fun _ => x_iload rfl (rk_o (rk2_o (rk_s) rfl rfl) rfl rfl)) ?_
            refine w_lshrA rfl (fun z17 gz17 => ?_)
            refine Ew_of (pcₚ := 349) (fun _ => x_lconst (z := 1) rfl (by decide)) ?_
            refine Ew_of (pcₚ := 351) (fun _ => x_iload rfl (rk_o (rk2_o (rk_s) rfl rfl) rfl rfl)) ?_
            refine w_lshl1 rfl (show 0 ≤ tc296_0 ∧ tc296_0 ≤ 63 from q_1367 jc296_1) ?_
            refine Ew_of (pcₚ := 353) (fun _ => x_lconst (z := 1) rfl (by decide)) ?_
            refine w_lsub rfl ?_
            refine w_land rfl (show inrJ (z17) from gz17) (show inrJ ((p2 (tc296_0) - 1)) by omega) (fun z19 gz19 gaz19 gbz19 => ?_)
            refine w_l2i rfl ?_
            refine Ew_of (pcₚ := 358) (fun _ => x_istore rfl) ?_
            refine Ew_of (pcₚ := 359) (fun _ => x_aload_n rfl (rk_o (rk_o (rk2_o (rk_o (lc296_0) rfl rfl) rfl rfl) rfl rfl) rfl rfl)) ?_
            refine Ew_of (pcₚ := 360) (fun _ => x_dup rfl rfl) ?_
            refine w_gI H (o := 5) (w := u5_25) rfl (H.perm 5 rfl) rfl rfl rfl (fun _ => rfl) ((((hS11 5 25 rfl).trans (hS_c296 5 25 rfl)).trans (hS_c270 5 25 rfl)).trans (eu5_25)) ?_
            refine Ew_of (pcₚ := 365) (fun _ => x_iload rfl (rk_o (rk_o (rk2_o (rk_o (lc296_5) rfl rfl) rfl rfl) rfl rfl) rfl rfl)) ?_
            refine w_iadd rfl ?_
            refine w_pI H (o := 5) rfl rfl (H.perm 5 rfl) rfl rfl rfl (fun _ => rfl) rfl (show (0 : Int) ≤ (u5_25 + tc270_0) ∧ (u5_25 + tc270_0) ≤ 65536 by omega) (fun σ H => ?_)
            refine Ew_of (pcₚ := 371) (fun _ => x_iload rfl (rk_o (rk_s) rfl rfl)) ?_
            refine Ew_of (pcₚ := 372) (fun _ => x_iconst rfl) ?_
            refine w_iadd rfl ?_
            refine Ew_of (pcₚ := 374) (fun _ => x_iconst rfl) ?_
            refine w_idiv rfl (show inr ((z16 + 3)) ∧ 0 ≤ (z16 + 3) by omega) (show inr (4) ∧ 0 < 4 from q_828) ?_
            refine Ew_of (pcₚ := 377) (fun _ => x_istore rfl) ?_
            refine Ew_of (pcₚ := 379) (fun _ => x_iload rfl (rk_o (rk_o (rk_s) rfl rfl) rfl rfl)) ?_
            refine Ew_of (pcₚ := 380) (fun _ => x_aload_n rfl (rk_o (rk_o (rk_o (rk2_o (rk_o (lc296_0) rfl rfl) rfl rfl) rfl rfl) rfl rfl) rfl rfl)) ?_
            have r20 : (0 : Int) ≤ F 5 29 ∧ F 5 29 ≤ 131072 := rngE (show (0 : Int) ≤ (updF F9 5 25 ((u5_25 + tc270_0))) 5 29 ∧ (updF F9 5 25 ((u5_25 + tc270_0))) 5 29 ≤ 131072 from H.frng 5 29) (show (updF F9 5 25 ((u5_25 + tc270_0))) 5 29 = F 5 29 from (((hS11 5 29 rfl).trans (hS_c296 5 29 rfl)).trans (hS_c270 5 29 rfl)))
            refine w_gI H (o := 5) (w := F 5 29) rfl (H.perm 5 rfl) rfl rfl rfl (fun _ => rfl) (((hS11 5 29 rfl).trans (hS_c296 5 29 rfl)).trans (hS_c270 5 29 rfl)) ?_
            refine w_icmpgt (t := 400) rfl rfl (show inr (z16) by omega) (show inr (F 5 29) from q_1322 r20) (fun b21 => ?_) (fun b21 => ?_)
            · refine Ew_of (pcₚ := 401) (fun _ => x_aload_n rfl (rk_o (rk_o (rk_o (rk2_o (rk_o (lc296_0) rfl rfl) rfl rfl) rfl rfl) rfl rfl) rfl rfl)) ?_
              refine Ew_of (pcₚ := 403) (fun _ => x_bipush (z := 11) rfl (by decide)) ?_
              refine Ew_of (pcₚ := 404) (fun _ => x_iload_n rfl (rk_o (rk_o (rk_o (rk2_o (rk_o (lc296_2) rfl rfl) rfl rfl) rfl rfl) rfl rfl) rfl rfl)) ?_
              refine w_inv H (o := 5) rfl rfl rfl (H.perm 5 rfl) rfl rfl (by rfl) (M282 H (show inr (11) from q_67) (show inr (u5_25) from q_12 r2) (show 0 ≤ (11) ∧ (11) ≤ 20 from q_1368) (show 0 ≤ (u5_25) ∧ (u5_25) ≤ 65536 from r2) (fun z26 σ F22 A23 H hS24 hA25 pz26_0 pz26_1 => ⟨rretB rfl pz26_0, ?_⟩))
              exact w_ireturn rfl (k (z26) σ _ _ H (SF_trans (SF_upd (SF_trans (SF_trans (SF_trans (SF_refl) hS_c270 (any_sub rfl)) hS_c296 (any_sub rfl)) hS11 (any_sub rfl)) rfl) hS24 (any_sub rfl)) (SA_trans (SA_trans (SA_trans (SA_trans (SA_refl) hA_c270 (any_subA rfl)) hA_c296 (any_subA rfl)) hA12 (any_subA rfl)) hA25 (any_subA rfl)) ((u5_25 + tc270_0)) ((hS24 5 25 rfl)) (u5_39) ((((((hS24 5 39 rfl).trans (hS11 5 39 rfl)).trans (hS_c296 5 39 rfl)).trans (hS_c270 5 39 rfl)).trans (eu5_39))) (show (z26) = 0 ∨ (z26) = 1 from pz26_0) (show (z26) = 1 → (u5_25) ≤ ((u5_25 + tc270_0)) ∧ ((u5_25 + tc270_0)) ≤ a1 from q_1369 b8 jc270_0 pz26_1) (show 0 ≤ (u5_39) ∧ (u5_39) ≤ 131072 from r3))
            · refine Ew_of (pcₚ := 388) (fun _ => x_iload rfl (rk_o (rk_o (rk_o (rk2_o (rk_o (lc296_4) rfl rfl) rfl rfl) rfl rfl) rfl rfl) rfl rfl)) ?_
              have hc408 : ∀ (ls : rO) (σ : rS) (F_c408 : hF) (A_c408 : hA) , rlook ls 0 = some (.ref (D 5)) → rlook ls 1 = some (I (a1)) → rlook ls 2 = some (I (u5_25)) → rlook ls 3 = some (I ((v5 % 4))) → rlook ls 4 = some (I (((v6 / 4) % 4))) → rlook ls 9 = some (I (z16)) → rlook ls 10 = some (I (z19)) → rlook ls 11 = some (I (((z16 + 3) / 4))) → HS σ0 σ D N F_c408 A_c408 → SF [] (updF F9 5 25 ((u5_25 + tc270_0))) F_c408 → SA [] A10 A_c408 → (((((v6 / 4) % 4)) ≤ (0)) ∨ ((((v6 / 4) % 4)) > (0) ∧ (z16) ≥ ((3 * ((z16 + 3) / 4))))) → Ew 291 (d + 4) 408 ls [] σ c s Q := by
               as_aux_lemma =>
                intro  ls σ F_c408 A_c408  lc408_0 lc408_1 lc408_2 lc408_3 lc408_4 lc408_9 lc408_10 lc408_11 H hS_c408 hA_c408   jc408_0
                refine Ew_of (pcₚ := 409) (fun _ => x_iload_n rfl lc408_3) ?_
                refine Ew_of (pcₚ := 410) (fun _ => x_iconst rfl) ?_
                have hc428 : ∀ (ls : rO) (σ : rS) (F_c428 : hF) (A_c428 : hA) , rlook ls 0 = some (.ref (D 5)) → rlook ls 1 = some (I (a1)) → rlook ls 3 = some (I ((v5 % 4))) → rlook ls 4 = some (I (((v6 / 4) % 4))) → rlook ls 9 = some (I (z16)) → rlook ls 10 = some (I (z19)) → rlook ls 11 = some (I (((z16 + 3) / 4))) → HS σ0 σ D N F_c428 A_c428 → SF [] F_c408 F_c428 → SA [] A_c408 A_c428 → ((((v5 % 4)) ≠ (3)) ∨ (((v5 % 4)) = (3) ∧ 0 ≤ (F 5 10) ∧ (F 5 10) ≤ 11 ∧ (F 5 10) ≠ (0))) → Ew 291 (d + 4) 428 ls [] σ c s Q := by
                 as_aux_lemma =>
                  intro  ls σ F_c428 A_c428  lc428_0 lc428_1 lc428_3 lc428_4 lc428_9 lc428_10 lc428_11 H hS_c428 hA_c428   jc428_0
                  refine Ew_of (pcₚ := 429) (fun _ => x_iload_n rfl lc428_1) ?_
                  refine Ew_of (pcₚ := 430) (fun _ => x_aload_n rfl lc428_0) ?_
                  refine w_gI H (o := 5) (w := (u5_25 + tc270_0)) rfl (H.perm 5 rfl) rfl rfl rfl (fun _ => rfl) ((hS_c428 5 25 rfl).trans (hS_c408 5 25 rfl)) ?_
                  refine w_isub rfl ?_
                  refine Ew_of (pcₚ := 436) (fun _ => x_iload rfl lc428_10) ?_
                  refine w_icmpge (t := 447) rfl rfl (show inr ((a1 - (u5_25 + tc270_0))) by omega) (show inr (z19) by omega) (fun b27 => ?_) (fun b27 => ?_)
                  · refine Ew_of (pcₚ := 448) (fun _ => x_aload_n rfl lc428_0) ?_
                    refine w_gI H (o := 5) (w := (u5_25 + tc270_0)) rfl (H.perm 5 rfl) rfl rfl rfl (fun _ => rfl) ((hS_c428 5 25 rfl).trans (hS_c408 5 25 rfl)) ?_
                    refine Ew_of (pcₚ := 453) (fun _ => x_iload rfl lc428_10) ?_
                    refine w_iadd rfl ?_
                    refine Ew_of (pcₚ := 456) (fun _ => x_istore rfl) ?_
                    have hc495 : ∀ (ls : rO) (σ : rS) (F_c495 : hF) (A_c495 : hA) , rlook ls 0 = some (.ref (D 5)) → rlook ls 4 = some (I (((v6 / 4) % 4))) → rlook ls 9 = some (I (z16)) → rlook ls 11 = some (I (((z16 + 3) / 4))) → rlook ls 12 = some (I (((u5_25 + tc270_0) + z19))) → HS σ0 σ D N F_c495 A_c495 → SF [(5, 10), (5, 19), (5, 25), (5, 44), (5, 45)] F_c428 F_c495 → SA [31, 32, 39, 40, 41, 42, 43, 44] A_c428 A_c495 → ∀ yc495_5_25 : Int, F_c495 5 25 = yc495_5_25 → (((u5_25 + tc270_0)) ≤ (yc495_5_25) ∧ (yc495_5_25) ≤ (((u5_25 + tc270_0) + z19))) → Ew 291 (d + 4) 495 ls [] σ c s Q := by
                     as_aux_lemma =>
                      intro  ls σ F_c495 A_c495  lc495_0 lc495_4 lc495_9 lc495_11 lc495_12 H hS_c495 hA_c495 yc495_5_25 eyc495_5_25  jc495_0
                      have r28 : (0 : Int) ≤ yc495_5_25 ∧ yc495_5_25 ≤ 65536 := rngE (show (0 : Int) ≤ F_c495 5 25 ∧ F_c495 5 25 ≤ 65536 from H.frng 5 25) (show F_c495 5 25 = yc495_5_25 from (eyc495_5_25))
                      refine Ew_of (pcₚ := 497) (fun _ => x_iload rfl lc495_4) ?_
                      refine w_ifne (t := 526) rfl rfl (show inr (((v6 / 4) % 4)) from q_1370) (fun b29 => ?_) (fun b29 => ?_)
                      · refine Ew_of (pcₚ := 527) (fun _ => x_aload_n rfl lc495_0) ?_
                        refine Ew_of (pcₚ := 529) (fun _ => x_iload rfl lc495_12) ?_
                        refine Ew_of (pcₚ := 531) (fun _ => x_iload rfl lc495_9) ?_
                        refine Ew_of (pcₚ := 533) (fun _ => x_iload rfl lc495_11) ?_
                        refine w_inv H (o := 5) rfl rfl rfl (H.perm 5 rfl) rfl rfl (by rfl) (M292 H (yc495_5_25) ((eyc495_5_25)) (u5_39) ((((((((hS_c495 5 39 rfl).trans (hS_c428 5 39 rfl)).trans (hS_c408 5 39 rfl)).trans (hS11 5 39 rfl)).trans (hS_c296 5 39 rfl)).trans (hS_c270 5 39 rfl)).trans (eu5_39))) (show inr (((u5_25 + tc270_0) + z19)) from q_1372 b27 h1 jc270_0 jc495_0 r1 r2) (show inr (z16) by omega) (show inr (((z16 + 3) / 4)) by omega) (show 0 ≤ (yc495_5_25) ∧ (yc495_5_25) ≤ (((u5_25 + tc270_0) + z19)) ∧ (((u5_25 + tc270_0) + z19)) ≤ 65536 from q_1371 b27 h1 jc495_0 r1 r28) (show 0 ≤ (((z16 + 3) / 4)) ∧ 3 * (((z16 + 3) / 4)) ≤ (z16) ∧ (z16) ≤ 131072 by omega) (show (u5_39) = 0 from h2) (fun z34 σ F30 A31 H hS32 hA33 y35 ey36 pz34_0 pz34_1 => ⟨rretB rfl pz34_0, ?_⟩))
                        have r37 : (0 : Int) ≤ y35 ∧ y35 ≤ 131072 := rngE (show (0 : Int) ≤ F30 5 39 ∧ F30 5 39 ≤ 131072 from H.frng 5 39) (show F30 5 39 = y35 from (ey36))
                        refine w_ifne (t := 541) rfl rfl (show inr (z34) from q_15 pz34_0) (fun b38 => ?_) (fun b38 => ?_)
                        · refine Ew_of (pcₚ := 542) (fun _ => x_aload_n rfl lc495_0) ?_
                          refine Ew_of (pcₚ := 544) (fun _ => x_iload rfl lc495_12) ?_
                          refine w_pI H (o := 5) rfl rfl (H.perm 5 rfl) rfl rfl rfl (fun _ => rfl) rfl (show (0 : Int) ≤ ((u5_25 + tc270_0) + z19) ∧ ((u5_25 + tc270_0) + z19) ≤ 65536 from q_1373 b27 h1 jc495_0 r1 r28) (fun σ H => ?_)
                          refine Ew_of (pcₚ := 548) (fun _ => x_iconst rfl) ?_
                          exact w_ireturn rfl (k (1) σ _ _ H (SF_upd (SF_trans (SF_trans (SF_trans (SF_trans (SF_upd (SF_trans (SF_trans (SF_trans (SF_refl) hS_c270 (any_sub rfl)) hS_c296 (any_sub rfl)) hS11 (any_sub rfl)) rfl) hS_c408 (any_sub rfl)) hS_c428 (any_sub rfl)) hS_c495 (any_sub rfl)) hS32 (any_sub rfl)) rfl) (SA_trans (SA_trans (SA_trans (SA_trans (SA_trans (SA_trans (SA_trans (SA_refl) hA_c270 (any_subA rfl)) hA_c296 (any_subA rfl)) hA12 (any_subA rfl)) hA_c408 (any_subA rfl)) hA_c428 (any_subA rfl)) hA_c495 (any_subA rfl)) hA33 (any_subA rfl)) (((u5_25 + tc270_0) + z19)) (rfl) (y35) ((ey36)) (show (1) = 0 ∨ (1) = 1 by first | exact q_5 | omega) (show (1) = 1 → (u5_25) ≤ (((u5_25 + tc270_0) + z19)) ∧ (((u5_25 + tc270_0) + z19)) ≤ a1 by omega) (show 0 ≤ (y35) ∧ (y35) ≤ 131072 from r37))
                        · refine Ew_of (pcₚ := 540) (fun _ => x_iconst rfl) ?_
                          exact w_ireturn rfl (k (0) σ _ _ H (SF_trans (SF_trans (SF_trans (SF_trans (SF_upd (SF_trans (SF_trans (SF_trans (SF_refl) hS_c270 (any_sub rfl)) hS_c296 (any_sub rfl)) hS11 (any_sub rfl)) rfl) hS_c408 (any_sub rfl)) hS_c428 (any_sub rfl)) hS_c495 (any_sub rfl)) hS32 (any_sub rfl)) (SA_trans (SA_trans (SA_trans (SA_trans (SA_trans (SA_trans (SA_trans (SA_refl) hA_c270 (any_subA rfl)) hA_c296 (any_subA rfl)) hA12 (any_subA rfl)) hA_c408 (any_subA rfl)) hA_c428 (any_subA rfl)) hA_c495 (any_subA rfl)) hA33 (any_subA rfl)) (yc495_5_25) (((hS32 5 25 rfl).trans (eyc495_5_25))) (y35) ((ey36)) (show (0) = 0 ∨ (0) = 1 by first | exact q_1 | omega) (show (0) = 1 → (u5_25) ≤ (yc495_5_25) ∧ (yc495_5_25) ≤ a1 by first | exact q_1374 b27 jc495_0 r2 r28 | omega) (show 0 ≤ (y35) ∧ (y35) ≤ 131072 from r37))
                      · refine Ew_of (pcₚ := 501) (fun _ => x_aload_n rfl lc495_0) ?_
                        refine Ew_of (pcₚ := 502) (fun _ => x_aload_n rfl lc495_0) ?_
                        refine w_gI H (o := 5) (w := yc495_5_25) rfl (H.perm 5 rfl) rfl rfl rfl (fun _ => rfl) (eyc495_5_25) ?_
                        refine Ew_of (pcₚ := 507) (fun _ => x_iload rfl lc495_12) ?_
                        refine Ew_of (pcₚ := 509) (fun _ => x_iload rfl lc495_9) ?_
                        refine w_inv H (o := 5) rfl rfl rfl (H.perm 5 rfl) rfl rfl (by rfl) (M273 H (u5_39) ((((((((hS_c495 5 39 rfl).trans (hS_c428 5 39 rfl)).trans (hS_c408 5 39 rfl)).trans (hS11 5 39 rfl)).trans (hS_c296 5 39 rfl)).trans (hS_c270 5 39 rfl)).trans (eu5_39))) (show inr (yc495_5_25) from q_12 r28) (show inr (((u5_25 + tc270_0) + z19)) from q_1372 b27 h1 jc270_0 jc495_0 r1 r2) (show inr (z16) by omega) (show 0 ≤ (yc495_5_25) ∧ (yc495_5_25) ≤ 65536 ∧ 0 ≤ (((u5_25 + tc270_0) + z19)) ∧ (((u5_25 + tc270_0) + z19)) ≤ 65536 from q_1375 b27 h1 jc495_0 r1 r28) (show 0 ≤ (z16) ∧ (u5_39) + (z16) ≤ 131072 by omega) (fun z43 σ F39 A40 H hS41 hA42 y44 ey45 pz43_0 pz43_1 => ⟨rretB rfl pz43_0, ?_⟩))
                        have r46 : (0 : Int) ≤ y44 ∧ y44 ≤ 131072 := rngE (show (0 : Int) ≤ F39 5 39 ∧ F39 5 39 ≤ 131072 from H.frng 5 39) (show F39 5 39 = y44 from (ey45))
                        refine w_ifne (t := 541) rfl rfl (show inr (z43) from q_15 pz43_0) (fun b47 => ?_) (fun b47 => ?_)
                        · refine Ew_of (pcₚ := 542) (fun _ => x_aload_n rfl lc495_0) ?_
                          refine Ew_of (pcₚ := 544) (fun _ => x_iload rfl lc495_12) ?_
                          refine w_pI H (o := 5) rfl rfl (H.perm 5 rfl) rfl rfl rfl (fun _ => rfl) rfl (show (0 : Int) ≤ ((u5_25 + tc270_0) + z19) ∧ ((u5_25 + tc270_0) + z19) ≤ 65536 from q_1373 b27 h1 jc495_0 r1 r28) (fun σ H => ?_)
                          refine Ew_of (pcₚ := 548) (fun _ => x_iconst rfl) ?_
                          exact w_ireturn rfl (k (1) σ _ _ H (SF_upd (SF_trans (SF_trans (SF_trans (SF_trans (SF_upd (SF_trans (SF_trans (SF_trans (SF_refl) hS_c270 (any_sub rfl)) hS_c296 (any_sub rfl)) hS11 (any_sub rfl)) rfl) hS_c408 (any_sub rfl)) hS_c428 (any_sub rfl)) hS_c495 (any_sub rfl)) hS41 (any_sub rfl)) rfl) (SA_trans (SA_trans (SA_trans (SA_trans (SA_trans (SA_trans (SA_trans (SA_refl) hA_c270 (any_subA rfl)) hA_c296 (any_subA rfl)) hA12 (any_subA rfl)) hA_c408 (any_subA rfl)) hA_c428 (any_subA rfl)) hA_c495 (any_subA rfl)) hA42 (any_subA rfl)) (((u5_25 + tc270_0) + z19)) (rfl) (y44) ((ey45)) (show (1) = 0 ∨ (1) = 1 by first | exact q_5 | omega) (show (1) = 1 → (u5_25) ≤ (((u5_25 + tc270_0) + z19)) ∧ (((u5_25 + tc270_0) + z19)) ≤ a1 by omega) (show 0 ≤ (y44) ∧ (y44) ≤ 131072 from r46))
                        · refine Ew_of (pcₚ := 516) (fun _ => x_aload_n rfl lc495_0) ?_
                          refine Ew_of (pcₚ := 518) (fun _ => x_bipush (z := 14) rfl (by decide)) ?_
                          refine Ew_of (pcₚ := 519) (fun _ => x_aload_n rfl lc495_0) ?_
                          refine w_gI H (o := 5) (w := yc495_5_25) rfl (H.perm 5 rfl) rfl rfl rfl (fun _ => rfl) ((hS41 5 25 rfl).trans (eyc495_5_25)) ?_
                          refine w_inv H (o := 5) rfl rfl rfl (H.perm 5 rfl) rfl rfl (by rfl) (M282 H (show inr (14) from q_1358) (show inr (yc495_5_25) from q_12 r28) (show 0 ≤ (14) ∧ (14) ≤ 20 from q_1357) (show 0 ≤ (yc495_5_25) ∧ (yc495_5_25) ≤ 65536 from r28) (fun z52 σ F48 A49 H hS50 hA51 pz52_0 pz52_1 => ⟨rretB rfl pz52_0, ?_⟩))
                          exact w_ireturn rfl (k (z52) σ _ _ H (SF_trans (SF_trans (SF_trans (SF_trans (SF_trans (SF_upd (SF_trans (SF_trans (SF_trans (SF_refl) hS_c270 (any_sub rfl)) hS_c296 (any_sub rfl)) hS11 (any_sub rfl)) rfl) hS_c408 (any_sub rfl)) hS_c428 (any_sub rfl)) hS_c495 (any_sub rfl)) hS41 (any_sub rfl)) hS50 (any_sub rfl)) (SA_trans (SA_trans (SA_trans (SA_trans (SA_trans (SA_trans (SA_trans (SA_trans (SA_refl) hA_c270 (any_subA rfl)) hA_c296 (any_subA rfl)) hA12 (any_subA rfl)) hA_c408 (any_subA rfl)) hA_c428 (any_subA rfl)) hA_c495 (any_subA rfl)) hA42 (any_subA rfl)) hA51 (any_subA rfl)) (yc495_5_25) ((((hS50 5 25 rfl).trans (hS41 5 25 rfl)).trans (eyc495_5_25))) (y44) (((hS50 5 39 rfl).trans (ey45))) (show (z52) = 0 ∨ (z52) = 1 from pz52_0) (show (z52) = 1 → (u5_25) ≤ (yc495_5_25) ∧ (yc495_5_25) ≤ a1 from q_1376 b27 jc495_0 pz52_1 r2 r28) (show 0 ≤ (y44) ∧ (y44) ≤ 131072 from r46))
                    refine Ew_of (pcₚ := 457) (fun _ => x_iload_n rfl (rk_o (lc428_3) rfl rfl)) ?_
                    refine Ew_of (pcₚ := 458) (fun _ => x_iconst rfl) ?_
                    refine w_icmpne (t := 495) rfl rfl (show inr ((v5 % 4)) from q_1377 b7) (show inr (2) from q_55) (fun b53 => ?_) (fun b53 => ?_)
                    · exact hc495  _ σ _ _  (rk_o (lc428_0) rfl rfl) (rk_o (lc428_4) rfl rfl) (rk_o (lc428_9) rfl rfl) (rk_o (lc428_11) rfl rfl) (rk_s) H (SF_refl) (SA_refl) ((u5_25 + tc270_0)) (((hS_c428 5 25 rfl).trans (hS_c408 5 25 rfl)))  (show ((u5_25 + tc270_0)) ≤ ((u5_25 + tc270_0)) ∧ ((u5_25 + tc270_0)) ≤ (((u5_25 + tc270_0) + z19)) by omega)
                    · refine Ew_of (pcₚ := 462) (fun _ => x_aload_n rfl (rk_o (lc428_0) rfl rfl)) ?_
                      refine Ew_of (pcₚ := 463) (fun _ => x_aload_n rfl (rk_o (lc428_0) rfl rfl)) ?_
                      refine w_gI H (o := 5) (w := (u5_25 + tc270_0)) rfl (H.perm 5 rfl) rfl rfl rfl (fun _ => rfl) ((hS_c428 5 25 rfl).trans (hS_c408 5 25 rfl)) ?_
                      refine Ew_of (pcₚ := 468) (fun _ => x_iload rfl rk_s) ?_
                      refine w_inv H (o := 5) rfl rfl rfl (H.perm 5 rfl) rfl rfl (by rfl) (M271 H (show inr ((u5_25 + tc270_0)) from q_1378 b8 h1 jc270_0 r1 r2) (show inr (((u5_25 + tc270_0) + z19)) by omega) (show 0 ≤ ((u5_25 + tc270_0)) ∧ ((u5_25 + tc270_0)) ≤ 65536 ∧ 0 ≤ (((u5_25 + tc270_0) + z19)) ∧ (((u5_25 + tc270_0) + z19)) ≤ 65536 by omega) (fun z58 σ F54 A55 H hS56 hA57 y59 ey60 wq61 ewq62 pz58_0 pz58_1 pz58_2 => ⟨rfl, ?_⟩))
                      have r63 : (0 : Int) ≤ y59 ∧ y59 ≤ 11 := rngE (show (0 : Int) ≤ F54 5 10 ∧ F54 5 10 ≤ 11 from H.frng 5 10) (show F54 5 10 = y59 from (ey60))
                      refine Ew_of (pcₚ := 473) (fun _ => x_istore rfl) ?_
                      refine Ew_of (pcₚ := 475) (fun _ => x_iload rfl rk_s) ?_
                      refine w_ifge (t := 489) rfl rfl (show inr (z58) from pz58_0) (fun b64 => ?_) (fun b64 => ?_)
                      · refine Ew_of (pcₚ := 490) (fun _ => x_aload_n rfl (rk_o (rk_o (lc428_0) rfl rfl) rfl rfl)) ?_
                        refine Ew_of (pcₚ := 492) (fun _ => x_iload rfl rk_s) ?_
                        refine w_pI H (o := 5) rfl rfl (H.perm 5 rfl) rfl rfl rfl (fun _ => rfl) rfl (show (0 : Int) ≤ z58 ∧ z58 ≤ 65536 from q_1379 b27 b64 h1 pz58_1 pz58_2 r1) (fun σ H => ?_)
                        exact hc495  _ σ _ _  (rk_o (rk_o (lc428_0) rfl rfl) rfl rfl) (rk_o (rk_o (lc428_4) rfl rfl) rfl rfl) (rk_o (rk_o (lc428_9) rfl rfl) rfl rfl) (rk_o (rk_o (lc428_11) rfl rfl) rfl rfl) (rk_o (rk_s) rfl rfl) H (SF_upd (SF_trans (SF_refl) hS56 (any_sub rfl)) rfl) (SA_trans (SA_refl) hA57 (any_subA rfl)) (z58) (rfl)  (show ((u5_25 + tc270_0)) ≤ (z58) ∧ (z58) ≤ (((u5_25 + tc270_0) + z19)) from q_1380 b64 jc270_0 pz58_1 pz58_2 r2)
                      · refine Ew_of (pcₚ := 479) (fun _ => x_aload_n rfl (rk_o (rk_o (lc428_0) rfl rfl) rfl rfl)) ?_
                        refine Ew_of (pcₚ := 481) (fun _ => x_bipush (z := 12) rfl (by decide)) ?_
                        refine Ew_of (pcₚ := 482) (fun _ => x_aload_n rfl (rk_o (rk_o (lc428_0) rfl rfl) rfl rfl)) ?_
                        refine w_gI H (o := 5) (w := (u5_25 + tc270_0)) rfl (H.perm 5 rfl) rfl rfl rfl (fun _ => rfl) (((hS56 5 25 rfl).trans (hS_c428 5 25 rfl)).trans (hS_c408 5 25 rfl)) ?_
                        refine w_inv H (o := 5) rfl rfl rfl (H.perm 5 rfl) rfl rfl (by rfl) (M282 H (show inr (12) from q_356) (show inr ((u5_25 + tc270_0)) from q_1378 b8 h1 jc270_0 r1 r2) (show 0 ≤ (12) ∧ (12) ≤ 20 from q_1381) (show 0 ≤ ((u5_25 + tc270_0)) ∧ ((u5_25 + tc270_0)) ≤ 65536 by omega) (fun z69 σ F65 A66 H hS67 hA68 pz69_0 pz69_1 => ⟨rretB rfl pz69_0, ?_⟩))
                        exact w_ireturn rfl (k (z69) σ _ _ H (SF_trans (SF_trans (SF_trans (SF_trans (SF_upd (SF_trans (SF_trans (SF_trans (SF_refl) hS_c270 (any_sub rfl)) hS_c296 (any_sub rfl)) hS11 (any_sub rfl)) rfl) hS_c408 (any_sub rfl)) hS_c428 (any_sub rfl)) hS56 (any_sub rfl)) hS67 (any_sub rfl)) (SA_trans (SA_trans (SA_trans (SA_trans (SA_trans (SA_trans (SA_trans (SA_refl) hA_c270 (any_subA rfl)) hA_c296 (any_subA rfl)) hA12 (any_subA rfl)) hA_c408 (any_subA rfl)) hA_c428 (any_subA rfl)) hA57 (any_subA rfl)) hA68 (any_subA rfl)) ((u5_25 + tc270_0)) (((((hS67 5 25 rfl).trans (hS56 5 25 rfl)).trans (hS_c428 5 25 rfl)).trans (hS_c408 5 25 rfl))) (u5_39) (((((((((hS67 5 39 rfl).trans (hS56 5 39 rfl)).trans (hS_c428 5 39 rfl)).trans (hS_c408 5 39 rfl)).trans (hS11 5 39 rfl)).trans (hS_c296 5 39 rfl)).trans (hS_c270 5 39 rfl)).trans (eu5_39))) (show (z69) = 0 ∨ (z69) = 1 from pz69_0) (show (z69) = 1 → (u5_25) ≤ ((u5_25 + tc270_0)) ∧ ((u5_25 + tc270_0)) ≤ a1 from q_1369 b8 jc270_0 pz69_1) (show 0 ≤ (u5_39) ∧ (u5_39) ≤ 131072 from r3))
                  · refine Ew_of (pcₚ := 440) (fun _ => x_aload_n rfl lc428_0) ?_
                    refine Ew_of (pcₚ := 442) (fun _ => x_bipush (z := 10) rfl (by decide)) ?_
                    refine Ew_of (pcₚ := 443) (fun _ => x_iload_n rfl lc428_1) ?_
                    refine w_inv H (o := 5) rfl rfl rfl (H.perm 5 rfl) rfl rfl (by rfl) (M282 H (show inr (10) from q_532) (show inr (a1) from h0) (show 0 ≤ (10) ∧ (10) ≤ 20 from q_1383) (show 0 ≤ (a1) ∧ (a1) ≤ 65536 from q_1382 b4 h1 r1) (fun z74 σ F70 A71 H hS72 hA73 pz74_0 pz74_1 => ⟨rretB rfl pz74_0, ?_⟩))
                    exact w_ireturn rfl (k (z74) σ _ _ H (SF_trans (SF_trans (SF_trans (SF_upd (SF_trans (SF_trans (SF_trans (SF_refl) hS_c270 (any_sub rfl)) hS_c296 (any_sub rfl)) hS11 (any_sub rfl)) rfl) hS_c408 (any_sub rfl)) hS_c428 (any_sub rfl)) hS72 (any_sub rfl)) (SA_trans (SA_trans (SA_trans (SA_trans (SA_trans (SA_trans (SA_refl) hA_c270 (any_subA rfl)) hA_c296 (any_subA rfl)) hA12 (any_subA rfl)) hA_c408 (any_subA rfl)) hA_c428 (any_subA rfl)) hA73 (any_subA rfl)) ((u5_25 + tc270_0)) ((((hS72 5 25 rfl).trans (hS_c428 5 25 rfl)).trans (hS_c408 5 25 rfl))) (u5_39) ((((((((hS72 5 39 rfl).trans (hS_c428 5 39 rfl)).trans (hS_c408 5 39 rfl)).trans (hS11 5 39 rfl)).trans (hS_c296 5 39 rfl)).trans (hS_c270 5 39 rfl)).trans (eu5_39))) (show (z74) = 0 ∨ (z74) = 1 from pz74_0) (show (z74) = 1 → (u5_25) ≤ ((u5_25 + tc270_0)) ∧ ((u5_25 + tc270_0)) ≤ a1 from q_1369 b8 jc270_0 pz74_1) (show 0 ≤ (u5_39) ∧ (u5_39) ≤ 131072 from r3))
                refine w_icmpne (t := 428) rfl rfl (show inr ((v5 % 4)) from q_1377 b7) (show inr (3) from q_66) (fun b75 => ?_) (fun b75 => ?_)
                · exact hc428  _ σ _ _  (lc408_0) (lc408_1) (lc408_3) (lc408_4) (lc408_9) (lc408_10) (lc408_11) H (SF_refl) (SA_refl)   (show (((v5 % 4)) ≠ (3)) ∨ (((v5 % 4)) = (3) ∧ 0 ≤ (F 5 10) ∧ (F 5 10) ≤ 11 ∧ (F 5 10) ≠ (0)) from q_1384 b75)
                · refine Ew_of (pcₚ := 414) (fun _ => x_aload_n rfl lc408_0) ?_
                  have r76 : (0 : Int) ≤ F 5 10 ∧ F 5 10 ≤ 11 := rngE (show (0 : Int) ≤ F_c408 5 10 ∧ F_c408 5 10 ≤ 11 from H.frng 5 10) (show F_c408 5 10 = F 5 10 from ((((hS_c408 5 10 rfl).trans (hS11 5 10 rfl)).trans (hS_c296 5 10 rfl)).trans (hS_c270 5 10 rfl)))
                  refine w_gI H (o := 5) (w := F 5 10) rfl (H.perm 5 rfl) rfl rfl rfl (fun _ => rfl) ((((hS_c408 5 10 rfl).trans (hS11 5 10 rfl)).trans (hS_c296 5 10 rfl)).trans (hS_c270 5 10 rfl)) ?_
                  refine w_ifne (t := 428) rfl rfl (show inr (F 5 10) from q_1138 r76) (fun b77 => ?_) (fun b77 => ?_)
                  · exact hc428  _ σ _ _  (lc408_0) (lc408_1) (lc408_3) (lc408_4) (lc408_9) (lc408_10) (lc408_11) H (SF_refl) (SA_refl)   (show (((v5 % 4)) ≠ (3)) ∨ (((v5 % 4)) = (3) ∧ 0 ≤ (F 5 10) ∧ (F 5 10) ≤ 11 ∧ (F 5 10) ≠ (0)) from q_1385 b75 b77 r76)
                  · refine Ew_of (pcₚ := 421) (fun _ => x_aload_n rfl lc408_0) ?_
                    refine Ew_of (pcₚ := 423) (fun _ => x_bipush (z := 13) rfl (by decide)) ?_
                    refine Ew_of (pcₚ := 424) (fun _ => x_iload_n rfl lc408_2) ?_
                    refine w_inv H (o := 5) rfl rfl rfl (H.perm 5 rfl) rfl rfl (by rfl) (M282 H (show inr (13) from q_90) (show inr (u5_25) from q_12 r2) (show 0 ≤ (13) ∧ (13) ≤ 20 from q_1386) (show 0 ≤ (u5_25) ∧ (u5_25) ≤ 65536 from r2) (fun z82 σ F78 A79 H hS80 hA81 pz82_0 pz82_1 => ⟨rretB rfl pz82_0, ?_⟩))
                    exact w_ireturn rfl (k (z82) σ _ _ H (SF_trans (SF_trans (SF_upd (SF_trans (SF_trans (SF_trans (SF_refl) hS_c270 (any_sub rfl)) hS_c296 (any_sub rfl)) hS11 (any_sub rfl)) rfl) hS_c408 (any_sub rfl)) hS80 (any_sub rfl)) (SA_trans (SA_trans (SA_trans (SA_trans (SA_trans (SA_refl) hA_c270 (any_subA rfl)) hA_c296 (any_subA rfl)) hA12 (any_subA rfl)) hA_c408 (any_subA rfl)) hA81 (any_subA rfl)) ((u5_25 + tc270_0)) (((hS80 5 25 rfl).trans (hS_c408 5 25 rfl))) (u5_39) (((((((hS80 5 39 rfl).trans (hS_c408 5 39 rfl)).trans (hS11 5 39 rfl)).trans (hS_c296 5 39 rfl)).trans (hS_c270 5 39 rfl)).trans (eu5_39))) (show (z82) = 0 ∨ (z82) = 1 from pz82_0) (show (z82) = 1 → (u5_25) ≤ ((u5_25 + tc270_0)) ∧ ((u5_25 + tc270_0)) ≤ a1 from q_1369 b8 jc270_0 pz82_1) (show 0 ≤ (u5_39) ∧ (u5_39) ≤ 131072 from r3))
              refine w_ifle (t := 408) rfl rfl (show inr (((v6 / 4) % 4)) from q_1370) (fun b83 => ?_) (fun b83 => ?_)
              · exact hc408  _ σ _ _  (rk_o (rk_o (rk_o (rk2_o (rk_o (lc296_0) rfl rfl) rfl rfl) rfl rfl) rfl rfl) rfl rfl) (rk_o (rk_o (rk_o (rk2_o (rk_o (lc296_1) rfl rfl) rfl rfl) rfl rfl) rfl rfl) rfl rfl) (rk_o (rk_o (rk_o (rk2_o (rk_o (lc296_2) rfl rfl) rfl rfl) rfl rfl) rfl rfl) rfl rfl) (rk_o (rk_o (rk_o (rk2_o (rk_o (lc296_3) rfl rfl) rfl rfl) rfl rfl) rfl rfl) rfl rfl) (rk_o (rk_o (rk_o (rk2_o (rk_o (lc296_4) rfl rfl) rfl rfl) rfl rfl) rfl rfl) rfl rfl) (rk_o (rk_o (rk_s) rfl rfl) rfl rfl) (rk_o (rk_s) rfl rfl) (rk_s) H (SF_refl) (SA_refl)   (show ((((v6 / 4) % 4)) ≤ (0)) ∨ ((((v6 / 4) % 4)) > (0) ∧ (z16) ≥ ((3 * ((z16 + 3) / 4)))) from q_1387 b83)
              · refine Ew_of (pcₚ := 393) (fun _ => x_iload rfl (rk_o (rk_o (rk_s) rfl rfl) rfl rfl)) ?_
                refine Ew_of (pcₚ := 394) (fun _ => x_iconst rfl) ?_
                refine Ew_of (pcₚ := 396) (fun _ => x_iload rfl rk_s) ?_
                refine w_imul rfl ?_
                refine w_icmpge (t := 408) rfl rfl (show inr (z16) by omega) (show inr ((3 * ((z16 + 3) / 4))) by omega) (fun b84 => ?_) (fun b84 => ?_)
                · exact hc408  _ σ _ _  (rk_o (rk_o (rk_o (rk2_o (rk_o (lc296_0) rfl rfl) rfl rfl) rfl rfl) rfl rfl) rfl rfl) (rk_o (rk_o (rk_o (rk2_o (rk_o (lc296_1) rfl rfl) rfl rfl) rfl rfl) rfl rfl) rfl rfl) (rk_o (rk_o (rk_o (rk2_o (rk_o (lc296_2) rfl rfl) rfl rfl) rfl rfl) rfl rfl) rfl rfl) (rk_o (rk_o (rk_o (rk2_o (rk_o (lc296_3) rfl rfl) rfl rfl) rfl rfl) rfl rfl) rfl rfl) (rk_o (rk_o (rk_o (rk2_o (rk_o (lc296_4) rfl rfl) rfl rfl) rfl rfl) rfl rfl) rfl rfl) (rk_o (rk_o (rk_s) rfl rfl) rfl rfl) (rk_o (rk_s) rfl rfl) (rk_s) H (SF_refl) (SA_refl)   (show ((((v6 / 4) % 4)) ≤ (0)) ∨ ((((v6 / 4) % 4)) > (0) ∧ (z16) ≥ ((3 * ((z16 + 3) / 4)))) from q_1388 b83 b84)
                · refine Ew_of (pcₚ := 401) (fun _ => x_aload_n rfl (rk_o (rk_o (rk_o (rk2_o (rk_o (lc296_0) rfl rfl) rfl rfl) rfl rfl) rfl rfl) rfl rfl)) ?_
                  refine Ew_of (pcₚ := 403) (fun _ => x_bipush (z := 11) rfl (by decide)) ?_
                  refine Ew_of (pcₚ := 404) (fun _ => x_iload_n rfl (rk_o (rk_o (rk_o (rk2_o (rk_o (lc296_2) rfl rfl) rfl rfl) rfl rfl) rfl rfl) rfl rfl)) ?_
                  refine w_inv H (o := 5) rfl rfl rfl (H.perm 5 rfl) rfl rfl (by rfl) (M282 H (show inr (11) from q_67) (show inr (u5_25) from q_12 r2) (show 0 ≤ (11) ∧ (11) ≤ 20 from q_1368) (show 0 ≤ (u5_25) ∧ (u5_25) ≤ 65536 from r2) (fun z89 σ F85 A86 H hS87 hA88 pz89_0 pz89_1 => ⟨rretB rfl pz89_0, ?_⟩))
                  exact w_ireturn rfl (k (z89) σ _ _ H (SF_trans (SF_upd (SF_trans (SF_trans (SF_trans (SF_refl) hS_c270 (any_sub rfl)) hS_c296 (any_sub rfl)) hS11 (any_sub rfl)) rfl) hS87 (any_sub rfl)) (SA_trans (SA_trans (SA_trans (SA_trans (SA_refl) hA_c270 (any_subA rfl)) hA_c296 (any_subA rfl)) hA12 (any_subA rfl)) hA88 (any_subA rfl)) ((u5_25 + tc270_0)) ((hS87 5 25 rfl)) (u5_39) ((((((hS87 5 39 rfl).trans (hS11 5 39 rfl)).trans (hS_c296 5 39 rfl)).trans (hS_c270 5 39 rfl)).trans (eu5_39))) (show (z89) = 0 ∨ (z89) = 1 from pz89_0) (show (z89) = 1 → (u5_25) ≤ ((u5_25 + tc270_0)) ∧ ((u5_25 + tc270_0)) ≤ a1 from q_1369 b8 jc270_0 pz89_1) (show 0 ≤ (u5_39) ∧ (u5_39) ≤ 131072 from r3))
          · refine Ew_of (pcₚ := 310) (fun _ => x_aload_n rfl (rk_o (lc296_0) rfl rfl)) ?_
            refine Ew_of (pcₚ := 312) (fun _ => x_bipush (z := 10) rfl (by decide)) ?_
            refine Ew_of (pcₚ := 313) (fun _ => x_iload_n rfl (rk_o (lc296_1) rfl rfl)) ?_
            refine w_inv H (o := 5) rfl rfl rfl (H.perm 5 rfl) rfl rfl (by rfl) (M282 H (show inr (10) from q_532) (show inr (a1) from h0) (show 0 ≤ (10) ∧ (10) ≤ 20 from q_1383) (show 0 ≤ (a1) ∧ (a1) ≤ 65536 from q_1382 b4 h1 r1) (fun z94 σ F90 A91 H hS92 hA93 pz94_0 pz94_1 => ⟨rretB rfl pz94_0, ?_⟩))
            exact w_ireturn rfl (k (z94) σ _ _ H (SF_trans (SF_trans (SF_trans (SF_refl) hS_c270 (any_sub rfl)) hS_c296 (any_sub rfl)) hS92 (any_sub rfl)) (SA_trans (SA_trans (SA_trans (SA_refl) hA_c270 (any_subA rfl)) hA_c296 (any_subA rfl)) hA93 (any_subA rfl)) (u5_25) (((((hS92 5 25 rfl).trans (hS_c296 5 25 rfl)).trans (hS_c270 5 25 rfl)).trans (eu5_25))) (u5_39) (((((hS92 5 39 rfl).trans (hS_c296 5 39 rfl)).trans (hS_c270 5 39 rfl)).trans (eu5_39))) (show (z94) = 0 ∨ (z94) = 1 from pz94_0) (show (z94) = 1 → (u5_25) ≤ (u5_25) ∧ (u5_25) ≤ a1 from q_1389 h1) (show 0 ≤ (u5_39) ∧ (u5_39) ≤ 131072 from r3))
        refine w_icmpge (t := 283) rfl rfl (show inr (((v6 / 4) % 4)) from q_1370) (show inr (2) from q_55) (fun b95 => ?_) (fun b95 => ?_)
        · refine Ew_of (pcₚ := 285) (fun _ => x_iload rfl (rk_o (lc270_4) rfl rfl)) ?_
          refine Ew_of (pcₚ := 286) (fun _ => x_iconst rfl) ?_
          refine w_icmpne (t := 294) rfl rfl (show inr (((v6 / 4) % 4)) from q_1390 b95) (show inr (2) from q_55) (fun b96 => ?_) (fun b96 => ?_)
          · refine Ew_of (pcₚ := 296) (fun _ => x_bipush (z := 18) rfl (by decide)) ?_
            exact hc296 (18) _ σ _ _  (rk_o (lc270_0) rfl rfl) (rk_o (lc270_1) rfl rfl) (rk_o (lc270_2) rfl rfl) (rk_o (lc270_3) rfl rfl) (rk_o (lc270_4) rfl rfl) (rk_s) H (SF_refl) (SA_refl)   (show inr (18) from q_357) (show ((((v6 / 4) % 4)) ≥ (2) ∧ (((v6 / 4) % 4)) ≠ (2) ∧ (18) = (18)) ∨ ((((v6 / 4) % 4)) ≥ (2) ∧ (((v6 / 4) % 4)) = (2) ∧ (18) = (14)) ∨ ((((v6 / 4) % 4)) < (2) ∧ (18) = (10)) from q_1391 b95 b96)
          · refine Ew_of (pcₚ := 291) (fun _ => x_bipush (z := 14) rfl (by decide)) ?_
            refine Ew_of (pcₚ := 296) (fun _ => x_goto rfl rfl) ?_
            exact hc296 (14) _ σ _ _  (rk_o (lc270_0) rfl rfl) (rk_o (lc270_1) rfl rfl) (rk_o (lc270_2) rfl rfl) (rk_o (lc270_3) rfl rfl) (rk_o (lc270_4) rfl rfl) (rk_s) H (SF_refl) (SA_refl)   (show inr (14) from q_1358) (show ((((v6 / 4) % 4)) ≥ (2) ∧ (((v6 / 4) % 4)) ≠ (2) ∧ (14) = (18)) ∨ ((((v6 / 4) % 4)) ≥ (2) ∧ (((v6 / 4) % 4)) = (2) ∧ (14) = (14)) ∨ ((((v6 / 4) % 4)) < (2) ∧ (14) = (10)) from q_1392 b96)
        · refine Ew_of (pcₚ := 280) (fun _ => x_bipush (z := 10) rfl (by decide)) ?_
          refine Ew_of (pcₚ := 296) (fun _ => x_goto rfl rfl) ?_
          exact hc296 (10) _ σ _ _  (rk_o (lc270_0) rfl rfl) (rk_o (lc270_1) rfl rfl) (rk_o (lc270_2) rfl rfl) (rk_o (lc270_3) rfl rfl) (rk_o (lc270_4) rfl rfl) (rk_s) H (SF_refl) (SA_refl)   (show inr (10) from q_532) (show ((((v6 / 4) % 4)) ≥ (2) ∧ (((v6 / 4) % 4)) ≠ (2) ∧ (10) = (18)) ∨ ((((v6 / 4) % 4)) ≥ (2) ∧ (((v6 / 4) % 4)) = (2) ∧ (10) = (14)) ∨ ((((v6 / 4) % 4)) < (2) ∧ (10) = (10)) from q_1393 b95)
      refine w_icmpge (t := 266) rfl rfl (show inr (((v6 / 4) % 4)) from q_1370) (show inr (2) from q_55) (fun b97 => ?_) (fun b97 => ?_)
      · refine Ew_of (pcₚ := 268) (fun _ => x_iload rfl rk_s) ?_
        refine Ew_of (pcₚ := 269) (fun _ => x_iconst rfl) ?_
        refine w_iadd rfl ?_
        exact hc270 ((((v6 / 4) % 4) + 2)) _ σ _ _  (rk_o (rk_o (rk_o (rfl) rfl rfl) rfl rfl) rfl rfl) (rk_o (rk_o (rk_o (rfl) rfl rfl) rfl rfl) rfl rfl) (rk_o (rk_o (rk_s) rfl rfl) rfl rfl) (rk_o (rk_s) rfl rfl) (rk_s) H (SF_refl) (SA_refl)   (show inr ((((v6 / 4) % 4) + 2)) from q_1395 b97) (show ((((v6 / 4) % 4)) ≥ (2) ∧ ((((v6 / 4) % 4) + 2)) = ((((v6 / 4) % 4) + 2))) ∨ ((((v6 / 4) % 4)) < (2) ∧ ((((v6 / 4) % 4) + 2)) = (3)) from q_1394 b97)
      · refine Ew_of (pcₚ := 263) (fun _ => x_iconst rfl) ?_
        refine Ew_of (pcₚ := 270) (fun _ => x_goto rfl rfl) ?_
        exact hc270 (3) _ σ _ _  (rk_o (rk_o (rk_o (rfl) rfl rfl) rfl rfl) rfl rfl) (rk_o (rk_o (rk_o (rfl) rfl rfl) rfl rfl) rfl rfl) (rk_o (rk_o (rk_s) rfl rfl) rfl rfl) (rk_o (rk_s) rfl rfl) (rk_s) H (SF_refl) (SA_refl)   (show inr (3) from q_66) (show ((((v6 / 4) % 4)) ≥ (2) ∧ (3) = ((((v6 / 4) % 4) + 2))) ∨ ((((v6 / 4) % 4)) < (2) ∧ (3) = (3)) from q_1396 b97)
    · refine Ew_of (pcₚ := 61) (fun _ => x_iload rfl rk_s) ?_
      refine Ew_of (pcₚ := 62) (fun _ => x_iconst rfl) ?_
      refine w_irem rfl (show inr (((v6 / 4) % 4)) ∧ 0 ≤ ((v6 / 4) % 4) from q_1397) (show inr (2) ∧ 0 < 2 from q_967) ?_
      have hc81 : ∀ (tc81_0 : Int), ∀ (ls : rO) (σ : rS) (F_c81 : hF) (A_c81 : hA) , rlook ls 0 = some (.ref (D 5)) → rlook ls 1 = some (I (a1)) → rlook ls 2 = some (I (u5_25)) → rlook ls 3 = some (I ((v5 % 4))) → HS σ0 σ D N F_c81 A_c81 → SF [] F F_c81 → SA [] A A_c81 → (inr (tc81_0)) → ((((((v6 / 4) % 4) % 2)) ≠ (0) ∧ (((v6 / 4) % 4)) ≠ (1) ∧ (tc81_0) = (3)) ∨ (((((v6 / 4) % 4) % 2)) ≠ (0) ∧ (((v6 / 4) % 4)) = (1) ∧ (tc81_0) = (2)) ∨ (((((v6 / 4) % 4) % 2)) = (0) ∧ (tc81_0) = (1))) → Ew 291 (d + 4) 81 ls [I (tc81_0)] σ c s Q := by
       as_aux_lemma =>
        intro tc81_0 ls σ F_c81 A_c81  lc81_0 lc81_1 lc81_2 lc81_3 H hS_c81 hA_c81   jc81_0 jc81_1
        refine Ew_of (pcₚ := 83) (fun _ => x_istore rfl) ?_
        refine Ew_of (pcₚ := 84) (fun _ => x_iload_n rfl (rk_o (lc81_1) rfl rfl)) ?_
        refine Ew_of (pcₚ := 85) (fun _ => x_aload_n rfl (rk_o (lc81_0) rfl rfl)) ?_
        refine w_gI H (o := 5) (w := u5_25) rfl (H.perm 5 rfl) rfl rfl rfl (fun _ => rfl) ((hS_c81 5 25 rfl).trans (eu5_25)) ?_
        refine w_isub rfl ?_
        refine Ew_of (pcₚ := 91) (fun _ => x_iload rfl rk_s) ?_
        refine w_icmpge (t := 102) rfl rfl (show inr ((a1 - u5_25)) from q_1365 b4 h0 r2) (show inr (tc81_0) from jc81_0) (fun b98 => ?_) (fun b98 => ?_)
        · refine Ew_of (pcₚ := 103) (fun _ => x_aload_n rfl (rk_o (lc81_0) rfl rfl)) ?_
          refine Ew_of (pcₚ := 104) (fun _ => x_aload_n rfl (rk_o (lc81_0) rfl rfl)) ?_
          refine w_gI H (o := 5) (w := u5_25) rfl (H.perm 5 rfl) rfl rfl rfl (fun _ => rfl) ((hS_c81 5 25 rfl).trans (eu5_25)) ?_
          refine Ew_of (pcₚ := 109) (fun _ => x_iload rfl rk_s) ?_
          refine w_inv H (o := 5) rfl rfl rfl (H.perm 5 rfl) rfl rfl (by rfl) (M257 H (A 14) (funext (hA_c81 14 rfl)) (show inr (u5_25) from q_12 r2) (show inr (tc81_0) from jc81_0) (show 0 ≤ (u5_25) ∧ 0 ≤ (tc81_0) ∧ (tc81_0) ≤ 8 ∧ (u5_25) + (tc81_0) ≤ 65536 from q_1398 b98 h1 jc81_1 r1 r2) (fun z103 σ F99 A100 H hS101 hA102 pz103_0 pz103_1 pz103_2 pz103_3 pz103_4 pz103_5 pz103_6 pz103_7 pz103_8 => ⟨rfl, ?_⟩))
          refine w_l2i rfl ?_
          refine Ew_of (pcₚ := 115) (fun _ => x_iload rfl rk_s) ?_
          refine Ew_of (pcₚ := 116) (fun _ => x_iconst rfl) ?_
          have hc126 : ∀ (tc126_0 : Int), ∀ (ls : rO) (σ : rS) (F_c126 : hF) (A_c126 : hA) , rlook ls 0 = some (.ref (D 5)) → rlook ls 1 = some (I (a1)) → rlook ls 2 = some (I (u5_25)) → rlook ls 3 = some (I ((v5 % 4))) → rlook ls 5 = some (I (tc81_0)) → HS σ0 σ D N F_c126 A_c126 → SF [] F99 F_c126 → SA [] A100 A_c126 → (inr (tc126_0)) → (((tc81_0) ≠ (1) ∧ (tc126_0) = (16)) ∨ ((tc81_0) = (1) ∧ (tc126_0) = (8))) → Ew 291 (d + 4) 126 ls [I (tc126_0), I (z103)] σ c s Q := by
           as_aux_lemma =>
            intro tc126_0 ls σ F_c126 A_c126  lc126_0 lc126_1 lc126_2 lc126_3 lc126_5 H hS_c126 hA_c126   jc126_0 jc126_1
            have hdv : 0 ≤ (z103) / (tc126_0) ∧ (z103) / (tc126_0) ≤ (z103) := ⟨Int.ediv_nonneg (by omega) (by omega), Int.ediv_le_self _ (by omega)⟩
            refine w_idiv rfl (show inr (z103) ∧ 0 ≤ z103 by omega) (show inr (tc126_0) ∧ 0 < tc126_0 from q_1399 jc126_0 jc126_1) ?_
            refine Ew_of (pcₚ := 129) (fun _ => x_istore rfl) ?_
            refine Ew_of (pcₚ := 130) (fun _ => x_aload_n rfl (rk_o (lc126_0) rfl rfl)) ?_
            refine Ew_of (pcₚ := 131) (fun _ => x_dup rfl rfl) ?_
            refine w_gI H (o := 5) (w := u5_25) rfl (H.perm 5 rfl) rfl rfl rfl (fun _ => rfl) ((((hS_c126 5 25 rfl).trans (hS101 5 25 rfl)).trans (hS_c81 5 25 rfl)).trans (eu5_25)) ?_
            refine Ew_of (pcₚ := 136) (fun _ => x_iload rfl (rk_o (lc126_5) rfl rfl)) ?_
            refine w_iadd rfl ?_
            refine w_pI H (o := 5) rfl rfl (H.perm 5 rfl) rfl rfl rfl (fun _ => rfl) rfl (show (0 : Int) ≤ (u5_25 + tc81_0) ∧ (u5_25 + tc81_0) ≤ 65536 by omega) (fun σ H => ?_)
            refine Ew_of (pcₚ := 142) (fun _ => x_iload rfl rk_s) ?_
            refine Ew_of (pcₚ := 143) (fun _ => x_aload_n rfl (rk_o (lc126_0) rfl rfl)) ?_
            have r104 : (0 : Int) ≤ F 5 29 ∧ F 5 29 ≤ 131072 := rngE (show (0 : Int) ≤ (updF F_c126 5 25 ((u5_25 + tc81_0))) 5 29 ∧ (updF F_c126 5 25 ((u5_25 + tc81_0))) 5 29 ≤ 131072 from H.frng 5 29) (show (updF F_c126 5 25 ((u5_25 + tc81_0))) 5 29 = F 5 29 from (((hS_c126 5 29 rfl).trans (hS101 5 29 rfl)).trans (hS_c81 5 29 rfl)))
            refine w_gI H (o := 5) (w := F 5 29) rfl (H.perm 5 rfl) rfl rfl rfl (fun _ => rfl) (((hS_c126 5 29 rfl).trans (hS101 5 29 rfl)).trans (hS_c81 5 29 rfl)) ?_
            refine w_icmple (t := 157) rfl rfl (show inr ((z103 / tc126_0)) by omega) (show inr (F 5 29) from q_1322 r104) (fun b105 => ?_) (fun b105 => ?_)
            · refine Ew_of (pcₚ := 158) (fun _ => x_iload_n rfl (rk_o (lc126_3) rfl rfl)) ?_
              have hc167 : ∀ (tc167_0 : Int), ∀ (ls : rO) (σ : rS) (F_c167 : hF) (A_c167 : hA) , rlook ls 0 = some (.ref (D 5)) → rlook ls 1 = some (I (a1)) → rlook ls 3 = some (I ((v5 % 4))) → rlook ls 6 = some (I ((z103 / tc126_0))) → HS σ0 σ D N F_c167 A_c167 → SF [] (updF F_c126 5 25 ((u5_25 + tc81_0))) F_c167 → SA [] A_c126 A_c167 → (inr (tc167_0)) → ((((v5 % 4)) ≠ (0) ∧ (tc167_0) = (1)) ∨ (((v5 % 4)) = (0) ∧ (tc167_0) = ((z103 / tc126_0)))) → Ew 291 (d + 4) 167 ls [I (tc167_0)] σ c s Q := by
               as_aux_lemma =>
                intro tc167_0 ls σ F_c167 A_c167  lc167_0 lc167_1 lc167_3 lc167_6 H hS_c167 hA_c167   jc167_0 jc167_1
                refine Ew_of (pcₚ := 169) (fun _ => x_istore rfl) ?_
                refine Ew_of (pcₚ := 170) (fun _ => x_iload_n rfl (rk_o (lc167_1) rfl rfl)) ?_
                refine Ew_of (pcₚ := 171) (fun _ => x_aload_n rfl (rk_o (lc167_0) rfl rfl)) ?_
                refine w_gI H (o := 5) (w := (u5_25 + tc81_0)) rfl (H.perm 5 rfl) rfl rfl rfl (fun _ => rfl) (hS_c167 5 25 rfl) ?_
                refine w_isub rfl ?_
                refine Ew_of (pcₚ := 177) (fun _ => x_iload rfl rk_s) ?_
                refine w_icmpge (t := 188) rfl rfl (show inr ((a1 - (u5_25 + tc81_0))) by omega) (show inr (tc167_0) from jc167_0) (fun b106 => ?_) (fun b106 => ?_)
                · refine Ew_of (pcₚ := 189) (fun _ => x_iconst rfl) ?_
                  refine Ew_of (pcₚ := 191) (fun _ => x_istore rfl) ?_
                  suffices hl191 : ∀ (m : Nat), ∀ (ls : rO) (σ : rS) (F_191 : hF) (A_191 : hA) (x191_8 : Int), rlook ls 0 = some (.ref (D 5)) → rlook ls 3 = some (I ((v5 % 4))) → rlook ls 6 = some (I ((z103 / tc126_0))) → rlook ls 7 = some (I (tc167_0)) → rlook ls 8 = some (I (x191_8)) → HS σ0 σ D N F_191 A_191 → SF [] F_c167 F_191 → SA [46] A_c167 A_191 → (inr (x191_8)) → ((0) ≤ (x191_8)) → ((x191_8) ≤ (0) ∨ (x191_8) ≤ (((z103 / tc126_0)))) → ((((z103 / tc126_0))) - (x191_8)).toNat = m → Ew 291 (d + 4) 191 ls [] σ c s Q from
                    hl191 _ _ σ _ _ (0) (rk_o (rk_o (lc167_0) rfl rfl) rfl rfl) (rk_o (rk_o (lc167_3) rfl rfl) rfl rfl) (rk_o (rk_o (lc167_6) rfl rfl) rfl rfl) (rk_o (rk_s) rfl rfl) (rk_s) H (SF_refl) (SA_refl)   (show inr (0) from q_20) (show (0) ≤ (0) from q_25) (show (0) ≤ (0) ∨ (0) ≤ (((z103 / tc126_0))) from q_1400) rfl
                  as_aux_lemma =>
                  intro m
                  induction m using Nat.strongRecOn with
                  | _ m ih191 =>
                    intro ls σ F_191 A_191 x191_8 l191_0 l191_3 l191_6 l191_7 l191_8 H hS_191 hA_191   j191_0 j191_1 j191_2 hm191
                    refine Ew_of (pcₚ := 193) (fun _ => x_iload rfl l191_8) ?_
                    refine Ew_of (pcₚ := 195) (fun _ => x_iload rfl l191_6) ?_
                    refine w_icmpge (t := 237) rfl rfl (show inr (x191_8) from j191_0) (show inr ((z103 / tc126_0)) from q_1401 b105 hdv r104) (fun b107 => ?_) (fun b107 => ?_)
                    · refine Ew_of (pcₚ := 238) (fun _ => x_aload_n rfl l191_0) ?_
                      refine Ew_of (pcₚ := 240) (fun _ => x_iload rfl l191_6) ?_
                      refine w_pI H (o := 5) rfl rfl (H.perm 5 rfl) rfl rfl rfl (fun _ => rfl) rfl (show (0 : Int) ≤ (z103 / tc126_0) ∧ (z103 / tc126_0) ≤ 131072 from q_1402 b105 hdv r104) (fun σ H => ?_)
                      refine Ew_of (pcₚ := 244) (fun _ => x_aload_n rfl l191_0) ?_
                      refine Ew_of (pcₚ := 245) (fun _ => x_dup rfl rfl) ?_
                      refine w_gI H (o := 5) (w := (u5_25 + tc81_0)) rfl (H.perm 5 rfl) rfl rfl rfl (fun _ => rfl) ((hS_191 5 25 rfl).trans (hS_c167 5 25 rfl)) ?_
                      refine Ew_of (pcₚ := 250) (fun _ => x_iload rfl l191_7) ?_
                      refine w_iadd rfl ?_
                      refine w_pI H (o := 5) rfl rfl (H.perm 5 rfl) rfl rfl rfl (fun _ => rfl) rfl (show (0 : Int) ≤ ((u5_25 + tc81_0) + tc167_0) ∧ ((u5_25 + tc81_0) + tc167_0) ≤ 65536 by omega) (fun σ H => ?_)
                      refine Ew_of (pcₚ := 255) (fun _ => x_iconst rfl) ?_
                      exact w_ireturn rfl (k (1) σ _ _ H (SF_upd (SF_upd (SF_trans (SF_trans (SF_upd (SF_trans (SF_trans (SF_trans (SF_refl) hS_c81 (any_sub rfl)) hS101 (any_sub rfl)) hS_c126 (any_sub rfl)) rfl) hS_c167 (any_sub rfl)) hS_191 (any_sub rfl)) rfl) rfl) (SA_trans (SA_trans (SA_trans (SA_trans (SA_trans (SA_refl) hA_c81 (any_subA rfl)) hA102 (any_subA rfl)) hA_c126 (any_subA rfl)) hA_c167 (any_subA rfl)) hA_191 (any_subA rfl)) (((u5_25 + tc81_0) + tc167_0)) (rfl) ((z103 / tc126_0)) (rfl) (show (1) = 0 ∨ (1) = 1 by first | exact q_5 | omega) (show (1) = 1 → (u5_25) ≤ (((u5_25 + tc81_0) + tc167_0)) ∧ (((u5_25 + tc81_0) + tc167_0)) ≤ a1 by omega) (show 0 ≤ ((z103 / tc126_0)) ∧ ((z103 / tc126_0)) ≤ 131072 from q_1402 b105 hdv r104))
                    · refine Ew_of (pcₚ := 199) (fun _ => x_aload_n rfl l191_0) ?_
                      refine w_gT H (o := 5) (t := 46) rfl (H.perm 5 rfl) rfl rfl rfl rfl rfl rfl ?_
                      refine Ew_of (pcₚ := 204) (fun _ => x_iload rfl l191_8) ?_
                      refine Ew_of (pcₚ := 205) (fun _ => x_aload_n rfl l191_0) ?_
                      refine w_gT H (o := 5) (t := 1) rfl (H.perm 5 rfl) rfl rfl rfl rfl rfl rfl ?_
                      refine w_gT H (o := 1) (t := 14) rfl (H.perm 1 rfl) rfl rfl rfl rfl rfl rfl ?_
                      refine Ew_of (pcₚ := 212) (fun _ => x_iload_n rfl l191_3) ?_
                      refine w_ifne (t := 225) rfl rfl (show inr ((v5 % 4)) from q_1403 b7) (fun b108 => ?_) (fun b108 => ?_)
                      · refine Ew_of (pcₚ := 226) (fun _ => x_aload_n rfl l191_0) ?_
                        refine w_gI H (o := 5) (w := (u5_25 + tc81_0)) rfl (H.perm 5 rfl) rfl rfl rfl (fun _ => rfl) ((hS_191 5 25 rfl).trans (hS_c167 5 25 rfl)) ?_
                        refine w_lI H (o := 14) (n := 65536) rfl (H.perm 14 rfl) rfl rfl (H.fix 14 rfl rfl) (show 0 ≤ (u5_25 + tc81_0) ∧ (u5_25 + tc81_0) < ((65536 : Nat) : Int) by omega) (by decide) (fun v109 ev109 qv109 => ?_)
                        have qv109 : (0 : Int) ≤ v109 ∧ v109 ≤ 255 := qv109
                        have ev109 : (A 14) ((u5_25 + tc81_0)) = v109 := (congrFun ((funext (hA_191 14 rfl)).trans ((funext (hA_c167 14 rfl)).trans ((funext (hA_c126 14 rfl)).trans ((funext (hA102 14 rfl)).trans (funext (hA_c81 14 rfl)))))) ((u5_25 + tc81_0))).symm.trans ev109
                        refine w_sI H (o := 46) (n := 131072) rfl (H.perm 46 rfl) rfl rfl (H.fix 46 rfl rfl) (show 0 ≤ x191_8 ∧ x191_8 < ((131072 : Nat) : Int) from q_1404 b105 b107 j191_1 r104) (by decide) (show (0 : Int) ≤ v109 ∧ v109 ≤ 255 from qv109) (fun σ H => ?_)
                        refine Ew_of (pcₚ := 234) (fun _ => x_iinc (len := 3) rfl (l191_8)) ?_
                        refine Ew_of (pcₚ := 191) (fun _ => x_goto rfl rfl) ?_
                        exact ih191 _ (msE hm191 q_1407 (q_1408 b107)) _ σ _ _ ((x191_8 + 1)) (rk_o (l191_0) rfl rfl) (rk_o (l191_3) rfl rfl) (rk_o (l191_6) rfl rfl) (rk_o (l191_7) rfl rfl) (rk_s) H (hS_191) (SA_upd (hA_191) rfl)   (show inr ((x191_8 + 1)) from q_1406 b105 b107 j191_1 r104) (show (0) ≤ ((x191_8 + 1)) from q_29 j191_1) (show ((x191_8 + 1)) ≤ (0) ∨ ((x191_8 + 1)) ≤ (((z103 / tc126_0))) from q_1405 b107) rfl
                      · refine Ew_of (pcₚ := 216) (fun _ => x_aload_n rfl l191_0) ?_
                        refine w_gI H (o := 5) (w := (u5_25 + tc81_0)) rfl (H.perm 5 rfl) rfl rfl rfl (fun _ => rfl) ((hS_191 5 25 rfl).trans (hS_c167 5 25 rfl)) ?_
                        refine Ew_of (pcₚ := 221) (fun _ => x_iload rfl l191_8) ?_
                        refine w_iadd rfl ?_
                        refine Ew_of (pcₚ := 229) (fun _ => x_goto rfl rfl) ?_
                        refine w_lI H (o := 14) (n := 65536) rfl (H.perm 14 rfl) rfl rfl (H.fix 14 rfl rfl) (show 0 ≤ ((u5_25 + tc81_0) + x191_8) ∧ ((u5_25 + tc81_0) + x191_8) < ((65536 : Nat) : Int) by omega) (by decide) (fun v110 ev110 qv110 => ?_)
                        have qv110 : (0 : Int) ≤ v110 ∧ v110 ≤ 255 := qv110
                        have ev110 : (A 14) (((u5_25 + tc81_0) + x191_8)) = v110 := (congrFun ((funext (hA_191 14 rfl)).trans ((funext (hA_c167 14 rfl)).trans ((funext (hA_c126 14 rfl)).trans ((funext (hA102 14 rfl)).trans (funext (hA_c81 14 rfl)))))) (((u5_25 + tc81_0) + x191_8))).symm.trans ev110
                        refine w_sI H (o := 46) (n := 131072) rfl (H.perm 46 rfl) rfl rfl (H.fix 46 rfl rfl) (show 0 ≤ x191_8 ∧ x191_8 < ((131072 : Nat) : Int) from q_1404 b105 b107 j191_1 r104) (by decide) (show (0 : Int) ≤ v110 ∧ v110 ≤ 255 from qv110) (fun σ H => ?_)
                        refine Ew_of (pcₚ := 234) (fun _ => x_iinc (len := 3) rfl (l191_8)) ?_
                        refine Ew_of (pcₚ := 191) (fun _ => x_goto rfl rfl) ?_
                        exact ih191 _ (msE hm191 q_1407 (q_1408 b107)) _ σ _ _ ((x191_8 + 1)) (rk_o (l191_0) rfl rfl) (rk_o (l191_3) rfl rfl) (rk_o (l191_6) rfl rfl) (rk_o (l191_7) rfl rfl) (rk_s) H (hS_191) (SA_upd (hA_191) rfl)   (show inr ((x191_8 + 1)) from q_1406 b105 b107 j191_1 r104) (show (0) ≤ ((x191_8 + 1)) from q_29 j191_1) (show ((x191_8 + 1)) ≤ (0) ∨ ((x191_8 + 1)) ≤ (((z103 / tc126_0))) from q_1405 b107) rfl
                · refine Ew_of (pcₚ := 181) (fun _ => x_aload_n rfl (rk_o (lc167_0) rfl rfl)) ?_
                  refine Ew_of (pcₚ := 183) (fun _ => x_bipush (z := 10) rfl (by decide)) ?_
                  refine Ew_of (pcₚ := 184) (fun _ => x_iload_n rfl (rk_o (lc167_1) rfl rfl)) ?_
                  refine w_inv H (o := 5) rfl rfl rfl (H.perm 5 rfl) rfl rfl (by rfl) (M282 H (show inr (10) from q_532) (show inr (a1) from h0) (show 0 ≤ (10) ∧ (10) ≤ 20 from q_1383) (show 0 ≤ (a1) ∧ (a1) ≤ 65536 from q_1382 b4 h1 r1) (fun z115 σ F111 A112 H hS113 hA114 pz115_0 pz115_1 => ⟨rretB rfl pz115_0, ?_⟩))
                  exact w_ireturn rfl (k (z115) σ _ _ H (SF_trans (SF_trans (SF_upd (SF_trans (SF_trans (SF_trans (SF_refl) hS_c81 (any_sub rfl)) hS101 (any_sub rfl)) hS_c126 (any_sub rfl)) rfl) hS_c167 (any_sub rfl)) hS113 (any_sub rfl)) (SA_trans (SA_trans (SA_trans (SA_trans (SA_trans (SA_refl) hA_c81 (any_subA rfl)) hA102 (any_subA rfl)) hA_c126 (any_subA rfl)) hA_c167 (any_subA rfl)) hA114 (any_subA rfl)) ((u5_25 + tc81_0)) (((hS113 5 25 rfl).trans (hS_c167 5 25 rfl))) (u5_39) (((((((hS113 5 39 rfl).trans (hS_c167 5 39 rfl)).trans (hS_c126 5 39 rfl)).trans (hS101 5 39 rfl)).trans (hS_c81 5 39 rfl)).trans (eu5_39))) (show (z115) = 0 ∨ (z115) = 1 from pz115_0) (show (z115) = 1 → (u5_25) ≤ ((u5_25 + tc81_0)) ∧ ((u5_25 + tc81_0)) ≤ a1 from q_1369 b98 jc81_0 pz115_1) (show 0 ≤ (u5_39) ∧ (u5_39) ≤ 131072 from r3))
              refine w_ifne (t := 166) rfl rfl (show inr ((v5 % 4)) from q_1403 b7) (fun b116 => ?_) (fun b116 => ?_)
              · refine Ew_of (pcₚ := 167) (fun _ => x_iconst rfl) ?_
                exact hc167 (1) _ σ _ _  (rk_o (lc126_0) rfl rfl) (rk_o (lc126_1) rfl rfl) (rk_o (lc126_3) rfl rfl) (rk_s) H (SF_refl) (SA_refl)   (show inr (1) from q_23) (show (((v5 % 4)) ≠ (0) ∧ (1) = (1)) ∨ (((v5 % 4)) = (0) ∧ (1) = ((z103 / tc126_0))) from q_1409 b116)
              · refine Ew_of (pcₚ := 163) (fun _ => x_iload rfl rk_s) ?_
                refine Ew_of (pcₚ := 167) (fun _ => x_goto rfl rfl) ?_
                exact hc167 ((z103 / tc126_0)) _ σ _ _  (rk_o (lc126_0) rfl rfl) (rk_o (lc126_1) rfl rfl) (rk_o (lc126_3) rfl rfl) (rk_s) H (SF_refl) (SA_refl)   (show inr ((z103 / tc126_0)) from q_1401 b105 hdv r104) (show (((v5 % 4)) ≠ (0) ∧ ((z103 / tc126_0)) = (1)) ∨ (((v5 % 4)) = (0) ∧ ((z103 / tc126_0)) = ((z103 / tc126_0))) from q_1410 b116)
            · refine Ew_of (pcₚ := 150) (fun _ => x_aload_n rfl (rk_o (lc126_0) rfl rfl)) ?_
              refine Ew_of (pcₚ := 152) (fun _ => x_bipush (z := 11) rfl (by decide)) ?_
              refine Ew_of (pcₚ := 153) (fun _ => x_iload_n rfl (rk_o (lc126_2) rfl rfl)) ?_
              refine w_inv H (o := 5) rfl rfl rfl (H.perm 5 rfl) rfl rfl (by rfl) (M282 H (show inr (11) from q_67) (show inr (u5_25) from q_12 r2) (show 0 ≤ (11) ∧ (11) ≤ 20 from q_1368) (show 0 ≤ (u5_25) ∧ (u5_25) ≤ 65536 from r2) (fun z121 σ F117 A118 H hS119 hA120 pz121_0 pz121_1 => ⟨rretB rfl pz121_0, ?_⟩))
              exact w_ireturn rfl (k (z121) σ _ _ H (SF_trans (SF_upd (SF_trans (SF_trans (SF_trans (SF_refl) hS_c81 (any_sub rfl)) hS101 (any_sub rfl)) hS_c126 (any_sub rfl)) rfl) hS119 (any_sub rfl)) (SA_trans (SA_trans (SA_trans (SA_trans (SA_refl) hA_c81 (any_subA rfl)) hA102 (any_subA rfl)) hA_c126 (any_subA rfl)) hA120 (any_subA rfl)) ((u5_25 + tc81_0)) ((hS119 5 25 rfl)) (u5_39) ((((((hS119 5 39 rfl).trans (hS_c126 5 39 rfl)).trans (hS101 5 39 rfl)).trans (hS_c81 5 39 rfl)).trans (eu5_39))) (show (z121) = 0 ∨ (z121) = 1 from pz121_0) (show (z121) = 1 → (u5_25) ≤ ((u5_25 + tc81_0)) ∧ ((u5_25 + tc81_0)) ≤ a1 from q_1369 b98 jc81_0 pz121_1) (show 0 ≤ (u5_39) ∧ (u5_39) ≤ 131072 from r3))
          refine w_icmpne (t := 124) rfl rfl (show inr (tc81_0) from jc81_0) (show inr (1) from q_23) (fun b122 => ?_) (fun b122 => ?_)
          · refine Ew_of (pcₚ := 126) (fun _ => x_bipush (z := 16) rfl (by decide)) ?_
            exact hc126 (16) _ σ _ _  (rk_o (lc81_0) rfl rfl) (rk_o (lc81_1) rfl rfl) (rk_o (lc81_2) rfl rfl) (rk_o (lc81_3) rfl rfl) (rk_s) H (SF_refl) (SA_refl)   (show inr (16) from q_86) (show ((tc81_0) ≠ (1) ∧ (16) = (16)) ∨ ((tc81_0) = (1) ∧ (16) = (8)) from q_1411 b122)
          · refine Ew_of (pcₚ := 121) (fun _ => x_bipush (z := 8) rfl (by decide)) ?_
            refine Ew_of (pcₚ := 126) (fun _ => x_goto rfl rfl) ?_
            exact hc126 (8) _ σ _ _  (rk_o (lc81_0) rfl rfl) (rk_o (lc81_1) rfl rfl) (rk_o (lc81_2) rfl rfl) (rk_o (lc81_3) rfl rfl) (rk_s) H (SF_refl) (SA_refl)   (show inr (8) from q_96) (show ((tc81_0) ≠ (1) ∧ (8) = (16)) ∨ ((tc81_0) = (1) ∧ (8) = (8)) from q_1412 b122)
        · refine Ew_of (pcₚ := 95) (fun _ => x_aload_n rfl (rk_o (lc81_0) rfl rfl)) ?_
          refine Ew_of (pcₚ := 97) (fun _ => x_bipush (z := 10) rfl (by decide)) ?_
          refine Ew_of (pcₚ := 98) (fun _ => x_iload_n rfl (rk_o (lc81_1) rfl rfl)) ?_
          refine w_inv H (o := 5) rfl rfl rfl (H.perm 5 rfl) rfl rfl (by rfl) (M282 H (show inr (10) from q_532) (show inr (a1) from h0) (show 0 ≤ (10) ∧ (10) ≤ 20 from q_1383) (show 0 ≤ (a1) ∧ (a1) ≤ 65536 from q_1382 b4 h1 r1) (fun z127 σ F123 A124 H hS125 hA126 pz127_0 pz127_1 => ⟨rretB rfl pz127_0, ?_⟩))
          exact w_ireturn rfl (k (z127) σ _ _ H (SF_trans (SF_trans (SF_refl) hS_c81 (any_sub rfl)) hS125 (any_sub rfl)) (SA_trans (SA_trans (SA_refl) hA_c81 (any_subA rfl)) hA126 (any_subA rfl)) (u5_25) ((((hS125 5 25 rfl).trans (hS_c81 5 25 rfl)).trans (eu5_25))) (u5_39) ((((hS125 5 39 rfl).trans (hS_c81 5 39 rfl)).trans (eu5_39))) (show (z127) = 0 ∨ (z127) = 1 from pz127_0) (show (z127) = 1 → (u5_25) ≤ (u5_25) ∧ (u5_25) ≤ a1 from q_1389 h1) (show 0 ≤ (u5_39) ∧ (u5_39) ≤ 131072 from r3))
      refine w_ifne (t := 70) rfl rfl (show inr ((((v6 / 4) % 4) % 2)) from q_1413) (fun b128 => ?_) (fun b128 => ?_)
      · refine Ew_of (pcₚ := 72) (fun _ => x_iload rfl rk_s) ?_
        refine Ew_of (pcₚ := 73) (fun _ => x_iconst rfl) ?_
        refine w_icmpne (t := 80) rfl rfl (show inr (((v6 / 4) % 4)) from q_1370) (show inr (1) from q_23) (fun b129 => ?_) (fun b129 => ?_)
        · refine Ew_of (pcₚ := 81) (fun _ => x_iconst rfl) ?_
          exact hc81 (3) _ σ _ _  (rk_o (rk_o (rk_o (rfl) rfl rfl) rfl rfl) rfl rfl) (rk_o (rk_o (rk_o (rfl) rfl rfl) rfl rfl) rfl rfl) (rk_o (rk_o (rk_s) rfl rfl) rfl rfl) (rk_o (rk_s) rfl rfl) H (SF_refl) (SA_refl)   (show inr (3) from q_66) (show (((((v6 / 4) % 4) % 2)) ≠ (0) ∧ (((v6 / 4) % 4)) ≠ (1) ∧ (3) = (3)) ∨ (((((v6 / 4) % 4) % 2)) ≠ (0) ∧ (((v6 / 4) % 4)) = (1) ∧ (3) = (2)) ∨ (((((v6 / 4) % 4) % 2)) = (0) ∧ (3) = (1)) from q_1414 b128 b129)
        · refine Ew_of (pcₚ := 77) (fun _ => x_iconst rfl) ?_
          refine Ew_of (pcₚ := 81) (fun _ => x_goto rfl rfl) ?_
          exact hc81 (2) _ σ _ _  (rk_o (rk_o (rk_o (rfl) rfl rfl) rfl rfl) rfl rfl) (rk_o (rk_o (rk_o (rfl) rfl rfl) rfl rfl) rfl rfl) (rk_o (rk_o (rk_s) rfl rfl) rfl rfl) (rk_o (rk_s) rfl rfl) H (SF_refl) (SA_refl)   (show inr (2) from q_55) (show (((((v6 / 4) % 4) % 2)) ≠ (0) ∧ (((v6 / 4) % 4)) ≠ (1) ∧ (2) = (3)) ∨ (((((v6 / 4) % 4) % 2)) ≠ (0) ∧ (((v6 / 4) % 4)) = (1) ∧ (2) = (2)) ∨ (((((v6 / 4) % 4) % 2)) = (0) ∧ (2) = (1)) from q_1415 b128 b129)
      · refine Ew_of (pcₚ := 67) (fun _ => x_iconst rfl) ?_
        refine Ew_of (pcₚ := 81) (fun _ => x_goto rfl rfl) ?_
        exact hc81 (1) _ σ _ _  (rk_o (rk_o (rk_o (rfl) rfl rfl) rfl rfl) rfl rfl) (rk_o (rk_o (rk_o (rfl) rfl rfl) rfl rfl) rfl rfl) (rk_o (rk_o (rk_s) rfl rfl) rfl rfl) (rk_o (rk_s) rfl rfl) H (SF_refl) (SA_refl)   (show inr (1) from q_23) (show (((((v6 / 4) % 4) % 2)) ≠ (0) ∧ (((v6 / 4) % 4)) ≠ (1) ∧ (1) = (3)) ∨ (((((v6 / 4) % 4) % 2)) ≠ (0) ∧ (((v6 / 4) % 4)) = (1) ∧ (1) = (2)) ∨ (((((v6 / 4) % 4) % 2)) = (0) ∧ (1) = (1)) from q_1416 b128)
  · refine Ew_of (pcₚ := 14) (fun _ => x_aload_n rfl (rk_o (rfl) rfl rfl)) ?_
    refine Ew_of (pcₚ := 16) (fun _ => x_bipush (z := 10) rfl (by decide)) ?_
    refine Ew_of (pcₚ := 17) (fun _ => x_iload_n rfl (rk_o (rfl) rfl rfl)) ?_
    refine w_inv H (o := 5) rfl rfl rfl (H.perm 5 rfl) rfl rfl (by rfl) (M282 H (show inr (10) from q_532) (show inr (a1) from h0) (show 0 ≤ (10) ∧ (10) ≤ 20 from q_1383) (show 0 ≤ (a1) ∧ (a1) ≤ 65536 from q_1417 b4 h1 r2) (fun z134 σ F130 A131 H hS132 hA133 pz134_0 pz134_1 => ⟨rretB rfl pz134_0, ?_⟩))
    exact w_ireturn rfl (k (z134) σ _ _ H (SF_trans (SF_refl) hS132 (any_sub rfl)) (SA_trans (SA_refl) hA133 (any_subA rfl)) (u5_25) (((hS132 5 25 rfl).trans (eu5_25))) (u5_39) (((hS132 5 39 rfl).trans (eu5_39))) (show (z134) = 0 ∨ (z134) = 1 from pz134_0) (show (z134) = 1 → (u5_25) ≤ (u5_25) ∧ (u5_25) ≤ a1 from q_1389 h1) (show 0 ≤ (u5_39) ∧ (u5_39) ≤ 131072 from r3))
