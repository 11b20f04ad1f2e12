/-- Tags.putLiterals -/
theorem M332 {σ0 σ : rS} {D N : Nat → Nat} {F : hF} {A : hA} {d c s : Nat} {Q : wQ} (H : HS σ0 σ D N F A) {a1 a2 : Int} (u4_2 : Int) (eu4_2 : F 4 2 = u4_2) (h0 : inr (a1)) (h1 : inr (a2)) (h2 : 0 ≤ (a1) ∧ (a1) ≤ (a2) ∧ (a2) ≤ 65536) (h3 : 0 ≤ (u4_2) ∧ (u4_2) ≤ 9000000) (k : ∀ σ Fₚ Aₚ, HS σ0 σ D N Fₚ Aₚ → SF [(4, 2)] F Fₚ → SA [23] A Aₚ → ∀ y4_2 : Int, Fₚ 4 2 = y4_2 → ((u4_2) ≤ (y4_2) ∧ (y4_2) ≤ (u4_2) + ((a2) - (a1)) + 4) → Q none σ c s) : Ew 332 (d + 2) 0 (rargs 0 [.ref (D 4), I a1, I a2]) [] σ c s Q := by
  have r1 : (-2147483648 : Int) ≤ u4_2 ∧ u4_2 ≤ 2147483647 := rngE (show (-2147483648 : Int) ≤ F 4 2 ∧ F 4 2 ≤ 2147483647 from H.frng 4 2) (show F 4 2 = u4_2 from (eu4_2))
  refine Ew_of (pcₚ := 1) (fun _ => x_iload_n rfl rfl) ?_
  refine Ew_of (pcₚ := 2) (fun _ => x_iload_n rfl rfl) ?_
  refine w_isub rfl ?_
  refine Ew_of (pcₚ := 4) (fun _ => x_istore_n rfl) ?_
  refine Ew_of (pcₚ := 5) (fun _ => x_iload_n rfl rk_s) ?_
  refine w_ifne (t := 9) rfl rfl (show inr ((a2 - a1)) from q_370 h2) (fun b2 => ?_) (fun b2 => ?_)
  · refine Ew_of (pcₚ := 10) (fun _ => x_iload_n rfl rk_s) ?_
    refine Ew_of (pcₚ := 12) (fun _ => x_bipush (z := 60) rfl (by decide)) ?_
    have hc41 : ∀ (tc41_0 : Int), ∀ (ls : rO) (σ : rS) (F_c41 : hF) (A_c41 : hA) , rlook ls 0 = some (.ref (D 4)) → rlook ls 1 = some (I (a1)) → rlook ls 2 = some (I (a2)) → rlook ls 3 = some (I ((a2 - a1))) → HS σ0 σ D N F_c41 A_c41 → SF [] F F_c41 → SA [] A A_c41 → (inr (tc41_0)) → ((((a2 - a1)) > (60) ∧ ((a2 - a1)) > (256) ∧ ((a2 - a1)) > (65536) ∧ (tc41_0) = (3)) ∨ (((a2 - a1)) > (60) ∧ ((a2 - a1)) > (256) ∧ ((a2 - a1)) ≤ (65536) ∧ (tc41_0) = (2)) ∨ (((a2 - a1)) > (60) ∧ ((a2 - a1)) ≤ (256) ∧ (tc41_0) = (1)) ∨ (((a2 - a1)) ≤ (60) ∧ (tc41_0) = (0))) → Ew 332 (d + 2) 41 ls [I (tc41_0)] σ c s Q := by
     as_aux_lemma =>
      intro tc41_0 ls σ F_c41 A_c41  lc41_0 lc41_1 lc41_2 lc41_3 H hS_c41 hA_c41   jc41_0 jc41_1
      refine Ew_of (pcₚ := 43) (fun _ => x_istore rfl) ?_
      refine Ew_of (pcₚ := 44) (fun _ => x_aload_n rfl (rk_o (lc41_0) rfl rfl)) ?_
      refine Ew_of (pcₚ := 46) (fun _ => x_iload rfl rk_s) ?_
      have hc64 : ∀ (tc64_0 : Int), ∀ (ls : rO) (σ : rS) (F_c64 : hF) (A_c64 : hA) , rlook ls 0 = some (.ref (D 4)) → rlook ls 1 = some (I (a1)) → rlook ls 2 = some (I (a2)) → rlook ls 3 = some (I ((a2 - a1))) → rlook ls 4 = some (I (tc41_0)) → HS σ0 σ D N F_c64 A_c64 → SF [] F_c41 F_c64 → SA [] A_c41 A_c64 → (inr (tc64_0)) → (((tc41_0) ≠ (0) ∧ (tc64_0) = ((4 * (59 + tc41_0)))) ∨ ((tc41_0) = (0) ∧ (tc64_0) = ((4 * ((a2 - a1) - 1))))) → Ew 332 (d + 2) 64 ls [I (tc64_0), .ref (D 4)] σ c s Q := by
       as_aux_lemma =>
        intro tc64_0 ls σ F_c64 A_c64  lc64_0 lc64_1 lc64_2 lc64_3 lc64_4 H hS_c64 hA_c64   jc64_0 jc64_1
        refine w_inv H (o := 4) rfl rfl rfl (H.perm 4 rfl) rfl rfl (by rfl) (M320 H (u4_2) ((((hS_c64 4 2 rfl).trans (hS_c41 4 2 rfl)).trans (eu4_2))) (show inr (tc64_0) from jc64_0) (show 0 ≤ (u4_2) ∧ (u4_2) ≤ 100000000 from q_709 h3 r1) (fun σ F3 A4 H hS5 hA6 y8 ey9 pz7_0 => ⟨rfl, ?_⟩))
        have r10 : (-2147483648 : Int) ≤ y8 ∧ y8 ≤ 2147483647 := rngE (show (-2147483648 : Int) ≤ F3 4 2 ∧ F3 4 2 ≤ 2147483647 from H.frng 4 2) (show F3 4 2 = y8 from (ey9))
        refine Ew_of (pcₚ := 68) (fun _ => x_aload_n rfl lc64_0) ?_
        refine Ew_of (pcₚ := 69) (fun _ => x_iload_n rfl lc64_3) ?_
        refine Ew_of (pcₚ := 70) (fun _ => x_iconst rfl) ?_
        refine w_isub rfl ?_
        refine Ew_of (pcₚ := 73) (fun _ => x_iload rfl lc64_4) ?_
        refine w_inv H (o := 4) rfl rfl rfl (H.perm 4 rfl) rfl rfl (by rfl) (M321 H (y8) ((ey9)) (show inr (((a2 - a1) - 1)) from q_711 h2) (show inr (tc41_0) from jc41_0) (show 0 ≤ (tc41_0) ∧ (tc41_0) ≤ 4 by omega) (show 0 ≤ (y8) ∧ (y8) ≤ 10000000 from q_710 h3 pz7_0 r10) (fun σ F11 A12 H hS13 hA14 y16 ey17 pz15_0 => ⟨rfl, ?_⟩))
        have r18 : (-2147483648 : Int) ≤ y16 ∧ y16 ≤ 2147483647 := rngE (show (-2147483648 : Int) ≤ F11 4 2 ∧ F11 4 2 ≤ 2147483647 from H.frng 4 2) (show F11 4 2 = y16 from (ey17))
        refine Ew_of (pcₚ := 77) (fun _ => x_iload_n rfl lc64_1) ?_
        refine Ew_of (pcₚ := 79) (fun _ => x_istore rfl) ?_
        suffices hl79 : ∀ (m : Nat), ∀ (ls : rO) (σ : rS) (F_79 : hF) (A_79 : hA) (x79_5 : Int), rlook ls 0 = some (.ref (D 4)) → rlook ls 2 = some (I (a2)) → rlook ls 5 = some (I (x79_5)) → HS σ0 σ D N F_79 A_79 → SF [(4, 2)] F11 F_79 → SA [23] A12 A_79 → ∀ y79_4_2 : Int, F_79 4 2 = y79_4_2 → (inr (x79_5)) → ((a1) ≤ (x79_5)) → ((x79_5) ≤ (a1) ∨ (x79_5) ≤ ((a2))) → ((y79_4_2) = (y16) + ((x79_5) - (a1))) → (((a2)) - (x79_5)).toNat = m → Ew 332 (d + 2) 79 ls [] σ c s Q from
          hl79 _ _ σ _ _ (a1) (rk_o (lc64_0) rfl rfl) (rk_o (lc64_2) rfl rfl) (rk_s) H (SF_refl) (SA_refl) (y16) ((ey17))  (show inr (a1) from h0) (show (a1) ≤ (a1) from q_102) (show (a1) ≤ (a1) ∨ (a1) ≤ ((a2)) from q_101) (show (y16) = (y16) + ((a1) - (a1)) from q_196) rfl
        as_aux_lemma =>
        intro m
        induction m using Nat.strongRecOn with
        | _ m ih79 =>
          intro ls σ F_79 A_79 x79_5 l79_0 l79_2 l79_5 H hS_79 hA_79 y79_4_2 ey79_4_2  j79_0 j79_1 j79_2 j79_3 hm79
          have r19 : (-2147483648 : Int) ≤ y79_4_2 ∧ y79_4_2 ≤ 2147483647 := rngE (show (-2147483648 : Int) ≤ F_79 4 2 ∧ F_79 4 2 ≤ 2147483647 from H.frng 4 2) (show F_79 4 2 = y79_4_2 from (ey79_4_2))
          refine Ew_of (pcₚ := 81) (fun _ => x_iload rfl l79_5) ?_
          refine Ew_of (pcₚ := 82) (fun _ => x_iload_n rfl l79_2) ?_
          refine w_icmpge (t := 105) rfl rfl (show inr (x79_5) from j79_0) (show inr (a2) from h1) (fun b20 => ?_) (fun b20 => ?_)
          · exact w_ret rfl (k σ _ _ H (SF_trans (SF_trans (SF_trans (SF_trans (SF_trans (SF_refl) hS_c41 (any_sub rfl)) hS_c64 (any_sub rfl)) hS5 (any_sub rfl)) hS13 (any_sub rfl)) hS_79 (any_sub rfl)) (SA_trans (SA_trans (SA_trans (SA_trans (SA_trans (SA_refl) hA_c41 (any_subA rfl)) hA_c64 (any_subA rfl)) hA6 (any_subA rfl)) hA14 (any_subA rfl)) hA_79 (any_subA rfl)) (y79_4_2) ((ey79_4_2)) (show (u4_2) ≤ (y79_4_2) ∧ (y79_4_2) ≤ (u4_2) + (a2 - a1) + 4 by omega))
          · refine Ew_of (pcₚ := 86) (fun _ => x_aload_n rfl l79_0) ?_
            refine Ew_of (pcₚ := 87) (fun _ => x_aload_n rfl l79_0) ?_
            refine w_gT H (o := 4) (t := 1) rfl (H.perm 4 rfl) rfl rfl rfl rfl rfl rfl ?_
            refine w_gT H (o := 1) (t := 14) rfl (H.perm 1 rfl) rfl rfl rfl rfl rfl rfl ?_
            refine Ew_of (pcₚ := 95) (fun _ => x_iload rfl l79_5) ?_
            refine w_lI H (o := 14) (n := 65536) rfl (H.perm 14 rfl) rfl rfl (H.fix 14 rfl rfl) (show 0 ≤ x79_5 ∧ x79_5 < ((65536 : Nat) : Int) from q_656 b20 h2 j79_1) (by decide) (fun v21 ev21 qv21 => ?_)
            have qv21 : (0 : Int) ≤ v21 ∧ v21 ≤ 255 := qv21
            have ev21 : (A 14) (x79_5) = v21 := (congrFun ((funext (hA_79 14 rfl)).trans ((funext (hA14 14 rfl)).trans ((funext (hA6 14 rfl)).trans ((funext (hA_c64 14 rfl)).trans (funext (hA_c41 14 rfl)))))) (x79_5)).symm.trans ev21
            refine w_inv H (o := 4) rfl rfl rfl (H.perm 4 rfl) rfl rfl (by rfl) (M320 H (y79_4_2) ((ey79_4_2)) (show inr (v21) from q_38 qv21) (show 0 ≤ (y79_4_2) ∧ (y79_4_2) ≤ 100000000 by omega) (fun σ F22 A23 H hS24 hA25 y27 ey28 pz26_0 => ⟨rfl, ?_⟩))
            have r29 : (-2147483648 : Int) ≤ y27 ∧ y27 ≤ 2147483647 := rngE (show (-2147483648 : Int) ≤ F22 4 2 ∧ F22 4 2 ≤ 2147483647 from H.frng 4 2) (show F22 4 2 = y27 from (ey28))
            refine Ew_of (pcₚ := 102) (fun _ => x_iinc (len := 3) rfl (l79_5)) ?_
            refine Ew_of (pcₚ := 79) (fun _ => x_goto rfl rfl) ?_
            exact ih79 _ (msE hm79 q_31 (q_34 b20)) _ σ _ _ ((x79_5 + 1)) (rk_o (l79_0) rfl rfl) (rk_o (l79_2) rfl rfl) (rk_s) H (SF_trans (hS_79) hS24 (any_sub rfl)) (SA_trans (hA_79) hA25 (any_subA rfl)) (y27) ((ey28))  (show inr ((x79_5 + 1)) from q_106 b20 h2 j79_0) (show (a1) ≤ ((x79_5 + 1)) from q_105 j79_1) (show ((x79_5 + 1)) ≤ (a1) ∨ ((x79_5 + 1)) ≤ ((a2)) from q_104 b20) (show (y27) = (y16) + (((x79_5 + 1)) - (a1)) from q_220 j79_3 pz26_0) rfl
      refine w_ifne (t := 57) rfl rfl (show inr (tc41_0) from jc41_0) (fun b30 => ?_) (fun b30 => ?_)
      · refine Ew_of (pcₚ := 58) (fun _ => x_iconst rfl) ?_
        refine Ew_of (pcₚ := 60) (fun _ => x_bipush (z := 59) rfl (by decide)) ?_
        refine Ew_of (pcₚ := 62) (fun _ => x_iload rfl rk_s) ?_
        refine w_iadd rfl ?_
        refine w_imul rfl ?_
        exact hc64 ((4 * (59 + tc41_0))) _ σ _ _  (rk_o (lc41_0) rfl rfl) (rk_o (lc41_1) rfl rfl) (rk_o (lc41_2) rfl rfl) (rk_o (lc41_3) rfl rfl) (rk_s) H (SF_refl) (SA_refl)   (show inr ((4 * (59 + tc41_0))) by omega) (show ((tc41_0) ≠ (0) ∧ ((4 * (59 + tc41_0))) = ((4 * (59 + tc41_0)))) ∨ ((tc41_0) = (0) ∧ ((4 * (59 + tc41_0))) = ((4 * ((a2 - a1) - 1)))) from q_712 b30)
      · refine Ew_of (pcₚ := 50) (fun _ => x_iconst rfl) ?_
        refine Ew_of (pcₚ := 51) (fun _ => x_iload_n rfl (rk_o (lc41_3) rfl rfl)) ?_
        refine Ew_of (pcₚ := 52) (fun _ => x_iconst rfl) ?_
        refine w_isub rfl ?_
        refine w_imul rfl ?_
        refine Ew_of (pcₚ := 64) (fun _ => x_goto rfl rfl) ?_
        exact hc64 ((4 * ((a2 - a1) - 1))) _ σ _ _  (rk_o (lc41_0) rfl rfl) (rk_o (lc41_1) rfl rfl) (rk_o (lc41_2) rfl rfl) (rk_o (lc41_3) rfl rfl) (rk_s) H (SF_refl) (SA_refl)   (show inr ((4 * ((a2 - a1) - 1))) from q_714 h2) (show ((tc41_0) ≠ (0) ∧ ((4 * ((a2 - a1) - 1))) = ((4 * (59 + tc41_0)))) ∨ ((tc41_0) = (0) ∧ ((4 * ((a2 - a1) - 1))) = ((4 * ((a2 - a1) - 1)))) from q_713 b30)
    refine w_icmpgt (t := 19) rfl rfl (show inr ((a2 - a1)) from q_370 h2) (show inr (60) from q_715) (fun b31 => ?_) (fun b31 => ?_)
    · refine Ew_of (pcₚ := 20) (fun _ => x_iload_n rfl rk_s) ?_
      refine Ew_of (pcₚ := 23) (fun _ => x_sipush (z := 256) rfl (by decide)) ?_
      refine w_icmpgt (t := 30) rfl rfl (show inr ((a2 - a1)) from q_717 b31 h2) (show inr (256) from q_716) (fun b32 => ?_) (fun b32 => ?_)
      · refine Ew_of (pcₚ := 31) (fun _ => x_iload_n rfl rk_s) ?_
        refine Ew_of (pcₚ := 33) (fun _ => x_ldc (z := 65536) rfl (by decide)) ?_
        refine w_icmpgt (t := 40) rfl rfl (show inr ((a2 - a1)) from q_718 b32 h2) (show inr (65536) from q_35) (fun b33 => ?_) (fun b33 => ?_)
        · refine Ew_of (pcₚ := 41) (fun _ => x_iconst rfl) ?_
          exact hc41 (3) _ σ _ _  (rk_o (rfl) rfl rfl) (rk_o (rfl) rfl rfl) (rk_o (rfl) rfl rfl) (rk_s) H (SF_refl) (SA_refl)   (show inr (3) from q_66) (show (((a2 - a1)) > (60) ∧ ((a2 - a1)) > (256) ∧ ((a2 - a1)) > (65536) ∧ (3) = (3)) ∨ (((a2 - a1)) > (60) ∧ ((a2 - a1)) > (256) ∧ ((a2 - a1)) ≤ (65536) ∧ (3) = (2)) ∨ (((a2 - a1)) > (60) ∧ ((a2 - a1)) ≤ (256) ∧ (3) = (1)) ∨ (((a2 - a1)) ≤ (60) ∧ (3) = (0)) from q_719 b33)
        · refine Ew_of (pcₚ := 37) (fun _ => x_iconst rfl) ?_
          refine Ew_of (pcₚ := 41) (fun _ => x_goto rfl rfl) ?_
          exact hc41 (2) _ σ _ _  (rk_o (rfl) rfl rfl) (rk_o (rfl) rfl rfl) (rk_o (rfl) rfl rfl) (rk_s) H (SF_refl) (SA_refl)   (show inr (2) from q_55) (show (((a2 - a1)) > (60) ∧ ((a2 - a1)) > (256) ∧ ((a2 - a1)) > (65536) ∧ (2) = (3)) ∨ (((a2 - a1)) > (60) ∧ ((a2 - a1)) > (256) ∧ ((a2 - a1)) ≤ (65536) ∧ (2) = (2)) ∨ (((a2 - a1)) > (60) ∧ ((a2 - a1)) ≤ (256) ∧ (2) = (1)) ∨ (((a2 - a1)) ≤ (60) ∧ (2) = (0)) from q_720 b32 b33)
      · refine Ew_of (pcₚ := 27) (fun _ => x_iconst rfl) ?_
        refine Ew_of (pcₚ := 41) (fun _ => x_goto rfl rfl) ?_
        exact hc41 (1) _ σ _ _  (rk_o (rfl) rfl rfl) (rk_o (rfl) rfl rfl) (rk_o (rfl) rfl rfl) (rk_s) H (SF_refl) (SA_refl)   (show inr (1) from q_23) (show (((a2 - a1)) > (60) ∧ ((a2 - a1)) > (256) ∧ ((a2 - a1)) > (65536) ∧ (1) = (3)) ∨ (((a2 - a1)) > (60) ∧ ((a2 - a1)) > (256) ∧ ((a2 - a1)) ≤ (65536) ∧ (1) = (2)) ∨ (((a2 - a1)) > (60) ∧ ((a2 - a1)) ≤ (256) ∧ (1) = (1)) ∨ (((a2 - a1)) ≤ (60) ∧ (1) = (0)) from q_721 b31 b32)
    · refine Ew_of (pcₚ := 16) (fun _ => x_iconst rfl) ?_
      refine Ew_of (pcₚ := 41) (fun _ => x_goto rfl rfl) ?_
      exact hc41 (0) _ σ _ _  (rk_o (rfl) rfl rfl) (rk_o (rfl) rfl rfl) (rk_o (rfl) rfl rfl) (rk_s) H (SF_refl) (SA_refl)   (show inr (0) from q_20) (show (((a2 - a1)) > (60) ∧ ((a2 - a1)) > (256) ∧ ((a2 - a1)) > (65536) ∧ (0) = (3)) ∨ (((a2 - a1)) > (60) ∧ ((a2 - a1)) > (256) ∧ ((a2 - a1)) ≤ (65536) ∧ (0) = (2)) ∨ (((a2 - a1)) > (60) ∧ ((a2 - a1)) ≤ (256) ∧ (0) = (1)) ∨ (((a2 - a1)) ≤ (60) ∧ (0) = (0)) from q_722 b31)
  · exact w_ret rfl (k σ _ _ H (SF_refl) (SA_refl) (u4_2) ((eu4_2)) (show (u4_2) ≤ (u4_2) ∧ (u4_2) ≤ (u4_2) + (a2 - a1) + 4 from q_723 b2))
/-- Tags.putBlock -/
theorem M333 {σ0 σ : rS} {D N : Nat → Nat} {F : hF} {A : hA} {d c s : Nat} {Q : wQ} (H : HS σ0 σ D N F A) {a1 a2 a3 : Int} (u4_2 : Int) (eu4_2 : F 4 2 = u4_2) (u4_5 : Int) (eu4_5 : F 4 5 = u4_5) (w24 : Int → Int) (ew24 : A 24 = w24) (w25 : Int → Int) (ew25 : A 25 = w25) (h0 : inr (a1)) (h1 : inr (a2)) (h2 : inr (a3)) (h3 : 0 ≤ (a1) ∧ (a1) ≤ (a2) ∧ (a2) ≤ 16384) (h4 : 0 ≤ (a3) ∧ (a3) ≤ 3) (h5 : 0 ≤ (u4_2) ∧ (u4_2) ≤ 8000000) (h6 : KQ bN ((w24)) ((u4_5))) (h7 : KQ bF ((w25)) ((u4_5))) (k : ∀ σ Fₚ Aₚ, HS σ0 σ D N Fₚ Aₚ → SF [(4, 2), (4, 5), (4, 6), (4, 7)] F Fₚ → SA [23, 24, 25] A Aₚ → ∀ y4_2 : Int, Fₚ 4 2 = y4_2 → ∀ y4_5 : Int, Fₚ 4 5 = y4_5 → ∀ v24 : Int → Int, Aₚ 24 = v24 → ∀ v25 : Int → Int, Aₚ 25 = v25 → (KQ bN ((v24)) ((y4_5))) → (KQ bF ((v25)) ((y4_5))) → ((u4_2) ≤ (y4_2) ∧ (y4_2) ≤ (u4_2) + 10 * ((a2) - (a1)) + 20) → Q none σ c s) : Ew 333 (d + 4) 0 (rargs 0 [.ref (D 4), I a1, I a2, I a3]) [] σ c s Q := by
  have r1 : (-2147483648 : Int) ≤ u4_2 ∧ u4_2 ≤ 2147483647 := rngE (show (-2147483648 : Int) ≤ F 4 2 ∧ F 4 2 ≤ 2147483647 from H.frng 4 2) (show F 4 2 = u4_2 from (eu4_2))
  have r2 : (0 : Int) ≤ u4_5 ∧ u4_5 ≤ 16384 := rngE (show (0 : Int) ≤ F 4 5 ∧ F 4 5 ≤ 16384 from H.frng 4 5) (show F 4 5 = u4_5 from (eu4_5))
  refine Ew_of (pcₚ := 1) (fun _ => x_iload_n rfl rfl) ?_
  refine Ew_of (pcₚ := 2) (fun _ => x_iload_n rfl rfl) ?_
  refine w_isub rfl ?_
  refine Ew_of (pcₚ := 5) (fun _ => x_istore rfl) ?_
  suffices hl5 : ∀ (m : Nat), ∀ (ls : rO) (σ : rS) (F_5 : hF) (A_5 : hA) (x5_4 : Int), rlook ls 0 = some (.ref (D 4)) → rlook ls 1 = some (I (a1)) → rlook ls 2 = some (I (a2)) → rlook ls 3 = some (I (a3)) → rlook ls 4 = some (I (x5_4)) → HS σ0 σ D N F_5 A_5 → SF [(4, 2)] F F_5 → SA [23] A A_5 → ∀ y5_4_2 : Int, F_5 4 2 = y5_4_2 → (inr (x5_4)) → (0 ≤ (x5_4) ∧ (x5_4) ≤ (a2) - (a1)) → ((u4_2) ≤ (y5_4_2)) → ((x5_4) ≤ 16384 ∧ (y5_4_2) = (u4_2) ∨ (x5_4) ≤ 128 ∧ (y5_4_2) ≤ (u4_2) + 1 ∨ (x5_4) ≤ 1 ∧ (y5_4_2) ≤ (u4_2) + 2) → ((x5_4)).toNat = m → Ew 333 (d + 4) 5 ls [] σ c s Q from
    hl5 _ _ σ _ _ ((a2 - a1)) (rk_o (rfl) rfl rfl) (rk_o (rfl) rfl rfl) (rk_o (rfl) rfl rfl) (rk_o (rfl) rfl rfl) (rk_s) H (SF_refl) (SA_refl) (u4_2) ((eu4_2))  (show inr ((a2 - a1)) from q_203 h3) (show 0 ≤ ((a2 - a1)) ∧ ((a2 - a1)) ≤ (a2) - (a1) from q_725 h3) (show (u4_2) ≤ (u4_2) from q_102) (show ((a2 - a1)) ≤ 16384 ∧ (u4_2) = (u4_2) ∨ ((a2 - a1)) ≤ 128 ∧ (u4_2) ≤ (u4_2) + 1 ∨ ((a2 - a1)) ≤ 1 ∧ (u4_2) ≤ (u4_2) + 2 from q_724 h3) rfl
  as_aux_lemma =>
  intro m
  induction m using Nat.strongRecOn with
  | _ m ih5 =>
    intro ls σ F_5 A_5 x5_4 l5_0 l5_1 l5_2 l5_3 l5_4 H hS_5 hA_5 y5_4_2 ey5_4_2  j5_0 j5_1 j5_2 j5_3 hm5
    have r3 : (-2147483648 : Int) ≤ y5_4_2 ∧ y5_4_2 ≤ 2147483647 := rngE (show (-2147483648 : Int) ≤ F_5 4 2 ∧ F_5 4 2 ≤ 2147483647 from H.frng 4 2) (show F_5 4 2 = y5_4_2 from (ey5_4_2))
    refine Ew_of (pcₚ := 7) (fun _ => x_iload rfl l5_4) ?_
    refine Ew_of (pcₚ := 10) (fun _ => x_sipush (z := 128) rfl (by decide)) ?_
    refine w_icmplt (t := 38) rfl rfl (show inr (x5_4) from j5_0) (show inr (128) from q_53) (fun b4 => ?_) (fun b4 => ?_)
    · refine Ew_of (pcₚ := 39) (fun _ => x_aload_n rfl l5_0) ?_
      refine Ew_of (pcₚ := 41) (fun _ => x_iload rfl l5_4) ?_
      refine w_inv H (o := 4) rfl rfl rfl (H.perm 4 rfl) rfl rfl (by rfl) (M320 H (y5_4_2) ((ey5_4_2)) (show inr (x5_4) from j5_0) (show 0 ≤ (y5_4_2) ∧ (y5_4_2) ≤ 100000000 from q_726 h5 j5_2 j5_3 r3) (fun σ F5 A6 H hS7 hA8 y10 ey11 pz9_0 => ⟨rfl, ?_⟩))
      have r12 : (-2147483648 : Int) ≤ y10 ∧ y10 ≤ 2147483647 := rngE (show (-2147483648 : Int) ≤ F5 4 2 ∧ F5 4 2 ≤ 2147483647 from H.frng 4 2) (show F5 4 2 = y10 from (ey11))
      refine Ew_of (pcₚ := 45) (fun _ => x_iload_n rfl l5_1) ?_
      refine Ew_of (pcₚ := 47) (fun _ => x_istore rfl) ?_
      refine Ew_of (pcₚ := 48) (fun _ => x_iload_n rfl (rk_o (l5_1) rfl rfl)) ?_
      refine Ew_of (pcₚ := 50) (fun _ => x_istore rfl) ?_
      suffices hl50 : ∀ (m : Nat), ∀ (ls : rO) (σ : rS) (F_50 : hF) (A_50 : hA) (x50_5 : Int) (x50_6 : Int), rlook ls 0 = some (.ref (D 4)) → rlook ls 1 = some (I (a1)) → rlook ls 2 = some (I (a2)) → rlook ls 3 = some (I (a3)) → rlook ls 5 = some (I (x50_5)) → rlook ls 6 = some (I (x50_6)) → HS σ0 σ D N F_50 A_50 → SF [(4, 2), (4, 5), (4, 6), (4, 7)] F5 F_50 → SA [23, 24, 25] A6 A_50 → ∀ y50_4_2 : Int, F_50 4 2 = y50_4_2 → ∀ y50_4_5 : Int, F_50 4 5 = y50_4_5 → ∀ w50_24 : Int → Int, A_50 24 = w50_24 → ∀ w50_25 : Int → Int, A_50 25 = w50_25 → (inr (x50_5)) → (inr (x50_6)) → ((a1) ≤ (x50_5) ∧ (x50_5) ≤ (x50_6) ∧ (x50_6) ≤ (a2)) → ((u4_2) ≤ (y50_4_2) ∧ (y50_4_2) ≤ (u4_2) + 10 * ((x50_5) - (a1)) + 5) → (KQ bN ((w50_24)) ((y50_4_5))) → (KQ bF ((w50_25)) ((y50_4_5))) → ((a2) - (x50_6)).toNat = m → Ew 333 (d + 4) 50 ls [] σ c s Q from
        hl50 _ _ σ _ _ (a1) (a1) (rk_o (rk_o (l5_0) rfl rfl) rfl rfl) (rk_o (rk_o (l5_1) rfl rfl) rfl rfl) (rk_o (rk_o (l5_2) rfl rfl) rfl rfl) (rk_o (rk_o (l5_3) rfl rfl) rfl rfl) (rk_o (rk_s) rfl rfl) (rk_s) H (SF_refl) (SA_refl) (y10) ((ey11)) (u4_5) ((((hS7 4 5 rfl).trans (hS_5 4 5 rfl)).trans (eu4_5))) (w24) ((funext (hA8 24 rfl)).trans ((funext (hA_5 24 rfl)).trans (ew24))) (w25) ((funext (hA8 25 rfl)).trans ((funext (hA_5 25 rfl)).trans (ew25))) (show inr (a1) from h0) (show inr (a1) from h0) (show (a1) ≤ (a1) ∧ (a1) ≤ (a1) ∧ (a1) ≤ (a2) from q_728 h3) (show (u4_2) ≤ (y10) ∧ (y10) ≤ (u4_2) + 10 * ((a1) - (a1)) + 5 from q_727 j5_2 j5_3 pz9_0) (show KQ bN ((w24)) ((u4_5)) from h6) (show KQ bF ((w25)) ((u4_5)) from h7) rfl
      as_aux_lemma =>
      intro m
      induction m using Nat.strongRecOn with
      | _ m ih50 =>
        intro ls σ F_50 A_50 x50_5 x50_6 l50_0 l50_1 l50_2 l50_3 l50_5 l50_6 H hS_50 hA_50 y50_4_2 ey50_4_2 y50_4_5 ey50_4_5 w50_24 ew50_24 w50_25 ew50_25 j50_0 j50_1 j50_2 j50_3 j50_4 j50_5 hm50
        have r13 : (-2147483648 : Int) ≤ y50_4_2 ∧ y50_4_2 ≤ 2147483647 := rngE (show (-2147483648 : Int) ≤ F_50 4 2 ∧ F_50 4 2 ≤ 2147483647 from H.frng 4 2) (show F_50 4 2 = y50_4_2 from (ey50_4_2))
        have r14 : (0 : Int) ≤ y50_4_5 ∧ y50_4_5 ≤ 16384 := rngE (show (0 : Int) ≤ F_50 4 5 ∧ F_50 4 5 ≤ 16384 from H.frng 4 5) (show F_50 4 5 = y50_4_5 from (ey50_4_5))
        refine Ew_of (pcₚ := 52) (fun _ => x_iload rfl l50_6) ?_
        refine Ew_of (pcₚ := 53) (fun _ => x_iload_n rfl l50_2) ?_
        refine w_icmpge (t := 119) rfl rfl (show inr (x50_6) from j50_1) (show inr (a2) from h1) (fun b15 => ?_) (fun b15 => ?_)
        · refine Ew_of (pcₚ := 120) (fun _ => x_aload_n rfl l50_0) ?_
          refine Ew_of (pcₚ := 122) (fun _ => x_iload rfl l50_5) ?_
          refine Ew_of (pcₚ := 123) (fun _ => x_iload_n rfl l50_2) ?_
          refine w_inv H (o := 4) rfl rfl rfl (H.perm 4 rfl) rfl rfl (by rfl) (M332 H (y50_4_2) ((ey50_4_2)) (show inr (x50_5) from j50_0) (show inr (a2) from h1) (show 0 ≤ (x50_5) ∧ (x50_5) ≤ (a2) ∧ (a2) ≤ 65536 from q_729 h3 j50_2) (show 0 ≤ (y50_4_2) ∧ (y50_4_2) ≤ 9000000 by omega) (fun σ F16 A17 H hS18 hA19 y21 ey22 pz20_0 => ⟨rfl, ?_⟩))
          have r23 : (-2147483648 : Int) ≤ y21 ∧ y21 ≤ 2147483647 := rngE (show (-2147483648 : Int) ≤ F16 4 2 ∧ F16 4 2 ≤ 2147483647 from H.frng 4 2) (show F16 4 2 = y21 from (ey22))
          exact w_ret rfl (k σ _ _ H (SF_trans (SF_trans (SF_trans (SF_trans (SF_refl) hS_5 (any_sub rfl)) hS7 (any_sub rfl)) hS_50 (any_sub rfl)) hS18 (any_sub rfl)) (SA_trans (SA_trans (SA_trans (SA_trans (SA_refl) hA_5 (any_subA rfl)) hA8 (any_subA rfl)) hA_50 (any_subA rfl)) hA19 (any_subA rfl)) (y21) ((ey22)) (y50_4_5) (((hS18 4 5 rfl).trans (ey50_4_5))) (w50_24) ((funext (hA19 24 rfl)).trans (ew50_24)) (w50_25) ((funext (hA19 25 rfl)).trans (ew50_25)) (show KQ bN ((w50_24)) ((y50_4_5)) from j50_4) (show KQ bF ((w50_25)) ((y50_4_5)) from j50_5) (show (u4_2) ≤ (y21) ∧ (y21) ≤ (u4_2) + 10 * (a2 - a1) + 20 from q_730 j50_2 j50_3 pz20_0))
        · refine Ew_of (pcₚ := 57) (fun _ => x_aload_n rfl l50_0) ?_
          refine Ew_of (pcₚ := 58) (fun _ => x_iload_n rfl l50_1) ?_
          refine Ew_of (pcₚ := 60) (fun _ => x_iload rfl l50_6) ?_
          refine Ew_of (pcₚ := 61) (fun _ => x_iload_n rfl l50_2) ?_
          refine Ew_of (pcₚ := 62) (fun _ => x_iload_n rfl l50_3) ?_
          refine w_inv H (o := 4) rfl rfl rfl (H.perm 4 rfl) rfl rfl (by rfl) (M326 H (show inr (a1) from h0) (show inr (x50_6) from j50_1) (show inr (a2) from h1) (show inr (a3) from h2) (show 0 ≤ (a1) ∧ (a1) ≤ (x50_6) ∧ (x50_6) < (a2) ∧ (a2) ≤ 65536 from q_731 b15 h3 j50_2) (show 0 ≤ (a3) ∧ (a3) ≤ 3 from h4) (fun σ F24 A25 H hS26 hA27 y29 ey30 y31 ey32 pz28_0 => ⟨rfl, ?_⟩))
          have r33 : (0 : Int) ≤ y29 ∧ y29 ≤ 65536 := rngE (show (0 : Int) ≤ F24 4 6 ∧ F24 4 6 ≤ 65536 from H.frng 4 6) (show F24 4 6 = y29 from (ey30))
          have r34 : (0 : Int) ≤ y31 ∧ y31 ≤ 65536 := rngE (show (0 : Int) ≤ F24 4 7 ∧ F24 4 7 ≤ 65536 from H.frng 4 7) (show F24 4 7 = y31 from (ey32))
          refine Ew_of (pcₚ := 66) (fun _ => x_aload_n rfl l50_0) ?_
          refine w_gI H (o := 4) (w := y31) rfl (H.perm 4 rfl) rfl rfl rfl (fun _ => rfl) (ey32) ?_
          refine w_ifne (t := 78) rfl rfl (show inr (y31) from q_12 r34) (fun b35 => ?_) (fun b35 => ?_)
          · refine Ew_of (pcₚ := 79) (fun _ => x_aload_n rfl l50_0) ?_
            refine Ew_of (pcₚ := 81) (fun _ => x_iload rfl l50_5) ?_
            refine Ew_of (pcₚ := 83) (fun _ => x_iload rfl l50_6) ?_
            refine w_inv H (o := 4) rfl rfl rfl (H.perm 4 rfl) rfl rfl (by rfl) (M332 H (y50_4_2) (((hS26 4 2 rfl).trans (ey50_4_2))) (show inr (x50_5) from j50_0) (show inr (x50_6) from j50_1) (show 0 ≤ (x50_5) ∧ (x50_5) ≤ (x50_6) ∧ (x50_6) ≤ 65536 from q_732 b15 h3 j50_2) (show 0 ≤ (y50_4_2) ∧ (y50_4_2) ≤ 9000000 by omega) (fun σ F36 A37 H hS38 hA39 y41 ey42 pz40_0 => ⟨rfl, ?_⟩))
            have r43 : (-2147483648 : Int) ≤ y41 ∧ y41 ≤ 2147483647 := rngE (show (-2147483648 : Int) ≤ F36 4 2 ∧ F36 4 2 ≤ 2147483647 from H.frng 4 2) (show F36 4 2 = y41 from (ey42))
            refine Ew_of (pcₚ := 87) (fun _ => x_aload_n rfl l50_0) ?_
            refine w_gI H (o := 4) (w := y31) rfl (H.perm 4 rfl) rfl rfl rfl (fun _ => rfl) ((hS38 4 7 rfl).trans (ey32)) ?_
            refine Ew_of (pcₚ := 92) (fun _ => x_istore rfl) ?_
            refine Ew_of (pcₚ := 93) (fun _ => x_aload_n rfl (rk_o (l50_0) rfl rfl)) ?_
            refine Ew_of (pcₚ := 95) (fun _ => x_iload rfl rk_s) ?_
            refine Ew_of (pcₚ := 97) (fun _ => x_iload rfl (rk_o (l50_6) rfl rfl)) ?_
            refine Ew_of (pcₚ := 98) (fun _ => x_aload_n rfl (rk_o (l50_0) rfl rfl)) ?_
            refine w_gI H (o := 4) (w := y29) rfl (H.perm 4 rfl) rfl rfl rfl (fun _ => rfl) ((hS38 4 6 rfl).trans (ey30)) ?_
            refine w_isub rfl ?_
            refine w_inv H (o := 4) rfl rfl rfl (H.perm 4 rfl) rfl rfl (by rfl) (M331 H (y41) ((ey42)) (y50_4_5) ((((hS38 4 5 rfl).trans (hS26 4 5 rfl)).trans (ey50_4_5))) (w50_24) ((funext (hA39 24 rfl)).trans ((funext (hA27 24 rfl)).trans (ew50_24))) (w50_25) ((funext (hA39 25 rfl)).trans ((funext (hA27 25 rfl)).trans (ew50_25))) (show inr (y31) from q_12 r34) (show inr ((x50_6 - y29)) from q_733 h3 j50_1 j50_2 j50_3 r33) (show 1 ≤ (y31) ∧ (y31) ≤ 16384 by omega) (show 0 ≤ ((x50_6 - y29)) ∧ ((x50_6 - y29)) ≤ 65536 by omega) (show 0 ≤ (y41) ∧ (y41) ≤ 9000000 by omega) (show KQ bN ((w50_24)) ((y50_4_5)) from j50_4) (show KQ bF ((w50_25)) ((y50_4_5)) from j50_5) (fun σ F44 A45 H hS46 hA47 y49 ey50 y51 ey52 w53 ew54 w55 ew56 pz48_0 pz48_1 pz48_2 => ⟨rfl, ?_⟩))
            have r57 : (-2147483648 : Int) ≤ y49 ∧ y49 ≤ 2147483647 := rngE (show (-2147483648 : Int) ≤ F44 4 2 ∧ F44 4 2 ≤ 2147483647 from H.frng 4 2) (show F44 4 2 = y49 from (ey50))
            have r58 : (0 : Int) ≤ y51 ∧ y51 ≤ 16384 := rngE (show (0 : Int) ≤ F44 4 5 ∧ F44 4 5 ≤ 16384 from H.frng 4 5) (show F44 4 5 = y51 from (ey52))
            refine Ew_of (pcₚ := 107) (fun _ => x_iload rfl (rk_o (l50_6) rfl rfl)) ?_
            refine Ew_of (pcₚ := 109) (fun _ => x_iload rfl rk_s) ?_
            refine w_iadd rfl ?_
            refine Ew_of (pcₚ := 112) (fun _ => x_istore rfl) ?_
            refine Ew_of (pcₚ := 114) (fun _ => x_iload rfl rk_s) ?_
            refine Ew_of (pcₚ := 116) (fun _ => x_istore rfl) ?_
            refine Ew_of (pcₚ := 50) (fun _ => x_goto rfl rfl) ?_
            exact ih50 _ (by omega) _ σ _ _ ((x50_6 + y31)) ((x50_6 + y31)) (rk_o (rk_o (rk_o (l50_0) rfl rfl) rfl rfl) rfl rfl) (rk_o (rk_o (rk_o (l50_1) rfl rfl) rfl rfl) rfl rfl) (rk_o (rk_o (rk_o (l50_2) rfl rfl) rfl rfl) rfl rfl) (rk_o (rk_o (rk_o (l50_3) rfl rfl) rfl rfl) rfl rfl) (rk_s) (rk_o (rk_s) rfl rfl) H (SF_trans (SF_trans (SF_trans (hS_50) hS26 (any_sub rfl)) hS38 (any_sub rfl)) hS46 (any_sub rfl)) (SA_trans (SA_trans (SA_trans (hA_50) hA27 (any_subA rfl)) hA39 (any_subA rfl)) hA47 (any_subA rfl)) (y49) ((ey50)) (y51) ((ey52)) (w53) (ew54) (w55) (ew56) (show inr ((x50_6 + y31)) from q_735 b15 h3 j50_1 pz48_2 r34) (show inr ((x50_6 + y31)) from q_735 b15 h3 j50_1 pz48_2 r34) (show (a1) ≤ ((x50_6 + y31)) ∧ ((x50_6 + y31)) ≤ ((x50_6 + y31)) ∧ ((x50_6 + y31)) ≤ (a2) from q_734 b15 j50_2 pz28_0 pz48_2 r34) (show (u4_2) ≤ (y49) ∧ (y49) ≤ (u4_2) + 10 * (((x50_6 + y31)) - (a1)) + 5 by omega) (show KQ bN ((w53)) ((y51)) from pz48_0) (show KQ bF ((w55)) ((y51)) from pz48_1) rfl
          · refine Ew_of (pcₚ := 75) (fun _ => x_iinc (len := 3) rfl (l50_6)) ?_
            refine Ew_of (pcₚ := 50) (fun _ => x_goto rfl rfl) ?_
            exact ih50 _ (msE hm50 q_31 (q_34 b15)) _ σ _ _ (x50_5) ((x50_6 + 1)) (rk_o (l50_0) rfl rfl) (rk_o (l50_1) rfl rfl) (rk_o (l50_2) rfl rfl) (rk_o (l50_3) rfl rfl) (rk_o (l50_5) rfl rfl) (rk_s) H (SF_trans (hS_50) hS26 (any_sub rfl)) (SA_trans (hA_50) hA27 (any_subA rfl)) (y50_4_2) (((hS26 4 2 rfl).trans (ey50_4_2))) (y50_4_5) (((hS26 4 5 rfl).trans (ey50_4_5))) (w50_24) ((funext (hA27 24 rfl)).trans (ew50_24)) (w50_25) ((funext (hA27 25 rfl)).trans (ew50_25)) (show inr (x50_5) from j50_0) (show inr ((x50_6 + 1)) from q_221 b15 h3 j50_1) (show (a1) ≤ (x50_5) ∧ (x50_5) ≤ ((x50_6 + 1)) ∧ ((x50_6 + 1)) ≤ (a2) from q_252 b15 j50_2) (show (u4_2) ≤ (y50_4_2) ∧ (y50_4_2) ≤ (u4_2) + 10 * ((x50_5) - (a1)) + 5 from j50_3) (show KQ bN ((w50_24)) ((y50_4_5)) from j50_4) (show KQ bF ((w50_25)) ((y50_4_5)) from j50_5) rfl
    · refine Ew_of (pcₚ := 14) (fun _ => x_aload_n rfl l5_0) ?_
      refine Ew_of (pcₚ := 16) (fun _ => x_iload rfl l5_4) ?_
      refine Ew_of (pcₚ := 19) (fun _ => x_sipush (z := 128) rfl (by decide)) ?_
      refine w_irem rfl (show inr (x5_4) ∧ 0 ≤ x5_4 from q_737 j5_0 j5_1) (show inr (128) ∧ 0 < 128 from q_736) ?_
      refine Ew_of (pcₚ := 23) (fun _ => x_sipush (z := 128) rfl (by decide)) ?_
      refine w_iadd rfl ?_
      refine w_inv H (o := 4) rfl rfl rfl (H.perm 4 rfl) rfl rfl (by rfl) (M320 H (y5_4_2) ((ey5_4_2)) (show inr (((x5_4 % 128) + 128)) from q_738) (show 0 ≤ (y5_4_2) ∧ (y5_4_2) ≤ 100000000 from q_726 h5 j5_2 j5_3 r3) (fun σ F59 A60 H hS61 hA62 y64 ey65 pz63_0 => ⟨rfl, ?_⟩))
      have r66 : (-2147483648 : Int) ≤ y64 ∧ y64 ≤ 2147483647 := rngE (show (-2147483648 : Int) ≤ F59 4 2 ∧ F59 4 2 ≤ 2147483647 from H.frng 4 2) (show F59 4 2 = y64 from (ey65))
      refine Ew_of (pcₚ := 29) (fun _ => x_iload rfl l5_4) ?_
      refine Ew_of (pcₚ := 32) (fun _ => x_sipush (z := 128) rfl (by decide)) ?_
      refine w_idiv rfl (show inr (x5_4) ∧ 0 ≤ x5_4 from q_737 j5_0 j5_1) (show inr (128) ∧ 0 < 128 from q_736) ?_
      refine Ew_of (pcₚ := 35) (fun _ => x_istore rfl) ?_
      refine Ew_of (pcₚ := 5) (fun _ => x_goto rfl rfl) ?_
      exact ih5 _ (msE hm5 (q_742 b4) (q_743 b4)) _ σ _ _ ((x5_4 / 128)) (rk_o (l5_0) rfl rfl) (rk_o (l5_1) rfl rfl) (rk_o (l5_2) rfl rfl) (rk_o (l5_3) rfl rfl) (rk_s) H (SF_trans (hS_5) hS61 (any_sub rfl)) (SA_trans (hA_5) hA62 (any_subA rfl)) (y64) ((ey65))  (show inr ((x5_4 / 128)) from q_741 b4 j5_0) (show 0 ≤ ((x5_4 / 128)) ∧ ((x5_4 / 128)) ≤ (a2) - (a1) from q_740 b4 h3 j5_1) (show (u4_2) ≤ (y64) from q_739 j5_2 pz63_0) (show ((x5_4 / 128)) ≤ 16384 ∧ (y64) = (u4_2) ∨ ((x5_4 / 128)) ≤ 128 ∧ (y64) ≤ (u4_2) + 1 ∨ ((x5_4 / 128)) ≤ 1 ∧ (y64) ≤ (u4_2) + 2 by omega) rfl
/-- Tags.pack -/
theorem M334 {σ0 σ : rS} {D N : Nat → Nat} {F : hF} {A : hA} {d c s : Nat} {Q : wQ} (H : HS σ0 σ D N F A) {a1 : Int} (u1_1 : Int) (eu1_1 : F 1 1 = u1_1) (u4_5 : Int) (eu4_5 : F 4 5 = u4_5) (w24 : Int → Int) (ew24 : A 24 = w24) (w25 : Int → Int) (ew25 : A 25 = w25) (h0 : inr (a1)) (h1 : 0 ≤ (a1) ∧ (a1) ≤ 3) (h2 : (u1_1) ≤ 16384) (h3 : KQ bN ((w24)) ((u4_5))) (h4 : KQ bF ((w25)) ((u4_5))) (k : ∀ (z : Int) σ Fₚ Aₚ, HS σ0 σ D N Fₚ Aₚ → SF [(1, 3), (4, 2), (4, 5), (4, 6), (4, 7)] F Fₚ → SA [15, 23, 24, 25] A Aₚ → ∀ y4_5 : Int, Fₚ 4 5 = y4_5 → ∀ v24 : Int → Int, Aₚ 24 = v24 → ∀ v25 : Int → Int, Aₚ 25 = v25 → (inr (z)) → (KQ bN ((v24)) ((y4_5))) → (KQ bF ((v25)) ((y4_5))) → Q (some (I z)) σ c s) : Ew 334 (d + 5) 0 (rargs 0 [.ref (D 4), I a1]) [] σ c s Q := by
  have r1 : (0 : Int) ≤ u1_1 ∧ u1_1 ≤ 65536 := rngE (show (0 : Int) ≤ F 1 1 ∧ F 1 1 ≤ 65536 from H.frng 1 1) (show F 1 1 = u1_1 from (eu1_1))
  have r2 : (0 : Int) ≤ u4_5 ∧ u4_5 ≤ 16384 := rngE (show (0 : Int) ≤ F 4 5 ∧ F 4 5 ≤ 16384 from H.frng 4 5) (show F 4 5 = u4_5 from (eu4_5))
  refine Ew_of (pcₚ := 1) (fun _ => x_aload_n rfl rfl) ?_
  refine Ew_of (pcₚ := 2) (fun _ => x_iconst rfl) ?_
  refine w_pI H (o := 4) rfl rfl (H.perm 4 rfl) rfl rfl rfl (fun _ => rfl) rfl (show (-2147483648 : Int) ≤ 0 ∧ 0 ≤ 2147483647 from q_240) (fun σ H => ?_)
  refine Ew_of (pcₚ := 6) (fun _ => x_aload_n rfl rfl) ?_
  refine Ew_of (pcₚ := 7) (fun _ => x_iconst rfl) ?_
  refine Ew_of (pcₚ := 8) (fun _ => x_aload_n rfl rfl) ?_
  refine w_gT H (o := 4) (t := 1) rfl (H.perm 4 rfl) rfl rfl rfl rfl rfl rfl ?_
  refine w_gI H (o := 1) (w := u1_1) rfl (H.perm 1 rfl) rfl rfl rfl (fun _ => rfl) (eu1_1) ?_
  refine Ew_of (pcₚ := 15) (fun _ => x_iload_n rfl rfl) ?_
  refine w_inv H (o := 4) rfl rfl rfl (H.perm 4 rfl) rfl rfl (by rfl) (M333 H (0) (rfl) (u4_5) ((eu4_5)) (w24) (ew24) (w25) (ew25) (show inr (0) from q_20) (show inr (u1_1) from q_12 r1) (show inr (a1) from h0) (show 0 ≤ (0) ∧ (0) ≤ (u1_1) ∧ (u1_1) ≤ 16384 from q_745 h2 r1) (show 0 ≤ (a1) ∧ (a1) ≤ 3 from h1) (show 0 ≤ (0) ∧ (0) ≤ 8000000 from q_744) (show KQ bN ((w24)) ((u4_5)) from h3) (show KQ bF ((w25)) ((u4_5)) from h4) (fun σ F3 A4 H hS5 hA6 y8 ey9 y10 ey11 w12 ew13 w14 ew15 pz7_0 pz7_1 pz7_2 => ⟨rfl, ?_⟩))
  have r16 : (-2147483648 : Int) ≤ y8 ∧ y8 ≤ 2147483647 := rngE (show (-2147483648 : Int) ≤ F3 4 2 ∧ F3 4 2 ≤ 2147483647 from H.frng 4 2) (show F3 4 2 = y8 from (ey9))
  have r17 : (0 : Int) ≤ y10 ∧ y10 ≤ 16384 := rngE (show (0 : Int) ≤ F3 4 5 ∧ F3 4 5 ≤ 16384 from H.frng 4 5) (show F3 4 5 = y10 from (ey11))
  refine Ew_of (pcₚ := 19) (fun _ => x_aload_n rfl rfl) ?_
  refine w_gI H (o := 4) (w := y8) rfl (H.perm 4 rfl) rfl rfl rfl (fun _ => rfl) (ey9) ?_
  refine Ew_of (pcₚ := 24) (fun _ => x_ldc (z := 65536) rfl (by decide)) ?_
  refine w_icmple (t := 31) rfl rfl (show inr (y8) from q_746 pz7_2 r16) (show inr (65536) from q_35) (fun b18 => ?_) (fun b18 => ?_)
  · refine Ew_of (pcₚ := 32) (fun _ => x_aload_n rfl rfl) ?_
    refine w_inv H (o := 4) rfl rfl rfl (H.perm 4 rfl) rfl rfl (by rfl) (M322 H (y8) ((ey9)) (show 0 ≤ (y8) ∧ (y8) ≤ 65536 from q_747 b18 pz7_2) (fun z23 σ F19 A20 H hS21 hA22 pz23_0 => ⟨rfl, ?_⟩))
    exact w_ireturn rfl (k (z23) σ _ _ H (SF_trans (SF_trans (SF_upd (SF_refl) rfl) hS5 (any_sub rfl)) hS21 (any_sub rfl)) (SA_trans (SA_trans (SA_refl) hA6 (any_subA rfl)) hA22 (any_subA rfl)) (y10) (((hS21 4 5 rfl).trans (ey11))) (w12) ((funext (hA22 24 rfl)).trans (ew13)) (w14) ((funext (hA22 25 rfl)).trans (ew15)) (show inr (z23) from pz23_0) (show KQ bN ((w12)) ((y10)) from pz7_0) (show KQ bF ((w14)) ((y10)) from pz7_1))
  · refine Ew_of (pcₚ := 28) (fun _ => x_iconst rfl) ?_
    refine Ew_of (pcₚ := 35) (fun _ => x_goto rfl rfl) ?_
    exact w_ireturn rfl (k ((-1)) σ _ _ H (SF_trans (SF_upd (SF_refl) rfl) hS5 (any_sub rfl)) (SA_trans (SA_refl) hA6 (any_subA rfl)) (y10) ((ey11)) (w12) (ew13) (w14) (ew15) (show inr ((-1)) from q_16) (show KQ bN ((w12)) ((y10)) from pz7_0) (show KQ bF ((w14)) ((y10)) from pz7_1))
/-- Tags.take -/
theorem M336 {σ0 σ : rS} {D N : Nat → Nat} {F : hF} {A : hA} {d c s : Nat} {Q : wQ} (H : HS σ0 σ D N F A) {a1 : Int} (u4_8 : Int) (eu4_8 : F 4 8 = u4_8) (u4_9 : Int) (eu4_9 : F 4 9 = u4_9) (u4_10 : Int) (eu4_10 : F 4 10 = u4_10) (h0 : inr (a1)) (h1 : 0 ≤ (a1) ∧ (a1) ≤ 4) (h2 : 0 ≤ (u4_8) ∧ (u4_8) ≤ (u4_9)) (k : ∀ (z : Int) σ Fₚ Aₚ, HS σ0 σ D N Fₚ Aₚ → SF [(4, 8), (4, 10), (4, 11)] F Fₚ → SA [] A Aₚ → ∀ y4_8 : Int, Fₚ 4 8 = y4_8 → ∀ y4_10 : Int, Fₚ 4 10 = y4_10 → (inrJ (z)) → ((u4_8) ≤ (y4_8) ∧ (y4_8) ≤ (u4_9)) → ((z) = -1 ∧ (y4_10) ≠ 0 ∨ 0 ≤ (z) ∧ (y4_10) = 0 ∧ (y4_8) = (u4_8) + (a1)) → ((u4_10) ≠ 0 ∨ (u4_8) + (a1) > (u4_9) ∨ 0 ≤ (z)) → ((u4_10) = 0 ∨ (y4_10) = (u4_10)) → ((z) ≤ 4294967295) → ((a1) = 1 → (z) ≤ 255) → ((a1) = 2 → (z) ≤ 65535) → ((a1) = 3 → (z) ≤ 16777215) → Q (some (J z)) σ c s) : Ew 336 (d + 1) 0 (rargs 0 [.ref (D 4), I a1]) [] σ c s Q := by
  have r1 : (0 : Int) ≤ u4_8 ∧ u4_8 ≤ 65536 := rngE (show (0 : Int) ≤ F 4 8 ∧ F 4 8 ≤ 65536 from H.frng 4 8) (show F 4 8 = u4_8 from (eu4_8))
  have r2 : (0 : Int) ≤ u4_9 ∧ u4_9 ≤ 65536 := rngE (show (0 : Int) ≤ F 4 9 ∧ F 4 9 ≤ 65536 from H.frng 4 9) (show F 4 9 = u4_9 from (eu4_9))
  have r3 : (-2147483648 : Int) ≤ u4_10 ∧ u4_10 ≤ 2147483647 := rngE (show (-2147483648 : Int) ≤ F 4 10 ∧ F 4 10 ≤ 2147483647 from H.frng 4 10) (show F 4 10 = u4_10 from (eu4_10))
  refine Ew_of (pcₚ := 1) (fun _ => x_aload_n rfl rfl) ?_
  refine w_gI H (o := 4) (w := u4_10) rfl (H.perm 4 rfl) rfl rfl rfl (fun _ => rfl) (eu4_10) ?_
  refine w_ifeq (t := 11) rfl rfl (show inr (u4_10) from q_22 r3) (fun b4 => ?_) (fun b4 => ?_)
  · have : p2 (8 * 0) = 1 := by decide
    refine Ew_of (pcₚ := 12) (fun _ => x_lconst (z := 0) rfl (by decide)) ?_
    refine Ew_of (pcₚ := 13) (fun _ => x_lstore_n rfl) ?_
    refine Ew_of (pcₚ := 14) (fun _ => x_iconst rfl) ?_
    refine Ew_of (pcₚ := 16) (fun _ => x_istore rfl) ?_
    suffices hl16 : ∀ (m : Nat), ∀ (ls : rO) (σ : rS) (F_16 : hF) (A_16 : hA) (x16_2 : Int) (x16_4 : Int), rlook ls 0 = some (.ref (D 4)) → rlook ls 1 = some (I (a1)) → rlook ls 2 = some (J (x16_2)) → rlook ls 4 = some (I (x16_4)) → HS σ0 σ D N F_16 A_16 → SF [(4, 8)] F F_16 → SA [] A A_16 → ∀ y16_4_8 : Int, F_16 4 8 = y16_4_8 → (inrJ (x16_2)) → (inr (x16_4)) → ((0) ≤ (x16_4)) → ((x16_4) ≤ (0) ∨ (x16_4) ≤ ((a1))) → (0 ≤ (x16_2) ∧ (x16_2) < p2 (8 * (x16_4))) → ((y16_4_8) = (u4_8) + (x16_4) ∧ (y16_4_8) ≤ (u4_9)) → ((u4_10) = 0) → (((a1)) - (x16_4)).toNat = m → Ew 336 (d + 1) 16 ls [] σ c s Q from
      hl16 _ _ σ _ _ (0) (0) (rk_o (rk2_o (rfl) rfl rfl) rfl rfl) (rk_o (rk2_o (rfl) rfl rfl) rfl rfl) (rk_o (rk2_s) rfl rfl) (rk_s) H (SF_refl) (SA_refl) (u4_8) ((eu4_8))  (show inrJ (0) from q_81) (show inr (0) from q_20) (show (0) ≤ (0) from q_25) (show (0) ≤ (0) ∨ (0) ≤ ((a1)) from q_24) (show 0 ≤ (0) ∧ (0) < p2 (8 * (0)) by omega) (show (u4_8) = (u4_8) + (0) ∧ (u4_8) ≤ (u4_9) from q_748 h2) (show (u4_10) = 0 from b4) rfl
    as_aux_lemma =>
    intro m
    induction m using Nat.strongRecOn with
    | _ m ih16 =>
      intro ls σ F_16 A_16 x16_2 x16_4 l16_0 l16_1 l16_2 l16_4 H hS_16 hA_16 y16_4_8 ey16_4_8  j16_0 j16_1 j16_2 j16_3 j16_4 j16_5 j16_6 hm16
      have r5 : (0 : Int) ≤ y16_4_8 ∧ y16_4_8 ≤ 65536 := rngE (show (0 : Int) ≤ F_16 4 8 ∧ F_16 4 8 ≤ 65536 from H.frng 4 8) (show F_16 4 8 = y16_4_8 from (ey16_4_8))
      refine Ew_of (pcₚ := 18) (fun _ => x_iload rfl l16_4) ?_
      refine Ew_of (pcₚ := 19) (fun _ => x_iload_n rfl l16_1) ?_
      refine w_icmpge (t := 89) rfl rfl (show inr (x16_4) from j16_1) (show inr (a1) from h0) (fun b6 => ?_) (fun b6 => ?_)
      · have := p2_8 (k := (x16_4))
        have : (x16_4) = 0 → p2 (8 * (x16_4)) = 1 := fun h => by rw [h]; decide
        refine Ew_of (pcₚ := 90) (fun _ => x_lload_n rfl l16_2) ?_
        exact w_lreturn rfl (k (x16_2) σ _ _ H (SF_trans (SF_refl) hS_16 (any_sub rfl)) (SA_trans (SA_refl) hA_16 (any_subA rfl)) (y16_4_8) ((ey16_4_8)) (u4_10) (((hS_16 4 10 rfl).trans (eu4_10))) (show inrJ (x16_2) from j16_0) (show (u4_8) ≤ (y16_4_8) ∧ (y16_4_8) ≤ (u4_9) from q_751 j16_2 j16_5) (show (x16_2) = -1 ∧ (u4_10) ≠ 0 ∨ 0 ≤ (x16_2) ∧ (u4_10) = 0 ∧ (y16_4_8) = (u4_8) + a1 by omega) (show (u4_10) ≠ 0 ∨ (u4_8) + a1 > (u4_9) ∨ 0 ≤ (x16_2) from q_750 j16_4) (show (u4_10) = 0 ∨ (u4_10) = (u4_10) from q_749 j16_6) (show (x16_2) ≤ 4294967295 by omega) (show a1 = 1 → (x16_2) ≤ 255 by omega) (show a1 = 2 → (x16_2) ≤ 65535 by omega) (show a1 = 3 → (x16_2) ≤ 16777215 by omega))
      · refine Ew_of (pcₚ := 23) (fun _ => x_aload_n rfl l16_0) ?_
        refine w_gI H (o := 4) (w := y16_4_8) rfl (H.perm 4 rfl) rfl rfl rfl (fun _ => rfl) (ey16_4_8) ?_
        refine Ew_of (pcₚ := 27) (fun _ => x_aload_n rfl l16_0) ?_
        refine w_gI H (o := 4) (w := u4_9) rfl (H.perm 4 rfl) rfl rfl rfl (fun _ => rfl) ((hS_16 4 9 rfl).trans (eu4_9)) ?_
        refine w_icmpne (t := 47) rfl rfl (show inr (y16_4_8) from q_12 r5) (show inr (u4_9) from q_12 r2) (fun b7 => ?_) (fun b7 => ?_)
        · refine Ew_of (pcₚ := 48) (fun _ => x_lload_n rfl l16_2) ?_
          refine Ew_of (pcₚ := 49) (fun _ => x_aload_n rfl l16_0) ?_
          refine w_gT H (o := 4) (t := 1) rfl (H.perm 4 rfl) rfl rfl rfl rfl rfl rfl ?_
          refine w_gT H (o := 1) (t := 14) rfl (H.perm 1 rfl) rfl rfl rfl rfl rfl rfl ?_
          refine Ew_of (pcₚ := 56) (fun _ => x_aload_n rfl l16_0) ?_
          refine w_gI H (o := 4) (w := y16_4_8) rfl (H.perm 4 rfl) rfl rfl rfl (fun _ => rfl) (ey16_4_8) ?_
          refine w_lI H (o := 14) (n := 65536) rfl (H.perm 14 rfl) rfl rfl (H.fix 14 rfl rfl) (show 0 ≤ y16_4_8 ∧ y16_4_8 < ((65536 : Nat) : Int) by omega) (by decide) (fun v8 ev8 qv8 => ?_)
          have qv8 : (0 : Int) ≤ v8 ∧ v8 ≤ 255 := qv8
          have ev8 : (A 14) (y16_4_8) = v8 := (congrFun (funext (hA_16 14 rfl)) (y16_4_8)).symm.trans ev8
          refine w_i2l rfl (show inr (v8) from q_38 qv8) ?_
          refine Ew_of (pcₚ := 64) (fun _ => x_ldc2 (z := 255) rfl (by decide)) ?_
          refine w_land rfl (show inrJ (v8) from q_194 qv8) (show inrJ (255) from q_268) (fun z9 gz9 gaz9 gbz9 => ?_)
          refine Ew_of (pcₚ := 67) (fun _ => x_bipush (z := 8) rfl (by decide)) ?_
          refine Ew_of (pcₚ := 69) (fun _ => x_iload rfl l16_4) ?_
          refine w_imul rfl ?_
          have hp := p2_pos (8 * (x16_4))
          have hm : (z9) * p2 (8 * (x16_4)) ≤ 255 * p2 (8 * (x16_4)) := Int.mul_le_mul_of_nonneg_right (by omega) (by omega)
          have hm0 : 0 ≤ (z9) * p2 (8 * (x16_4)) := Int.mul_nonneg (by omega) (by omega)
          have : p2 (8 * (x16_4)) ≤ p2 24 := p2_mono (by omega)
          have : p2 24 = 16777216 := by decide
          have : p2 (8 * ((x16_4) + 1)) = 256 * p2 (8 * (x16_4)) := p8 (by omega)
          refine w_lshlX rfl (fun z10 gz10 dz10 => ?_)
          refine w_lorN rfl (show inrJ (x16_2) from j16_0) (show inrJ (z10) by omega) (fun z11 gz11 dz11 => ?_)
          refine Ew_of (pcₚ := 73) (fun _ => x_lstore_n rfl) ?_
          refine Ew_of (pcₚ := 74) (fun _ => x_aload_n rfl (rk2_o (l16_0) rfl rfl)) ?_
          refine Ew_of (pcₚ := 75) (fun _ => x_dup rfl rfl) ?_
          refine w_gI H (o := 4) (w := y16_4_8) rfl (H.perm 4 rfl) rfl rfl rfl (fun _ => rfl) (ey16_4_8) ?_
          refine Ew_of (pcₚ := 79) (fun _ => x_iconst rfl) ?_
          refine w_iadd rfl ?_
          refine w_pI H (o := 4) rfl rfl (H.perm 4 rfl) rfl rfl rfl (fun _ => rfl) rfl (show (0 : Int) ≤ (y16_4_8 + 1) ∧ (y16_4_8 + 1) ≤ 65536 by omega) (fun σ H => ?_)
          refine Ew_of (pcₚ := 86) (fun _ => x_iinc (len := 3) rfl (rk2_o (l16_4) rfl rfl)) ?_
          refine Ew_of (pcₚ := 16) (fun _ => x_goto rfl rfl) ?_
          exact ih16 _ (msE hm16 q_31 (q_34 b6)) _ σ _ _ (z11) ((x16_4 + 1)) (rk_o (rk2_o (l16_0) rfl rfl) rfl rfl) (rk_o (rk2_o (l16_1) rfl rfl) rfl rfl) (rk_o (rk2_s) rfl rfl) (rk_s) H (SF_upd (hS_16) rfl) (hA_16) ((y16_4_8 + 1)) (rfl)  (show inrJ (z11) by omega) (show inr ((x16_4 + 1)) from q_114 b6 h1 j16_2) (show (0) ≤ ((x16_4 + 1)) from q_29 j16_2) (show ((x16_4 + 1)) ≤ (0) ∨ ((x16_4 + 1)) ≤ ((a1)) from q_33 b6) (show 0 ≤ (z11) ∧ (z11) < p2 (8 * ((x16_4 + 1))) by omega) (show ((y16_4_8 + 1)) = (u4_8) + ((x16_4 + 1)) ∧ ((y16_4_8 + 1)) ≤ (u4_9) by omega) (show (u4_10) = 0 from j16_6) rfl
        · refine Ew_of (pcₚ := 34) (fun _ => x_aload_n rfl l16_0) ?_
          refine Ew_of (pcₚ := 35) (fun _ => x_iconst rfl) ?_
          refine Ew_of (pcₚ := 36) (fun _ => x_aload_n rfl l16_0) ?_
          refine w_gI H (o := 4) (w := u4_9) rfl (H.perm 4 rfl) rfl rfl rfl (fun _ => rfl) ((hS_16 4 9 rfl).trans (eu4_9)) ?_
          refine w_inv H (o := 4) rfl rfl rfl (H.perm 4 rfl) rfl rfl (by rfl) (M335 H (u4_10) (((hS_16 4 10 rfl).trans (eu4_10))) (show inr (1) from q_23) (show inr (u4_9) from q_12 r2) (fun z16 σ F12 A13 H hS14 hA15 y17 ey18 pz16_0 pz16_1 pz16_2 => ⟨rretB rfl pz16_0, ?_⟩))
          have r19 : (-2147483648 : Int) ≤ y17 ∧ y17 ≤ 2147483647 := rngE (show (-2147483648 : Int) ≤ F12 4 10 ∧ F12 4 10 ≤ 2147483647 from H.frng 4 10) (show F12 4 10 = y17 from (ey18))
          refine Ew_of (pcₚ := 43) (fun _ => x_pop rfl rfl) ?_
          refine Ew_of (pcₚ := 46) (fun _ => x_ldc2 (z := -1) rfl (by decide)) ?_
          exact w_lreturn rfl (k ((-1)) σ _ _ H (SF_trans (SF_trans (SF_refl) hS_16 (any_sub rfl)) hS14 (any_sub rfl)) (SA_trans (SA_trans (SA_refl) hA_16 (any_subA rfl)) hA15 (any_subA rfl)) (y16_4_8) (((hS14 4 8 rfl).trans (ey16_4_8))) (y17) ((ey18)) (show inrJ ((-1)) from q_759) (show (u4_8) ≤ (y16_4_8) ∧ (y16_4_8) ≤ (u4_9) from q_758 b7 h2 j16_5) (show ((-1)) = -1 ∧ (y17) ≠ 0 ∨ 0 ≤ ((-1)) ∧ (y17) = 0 ∧ (y16_4_8) = (u4_8) + a1 by omega) (show (u4_10) ≠ 0 ∨ (u4_8) + a1 > (u4_9) ∨ 0 ≤ ((-1)) by first | exact q_757 b6 b7 j16_5 | omega) (show (u4_10) = 0 ∨ (y17) = (u4_10) from q_756 j16_6) (show ((-1)) ≤ 4294967295 by first | exact q_755 | omega) (show a1 = 1 → ((-1)) ≤ 255 by first | exact q_754 | omega) (show a1 = 2 → ((-1)) ≤ 65535 by first | exact q_753 | omega) (show a1 = 3 → ((-1)) ≤ 16777215 by first | exact q_752 | omega))
  · refine Ew_of (pcₚ := 10) (fun _ => x_ldc2 (z := -1) rfl (by decide)) ?_
    exact w_lreturn rfl (k ((-1)) σ _ _ H (SF_refl) (SA_refl) (u4_8) ((eu4_8)) (u4_10) ((eu4_10)) (show inrJ ((-1)) from q_759) (show (u4_8) ≤ (u4_8) ∧ (u4_8) ≤ (u4_9) from q_763 h2) (show ((-1)) = -1 ∧ (u4_10) ≠ 0 ∨ 0 ≤ ((-1)) ∧ (u4_10) = 0 ∧ (u4_8) = (u4_8) + a1 by first | exact q_762 b4 | omega) (show (u4_10) ≠ 0 ∨ (u4_8) + a1 > (u4_9) ∨ 0 ≤ ((-1)) by first | exact q_761 b4 | omega) (show (u4_10) = 0 ∨ (u4_10) = (u4_10) from q_760) (show ((-1)) ≤ 4294967295 by first | exact q_755 | omega) (show a1 = 1 → ((-1)) ≤ 255 by first | exact q_754 | omega) (show a1 = 2 → ((-1)) ≤ 65535 by first | exact q_753 | omega) (show a1 = 3 → ((-1)) ≤ 16777215 by first | exact q_752 | omega))
/-- Tags.takeLength -/
theorem M337 {σ0 σ : rS} {D N : Nat → Nat} {F : hF} {A : hA} {d c s : Nat} {Q : wQ} (H : HS σ0 σ D N F A) {a1 : Int} (u4_8 : Int) (eu4_8 : F 4 8 = u4_8) (u4_9 : Int) (eu4_9 : F 4 9 = u4_9) (h0 : inr (a1)) (h1 : 0 ≤ (a1) ∧ (a1) ≤ 65536) (h2 : 0 ≤ (u4_8) ∧ (u4_8) ≤ (u4_9)) (k : ∀ (z : Int) σ Fₚ Aₚ, HS σ0 σ D N Fₚ Aₚ → SF [(4, 8), (4, 10), (4, 11)] F Fₚ → SA [] A Aₚ → ∀ y4_8 : Int, Fₚ 4 8 = y4_8 → ∀ y4_10 : Int, Fₚ 4 10 = y4_10 → (inrJ (z)) → ((u4_8) ≤ (y4_8) ∧ (y4_8) ≤ (u4_9)) → (-1 ≤ (z) ∧ (z) ≤ (a1)) → ((z) = -1 ∧ (y4_10) ≠ 0 ∨ 0 ≤ (z) ∧ (y4_10) = 0) → Q (some (J z)) σ c s) : Ew 337 (d + 2) 0 (rargs 0 [.ref (D 4), I a1]) [] σ c s Q := by
  have r1 : (0 : Int) ≤ u4_8 ∧ u4_8 ≤ 65536 := rngE (show (0 : Int) ≤ F 4 8 ∧ F 4 8 ≤ 65536 from H.frng 4 8) (show F 4 8 = u4_8 from (eu4_8))
  have r2 : (0 : Int) ≤ u4_9 ∧ u4_9 ≤ 65536 := rngE (show (0 : Int) ≤ F 4 9 ∧ F 4 9 ≤ 65536 from H.frng 4 9) (show F 4 9 = u4_9 from (eu4_9))
  refine Ew_of (pcₚ := 1) (fun _ => x_aload_n rfl rfl) ?_
  refine w_gI H (o := 4) (w := u4_8) rfl (H.perm 4 rfl) rfl rfl rfl (fun _ => rfl) (eu4_8) ?_
  refine Ew_of (pcₚ := 5) (fun _ => x_istore_n rfl) ?_
  refine Ew_of (pcₚ := 6) (fun _ => x_lconst (z := 0) rfl (by decide)) ?_
  refine Ew_of (pcₚ := 7) (fun _ => x_lstore_n rfl) ?_
  refine Ew_of (pcₚ := 8) (fun _ => x_iconst rfl) ?_
  refine Ew_of (pcₚ := 10) (fun _ => x_istore rfl) ?_
  have r3 : (-2147483648 : Int) ≤ F 4 10 ∧ F 4 10 ≤ 2147483647 := H.frng 4 10
  suffices hl10 : ∀ (m : Nat), ∀ (ls : rO) (σ : rS) (F_10 : hF) (A_10 : hA) (x10_3 : Int) (x10_5 : Int), rlook ls 0 = some (.ref (D 4)) → rlook ls 1 = some (I (a1)) → rlook ls 2 = some (I (u4_8)) → rlook ls 3 = some (J (x10_3)) → rlook ls 5 = some (I (x10_5)) → HS σ0 σ D N F_10 A_10 → SF [(4, 8), (4, 10), (4, 11)] F F_10 → SA [] A A_10 → ∀ y10_4_8 : Int, F_10 4 8 = y10_4_8 → ∀ y10_4_10 : Int, F_10 4 10 = y10_4_10 → (inrJ (x10_3)) → (inr (x10_5)) → (0 ≤ (x10_5) ∧ (x10_5) ≤ 5) → (0 ≤ (x10_3)) → ((y10_4_10) = 0 ∨ (y10_4_10) = (F 4 10)) → ((u4_8) ≤ (y10_4_8) ∧ (y10_4_8) ≤ (u4_9)) → ((x10_3) ≤ 40000000000 * (x10_5) ) → (5 - (x10_5)).toNat = m → Ew 337 (d + 2) 10 ls [] σ c s Q from
    hl10 _ _ σ _ _ (0) (0) (rk_o (rk2_o (rk_o (rfl) rfl rfl) rfl rfl) rfl rfl) (rk_o (rk2_o (rk_o (rfl) rfl rfl) rfl rfl) rfl rfl) (rk_o (rk2_o (rk_s) rfl rfl) rfl rfl) (rk_o (rk2_s) rfl rfl) (rk_s) H (SF_refl) (SA_refl) (u4_8) ((eu4_8)) (F 4 10) (rfl)  (show inrJ (0) from q_81) (show inr (0) from q_20) (show 0 ≤ (0) ∧ (0) ≤ 5 from q_765) (show 0 ≤ (0) from q_25) (show (F 4 10) = 0 ∨ (F 4 10) = (F 4 10) from q_760) (show (u4_8) ≤ (u4_8) ∧ (u4_8) ≤ (u4_9) from q_763 h2) (show (0) ≤ 40000000000 * (0) from q_764) rfl
  as_aux_lemma =>
  intro m
  induction m using Nat.strongRecOn with
  | _ m ih10 =>
    intro ls σ F_10 A_10 x10_3 x10_5 l10_0 l10_1 l10_2 l10_3 l10_5 H hS_10 hA_10 y10_4_8 ey10_4_8 y10_4_10 ey10_4_10  j10_0 j10_1 j10_2 j10_3 j10_4 j10_5 j10_6 hm10
    have r4 : (0 : Int) ≤ y10_4_8 ∧ y10_4_8 ≤ 65536 := rngE (show (0 : Int) ≤ F_10 4 8 ∧ F_10 4 8 ≤ 65536 from H.frng 4 8) (show F_10 4 8 = y10_4_8 from (ey10_4_8))
    have r5 : (-2147483648 : Int) ≤ y10_4_10 ∧ y10_4_10 ≤ 2147483647 := rngE (show (-2147483648 : Int) ≤ F_10 4 10 ∧ F_10 4 10 ≤ 2147483647 from H.frng 4 10) (show F_10 4 10 = y10_4_10 from (ey10_4_10))
    refine Ew_of (pcₚ := 12) (fun _ => x_iload rfl l10_5) ?_
    refine Ew_of (pcₚ := 13) (fun _ => x_iconst rfl) ?_
    refine w_icmpge (t := 93) rfl rfl (show inr (x10_5) from j10_1) (show inr (5) from q_509) (fun b6 => ?_) (fun b6 => ?_)
    · have hc107 : ∀ (ls : rO) (σ : rS) (F_c107 : hF) (A_c107 : hA) , rlook ls 0 = some (.ref (D 4)) → rlook ls 3 = some (J (x10_3)) → HS σ0 σ D N F_c107 A_c107 → SF [(4, 10), (4, 11)] F_10 F_c107 → SA [] A_10 A_c107 → ∀ yc107_4_10 : Int, F_c107 4 10 = yc107_4_10 → ((x10_3) ≤ (a1) ∨ (yc107_4_10) ≠ 0) → Ew 337 (d + 2) 107 ls [] σ c s Q := by
       as_aux_lemma =>
        intro  ls σ F_c107 A_c107  lc107_0 lc107_3 H hS_c107 hA_c107 yc107_4_10 eyc107_4_10  jc107_0
        have r7 : (-2147483648 : Int) ≤ yc107_4_10 ∧ yc107_4_10 ≤ 2147483647 := rngE (show (-2147483648 : Int) ≤ F_c107 4 10 ∧ F_c107 4 10 ≤ 2147483647 from H.frng 4 10) (show F_c107 4 10 = yc107_4_10 from (eyc107_4_10))
        refine Ew_of (pcₚ := 108) (fun _ => x_aload_n rfl lc107_0) ?_
        refine w_gI H (o := 4) (w := yc107_4_10) rfl (H.perm 4 rfl) rfl rfl rfl (fun _ => rfl) (eyc107_4_10) ?_
        refine w_ifne (t := 118) rfl rfl (show inr (yc107_4_10) from q_22 r7) (fun b8 => ?_) (fun b8 => ?_)
        · refine Ew_of (pcₚ := 121) (fun _ => x_ldc2 (z := -1) rfl (by decide)) ?_
          exact w_lreturn rfl (k ((-1)) σ _ _ H (SF_trans (SF_trans (SF_refl) hS_10 (any_sub rfl)) hS_c107 (any_sub rfl)) (SA_trans (SA_trans (SA_refl) hA_10 (any_subA rfl)) hA_c107 (any_subA rfl)) (y10_4_8) (((hS_c107 4 8 rfl).trans (ey10_4_8))) (yc107_4_10) ((eyc107_4_10)) (show inrJ ((-1)) from q_759) (show (u4_8) ≤ (y10_4_8) ∧ (y10_4_8) ≤ (u4_9) from j10_5) (show -1 ≤ ((-1)) ∧ ((-1)) ≤ a1 by first | exact q_767 h1 | omega) (show ((-1)) = -1 ∧ (yc107_4_10) ≠ 0 ∨ 0 ≤ ((-1)) ∧ (yc107_4_10) = 0 by first | exact q_766 b8 | omega))
        · refine Ew_of (pcₚ := 115) (fun _ => x_lload_n rfl lc107_3) ?_
          refine Ew_of (pcₚ := 121) (fun _ => x_goto rfl rfl) ?_
          exact w_lreturn rfl (k (x10_3) σ _ _ H (SF_trans (SF_trans (SF_refl) hS_10 (any_sub rfl)) hS_c107 (any_sub rfl)) (SA_trans (SA_trans (SA_refl) hA_10 (any_subA rfl)) hA_c107 (any_subA rfl)) (y10_4_8) (((hS_c107 4 8 rfl).trans (ey10_4_8))) (yc107_4_10) ((eyc107_4_10)) (show inrJ (x10_3) from j10_0) (show (u4_8) ≤ (y10_4_8) ∧ (y10_4_8) ≤ (u4_9) from j10_5) (show -1 ≤ (x10_3) ∧ (x10_3) ≤ a1 by omega) (show (x10_3) = -1 ∧ (yc107_4_10) ≠ 0 ∨ 0 ≤ (x10_3) ∧ (yc107_4_10) = 0 from q_768 b8 j10_3))
      refine Ew_of (pcₚ := 94) (fun _ => x_lload_n rfl l10_3) ?_
      refine Ew_of (pcₚ := 95) (fun _ => x_iload_n rfl l10_1) ?_
      refine w_i2l rfl (show inr (a1) from h0) ?_
      refine w_lcmp rfl (show inrJ (x10_3) from j10_0) (show inrJ (a1) from q_434 h1) (fun z9 gz9 gaz9 gbz9 => ?_)
      refine w_ifle (t := 107) rfl rfl (show inr (z9) from gz9) (fun b10 => ?_) (fun b10 => ?_)
      · exact hc107  _ σ _ _  (l10_0) (l10_3) H (SF_refl) (SA_refl) (y10_4_10) ((ey10_4_10))  (show (x10_3) ≤ (a1) ∨ (y10_4_10) ≠ 0 by omega)
      · refine Ew_of (pcₚ := 101) (fun _ => x_aload_n rfl l10_0) ?_
        refine Ew_of (pcₚ := 102) (fun _ => x_iconst rfl) ?_
        refine Ew_of (pcₚ := 103) (fun _ => x_iload_n rfl l10_2) ?_
        refine w_inv H (o := 4) rfl rfl rfl (H.perm 4 rfl) rfl rfl (by rfl) (M335 H (y10_4_10) ((ey10_4_10)) (show inr (3) from q_66) (show inr (u4_8) from q_12 r1) (fun z15 σ F11 A12 H hS13 hA14 y16 ey17 pz15_0 pz15_1 pz15_2 => ⟨rretB rfl pz15_0, ?_⟩))
        have r18 : (-2147483648 : Int) ≤ y16 ∧ y16 ≤ 2147483647 := rngE (show (-2147483648 : Int) ≤ F11 4 10 ∧ F11 4 10 ≤ 2147483647 from H.frng 4 10) (show F11 4 10 = y16 from (ey17))
        refine Ew_of (pcₚ := 107) (fun _ => x_pop rfl rfl) ?_
        exact hc107  _ σ _ _  (l10_0) (l10_3) H (SF_trans (SF_refl) hS13 (any_sub rfl)) (SA_trans (SA_refl) hA14 (any_subA rfl)) (y16) ((ey17))  (show (x10_3) ≤ (a1) ∨ (y16) ≠ 0 by omega)
    · refine Ew_of (pcₚ := 17) (fun _ => x_aload_n rfl l10_0) ?_
      refine Ew_of (pcₚ := 18) (fun _ => x_iconst rfl) ?_
      refine w_inv H (o := 4) rfl rfl rfl (H.perm 4 rfl) rfl rfl (by rfl) (M336 H (y10_4_8) ((ey10_4_8)) (u4_9) (((hS_10 4 9 rfl).trans (eu4_9))) (y10_4_10) ((ey10_4_10)) (show inr (1) from q_23) (show 0 ≤ (1) ∧ (1) ≤ 4 from q_770) (show 0 ≤ (y10_4_8) ∧ (y10_4_8) ≤ (u4_9) from q_769 j10_5 r4) (fun z23 σ F19 A20 H hS21 hA22 y24 ey25 y26 ey27 pz23_0 pz23_1 pz23_2 pz23_3 pz23_4 pz23_5 pz23_6 pz23_7 pz23_8 => ⟨rfl, ?_⟩))
      have r28 : (0 : Int) ≤ y24 ∧ y24 ≤ 65536 := rngE (show (0 : Int) ≤ F19 4 8 ∧ F19 4 8 ≤ 65536 from H.frng 4 8) (show F19 4 8 = y24 from (ey25))
      have r29 : (-2147483648 : Int) ≤ y26 ∧ y26 ≤ 2147483647 := rngE (show (-2147483648 : Int) ≤ F19 4 10 ∧ F19 4 10 ≤ 2147483647 from H.frng 4 10) (show F19 4 10 = y26 from (ey27))
      refine Ew_of (pcₚ := 23) (fun _ => x_lstore rfl) ?_
      refine Ew_of (pcₚ := 25) (fun _ => x_lload rfl rk2_s) ?_
      refine Ew_of (pcₚ := 26) (fun _ => x_lconst (z := 0) rfl (by decide)) ?_
      refine w_lcmp rfl (show inrJ (z23) from pz23_0) (show inrJ (0) from q_81) (fun z30 gz30 gaz30 gbz30 => ?_)
      refine w_ifge (t := 34) rfl rfl (show inr (z30) from gz30) (fun b31 => ?_) (fun b31 => ?_)
      · refine Ew_of (pcₚ := 36) (fun _ => x_iload rfl (rk2_o (l10_5) rfl rfl)) ?_
        refine Ew_of (pcₚ := 37) (fun _ => x_iconst rfl) ?_
        have hc60 : ∀ (ls : rO) (σ : rS) (F_c60 : hF) (A_c60 : hA) , rlook ls 0 = some (.ref (D 4)) → rlook ls 1 = some (I (a1)) → rlook ls 2 = some (I (u4_8)) → rlook ls 3 = some (J (x10_3)) → rlook ls 5 = some (I (x10_5)) → rlook ls 6 = some (J (z23)) → HS σ0 σ D N F_c60 A_c60 → SF [] F19 F_c60 → SA [] A20 A_c60 → (((x10_5) ≠ (4)) ∨ ((x10_5) = (4) ∧ (z23) ≤ (15))) → Ew 337 (d + 2) 60 ls [] σ c s Q := by
         as_aux_lemma =>
          intro  ls σ F_c60 A_c60  lc60_0 lc60_1 lc60_2 lc60_3 lc60_5 lc60_6 H hS_c60 hA_c60   jc60_0
          refine Ew_of (pcₚ := 61) (fun _ => x_lload_n rfl lc60_3) ?_
          refine Ew_of (pcₚ := 63) (fun _ => x_lload rfl lc60_6) ?_
          refine Ew_of (pcₚ := 66) (fun _ => x_ldc2 (z := 127) rfl (by decide)) ?_
          refine w_land rfl (show inrJ (z23) from pz23_0) (show inrJ (127) from q_771) (fun z32 gz32 gaz32 gbz32 => ?_)
          refine Ew_of (pcₚ := 69) (fun _ => x_bipush (z := 7) rfl (by decide)) ?_
          refine Ew_of (pcₚ := 71) (fun _ => x_iload rfl lc60_5) ?_
          refine w_imul rfl ?_
          have hp := p2_pos (7 * (x10_5))
          have : p2 (7 * (x10_5)) ≤ p2 28 := p2_mono (by omega)
          have : p2 28 = 268435456 := by decide
          have hm : (z32) * p2 (7 * (x10_5)) ≤ 127 * p2 (7 * (x10_5)) := Int.mul_le_mul_of_nonneg_right (by omega) (by omega)
          have hm0 : 0 ≤ (z32) * p2 (7 * (x10_5)) := Int.mul_nonneg (by omega) (by omega)
          refine w_lshlX rfl (fun z33 gz33 dz33 => ?_)
          refine w_lorN rfl (show inrJ (x10_3) from j10_0) (show inrJ (z33) by omega) (fun z34 gz34 dz34 => ?_)
          refine Ew_of (pcₚ := 75) (fun _ => x_lstore_n rfl) ?_
          refine Ew_of (pcₚ := 77) (fun _ => x_lload rfl (rk2_o (lc60_6) rfl rfl)) ?_
          refine Ew_of (pcₚ := 80) (fun _ => x_ldc2 (z := 128) rfl (by decide)) ?_
          refine w_lcmp rfl (show inrJ (z23) from pz23_0) (show inrJ (128) from q_772) (fun z35 gz35 gaz35 gbz35 => ?_)
          refine w_ifge (t := 87) rfl rfl (show inr (z35) from gz35) (fun b36 => ?_) (fun b36 => ?_)
          · refine Ew_of (pcₚ := 90) (fun _ => x_iinc (len := 3) rfl (rk2_o (lc60_5) rfl rfl)) ?_
            refine Ew_of (pcₚ := 10) (fun _ => x_goto rfl rfl) ?_
            exact ih10 _ (msE hm10 q_775 (q_776 b6)) _ σ _ _ (z34) ((x10_5 + 1)) (rk_o (rk2_o (lc60_0) rfl rfl) rfl rfl) (rk_o (rk2_o (lc60_1) rfl rfl) rfl rfl) (rk_o (rk2_o (lc60_2) rfl rfl) rfl rfl) (rk_o (rk2_s) rfl rfl) (rk_s) H (SF_trans (SF_trans (hS_10) hS21 (any_sub rfl)) hS_c60 (any_sub rfl)) (SA_trans (SA_trans (hA_10) hA22 (any_subA rfl)) hA_c60 (any_subA rfl)) (y24) (((hS_c60 4 8 rfl).trans (ey25))) (y26) (((hS_c60 4 10 rfl).trans (ey27)))  (show inrJ (z34) by omega) (show inr ((x10_5 + 1)) from q_774 b6 j10_2) (show 0 ≤ ((x10_5 + 1)) ∧ ((x10_5 + 1)) ≤ 5 from q_773 b6 j10_2) (show 0 ≤ (z34) by omega) (show (y26) = 0 ∨ (y26) = (F 4 10) by omega) (show (u4_8) ≤ (y24) ∧ (y24) ≤ (u4_9) from q_542 j10_5 pz23_1) (show (z34) ≤ 40000000000 * ((x10_5 + 1)) by omega) rfl
          · refine Ew_of (pcₚ := 93) (fun _ => x_goto rfl rfl) ?_
            have hc107 : ∀ (ls : rO) (σ : rS) (F_c107 : hF) (A_c107 : hA) , rlook ls 0 = some (.ref (D 4)) → rlook ls 3 = some (J (z34)) → HS σ0 σ D N F_c107 A_c107 → SF [(4, 10), (4, 11)] F_c60 F_c107 → SA [] A_c60 A_c107 → ∀ yc107_4_10 : Int, F_c107 4 10 = yc107_4_10 → ((z34) ≤ (a1) ∨ (yc107_4_10) ≠ 0) → Ew 337 (d + 2) 107 ls [] σ c s Q := by
             as_aux_lemma =>
              intro  ls σ F_c107 A_c107  lc107_0 lc107_3 H hS_c107 hA_c107 yc107_4_10 eyc107_4_10  jc107_0
              have r37 : (-2147483648 : Int) ≤ yc107_4_10 ∧ yc107_4_10 ≤ 2147483647 := rngE (show (-2147483648 : Int) ≤ F_c107 4 10 ∧ F_c107 4 10 ≤ 2147483647 from H.frng 4 10) (show F_c107 4 10 = yc107_4_10 from (eyc107_4_10))
              refine Ew_of (pcₚ := 108) (fun _ => x_aload_n rfl lc107_0) ?_
              refine w_gI H (o := 4) (w := yc107_4_10) rfl (H.perm 4 rfl) rfl rfl rfl (fun _ => rfl) (eyc107_4_10) ?_
              refine w_ifne (t := 118) rfl rfl (show inr (yc107_4_10) from q_22 r37) (fun b38 => ?_) (fun b38 => ?_)
              · refine Ew_of (pcₚ := 121) (fun _ => x_ldc2 (z := -1) rfl (by decide)) ?_
                exact w_lreturn rfl (k ((-1)) σ _ _ H (SF_trans (SF_trans (SF_trans (SF_trans (SF_refl) hS_10 (any_sub rfl)) hS21 (any_sub rfl)) hS_c60 (any_sub rfl)) hS_c107 (any_sub rfl)) (SA_trans (SA_trans (SA_trans (SA_trans (SA_refl) hA_10 (any_subA rfl)) hA22 (any_subA rfl)) hA_c60 (any_subA rfl)) hA_c107 (any_subA rfl)) (y24) ((((hS_c107 4 8 rfl).trans (hS_c60 4 8 rfl)).trans (ey25))) (yc107_4_10) ((eyc107_4_10)) (show inrJ ((-1)) from q_759) (show (u4_8) ≤ (y24) ∧ (y24) ≤ (u4_9) from q_542 j10_5 pz23_1) (show -1 ≤ ((-1)) ∧ ((-1)) ≤ a1 by first | exact q_767 h1 | omega) (show ((-1)) = -1 ∧ (yc107_4_10) ≠ 0 ∨ 0 ≤ ((-1)) ∧ (yc107_4_10) = 0 by first | exact q_766 b38 | omega))
              · refine Ew_of (pcₚ := 115) (fun _ => x_lload_n rfl lc107_3) ?_
                refine Ew_of (pcₚ := 121) (fun _ => x_goto rfl rfl) ?_
                exact w_lreturn rfl (k (z34) σ _ _ H (SF_trans (SF_trans (SF_trans (SF_trans (SF_refl) hS_10 (any_sub rfl)) hS21 (any_sub rfl)) hS_c60 (any_sub rfl)) hS_c107 (any_sub rfl)) (SA_trans (SA_trans (SA_trans (SA_trans (SA_refl) hA_10 (any_subA rfl)) hA22 (any_subA rfl)) hA_c60 (any_subA rfl)) hA_c107 (any_subA rfl)) (y24) ((((hS_c107 4 8 rfl).trans (hS_c60 4 8 rfl)).trans (ey25))) (yc107_4_10) ((eyc107_4_10)) (show inrJ (z34) by omega) (show (u4_8) ≤ (y24) ∧ (y24) ≤ (u4_9) from q_542 j10_5 pz23_1) (show -1 ≤ (z34) ∧ (z34) ≤ a1 by omega) (show (z34) = -1 ∧ (yc107_4_10) ≠ 0 ∨ 0 ≤ (z34) ∧ (yc107_4_10) = 0 by omega))
            refine Ew_of (pcₚ := 94) (fun _ => x_lload_n rfl rk2_s) ?_
            refine Ew_of (pcₚ := 95) (fun _ => x_iload_n rfl (rk2_o (lc60_1) rfl rfl)) ?_
            refine w_i2l rfl (show inr (a1) from h0) ?_
            refine w_lcmp rfl (show inrJ (z34) by omega) (show inrJ (a1) from q_434 h1) (fun z39 gz39 gaz39 gbz39 => ?_)
            refine w_ifle (t := 107) rfl rfl (show inr (z39) from gz39) (fun b40 => ?_) (fun b40 => ?_)
            · exact hc107  _ σ _ _  (rk2_o (lc60_0) rfl rfl) (rk2_s) H (SF_refl) (SA_refl) (y26) (((hS_c60 4 10 rfl).trans (ey27)))  (show (z34) ≤ (a1) ∨ (y26) ≠ 0 by omega)
            · refine Ew_of (pcₚ := 101) (fun _ => x_aload_n rfl (rk2_o (lc60_0) rfl rfl)) ?_
              refine Ew_of (pcₚ := 102) (fun _ => x_iconst rfl) ?_
              refine Ew_of (pcₚ := 103) (fun _ => x_iload_n rfl (rk2_o (lc60_2) rfl rfl)) ?_
              refine w_inv H (o := 4) rfl rfl rfl (H.perm 4 rfl) rfl rfl (by rfl) (M335 H (y26) (((hS_c60 4 10 rfl).trans (ey27))) (show inr (3) from q_66) (show inr (u4_8) from q_12 r1) (fun z45 σ F41 A42 H hS43 hA44 y46 ey47 pz45_0 pz45_1 pz45_2 => ⟨rretB rfl pz45_0, ?_⟩))
              have r48 : (-2147483648 : Int) ≤ y46 ∧ y46 ≤ 2147483647 := rngE (show (-2147483648 : Int) ≤ F41 4 10 ∧ F41 4 10 ≤ 2147483647 from H.frng 4 10) (show F41 4 10 = y46 from (ey47))
              refine Ew_of (pcₚ := 107) (fun _ => x_pop rfl rfl) ?_
              exact hc107  _ σ _ _  (rk2_o (lc60_0) rfl rfl) (rk2_s) H (SF_trans (SF_refl) hS43 (any_sub rfl)) (SA_trans (SA_refl) hA44 (any_subA rfl)) (y46) ((ey47))  (show (z34) ≤ (a1) ∨ (y46) ≠ 0 by omega)
        refine w_icmpne (t := 60) rfl rfl (show inr (x10_5) from j10_1) (show inr (4) from q_2) (fun b49 => ?_) (fun b49 => ?_)
        · exact hc60  _ σ _ _  (rk2_o (l10_0) rfl rfl) (rk2_o (l10_1) rfl rfl) (rk2_o (l10_2) rfl rfl) (rk2_o (l10_3) rfl rfl) (rk2_o (l10_5) rfl rfl) (rk2_s) H (SF_refl) (SA_refl)   (show ((x10_5) ≠ (4)) ∨ ((x10_5) = (4) ∧ (z23) ≤ (15)) from q_777 b49)
        · refine Ew_of (pcₚ := 42) (fun _ => x_lload rfl rk2_s) ?_
          refine Ew_of (pcₚ := 45) (fun _ => x_ldc2 (z := 15) rfl (by decide)) ?_
          refine w_lcmp rfl (show inrJ (z23) from pz23_0) (show inrJ (15) from q_778) (fun z50 gz50 gaz50 gbz50 => ?_)
          refine w_ifle (t := 60) rfl rfl (show inr (z50) from gz50) (fun b51 => ?_) (fun b51 => ?_)
          · exact hc60  _ σ _ _  (rk2_o (l10_0) rfl rfl) (rk2_o (l10_1) rfl rfl) (rk2_o (l10_2) rfl rfl) (rk2_o (l10_3) rfl rfl) (rk2_o (l10_5) rfl rfl) (rk2_s) H (SF_refl) (SA_refl)   (show ((x10_5) ≠ (4)) ∨ ((x10_5) = (4) ∧ (z23) ≤ (15)) by omega)
          · refine Ew_of (pcₚ := 50) (fun _ => x_aload_n rfl (rk2_o (l10_0) rfl rfl)) ?_
            refine Ew_of (pcₚ := 51) (fun _ => x_iconst rfl) ?_
            refine Ew_of (pcₚ := 52) (fun _ => x_iload_n rfl (rk2_o (l10_2) rfl rfl)) ?_
            refine w_inv H (o := 4) rfl rfl rfl (H.perm 4 rfl) rfl rfl (by rfl) (M335 H (y26) ((ey27)) (show inr (2) from q_55) (show inr (u4_8) from q_12 r1) (fun z56 σ F52 A53 H hS54 hA55 y57 ey58 pz56_0 pz56_1 pz56_2 => ⟨rretB rfl pz56_0, ?_⟩))
            have r59 : (-2147483648 : Int) ≤ y57 ∧ y57 ≤ 2147483647 := rngE (show (-2147483648 : Int) ≤ F52 4 10 ∧ F52 4 10 ≤ 2147483647 from H.frng 4 10) (show F52 4 10 = y57 from (ey58))
            refine Ew_of (pcₚ := 56) (fun _ => x_pop rfl rfl) ?_
            refine Ew_of (pcₚ := 59) (fun _ => x_ldc2 (z := -1) rfl (by decide)) ?_
            exact w_lreturn rfl (k ((-1)) σ _ _ H (SF_trans (SF_trans (SF_trans (SF_refl) hS_10 (any_sub rfl)) hS21 (any_sub rfl)) hS54 (any_sub rfl)) (SA_trans (SA_trans (SA_trans (SA_refl) hA_10 (any_subA rfl)) hA22 (any_subA rfl)) hA55 (any_subA rfl)) (y24) (((hS54 4 8 rfl).trans (ey25))) (y57) ((ey58)) (show inrJ ((-1)) from q_759) (show (u4_8) ≤ (y24) ∧ (y24) ≤ (u4_9) from q_542 j10_5 pz23_1) (show -1 ≤ ((-1)) ∧ ((-1)) ≤ a1 by first | exact q_767 h1 | omega) (show ((-1)) = -1 ∧ (y57) ≠ 0 ∨ 0 ≤ ((-1)) ∧ (y57) = 0 by omega))
      · refine Ew_of (pcₚ := 33) (fun _ => x_ldc2 (z := -1) rfl (by decide)) ?_
        exact w_lreturn rfl (k ((-1)) σ _ _ H (SF_trans (SF_trans (SF_refl) hS_10 (any_sub rfl)) hS21 (any_sub rfl)) (SA_trans (SA_trans (SA_refl) hA_10 (any_subA rfl)) hA22 (any_subA rfl)) (y24) ((ey25)) (y26) ((ey27)) (show inrJ ((-1)) from q_759) (show (u4_8) ≤ (y24) ∧ (y24) ≤ (u4_9) from q_542 j10_5 pz23_1) (show -1 ≤ ((-1)) ∧ ((-1)) ≤ a1 by first | exact q_767 h1 | omega) (show ((-1)) = -1 ∧ (y26) ≠ 0 ∨ 0 ≤ ((-1)) ∧ (y26) = 0 by omega))
/-- Tags.fitting -/
theorem M338 {σ0 σ : rS} {D N : Nat → Nat} {F : hF} {A : hA} {d c s : Nat} {Q : wQ} (H : HS σ0 σ D N F A) {a1 a2 a3 a4 a5 : Int} (u4_2 : Int) (eu4_2 : F 4 2 = u4_2) (u4_10 : Int) (eu4_10 : F 4 10 = u4_10) (h0 : inr (a1)) (h1 : inr (a2)) (h2 : inrJ (a3)) (h3 : inrJ (a4)) (h4 : inrJ (a5)) (h5 : 0 ≤ (a2) ∧ (a2) ≤ (u4_2) ∧ (u4_2) ≤ 70000) (h6 : -1000 ≤ (a3) ∧ (a3) ≤ 10000000000) (h7 : 0 ≤ (a3) ∨ (u4_10) ≠ 0) (h8 : 0 ≤ (a4) ∧ (a4) ≤ 100) (h9 : -1 ≤ (a5) ∧ (a5) ≤ 65536) (k : ∀ (z : Int) σ Fₚ Aₚ, HS σ0 σ D N Fₚ Aₚ → SF [(4, 10), (4, 11)] F Fₚ → SA [] A Aₚ → ∀ y4_10 : Int, Fₚ 4 10 = y4_10 → ((z) = 0 ∨ (z) = 1) → ((z) = 1 → (u4_10) = 0 ∧ (y4_10) = 0 ∧ 1 ≤ (a3) ∧ (a3) ≤ (u4_2) - (a2) ∧ (u4_2) - (a2) + (a4) ≤ (a5)) → ((u4_10) = 0 ∨ (y4_10) = (u4_10)) → Q (some (I z)) σ c s) : Ew 338 (d + 1) 0 (rargs 0 [.ref (D 4), I a1, I a2, J a3, J a4, J a5]) [] σ c s Q := by
  have r1 : (-2147483648 : Int) ≤ u4_2 ∧ u4_2 ≤ 2147483647 := rngE (show (-2147483648 : Int) ≤ F 4 2 ∧ F 4 2 ≤ 2147483647 from H.frng 4 2) (show F 4 2 = u4_2 from (eu4_2))
  have r2 : (-2147483648 : Int) ≤ u4_10 ∧ u4_10 ≤ 2147483647 := rngE (show (-2147483648 : Int) ≤ F 4 10 ∧ F 4 10 ≤ 2147483647 from H.frng 4 10) (show F 4 10 = u4_10 from (eu4_10))
  refine Ew_of (pcₚ := 1) (fun _ => x_aload_n rfl rfl) ?_
  refine w_gI H (o := 4) (w := u4_10) rfl (H.perm 4 rfl) rfl rfl rfl (fun _ => rfl) (eu4_10) ?_
  refine w_ifeq (t := 9) rfl rfl (show inr (u4_10) from q_22 r2) (fun b3 => ?_) (fun b3 => ?_)
  · refine Ew_of (pcₚ := 10) (fun _ => x_aload_n rfl rfl) ?_
    refine w_gI H (o := 4) (w := u4_2) rfl (H.perm 4 rfl) rfl rfl rfl (fun _ => rfl) (eu4_2) ?_
    refine Ew_of (pcₚ := 14) (fun _ => x_iload_n rfl rfl) ?_
    refine w_isub rfl ?_
    refine Ew_of (pcₚ := 17) (fun _ => x_istore rfl) ?_
    refine Ew_of (pcₚ := 18) (fun _ => x_lload_n rfl (rk_o (rfl) rfl rfl)) ?_
    refine Ew_of (pcₚ := 19) (fun _ => x_lconst (z := 0) rfl (by decide)) ?_
    refine w_lcmp rfl (show inrJ (a3) from h2) (show inrJ (0) from q_81) (fun z4 gz4 gaz4 gbz4 => ?_)
    refine w_ifeq (t := 31) rfl rfl (show inr (z4) from gz4) (fun b5 => ?_) (fun b5 => ?_)
    · refine Ew_of (pcₚ := 32) (fun _ => x_aload_n rfl (rk_o (rfl) rfl rfl)) ?_
      refine Ew_of (pcₚ := 33) (fun _ => x_iconst rfl) ?_
      refine Ew_of (pcₚ := 34) (fun _ => x_iload_n rfl (rk_o (rfl) rfl rfl)) ?_
      refine w_inv H (o := 4) rfl rfl rfl (H.perm 4 rfl) rfl rfl (by rfl) (M335 H (u4_10) ((eu4_10)) (show inr (4) from q_2) (show inr (a1) from h0) (fun z10 σ F6 A7 H hS8 hA9 y11 ey12 pz10_0 pz10_1 pz10_2 => ⟨rretB rfl pz10_0, ?_⟩))
      have r13 : (-2147483648 : Int) ≤ y11 ∧ y11 ≤ 2147483647 := rngE (show (-2147483648 : Int) ≤ F6 4 10 ∧ F6 4 10 ≤ 2147483647 from H.frng 4 10) (show F6 4 10 = y11 from (ey12))
      exact w_ireturn rfl (k (z10) σ _ _ H (SF_trans (SF_refl) hS8 (any_sub rfl)) (SA_trans (SA_refl) hA9 (any_subA rfl)) (y11) ((ey12)) (show (z10) = 0 ∨ (z10) = 1 from pz10_0) (show (z10) = 1 → (u4_10) = 0 ∧ (y11) = 0 ∧ 1 ≤ a3 ∧ a3 ≤ (u4_2) - a2 ∧ (u4_2) - a2 + a4 ≤ a5 from q_779 b3 h5 h6 h8 h9 pz10_1 r13) (show (u4_10) = 0 ∨ (y11) = (u4_10) from q_756 b3))
    · refine Ew_of (pcₚ := 24) (fun _ => x_lload_n rfl (rk_o (rfl) rfl rfl)) ?_
      refine Ew_of (pcₚ := 26) (fun _ => x_iload rfl rk_s) ?_
      refine w_i2l rfl (show inr ((u4_2 - a2)) from q_331 h5) ?_
      refine w_lcmp rfl (show inrJ (a3) from h2) (show inrJ ((u4_2 - a2)) from q_780 h5) (fun z14 gz14 gaz14 gbz14 => ?_)
      refine w_ifle (t := 38) rfl rfl (show inr (z14) from gz14) (fun b15 => ?_) (fun b15 => ?_)
      · refine Ew_of (pcₚ := 40) (fun _ => x_iload rfl rk_s) ?_
        refine w_i2l rfl (show inr ((u4_2 - a2)) from q_331 h5) ?_
        refine Ew_of (pcₚ := 43) (fun _ => x_lload rfl (rk_o (rfl) rfl rfl)) ?_
        refine w_ladd rfl ?_
        refine Ew_of (pcₚ := 46) (fun _ => x_lload rfl (rk_o (rfl) rfl rfl)) ?_
        refine w_lcmp rfl (show inrJ (((u4_2 - a2) + a4)) by omega) (show inrJ (a5) from h4) (fun z16 gz16 gaz16 gbz16 => ?_)
        refine w_ifle (t := 59) rfl rfl (show inr (z16) from gz16) (fun b17 => ?_) (fun b17 => ?_)
        · refine Ew_of (pcₚ := 60) (fun _ => x_iconst rfl) ?_
          refine Ew_of (pcₚ := 64) (fun _ => x_goto rfl rfl) ?_
          exact w_ireturn rfl (k (1) σ _ _ H (SF_refl) (SA_refl) (u4_10) ((eu4_10)) (show (1) = 0 ∨ (1) = 1 by first | exact q_5 | omega) (show (1) = 1 → (u4_10) = 0 ∧ (u4_10) = 0 ∧ 1 ≤ a3 ∧ a3 ≤ (u4_2) - a2 ∧ (u4_2) - a2 + a4 ≤ a5 by omega) (show (u4_10) = 0 ∨ (u4_10) = (u4_10) from q_749 b3))
        · refine Ew_of (pcₚ := 51) (fun _ => x_aload_n rfl (rk_o (rfl) rfl rfl)) ?_
          refine Ew_of (pcₚ := 52) (fun _ => x_iconst rfl) ?_
          refine Ew_of (pcₚ := 53) (fun _ => x_iload_n rfl (rk_o (rfl) rfl rfl)) ?_
          refine w_inv H (o := 4) rfl rfl rfl (H.perm 4 rfl) rfl rfl (by rfl) (M335 H (u4_10) ((eu4_10)) (show inr (5) from q_509) (show inr (a1) from h0) (fun z22 σ F18 A19 H hS20 hA21 y23 ey24 pz22_0 pz22_1 pz22_2 => ⟨rretB rfl pz22_0, ?_⟩))
          have r25 : (-2147483648 : Int) ≤ y23 ∧ y23 ≤ 2147483647 := rngE (show (-2147483648 : Int) ≤ F18 4 10 ∧ F18 4 10 ≤ 2147483647 from H.frng 4 10) (show F18 4 10 = y23 from (ey24))
          refine w_ifeq (t := 63) rfl rfl (show inr (z22) from q_781 pz22_1) (fun b26 => ?_) (fun b26 => ?_)
          · refine Ew_of (pcₚ := 64) (fun _ => x_iconst rfl) ?_
            exact w_ireturn rfl (k (0) σ _ _ H (SF_trans (SF_refl) hS20 (any_sub rfl)) (SA_trans (SA_refl) hA21 (any_subA rfl)) (y23) ((ey24)) (show (0) = 0 ∨ (0) = 1 by first | exact q_1 | omega) (show (0) = 1 → (u4_10) = 0 ∧ (y23) = 0 ∧ 1 ≤ a3 ∧ a3 ≤ (u4_2) - a2 ∧ (u4_2) - a2 + a4 ≤ a5 by first | exact q_782 b3 h5 h6 h8 h9 r25 | omega) (show (u4_10) = 0 ∨ (y23) = (u4_10) from q_756 b3))
          · refine Ew_of (pcₚ := 60) (fun _ => x_iconst rfl) ?_
            refine Ew_of (pcₚ := 64) (fun _ => x_goto rfl rfl) ?_
            exact w_ireturn rfl (k (1) σ _ _ H (SF_trans (SF_refl) hS20 (any_sub rfl)) (SA_trans (SA_refl) hA21 (any_subA rfl)) (y23) ((ey24)) (show (1) = 0 ∨ (1) = 1 by first | exact q_5 | omega) (show (1) = 1 → (u4_10) = 0 ∧ (y23) = 0 ∧ 1 ≤ a3 ∧ a3 ≤ (u4_2) - a2 ∧ (u4_2) - a2 + a4 ≤ a5 by omega) (show (u4_10) = 0 ∨ (y23) = (u4_10) from q_756 b3))
      · refine Ew_of (pcₚ := 32) (fun _ => x_aload_n rfl (rk_o (rfl) rfl rfl)) ?_
        refine Ew_of (pcₚ := 33) (fun _ => x_iconst rfl) ?_
        refine Ew_of (pcₚ := 34) (fun _ => x_iload_n rfl (rk_o (rfl) rfl rfl)) ?_
        refine w_inv H (o := 4) rfl rfl rfl (H.perm 4 rfl) rfl rfl (by rfl) (M335 H (u4_10) ((eu4_10)) (show inr (4) from q_2) (show inr (a1) from h0) (fun z31 σ F27 A28 H hS29 hA30 y32 ey33 pz31_0 pz31_1 pz31_2 => ⟨rretB rfl pz31_0, ?_⟩))
        have r34 : (-2147483648 : Int) ≤ y32 ∧ y32 ≤ 2147483647 := rngE (show (-2147483648 : Int) ≤ F27 4 10 ∧ F27 4 10 ≤ 2147483647 from H.frng 4 10) (show F27 4 10 = y32 from (ey33))
        exact w_ireturn rfl (k (z31) σ _ _ H (SF_trans (SF_refl) hS29 (any_sub rfl)) (SA_trans (SA_refl) hA30 (any_subA rfl)) (y32) ((ey33)) (show (z31) = 0 ∨ (z31) = 1 from pz31_0) (show (z31) = 1 → (u4_10) = 0 ∧ (y32) = 0 ∧ 1 ≤ a3 ∧ a3 ≤ (u4_2) - a2 ∧ (u4_2) - a2 + a4 ≤ a5 from q_779 b3 h5 h6 h8 h9 pz31_1 r34) (show (u4_10) = 0 ∨ (y32) = (u4_10) from q_756 b3))
  · refine Ew_of (pcₚ := 8) (fun _ => x_iconst rfl) ?_
    exact w_ireturn rfl (k (0) σ _ _ H (SF_refl) (SA_refl) (u4_10) ((eu4_10)) (show (0) = 0 ∨ (0) = 1 by first | exact q_1 | omega) (show (0) = 1 → (u4_10) = 0 ∧ (u4_10) = 0 ∧ 1 ≤ a3 ∧ a3 ≤ (u4_2) - a2 ∧ (u4_2) - a2 + a4 ≤ a5 by first | exact q_783 h5 h6 h8 h9 r2 | omega) (show (u4_10) = 0 ∨ (u4_10) = (u4_10) from q_760))
/-- Tags.literals -/
theorem M339 {σ0 σ : rS} {D N : Nat → Nat} {F : hF} {A : hA} {d c s : Nat} {Q : wQ} (H : HS σ0 σ D N F A) {a1 a2 a3 a4 : Int} (u4_2 : Int) (eu4_2 : F 4 2 = u4_2) (u4_8 : Int) (eu4_8 : F 4 8 = u4_8) (u4_9 : Int) (eu4_9 : F 4 9 = u4_9) (u4_10 : Int) (eu4_10 : F 4 10 = u4_10) (h0 : inr (a1)) (h1 : inr (a2)) (h2 : inr (a3)) (h3 : inrJ (a4)) (h4 : 0 ≤ (u4_8) ∧ (u4_8) ≤ (u4_9)) (h5 : 0 ≤ (a2) ∧ (a2) ≤ (u4_2) ∧ (u4_2) ≤ (a2) + (a4) ∧ (a2) + (a4) ≤ 65536) (h6 : 0 ≤ (a3) ∧ (a3) ≤ 63) (h7 : (u4_10) = 0) (k : ∀ σ Fₚ Aₚ, HS σ0 σ D N Fₚ Aₚ → SF [(4, 2), (4, 8), (4, 10), (4, 11)] F Fₚ → SA [23] A Aₚ → ∀ y4_2 : Int, Fₚ 4 2 = y4_2 → ∀ y4_8 : Int, Fₚ 4 8 = y4_8 → ((u4_8) ≤ (y4_8) ∧ (y4_8) ≤ (u4_9)) → ((u4_2) ≤ (y4_2) ∧ (y4_2) ≤ (a2) + (a4)) → Q none σ c s) : Ew 339 (d + 2) 0 (rargs 0 [.ref (D 4), I a1, I a2, I a3, J a4]) [] σ c s Q := by
  have r1 : (-2147483648 : Int) ≤ u4_2 ∧ u4_2 ≤ 2147483647 := rngE (show (-2147483648 : Int) ≤ F 4 2 ∧ F 4 2 ≤ 2147483647 from H.frng 4 2) (show F 4 2 = u4_2 from (eu4_2))
  have r2 : (0 : Int) ≤ u4_8 ∧ u4_8 ≤ 65536 := rngE (show (0 : Int) ≤ F 4 8 ∧ F 4 8 ≤ 65536 from H.frng 4 8) (show F 4 8 = u4_8 from (eu4_8))
  have r3 : (0 : Int) ≤ u4_9 ∧ u4_9 ≤ 65536 := rngE (show (0 : Int) ≤ F 4 9 ∧ F 4 9 ≤ 65536 from H.frng 4 9) (show F 4 9 = u4_9 from (eu4_9))
  have r4 : (-2147483648 : Int) ≤ u4_10 ∧ u4_10 ≤ 2147483647 := rngE (show (-2147483648 : Int) ≤ F 4 10 ∧ F 4 10 ≤ 2147483647 from H.frng 4 10) (show F 4 10 = u4_10 from (eu4_10))
  have hc23 : ∀ (tc23_0 : Int), ∀ (ls : rO) (σ : rS) (F_c23 : hF) (A_c23 : hA) , rlook ls 0 = some (.ref (D 4)) → rlook ls 1 = some (I (a1)) → rlook ls 2 = some (I (a2)) → rlook ls 4 = some (J (a4)) → HS σ0 σ D N F_c23 A_c23 → SF [(4, 8), (4, 10), (4, 11)] F F_c23 → SA [] A A_c23 → ∀ yc23_4_8 : Int, F_c23 4 8 = yc23_4_8 → ∀ yc23_4_10 : Int, F_c23 4 10 = yc23_4_10 → (inrJ (tc23_0)) → (1 ≤ (tc23_0) ∧ (tc23_0) ≤ 4294967296 ∨ (yc23_4_10) ≠ 0) → (0 ≤ (tc23_0) ∧ (tc23_0) ≤ 4294967296) → ((u4_8) ≤ (yc23_4_8) ∧ (yc23_4_8) ≤ (u4_9)) → Ew 339 (d + 2) 23 ls [J (tc23_0)] σ c s Q := by
   as_aux_lemma =>
    intro tc23_0 ls σ F_c23 A_c23  lc23_0 lc23_1 lc23_2 lc23_4 H hS_c23 hA_c23 yc23_4_8 eyc23_4_8 yc23_4_10 eyc23_4_10  jc23_0 jc23_1 jc23_2 jc23_3
    have r5 : (0 : Int) ≤ yc23_4_8 ∧ yc23_4_8 ≤ 65536 := rngE (show (0 : Int) ≤ F_c23 4 8 ∧ F_c23 4 8 ≤ 65536 from H.frng 4 8) (show F_c23 4 8 = yc23_4_8 from (eyc23_4_8))
    have r6 : (-2147483648 : Int) ≤ yc23_4_10 ∧ yc23_4_10 ≤ 2147483647 := rngE (show (-2147483648 : Int) ≤ F_c23 4 10 ∧ F_c23 4 10 ≤ 2147483647 from H.frng 4 10) (show F_c23 4 10 = yc23_4_10 from (eyc23_4_10))
    refine Ew_of (pcₚ := 25) (fun _ => x_lstore rfl) ?_
    refine Ew_of (pcₚ := 26) (fun _ => x_aload_n rfl (rk2_o (lc23_0) rfl rfl)) ?_
    refine w_gI H (o := 4) (w := yc23_4_10) rfl (H.perm 4 rfl) rfl rfl rfl (fun _ => rfl) (eyc23_4_10) ?_
    refine w_ifeq (t := 33) rfl rfl (show inr (yc23_4_10) from q_22 r6) (fun b7 => ?_) (fun b7 => ?_)
    · refine Ew_of (pcₚ := 34) (fun _ => x_aload_n rfl (rk2_o (lc23_0) rfl rfl)) ?_
      refine w_gI H (o := 4) (w := u4_2) rfl (H.perm 4 rfl) rfl rfl rfl (fun _ => rfl) ((hS_c23 4 2 rfl).trans (eu4_2)) ?_
      refine Ew_of (pcₚ := 38) (fun _ => x_iload_n rfl (rk2_o (lc23_2) rfl rfl)) ?_
      refine w_isub rfl ?_
      refine w_i2l rfl (show inr ((u4_2 - a2)) from q_784 h5) ?_
      refine Ew_of (pcₚ := 42) (fun _ => x_lload rfl rk2_s) ?_
      refine w_ladd rfl ?_
      refine Ew_of (pcₚ := 45) (fun _ => x_lload rfl (rk2_o (lc23_4) rfl rfl)) ?_
      refine w_lcmp rfl (show inrJ (((u4_2 - a2) + tc23_0)) by omega) (show inrJ (a4) from h3) (fun z8 gz8 gaz8 gbz8 => ?_)
      refine w_ifle (t := 57) rfl rfl (show inr (z8) from gz8) (fun b9 => ?_) (fun b9 => ?_)
      · refine Ew_of (pcₚ := 58) (fun _ => x_lconst (z := 0) rfl (by decide)) ?_
        refine Ew_of (pcₚ := 60) (fun _ => x_lstore rfl) ?_
        suffices hl60 : ∀ (m : Nat), ∀ (ls : rO) (σ : rS) (F_60 : hF) (A_60 : hA) (x60_8 : Int), rlook ls 0 = some (.ref (D 4)) → rlook ls 6 = some (J (tc23_0)) → rlook ls 8 = some (J (x60_8)) → HS σ0 σ D N F_60 A_60 → SF [(4, 2), (4, 8), (4, 10), (4, 11)] F_c23 F_60 → SA [23] A_c23 A_60 → ∀ y60_4_2 : Int, F_60 4 2 = y60_4_2 → ∀ y60_4_8 : Int, F_60 4 8 = y60_4_8 → (inrJ (x60_8)) → (0 ≤ (x60_8) ∧ (x60_8) ≤ (tc23_0)) → ((yc23_4_8) ≤ (y60_4_8) ∧ (y60_4_8) ≤ (u4_9)) → ((u4_2) ≤ (y60_4_2) ∧ (y60_4_2) ≤ (u4_2) + (x60_8)) → ((tc23_0) - (x60_8)).toNat = m → Ew 339 (d + 2) 60 ls [] σ c s Q from
          hl60 _ _ σ _ _ (0) (rk2_o (rk2_o (lc23_0) rfl rfl) rfl rfl) (rk2_o (rk2_s) rfl rfl) (rk2_s) H (SF_refl) (SA_refl) (u4_2) (((hS_c23 4 2 rfl).trans (eu4_2))) (yc23_4_8) ((eyc23_4_8))  (show inrJ (0) from q_81) (show 0 ≤ (0) ∧ (0) ≤ (tc23_0) from q_787 jc23_2) (show (yc23_4_8) ≤ (yc23_4_8) ∧ (yc23_4_8) ≤ (u4_9) from q_786 jc23_3) (show (u4_2) ≤ (u4_2) ∧ (u4_2) ≤ (u4_2) + (0) from q_785) rfl
        as_aux_lemma =>
        intro m
        induction m using Nat.strongRecOn with
        | _ m ih60 =>
          intro ls σ F_60 A_60 x60_8 l60_0 l60_6 l60_8 H hS_60 hA_60 y60_4_2 ey60_4_2 y60_4_8 ey60_4_8  j60_0 j60_1 j60_2 j60_3 hm60
          have r10 : (-2147483648 : Int) ≤ y60_4_2 ∧ y60_4_2 ≤ 2147483647 := rngE (show (-2147483648 : Int) ≤ F_60 4 2 ∧ F_60 4 2 ≤ 2147483647 from H.frng 4 2) (show F_60 4 2 = y60_4_2 from (ey60_4_2))
          have r11 : (0 : Int) ≤ y60_4_8 ∧ y60_4_8 ≤ 65536 := rngE (show (0 : Int) ≤ F_60 4 8 ∧ F_60 4 8 ≤ 65536 from H.frng 4 8) (show F_60 4 8 = y60_4_8 from (ey60_4_8))
          refine Ew_of (pcₚ := 62) (fun _ => x_lload rfl l60_8) ?_
          refine Ew_of (pcₚ := 64) (fun _ => x_lload rfl l60_6) ?_
          refine w_lcmp rfl (show inrJ (x60_8) from j60_0) (show inrJ (tc23_0) from jc23_0) (fun z12 gz12 gaz12 gbz12 => ?_)
          refine w_ifge (t := 105) rfl rfl (show inr (z12) from gz12) (fun b13 => ?_) (fun b13 => ?_)
          · exact w_ret rfl (k σ _ _ H (SF_trans (SF_trans (SF_refl) hS_c23 (any_sub rfl)) hS_60 (any_sub rfl)) (SA_trans (SA_trans (SA_refl) hA_c23 (any_subA rfl)) hA_60 (any_subA rfl)) (y60_4_2) ((ey60_4_2)) (y60_4_8) ((ey60_4_8)) (show (u4_8) ≤ (y60_4_8) ∧ (y60_4_8) ≤ (u4_9) from q_788 j60_2 jc23_3) (show (u4_2) ≤ (y60_4_2) ∧ (y60_4_2) ≤ a2 + a4 by omega))
          · refine Ew_of (pcₚ := 69) (fun _ => x_aload_n rfl l60_0) ?_
            have r14 : (-2147483648 : Int) ≤ F_60 4 10 ∧ F_60 4 10 ≤ 2147483647 := H.frng 4 10
            refine w_gI H (o := 4) (w := F_60 4 10) rfl (H.perm 4 rfl) rfl rfl rfl (fun _ => rfl) rfl ?_
            refine w_ifne (t := 105) rfl rfl (show inr (F_60 4 10) from q_22 r14) (fun b15 => ?_) (fun b15 => ?_)
            · exact w_ret rfl (k σ _ _ H (SF_trans (SF_trans (SF_refl) hS_c23 (any_sub rfl)) hS_60 (any_sub rfl)) (SA_trans (SA_trans (SA_refl) hA_c23 (any_subA rfl)) hA_60 (any_subA rfl)) (y60_4_2) ((ey60_4_2)) (y60_4_8) ((ey60_4_8)) (show (u4_8) ≤ (y60_4_8) ∧ (y60_4_8) ≤ (u4_9) from q_788 j60_2 jc23_3) (show (u4_2) ≤ (y60_4_2) ∧ (y60_4_2) ≤ a2 + a4 by omega))
            · refine Ew_of (pcₚ := 76) (fun _ => x_aload_n rfl l60_0) ?_
              refine Ew_of (pcₚ := 77) (fun _ => x_iconst rfl) ?_
              refine w_inv H (o := 4) rfl rfl rfl (H.perm 4 rfl) rfl rfl (by rfl) (M336 H (y60_4_8) ((ey60_4_8)) (u4_9) ((((hS_60 4 9 rfl).trans (hS_c23 4 9 rfl)).trans (eu4_9))) (F_60 4 10) (rfl) (show inr (1) from q_23) (show 0 ≤ (1) ∧ (1) ≤ 4 from q_770) (show 0 ≤ (y60_4_8) ∧ (y60_4_8) ≤ (u4_9) from q_769 j60_2 r11) (fun z20 σ F16 A17 H hS18 hA19 y21 ey22 y23 ey24 pz20_0 pz20_1 pz20_2 pz20_3 pz20_4 pz20_5 pz20_6 pz20_7 pz20_8 => ⟨rfl, ?_⟩))
              have r25 : (0 : Int) ≤ y21 ∧ y21 ≤ 65536 := rngE (show (0 : Int) ≤ F16 4 8 ∧ F16 4 8 ≤ 65536 from H.frng 4 8) (show F16 4 8 = y21 from (ey22))
              have r26 : (-2147483648 : Int) ≤ y23 ∧ y23 ≤ 2147483647 := rngE (show (-2147483648 : Int) ≤ F16 4 10 ∧ F16 4 10 ≤ 2147483647 from H.frng 4 10) (show F16 4 10 = y23 from (ey24))
              refine Ew_of (pcₚ := 82) (fun _ => x_lstore rfl) ?_
              refine Ew_of (pcₚ := 84) (fun _ => x_lload rfl rk2_s) ?_
              refine Ew_of (pcₚ := 85) (fun _ => x_lconst (z := 0) rfl (by decide)) ?_
              refine w_lcmp rfl (show inrJ (z20) from pz20_0) (show inrJ (0) from q_81) (fun z27 gz27 gaz27 gbz27 => ?_)
              refine w_iflt (t := 96) rfl rfl (show inr (z27) from gz27) (fun b28 => ?_) (fun b28 => ?_)
              · refine Ew_of (pcₚ := 98) (fun _ => x_lload rfl (rk2_o (l60_8) rfl rfl)) ?_
                refine Ew_of (pcₚ := 99) (fun _ => x_lconst (z := 1) rfl (by decide)) ?_
                refine w_ladd rfl ?_
                refine Ew_of (pcₚ := 102) (fun _ => x_lstore rfl) ?_
                refine Ew_of (pcₚ := 60) (fun _ => x_goto rfl rfl) ?_
                exact ih60 _ (by omega) _ σ _ _ ((x60_8 + 1)) (rk2_o (rk2_o (l60_0) rfl rfl) rfl rfl) (rk2_o (rk2_o (l60_6) rfl rfl) rfl rfl) (rk2_s) H (SF_trans (hS_60) hS18 (any_sub rfl)) (SA_trans (hA_60) hA19 (any_subA rfl)) (y60_4_2) (((hS18 4 2 rfl).trans (ey60_4_2))) (y21) ((ey22))  (show inrJ ((x60_8 + 1)) by omega) (show 0 ≤ ((x60_8 + 1)) ∧ ((x60_8 + 1)) ≤ (tc23_0) by omega) (show (yc23_4_8) ≤ (y21) ∧ (y21) ≤ (u4_9) from q_542 j60_2 pz20_1) (show (u4_2) ≤ (y60_4_2) ∧ (y60_4_2) ≤ (u4_2) + ((x60_8 + 1)) from q_789 j60_3) rfl
              · refine Ew_of (pcₚ := 90) (fun _ => x_aload_n rfl (rk2_o (l60_0) rfl rfl)) ?_
                refine Ew_of (pcₚ := 92) (fun _ => x_lload rfl rk2_s) ?_
                refine w_l2i rfl ?_
                refine w_inv H (o := 4) rfl rfl rfl (H.perm 4 rfl) rfl rfl (by rfl) (M320 H (y60_4_2) (((hS18 4 2 rfl).trans (ey60_4_2))) (show inr (z20) by omega) (show 0 ≤ (y60_4_2) ∧ (y60_4_2) ≤ 100000000 by omega) (fun σ F29 A30 H hS31 hA32 y34 ey35 pz33_0 => ⟨rfl, ?_⟩))
                have r36 : (-2147483648 : Int) ≤ y34 ∧ y34 ≤ 2147483647 := rngE (show (-2147483648 : Int) ≤ F29 4 2 ∧ F29 4 2 ≤ 2147483647 from H.frng 4 2) (show F29 4 2 = y34 from (ey35))
                refine Ew_of (pcₚ := 98) (fun _ => x_lload rfl (rk2_o (l60_8) rfl rfl)) ?_
                refine Ew_of (pcₚ := 99) (fun _ => x_lconst (z := 1) rfl (by decide)) ?_
                refine w_ladd rfl ?_
                refine Ew_of (pcₚ := 102) (fun _ => x_lstore rfl) ?_
                refine Ew_of (pcₚ := 60) (fun _ => x_goto rfl rfl) ?_
                exact ih60 _ (by omega) _ σ _ _ ((x60_8 + 1)) (rk2_o (rk2_o (l60_0) rfl rfl) rfl rfl) (rk2_o (rk2_o (l60_6) rfl rfl) rfl rfl) (rk2_s) H (SF_trans (SF_trans (hS_60) hS18 (any_sub rfl)) hS31 (any_sub rfl)) (SA_trans (SA_trans (hA_60) hA19 (any_subA rfl)) hA32 (any_subA rfl)) (y34) ((ey35)) (y21) (((hS31 4 8 rfl).trans (ey22)))  (show inrJ ((x60_8 + 1)) by omega) (show 0 ≤ ((x60_8 + 1)) ∧ ((x60_8 + 1)) ≤ (tc23_0) by omega) (show (yc23_4_8) ≤ (y21) ∧ (y21) ≤ (u4_9) from q_542 j60_2 pz20_1) (show (u4_2) ≤ (y34) ∧ (y34) ≤ (u4_2) + ((x60_8 + 1)) from q_790 j60_3 pz33_0) rfl
      · refine Ew_of (pcₚ := 50) (fun _ => x_aload_n rfl (rk2_o (lc23_0) rfl rfl)) ?_
        refine Ew_of (pcₚ := 51) (fun _ => x_iconst rfl) ?_
        refine Ew_of (pcₚ := 52) (fun _ => x_iload_n rfl (rk2_o (lc23_1) rfl rfl)) ?_
        refine w_inv H (o := 4) rfl rfl rfl (H.perm 4 rfl) rfl rfl (by rfl) (M335 H (yc23_4_10) ((eyc23_4_10)) (show inr (5) from q_509) (show inr (a1) from h0) (fun z41 σ F37 A38 H hS39 hA40 y42 ey43 pz41_0 pz41_1 pz41_2 => ⟨rretB rfl pz41_0, ?_⟩))
        have r44 : (-2147483648 : Int) ≤ y42 ∧ y42 ≤ 2147483647 := rngE (show (-2147483648 : Int) ≤ F37 4 10 ∧ F37 4 10 ≤ 2147483647 from H.frng 4 10) (show F37 4 10 = y42 from (ey43))
        refine Ew_of (pcₚ := 56) (fun _ => x_pop rfl rfl) ?_
        exact w_ret rfl (k σ _ _ H (SF_trans (SF_trans (SF_refl) hS_c23 (any_sub rfl)) hS39 (any_sub rfl)) (SA_trans (SA_trans (SA_refl) hA_c23 (any_subA rfl)) hA40 (any_subA rfl)) (u4_2) ((((hS39 4 2 rfl).trans (hS_c23 4 2 rfl)).trans (eu4_2))) (yc23_4_8) (((hS39 4 8 rfl).trans (eyc23_4_8))) (show (u4_8) ≤ (yc23_4_8) ∧ (yc23_4_8) ≤ (u4_9) from jc23_3) (show (u4_2) ≤ (u4_2) ∧ (u4_2) ≤ a2 + a4 from q_791 h5))
    · exact w_ret rfl (k σ _ _ H (SF_trans (SF_refl) hS_c23 (any_sub rfl)) (SA_trans (SA_refl) hA_c23 (any_subA rfl)) (u4_2) (((hS_c23 4 2 rfl).trans (eu4_2))) (yc23_4_8) ((eyc23_4_8)) (show (u4_8) ≤ (yc23_4_8) ∧ (yc23_4_8) ≤ (u4_9) from jc23_3) (show (u4_2) ≤ (u4_2) ∧ (u4_2) ≤ a2 + a4 from q_791 h5))
  refine Ew_of (pcₚ := 1) (fun _ => x_iload_n rfl rfl) ?_
  refine Ew_of (pcₚ := 3) (fun _ => x_bipush (z := 60) rfl (by decide)) ?_
  refine w_icmpge (t := 13) rfl rfl (show inr (a3) from h2) (show inr (60) from q_715) (fun b45 => ?_) (fun b45 => ?_)
  · refine Ew_of (pcₚ := 14) (fun _ => x_aload_n rfl rfl) ?_
    refine Ew_of (pcₚ := 15) (fun _ => x_iload_n rfl rfl) ?_
    refine Ew_of (pcₚ := 17) (fun _ => x_bipush (z := 59) rfl (by decide)) ?_
    refine w_isub rfl ?_
    refine w_inv H (o := 4) rfl rfl rfl (H.perm 4 rfl) rfl rfl (by rfl) (M336 H (u4_8) ((eu4_8)) (u4_9) ((eu4_9)) (u4_10) ((eu4_10)) (show inr ((a3 - 59)) from q_793 b45 h6) (show 0 ≤ ((a3 - 59)) ∧ ((a3 - 59)) ≤ 4 from q_792 b45 h6) (show 0 ≤ (u4_8) ∧ (u4_8) ≤ (u4_9) from h4) (fun z50 σ F46 A47 H hS48 hA49 y51 ey52 y53 ey54 pz50_0 pz50_1 pz50_2 pz50_3 pz50_4 pz50_5 pz50_6 pz50_7 pz50_8 => ⟨rfl, ?_⟩))
    have r55 : (0 : Int) ≤ y51 ∧ y51 ≤ 65536 := rngE (show (0 : Int) ≤ F46 4 8 ∧ F46 4 8 ≤ 65536 from H.frng 4 8) (show F46 4 8 = y51 from (ey52))
    have r56 : (-2147483648 : Int) ≤ y53 ∧ y53 ≤ 2147483647 := rngE (show (-2147483648 : Int) ≤ F46 4 10 ∧ F46 4 10 ≤ 2147483647 from H.frng 4 10) (show F46 4 10 = y53 from (ey54))
    refine Ew_of (pcₚ := 22) (fun _ => x_lconst (z := 1) rfl (by decide)) ?_
    refine w_ladd rfl ?_
    exact hc23 ((z50 + 1)) _ σ _ _  (rfl) (rfl) (rfl) (rfl) H (SF_trans (SF_refl) hS48 (any_sub rfl)) (SA_trans (SA_refl) hA49 (any_subA rfl)) (y51) ((ey52)) (y53) ((ey54))  (show inrJ ((z50 + 1)) by omega) (show 1 ≤ ((z50 + 1)) ∧ ((z50 + 1)) ≤ 4294967296 ∨ (y53) ≠ 0 by omega) (show 0 ≤ ((z50 + 1)) ∧ ((z50 + 1)) ≤ 4294967296 from q_794 pz50_2 pz50_3 pz50_5) (show (u4_8) ≤ (y51) ∧ (y51) ≤ (u4_9) from pz50_1)
  · refine Ew_of (pcₚ := 7) (fun _ => x_iload_n rfl rfl) ?_
    refine w_i2l rfl (show inr (a3) from h2) ?_
    refine Ew_of (pcₚ := 9) (fun _ => x_lconst (z := 1) rfl (by decide)) ?_
    refine w_ladd rfl ?_
    refine Ew_of (pcₚ := 23) (fun _ => x_goto rfl rfl) ?_
    exact hc23 ((a3 + 1)) _ σ _ _  (rfl) (rfl) (rfl) (rfl) H (SF_refl) (SA_refl) (u4_8) ((eu4_8)) (u4_10) ((eu4_10))  (show inrJ ((a3 + 1)) from q_797 b45 h6) (show 1 ≤ ((a3 + 1)) ∧ ((a3 + 1)) ≤ 4294967296 ∨ (u4_10) ≠ 0 from q_796 b45 h6) (show 0 ≤ ((a3 + 1)) ∧ ((a3 + 1)) ≤ 4294967296 from q_795 b45 h6) (show (u4_8) ≤ (u4_8) ∧ (u4_8) ≤ (u4_9) from q_763 h4)
/-- Tags.copy -/
theorem M340 {σ0 σ : rS} {D N : Nat → Nat} {F : hF} {A : hA} {d c s : Nat} {Q : wQ} (H : HS σ0 σ D N F A) {a1 a2 a3 a4 a5 : Int} (u4_2 : Int) (eu4_2 : F 4 2 = u4_2) (u4_8 : Int) (eu4_8 : F 4 8 = u4_8) (u4_9 : Int) (eu4_9 : F 4 9 = u4_9) (u4_10 : Int) (eu4_10 : F 4 10 = u4_10) (h0 : inr (a1)) (h1 : inr (a2)) (h2 : inr (a3)) (h3 : inr (a4)) (h4 : inrJ (a5)) (h5 : 0 ≤ (u4_8) ∧ (u4_8) ≤ (u4_9)) (h6 : 0 ≤ (a2) ∧ (a2) ≤ (u4_2) ∧ (u4_2) ≤ (a2) + (a5) ∧ (a2) + (a5) ≤ 65536) (h7 : 1 ≤ (a3) ∧ (a3) ≤ 3 ∧ 0 ≤ (a4) ∧ (a4) ≤ 63) (h8 : (u4_10) = 0) (k : ∀ σ Fₚ Aₚ, HS σ0 σ D N Fₚ Aₚ → SF [(4, 2), (4, 8), (4, 10), (4, 11)] F Fₚ → SA [23] A Aₚ → ∀ y4_2 : Int, Fₚ 4 2 = y4_2 → ∀ y4_8 : Int, Fₚ 4 8 = y4_8 → ((u4_8) ≤ (y4_8) ∧ (y4_8) ≤ (u4_9)) → ((u4_2) ≤ (y4_2) ∧ (y4_2) ≤ (a2) + (a5)) → Q none σ c s) : Ew 340 (d + 2) 0 (rargs 0 [.ref (D 4), I a1, I a2, I a3, I a4, J a5]) [] σ c s Q := by
  have r1 : (-2147483648 : Int) ≤ u4_2 ∧ u4_2 ≤ 2147483647 := rngE (show (-2147483648 : Int) ≤ F 4 2 ∧ F 4 2 ≤ 2147483647 from H.frng 4 2) (show F 4 2 = u4_2 from (eu4_2))
  have r2 : (0 : Int) ≤ u4_8 ∧ u4_8 ≤ 65536 := rngE (show (0 : Int) ≤ F 4 8 ∧ F 4 8 ≤ 65536 from H.frng 4 8) (show F 4 8 = u4_8 from (eu4_8))
  have r3 : (0 : Int) ≤ u4_9 ∧ u4_9 ≤ 65536 := rngE (show (0 : Int) ≤ F 4 9 ∧ F 4 9 ≤ 65536 from H.frng 4 9) (show F 4 9 = u4_9 from (eu4_9))
  have r4 : (-2147483648 : Int) ≤ u4_10 ∧ u4_10 ≤ 2147483647 := rngE (show (-2147483648 : Int) ≤ F 4 10 ∧ F 4 10 ≤ 2147483647 from H.frng 4 10) (show F 4 10 = u4_10 from (eu4_10))
  refine Ew_of (pcₚ := 1) (fun _ => x_iload_n rfl rfl) ?_
  refine Ew_of (pcₚ := 2) (fun _ => x_iconst rfl) ?_
  have hc21 : ∀ (tc21_0 : Int), ∀ (ls : rO) (σ : rS) (F_c21 : hF) (A_c21 : hA) , rlook ls 0 = some (.ref (D 4)) → rlook ls 1 = some (I (a1)) → rlook ls 2 = some (I (a2)) → rlook ls 3 = some (I (a3)) → rlook ls 4 = some (I (a4)) → rlook ls 5 = some (J (a5)) → HS σ0 σ D N F_c21 A_c21 → SF [] F F_c21 → SA [] A A_c21 → (inrJ (tc21_0)) → (((a3) ≠ (1) ∧ (tc21_0) = ((a4 + 1))) ∨ ((a3) = (1) ∧ (tc21_0) = (((a4 % 8) + 4)))) → Ew 340 (d + 2) 21 ls [J (tc21_0)] σ c s Q := by
   as_aux_lemma =>
    intro tc21_0 ls σ F_c21 A_c21  lc21_0 lc21_1 lc21_2 lc21_3 lc21_4 lc21_5 H hS_c21 hA_c21   jc21_0 jc21_1
    refine Ew_of (pcₚ := 23) (fun _ => x_lstore rfl) ?_
    refine Ew_of (pcₚ := 24) (fun _ => x_aload_n rfl (rk2_o (lc21_0) rfl rfl)) ?_
    refine Ew_of (pcₚ := 25) (fun _ => x_iload_n rfl (rk2_o (lc21_3) rfl rfl)) ?_
    refine Ew_of (pcₚ := 26) (fun _ => x_iconst rfl) ?_
    have hc34 : ∀ (tc34_0 : Int), ∀ (ls : rO) (σ : rS) (F_c34 : hF) (A_c34 : hA) , rlook ls 0 = some (.ref (D 4)) → rlook ls 1 = some (I (a1)) → rlook ls 2 = some (I (a2)) → rlook ls 3 = some (I (a3)) → rlook ls 4 = some (I (a4)) → rlook ls 5 = some (J (a5)) → rlook ls 7 = some (J (tc21_0)) → HS σ0 σ D N F_c34 A_c34 → SF [] F_c21 F_c34 → SA [] A_c21 A_c34 → (inr (tc34_0)) → (((a3) ≠ (3) ∧ (tc34_0) = (a3)) ∨ ((a3) = (3) ∧ (tc34_0) = (4))) → Ew 340 (d + 2) 34 ls [I (tc34_0), .ref (D 4)] σ c s Q := by
     as_aux_lemma =>
      intro tc34_0 ls σ F_c34 A_c34  lc34_0 lc34_1 lc34_2 lc34_3 lc34_4 lc34_5 lc34_7 H hS_c34 hA_c34   jc34_0 jc34_1
      refine w_inv H (o := 4) rfl rfl rfl (H.perm 4 rfl) rfl rfl (by rfl) (M336 H (u4_8) ((((hS_c34 4 8 rfl).trans (hS_c21 4 8 rfl)).trans (eu4_8))) (u4_9) ((((hS_c34 4 9 rfl).trans (hS_c21 4 9 rfl)).trans (eu4_9))) (u4_10) ((((hS_c34 4 10 rfl).trans (hS_c21 4 10 rfl)).trans (eu4_10))) (show inr (tc34_0) from jc34_0) (show 0 ≤ (tc34_0) ∧ (tc34_0) ≤ 4 from q_798 h7 jc34_1) (show 0 ≤ (u4_8) ∧ (u4_8) ≤ (u4_9) from h5) (fun z9 σ F5 A6 H hS7 hA8 y10 ey11 y12 ey13 pz9_0 pz9_1 pz9_2 pz9_3 pz9_4 pz9_5 pz9_6 pz9_7 pz9_8 => ⟨rfl, ?_⟩))
      have r14 : (0 : Int) ≤ y10 ∧ y10 ≤ 65536 := rngE (show (0 : Int) ≤ F5 4 8 ∧ F5 4 8 ≤ 65536 from H.frng 4 8) (show F5 4 8 = y10 from (ey11))
      have r15 : (-2147483648 : Int) ≤ y12 ∧ y12 ≤ 2147483647 := rngE (show (-2147483648 : Int) ≤ F5 4 10 ∧ F5 4 10 ≤ 2147483647 from H.frng 4 10) (show F5 4 10 = y12 from (ey13))
      refine Ew_of (pcₚ := 39) (fun _ => x_lstore rfl) ?_
      refine Ew_of (pcₚ := 40) (fun _ => x_iload_n rfl (rk2_o (lc34_3) rfl rfl)) ?_
      refine Ew_of (pcₚ := 41) (fun _ => x_iconst rfl) ?_
      have hc59 : ∀ (ls : rO) (σ : rS) (F_c59 : hF) (A_c59 : hA) (xc59_9 : Int), rlook ls 0 = some (.ref (D 4)) → rlook ls 1 = some (I (a1)) → rlook ls 2 = some (I (a2)) → rlook ls 5 = some (J (a5)) → rlook ls 7 = some (J (tc21_0)) → rlook ls 9 = some (J (xc59_9)) → HS σ0 σ D N F_c59 A_c59 → SF [] F5 F_c59 → SA [] A6 A_c59 → (inrJ (xc59_9)) → (((a3) ≠ (1) ∧ (xc59_9) = (z9)) ∨ ((a3) = (1) ∧ (xc59_9) = ((z9 + (256 * (a4 / 8)))))) → Ew 340 (d + 2) 59 ls [] σ c s Q := by
       as_aux_lemma =>
        intro  ls σ F_c59 A_c59 xc59_9 lc59_0 lc59_1 lc59_2 lc59_5 lc59_7 lc59_9 H hS_c59 hA_c59   jc59_0 jc59_1
        refine Ew_of (pcₚ := 60) (fun _ => x_aload_n rfl lc59_0) ?_
        refine Ew_of (pcₚ := 61) (fun _ => x_iload_n rfl lc59_1) ?_
        refine Ew_of (pcₚ := 62) (fun _ => x_iload_n rfl lc59_2) ?_
        refine Ew_of (pcₚ := 64) (fun _ => x_lload rfl lc59_9) ?_
        refine Ew_of (pcₚ := 66) (fun _ => x_lload rfl lc59_7) ?_
        refine Ew_of (pcₚ := 68) (fun _ => x_lload rfl lc59_5) ?_
        refine w_inv H (o := 4) rfl rfl rfl (H.perm 4 rfl) rfl rfl (by rfl) (M338 H (u4_2) ((((((hS_c59 4 2 rfl).trans (hS7 4 2 rfl)).trans (hS_c34 4 2 rfl)).trans (hS_c21 4 2 rfl)).trans (eu4_2))) (y12) (((hS_c59 4 10 rfl).trans (ey13))) (show inr (a1) from h0) (show inr (a2) from h1) (show inrJ (xc59_9) from jc59_0) (show inrJ (tc21_0) from jc21_0) (show inrJ (a5) from h4) (show 0 ≤ (a2) ∧ (a2) ≤ (u4_2) ∧ (u4_2) ≤ 70000 from q_802 h6) (show -1000 ≤ (xc59_9) ∧ (xc59_9) ≤ 10000000000 from q_801 h7 jc59_1 pz9_2 pz9_5) (show 0 ≤ (xc59_9) ∨ (y12) ≠ 0 by omega) (show 0 ≤ (tc21_0) ∧ (tc21_0) ≤ 100 from q_800 h7 jc21_1) (show -1 ≤ (a5) ∧ (a5) ≤ 65536 from q_799 h6) (fun z20 σ F16 A17 H hS18 hA19 y21 ey22 pz20_0 pz20_1 pz20_2 => ⟨rretB rfl pz20_0, ?_⟩))
        have r23 : (-2147483648 : Int) ≤ y21 ∧ y21 ≤ 2147483647 := rngE (show (-2147483648 : Int) ≤ F16 4 10 ∧ F16 4 10 ≤ 2147483647 from H.frng 4 10) (show F16 4 10 = y21 from (ey22))
        refine w_ifne (t := 75) rfl rfl (show inr (z20) from q_15 pz20_0) (fun b24 => ?_) (fun b24 => ?_)
        · refine Ew_of (pcₚ := 76) (fun _ => x_iconst rfl) ?_
          refine Ew_of (pcₚ := 78) (fun _ => x_istore rfl) ?_
          suffices hl78 : ∀ (m : Nat), ∀ (ls : rO) (σ : rS) (F_78 : hF) (A_78 : hA) (x78_11 : Int), rlook ls 0 = some (.ref (D 4)) → rlook ls 7 = some (J (tc21_0)) → rlook ls 9 = some (J (xc59_9)) → rlook ls 11 = some (I (x78_11)) → HS σ0 σ D N F_78 A_78 → SF [(4, 2)] F16 F_78 → SA [23] A17 A_78 → ∀ y78_4_2 : Int, F_78 4 2 = y78_4_2 → (inr (x78_11)) → (0 ≤ (x78_11) ∧ (x78_11) ≤ (tc21_0)) → ((y78_4_2) = (u4_2) + (x78_11)) → ((tc21_0) - (x78_11)).toNat = m → Ew 340 (d + 2) 78 ls [] σ c s Q from
            hl78 _ _ σ _ _ (0) (rk_o (lc59_0) rfl rfl) (rk_o (lc59_7) rfl rfl) (rk_o (lc59_9) rfl rfl) (rk_s) H (SF_refl) (SA_refl) (u4_2) (((((((hS18 4 2 rfl).trans (hS_c59 4 2 rfl)).trans (hS7 4 2 rfl)).trans (hS_c34 4 2 rfl)).trans (hS_c21 4 2 rfl)).trans (eu4_2)))  (show inr (0) from q_20) (show 0 ≤ (0) ∧ (0) ≤ (tc21_0) from q_803 h7 jc21_1) (show (u4_2) = (u4_2) + (0) from q_110) rfl
          as_aux_lemma =>
          intro m
          induction m using Nat.strongRecOn with
          | _ m ih78 =>
            intro ls σ F_78 A_78 x78_11 l78_0 l78_7 l78_9 l78_11 H hS_78 hA_78 y78_4_2 ey78_4_2  j78_0 j78_1 j78_2 hm78
            have r25 : (-2147483648 : Int) ≤ y78_4_2 ∧ y78_4_2 ≤ 2147483647 := rngE (show (-2147483648 : Int) ≤ F_78 4 2 ∧ F_78 4 2 ≤ 2147483647 from H.frng 4 2) (show F_78 4 2 = y78_4_2 from (ey78_4_2))
            refine Ew_of (pcₚ := 80) (fun _ => x_iload rfl l78_11) ?_
            refine w_i2l rfl (show inr (x78_11) from j78_0) ?_
            refine Ew_of (pcₚ := 83) (fun _ => x_lload rfl l78_7) ?_
            refine w_lcmp rfl (show inrJ (x78_11) from q_804 j78_0 j78_1) (show inrJ (tc21_0) from jc21_0) (fun z26 gz26 gaz26 gbz26 => ?_)
            refine w_ifge (t := 110) rfl rfl (show inr (z26) from gz26) (fun b27 => ?_) (fun b27 => ?_)
            · exact w_ret rfl (k σ _ _ H (SF_trans (SF_trans (SF_trans (SF_trans (SF_trans (SF_trans (SF_refl) hS_c21 (any_sub rfl)) hS_c34 (any_sub rfl)) hS7 (any_sub rfl)) hS_c59 (any_sub rfl)) hS18 (any_sub rfl)) hS_78 (any_sub rfl)) (SA_trans (SA_trans (SA_trans (SA_trans (SA_trans (SA_trans (SA_refl) hA_c21 (any_subA rfl)) hA_c34 (any_subA rfl)) hA8 (any_subA rfl)) hA_c59 (any_subA rfl)) hA19 (any_subA rfl)) hA_78 (any_subA rfl)) (y78_4_2) ((ey78_4_2)) (y10) (((((hS_78 4 8 rfl).trans (hS18 4 8 rfl)).trans (hS_c59 4 8 rfl)).trans (ey11))) (show (u4_8) ≤ (y10) ∧ (y10) ≤ (u4_9) from pz9_1) (show (u4_2) ≤ (y78_4_2) ∧ (y78_4_2) ≤ a2 + a5 from q_805 b24 j78_1 j78_2 pz20_0 pz20_1))
            · refine Ew_of (pcₚ := 88) (fun _ => x_aload_n rfl l78_0) ?_
              refine Ew_of (pcₚ := 89) (fun _ => x_aload_n rfl l78_0) ?_
              refine w_gT H (o := 4) (t := 23) rfl (H.perm 4 rfl) rfl rfl rfl rfl rfl rfl ?_
              refine Ew_of (pcₚ := 93) (fun _ => x_aload_n rfl l78_0) ?_
              refine w_gI H (o := 4) (w := y78_4_2) rfl (H.perm 4 rfl) rfl rfl rfl (fun _ => rfl) (ey78_4_2) ?_
              refine Ew_of (pcₚ := 98) (fun _ => x_lload rfl l78_9) ?_
              refine w_l2i rfl ?_
              refine w_isub rfl ?_
              refine w_lI H (o := 23) (n := 70000) rfl (H.perm 23 rfl) rfl rfl (H.fix 23 rfl rfl) (show 0 ≤ (y78_4_2 - xc59_9) ∧ (y78_4_2 - xc59_9) < ((70000 : Nat) : Int) from q_806 b24 h6 j78_1 j78_2 pz20_0 pz20_1) (by decide) (fun v28 ev28 qv28 => ?_)
              have qv28 : (0 : Int) ≤ v28 ∧ v28 ≤ 255 := qv28
              have ev28 : (A_78 23) ((y78_4_2 - xc59_9)) = v28 := (congrFun (rfl : A_78 23 = A_78 23) ((y78_4_2 - xc59_9))).symm.trans ev28
              refine w_inv H (o := 4) rfl rfl rfl (H.perm 4 rfl) rfl rfl (by rfl) (M320 H (y78_4_2) ((ey78_4_2)) (show inr (v28) from q_38 qv28) (show 0 ≤ (y78_4_2) ∧ (y78_4_2) ≤ 100000000 from q_807 b24 h6 j78_1 j78_2 pz20_0 pz20_1) (fun σ F29 A30 H hS31 hA32 y34 ey35 pz33_0 => ⟨rfl, ?_⟩))
              have r36 : (-2147483648 : Int) ≤ y34 ∧ y34 ≤ 2147483647 := rngE (show (-2147483648 : Int) ≤ F29 4 2 ∧ F29 4 2 ≤ 2147483647 from H.frng 4 2) (show F29 4 2 = y34 from (ey35))
              refine Ew_of (pcₚ := 107) (fun _ => x_iinc (len := 3) rfl (l78_11)) ?_
              refine Ew_of (pcₚ := 78) (fun _ => x_goto rfl rfl) ?_
              exact ih78 _ (by omega) _ σ _ _ ((x78_11 + 1)) (rk_o (l78_0) rfl rfl) (rk_o (l78_7) rfl rfl) (rk_o (l78_9) rfl rfl) (rk_s) H (SF_trans (hS_78) hS31 (any_sub rfl)) (SA_trans (hA_78) hA32 (any_subA rfl)) (y34) ((ey35))  (show inr ((x78_11 + 1)) from q_808 b24 h6 j78_1 pz20_0 pz20_1) (show 0 ≤ ((x78_11 + 1)) ∧ ((x78_11 + 1)) ≤ (tc21_0) by omega) (show (y34) = (u4_2) + ((x78_11 + 1)) from q_113 j78_2 pz33_0) rfl
        · exact w_ret rfl (k σ _ _ H (SF_trans (SF_trans (SF_trans (SF_trans (SF_trans (SF_refl) hS_c21 (any_sub rfl)) hS_c34 (any_sub rfl)) hS7 (any_sub rfl)) hS_c59 (any_sub rfl)) hS18 (any_sub rfl)) (SA_trans (SA_trans (SA_trans (SA_trans (SA_trans (SA_refl) hA_c21 (any_subA rfl)) hA_c34 (any_subA rfl)) hA8 (any_subA rfl)) hA_c59 (any_subA rfl)) hA19 (any_subA rfl)) (u4_2) (((((((hS18 4 2 rfl).trans (hS_c59 4 2 rfl)).trans (hS7 4 2 rfl)).trans (hS_c34 4 2 rfl)).trans (hS_c21 4 2 rfl)).trans (eu4_2))) (y10) ((((hS18 4 8 rfl).trans (hS_c59 4 8 rfl)).trans (ey11))) (show (u4_8) ≤ (y10) ∧ (y10) ≤ (u4_9) from pz9_1) (show (u4_2) ≤ (u4_2) ∧ (u4_2) ≤ a2 + a5 from q_791 h6))
      refine w_icmpne (t := 59) rfl rfl (show inr (a3) from h2) (show inr (1) from q_23) (fun b37 => ?_) (fun b37 => ?_)
      · exact hc59  _ σ _ _ (z9) (rk2_o (lc34_0) rfl rfl) (rk2_o (lc34_1) rfl rfl) (rk2_o (lc34_2) rfl rfl) (rk2_o (lc34_5) rfl rfl) (rk2_o (lc34_7) rfl rfl) (rk2_s) H (SF_refl) (SA_refl)   (show inrJ (z9) from pz9_0) (show ((a3) ≠ (1) ∧ (z9) = (z9)) ∨ ((a3) = (1) ∧ (z9) = ((z9 + (256 * (a4 / 8))))) from q_809 b37)
      · refine Ew_of (pcₚ := 46) (fun _ => x_lload rfl rk2_s) ?_
        refine Ew_of (pcₚ := 49) (fun _ => x_ldc2 (z := 256) rfl (by decide)) ?_
        refine Ew_of (pcₚ := 51) (fun _ => x_iload rfl (rk2_o (lc34_4) rfl rfl)) ?_
        refine Ew_of (pcₚ := 53) (fun _ => x_bipush (z := 8) rfl (by decide)) ?_
        refine w_idiv rfl (show inr (a4) ∧ 0 ≤ a4 from q_811 h3 h7) (show inr (8) ∧ 0 < 8 from q_810) ?_
        refine w_i2l rfl (show inr ((a4 / 8)) from q_812 h7) ?_
        refine w_lmul rfl ?_
        refine w_ladd rfl ?_
        refine Ew_of (pcₚ := 59) (fun _ => x_lstore rfl) ?_
        exact hc59  _ σ _ _ ((z9 + (256 * (a4 / 8)))) (rk2_o (rk2_o (lc34_0) rfl rfl) rfl rfl) (rk2_o (rk2_o (lc34_1) rfl rfl) rfl rfl) (rk2_o (rk2_o (lc34_2) rfl rfl) rfl rfl) (rk2_o (rk2_o (lc34_5) rfl rfl) rfl rfl) (rk2_o (rk2_o (lc34_7) rfl rfl) rfl rfl) (rk2_s) H (SF_refl) (SA_refl)   (show inrJ ((z9 + (256 * (a4 / 8)))) by omega) (show ((a3) ≠ (1) ∧ ((z9 + (256 * (a4 / 8)))) = (z9)) ∨ ((a3) = (1) ∧ ((z9 + (256 * (a4 / 8)))) = ((z9 + (256 * (a4 / 8))))) from q_813 b37)
    refine w_icmpne (t := 33) rfl rfl (show inr (a3) from h2) (show inr (3) from q_66) (fun b38 => ?_) (fun b38 => ?_)
    · refine Ew_of (pcₚ := 34) (fun _ => x_iload_n rfl (rk2_o (lc21_3) rfl rfl)) ?_
      exact hc34 (a3) _ σ _ _  (rk2_o (lc21_0) rfl rfl) (rk2_o (lc21_1) rfl rfl) (rk2_o (lc21_2) rfl rfl) (rk2_o (lc21_3) rfl rfl) (rk2_o (lc21_4) rfl rfl) (rk2_o (lc21_5) rfl rfl) (rk2_s) H (SF_refl) (SA_refl)   (show inr (a3) from h2) (show ((a3) ≠ (3) ∧ (a3) = (a3)) ∨ ((a3) = (3) ∧ (a3) = (4)) from q_814 b38)
    · refine Ew_of (pcₚ := 30) (fun _ => x_iconst rfl) ?_
      refine Ew_of (pcₚ := 34) (fun _ => x_goto rfl rfl) ?_
      exact hc34 (4) _ σ _ _  (rk2_o (lc21_0) rfl rfl) (rk2_o (lc21_1) rfl rfl) (rk2_o (lc21_2) rfl rfl) (rk2_o (lc21_3) rfl rfl) (rk2_o (lc21_4) rfl rfl) (rk2_o (lc21_5) rfl rfl) (rk2_s) H (SF_refl) (SA_refl)   (show inr (4) from q_2) (show ((a3) ≠ (3) ∧ (4) = (a3)) ∨ ((a3) = (3) ∧ (4) = (4)) from q_815 b38)
  refine w_icmpne (t := 16) rfl rfl (show inr (a3) from h2) (show inr (1) from q_23) (fun b39 => ?_) (fun b39 => ?_)
  · refine Ew_of (pcₚ := 18) (fun _ => x_iload rfl rfl) ?_
    refine Ew_of (pcₚ := 19) (fun _ => x_iconst rfl) ?_
    refine w_iadd rfl ?_
    refine w_i2l rfl (show inr ((a4 + 1)) from q_816 h7) ?_
    exact hc21 ((a4 + 1)) _ σ _ _  (rfl) (rfl) (rfl) (rfl) (rfl) (rfl) H (SF_refl) (SA_refl)   (show inrJ ((a4 + 1)) from q_818 h7) (show ((a3) ≠ (1) ∧ ((a4 + 1)) = ((a4 + 1))) ∨ ((a3) = (1) ∧ ((a4 + 1)) = (((a4 % 8) + 4))) from q_817 b39)
  · refine Ew_of (pcₚ := 7) (fun _ => x_iload rfl rfl) ?_
    refine Ew_of (pcₚ := 9) (fun _ => x_bipush (z := 8) rfl (by decide)) ?_
    refine w_irem rfl (show inr (a4) ∧ 0 ≤ a4 from q_811 h3 h7) (show inr (8) ∧ 0 < 8 from q_810) ?_
    refine Ew_of (pcₚ := 11) (fun _ => x_iconst rfl) ?_
    refine w_iadd rfl ?_
    refine w_i2l rfl (show inr (((a4 % 8) + 4)) from q_819) ?_
    refine Ew_of (pcₚ := 21) (fun _ => x_goto rfl rfl) ?_
    exact hc21 (((a4 % 8) + 4)) _ σ _ _  (rfl) (rfl) (rfl) (rfl) (rfl) (rfl) H (SF_refl) (SA_refl)   (show inrJ (((a4 % 8) + 4)) from q_821) (show ((a3) ≠ (1) ∧ (((a4 % 8) + 4)) = ((a4 + 1))) ∨ ((a3) = (1) ∧ (((a4 % 8) + 4)) = (((a4 % 8) + 4))) from q_820 b39)
/-- Tags.takeBlock -/
theorem M341 {σ0 σ : rS} {D N : Nat → Nat} {F : hF} {A : hA} {d c s : Nat} {Q : wQ} (H : HS σ0 σ D N F A) {a1 : Int} (u4_2 : Int) (eu4_2 : F 4 2 = u4_2) (u4_8 : Int) (eu4_8 : F 4 8 = u4_8) (u4_9 : Int) (eu4_9 : F 4 9 = u4_9) (h0 : inr (a1)) (h1 : 0 ≤ (a1) ∧ 0 ≤ (u4_2) ∧ (u4_2) + (a1) ≤ 65536) (h2 : 0 ≤ (u4_8) ∧ (u4_8) ≤ (u4_9)) (k : ∀ σ Fₚ Aₚ, HS σ0 σ D N Fₚ Aₚ → SF [(4, 2), (4, 8), (4, 10), (4, 11)] F Fₚ → SA [23] A Aₚ → ∀ y4_2 : Int, Fₚ 4 2 = y4_2 → ∀ y4_8 : Int, Fₚ 4 8 = y4_8 → ((u4_8) ≤ (y4_8) ∧ (y4_8) ≤ (u4_9)) → ((u4_2) ≤ (y4_2) ∧ (y4_2) ≤ (u4_2) + (a1)) → Q none σ c s) : Ew 341 (d + 3) 0 (rargs 0 [.ref (D 4), I a1]) [] σ c s Q := by
  have r1 : (-2147483648 : Int) ≤ u4_2 ∧ u4_2 ≤ 2147483647 := rngE (show (-2147483648 : Int) ≤ F 4 2 ∧ F 4 2 ≤ 2147483647 from H.frng 4 2) (show F 4 2 = u4_2 from (eu4_2))
  have r2 : (0 : Int) ≤ u4_8 ∧ u4_8 ≤ 65536 := rngE (show (0 : Int) ≤ F 4 8 ∧ F 4 8 ≤ 65536 from H.frng 4 8) (show F 4 8 = u4_8 from (eu4_8))
  have r3 : (0 : Int) ≤ u4_9 ∧ u4_9 ≤ 65536 := rngE (show (0 : Int) ≤ F 4 9 ∧ F 4 9 ≤ 65536 from H.frng 4 9) (show F 4 9 = u4_9 from (eu4_9))
  refine Ew_of (pcₚ := 1) (fun _ => x_aload_n rfl rfl) ?_
  refine w_gI H (o := 4) (w := u4_2) rfl (H.perm 4 rfl) rfl rfl rfl (fun _ => rfl) (eu4_2) ?_
  refine Ew_of (pcₚ := 5) (fun _ => x_istore_n rfl) ?_
  refine Ew_of (pcₚ := 6) (fun _ => x_aload_n rfl (rk_o (rfl) rfl rfl)) ?_
  refine Ew_of (pcₚ := 7) (fun _ => x_iload_n rfl (rk_o (rfl) rfl rfl)) ?_
  refine w_inv H (o := 4) rfl rfl rfl (H.perm 4 rfl) rfl rfl (by rfl) (M337 H (u4_8) ((eu4_8)) (u4_9) ((eu4_9)) (show inr (a1) from h0) (show 0 ≤ (a1) ∧ (a1) ≤ 65536 from q_822 h1) (show 0 ≤ (u4_8) ∧ (u4_8) ≤ (u4_9) from h2) (fun z8 σ F4 A5 H hS6 hA7 y9 ey10 y11 ey12 pz8_0 pz8_1 pz8_2 pz8_3 => ⟨rfl, ?_⟩))
  have r13 : (0 : Int) ≤ y9 ∧ y9 ≤ 65536 := rngE (show (0 : Int) ≤ F4 4 8 ∧ F4 4 8 ≤ 65536 from H.frng 4 8) (show F4 4 8 = y9 from (ey10))
  have r14 : (-2147483648 : Int) ≤ y11 ∧ y11 ≤ 2147483647 := rngE (show (-2147483648 : Int) ≤ F4 4 10 ∧ F4 4 10 ≤ 2147483647 from H.frng 4 10) (show F4 4 10 = y11 from (ey12))
  refine Ew_of (pcₚ := 11) (fun _ => x_lstore_n rfl) ?_
  suffices hl11 : ∀ (m : Nat), ∀ (ls : rO) (σ : rS) (F_11 : hF) (A_11 : hA) , rlook ls 0 = some (.ref (D 4)) → rlook ls 2 = some (I (u4_2)) → rlook ls 3 = some (J (z8)) → HS σ0 σ D N F_11 A_11 → SF [(4, 2), (4, 8), (4, 10), (4, 11)] F4 F_11 → SA [23] A5 A_11 → ∀ y11_4_2 : Int, F_11 4 2 = y11_4_2 → ∀ y11_4_8 : Int, F_11 4 8 = y11_4_8 → ∀ y11_4_10 : Int, F_11 4 10 = y11_4_10 → ((y9) ≤ (y11_4_8) ∧ (y11_4_8) ≤ (u4_9)) → ((u4_2) ≤ (y11_4_2) ∧ (y11_4_2) ≤ (u4_2) + (a1)) → ((y11_4_10) ≠ 0 ∨ (y11_4_2) ≤ (u4_2) + (z8)) → ((u4_9) - (y11_4_8)).toNat = m → Ew 341 (d + 3) 11 ls [] σ c s Q from
    hl11 _ _ σ _ _  (rk2_o (rk_o (rfl) rfl rfl) rfl rfl) (rk2_o (rk_s) rfl rfl) (rk2_s) H (SF_refl) (SA_refl) (u4_2) (((hS6 4 2 rfl).trans (eu4_2))) (y9) ((ey10)) (y11) ((ey12))  (show (y9) ≤ (y9) ∧ (y9) ≤ (u4_9) from q_786 pz8_1) (show (u4_2) ≤ (u4_2) ∧ (u4_2) ≤ (u4_2) + (a1) from q_823 h1) (show (y11) ≠ 0 ∨ (u4_2) ≤ (u4_2) + (z8) by omega) rfl
  as_aux_lemma =>
  intro m
  induction m using Nat.strongRecOn with
  | _ m ih11 =>
    intro ls σ F_11 A_11  l11_0 l11_2 l11_3 H hS_11 hA_11 y11_4_2 ey11_4_2 y11_4_8 ey11_4_8 y11_4_10 ey11_4_10  j11_0 j11_1 j11_2 hm11
    have r15 : (-2147483648 : Int) ≤ y11_4_2 ∧ y11_4_2 ≤ 2147483647 := rngE (show (-2147483648 : Int) ≤ F_11 4 2 ∧ F_11 4 2 ≤ 2147483647 from H.frng 4 2) (show F_11 4 2 = y11_4_2 from (ey11_4_2))
    have r16 : (0 : Int) ≤ y11_4_8 ∧ y11_4_8 ≤ 65536 := rngE (show (0 : Int) ≤ F_11 4 8 ∧ F_11 4 8 ≤ 65536 from H.frng 4 8) (show F_11 4 8 = y11_4_8 from (ey11_4_8))
    have r17 : (-2147483648 : Int) ≤ y11_4_10 ∧ y11_4_10 ≤ 2147483647 := rngE (show (-2147483648 : Int) ≤ F_11 4 10 ∧ F_11 4 10 ≤ 2147483647 from H.frng 4 10) (show F_11 4 10 = y11_4_10 from (ey11_4_10))
    refine Ew_of (pcₚ := 12) (fun _ => x_aload_n rfl l11_0) ?_
    refine w_gI H (o := 4) (w := y11_4_10) rfl (H.perm 4 rfl) rfl rfl rfl (fun _ => rfl) (ey11_4_10) ?_
    have hc84 : ∀ (ls : rO) (σ : rS) (F_c84 : hF) (A_c84 : hA) , rlook ls 0 = some (.ref (D 4)) → rlook ls 2 = some (I (u4_2)) → rlook ls 3 = some (J (z8)) → HS σ0 σ D N F_c84 A_c84 → SF [] F_11 F_c84 → SA [] A_11 A_c84 → (((y11_4_10) ≠ (0)) ∨ ((y11_4_10) = (0) ∧ (y11_4_8) ≥ (u4_9))) → Ew 341 (d + 3) 84 ls [] σ c s Q := by
     as_aux_lemma =>
      intro  ls σ F_c84 A_c84  lc84_0 lc84_2 lc84_3 H hS_c84 hA_c84   jc84_0
      refine Ew_of (pcₚ := 85) (fun _ => x_aload_n rfl lc84_0) ?_
      refine w_gI H (o := 4) (w := y11_4_10) rfl (H.perm 4 rfl) rfl rfl rfl (fun _ => rfl) ((hS_c84 4 10 rfl).trans (ey11_4_10)) ?_
      refine w_ifne (t := 114) rfl rfl (show inr (y11_4_10) from q_22 r17) (fun b18 => ?_) (fun b18 => ?_)
      · exact w_ret rfl (k σ _ _ H (SF_trans (SF_trans (SF_trans (SF_refl) hS6 (any_sub rfl)) hS_11 (any_sub rfl)) hS_c84 (any_sub rfl)) (SA_trans (SA_trans (SA_trans (SA_refl) hA7 (any_subA rfl)) hA_11 (any_subA rfl)) hA_c84 (any_subA rfl)) (y11_4_2) (((hS_c84 4 2 rfl).trans (ey11_4_2))) (y11_4_8) (((hS_c84 4 8 rfl).trans (ey11_4_8))) (show (u4_8) ≤ (y11_4_8) ∧ (y11_4_8) ≤ (u4_9) from q_788 j11_0 pz8_1) (show (u4_2) ≤ (y11_4_2) ∧ (y11_4_2) ≤ (u4_2) + a1 from j11_1))
      · refine Ew_of (pcₚ := 92) (fun _ => x_aload_n rfl lc84_0) ?_
        refine w_gI H (o := 4) (w := y11_4_2) rfl (H.perm 4 rfl) rfl rfl rfl (fun _ => rfl) ((hS_c84 4 2 rfl).trans (ey11_4_2)) ?_
        refine Ew_of (pcₚ := 96) (fun _ => x_iload_n rfl lc84_2) ?_
        refine w_isub rfl ?_
        refine w_i2l rfl (show inr ((y11_4_2 - u4_2)) from q_824 h1 j11_1) ?_
        refine Ew_of (pcₚ := 99) (fun _ => x_lload_n rfl lc84_3) ?_
        refine w_lcmp rfl (show inrJ ((y11_4_2 - u4_2)) from q_825 h1 j11_1) (show inrJ (z8) from pz8_0) (fun z19 gz19 gaz19 gbz19 => ?_)
        refine w_ifge (t := 114) rfl rfl (show inr (z19) from gz19) (fun b20 => ?_) (fun b20 => ?_)
        · exact w_ret rfl (k σ _ _ H (SF_trans (SF_trans (SF_trans (SF_refl) hS6 (any_sub rfl)) hS_11 (any_sub rfl)) hS_c84 (any_sub rfl)) (SA_trans (SA_trans (SA_trans (SA_refl) hA7 (any_subA rfl)) hA_11 (any_subA rfl)) hA_c84 (any_subA rfl)) (y11_4_2) (((hS_c84 4 2 rfl).trans (ey11_4_2))) (y11_4_8) (((hS_c84 4 8 rfl).trans (ey11_4_8))) (show (u4_8) ≤ (y11_4_8) ∧ (y11_4_8) ≤ (u4_9) from q_788 j11_0 pz8_1) (show (u4_2) ≤ (y11_4_2) ∧ (y11_4_2) ≤ (u4_2) + a1 from j11_1))
        · refine Ew_of (pcₚ := 104) (fun _ => x_aload_n rfl lc84_0) ?_
          refine Ew_of (pcₚ := 106) (fun _ => x_bipush (z := 6) rfl (by decide)) ?_
          refine Ew_of (pcₚ := 107) (fun _ => x_aload_n rfl lc84_0) ?_
          refine w_gI H (o := 4) (w := u4_9) rfl (H.perm 4 rfl) rfl rfl rfl (fun _ => rfl) ((((hS_c84 4 9 rfl).trans (hS_11 4 9 rfl)).trans (hS6 4 9 rfl)).trans (eu4_9)) ?_
          refine w_inv H (o := 4) rfl rfl rfl (H.perm 4 rfl) rfl rfl (by rfl) (M335 H (y11_4_10) (((hS_c84 4 10 rfl).trans (ey11_4_10))) (show inr (6) from q_545) (show inr (u4_9) from q_12 r3) (fun z25 σ F21 A22 H hS23 hA24 y26 ey27 pz25_0 pz25_1 pz25_2 => ⟨rretB rfl pz25_0, ?_⟩))
          have r28 : (-2147483648 : Int) ≤ y26 ∧ y26 ≤ 2147483647 := rngE (show (-2147483648 : Int) ≤ F21 4 10 ∧ F21 4 10 ≤ 2147483647 from H.frng 4 10) (show F21 4 10 = y26 from (ey27))
          refine Ew_of (pcₚ := 114) (fun _ => x_pop rfl rfl) ?_
          exact w_ret rfl (k σ _ _ H (SF_trans (SF_trans (SF_trans (SF_trans (SF_refl) hS6 (any_sub rfl)) hS_11 (any_sub rfl)) hS_c84 (any_sub rfl)) hS23 (any_sub rfl)) (SA_trans (SA_trans (SA_trans (SA_trans (SA_refl) hA7 (any_subA rfl)) hA_11 (any_subA rfl)) hA_c84 (any_subA rfl)) hA24 (any_subA rfl)) (y11_4_2) ((((hS23 4 2 rfl).trans (hS_c84 4 2 rfl)).trans (ey11_4_2))) (y11_4_8) ((((hS23 4 8 rfl).trans (hS_c84 4 8 rfl)).trans (ey11_4_8))) (show (u4_8) ≤ (y11_4_8) ∧ (y11_4_8) ≤ (u4_9) from q_788 j11_0 pz8_1) (show (u4_2) ≤ (y11_4_2) ∧ (y11_4_2) ≤ (u4_2) + a1 from j11_1))
    refine w_ifne (t := 84) rfl rfl (show inr (y11_4_10) from q_22 r17) (fun b29 => ?_) (fun b29 => ?_)
    · exact hc84  _ σ _ _  (l11_0) (l11_2) (l11_3) H (SF_refl) (SA_refl)   (show ((y11_4_10) ≠ (0)) ∨ ((y11_4_10) = (0) ∧ (y11_4_8) ≥ (u4_9)) from q_826 b29)
    · refine Ew_of (pcₚ := 19) (fun _ => x_aload_n rfl l11_0) ?_
      refine w_gI H (o := 4) (w := y11_4_8) rfl (H.perm 4 rfl) rfl rfl rfl (fun _ => rfl) (ey11_4_8) ?_
      refine Ew_of (pcₚ := 23) (fun _ => x_aload_n rfl l11_0) ?_
      refine w_gI H (o := 4) (w := u4_9) rfl (H.perm 4 rfl) rfl rfl rfl (fun _ => rfl) (((hS_11 4 9 rfl).trans (hS6 4 9 rfl)).trans (eu4_9)) ?_
      refine w_icmpge (t := 84) rfl rfl (show inr (y11_4_8) from q_12 r16) (show inr (u4_9) from q_12 r3) (fun b30 => ?_) (fun b30 => ?_)
      · exact hc84  _ σ _ _  (l11_0) (l11_2) (l11_3) H (SF_refl) (SA_refl)   (show ((y11_4_10) ≠ (0)) ∨ ((y11_4_10) = (0) ∧ (y11_4_8) ≥ (u4_9)) from q_827 b29 b30)
      · refine Ew_of (pcₚ := 30) (fun _ => x_aload_n rfl l11_0) ?_
        refine w_gI H (o := 4) (w := y11_4_8) rfl (H.perm 4 rfl) rfl rfl rfl (fun _ => rfl) (ey11_4_8) ?_
        refine Ew_of (pcₚ := 35) (fun _ => x_istore rfl) ?_
        refine Ew_of (pcₚ := 36) (fun _ => x_aload_n rfl (rk_o (l11_0) rfl rfl)) ?_
        refine Ew_of (pcₚ := 37) (fun _ => x_iconst rfl) ?_
        refine w_inv H (o := 4) rfl rfl rfl (H.perm 4 rfl) rfl rfl (by rfl) (M336 H (y11_4_8) ((ey11_4_8)) (u4_9) ((((hS_11 4 9 rfl).trans (hS6 4 9 rfl)).trans (eu4_9))) (y11_4_10) ((ey11_4_10)) (show inr (1) from q_23) (show 0 ≤ (1) ∧ (1) ≤ 4 from q_770) (show 0 ≤ (y11_4_8) ∧ (y11_4_8) ≤ (u4_9) from q_769 j11_0 r16) (fun z35 σ F31 A32 H hS33 hA34 y36 ey37 y38 ey39 pz35_0 pz35_1 pz35_2 pz35_3 pz35_4 pz35_5 pz35_6 pz35_7 pz35_8 => ⟨rfl, ?_⟩))
        have r40 : (0 : Int) ≤ y36 ∧ y36 ≤ 65536 := rngE (show (0 : Int) ≤ F31 4 8 ∧ F31 4 8 ≤ 65536 from H.frng 4 8) (show F31 4 8 = y36 from (ey37))
        have r41 : (-2147483648 : Int) ≤ y38 ∧ y38 ≤ 2147483647 := rngE (show (-2147483648 : Int) ≤ F31 4 10 ∧ F31 4 10 ≤ 2147483647 from H.frng 4 10) (show F31 4 10 = y38 from (ey39))
        refine w_l2i rfl ?_
        refine Ew_of (pcₚ := 43) (fun _ => x_istore rfl) ?_
        refine Ew_of (pcₚ := 45) (fun _ => x_iload rfl rk_s) ?_
        refine Ew_of (pcₚ := 46) (fun _ => x_iconst rfl) ?_
        refine w_irem rfl (show inr (z35) ∧ 0 ≤ z35 by omega) (show inr (4) ∧ 0 < 4 from q_828) ?_
        refine w_ifne (t := 65) rfl rfl (show inr ((z35 % 4)) from q_829) (fun b42 => ?_) (fun b42 => ?_)
        · refine Ew_of (pcₚ := 66) (fun _ => x_aload_n rfl (rk_o (rk_o (l11_0) rfl rfl) rfl rfl)) ?_
          refine Ew_of (pcₚ := 68) (fun _ => x_iload rfl (rk_o (rk_s) rfl rfl)) ?_
          refine Ew_of (pcₚ := 69) (fun _ => x_iload_n rfl (rk_o (rk_o (l11_2) rfl rfl) rfl rfl)) ?_
          refine Ew_of (pcₚ := 71) (fun _ => x_iload rfl rk_s) ?_
          refine Ew_of (pcₚ := 72) (fun _ => x_iconst rfl) ?_
          refine w_irem rfl (show inr (z35) ∧ 0 ≤ z35 by omega) (show inr (4) ∧ 0 < 4 from q_828) ?_
          refine Ew_of (pcₚ := 75) (fun _ => x_iload rfl rk_s) ?_
          refine Ew_of (pcₚ := 76) (fun _ => x_iconst rfl) ?_
          refine w_idiv rfl (show inr (z35) ∧ 0 ≤ z35 by omega) (show inr (4) ∧ 0 < 4 from q_828) ?_
          refine Ew_of (pcₚ := 78) (fun _ => x_lload_n rfl (rk_o (rk_o (l11_3) rfl rfl) rfl rfl)) ?_
          refine w_inv H (o := 4) rfl rfl rfl (H.perm 4 rfl) rfl rfl (by rfl) (M340 H (y11_4_2) (((hS33 4 2 rfl).trans (ey11_4_2))) (y36) ((ey37)) (u4_9) (((((hS33 4 9 rfl).trans (hS_11 4 9 rfl)).trans (hS6 4 9 rfl)).trans (eu4_9))) (y38) ((ey39)) (show inr (y11_4_8) from q_12 r16) (show inr (u4_2) from q_831 h1) (show inr ((z35 % 4)) from q_829) (show inr ((z35 / 4)) from q_830 b30 pz35_2 pz35_3 pz35_5) (show inrJ (z8) from pz8_0) (show 0 ≤ (y36) ∧ (y36) ≤ (u4_9) from q_769 pz35_1 r40) (show 0 ≤ (u4_2) ∧ (u4_2) ≤ (y11_4_2) ∧ (y11_4_2) ≤ (u4_2) + (z8) ∧ (u4_2) + (z8) ≤ 65536 by omega) (show 1 ≤ ((z35 % 4)) ∧ ((z35 % 4)) ≤ 3 ∧ 0 ≤ ((z35 / 4)) ∧ ((z35 / 4)) ≤ 63 by omega) (show (y38) = 0 by omega) (fun σ F43 A44 H hS45 hA46 y48 ey49 y50 ey51 pz47_0 pz47_1 => ⟨rfl, ?_⟩))
          have r52 : (-2147483648 : Int) ≤ y48 ∧ y48 ≤ 2147483647 := rngE (show (-2147483648 : Int) ≤ F43 4 2 ∧ F43 4 2 ≤ 2147483647 from H.frng 4 2) (show F43 4 2 = y48 from (ey49))
          have r53 : (0 : Int) ≤ y50 ∧ y50 ≤ 65536 := rngE (show (0 : Int) ≤ F43 4 8 ∧ F43 4 8 ≤ 65536 from H.frng 4 8) (show F43 4 8 = y50 from (ey51))
          refine Ew_of (pcₚ := 11) (fun _ => x_goto rfl rfl) ?_
          have r54 : (-2147483648 : Int) ≤ F43 4 10 ∧ F43 4 10 ≤ 2147483647 := H.frng 4 10
          exact ih11 _ (by omega) _ σ _ _  (rk_o (rk_o (l11_0) rfl rfl) rfl rfl) (rk_o (rk_o (l11_2) rfl rfl) rfl rfl) (rk_o (rk_o (l11_3) rfl rfl) rfl rfl) H (SF_trans (SF_trans (hS_11) hS33 (any_sub rfl)) hS45 (any_sub rfl)) (SA_trans (SA_trans (hA_11) hA34 (any_subA rfl)) hA46 (any_subA rfl)) (y48) ((ey49)) (y50) ((ey51)) (F43 4 10) (rfl)  (show (y9) ≤ (y50) ∧ (y50) ≤ (u4_9) from q_834 j11_0 pz35_1 pz47_0) (show (u4_2) ≤ (y48) ∧ (y48) ≤ (u4_2) + (a1) from q_833 j11_1 pz47_1 pz8_2) (show (F43 4 10) ≠ 0 ∨ (y48) ≤ (u4_2) + (z8) from q_832 pz47_1) rfl
        · refine Ew_of (pcₚ := 51) (fun _ => x_aload_n rfl (rk_o (rk_o (l11_0) rfl rfl) rfl rfl)) ?_
          refine Ew_of (pcₚ := 53) (fun _ => x_iload rfl (rk_o (rk_s) rfl rfl)) ?_
          refine Ew_of (pcₚ := 54) (fun _ => x_iload_n rfl (rk_o (rk_o (l11_2) rfl rfl) rfl rfl)) ?_
          refine Ew_of (pcₚ := 56) (fun _ => x_iload rfl rk_s) ?_
          refine Ew_of (pcₚ := 57) (fun _ => x_iconst rfl) ?_
          refine w_idiv rfl (show inr (z35) ∧ 0 ≤ z35 by omega) (show inr (4) ∧ 0 < 4 from q_828) ?_
          refine Ew_of (pcₚ := 59) (fun _ => x_lload_n rfl (rk_o (rk_o (l11_3) rfl rfl) rfl rfl)) ?_
          refine w_inv H (o := 4) rfl rfl rfl (H.perm 4 rfl) rfl rfl (by rfl) (M339 H (y11_4_2) (((hS33 4 2 rfl).trans (ey11_4_2))) (y36) ((ey37)) (u4_9) (((((hS33 4 9 rfl).trans (hS_11 4 9 rfl)).trans (hS6 4 9 rfl)).trans (eu4_9))) (y38) ((ey39)) (show inr (y11_4_8) from q_12 r16) (show inr (u4_2) from q_831 h1) (show inr ((z35 / 4)) from q_835 b30 b42 pz35_2 pz35_3 pz35_5) (show inrJ (z8) from pz8_0) (show 0 ≤ (y36) ∧ (y36) ≤ (u4_9) from q_769 pz35_1 r40) (show 0 ≤ (u4_2) ∧ (u4_2) ≤ (y11_4_2) ∧ (y11_4_2) ≤ (u4_2) + (z8) ∧ (u4_2) + (z8) ≤ 65536 by omega) (show 0 ≤ ((z35 / 4)) ∧ ((z35 / 4)) ≤ 63 by omega) (show (y38) = 0 by omega) (fun σ F55 A56 H hS57 hA58 y60 ey61 y62 ey63 pz59_0 pz59_1 => ⟨rfl, ?_⟩))
          have r64 : (-2147483648 : Int) ≤ y60 ∧ y60 ≤ 2147483647 := rngE (show (-2147483648 : Int) ≤ F55 4 2 ∧ F55 4 2 ≤ 2147483647 from H.frng 4 2) (show F55 4 2 = y60 from (ey61))
          have r65 : (0 : Int) ≤ y62 ∧ y62 ≤ 65536 := rngE (show (0 : Int) ≤ F55 4 8 ∧ F55 4 8 ≤ 65536 from H.frng 4 8) (show F55 4 8 = y62 from (ey63))
          refine Ew_of (pcₚ := 81) (fun _ => x_goto rfl rfl) ?_
          refine Ew_of (pcₚ := 11) (fun _ => x_goto rfl rfl) ?_
          have r66 : (-2147483648 : Int) ≤ F55 4 10 ∧ F55 4 10 ≤ 2147483647 := H.frng 4 10
          exact ih11 _ (by omega) _ σ _ _  (rk_o (rk_o (l11_0) rfl rfl) rfl rfl) (rk_o (rk_o (l11_2) rfl rfl) rfl rfl) (rk_o (rk_o (l11_3) rfl rfl) rfl rfl) H (SF_trans (SF_trans (hS_11) hS33 (any_sub rfl)) hS57 (any_sub rfl)) (SA_trans (SA_trans (hA_11) hA34 (any_subA rfl)) hA58 (any_subA rfl)) (y60) ((ey61)) (y62) ((ey63)) (F55 4 10) (rfl)  (show (y9) ≤ (y62) ∧ (y62) ≤ (u4_9) from q_834 j11_0 pz35_1 pz59_0) (show (u4_2) ≤ (y60) ∧ (y60) ≤ (u4_2) + (a1) from q_833 j11_1 pz59_1 pz8_2) (show (F55 4 10) ≠ 0 ∨ (y60) ≤ (u4_2) + (z8) from q_832 pz59_1) rfl
