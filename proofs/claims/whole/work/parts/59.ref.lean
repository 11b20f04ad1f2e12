/-- Model.append -/
theorem M57b {σ0 σ : rS} {D N : Nat → Nat} {F : hF} {A : hA} {d c s : Nat} {Q : wQ} (H : HS σ0 σ D N F A) {a1 a2 : Int} (w11 : Int → Int) (ew11 : A 11 = w11) (h0 : inr (a1)) (h1 : inr (a2)) (h2 : 0 ≤ (a1) ∧ (a1) ≤ 3) (k : ∀ (z : Int) σ F' A', HS σ0 σ D N F' A' → SF [] F F' → SA [10, 11] A A' → ∀ v11 : Int → Int, A' 11 = v11 → ((z) = 0 ∨ (z) = 1) → (((w11)) ((a1)) ≤ ((v11)) ((a1))) → Q (some (I z)) σ c s) : Ew 57 (d + 0) 0 (rargs 0 [.ref (D 0), I a1, I a2]) [] σ c s Q := by
  refine Ew_of (pc' := 1) (fun _ => x_aload_n rfl rfl) ?_
  refine w_gT H (o := 0) (t := 11) rfl (H.perm 0 rfl) rfl rfl rfl rfl rfl rfl ?_
  refine Ew_of (pc' := 5) (fun _ => x_iload_n rfl rfl) ?_
  refine w_lI H (o := 11) (n := 4) rfl (H.perm 11 rfl) rfl rfl (H.fix 11 rfl rfl) (show 0 ≤ a1 ∧ a1 < ((4 : Nat) : Int) by omega) (by decide) (fun v1 ev1 qv1 => ?_)
  have qv1 : (0 : Int) ≤ v1 ∧ v1 ≤ 65536 := qv1
  have ev1 : (w11) (a1) = v1 := (congrFun (ew11) (a1)).symm.trans ev1
  refine Ew_of (pc' := 8) (fun _ => x_ldc (z := 65536) rfl (by decide)) ?_
  refine w_icmpne (t := 13) rfl rfl (show inr (v1) by omega) (show inr (65536) by omega) (fun b2 => ?_) (fun b2 => ?_)
  · refine Ew_of (pc' := 14) (fun _ => x_aload_n rfl rfl) ?_
    refine w_gT H (o := 0) (t := 10) rfl (H.perm 0 rfl) rfl rfl rfl rfl rfl rfl ?_
    refine Ew_of (pc' := 19) (fun _ => x_ldc (z := 65536) rfl (by decide)) ?_
    refine Ew_of (pc' := 20) (fun _ => x_iload_n rfl rfl) ?_
    refine w_imul rfl ?_
    refine Ew_of (pc' := 22) (fun _ => x_aload_n rfl rfl) ?_
    refine w_gT H (o := 0) (t := 11) rfl (H.perm 0 rfl) rfl rfl rfl rfl rfl rfl ?_
    refine Ew_of (pc' := 26) (fun _ => x_iload_n rfl rfl) ?_
    refine w_lI H (o := 11) (n := 4) rfl (H.perm 11 rfl) rfl rfl (H.fix 11 rfl rfl) (show 0 ≤ a1 ∧ a1 < ((4 : Nat) : Int) by omega) (by decide) (fun v3 ev3 qv3 => ?_)
    have qv3 : (0 : Int) ≤ v3 ∧ v3 ≤ 65536 := qv3
    have ev3 : (w11) (a1) = v3 := (congrFun (ew11) (a1)).symm.trans ev3
    refine w_iadd rfl ?_
    refine Ew_of (pc' := 29) (fun _ => x_iload_n rfl rfl) ?_
    refine Ew_of (pc' := 32) (fun _ => x_sipush (z := 255) rfl (by decide)) ?_
    refine w_iand rfl (show inr (a2) by omega) (show inr (255) by omega) (fun z4 gz4 gaz4 gbz4 => ?_)
    refine w_sI H (o := 10) (n := 262144) rfl (H.perm 10 rfl) rfl rfl (H.fix 10 rfl rfl) (show 0 ≤ ((65536 * a1) + v3) ∧ ((65536 * a1) + v3) < ((262144 : Nat) : Int) by omega) (by decide) (show (0 : Int) ≤ z4 ∧ z4 ≤ 255 by omega) (fun σ H => ?_)
    refine Ew_of (pc' := 35) (fun _ => x_aload_n rfl rfl) ?_
    refine w_gT H (o := 0) (t := 11) rfl (H.perm 0 rfl) rfl rfl rfl rfl rfl rfl ?_
    refine Ew_of (pc' := 39) (fun _ => x_iload_n rfl rfl) ?_
    refine Ew_of (pc' := 40) (fun _ => x_dup2 rfl rfl rfl) ?_
    refine w_lI H (o := 11) (n := 4) rfl (H.perm 11 rfl) rfl rfl (H.fix 11 rfl rfl) (show 0 ≤ a1 ∧ a1 < ((4 : Nat) : Int) by omega) (by decide) (fun v5 ev5 qv5 => ?_)
    have qv5 : (0 : Int) ≤ v5 ∧ v5 ≤ 65536 := qv5
    have ev5 : (w11) (a1) = v5 := (congrFun (ew11) (a1)).symm.trans ev5
    refine Ew_of (pc' := 42) (fun _ => x_iconst rfl) ?_
    refine w_iadd rfl ?_
    have hus : (upd1 ((w11)) ((a1)) (((v5 + 1)))) ((a1)) = ((v5 + 1)) := upd1_s
    refine w_sI H (o := 11) (n := 4) rfl (H.perm 11 rfl) rfl rfl (H.fix 11 rfl rfl) (show 0 ≤ a1 ∧ a1 < ((4 : Nat) : Int) by omega) (by decide) (show (0 : Int) ≤ (v5 + 1) ∧ (v5 + 1) ≤ 65536 by omega) (fun σ H => ?_)
    refine Ew_of (pc' := 45) (fun _ => x_iconst rfl) ?_
    exact w_ireturn rfl (k (1) σ _ _ H (SF_refl) (SA_upd (SA_upd (SA_refl) rfl) rfl) (upd1 (w11) (a1) ((v5 + 1))) (congrArg (fun q => upd1 q (a1) ((v5 + 1))) (ew11)) (show (1) = 0 ∨ (1) = 1 by omega) (show ((w11)) (a1) ≤ ((upd1 (w11) (a1) ((v5 + 1)))) (a1) by omega))
  · refine Ew_of (pc' := 12) (fun _ => x_iconst rfl) ?_
    exact w_ireturn rfl (k (0) σ _ _ H (SF_refl) (SA_refl) (w11) (ew11) (show (0) = 0 ∨ (0) = 1 by omega) (show ((w11)) (a1) ≤ ((w11)) (a1) by omega))
/-- Sums.begin -/
theorem M304b {σ0 σ : rS} {D N : Nat → Nat} {F : hF} {A : hA} {d c s : Nat} {Q : wQ} (H : HS σ0 σ D N F A) {a1 : Int} (h0 : inr (a1)) (k : ∀ σ F' A', HS σ0 σ D N F' A' → SF [(2, 1)] F F' → SA [] A A' → ∀ y2_1 : Int, F' 2 1 = y2_1 → ((y2_1) = (a1)) → Q none σ c s) : Ew 304 (d + 0) 0 (rargs 0 [.ref (D 2), I a1]) [] σ c s Q := by
  refine Ew_of (pc' := 1) (fun _ => x_aload_n rfl rfl) ?_
  refine Ew_of (pc' := 2) (fun _ => x_iload_n rfl rfl) ?_
  refine w_pI H (o := 2) rfl rfl (H.perm 2 rfl) rfl rfl rfl (fun _ => rfl) rfl (show (-2147483648 : Int) ≤ a1 ∧ a1 ≤ 2147483647 by omega) (fun σ H => ?_)
  exact w_ret rfl (k σ _ _ H (SF_upd (SF_refl) rfl) (SA_refl) (a1) (rfl) (show (a1) = a1 by omega))
/-- Model.feed -/
theorem M58 {σ0 σ : rS} {D N : Nat → Nat} {F : hF} {A : hA} {d c s : Nat} {Q : wQ} (H : HS σ0 σ D N F A) {a1 a2 a3 a4 a5 : Int} (h0 : inr (a1)) (h1 : inr (a2)) (h2 : inr (a3)) (h3 : inr (a4)) (h4 : inr (a5)) (k : ∀ (z : Int) σ F' A', HS σ0 σ D N F' A' → SF [] F F' → SA [10, 11] A A' → ((z) = 0 ∨ (z) = 1) → Q (some (I z)) σ c s) : Ew 58 (d + 1) 0 (rargs 0 [.ref (D 0), I a1, I a2, I a3, I a4, I a5]) [] σ c s Q := by
  refine Ew_of (pc' := 1) (fun _ => x_iload_n rfl rfl) ?_
  refine w_stat24 rfl rfl (by rfl) (M56 H (show inr (a1) by omega) (fun z5 σ F1 A2 H hS3 hA4 pz5_0 pz5_1 => ⟨rretB rfl pz5_0, ?_⟩))
  refine w_ifeq (t := 21) rfl rfl (show inr (z5) by omega) (fun b6 => ?_) (fun b6 => ?_)
  · refine Ew_of (pc' := 22) (fun _ => x_iconst rfl) ?_
    exact w_ireturn rfl (k (0) σ _ _ H (SF_trans (SF_refl) hS3 (any_sub rfl)) (SA_trans (SA_refl) hA4 (any_subA rfl)) (show (0) = 0 ∨ (0) = 1 by omega))
  · refine Ew_of (pc' := 8) (fun _ => x_aload_n rfl rfl) ?_
    refine w_gT H (o := 0) (t := 11) rfl (H.perm 0 rfl) rfl rfl rfl rfl rfl rfl ?_
    refine Ew_of (pc' := 12) (fun _ => x_iload_n rfl rfl) ?_
    refine w_lI H (o := 11) (n := 4) rfl (H.perm 11 rfl) rfl rfl (H.fix 11 rfl rfl) (show 0 ≤ a1 ∧ a1 < ((4 : Nat) : Int) by omega) (by decide) (fun v7 ev7 qv7 => ?_)
    have qv7 : (0 : Int) ≤ v7 ∧ v7 ≤ 65536 := qv7
    have ev7 : (A 11) (a1) = v7 := (congrFun (funext (hA4 11 rfl)) (a1)).symm.trans ev7
    refine Ew_of (pc' := 15) (fun _ => x_bipush (z := 16) rfl (by decide)) ?_
    refine w_iadd rfl ?_
    refine Ew_of (pc' := 18) (fun _ => x_ldc (z := 65536) rfl (by decide)) ?_
    refine w_icmple (t := 23) rfl rfl (show inr ((v7 + 16)) by omega) (show inr (65536) by omega) (fun b8 => ?_) (fun b8 => ?_)
    · refine Ew_of (pc' := 24) (fun _ => x_iconst rfl) ?_
      refine Ew_of (pc' := 26) (fun _ => x_istore rfl) ?_
      refine Ew_of (pc' := 27) (fun _ => x_iconst rfl) ?_
      refine Ew_of (pc' := 29) (fun _ => x_istore rfl) ?_
      suffices hl29 : ∀ (m : Nat), ∀ (ls : rO) (σ : rS) (F_29 : hF) (A_29 : hA) (x29_6 : Int) (x29_7 : Int), rlook ls 0 = some (.ref (D 0)) → rlook ls 1 = some (I (a1)) → rlook ls 2 = some (I (a2)) → rlook ls 3 = some (I (a3)) → rlook ls 4 = some (I (a4)) → rlook ls 5 = some (I (a5)) → rlook ls 6 = some (I (x29_6)) → rlook ls 7 = some (I (x29_7)) → HS σ0 σ D N F_29 A_29 → SF [] F1 F_29 → SA [10, 11] A2 A_29 → (inr (x29_6)) → (inr (x29_7)) → ((0) ≤ (x29_7)) → ((x29_7) ≤ (0) ∨ (x29_7) ≤ ((16))) → ((x29_6) = 0 ∨ (x29_6) = 1) → (((16)) - (x29_7)).toNat = m → Ew 58 (d + 1) 29 ls [] σ c s Q from
        hl29 _ _ σ _ _ (1) (0) (rk_o (rk_o (rfl) rfl rfl) rfl rfl) (rk_o (rk_o (rfl) rfl rfl) rfl rfl) (rk_o (rk_o (rfl) rfl rfl) rfl rfl) (rk_o (rk_o (rfl) rfl rfl) rfl rfl) (rk_o (rk_o (rfl) rfl rfl) rfl rfl) (rk_o (rk_o (rfl) rfl rfl) rfl rfl) (rk_o (rk_s) rfl rfl) (rk_s) H (SF_refl) (SA_refl)   (show inr (1) by omega) (show inr (0) by omega) (show (0) ≤ (0) by omega) (show (0) ≤ (0) ∨ (0) ≤ ((16)) by omega) (show (1) = 0 ∨ (1) = 1 by omega) rfl
      as_aux_lemma =>
      intro m
      induction m using Nat.strongRecOn with
      | _ m ih29 =>
        intro ls σ F_29 A_29 x29_6 x29_7 l29_0 l29_1 l29_2 l29_3 l29_4 l29_5 l29_6 l29_7 H hS_29 hA_29   j29_0 j29_1 j29_2 j29_3 j29_4 hm29
        refine Ew_of (pc' := 31) (fun _ => x_iload rfl l29_7) ?_
        refine Ew_of (pc' := 33) (fun _ => x_bipush (z := 16) rfl (by decide)) ?_
        refine w_icmpge (t := 112) rfl rfl (show inr (x29_7) by omega) (show inr (16) by omega) (fun b9 => ?_) (fun b9 => ?_)
        · refine Ew_of (pc' := 114) (fun _ => x_iload rfl l29_6) ?_
          exact w_ireturn rfl (k (x29_6) σ _ _ H (SF_trans (SF_trans (SF_refl) hS3 (any_sub rfl)) hS_29 (any_sub rfl)) (SA_trans (SA_trans (SA_refl) hA4 (any_subA rfl)) hA_29 (any_subA rfl)) (show (x29_6) = 0 ∨ (x29_6) = 1 by omega))
        · refine Ew_of (pc' := 38) (fun _ => x_iload rfl l29_7) ?_
          refine Ew_of (pc' := 39) (fun _ => x_iconst rfl) ?_
          have hc71 : ∀ (tc71_0 : Int), ∀ (ls : rO) (σ : rS) (F_c71 : hF) (A_c71 : hA) , rlook ls 0 = some (.ref (D 0)) → rlook ls 1 = some (I (a1)) → rlook ls 2 = some (I (a2)) → rlook ls 3 = some (I (a3)) → rlook ls 4 = some (I (a4)) → rlook ls 5 = some (I (a5)) → rlook ls 6 = some (I (x29_6)) → rlook ls 7 = some (I (x29_7)) → HS σ0 σ D N F_c71 A_c71 → SF [] F_29 F_c71 → SA [] A_29 A_c71 → (inr (tc71_0)) → (((x29_7) ≥ (4) ∧ (x29_7) ≥ (8) ∧ (x29_7) ≥ (12) ∧ (tc71_0) = (a5)) ∨ ((x29_7) ≥ (4) ∧ (x29_7) ≥ (8) ∧ (x29_7) < (12) ∧ (tc71_0) = (a4)) ∨ ((x29_7) ≥ (4) ∧ (x29_7) < (8) ∧ (tc71_0) = (a3)) ∨ ((x29_7) < (4) ∧ (tc71_0) = (a2))) → Ew 58 (d + 1) 71 ls [I (tc71_0)] σ c s Q := by
           as_aux_lemma =>
            intro tc71_0 ls σ F_c71 A_c71  lc71_0 lc71_1 lc71_2 lc71_3 lc71_4 lc71_5 lc71_6 lc71_7 H hS_c71 hA_c71   jc71_0 jc71_1
            refine Ew_of (pc' := 73) (fun _ => x_istore rfl) ?_
            refine Ew_of (pc' := 74) (fun _ => x_aload_n rfl (rk_o (lc71_0) rfl rfl)) ?_
            refine Ew_of (pc' := 75) (fun _ => x_iload_n rfl (rk_o (lc71_1) rfl rfl)) ?_
            refine Ew_of (pc' := 77) (fun _ => x_iload rfl rk_s) ?_
            refine Ew_of (pc' := 79) (fun _ => x_bipush (z := 24) rfl (by decide)) ?_
            refine Ew_of (pc' := 81) (fun _ => x_bipush (z := 8) rfl (by decide)) ?_
            refine Ew_of (pc' := 83) (fun _ => x_iload rfl (rk_o (lc71_7) rfl rfl)) ?_
            refine Ew_of (pc' := 84) (fun _ => x_iconst rfl) ?_
            refine w_irem rfl (show inr (x29_7) ∧ 0 ≤ x29_7 by omega) (show inr (4) ∧ 0 < 4 by omega) ?_
            refine w_imul rfl ?_
            refine w_isub rfl ?_
            refine w_ishrA rfl (fun z10 gz10 => ?_)
            refine w_inv H (o := 0) rfl rfl rfl (H.perm 0 rfl) rfl rfl (by rfl) (M57b H (A_29 11) (funext (hA_c71 11 rfl)) (show inr (a1) by omega) (show inr (z10) by omega) (show 0 ≤ (a1) ∧ (a1) ≤ 3 by omega) (fun z15 σ F11 A12 H hS13 hA14 wq16 ewq17 pz15_0 pz15_1 => ⟨rretB rfl pz15_0, ?_⟩))
            refine w_ifeq (t := 103) rfl rfl (show inr (z15) by omega) (fun b18 => ?_) (fun b18 => ?_)
            · refine Ew_of (pc' := 104) (fun _ => x_iconst rfl) ?_
              refine Ew_of (pc' := 106) (fun _ => x_istore rfl) ?_
              refine Ew_of (pc' := 109) (fun _ => x_iinc (len := 3) rfl (rk_o (rk_o (lc71_7) rfl rfl) rfl rfl)) ?_
              refine Ew_of (pc' := 29) (fun _ => x_goto rfl rfl) ?_
              exact ih29 _ (by omega) _ σ _ _ (0) ((x29_7 + 1)) (rk_o (rk_o (rk_o (lc71_0) rfl rfl) rfl rfl) rfl rfl) (rk_o (rk_o (rk_o (lc71_1) rfl rfl) rfl rfl) rfl rfl) (rk_o (rk_o (rk_o (lc71_2) rfl rfl) rfl rfl) rfl rfl) (rk_o (rk_o (rk_o (lc71_3) rfl rfl) rfl rfl) rfl rfl) (rk_o (rk_o (rk_o (lc71_4) rfl rfl) rfl rfl) rfl rfl) (rk_o (rk_o (rk_o (lc71_5) rfl rfl) rfl rfl) rfl rfl) (rk_o (rk_s) rfl rfl) (rk_s) H (SF_trans (SF_trans (hS_29) hS_c71 (any_sub rfl)) hS13 (any_sub rfl)) (SA_trans (SA_trans (hA_29) hA_c71 (any_subA rfl)) hA14 (any_subA rfl))   (show inr (0) by omega) (show inr ((x29_7 + 1)) by omega) (show (0) ≤ ((x29_7 + 1)) by omega) (show ((x29_7 + 1)) ≤ (0) ∨ ((x29_7 + 1)) ≤ ((16)) by omega) (show (0) = 0 ∨ (0) = 1 by omega) rfl
            · refine Ew_of (pc' := 96) (fun _ => x_iload rfl (rk_o (lc71_6) rfl rfl)) ?_
              refine w_ifeq (t := 103) rfl rfl (show inr (x29_6) by omega) (fun b19 => ?_) (fun b19 => ?_)
              · refine Ew_of (pc' := 104) (fun _ => x_iconst rfl) ?_
                refine Ew_of (pc' := 106) (fun _ => x_istore rfl) ?_
                refine Ew_of (pc' := 109) (fun _ => x_iinc (len := 3) rfl (rk_o (rk_o (lc71_7) rfl rfl) rfl rfl)) ?_
                refine Ew_of (pc' := 29) (fun _ => x_goto rfl rfl) ?_
                exact ih29 _ (by omega) _ σ _ _ (0) ((x29_7 + 1)) (rk_o (rk_o (rk_o (lc71_0) rfl rfl) rfl rfl) rfl rfl) (rk_o (rk_o (rk_o (lc71_1) rfl rfl) rfl rfl) rfl rfl) (rk_o (rk_o (rk_o (lc71_2) rfl rfl) rfl rfl) rfl rfl) (rk_o (rk_o (rk_o (lc71_3) rfl rfl) rfl rfl) rfl rfl) (rk_o (rk_o (rk_o (lc71_4) rfl rfl) rfl rfl) rfl rfl) (rk_o (rk_o (rk_o (lc71_5) rfl rfl) rfl rfl) rfl rfl) (rk_o (rk_s) rfl rfl) (rk_s) H (SF_trans (SF_trans (hS_29) hS_c71 (any_sub rfl)) hS13 (any_sub rfl)) (SA_trans (SA_trans (hA_29) hA_c71 (any_subA rfl)) hA14 (any_subA rfl))   (show inr (0) by omega) (show inr ((x29_7 + 1)) by omega) (show (0) ≤ ((x29_7 + 1)) by omega) (show ((x29_7 + 1)) ≤ (0) ∨ ((x29_7 + 1)) ≤ ((16)) by omega) (show (0) = 0 ∨ (0) = 1 by omega) rfl
              · refine Ew_of (pc' := 100) (fun _ => x_iconst rfl) ?_
                refine Ew_of (pc' := 104) (fun _ => x_goto rfl rfl) ?_
                refine Ew_of (pc' := 106) (fun _ => x_istore rfl) ?_
                refine Ew_of (pc' := 109) (fun _ => x_iinc (len := 3) rfl (rk_o (rk_o (lc71_7) rfl rfl) rfl rfl)) ?_
                refine Ew_of (pc' := 29) (fun _ => x_goto rfl rfl) ?_
                exact ih29 _ (by omega) _ σ _ _ (1) ((x29_7 + 1)) (rk_o (rk_o (rk_o (lc71_0) rfl rfl) rfl rfl) rfl rfl) (rk_o (rk_o (rk_o (lc71_1) rfl rfl) rfl rfl) rfl rfl) (rk_o (rk_o (rk_o (lc71_2) rfl rfl) rfl rfl) rfl rfl) (rk_o (rk_o (rk_o (lc71_3) rfl rfl) rfl rfl) rfl rfl) (rk_o (rk_o (rk_o (lc71_4) rfl rfl) rfl rfl) rfl rfl) (rk_o (rk_o (rk_o (lc71_5) rfl rfl) rfl rfl) rfl rfl) (rk_o (rk_s) rfl rfl) (rk_s) H (SF_trans (SF_trans (hS_29) hS_c71 (any_sub rfl)) hS13 (any_sub rfl)) (SA_trans (SA_trans (hA_29) hA_c71 (any_subA rfl)) hA14 (any_subA rfl))   (show inr (1) by omega) (show inr ((x29_7 + 1)) by omega) (show (0) ≤ ((x29_7 + 1)) by omega) (show ((x29_7 + 1)) ≤ (0) ∨ ((x29_7 + 1)) ≤ ((16)) by omega) (show (1) = 0 ∨ (1) = 1 by omega) rfl
          refine w_icmpge (t := 46) rfl rfl (show inr (x29_7) by omega) (show inr (4) by omega) (fun b20 => ?_) (fun b20 => ?_)
          · refine Ew_of (pc' := 48) (fun _ => x_iload rfl l29_7) ?_
            refine Ew_of (pc' := 50) (fun _ => x_bipush (z := 8) rfl (by decide)) ?_
            refine w_icmpge (t := 57) rfl rfl (show inr (x29_7) by omega) (show inr (8) by omega) (fun b21 => ?_) (fun b21 => ?_)
            · refine Ew_of (pc' := 59) (fun _ => x_iload rfl l29_7) ?_
              refine Ew_of (pc' := 61) (fun _ => x_bipush (z := 12) rfl (by decide)) ?_
              refine w_icmpge (t := 69) rfl rfl (show inr (x29_7) by omega) (show inr (12) by omega) (fun b22 => ?_) (fun b22 => ?_)
              · refine Ew_of (pc' := 71) (fun _ => x_iload rfl l29_5) ?_
                exact hc71 (a5) _ σ _ _  (l29_0) (l29_1) (l29_2) (l29_3) (l29_4) (l29_5) (l29_6) (l29_7) H (SF_refl) (SA_refl)   (show inr (a5) by omega) (show ((x29_7) ≥ (4) ∧ (x29_7) ≥ (8) ∧ (x29_7) ≥ (12) ∧ (a5) = (a5)) ∨ ((x29_7) ≥ (4) ∧ (x29_7) ≥ (8) ∧ (x29_7) < (12) ∧ (a5) = (a4)) ∨ ((x29_7) ≥ (4) ∧ (x29_7) < (8) ∧ (a5) = (a3)) ∨ ((x29_7) < (4) ∧ (a5) = (a2)) by omega)
              · refine Ew_of (pc' := 66) (fun _ => x_iload rfl l29_4) ?_
                refine Ew_of (pc' := 71) (fun _ => x_goto rfl rfl) ?_
                exact hc71 (a4) _ σ _ _  (l29_0) (l29_1) (l29_2) (l29_3) (l29_4) (l29_5) (l29_6) (l29_7) H (SF_refl) (SA_refl)   (show inr (a4) by omega) (show ((x29_7) ≥ (4) ∧ (x29_7) ≥ (8) ∧ (x29_7) ≥ (12) ∧ (a4) = (a5)) ∨ ((x29_7) ≥ (4) ∧ (x29_7) ≥ (8) ∧ (x29_7) < (12) ∧ (a4) = (a4)) ∨ ((x29_7) ≥ (4) ∧ (x29_7) < (8) ∧ (a4) = (a3)) ∨ ((x29_7) < (4) ∧ (a4) = (a2)) by omega)
            · refine Ew_of (pc' := 54) (fun _ => x_iload_n rfl l29_3) ?_
              refine Ew_of (pc' := 71) (fun _ => x_goto rfl rfl) ?_
              exact hc71 (a3) _ σ _ _  (l29_0) (l29_1) (l29_2) (l29_3) (l29_4) (l29_5) (l29_6) (l29_7) H (SF_refl) (SA_refl)   (show inr (a3) by omega) (show ((x29_7) ≥ (4) ∧ (x29_7) ≥ (8) ∧ (x29_7) ≥ (12) ∧ (a3) = (a5)) ∨ ((x29_7) ≥ (4) ∧ (x29_7) ≥ (8) ∧ (x29_7) < (12) ∧ (a3) = (a4)) ∨ ((x29_7) ≥ (4) ∧ (x29_7) < (8) ∧ (a3) = (a3)) ∨ ((x29_7) < (4) ∧ (a3) = (a2)) by omega)
          · refine Ew_of (pc' := 43) (fun _ => x_iload_n rfl l29_2) ?_
            refine Ew_of (pc' := 71) (fun _ => x_goto rfl rfl) ?_
            exact hc71 (a2) _ σ _ _  (l29_0) (l29_1) (l29_2) (l29_3) (l29_4) (l29_5) (l29_6) (l29_7) H (SF_refl) (SA_refl)   (show inr (a2) by omega) (show ((x29_7) ≥ (4) ∧ (x29_7) ≥ (8) ∧ (x29_7) ≥ (12) ∧ (a2) = (a5)) ∨ ((x29_7) ≥ (4) ∧ (x29_7) ≥ (8) ∧ (x29_7) < (12) ∧ (a2) = (a4)) ∨ ((x29_7) ≥ (4) ∧ (x29_7) < (8) ∧ (a2) = (a3)) ∨ ((x29_7) < (4) ∧ (a2) = (a2)) by omega)
    · refine Ew_of (pc' := 22) (fun _ => x_iconst rfl) ?_
      exact w_ireturn rfl (k (0) σ _ _ H (SF_trans (SF_refl) hS3 (any_sub rfl)) (SA_trans (SA_refl) hA4 (any_subA rfl)) (show (0) = 0 ∨ (0) = 1 by omega))
/-- Model.give -/
theorem M59 {σ0 σ : rS} {D N : Nat → Nat} {F : hF} {A : hA} {d c s : Nat} {Q : wQ} (H : HS σ0 σ D N F A) {a1 a2 a3 : Int} (h0 : inr (a1)) (h1 : inr (a2)) (h2 : inrJ (a3)) (k : ∀ (z : Int) σ F' A', HS σ0 σ D N F' A' → SF [] F F' → SA [10, 11] A A' → ((z) = 0 ∨ (z) = 1) → Q (some (I z)) σ c s) : Ew 59 (d + 1) 0 (rargs 0 [.ref (D 0), I a1, I a2, J a3]) [] σ c s Q := by
  refine Ew_of (pc' := 1) (fun _ => x_iload_n rfl rfl) ?_
  refine w_stat24 rfl rfl (by rfl) (M56 H (show inr (a1) by omega) (fun z5 σ F1 A2 H hS3 hA4 pz5_0 pz5_1 => ⟨rretB rfl pz5_0, ?_⟩))
  refine w_ifeq (t := 31) rfl rfl (show inr (z5) by omega) (fun b6 => ?_) (fun b6 => ?_)
  · refine Ew_of (pc' := 32) (fun _ => x_iconst rfl) ?_
    exact w_ireturn rfl (k (0) σ _ _ H (SF_trans (SF_refl) hS3 (any_sub rfl)) (SA_trans (SA_refl) hA4 (any_subA rfl)) (show (0) = 0 ∨ (0) = 1 by omega))
  · refine Ew_of (pc' := 8) (fun _ => x_iload_n rfl rfl) ?_
    refine Ew_of (pc' := 9) (fun _ => x_iconst rfl) ?_
    refine w_icmplt (t := 31) rfl rfl (show inr (a2) by omega) (show inr (1) by omega) (fun b7 => ?_) (fun b7 => ?_)
    · refine Ew_of (pc' := 32) (fun _ => x_iconst rfl) ?_
      exact w_ireturn rfl (k (0) σ _ _ H (SF_trans (SF_refl) hS3 (any_sub rfl)) (SA_trans (SA_refl) hA4 (any_subA rfl)) (show (0) = 0 ∨ (0) = 1 by omega))
    · refine Ew_of (pc' := 13) (fun _ => x_iload_n rfl rfl) ?_
      refine Ew_of (pc' := 15) (fun _ => x_bipush (z := 8) rfl (by decide)) ?_
      refine w_icmpgt (t := 31) rfl rfl (show inr (a2) by omega) (show inr (8) by omega) (fun b8 => ?_) (fun b8 => ?_)
      · refine Ew_of (pc' := 32) (fun _ => x_iconst rfl) ?_
        exact w_ireturn rfl (k (0) σ _ _ H (SF_trans (SF_refl) hS3 (any_sub rfl)) (SA_trans (SA_refl) hA4 (any_subA rfl)) (show (0) = 0 ∨ (0) = 1 by omega))
      · refine Ew_of (pc' := 19) (fun _ => x_aload_n rfl rfl) ?_
        refine w_gT H (o := 0) (t := 11) rfl (H.perm 0 rfl) rfl rfl rfl rfl rfl rfl ?_
        refine Ew_of (pc' := 23) (fun _ => x_iload_n rfl rfl) ?_
        refine w_lI H (o := 11) (n := 4) rfl (H.perm 11 rfl) rfl rfl (H.fix 11 rfl rfl) (show 0 ≤ a1 ∧ a1 < ((4 : Nat) : Int) by omega) (by decide) (fun v9 ev9 qv9 => ?_)
        have qv9 : (0 : Int) ≤ v9 ∧ v9 ≤ 65536 := qv9
        have ev9 : (A 11) (a1) = v9 := (congrFun (funext (hA4 11 rfl)) (a1)).symm.trans ev9
        refine Ew_of (pc' := 25) (fun _ => x_iload_n rfl rfl) ?_
        refine w_iadd rfl ?_
        refine Ew_of (pc' := 28) (fun _ => x_ldc (z := 65536) rfl (by decide)) ?_
        refine w_icmple (t := 33) rfl rfl (show inr ((v9 + a2)) by omega) (show inr (65536) by omega) (fun b10 => ?_) (fun b10 => ?_)
        · refine Ew_of (pc' := 34) (fun _ => x_iconst rfl) ?_
          refine Ew_of (pc' := 36) (fun _ => x_istore rfl) ?_
          refine Ew_of (pc' := 37) (fun _ => x_iconst rfl) ?_
          refine Ew_of (pc' := 39) (fun _ => x_istore rfl) ?_
          suffices hl39 : ∀ (m : Nat), ∀ (ls : rO) (σ : rS) (F_39 : hF) (A_39 : hA) (x39_5 : Int) (x39_6 : Int), rlook ls 0 = some (.ref (D 0)) → rlook ls 1 = some (I (a1)) → rlook ls 2 = some (I (a2)) → rlook ls 3 = some (J (a3)) → rlook ls 5 = some (I (x39_5)) → rlook ls 6 = some (I (x39_6)) → HS σ0 σ D N F_39 A_39 → SF [] F1 F_39 → SA [10, 11] A2 A_39 → (inr (x39_5)) → (inr (x39_6)) → ((0) ≤ (x39_6)) → ((x39_6) ≤ (0) ∨ (x39_6) ≤ ((a2))) → ((x39_5) = 0 ∨ (x39_5) = 1) → (((a2)) - (x39_6)).toNat = m → Ew 59 (d + 1) 39 ls [] σ c s Q from
            hl39 _ _ σ _ _ (1) (0) (rk_o (rk_o (rfl) rfl rfl) rfl rfl) (rk_o (rk_o (rfl) rfl rfl) rfl rfl) (rk_o (rk_o (rfl) rfl rfl) rfl rfl) (rk_o (rk_o (rfl) rfl rfl) rfl rfl) (rk_o (rk_s) rfl rfl) (rk_s) H (SF_refl) (SA_refl)   (show inr (1) by omega) (show inr (0) by omega) (show (0) ≤ (0) by omega) (show (0) ≤ (0) ∨ (0) ≤ ((a2)) by omega) (show (1) = 0 ∨ (1) = 1 by omega) rfl
          as_aux_lemma =>
          intro m
          induction m using Nat.strongRecOn with
          | _ m ih39 =>
            intro ls σ F_39 A_39 x39_5 x39_6 l39_0 l39_1 l39_2 l39_3 l39_5 l39_6 H hS_39 hA_39   j39_0 j39_1 j39_2 j39_3 j39_4 hm39
            refine Ew_of (pc' := 41) (fun _ => x_iload rfl l39_6) ?_
            refine Ew_of (pc' := 42) (fun _ => x_iload_n rfl l39_2) ?_
            refine w_icmpge (t := 82) rfl rfl (show inr (x39_6) by omega) (show inr (a2) by omega) (fun b11 => ?_) (fun b11 => ?_)
            · refine Ew_of (pc' := 84) (fun _ => x_iload rfl l39_5) ?_
              exact w_ireturn rfl (k (x39_5) σ _ _ H (SF_trans (SF_trans (SF_refl) hS3 (any_sub rfl)) hS_39 (any_sub rfl)) (SA_trans (SA_trans (SA_refl) hA4 (any_subA rfl)) hA_39 (any_subA rfl)) (show (x39_5) = 0 ∨ (x39_5) = 1 by omega))
            · refine Ew_of (pc' := 46) (fun _ => x_aload_n rfl l39_0) ?_
              refine Ew_of (pc' := 47) (fun _ => x_iload_n rfl l39_1) ?_
              refine Ew_of (pc' := 48) (fun _ => x_lload_n rfl l39_3) ?_
              refine Ew_of (pc' := 50) (fun _ => x_bipush (z := 56) rfl (by decide)) ?_
              refine Ew_of (pc' := 52) (fun _ => x_bipush (z := 8) rfl (by decide)) ?_
              refine Ew_of (pc' := 54) (fun _ => x_iload rfl l39_6) ?_
              refine w_imul rfl ?_
              refine w_isub rfl ?_
              refine w_lshrA rfl (fun z12 gz12 => ?_)
              refine w_l2iA rfl (fun z13 gz13 => ?_)
              refine w_inv H (o := 0) rfl rfl rfl (H.perm 0 rfl) rfl rfl (by rfl) (M57b H (A_39 11) (rfl) (show inr (a1) by omega) (show inr (z13) by omega) (show 0 ≤ (a1) ∧ (a1) ≤ 3 by omega) (fun z18 σ F14 A15 H hS16 hA17 wq19 ewq20 pz18_0 pz18_1 => ⟨rretB rfl pz18_0, ?_⟩))
              refine w_ifeq (t := 73) rfl rfl (show inr (z18) by omega) (fun b21 => ?_) (fun b21 => ?_)
              · refine Ew_of (pc' := 74) (fun _ => x_iconst rfl) ?_
                refine Ew_of (pc' := 76) (fun _ => x_istore rfl) ?_
                refine Ew_of (pc' := 79) (fun _ => x_iinc (len := 3) rfl (rk_o (l39_6) rfl rfl)) ?_
                refine Ew_of (pc' := 39) (fun _ => x_goto rfl rfl) ?_
                exact ih39 _ (by omega) _ σ _ _ (0) ((x39_6 + 1)) (rk_o (rk_o (l39_0) rfl rfl) rfl rfl) (rk_o (rk_o (l39_1) rfl rfl) rfl rfl) (rk_o (rk_o (l39_2) rfl rfl) rfl rfl) (rk_o (rk_o (l39_3) rfl rfl) rfl rfl) (rk_o (rk_s) rfl rfl) (rk_s) H (SF_trans (hS_39) hS16 (any_sub rfl)) (SA_trans (hA_39) hA17 (any_subA rfl))   (show inr (0) by omega) (show inr ((x39_6 + 1)) by omega) (show (0) ≤ ((x39_6 + 1)) by omega) (show ((x39_6 + 1)) ≤ (0) ∨ ((x39_6 + 1)) ≤ ((a2)) by omega) (show (0) = 0 ∨ (0) = 1 by omega) rfl
              · refine Ew_of (pc' := 66) (fun _ => x_iload rfl l39_5) ?_
                refine w_ifeq (t := 73) rfl rfl (show inr (x39_5) by omega) (fun b22 => ?_) (fun b22 => ?_)
                · refine Ew_of (pc' := 74) (fun _ => x_iconst rfl) ?_
                  refine Ew_of (pc' := 76) (fun _ => x_istore rfl) ?_
                  refine Ew_of (pc' := 79) (fun _ => x_iinc (len := 3) rfl (rk_o (l39_6) rfl rfl)) ?_
                  refine Ew_of (pc' := 39) (fun _ => x_goto rfl rfl) ?_
                  exact ih39 _ (by omega) _ σ _ _ (0) ((x39_6 + 1)) (rk_o (rk_o (l39_0) rfl rfl) rfl rfl) (rk_o (rk_o (l39_1) rfl rfl) rfl rfl) (rk_o (rk_o (l39_2) rfl rfl) rfl rfl) (rk_o (rk_o (l39_3) rfl rfl) rfl rfl) (rk_o (rk_s) rfl rfl) (rk_s) H (SF_trans (hS_39) hS16 (any_sub rfl)) (SA_trans (hA_39) hA17 (any_subA rfl))   (show inr (0) by omega) (show inr ((x39_6 + 1)) by omega) (show (0) ≤ ((x39_6 + 1)) by omega) (show ((x39_6 + 1)) ≤ (0) ∨ ((x39_6 + 1)) ≤ ((a2)) by omega) (show (0) = 0 ∨ (0) = 1 by omega) rfl
                · refine Ew_of (pc' := 70) (fun _ => x_iconst rfl) ?_
                  refine Ew_of (pc' := 74) (fun _ => x_goto rfl rfl) ?_
                  refine Ew_of (pc' := 76) (fun _ => x_istore rfl) ?_
                  refine Ew_of (pc' := 79) (fun _ => x_iinc (len := 3) rfl (rk_o (l39_6) rfl rfl)) ?_
                  refine Ew_of (pc' := 39) (fun _ => x_goto rfl rfl) ?_
                  exact ih39 _ (by omega) _ σ _ _ (1) ((x39_6 + 1)) (rk_o (rk_o (l39_0) rfl rfl) rfl rfl) (rk_o (rk_o (l39_1) rfl rfl) rfl rfl) (rk_o (rk_o (l39_2) rfl rfl) rfl rfl) (rk_o (rk_o (l39_3) rfl rfl) rfl rfl) (rk_o (rk_s) rfl rfl) (rk_s) H (SF_trans (hS_39) hS16 (any_sub rfl)) (SA_trans (hA_39) hA17 (any_subA rfl))   (show inr (1) by omega) (show inr ((x39_6 + 1)) by omega) (show (0) ≤ ((x39_6 + 1)) by omega) (show ((x39_6 + 1)) ≤ (0) ∨ ((x39_6 + 1)) ≤ ((a2)) by omega) (show (1) = 0 ∨ (1) = 1 by omega) rfl
        · refine Ew_of (pc' := 32) (fun _ => x_iconst rfl) ?_
          exact w_ireturn rfl (k (0) σ _ _ H (SF_trans (SF_refl) hS3 (any_sub rfl)) (SA_trans (SA_refl) hA4 (any_subA rfl)) (show (0) = 0 ∨ (0) = 1 by omega))
/-- Model.again -/
theorem M60 {σ0 σ : rS} {D N : Nat → Nat} {F : hF} {A : hA} {d c s : Nat} {Q : wQ} (H : HS σ0 σ D N F A) {a1 a2 a3 : Int} (h0 : inr (a1)) (h1 : inr (a2)) (h2 : inr (a3)) (k : ∀ (z : Int) σ F' A', HS σ0 σ D N F' A' → SF [] F F' → SA [10, 11] A A' → ((z) = 0 ∨ (z) = 1) → Q (some (I z)) σ c s) : Ew 60 (d + 1) 0 (rargs 0 [.ref (D 0), I a1, I a2, I a3]) [] σ c s Q := by
  refine Ew_of (pc' := 1) (fun _ => x_iload_n rfl rfl) ?_
  refine w_stat24 rfl rfl (by rfl) (M56 H (show inr (a1) by omega) (fun z5 σ F1 A2 H hS3 hA4 pz5_0 pz5_1 => ⟨rretB rfl pz5_0, ?_⟩))
  refine w_ifeq (t := 45) rfl rfl (show inr (z5) by omega) (fun b6 => ?_) (fun b6 => ?_)
  · refine Ew_of (pc' := 46) (fun _ => x_iconst rfl) ?_
    exact w_ireturn rfl (k (0) σ _ _ H (SF_trans (SF_refl) hS3 (any_sub rfl)) (SA_trans (SA_refl) hA4 (any_subA rfl)) (show (0) = 0 ∨ (0) = 1 by omega))
  · refine Ew_of (pc' := 8) (fun _ => x_iload_n rfl rfl) ?_
    refine Ew_of (pc' := 9) (fun _ => x_iconst rfl) ?_
    refine w_icmplt (t := 45) rfl rfl (show inr (a2) by omega) (show inr (1) by omega) (fun b7 => ?_) (fun b7 => ?_)
    · refine Ew_of (pc' := 46) (fun _ => x_iconst rfl) ?_
      exact w_ireturn rfl (k (0) σ _ _ H (SF_trans (SF_refl) hS3 (any_sub rfl)) (SA_trans (SA_refl) hA4 (any_subA rfl)) (show (0) = 0 ∨ (0) = 1 by omega))
    · refine Ew_of (pc' := 13) (fun _ => x_iload_n rfl rfl) ?_
      refine Ew_of (pc' := 14) (fun _ => x_aload_n rfl rfl) ?_
      refine w_gT H (o := 0) (t := 11) rfl (H.perm 0 rfl) rfl rfl rfl rfl rfl rfl ?_
      refine Ew_of (pc' := 18) (fun _ => x_iload_n rfl rfl) ?_
      refine w_lI H (o := 11) (n := 4) rfl (H.perm 11 rfl) rfl rfl (H.fix 11 rfl rfl) (show 0 ≤ a1 ∧ a1 < ((4 : Nat) : Int) by omega) (by decide) (fun v8 ev8 qv8 => ?_)
      have qv8 : (0 : Int) ≤ v8 ∧ v8 ≤ 65536 := qv8
      have ev8 : (A 11) (a1) = v8 := (congrFun (funext (hA4 11 rfl)) (a1)).symm.trans ev8
      refine w_icmpgt (t := 45) rfl rfl (show inr (a2) by omega) (show inr (v8) by omega) (fun b9 => ?_) (fun b9 => ?_)
      · refine Ew_of (pc' := 46) (fun _ => x_iconst rfl) ?_
        exact w_ireturn rfl (k (0) σ _ _ H (SF_trans (SF_refl) hS3 (any_sub rfl)) (SA_trans (SA_refl) hA4 (any_subA rfl)) (show (0) = 0 ∨ (0) = 1 by omega))
      · refine Ew_of (pc' := 23) (fun _ => x_iload_n rfl rfl) ?_
        refine w_iflt (t := 45) rfl rfl (show inr (a3) by omega) (fun b10 => ?_) (fun b10 => ?_)
        · refine Ew_of (pc' := 46) (fun _ => x_iconst rfl) ?_
          exact w_ireturn rfl (k (0) σ _ _ H (SF_trans (SF_refl) hS3 (any_sub rfl)) (SA_trans (SA_refl) hA4 (any_subA rfl)) (show (0) = 0 ∨ (0) = 1 by omega))
        · refine Ew_of (pc' := 27) (fun _ => x_iload_n rfl rfl) ?_
          refine w_i2l rfl (show inr (a2) by omega) ?_
          refine Ew_of (pc' := 29) (fun _ => x_iload_n rfl rfl) ?_
          refine w_i2l rfl (show inr (a3) by omega) ?_
          have hm0 : 0 ≤ (a2) * (a3) := Int.mul_nonneg (by omega) (by omega)
          have hm1 : (a2) * (a3) ≤ 65536 * 2147483647 := Int.mul_le_mul (by omega) (by omega) (by omega) (by omega)
          refine w_lmul rfl ?_
          refine Ew_of (pc' := 33) (fun _ => x_ldc (z := 65536) rfl (by decide)) ?_
          refine Ew_of (pc' := 34) (fun _ => x_aload_n rfl rfl) ?_
          refine w_gT H (o := 0) (t := 11) rfl (H.perm 0 rfl) rfl rfl rfl rfl rfl rfl ?_
          refine Ew_of (pc' := 38) (fun _ => x_iload_n rfl rfl) ?_
          refine w_lI H (o := 11) (n := 4) rfl (H.perm 11 rfl) rfl rfl (H.fix 11 rfl rfl) (show 0 ≤ a1 ∧ a1 < ((4 : Nat) : Int) by omega) (by decide) (fun v11 ev11 qv11 => ?_)
          have qv11 : (0 : Int) ≤ v11 ∧ v11 ≤ 65536 := qv11
          have ev11 : (A 11) (a1) = v11 := (congrFun (funext (hA4 11 rfl)) (a1)).symm.trans ev11
          refine w_isub rfl ?_
          refine w_i2l rfl (show inr ((65536 - v11)) by omega) ?_
          refine w_lcmp rfl (show inrJ ((a2 * a3)) by omega) (show inrJ ((65536 - v11)) by omega) (fun z12 gz12 gaz12 gbz12 => ?_)
          refine w_ifle (t := 47) rfl rfl (show inr (z12) by omega) (fun b13 => ?_) (fun b13 => ?_)
          · refine Ew_of (pc' := 48) (fun _ => x_iconst rfl) ?_
            refine Ew_of (pc' := 50) (fun _ => x_istore rfl) ?_
            refine Ew_of (pc' := 51) (fun _ => x_iconst rfl) ?_
            refine Ew_of (pc' := 53) (fun _ => x_istore rfl) ?_
            suffices hl53 : ∀ (m : Nat), ∀ (ls : rO) (σ : rS) (F_53 : hF) (A_53 : hA) (x53_4 : Int) (x53_5 : Int), rlook ls 0 = some (.ref (D 0)) → rlook ls 1 = some (I (a1)) → rlook ls 2 = some (I (a2)) → rlook ls 3 = some (I (a3)) → rlook ls 4 = some (I (x53_4)) → rlook ls 5 = some (I (x53_5)) → HS σ0 σ D N F_53 A_53 → SF [] F1 F_53 → SA [10, 11] A2 A_53 → ∀ w53_11 : Int → Int, A_53 11 = w53_11 → (inr (x53_4)) → (inr (x53_5)) → (0 ≤ (x53_5)) → ((x53_4) = 0 ∨ (x53_4) = 1) → ((a2) ≤ ((w53_11)) ((a1))) → ((a2) * (a3) - (x53_5)).toNat = m → Ew 60 (d + 1) 53 ls [] σ c s Q from
              hl53 _ _ σ _ _ (1) (0) (rk_o (rk_o (rfl) rfl rfl) rfl rfl) (rk_o (rk_o (rfl) rfl rfl) rfl rfl) (rk_o (rk_o (rfl) rfl rfl) rfl rfl) (rk_o (rk_o (rfl) rfl rfl) rfl rfl) (rk_o (rk_s) rfl rfl) (rk_s) H (SF_refl) (SA_refl)  (A 11) (funext (hA4 11 rfl)) (show inr (1) by omega) (show inr (0) by omega) (show 0 ≤ (0) by omega) (show (1) = 0 ∨ (1) = 1 by omega) (show (a2) ≤ ((A 11)) ((a1)) by omega) rfl
            as_aux_lemma =>
            intro m
            induction m using Nat.strongRecOn with
            | _ m ih53 =>
              intro ls σ F_53 A_53 x53_4 x53_5 l53_0 l53_1 l53_2 l53_3 l53_4 l53_5 H hS_53 hA_53  w53_11 ew53_11 j53_0 j53_1 j53_2 j53_3 j53_4 hm53
              refine Ew_of (pc' := 55) (fun _ => x_iload rfl l53_5) ?_
              refine Ew_of (pc' := 56) (fun _ => x_iload_n rfl l53_2) ?_
              refine Ew_of (pc' := 57) (fun _ => x_iload_n rfl l53_3) ?_
              refine w_imul rfl ?_
              refine w_icmpge (t := 105) rfl rfl (show inr (x53_5) by omega) (show inr ((a2 * a3)) by omega) (fun b14 => ?_) (fun b14 => ?_)
              · refine Ew_of (pc' := 107) (fun _ => x_iload rfl l53_4) ?_
                exact w_ireturn rfl (k (x53_4) σ _ _ H (SF_trans (SF_trans (SF_refl) hS3 (any_sub rfl)) hS_53 (any_sub rfl)) (SA_trans (SA_trans (SA_refl) hA4 (any_subA rfl)) hA_53 (any_subA rfl)) (show (x53_4) = 0 ∨ (x53_4) = 1 by omega))
              · refine Ew_of (pc' := 62) (fun _ => x_aload_n rfl l53_0) ?_
                refine Ew_of (pc' := 63) (fun _ => x_iload_n rfl l53_1) ?_
                refine Ew_of (pc' := 64) (fun _ => x_aload_n rfl l53_0) ?_
                refine w_gT H (o := 0) (t := 10) rfl (H.perm 0 rfl) rfl rfl rfl rfl rfl rfl ?_
                refine Ew_of (pc' := 69) (fun _ => x_ldc (z := 65536) rfl (by decide)) ?_
                refine Ew_of (pc' := 70) (fun _ => x_iload_n rfl l53_1) ?_
                refine w_imul rfl ?_
                refine Ew_of (pc' := 72) (fun _ => x_aload_n rfl l53_0) ?_
                refine w_gT H (o := 0) (t := 11) rfl (H.perm 0 rfl) rfl rfl rfl rfl rfl rfl ?_
                refine Ew_of (pc' := 76) (fun _ => x_iload_n rfl l53_1) ?_
                refine w_lI H (o := 11) (n := 4) rfl (H.perm 11 rfl) rfl rfl (H.fix 11 rfl rfl) (show 0 ≤ a1 ∧ a1 < ((4 : Nat) : Int) by omega) (by decide) (fun v15 ev15 qv15 => ?_)
                have qv15 : (0 : Int) ≤ v15 ∧ v15 ≤ 65536 := qv15
                have ev15 : (w53_11) (a1) = v15 := (congrFun (ew53_11) (a1)).symm.trans ev15
                refine w_iadd rfl ?_
                refine Ew_of (pc' := 79) (fun _ => x_iload_n rfl l53_2) ?_
                refine w_isub rfl ?_
                refine w_lI H (o := 10) (n := 262144) rfl (H.perm 10 rfl) rfl rfl (H.fix 10 rfl rfl) (show 0 ≤ (((65536 * a1) + v15) - a2) ∧ (((65536 * a1) + v15) - a2) < ((262144 : Nat) : Int) by omega) (by decide) (fun v16 ev16 qv16 => ?_)
                have qv16 : (0 : Int) ≤ v16 ∧ v16 ≤ 255 := qv16
                have ev16 : (A_53 10) ((((65536 * a1) + v15) - a2)) = v16 := (congrFun (rfl : A_53 10 = A_53 10) ((((65536 * a1) + v15) - a2))).symm.trans ev16
                refine w_inv H (o := 0) rfl rfl rfl (H.perm 0 rfl) rfl rfl (by rfl) (M57b H (w53_11) (ew53_11) (show inr (a1) by omega) (show inr (v16) by omega) (show 0 ≤ (a1) ∧ (a1) ≤ 3 by omega) (fun z21 σ F17 A18 H hS19 hA20 wq22 ewq23 pz21_0 pz21_1 => ⟨rretB rfl pz21_0, ?_⟩))
                refine w_ifeq (t := 96) rfl rfl (show inr (z21) by omega) (fun b24 => ?_) (fun b24 => ?_)
                · refine Ew_of (pc' := 97) (fun _ => x_iconst rfl) ?_
                  refine Ew_of (pc' := 99) (fun _ => x_istore rfl) ?_
                  refine Ew_of (pc' := 102) (fun _ => x_iinc (len := 3) rfl (rk_o (l53_5) rfl rfl)) ?_
                  refine Ew_of (pc' := 53) (fun _ => x_goto rfl rfl) ?_
                  exact ih53 _ (by omega) _ σ _ _ (0) ((x53_5 + 1)) (rk_o (rk_o (l53_0) rfl rfl) rfl rfl) (rk_o (rk_o (l53_1) rfl rfl) rfl rfl) (rk_o (rk_o (l53_2) rfl rfl) rfl rfl) (rk_o (rk_o (l53_3) rfl rfl) rfl rfl) (rk_o (rk_s) rfl rfl) (rk_s) H (SF_trans (hS_53) hS19 (any_sub rfl)) (SA_trans (hA_53) hA20 (any_subA rfl))  (wq22) (ewq23) (show inr (0) by omega) (show inr ((x53_5 + 1)) by omega) (show 0 ≤ ((x53_5 + 1)) by omega) (show (0) = 0 ∨ (0) = 1 by omega) (show (a2) ≤ ((wq22)) ((a1)) by omega) rfl
                · refine Ew_of (pc' := 89) (fun _ => x_iload rfl l53_4) ?_
                  refine w_ifeq (t := 96) rfl rfl (show inr (x53_4) by omega) (fun b25 => ?_) (fun b25 => ?_)
                  · refine Ew_of (pc' := 97) (fun _ => x_iconst rfl) ?_
                    refine Ew_of (pc' := 99) (fun _ => x_istore rfl) ?_
                    refine Ew_of (pc' := 102) (fun _ => x_iinc (len := 3) rfl (rk_o (l53_5) rfl rfl)) ?_
                    refine Ew_of (pc' := 53) (fun _ => x_goto rfl rfl) ?_
                    exact ih53 _ (by omega) _ σ _ _ (0) ((x53_5 + 1)) (rk_o (rk_o (l53_0) rfl rfl) rfl rfl) (rk_o (rk_o (l53_1) rfl rfl) rfl rfl) (rk_o (rk_o (l53_2) rfl rfl) rfl rfl) (rk_o (rk_o (l53_3) rfl rfl) rfl rfl) (rk_o (rk_s) rfl rfl) (rk_s) H (SF_trans (hS_53) hS19 (any_sub rfl)) (SA_trans (hA_53) hA20 (any_subA rfl))  (wq22) (ewq23) (show inr (0) by omega) (show inr ((x53_5 + 1)) by omega) (show 0 ≤ ((x53_5 + 1)) by omega) (show (0) = 0 ∨ (0) = 1 by omega) (show (a2) ≤ ((wq22)) ((a1)) by omega) rfl
                  · refine Ew_of (pc' := 93) (fun _ => x_iconst rfl) ?_
                    refine Ew_of (pc' := 97) (fun _ => x_goto rfl rfl) ?_
                    refine Ew_of (pc' := 99) (fun _ => x_istore rfl) ?_
                    refine Ew_of (pc' := 102) (fun _ => x_iinc (len := 3) rfl (rk_o (l53_5) rfl rfl)) ?_
                    refine Ew_of (pc' := 53) (fun _ => x_goto rfl rfl) ?_
                    exact ih53 _ (by omega) _ σ _ _ (1) ((x53_5 + 1)) (rk_o (rk_o (l53_0) rfl rfl) rfl rfl) (rk_o (rk_o (l53_1) rfl rfl) rfl rfl) (rk_o (rk_o (l53_2) rfl rfl) rfl rfl) (rk_o (rk_o (l53_3) rfl rfl) rfl rfl) (rk_o (rk_s) rfl rfl) (rk_s) H (SF_trans (hS_53) hS19 (any_sub rfl)) (SA_trans (hA_53) hA20 (any_subA rfl))  (wq22) (ewq23) (show inr (1) by omega) (show inr ((x53_5 + 1)) by omega) (show 0 ≤ ((x53_5 + 1)) by omega) (show (1) = 0 ∨ (1) = 1 by omega) (show (a2) ≤ ((wq22)) ((a1)) by omega) rfl
          · refine Ew_of (pc' := 46) (fun _ => x_iconst rfl) ?_
            exact w_ireturn rfl (k (0) σ _ _ H (SF_trans (SF_refl) hS3 (any_sub rfl)) (SA_trans (SA_refl) hA4 (any_subA rfl)) (show (0) = 0 ∨ (0) = 1 by omega))
/-- Model.join -/
theorem M63 {σ0 σ : rS} {D N : Nat → Nat} {F : hF} {A : hA} {d c s : Nat} {Q : wQ} (H : HS σ0 σ D N F A) {a1 a2 a3 a4 : Int} (h0 : inr (a1)) (h1 : inr (a2)) (h2 : inr (a3)) (h3 : inr (a4)) (k : ∀ (z : Int) σ F' A', HS σ0 σ D N F' A' → SF [] F F' → SA [10, 11] A A' → ((z) = 0 ∨ (z) = 1) → Q (some (I z)) σ c s) : Ew 63 (d + 1) 0 (rargs 0 [.ref (D 0), I a1, I a2, I a3, I a4]) [] σ c s Q := by
  refine Ew_of (pc' := 1) (fun _ => x_iload_n rfl rfl) ?_
  refine w_stat24 rfl rfl (by rfl) (M56 H (show inr (a1) by omega) (fun z5 σ F1 A2 H hS3 hA4 pz5_0 pz5_1 => ⟨rretB rfl pz5_0, ?_⟩))
  refine w_ifeq (t := 14) rfl rfl (show inr (z5) by omega) (fun b6 => ?_) (fun b6 => ?_)
  · refine Ew_of (pc' := 15) (fun _ => x_iconst rfl) ?_
    exact w_ireturn rfl (k (0) σ _ _ H (SF_trans (SF_refl) hS3 (any_sub rfl)) (SA_trans (SA_refl) hA4 (any_subA rfl)) (show (0) = 0 ∨ (0) = 1 by omega))
  · refine Ew_of (pc' := 8) (fun _ => x_iload_n rfl rfl) ?_
    refine w_stat24 rfl rfl (by rfl) (M56 H (show inr (a2) by omega) (fun z11 σ F7 A8 H hS9 hA10 pz11_0 pz11_1 => ⟨rretB rfl pz11_0, ?_⟩))
    refine w_ifne (t := 16) rfl rfl (show inr (z11) by omega) (fun b12 => ?_) (fun b12 => ?_)
    · have hc35 : ∀ (tc35_0 : Int), ∀ (ls : rO) (σ : rS) (F_c35 : hF) (A_c35 : hA) , rlook ls 0 = some (.ref (D 0)) → rlook ls 1 = some (I (a1)) → rlook ls 2 = some (I (a2)) → rlook ls 3 = some (I (a3)) → HS σ0 σ D N F_c35 A_c35 → SF [] F7 F_c35 → SA [] A8 A_c35 → (inr (tc35_0)) → ((tc35_0) = 0 ∨ 0 ≤ (a3) ∧ (a3) ≤ (a4) ∧ (a4) ≤ 65536 ∧ (tc35_0) = (a4) - (a3)) → Ew 63 (d + 1) 35 ls [I (tc35_0)] σ c s Q := by
       as_aux_lemma =>
        intro tc35_0 ls σ F_c35 A_c35  lc35_0 lc35_1 lc35_2 lc35_3 H hS_c35 hA_c35   jc35_0 jc35_1
        refine Ew_of (pc' := 37) (fun _ => x_istore rfl) ?_
        refine Ew_of (pc' := 39) (fun _ => x_iload rfl rk_s) ?_
        refine Ew_of (pc' := 41) (fun _ => x_ldc (z := 65536) rfl (by decide)) ?_
        refine Ew_of (pc' := 42) (fun _ => x_aload_n rfl (rk_o (lc35_0) rfl rfl)) ?_
        refine w_gT H (o := 0) (t := 11) rfl (H.perm 0 rfl) rfl rfl rfl rfl rfl rfl ?_
        refine Ew_of (pc' := 46) (fun _ => x_iload_n rfl (rk_o (lc35_1) rfl rfl)) ?_
        refine w_lI H (o := 11) (n := 4) rfl (H.perm 11 rfl) rfl rfl (H.fix 11 rfl rfl) (show 0 ≤ a1 ∧ a1 < ((4 : Nat) : Int) by omega) (by decide) (fun v13 ev13 qv13 => ?_)
        have qv13 : (0 : Int) ≤ v13 ∧ v13 ≤ 65536 := qv13
        have ev13 : (A 11) (a1) = v13 := (congrFun ((funext (hA_c35 11 rfl)).trans ((funext (hA10 11 rfl)).trans (funext (hA4 11 rfl)))) (a1)).symm.trans ev13
        refine w_isub rfl ?_
        refine w_icmple (t := 53) rfl rfl (show inr (tc35_0) by omega) (show inr ((65536 - v13)) by omega) (fun b14 => ?_) (fun b14 => ?_)
        · refine Ew_of (pc' := 54) (fun _ => x_iconst rfl) ?_
          refine Ew_of (pc' := 56) (fun _ => x_istore rfl) ?_
          refine Ew_of (pc' := 57) (fun _ => x_iconst rfl) ?_
          refine Ew_of (pc' := 59) (fun _ => x_istore rfl) ?_
          suffices hl59 : ∀ (m : Nat), ∀ (ls : rO) (σ : rS) (F_59 : hF) (A_59 : hA) (x59_6 : Int) (x59_7 : Int), rlook ls 0 = some (.ref (D 0)) → rlook ls 1 = some (I (a1)) → rlook ls 2 = some (I (a2)) → rlook ls 3 = some (I (a3)) → rlook ls 5 = some (I (tc35_0)) → rlook ls 6 = some (I (x59_6)) → rlook ls 7 = some (I (x59_7)) → HS σ0 σ D N F_59 A_59 → SF [] F_c35 F_59 → SA [10, 11] A_c35 A_59 → (inr (x59_6)) → (inr (x59_7)) → ((0) ≤ (x59_7)) → ((x59_7) ≤ (0) ∨ (x59_7) ≤ ((tc35_0))) → ((x59_6) = 0 ∨ (x59_6) = 1) → (((tc35_0)) - (x59_7)).toNat = m → Ew 63 (d + 1) 59 ls [] σ c s Q from
            hl59 _ _ σ _ _ (1) (0) (rk_o (rk_o (rk_o (lc35_0) rfl rfl) rfl rfl) rfl rfl) (rk_o (rk_o (rk_o (lc35_1) rfl rfl) rfl rfl) rfl rfl) (rk_o (rk_o (rk_o (lc35_2) rfl rfl) rfl rfl) rfl rfl) (rk_o (rk_o (rk_o (lc35_3) rfl rfl) rfl rfl) rfl rfl) (rk_o (rk_o (rk_s) rfl rfl) rfl rfl) (rk_o (rk_s) rfl rfl) (rk_s) H (SF_refl) (SA_refl)   (show inr (1) by omega) (show inr (0) by omega) (show (0) ≤ (0) by omega) (show (0) ≤ (0) ∨ (0) ≤ ((tc35_0)) by omega) (show (1) = 0 ∨ (1) = 1 by omega) rfl
          as_aux_lemma =>
          intro m
          induction m using Nat.strongRecOn with
          | _ m ih59 =>
            intro ls σ F_59 A_59 x59_6 x59_7 l59_0 l59_1 l59_2 l59_3 l59_5 l59_6 l59_7 H hS_59 hA_59   j59_0 j59_1 j59_2 j59_3 j59_4 hm59
            refine Ew_of (pc' := 61) (fun _ => x_iload rfl l59_7) ?_
            refine Ew_of (pc' := 63) (fun _ => x_iload rfl l59_5) ?_
            refine w_icmpge (t := 106) rfl rfl (show inr (x59_7) by omega) (show inr (tc35_0) by omega) (fun b15 => ?_) (fun b15 => ?_)
            · refine Ew_of (pc' := 108) (fun _ => x_iload rfl l59_6) ?_
              exact w_ireturn rfl (k (x59_6) σ _ _ H (SF_trans (SF_trans (SF_trans (SF_trans (SF_refl) hS3 (any_sub rfl)) hS9 (any_sub rfl)) hS_c35 (any_sub rfl)) hS_59 (any_sub rfl)) (SA_trans (SA_trans (SA_trans (SA_trans (SA_refl) hA4 (any_subA rfl)) hA10 (any_subA rfl)) hA_c35 (any_subA rfl)) hA_59 (any_subA rfl)) (show (x59_6) = 0 ∨ (x59_6) = 1 by omega))
            · refine Ew_of (pc' := 67) (fun _ => x_aload_n rfl l59_0) ?_
              refine Ew_of (pc' := 68) (fun _ => x_iload_n rfl l59_1) ?_
              refine Ew_of (pc' := 69) (fun _ => x_aload_n rfl l59_0) ?_
              refine w_gT H (o := 0) (t := 10) rfl (H.perm 0 rfl) rfl rfl rfl rfl rfl rfl ?_
              refine Ew_of (pc' := 74) (fun _ => x_ldc (z := 65536) rfl (by decide)) ?_
              refine Ew_of (pc' := 75) (fun _ => x_iload_n rfl l59_2) ?_
              refine w_imul rfl ?_
              refine Ew_of (pc' := 77) (fun _ => x_iload_n rfl l59_3) ?_
              refine w_iadd rfl ?_
              refine Ew_of (pc' := 80) (fun _ => x_iload rfl l59_7) ?_
              refine w_iadd rfl ?_
              refine w_lI H (o := 10) (n := 262144) rfl (H.perm 10 rfl) rfl rfl (H.fix 10 rfl rfl) (show 0 ≤ (((65536 * a2) + a3) + x59_7) ∧ (((65536 * a2) + a3) + x59_7) < ((262144 : Nat) : Int) by omega) (by decide) (fun v16 ev16 qv16 => ?_)
              have qv16 : (0 : Int) ≤ v16 ∧ v16 ≤ 255 := qv16
              have ev16 : (A_59 10) ((((65536 * a2) + a3) + x59_7)) = v16 := (congrFun (rfl : A_59 10 = A_59 10) ((((65536 * a2) + a3) + x59_7))).symm.trans ev16
              refine w_inv H (o := 0) rfl rfl rfl (H.perm 0 rfl) rfl rfl (by rfl) (M57b H (A_59 11) (rfl) (show inr (a1) by omega) (show inr (v16) by omega) (show 0 ≤ (a1) ∧ (a1) ≤ 3 by omega) (fun z21 σ F17 A18 H hS19 hA20 wq22 ewq23 pz21_0 pz21_1 => ⟨rretB rfl pz21_0, ?_⟩))
              refine w_ifeq (t := 97) rfl rfl (show inr (z21) by omega) (fun b24 => ?_) (fun b24 => ?_)
              · refine Ew_of (pc' := 98) (fun _ => x_iconst rfl) ?_
                refine Ew_of (pc' := 100) (fun _ => x_istore rfl) ?_
                refine Ew_of (pc' := 103) (fun _ => x_iinc (len := 3) rfl (rk_o (l59_7) rfl rfl)) ?_
                refine Ew_of (pc' := 59) (fun _ => x_goto rfl rfl) ?_
                exact ih59 _ (by omega) _ σ _ _ (0) ((x59_7 + 1)) (rk_o (rk_o (l59_0) rfl rfl) rfl rfl) (rk_o (rk_o (l59_1) rfl rfl) rfl rfl) (rk_o (rk_o (l59_2) rfl rfl) rfl rfl) (rk_o (rk_o (l59_3) rfl rfl) rfl rfl) (rk_o (rk_o (l59_5) rfl rfl) rfl rfl) (rk_o (rk_s) rfl rfl) (rk_s) H (SF_trans (hS_59) hS19 (any_sub rfl)) (SA_trans (hA_59) hA20 (any_subA rfl))   (show inr (0) by omega) (show inr ((x59_7 + 1)) by omega) (show (0) ≤ ((x59_7 + 1)) by omega) (show ((x59_7 + 1)) ≤ (0) ∨ ((x59_7 + 1)) ≤ ((tc35_0)) by omega) (show (0) = 0 ∨ (0) = 1 by omega) rfl
              · refine Ew_of (pc' := 90) (fun _ => x_iload rfl l59_6) ?_
                refine w_ifeq (t := 97) rfl rfl (show inr (x59_6) by omega) (fun b25 => ?_) (fun b25 => ?_)
                · refine Ew_of (pc' := 98) (fun _ => x_iconst rfl) ?_
                  refine Ew_of (pc' := 100) (fun _ => x_istore rfl) ?_
                  refine Ew_of (pc' := 103) (fun _ => x_iinc (len := 3) rfl (rk_o (l59_7) rfl rfl)) ?_
                  refine Ew_of (pc' := 59) (fun _ => x_goto rfl rfl) ?_
                  exact ih59 _ (by omega) _ σ _ _ (0) ((x59_7 + 1)) (rk_o (rk_o (l59_0) rfl rfl) rfl rfl) (rk_o (rk_o (l59_1) rfl rfl) rfl rfl) (rk_o (rk_o (l59_2) rfl rfl) rfl rfl) (rk_o (rk_o (l59_3) rfl rfl) rfl rfl) (rk_o (rk_o (l59_5) rfl rfl) rfl rfl) (rk_o (rk_s) rfl rfl) (rk_s) H (SF_trans (hS_59) hS19 (any_sub rfl)) (SA_trans (hA_59) hA20 (any_subA rfl))   (show inr (0) by omega) (show inr ((x59_7 + 1)) by omega) (show (0) ≤ ((x59_7 + 1)) by omega) (show ((x59_7 + 1)) ≤ (0) ∨ ((x59_7 + 1)) ≤ ((tc35_0)) by omega) (show (0) = 0 ∨ (0) = 1 by omega) rfl
                · refine Ew_of (pc' := 94) (fun _ => x_iconst rfl) ?_
                  refine Ew_of (pc' := 98) (fun _ => x_goto rfl rfl) ?_
                  refine Ew_of (pc' := 100) (fun _ => x_istore rfl) ?_
                  refine Ew_of (pc' := 103) (fun _ => x_iinc (len := 3) rfl (rk_o (l59_7) rfl rfl)) ?_
                  refine Ew_of (pc' := 59) (fun _ => x_goto rfl rfl) ?_
                  exact ih59 _ (by omega) _ σ _ _ (1) ((x59_7 + 1)) (rk_o (rk_o (l59_0) rfl rfl) rfl rfl) (rk_o (rk_o (l59_1) rfl rfl) rfl rfl) (rk_o (rk_o (l59_2) rfl rfl) rfl rfl) (rk_o (rk_o (l59_3) rfl rfl) rfl rfl) (rk_o (rk_o (l59_5) rfl rfl) rfl rfl) (rk_o (rk_s) rfl rfl) (rk_s) H (SF_trans (hS_59) hS19 (any_sub rfl)) (SA_trans (hA_59) hA20 (any_subA rfl))   (show inr (1) by omega) (show inr ((x59_7 + 1)) by omega) (show (0) ≤ ((x59_7 + 1)) by omega) (show ((x59_7 + 1)) ≤ (0) ∨ ((x59_7 + 1)) ≤ ((tc35_0)) by omega) (show (1) = 0 ∨ (1) = 1 by omega) rfl
        · refine Ew_of (pc' := 52) (fun _ => x_iconst rfl) ?_
          exact w_ireturn rfl (k (0) σ _ _ H (SF_trans (SF_trans (SF_trans (SF_refl) hS3 (any_sub rfl)) hS9 (any_sub rfl)) hS_c35 (any_sub rfl)) (SA_trans (SA_trans (SA_trans (SA_refl) hA4 (any_subA rfl)) hA10 (any_subA rfl)) hA_c35 (any_subA rfl)) (show (0) = 0 ∨ (0) = 1 by omega))
      refine Ew_of (pc' := 17) (fun _ => x_aload_n rfl rfl) ?_
      refine Ew_of (pc' := 18) (fun _ => x_iload_n rfl rfl) ?_
      refine Ew_of (pc' := 19) (fun _ => x_iload_n rfl rfl) ?_
      refine Ew_of (pc' := 21) (fun _ => x_iload rfl rfl) ?_
      refine w_inv H (o := 0) rfl rfl rfl (H.perm 0 rfl) rfl rfl (by rfl) (M62 H (show inr (a2) by omega) (show inr (a3) by omega) (show inr (a4) by omega) (show 0 ≤ (a2) ∧ (a2) ≤ 3 by omega) (fun z30 σ F26 A27 H hS28 hA29 pz30_0 pz30_1 => ⟨rretB rfl pz30_0, ?_⟩))
      refine w_ifeq (t := 34) rfl rfl (show inr (z30) by omega) (fun b31 => ?_) (fun b31 => ?_)
      · refine Ew_of (pc' := 35) (fun _ => x_iconst rfl) ?_
        exact hc35 (0) _ σ _ _  (rfl) (rfl) (rfl) (rfl) H (SF_trans (SF_refl) hS28 (any_sub rfl)) (SA_trans (SA_refl) hA29 (any_subA rfl))   (show inr (0) by omega) (show (0) = 0 ∨ 0 ≤ (a3) ∧ (a3) ≤ (a4) ∧ (a4) ≤ 65536 ∧ (0) = (a4) - (a3) by omega)
      · refine Ew_of (pc' := 29) (fun _ => x_iload rfl rfl) ?_
        refine Ew_of (pc' := 30) (fun _ => x_iload_n rfl rfl) ?_
        refine w_isub rfl ?_
        refine Ew_of (pc' := 35) (fun _ => x_goto rfl rfl) ?_
        exact hc35 ((a4 - a3)) _ σ _ _  (rfl) (rfl) (rfl) (rfl) H (SF_trans (SF_refl) hS28 (any_sub rfl)) (SA_trans (SA_refl) hA29 (any_subA rfl))   (show inr ((a4 - a3)) by omega) (show ((a4 - a3)) = 0 ∨ 0 ≤ (a3) ∧ (a3) ≤ (a4) ∧ (a4) ≤ 65536 ∧ ((a4 - a3)) = (a4) - (a3) by omega)
    · refine Ew_of (pc' := 15) (fun _ => x_iconst rfl) ?_
      exact w_ireturn rfl (k (0) σ _ _ H (SF_trans (SF_trans (SF_refl) hS3 (any_sub rfl)) hS9 (any_sub rfl)) (SA_trans (SA_trans (SA_refl) hA4 (any_subA rfl)) hA10 (any_subA rfl)) (show (0) = 0 ∨ (0) = 1 by omega))
/-- Model.may -/
theorem M68 {σ0 σ : rS} {D N : Nat → Nat} {F : hF} {A : hA} {d c s : Nat} {Q : wQ} (H : HS σ0 σ D N F A) {a1 a2 : Int} (h0 : inr (a1)) (h1 : inr (a2)) (k : ∀ (z : Int) σ F' A', HS σ0 σ D N F' A' → SF [] F F' → SA [] A A' → ((z) = 0 ∨ (z) = 1) → ((z) = 1 → 0 ≤ (a1) ∧ (a1) ≤ 9) → ((z) = 1 → ((a1) = 0 → 0 ≤ (a2) ∧ (a2) ≤ 3) ∧ ((a1) = 1 → 3 ≤ (a2) ∧ (a2) ≤ 8) ∧ ((a1) = 2 → 1 ≤ (a2) ∧ (a2) ≤ 65536) ∧ ((a1) = 3 → 64 ≤ (a2) ∧ (a2) < 128) ∧ ((a1) = 4 → 4 ≤ (a2) ∧ (a2) ≤ 7) ∧ ((a1) = 6 → 0 ≤ (a2) ∧ (a2) ≤ 255) ∧ ((a1) = 7 → 0 ≤ (a2) ∧ (a2) ≤ 15) ∧ ((a1) = 8 → 0 ≤ (a2) ∧ (a2) ≤ 11)) → Q (some (I z)) σ c s) : Ew 68 (d + 1) 0 (rargs 0 [I a1, I a2]) [] σ c s Q := by
  refine Ew_of (pc' := 1) (fun _ => x_iload_n rfl rfl) ?_
  by_cases b1 : a1 = 0
  · refine w_tsk 0 52 rfl (show inr (a1) by omega) (by omega) (by decide) rfl rfl ?_
    refine Ew_of (pc' := 53) (fun _ => x_iload_n rfl rfl) ?_
    refine Ew_of (pc' := 54) (fun _ => x_iconst rfl) ?_
    refine Ew_of (pc' := 55) (fun _ => x_iconst rfl) ?_
    refine w_stat24 rfl rfl (by rfl) (M67 H (show inr (a2) by omega) (show inr (0) by omega) (show inr (3) by omega) (fun z6 σ F2 A3 H hS4 hA5 pz6_0 pz6_1 => ⟨rretB rfl pz6_0, ?_⟩))
    exact w_ireturn rfl (k (z6) σ _ _ H (SF_trans (SF_refl) hS4 (any_sub rfl)) (SA_trans (SA_refl) hA5 (any_subA rfl)) (show (z6) = 0 ∨ (z6) = 1 by omega) (show (z6) = 1 → 0 ≤ a1 ∧ a1 ≤ 9 by omega) (show (z6) = 1 → (a1 = 0 → 0 ≤ a2 ∧ a2 ≤ 3) ∧ (a1 = 1 → 3 ≤ a2 ∧ a2 ≤ 8) ∧ (a1 = 2 → 1 ≤ a2 ∧ a2 ≤ 65536) ∧ (a1 = 3 → 64 ≤ a2 ∧ a2 < 128) ∧ (a1 = 4 → 4 ≤ a2 ∧ a2 ≤ 7) ∧ (a1 = 6 → 0 ≤ a2 ∧ a2 ≤ 255) ∧ (a1 = 7 → 0 ≤ a2 ∧ a2 ≤ 15) ∧ (a1 = 8 → 0 ≤ a2 ∧ a2 ≤ 11) by omega))
  ·
    by_cases b7 : a1 = 1
    · refine w_tsk 1 59 rfl (show inr (a1) by omega) (by omega) (by decide) rfl rfl ?_
      refine Ew_of (pc' := 60) (fun _ => x_iload_n rfl rfl) ?_
      refine Ew_of (pc' := 61) (fun _ => x_iconst rfl) ?_
      refine Ew_of (pc' := 63) (fun _ => x_bipush (z := 8) rfl (by decide)) ?_
      refine w_stat24 rfl rfl (by rfl) (M67 H (show inr (a2) by omega) (show inr (3) by omega) (show inr (8) by omega) (fun z12 σ F8 A9 H hS10 hA11 pz12_0 pz12_1 => ⟨rretB rfl pz12_0, ?_⟩))
      exact w_ireturn rfl (k (z12) σ _ _ H (SF_trans (SF_refl) hS10 (any_sub rfl)) (SA_trans (SA_refl) hA11 (any_subA rfl)) (show (z12) = 0 ∨ (z12) = 1 by omega) (show (z12) = 1 → 0 ≤ a1 ∧ a1 ≤ 9 by omega) (show (z12) = 1 → (a1 = 0 → 0 ≤ a2 ∧ a2 ≤ 3) ∧ (a1 = 1 → 3 ≤ a2 ∧ a2 ≤ 8) ∧ (a1 = 2 → 1 ≤ a2 ∧ a2 ≤ 65536) ∧ (a1 = 3 → 64 ≤ a2 ∧ a2 < 128) ∧ (a1 = 4 → 4 ≤ a2 ∧ a2 ≤ 7) ∧ (a1 = 6 → 0 ≤ a2 ∧ a2 ≤ 255) ∧ (a1 = 7 → 0 ≤ a2 ∧ a2 ≤ 15) ∧ (a1 = 8 → 0 ≤ a2 ∧ a2 ≤ 11) by omega))
    ·
      by_cases b13 : a1 = 2
      · refine w_tsk 2 67 rfl (show inr (a1) by omega) (by omega) (by decide) rfl rfl ?_
        refine Ew_of (pc' := 68) (fun _ => x_iload_n rfl rfl) ?_
        refine Ew_of (pc' := 69) (fun _ => x_iconst rfl) ?_
        refine Ew_of (pc' := 71) (fun _ => x_ldc (z := 65536) rfl (by decide)) ?_
        refine w_stat24 rfl rfl (by rfl) (M67 H (show inr (a2) by omega) (show inr (1) by omega) (show inr (65536) by omega) (fun z18 σ F14 A15 H hS16 hA17 pz18_0 pz18_1 => ⟨rretB rfl pz18_0, ?_⟩))
        exact w_ireturn rfl (k (z18) σ _ _ H (SF_trans (SF_refl) hS16 (any_sub rfl)) (SA_trans (SA_refl) hA17 (any_subA rfl)) (show (z18) = 0 ∨ (z18) = 1 by omega) (show (z18) = 1 → 0 ≤ a1 ∧ a1 ≤ 9 by omega) (show (z18) = 1 → (a1 = 0 → 0 ≤ a2 ∧ a2 ≤ 3) ∧ (a1 = 1 → 3 ≤ a2 ∧ a2 ≤ 8) ∧ (a1 = 2 → 1 ≤ a2 ∧ a2 ≤ 65536) ∧ (a1 = 3 → 64 ≤ a2 ∧ a2 < 128) ∧ (a1 = 4 → 4 ≤ a2 ∧ a2 ≤ 7) ∧ (a1 = 6 → 0 ≤ a2 ∧ a2 ≤ 255) ∧ (a1 = 7 → 0 ≤ a2 ∧ a2 ≤ 15) ∧ (a1 = 8 → 0 ≤ a2 ∧ a2 ≤ 11) by omega))
      ·
        by_cases b19 : a1 = 3
        · refine w_tsk 3 75 rfl (show inr (a1) by omega) (by omega) (by decide) rfl rfl ?_
          refine Ew_of (pc' := 76) (fun _ => x_iload_n rfl rfl) ?_
          refine Ew_of (pc' := 78) (fun _ => x_bipush (z := 64) rfl (by decide)) ?_
          refine Ew_of (pc' := 80) (fun _ => x_bipush (z := 127) rfl (by decide)) ?_
          refine w_stat24 rfl rfl (by rfl) (M67 H (show inr (a2) by omega) (show inr (64) by omega) (show inr (127) by omega) (fun z24 σ F20 A21 H hS22 hA23 pz24_0 pz24_1 => ⟨rretB rfl pz24_0, ?_⟩))
          refine w_ifeq (t := 96) rfl rfl (show inr (z24) by omega) (fun b25 => ?_) (fun b25 => ?_)
          · refine Ew_of (pc' := 97) (fun _ => x_iconst rfl) ?_
            exact w_ireturn rfl (k (0) σ _ _ H (SF_trans (SF_refl) hS22 (any_sub rfl)) (SA_trans (SA_refl) hA23 (any_subA rfl)) (show (0) = 0 ∨ (0) = 1 by omega) (show (0) = 1 → 0 ≤ a1 ∧ a1 ≤ 9 by omega) (show (0) = 1 → (a1 = 0 → 0 ≤ a2 ∧ a2 ≤ 3) ∧ (a1 = 1 → 3 ≤ a2 ∧ a2 ≤ 8) ∧ (a1 = 2 → 1 ≤ a2 ∧ a2 ≤ 65536) ∧ (a1 = 3 → 64 ≤ a2 ∧ a2 < 128) ∧ (a1 = 4 → 4 ≤ a2 ∧ a2 ≤ 7) ∧ (a1 = 6 → 0 ≤ a2 ∧ a2 ≤ 255) ∧ (a1 = 7 → 0 ≤ a2 ∧ a2 ≤ 15) ∧ (a1 = 8 → 0 ≤ a2 ∧ a2 ≤ 11) by omega))
          · refine Ew_of (pc' := 87) (fun _ => x_iload_n rfl rfl) ?_
            refine Ew_of (pc' := 88) (fun _ => x_iconst rfl) ?_
            refine w_iand rfl (show inr (a2) by omega) (show inr (2) by omega) (fun z26 gz26 gaz26 gbz26 => ?_)
            refine w_ifne (t := 96) rfl rfl (show inr (z26) by omega) (fun b27 => ?_) (fun b27 => ?_)
            · refine Ew_of (pc' := 97) (fun _ => x_iconst rfl) ?_
              exact w_ireturn rfl (k (0) σ _ _ H (SF_trans (SF_refl) hS22 (any_sub rfl)) (SA_trans (SA_refl) hA23 (any_subA rfl)) (show (0) = 0 ∨ (0) = 1 by omega) (show (0) = 1 → 0 ≤ a1 ∧ a1 ≤ 9 by omega) (show (0) = 1 → (a1 = 0 → 0 ≤ a2 ∧ a2 ≤ 3) ∧ (a1 = 1 → 3 ≤ a2 ∧ a2 ≤ 8) ∧ (a1 = 2 → 1 ≤ a2 ∧ a2 ≤ 65536) ∧ (a1 = 3 → 64 ≤ a2 ∧ a2 < 128) ∧ (a1 = 4 → 4 ≤ a2 ∧ a2 ≤ 7) ∧ (a1 = 6 → 0 ≤ a2 ∧ a2 ≤ 255) ∧ (a1 = 7 → 0 ≤ a2 ∧ a2 ≤ 15) ∧ (a1 = 8 → 0 ≤ a2 ∧ a2 ≤ 11) by omega))
            · refine Ew_of (pc' := 93) (fun _ => x_iconst rfl) ?_
              refine Ew_of (pc' := 97) (fun _ => x_goto rfl rfl) ?_
              exact w_ireturn rfl (k (1) σ _ _ H (SF_trans (SF_refl) hS22 (any_sub rfl)) (SA_trans (SA_refl) hA23 (any_subA rfl)) (show (1) = 0 ∨ (1) = 1 by omega) (show (1) = 1 → 0 ≤ a1 ∧ a1 ≤ 9 by omega) (show (1) = 1 → (a1 = 0 → 0 ≤ a2 ∧ a2 ≤ 3) ∧ (a1 = 1 → 3 ≤ a2 ∧ a2 ≤ 8) ∧ (a1 = 2 → 1 ≤ a2 ∧ a2 ≤ 65536) ∧ (a1 = 3 → 64 ≤ a2 ∧ a2 < 128) ∧ (a1 = 4 → 4 ≤ a2 ∧ a2 ≤ 7) ∧ (a1 = 6 → 0 ≤ a2 ∧ a2 ≤ 255) ∧ (a1 = 7 → 0 ≤ a2 ∧ a2 ≤ 15) ∧ (a1 = 8 → 0 ≤ a2 ∧ a2 ≤ 11) by omega))
        ·
          by_cases b28 : a1 = 4
          · refine w_tsk 4 98 rfl (show inr (a1) by omega) (by omega) (by decide) rfl rfl ?_
            refine Ew_of (pc' := 99) (fun _ => x_iload_n rfl rfl) ?_
            refine Ew_of (pc' := 100) (fun _ => x_iconst rfl) ?_
            refine Ew_of (pc' := 102) (fun _ => x_bipush (z := 7) rfl (by decide)) ?_
            refine w_stat24 rfl rfl (by rfl) (M67 H (show inr (a2) by omega) (show inr (4) by omega) (show inr (7) by omega) (fun z33 σ F29 A30 H hS31 hA32 pz33_0 pz33_1 => ⟨rretB rfl pz33_0, ?_⟩))
            exact w_ireturn rfl (k (z33) σ _ _ H (SF_trans (SF_refl) hS31 (any_sub rfl)) (SA_trans (SA_refl) hA32 (any_subA rfl)) (show (z33) = 0 ∨ (z33) = 1 by omega) (show (z33) = 1 → 0 ≤ a1 ∧ a1 ≤ 9 by omega) (show (z33) = 1 → (a1 = 0 → 0 ≤ a2 ∧ a2 ≤ 3) ∧ (a1 = 1 → 3 ≤ a2 ∧ a2 ≤ 8) ∧ (a1 = 2 → 1 ≤ a2 ∧ a2 ≤ 65536) ∧ (a1 = 3 → 64 ≤ a2 ∧ a2 < 128) ∧ (a1 = 4 → 4 ≤ a2 ∧ a2 ≤ 7) ∧ (a1 = 6 → 0 ≤ a2 ∧ a2 ≤ 255) ∧ (a1 = 7 → 0 ≤ a2 ∧ a2 ≤ 15) ∧ (a1 = 8 → 0 ≤ a2 ∧ a2 ≤ 11) by omega))
          ·
            by_cases b34 : a1 = 5
            · refine w_tsk 5 131 rfl (show inr (a1) by omega) (by omega) (by decide) rfl rfl ?_
              refine Ew_of (pc' := 132) (fun _ => x_iload_n rfl rfl) ?_
              refine Ew_of (pc' := 133) (fun _ => x_iconst rfl) ?_
              refine w_icmpeq (t := 142) rfl rfl (show inr (a1) by omega) (show inr (5) by omega) (fun b35 => ?_) (fun b35 => ?_)
              · refine Ew_of (pc' := 143) (fun _ => x_iconst rfl) ?_
                refine Ew_of (pc' := 147) (fun _ => x_goto rfl rfl) ?_
                exact w_ireturn rfl (k (1) σ _ _ H (SF_refl) (SA_refl) (show (1) = 0 ∨ (1) = 1 by omega) (show (1) = 1 → 0 ≤ a1 ∧ a1 ≤ 9 by omega) (show (1) = 1 → (a1 = 0 → 0 ≤ a2 ∧ a2 ≤ 3) ∧ (a1 = 1 → 3 ≤ a2 ∧ a2 ≤ 8) ∧ (a1 = 2 → 1 ≤ a2 ∧ a2 ≤ 65536) ∧ (a1 = 3 → 64 ≤ a2 ∧ a2 < 128) ∧ (a1 = 4 → 4 ≤ a2 ∧ a2 ≤ 7) ∧ (a1 = 6 → 0 ≤ a2 ∧ a2 ≤ 255) ∧ (a1 = 7 → 0 ≤ a2 ∧ a2 ≤ 15) ∧ (a1 = 8 → 0 ≤ a2 ∧ a2 ≤ 11) by omega))
              · refine Ew_of (pc' := 137) (fun _ => x_iload_n rfl rfl) ?_
                refine Ew_of (pc' := 139) (fun _ => x_bipush (z := 9) rfl (by decide)) ?_
                refine w_icmpne (t := 146) rfl rfl (show inr (a1) by omega) (show inr (9) by omega) (fun b36 => ?_) (fun b36 => ?_)
                · refine Ew_of (pc' := 147) (fun _ => x_iconst rfl) ?_
                  exact w_ireturn rfl (k (0) σ _ _ H (SF_refl) (SA_refl) (show (0) = 0 ∨ (0) = 1 by omega) (show (0) = 1 → 0 ≤ a1 ∧ a1 ≤ 9 by omega) (show (0) = 1 → (a1 = 0 → 0 ≤ a2 ∧ a2 ≤ 3) ∧ (a1 = 1 → 3 ≤ a2 ∧ a2 ≤ 8) ∧ (a1 = 2 → 1 ≤ a2 ∧ a2 ≤ 65536) ∧ (a1 = 3 → 64 ≤ a2 ∧ a2 < 128) ∧ (a1 = 4 → 4 ≤ a2 ∧ a2 ≤ 7) ∧ (a1 = 6 → 0 ≤ a2 ∧ a2 ≤ 255) ∧ (a1 = 7 → 0 ≤ a2 ∧ a2 ≤ 15) ∧ (a1 = 8 → 0 ≤ a2 ∧ a2 ≤ 11) by omega))
                · refine Ew_of (pc' := 143) (fun _ => x_iconst rfl) ?_
                  refine Ew_of (pc' := 147) (fun _ => x_goto rfl rfl) ?_
                  exact w_ireturn rfl (k (1) σ _ _ H (SF_refl) (SA_refl) (show (1) = 0 ∨ (1) = 1 by omega) (show (1) = 1 → 0 ≤ a1 ∧ a1 ≤ 9 by omega) (show (1) = 1 → (a1 = 0 → 0 ≤ a2 ∧ a2 ≤ 3) ∧ (a1 = 1 → 3 ≤ a2 ∧ a2 ≤ 8) ∧ (a1 = 2 → 1 ≤ a2 ∧ a2 ≤ 65536) ∧ (a1 = 3 → 64 ≤ a2 ∧ a2 < 128) ∧ (a1 = 4 → 4 ≤ a2 ∧ a2 ≤ 7) ∧ (a1 = 6 → 0 ≤ a2 ∧ a2 ≤ 255) ∧ (a1 = 7 → 0 ≤ a2 ∧ a2 ≤ 15) ∧ (a1 = 8 → 0 ≤ a2 ∧ a2 ≤ 11) by omega))
            ·
              by_cases b37 : a1 = 6
              · refine w_tsk 6 106 rfl (show inr (a1) by omega) (by omega) (by decide) rfl rfl ?_
                refine Ew_of (pc' := 107) (fun _ => x_iload_n rfl rfl) ?_
                refine Ew_of (pc' := 108) (fun _ => x_iconst rfl) ?_
                refine Ew_of (pc' := 111) (fun _ => x_sipush (z := 255) rfl (by decide)) ?_
                refine w_stat24 rfl rfl (by rfl) (M67 H (show inr (a2) by omega) (show inr (0) by omega) (show inr (255) by omega) (fun z42 σ F38 A39 H hS40 hA41 pz42_0 pz42_1 => ⟨rretB rfl pz42_0, ?_⟩))
                exact w_ireturn rfl (k (z42) σ _ _ H (SF_trans (SF_refl) hS40 (any_sub rfl)) (SA_trans (SA_refl) hA41 (any_subA rfl)) (show (z42) = 0 ∨ (z42) = 1 by omega) (show (z42) = 1 → 0 ≤ a1 ∧ a1 ≤ 9 by omega) (show (z42) = 1 → (a1 = 0 → 0 ≤ a2 ∧ a2 ≤ 3) ∧ (a1 = 1 → 3 ≤ a2 ∧ a2 ≤ 8) ∧ (a1 = 2 → 1 ≤ a2 ∧ a2 ≤ 65536) ∧ (a1 = 3 → 64 ≤ a2 ∧ a2 < 128) ∧ (a1 = 4 → 4 ≤ a2 ∧ a2 ≤ 7) ∧ (a1 = 6 → 0 ≤ a2 ∧ a2 ≤ 255) ∧ (a1 = 7 → 0 ≤ a2 ∧ a2 ≤ 15) ∧ (a1 = 8 → 0 ≤ a2 ∧ a2 ≤ 11) by omega))
              ·
                by_cases b43 : a1 = 7
                · refine w_tsk 7 115 rfl (show inr (a1) by omega) (by omega) (by decide) rfl rfl ?_
                  refine Ew_of (pc' := 116) (fun _ => x_iload_n rfl rfl) ?_
                  refine Ew_of (pc' := 117) (fun _ => x_iconst rfl) ?_
                  refine Ew_of (pc' := 119) (fun _ => x_bipush (z := 15) rfl (by decide)) ?_
                  refine w_stat24 rfl rfl (by rfl) (M67 H (show inr (a2) by omega) (show inr (0) by omega) (show inr (15) by omega) (fun z48 σ F44 A45 H hS46 hA47 pz48_0 pz48_1 => ⟨rretB rfl pz48_0, ?_⟩))
                  exact w_ireturn rfl (k (z48) σ _ _ H (SF_trans (SF_refl) hS46 (any_sub rfl)) (SA_trans (SA_refl) hA47 (any_subA rfl)) (show (z48) = 0 ∨ (z48) = 1 by omega) (show (z48) = 1 → 0 ≤ a1 ∧ a1 ≤ 9 by omega) (show (z48) = 1 → (a1 = 0 → 0 ≤ a2 ∧ a2 ≤ 3) ∧ (a1 = 1 → 3 ≤ a2 ∧ a2 ≤ 8) ∧ (a1 = 2 → 1 ≤ a2 ∧ a2 ≤ 65536) ∧ (a1 = 3 → 64 ≤ a2 ∧ a2 < 128) ∧ (a1 = 4 → 4 ≤ a2 ∧ a2 ≤ 7) ∧ (a1 = 6 → 0 ≤ a2 ∧ a2 ≤ 255) ∧ (a1 = 7 → 0 ≤ a2 ∧ a2 ≤ 15) ∧ (a1 = 8 → 0 ≤ a2 ∧ a2 ≤ 11) by omega))
                ·
                  by_cases b49 : a1 = 8
                  · refine w_tsk 8 123 rfl (show inr (a1) by omega) (by omega) (by decide) rfl rfl ?_
                    refine Ew_of (pc' := 124) (fun _ => x_iload_n rfl rfl) ?_
                    refine Ew_of (pc' := 125) (fun _ => x_iconst rfl) ?_
                    refine Ew_of (pc' := 127) (fun _ => x_bipush (z := 11) rfl (by decide)) ?_
                    refine w_stat24 rfl rfl (by rfl) (M67 H (show inr (a2) by omega) (show inr (0) by omega) (show inr (11) by omega) (fun z54 σ F50 A51 H hS52 hA53 pz54_0 pz54_1 => ⟨rretB rfl pz54_0, ?_⟩))
                    exact w_ireturn rfl (k (z54) σ _ _ H (SF_trans (SF_refl) hS52 (any_sub rfl)) (SA_trans (SA_refl) hA53 (any_subA rfl)) (show (z54) = 0 ∨ (z54) = 1 by omega) (show (z54) = 1 → 0 ≤ a1 ∧ a1 ≤ 9 by omega) (show (z54) = 1 → (a1 = 0 → 0 ≤ a2 ∧ a2 ≤ 3) ∧ (a1 = 1 → 3 ≤ a2 ∧ a2 ≤ 8) ∧ (a1 = 2 → 1 ≤ a2 ∧ a2 ≤ 65536) ∧ (a1 = 3 → 64 ≤ a2 ∧ a2 < 128) ∧ (a1 = 4 → 4 ≤ a2 ∧ a2 ≤ 7) ∧ (a1 = 6 → 0 ≤ a2 ∧ a2 ≤ 255) ∧ (a1 = 7 → 0 ≤ a2 ∧ a2 ≤ 15) ∧ (a1 = 8 → 0 ≤ a2 ∧ a2 ≤ 11) by omega))
                  ·
                    refine w_tsd 131 rfl (show inr (a1) by omega) (by omega) rfl ?_
                    refine Ew_of (pc' := 132) (fun _ => x_iload_n rfl rfl) ?_
                    refine Ew_of (pc' := 133) (fun _ => x_iconst rfl) ?_
                    refine w_icmpeq (t := 142) rfl rfl (show inr (a1) by omega) (show inr (5) by omega) (fun b55 => ?_) (fun b55 => ?_)
                    · refine Ew_of (pc' := 143) (fun _ => x_iconst rfl) ?_
                      refine Ew_of (pc' := 147) (fun _ => x_goto rfl rfl) ?_
                      exact w_ireturn rfl (k (1) σ _ _ H (SF_refl) (SA_refl) (show (1) = 0 ∨ (1) = 1 by omega) (show (1) = 1 → 0 ≤ a1 ∧ a1 ≤ 9 by omega) (show (1) = 1 → (a1 = 0 → 0 ≤ a2 ∧ a2 ≤ 3) ∧ (a1 = 1 → 3 ≤ a2 ∧ a2 ≤ 8) ∧ (a1 = 2 → 1 ≤ a2 ∧ a2 ≤ 65536) ∧ (a1 = 3 → 64 ≤ a2 ∧ a2 < 128) ∧ (a1 = 4 → 4 ≤ a2 ∧ a2 ≤ 7) ∧ (a1 = 6 → 0 ≤ a2 ∧ a2 ≤ 255) ∧ (a1 = 7 → 0 ≤ a2 ∧ a2 ≤ 15) ∧ (a1 = 8 → 0 ≤ a2 ∧ a2 ≤ 11) by omega))
                    · refine Ew_of (pc' := 137) (fun _ => x_iload_n rfl rfl) ?_
                      refine Ew_of (pc' := 139) (fun _ => x_bipush (z := 9) rfl (by decide)) ?_
                      refine w_icmpne (t := 146) rfl rfl (show inr (a1) by omega) (show inr (9) by omega) (fun b56 => ?_) (fun b56 => ?_)
                      · refine Ew_of (pc' := 147) (fun _ => x_iconst rfl) ?_
                        exact w_ireturn rfl (k (0) σ _ _ H (SF_refl) (SA_refl) (show (0) = 0 ∨ (0) = 1 by omega) (show (0) = 1 → 0 ≤ a1 ∧ a1 ≤ 9 by omega) (show (0) = 1 → (a1 = 0 → 0 ≤ a2 ∧ a2 ≤ 3) ∧ (a1 = 1 → 3 ≤ a2 ∧ a2 ≤ 8) ∧ (a1 = 2 → 1 ≤ a2 ∧ a2 ≤ 65536) ∧ (a1 = 3 → 64 ≤ a2 ∧ a2 < 128) ∧ (a1 = 4 → 4 ≤ a2 ∧ a2 ≤ 7) ∧ (a1 = 6 → 0 ≤ a2 ∧ a2 ≤ 255) ∧ (a1 = 7 → 0 ≤ a2 ∧ a2 ≤ 15) ∧ (a1 = 8 → 0 ≤ a2 ∧ a2 ≤ 11) by omega))
                      · refine Ew_of (pc' := 143) (fun _ => x_iconst rfl) ?_
                        refine Ew_of (pc' := 147) (fun _ => x_goto rfl rfl) ?_
                        exact w_ireturn rfl (k (1) σ _ _ H (SF_refl) (SA_refl) (show (1) = 0 ∨ (1) = 1 by omega) (show (1) = 1 → 0 ≤ a1 ∧ a1 ≤ 9 by omega) (show (1) = 1 → (a1 = 0 → 0 ≤ a2 ∧ a2 ≤ 3) ∧ (a1 = 1 → 3 ≤ a2 ∧ a2 ≤ 8) ∧ (a1 = 2 → 1 ≤ a2 ∧ a2 ≤ 65536) ∧ (a1 = 3 → 64 ≤ a2 ∧ a2 < 128) ∧ (a1 = 4 → 4 ≤ a2 ∧ a2 ≤ 7) ∧ (a1 = 6 → 0 ≤ a2 ∧ a2 ≤ 255) ∧ (a1 = 7 → 0 ≤ a2 ∧ a2 ≤ 15) ∧ (a1 = 8 → 0 ≤ a2 ∧ a2 ≤ 11) by omega))
/-- Model.set -/
theorem M69 {σ0 σ : rS} {D N : Nat → Nat} {F : hF} {A : hA} {d c s : Nat} {Q : wQ} (H : HS σ0 σ D N F A) {a1 a2 : Int} (w12 : Int → Int) (ew12 : A 12 = w12) (h0 : inr (a1)) (h1 : inr (a2)) (h2 : SE ((w12))) (k : ∀ (z : Int) σ F' A', HS σ0 σ D N F' A' → SF [] F F' → SA [12] A A' → ∀ v12 : Int → Int, A' 12 = v12 → ((z) = 0 ∨ (z) = 1) → (SE ((v12))) → Q (some (I z)) σ c s) : Ew 69 (d + 2) 0 (rargs 0 [.ref (D 0), I a1, I a2]) [] σ c s Q := by
  refine Ew_of (pc' := 1) (fun _ => x_iload_n rfl rfl) ?_
  refine Ew_of (pc' := 2) (fun _ => x_iload_n rfl rfl) ?_
  refine w_stat24 rfl rfl (by rfl) (M68 H (show inr (a1) by omega) (show inr (a2) by omega) (fun z5 σ F1 A2 H hS3 hA4 pz5_0 pz5_1 pz5_2 => ⟨rretB rfl pz5_0, ?_⟩))
  refine w_ifne (t := 10) rfl rfl (show inr (z5) by omega) (fun b6 => ?_) (fun b6 => ?_)
  · have : SE (upd1 ((w12)) ((a1)) ((a2))) := SE_upd (by assumption) (pz5_2 (by omega))
    refine Ew_of (pc' := 11) (fun _ => x_aload_n rfl rfl) ?_
    refine w_gT H (o := 0) (t := 12) rfl (H.perm 0 rfl) rfl rfl rfl rfl rfl rfl ?_
    refine Ew_of (pc' := 15) (fun _ => x_iload_n rfl rfl) ?_
    refine Ew_of (pc' := 16) (fun _ => x_iload_n rfl rfl) ?_
    refine w_sI H (o := 12) (n := 10) rfl (H.perm 12 rfl) rfl rfl (H.fix 12 rfl rfl) (show 0 ≤ a1 ∧ a1 < ((10 : Nat) : Int) by omega) (by decide) (show (-2147483648 : Int) ≤ a2 ∧ a2 ≤ 2147483647 by omega) (fun σ H => ?_)
    refine Ew_of (pc' := 18) (fun _ => x_iconst rfl) ?_
    exact w_ireturn rfl (k (1) σ _ _ H (SF_trans (SF_refl) hS3 (any_sub rfl)) (SA_upd (SA_trans (SA_refl) hA4 (any_subA rfl)) rfl) (upd1 (w12) (a1) (a2)) (congrArg (fun q => upd1 q (a1) (a2)) ((funext (hA4 12 rfl)).trans (ew12))) (show (1) = 0 ∨ (1) = 1 by omega) (show SE ((upd1 (w12) (a1) (a2))) by assumption))
  · refine Ew_of (pc' := 9) (fun _ => x_iconst rfl) ?_
    exact w_ireturn rfl (k (0) σ _ _ H (SF_trans (SF_refl) hS3 (any_sub rfl)) (SA_trans (SA_refl) hA4 (any_subA rfl)) (w12) ((funext (hA4 12 rfl)).trans (ew12)) (show (0) = 0 ∨ (0) = 1 by omega) (show SE ((w12)) by assumption))
/-- Model.narrow -/
theorem M71 {σ0 σ : rS} {D N : Nat → Nat} {F : hF} {A : hA} {d c s : Nat} {Q : wQ} (H : HS σ0 σ D N F A) {a1 a2 a3 a4 : Int} (h0 : inr (a1)) (h1 : inr (a2)) (h2 : inr (a3)) (h3 : inr (a4)) (k : ∀ (z : Int) σ F' A', HS σ0 σ D N F' A' → SF [(2, 1)] F F' → SA [] A A' → (inr (z)) → Q (some (I z)) σ c s) : Ew 71 (d + 4) 0 (rargs 0 [.ref (D 0), I a1, I a2, I a3, I a4]) [] σ c s Q := by
  refine Ew_of (pc' := 1) (fun _ => x_iload_n rfl rfl) ?_
  refine w_stat24 rfl rfl (by rfl) (M56 H (show inr (a1) by omega) (fun z5 σ F1 A2 H hS3 hA4 pz5_0 pz5_1 => ⟨rretB rfl pz5_0, ?_⟩))
  refine w_ifne (t := 9) rfl rfl (show inr (z5) by omega) (fun b6 => ?_) (fun b6 => ?_)
  · refine Ew_of (pc' := 10) (fun _ => x_aload_n rfl rfl) ?_
    refine w_gT H (o := 0) (t := 2) rfl (H.perm 0 rfl) rfl rfl rfl rfl rfl rfl ?_
    refine Ew_of (pc' := 15) (fun _ => x_ldc (z := 65536) rfl (by decide)) ?_
    refine Ew_of (pc' := 16) (fun _ => x_iload_n rfl rfl) ?_
    refine w_imul rfl ?_
    refine w_inv H (o := 2) rfl rfl rfl (H.perm 2 rfl) rfl rfl (by rfl) (M304b H (show inr ((65536 * a1)) by omega) (fun σ F7 A8 H hS9 hA10 y12 ey13 pz11_0 => ⟨rfl, ?_⟩))
    have r14 : (-2147483648 : Int) ≤ y12 ∧ y12 ≤ 2147483647 := by have h1 : (-2147483648 : Int) ≤ F7 2 1 ∧ F7 2 1 ≤ 2147483647 := H.frng 2 1; rw [show F7 2 1 = y12 from (ey13)] at h1; exact h1
    refine Ew_of (pc' := 21) (fun _ => x_aload_n rfl rfl) ?_
    refine Ew_of (pc' := 22) (fun _ => x_iload_n rfl rfl) ?_
    refine Ew_of (pc' := 23) (fun _ => x_iload_n rfl rfl) ?_
    refine Ew_of (pc' := 24) (fun _ => x_iload_n rfl rfl) ?_
    refine w_inv H (o := 0) rfl rfl rfl (H.perm 0 rfl) rfl rfl (by rfl) (M62 H (show inr (a1) by omega) (show inr (a2) by omega) (show inr (a3) by omega) (show 0 ≤ (a1) ∧ (a1) ≤ 3 by omega) (fun z19 σ F15 A16 H hS17 hA18 pz19_0 pz19_1 => ⟨rretB rfl pz19_0, ?_⟩))
    refine w_ifeq (t := 44) rfl rfl (show inr (z19) by omega) (fun b20 => ?_) (fun b20 => ?_)
    · refine Ew_of (pc' := 45) (fun _ => x_aload_n rfl rfl) ?_
      refine w_gT H (o := 0) (t := 2) rfl (H.perm 0 rfl) rfl rfl rfl rfl rfl rfl ?_
      refine Ew_of (pc' := 49) (fun _ => x_iconst rfl) ?_
      refine Ew_of (pc' := 50) (fun _ => x_iconst rfl) ?_
      refine Ew_of (pc' := 52) (fun _ => x_iload rfl rfl) ?_
      refine w_inv H (o := 2) rfl rfl rfl (H.perm 2 rfl) rfl rfl (by rfl) (M309 H (y12) (((hS17 2 1 rfl).trans (ey13))) (A 10) ((funext (hA18 10 rfl)).trans ((funext (hA10 10 rfl)).trans (funext (hA4 10 rfl)))) (show inr (0) by omega) (show inr (0) by omega) (show inr (a4) by omega) (show 0 ≤ (y12) ∧ (y12) ≤ 196608 by omega) (show 0 ≤ (0) ∧ (0) ≤ (0) ∧ (0) ≤ 65536 by omega) (fun z25 σ F21 A22 H hS23 hA24 pz25_0 pz25_1 => ⟨rfl, ?_⟩))
      exact w_ireturn rfl (k (z25) σ _ _ H (SF_trans (SF_trans (SF_trans (SF_trans (SF_refl) hS3 (any_sub rfl)) hS9 (any_sub rfl)) hS17 (any_sub rfl)) hS23 (any_sub rfl)) (SA_trans (SA_trans (SA_trans (SA_trans (SA_refl) hA4 (any_subA rfl)) hA10 (any_subA rfl)) hA18 (any_subA rfl)) hA24 (any_subA rfl)) (show inr (z25) by omega))
    · refine Ew_of (pc' := 31) (fun _ => x_aload_n rfl rfl) ?_
      refine w_gT H (o := 0) (t := 2) rfl (H.perm 0 rfl) rfl rfl rfl rfl rfl rfl ?_
      refine Ew_of (pc' := 35) (fun _ => x_iload_n rfl rfl) ?_
      refine Ew_of (pc' := 36) (fun _ => x_iload_n rfl rfl) ?_
      refine Ew_of (pc' := 38) (fun _ => x_iload rfl rfl) ?_
      refine w_inv H (o := 2) rfl rfl rfl (H.perm 2 rfl) rfl rfl (by rfl) (M309 H (y12) (((hS17 2 1 rfl).trans (ey13))) (A 10) ((funext (hA18 10 rfl)).trans ((funext (hA10 10 rfl)).trans (funext (hA4 10 rfl)))) (show inr (a2) by omega) (show inr (a3) by omega) (show inr (a4) by omega) (show 0 ≤ (y12) ∧ (y12) ≤ 196608 by omega) (show 0 ≤ (a2) ∧ (a2) ≤ (a3) ∧ (a3) ≤ 65536 by omega) (fun z30 σ F26 A27 H hS28 hA29 pz30_0 pz30_1 => ⟨rfl, ?_⟩))
      refine Ew_of (pc' := 55) (fun _ => x_goto rfl rfl) ?_
      exact w_ireturn rfl (k (z30) σ _ _ H (SF_trans (SF_trans (SF_trans (SF_trans (SF_refl) hS3 (any_sub rfl)) hS9 (any_sub rfl)) hS17 (any_sub rfl)) hS28 (any_sub rfl)) (SA_trans (SA_trans (SA_trans (SA_trans (SA_refl) hA4 (any_subA rfl)) hA10 (any_subA rfl)) hA18 (any_subA rfl)) hA29 (any_subA rfl)) (show inr (z30) by omega))
  · refine Ew_of (pc' := 8) (fun _ => x_iconst rfl) ?_
    exact w_ireturn rfl (k (0) σ _ _ H (SF_trans (SF_refl) hS3 (any_sub rfl)) (SA_trans (SA_refl) hA4 (any_subA rfl)) (show inr (0) by omega))
/-- Model.wide -/
theorem M72 {σ0 σ : rS} {D N : Nat → Nat} {F : hF} {A : hA} {d c s : Nat} {Q : wQ} (H : HS σ0 σ D N F A) {a1 a2 a3 a4 : Int} (h0 : inr (a1)) (h1 : inr (a2)) (h2 : inr (a3)) (h3 : inrJ (a4)) (k : ∀ (z : Int) σ F' A', HS σ0 σ D N F' A' → SF [(2, 1)] F F' → SA [] A A' → (inrJ (z)) → Q (some (J z)) σ c s) : Ew 72 (d + 5) 0 (rargs 0 [.ref (D 0), I a1, I a2, I a3, J a4]) [] σ c s Q := by
  refine Ew_of (pc' := 1) (fun _ => x_iload_n rfl rfl) ?_
  refine w_stat24 rfl rfl (by rfl) (M56 H (show inr (a1) by omega) (fun z5 σ F1 A2 H hS3 hA4 pz5_0 pz5_1 => ⟨rretB rfl pz5_0, ?_⟩))
  refine w_ifne (t := 9) rfl rfl (show inr (z5) by omega) (fun b6 => ?_) (fun b6 => ?_)
  · refine Ew_of (pc' := 10) (fun _ => x_aload_n rfl rfl) ?_
    refine w_gT H (o := 0) (t := 2) rfl (H.perm 0 rfl) rfl rfl rfl rfl rfl rfl ?_
    refine Ew_of (pc' := 15) (fun _ => x_ldc (z := 65536) rfl (by decide)) ?_
    refine Ew_of (pc' := 16) (fun _ => x_iload_n rfl rfl) ?_
    refine w_imul rfl ?_
    refine w_inv H (o := 2) rfl rfl rfl (H.perm 2 rfl) rfl rfl (by rfl) (M304b H (show inr ((65536 * a1)) by omega) (fun σ F7 A8 H hS9 hA10 y12 ey13 pz11_0 => ⟨rfl, ?_⟩))
    have r14 : (-2147483648 : Int) ≤ y12 ∧ y12 ≤ 2147483647 := by have h1 : (-2147483648 : Int) ≤ F7 2 1 ∧ F7 2 1 ≤ 2147483647 := H.frng 2 1; rw [show F7 2 1 = y12 from (ey13)] at h1; exact h1
    refine Ew_of (pc' := 21) (fun _ => x_aload_n rfl rfl) ?_
    refine Ew_of (pc' := 22) (fun _ => x_iload_n rfl rfl) ?_
    refine Ew_of (pc' := 23) (fun _ => x_iload_n rfl rfl) ?_
    refine Ew_of (pc' := 24) (fun _ => x_iload_n rfl rfl) ?_
    refine w_inv H (o := 0) rfl rfl rfl (H.perm 0 rfl) rfl rfl (by rfl) (M62 H (show inr (a1) by omega) (show inr (a2) by omega) (show inr (a3) by omega) (show 0 ≤ (a1) ∧ (a1) ≤ 3 by omega) (fun z19 σ F15 A16 H hS17 hA18 pz19_0 pz19_1 => ⟨rretB rfl pz19_0, ?_⟩))
    refine w_ifeq (t := 44) rfl rfl (show inr (z19) by omega) (fun b20 => ?_) (fun b20 => ?_)
    · refine Ew_of (pc' := 45) (fun _ => x_aload_n rfl rfl) ?_
      refine w_gT H (o := 0) (t := 2) rfl (H.perm 0 rfl) rfl rfl rfl rfl rfl rfl ?_
      refine Ew_of (pc' := 49) (fun _ => x_iconst rfl) ?_
      refine Ew_of (pc' := 50) (fun _ => x_iconst rfl) ?_
      refine Ew_of (pc' := 52) (fun _ => x_lload rfl rfl) ?_
      refine w_inv H (o := 2) rfl rfl rfl (H.perm 2 rfl) rfl rfl (by rfl) (M314 H (y12) (((hS17 2 1 rfl).trans (ey13))) (A 10) ((funext (hA18 10 rfl)).trans ((funext (hA10 10 rfl)).trans (funext (hA4 10 rfl)))) (show inr (0) by omega) (show inr (0) by omega) (show inrJ (a4) by omega) (show 0 ≤ (y12) ∧ (y12) ≤ 196608 by omega) (show 0 ≤ (0) ∧ (0) ≤ (0) ∧ (0) ≤ 65536 by omega) (fun z25 σ F21 A22 H hS23 hA24 pz25_0 pz25_1 => ⟨rfl, ?_⟩))
      exact w_lreturn rfl (k (z25) σ _ _ H (SF_trans (SF_trans (SF_trans (SF_trans (SF_refl) hS3 (any_sub rfl)) hS9 (any_sub rfl)) hS17 (any_sub rfl)) hS23 (any_sub rfl)) (SA_trans (SA_trans (SA_trans (SA_trans (SA_refl) hA4 (any_subA rfl)) hA10 (any_subA rfl)) hA18 (any_subA rfl)) hA24 (any_subA rfl)) (show inrJ (z25) by omega))
    · refine Ew_of (pc' := 31) (fun _ => x_aload_n rfl rfl) ?_
      refine w_gT H (o := 0) (t := 2) rfl (H.perm 0 rfl) rfl rfl rfl rfl rfl rfl ?_
      refine Ew_of (pc' := 35) (fun _ => x_iload_n rfl rfl) ?_
      refine Ew_of (pc' := 36) (fun _ => x_iload_n rfl rfl) ?_
      refine Ew_of (pc' := 38) (fun _ => x_lload rfl rfl) ?_
      refine w_inv H (o := 2) rfl rfl rfl (H.perm 2 rfl) rfl rfl (by rfl) (M314 H (y12) (((hS17 2 1 rfl).trans (ey13))) (A 10) ((funext (hA18 10 rfl)).trans ((funext (hA10 10 rfl)).trans (funext (hA4 10 rfl)))) (show inr (a2) by omega) (show inr (a3) by omega) (show inrJ (a4) by omega) (show 0 ≤ (y12) ∧ (y12) ≤ 196608 by omega) (show 0 ≤ (a2) ∧ (a2) ≤ (a3) ∧ (a3) ≤ 65536 by omega) (fun z30 σ F26 A27 H hS28 hA29 pz30_0 pz30_1 => ⟨rfl, ?_⟩))
      refine Ew_of (pc' := 55) (fun _ => x_goto rfl rfl) ?_
      exact w_lreturn rfl (k (z30) σ _ _ H (SF_trans (SF_trans (SF_trans (SF_trans (SF_refl) hS3 (any_sub rfl)) hS9 (any_sub rfl)) hS17 (any_sub rfl)) hS28 (any_sub rfl)) (SA_trans (SA_trans (SA_trans (SA_trans (SA_refl) hA4 (any_subA rfl)) hA10 (any_subA rfl)) hA18 (any_subA rfl)) hA29 (any_subA rfl)) (show inrJ (z30) by omega))
  · refine Ew_of (pc' := 8) (fun _ => x_lconst (z := 0) rfl (by decide)) ?_
    exact w_lreturn rfl (k (0) σ _ _ H (SF_trans (SF_refl) hS3 (any_sub rfl)) (SA_trans (SA_refl) hA4 (any_subA rfl)) (show inrJ (0) by omega))
/-- Model.poly -/
theorem M73 {σ0 σ : rS} {D N : Nat → Nat} {F : hF} {A : hA} {d c s : Nat} {Q : wQ} (H : HS σ0 σ D N F A) {a1 a2 a3 a4 : Int} (h0 : inr (a1)) (h1 : inr (a2)) (h2 : inr (a3)) (h3 : inr (a4)) (h4 : (a4) = 0 ∨ (a4) = 1) (k : ∀ (z : Int) σ F' A', HS σ0 σ D N F' A' → SF [(2, 1)] F F' → SA [] A A' → (inr (z)) → Q (some (I z)) σ c s) : Ew 73 (d + 4) 0 (rargs 0 [.ref (D 0), I a1, I a2, I a3, I a4]) [] σ c s Q := by
  refine Ew_of (pc' := 1) (fun _ => x_iload_n rfl rfl) ?_
  refine w_stat24 rfl rfl (by rfl) (M56 H (show inr (a1) by omega) (fun z5 σ F1 A2 H hS3 hA4 pz5_0 pz5_1 => ⟨rretB rfl pz5_0, ?_⟩))
  refine w_ifne (t := 9) rfl rfl (show inr (z5) by omega) (fun b6 => ?_) (fun b6 => ?_)
  · refine Ew_of (pc' := 10) (fun _ => x_aload_n rfl rfl) ?_
    refine w_gT H (o := 0) (t := 2) rfl (H.perm 0 rfl) rfl rfl rfl rfl rfl rfl ?_
    refine Ew_of (pc' := 15) (fun _ => x_ldc (z := 65536) rfl (by decide)) ?_
    refine Ew_of (pc' := 16) (fun _ => x_iload_n rfl rfl) ?_
    refine w_imul rfl ?_
    refine w_inv H (o := 2) rfl rfl rfl (H.perm 2 rfl) rfl rfl (by rfl) (M304b H (show inr ((65536 * a1)) by omega) (fun σ F7 A8 H hS9 hA10 y12 ey13 pz11_0 => ⟨rfl, ?_⟩))
    have r14 : (-2147483648 : Int) ≤ y12 ∧ y12 ≤ 2147483647 := by have h1 : (-2147483648 : Int) ≤ F7 2 1 ∧ F7 2 1 ≤ 2147483647 := H.frng 2 1; rw [show F7 2 1 = y12 from (ey13)] at h1; exact h1
    refine Ew_of (pc' := 21) (fun _ => x_aload_n rfl rfl) ?_
    refine Ew_of (pc' := 22) (fun _ => x_iload_n rfl rfl) ?_
    refine Ew_of (pc' := 23) (fun _ => x_iload_n rfl rfl) ?_
    refine Ew_of (pc' := 24) (fun _ => x_iload_n rfl rfl) ?_
    refine w_inv H (o := 0) rfl rfl rfl (H.perm 0 rfl) rfl rfl (by rfl) (M62 H (show inr (a1) by omega) (show inr (a2) by omega) (show inr (a3) by omega) (show 0 ≤ (a1) ∧ (a1) ≤ 3 by omega) (fun z19 σ F15 A16 H hS17 hA18 pz19_0 pz19_1 => ⟨rretB rfl pz19_0, ?_⟩))
    refine w_ifeq (t := 42) rfl rfl (show inr (z19) by omega) (fun b20 => ?_) (fun b20 => ?_)
    · refine Ew_of (pc' := 43) (fun _ => x_iconst rfl) ?_
      refine Ew_of (pc' := 45) (fun _ => x_istore rfl) ?_
      refine Ew_of (pc' := 47) (fun _ => x_iload rfl (rk_o (rfl) rfl rfl)) ?_
      refine w_ifeq (t := 67) rfl rfl (show inr (a4) by omega) (fun b21 => ?_) (fun b21 => ?_)
      · refine Ew_of (pc' := 69) (fun _ => x_iload rfl rk_s) ?_
        exact w_ireturn rfl (k (0) σ _ _ H (SF_trans (SF_trans (SF_trans (SF_refl) hS3 (any_sub rfl)) hS9 (any_sub rfl)) hS17 (any_sub rfl)) (SA_trans (SA_trans (SA_trans (SA_refl) hA4 (any_subA rfl)) hA10 (any_subA rfl)) hA18 (any_subA rfl)) (show inr (0) by omega))
      · refine Ew_of (pc' := 52) (fun _ => x_iload rfl rk_s) ?_
        refine Ew_of (pc' := 54) (fun _ => x_bipush (z := 17) rfl (by decide)) ?_
        refine w_ishlA rfl (fun z22 gz22 => ?_)
        refine Ew_of (pc' := 57) (fun _ => x_iload rfl rk_s) ?_
        refine Ew_of (pc' := 59) (fun _ => x_bipush (z := 15) rfl (by decide)) ?_
        refine w_iushrA rfl (fun z23 gz23 => ?_)
        refine w_ior rfl (fun z24 gz24 => ?_)
        refine Ew_of (pc' := 63) (fun _ => x_ldc (z := 1568478504) rfl (by decide)) ?_
        refine w_isubA rfl (fun z25 gz25 => ?_)
        refine Ew_of (pc' := 69) (fun _ => x_goto rfl rfl) ?_
        exact w_ireturn rfl (k (z25) σ _ _ H (SF_trans (SF_trans (SF_trans (SF_refl) hS3 (any_sub rfl)) hS9 (any_sub rfl)) hS17 (any_sub rfl)) (SA_trans (SA_trans (SA_trans (SA_refl) hA4 (any_subA rfl)) hA10 (any_subA rfl)) hA18 (any_subA rfl)) (show inr (z25) by omega))
    · refine Ew_of (pc' := 31) (fun _ => x_aload_n rfl rfl) ?_
      refine w_gT H (o := 0) (t := 2) rfl (H.perm 0 rfl) rfl rfl rfl rfl rfl rfl ?_
      refine Ew_of (pc' := 35) (fun _ => x_iload_n rfl rfl) ?_
      refine Ew_of (pc' := 36) (fun _ => x_iload_n rfl rfl) ?_
      refine w_inv H (o := 2) rfl rfl rfl (H.perm 2 rfl) rfl rfl (by rfl) (M318 H (y12) (((hS17 2 1 rfl).trans (ey13))) (A 10) ((funext (hA18 10 rfl)).trans ((funext (hA10 10 rfl)).trans (funext (hA4 10 rfl)))) (show inr (a2) by omega) (show inr (a3) by omega) (show 0 ≤ (y12) ∧ (y12) ≤ 196608 by omega) (show 0 ≤ (a2) ∧ (a2) ≤ (a3) ∧ (a3) ≤ 65536 by omega) (fun z30 σ F26 A27 H hS28 hA29 pz30_0 pz30_1 => ⟨rfl, ?_⟩))
      refine Ew_of (pc' := 43) (fun _ => x_goto rfl rfl) ?_
      refine Ew_of (pc' := 45) (fun _ => x_istore rfl) ?_
      refine Ew_of (pc' := 47) (fun _ => x_iload rfl (rk_o (rfl) rfl rfl)) ?_
      refine w_ifeq (t := 67) rfl rfl (show inr (a4) by omega) (fun b31 => ?_) (fun b31 => ?_)
      · refine Ew_of (pc' := 69) (fun _ => x_iload rfl rk_s) ?_
        exact w_ireturn rfl (k (z30) σ _ _ H (SF_trans (SF_trans (SF_trans (SF_trans (SF_refl) hS3 (any_sub rfl)) hS9 (any_sub rfl)) hS17 (any_sub rfl)) hS28 (any_sub rfl)) (SA_trans (SA_trans (SA_trans (SA_trans (SA_refl) hA4 (any_subA rfl)) hA10 (any_subA rfl)) hA18 (any_subA rfl)) hA29 (any_subA rfl)) (show inr (z30) by omega))
      · refine Ew_of (pc' := 52) (fun _ => x_iload rfl rk_s) ?_
        refine Ew_of (pc' := 54) (fun _ => x_bipush (z := 17) rfl (by decide)) ?_
        refine w_ishlA rfl (fun z32 gz32 => ?_)
        refine Ew_of (pc' := 57) (fun _ => x_iload rfl rk_s) ?_
        refine Ew_of (pc' := 59) (fun _ => x_bipush (z := 15) rfl (by decide)) ?_
        refine w_iushrA rfl (fun z33 gz33 => ?_)
        refine w_ior rfl (fun z34 gz34 => ?_)
        refine Ew_of (pc' := 63) (fun _ => x_ldc (z := 1568478504) rfl (by decide)) ?_
        refine w_isubA rfl (fun z35 gz35 => ?_)
        refine Ew_of (pc' := 69) (fun _ => x_goto rfl rfl) ?_
        exact w_ireturn rfl (k (z35) σ _ _ H (SF_trans (SF_trans (SF_trans (SF_trans (SF_refl) hS3 (any_sub rfl)) hS9 (any_sub rfl)) hS17 (any_sub rfl)) hS28 (any_sub rfl)) (SA_trans (SA_trans (SA_trans (SA_trans (SA_refl) hA4 (any_subA rfl)) hA10 (any_subA rfl)) hA18 (any_subA rfl)) hA29 (any_subA rfl)) (show inr (z35) by omega))
  · refine Ew_of (pc' := 8) (fun _ => x_iconst rfl) ?_
    exact w_ireturn rfl (k (0) σ _ _ H (SF_trans (SF_refl) hS3 (any_sub rfl)) (SA_trans (SA_refl) hA4 (any_subA rfl)) (show inr (0) by omega))
/-- Model.learn -/
theorem M77 {σ0 σ : rS} {D N : Nat → Nat} {F : hF} {A : hA} {d c s : Nat} {Q : wQ} (H : HS σ0 σ D N F A) {a1 : Int} (u5_4 : Int) (eu5_4 : F 5 4 = u5_4) (u6_6 : Int) (eu6_6 : F 6 6 = u6_6) (w27 : Int → Int) (ew27 : A 27 = w27) (w28 : Int → Int) (ew28 : A 28 = w28) (w29 : Int → Int) (ew29 : A 29 = w29) (w30 : Int → Int) (ew30 : A 30 = w30) (w34 : Int → Int) (ew34 : A 34 = w34) (w35 : Int → Int) (ew35 : A 35 = w35) (w36 : Int → Int) (ew36 : A 36 = w36) (w37 : Int → Int) (ew37 : A 37 = w37) (w49 : Int → Int) (ew49 : A 49 = w49) (w50 : Int → Int) (ew50 : A 50 = w50) (w51 : Int → Int) (ew51 : A 51 = w51) (h0 : inr (a1)) (h1 : RT ((w35)) ((w36)) ((w37)) ((w34))) (h2 : DI ((u5_4)) ((w27)) ((w28)) ((w29)) ((w30))) (h3 : DW ((u6_6)) ((w49)) ((w50)) ((w51))) (k : ∀ (z : Int) σ F' A', HS σ0 σ D N F' A' → SF [(1, 1), (5, 2), (5, 3), (5, 4), (5, 10), (5, 19), (5, 44), (5, 45), (6, 4), (6, 5), (6, 6)] F F' → SA [14, 26, 27, 28, 29, 30, 31, 32, 33, 34, 35, 36, 37, 38, 39, 40, 41, 42, 43, 44, 48, 49, 50, 51, 52] A A' → ∀ y5_4 : Int, F' 5 4 = y5_4 → ∀ y6_6 : Int, F' 6 6 = y6_6 → ∀ v27 : Int → Int, A' 27 = v27 → ∀ v28 : Int → Int, A' 28 = v28 → ∀ v29 : Int → Int, A' 29 = v29 → ∀ v30 : Int → Int, A' 30 = v30 → ∀ v34 : Int → Int, A' 34 = v34 → ∀ v35 : Int → Int, A' 35 = v35 → ∀ v36 : Int → Int, A' 36 = v36 → ∀ v37 : Int → Int, A' 37 = v37 → ∀ v49 : Int → Int, A' 49 = v49 → ∀ v50 : Int → Int, A' 50 = v50 → ∀ v51 : Int → Int, A' 51 = v51 → (inr (z)) → (RT ((v35)) ((v36)) ((v37)) ((v34))) → (DI ((y5_4)) ((v27)) ((v28)) ((v29)) ((v30))) → (DW ((y6_6)) ((v49)) ((v50)) ((v51))) → Q (some (I z)) σ c s) : Ew 77 (d + 5) 0 (rargs 0 [.ref (D 0), I a1]) [] σ c s Q := by
  have r1 : (0 : Int) ≤ u5_4 ∧ u5_4 ≤ 1 := by have h1 : (0 : Int) ≤ F 5 4 ∧ F 5 4 ≤ 1 := H.frng 5 4; rw [show F 5 4 = u5_4 from (eu5_4)] at h1; exact h1
  have r2 : (0 : Int) ≤ u6_6 ∧ u6_6 ≤ 1 := by have h1 : (0 : Int) ≤ F 6 6 ∧ F 6 6 ≤ 1 := H.frng 6 6; rw [show F 6 6 = u6_6 from (eu6_6)] at h1; exact h1
  refine Ew_of (pc' := 1) (fun _ => x_iload_n rfl rfl) ?_
  refine w_stat24 rfl rfl (by rfl) (M56 H (show inr (a1) by omega) (fun z7 σ F3 A4 H hS5 hA6 pz7_0 pz7_1 => ⟨rretB rfl pz7_0, ?_⟩))
  refine w_ifne (t := 10) rfl rfl (show inr (z7) by omega) (fun b8 => ?_) (fun b8 => ?_)
  · refine Ew_of (pc' := 11) (fun _ => x_aload_n rfl rfl) ?_
    refine Ew_of (pc' := 12) (fun _ => x_iload_n rfl rfl) ?_
    refine w_inv H (o := 0) rfl rfl rfl (H.perm 0 rfl) rfl rfl (by rfl) (M74 H (show inr (a1) by omega) (show 0 ≤ (a1) ∧ (a1) ≤ 3 by omega) (fun σ F9 A10 H hS11 hA12 => ⟨rfl, ?_⟩))
    refine Ew_of (pc' := 16) (fun _ => x_aload_n rfl rfl) ?_
    refine w_gT H (o := 0) (t := 5) rfl (H.perm 0 rfl) rfl rfl rfl rfl rfl rfl ?_
    have r14 : (0 : Int) ≤ F9 1 1 ∧ F9 1 1 ≤ 65536 := by have h1 : (0 : Int) ≤ F9 1 1 ∧ F9 1 1 ≤ 65536 := H.frng 1 1; rw [show F9 1 1 = F9 1 1 from rfl] at h1; exact h1
    have r15 : (0 : Int) ≤ F 5 2 ∧ F 5 2 ≤ 65536 := by have h1 : (0 : Int) ≤ F9 5 2 ∧ F9 5 2 ≤ 65536 := H.frng 5 2; rw [show F9 5 2 = F 5 2 from ((hS11 5 2 rfl).trans (hS5 5 2 rfl))] at h1; exact h1
    have r16 : (-2147483648 : Int) ≤ F 5 3 ∧ F 5 3 ≤ 2147483647 := by have h1 : (-2147483648 : Int) ≤ F9 5 3 ∧ F9 5 3 ≤ 2147483647 := H.frng 5 3; rw [show F9 5 3 = F 5 3 from ((hS11 5 3 rfl).trans (hS5 5 3 rfl))] at h1; exact h1
    refine w_inv H (o := 5) rfl rfl rfl (H.perm 5 rfl) rfl rfl (by rfl) (M275 H (F9 1 1) (rfl) (F 5 2) (((hS11 5 2 rfl).trans (hS5 5 2 rfl))) (F 5 3) (((hS11 5 3 rfl).trans (hS5 5 3 rfl))) (u5_4) ((((hS11 5 4 rfl).trans (hS5 5 4 rfl)).trans (eu5_4))) (A10 14) (rfl) (A 26) ((funext (hA12 26 rfl)).trans (funext (hA6 26 rfl))) (w27) ((funext (hA12 27 rfl)).trans ((funext (hA6 27 rfl)).trans (ew27))) (w28) ((funext (hA12 28 rfl)).trans ((funext (hA6 28 rfl)).trans (ew28))) (w29) ((funext (hA12 29 rfl)).trans ((funext (hA6 29 rfl)).trans (ew29))) (w30) ((funext (hA12 30 rfl)).trans ((funext (hA6 30 rfl)).trans (ew30))) (w34) ((funext (hA12 34 rfl)).trans ((funext (hA6 34 rfl)).trans (ew34))) (w35) ((funext (hA12 35 rfl)).trans ((funext (hA6 35 rfl)).trans (ew35))) (w36) ((funext (hA12 36 rfl)).trans ((funext (hA6 36 rfl)).trans (ew36))) (w37) ((funext (hA12 37 rfl)).trans ((funext (hA6 37 rfl)).trans (ew37))) (show RT ((w35)) ((w36)) ((w37)) ((w34)) by assumption) (show DI ((u5_4)) ((w27)) ((w28)) ((w29)) ((w30)) by assumption) (show RDI Dc ((u5_4)) ((F 5 3)) ((A 26)) ((F 5 2)) ((w27)) ((w28)) ((w29)) ((w30)) by assumption) (fun z21 σ F17 A18 H hS19 hA20 y22 ey23 y24 ey25 y26 ey27 wq28 ewq29 wq30 ewq31 wq32 ewq33 wq34 ewq35 wq36 ewq37 wq38 ewq39 wq40 ewq41 wq42 ewq43 wq44 ewq45 pz21_0 pz21_1 pz21_2 pz21_3 pz21_4 pz21_5 => ⟨rfl, ?_⟩))
    have r46 : (0 : Int) ≤ y22 ∧ y22 ≤ 65536 := by have h1 : (0 : Int) ≤ F17 5 2 ∧ F17 5 2 ≤ 65536 := H.frng 5 2; rw [show F17 5 2 = y22 from (ey23)] at h1; exact h1
    have r47 : (-2147483648 : Int) ≤ y24 ∧ y24 ≤ 2147483647 := by have h1 : (-2147483648 : Int) ≤ F17 5 3 ∧ F17 5 3 ≤ 2147483647 := H.frng 5 3; rw [show F17 5 3 = y24 from (ey25)] at h1; exact h1
    have r48 : (0 : Int) ≤ y26 ∧ y26 ≤ 1 := by have h1 : (0 : Int) ≤ F17 5 4 ∧ F17 5 4 ≤ 1 := H.frng 5 4; rw [show F17 5 4 = y26 from (ey27)] at h1; exact h1
    refine Ew_of (pc' := 23) (fun _ => x_istore_n rfl) ?_
    refine Ew_of (pc' := 24) (fun _ => x_iload_n rfl rk_s) ?_
    refine w_iflt (t := 38) rfl rfl (show inr (z21) by omega) (fun b49 => ?_) (fun b49 => ?_)
    · refine Ew_of (pc' := 39) (fun _ => x_iload_n rfl rk_s) ?_
      exact w_ireturn rfl (k (z21) σ _ _ H (SF_trans (SF_trans (SF_trans (SF_refl) hS5 (any_sub rfl)) hS11 (any_sub rfl)) hS19 (any_sub rfl)) (SA_trans (SA_trans (SA_trans (SA_refl) hA6 (any_subA rfl)) hA12 (any_subA rfl)) hA20 (any_subA rfl)) (y26) ((ey27)) (u6_6) (((((hS19 6 6 rfl).trans (hS11 6 6 rfl)).trans (hS5 6 6 rfl)).trans (eu6_6))) (wq30) (ewq31) (wq32) (ewq33) (wq34) (ewq35) (wq36) (ewq37) (wq38) (ewq39) (wq40) (ewq41) (wq42) (ewq43) (wq44) (ewq45) (w49) ((funext (hA20 49 rfl)).trans ((funext (hA12 49 rfl)).trans ((funext (hA6 49 rfl)).trans (ew49)))) (w50) ((funext (hA20 50 rfl)).trans ((funext (hA12 50 rfl)).trans ((funext (hA6 50 rfl)).trans (ew50)))) (w51) ((funext (hA20 51 rfl)).trans ((funext (hA12 51 rfl)).trans ((funext (hA6 51 rfl)).trans (ew51)))) (show inr (z21) by omega) (show RT ((wq40)) ((wq42)) ((wq44)) ((wq38)) by assumption) (show DI ((y26)) ((wq30)) ((wq32)) ((wq34)) ((wq36)) by assumption) (show DW ((u6_6)) ((w49)) ((w50)) ((w51)) by assumption))
    · refine Ew_of (pc' := 28) (fun _ => x_aload_n rfl (rk_o (rfl) rfl rfl)) ?_
      refine w_gT H (o := 0) (t := 6) rfl (H.perm 0 rfl) rfl rfl rfl rfl rfl rfl ?_
      refine Ew_of (pc' := 32) (fun _ => x_aload_n rfl (rk_o (rfl) rfl rfl)) ?_
      refine w_gT H (o := 0) (t := 5) rfl (H.perm 0 rfl) rfl rfl rfl rfl rfl rfl ?_
      refine w_inv H (o := 6) rfl rfl rfl (H.perm 6 rfl) rfl rfl (by rfl) (M388_5 H (y22) ((ey23)) (y26) ((ey27)) (wq30) (ewq31) (wq32) (ewq33) (wq34) (ewq35) (wq36) (ewq37) (show DI ((y26)) ((wq30)) ((wq32)) ((wq34)) ((wq36)) by assumption) (fun σ F50 A51 H hS52 hA53 y55 ey56 y57 ey58 wq59 ewq60 wq61 ewq62 wq63 ewq64 pz54_0 pz54_1 => ⟨rfl, ?_⟩))
      have r65 : (0 : Int) ≤ y55 ∧ y55 ≤ 65536 := by have h1 : (0 : Int) ≤ F50 6 4 ∧ F50 6 4 ≤ 65536 := H.frng 6 4; rw [show F50 6 4 = y55 from (ey56)] at h1; exact h1
      have r66 : (0 : Int) ≤ y57 ∧ y57 ≤ 1 := by have h1 : (0 : Int) ≤ F50 6 6 ∧ F50 6 6 ≤ 1 := H.frng 6 6; rw [show F50 6 6 = y57 from (ey58)] at h1; exact h1
      refine Ew_of (pc' := 39) (fun _ => x_iload_n rfl rk_s) ?_
      exact w_ireturn rfl (k (z21) σ _ _ H (SF_trans (SF_trans (SF_trans (SF_trans (SF_refl) hS5 (any_sub rfl)) hS11 (any_sub rfl)) hS19 (any_sub rfl)) hS52 (any_sub rfl)) (SA_trans (SA_trans (SA_trans (SA_trans (SA_refl) hA6 (any_subA rfl)) hA12 (any_subA rfl)) hA20 (any_subA rfl)) hA53 (any_subA rfl)) (y26) (((hS52 5 4 rfl).trans (ey27))) (y57) ((ey58)) (wq30) ((funext (hA53 27 rfl)).trans (ewq31)) (wq32) ((funext (hA53 28 rfl)).trans (ewq33)) (wq34) ((funext (hA53 29 rfl)).trans (ewq35)) (wq36) ((funext (hA53 30 rfl)).trans (ewq37)) (wq38) ((funext (hA53 34 rfl)).trans (ewq39)) (wq40) ((funext (hA53 35 rfl)).trans (ewq41)) (wq42) ((funext (hA53 36 rfl)).trans (ewq43)) (wq44) ((funext (hA53 37 rfl)).trans (ewq45)) (wq59) (ewq60) (wq61) (ewq62) (wq63) (ewq64) (show inr (z21) by omega) (show RT ((wq40)) ((wq42)) ((wq44)) ((wq38)) by assumption) (show DI ((y26)) ((wq30)) ((wq32)) ((wq34)) ((wq36)) by assumption) (show DW ((y57)) ((wq59)) ((wq61)) ((wq63)) by assumption))
  · refine Ew_of (pc' := 9) (fun _ => x_bipush (z := -5) rfl (by decide)) ?_
    exact w_ireturn rfl (k ((-5)) σ _ _ H (SF_trans (SF_refl) hS5 (any_sub rfl)) (SA_trans (SA_refl) hA6 (any_subA rfl)) (u5_4) (((hS5 5 4 rfl).trans (eu5_4))) (u6_6) (((hS5 6 6 rfl).trans (eu6_6))) (w27) ((funext (hA6 27 rfl)).trans (ew27)) (w28) ((funext (hA6 28 rfl)).trans (ew28)) (w29) ((funext (hA6 29 rfl)).trans (ew29)) (w30) ((funext (hA6 30 rfl)).trans (ew30)) (w34) ((funext (hA6 34 rfl)).trans (ew34)) (w35) ((funext (hA6 35 rfl)).trans (ew35)) (w36) ((funext (hA6 36 rfl)).trans (ew36)) (w37) ((funext (hA6 37 rfl)).trans (ew37)) (w49) ((funext (hA6 49 rfl)).trans (ew49)) (w50) ((funext (hA6 50 rfl)).trans (ew50)) (w51) ((funext (hA6 51 rfl)).trans (ew51)) (show inr ((-5)) by omega) (show RT ((w35)) ((w36)) ((w37)) ((w34)) by assumption) (show DI ((u5_4)) ((w27)) ((w28)) ((w29)) ((w30)) by assumption) (show DW ((u6_6)) ((w49)) ((w50)) ((w51)) by assumption))
/-- Model.forget -/
theorem M78 {σ0 σ : rS} {D N : Nat → Nat} {F : hF} {A : hA} {d c s : Nat} {Q : wQ} (H : HS σ0 σ D N F A) {a1 : Int} (u5_4 : Int) (eu5_4 : F 5 4 = u5_4) (u6_6 : Int) (eu6_6 : F 6 6 = u6_6) (w27 : Int → Int) (ew27 : A 27 = w27) (w28 : Int → Int) (ew28 : A 28 = w28) (w29 : Int → Int) (ew29 : A 29 = w29) (w30 : Int → Int) (ew30 : A 30 = w30) (w49 : Int → Int) (ew49 : A 49 = w49) (w50 : Int → Int) (ew50 : A 50 = w50) (w51 : Int → Int) (ew51 : A 51 = w51) (h0 : inr (a1)) (h1 : DI ((u5_4)) ((w27)) ((w28)) ((w29)) ((w30))) (h2 : DW ((u6_6)) ((w49)) ((w50)) ((w51))) (k : ∀ (z : Int) σ F' A', HS σ0 σ D N F' A' → SF [(3, 2), (5, 2), (5, 3), (5, 4), (6, 4), (6, 5), (6, 6)] F F' → SA [48, 49, 50, 51, 52] A A' → ∀ y5_4 : Int, F' 5 4 = y5_4 → ∀ y6_6 : Int, F' 6 6 = y6_6 → ∀ v27 : Int → Int, A' 27 = v27 → ∀ v28 : Int → Int, A' 28 = v28 → ∀ v29 : Int → Int, A' 29 = v29 → ∀ v30 : Int → Int, A' 30 = v30 → ∀ v49 : Int → Int, A' 49 = v49 → ∀ v50 : Int → Int, A' 50 = v50 → ∀ v51 : Int → Int, A' 51 = v51 → ((z) = 0 ∨ (z) = 1) → (DI ((y5_4)) ((v27)) ((v28)) ((v29)) ((v30))) → (DW ((y6_6)) ((v49)) ((v50)) ((v51))) → Q (some (I z)) σ c s) : Ew 78 (d + 1) 0 (rargs 0 [.ref (D 0), I a1]) [] σ c s Q := by
  have r1 : (0 : Int) ≤ u5_4 ∧ u5_4 ≤ 1 := by have h1 : (0 : Int) ≤ F 5 4 ∧ F 5 4 ≤ 1 := H.frng 5 4; rw [show F 5 4 = u5_4 from (eu5_4)] at h1; exact h1
  have r2 : (0 : Int) ≤ u6_6 ∧ u6_6 ≤ 1 := by have h1 : (0 : Int) ≤ F 6 6 ∧ F 6 6 ≤ 1 := H.frng 6 6; rw [show F 6 6 = u6_6 from (eu6_6)] at h1; exact h1
  refine Ew_of (pc' := 1) (fun _ => x_iload_n rfl rfl) ?_
  refine w_ifne (t := 11) rfl rfl (show inr (a1) by omega) (fun b3 => ?_) (fun b3 => ?_)
  · have hc34 : ∀ (ls : rO) (σ : rS) (F_c34 : hF) (A_c34 : hA) , rlook ls 1 = some (I (a1)) → HS σ0 σ D N F_c34 A_c34 → SF [(5, 2), (5, 3), (5, 4), (6, 4), (6, 5), (6, 6)] F F_c34 → SA [48, 49, 50, 51, 52] A A_c34 → ∀ yc34_5_4 : Int, F_c34 5 4 = yc34_5_4 → ∀ yc34_6_6 : Int, F_c34 6 6 = yc34_6_6 → ∀ wc34_49 : Int → Int, A_c34 49 = wc34_49 → ∀ wc34_50 : Int → Int, A_c34 50 = wc34_50 → ∀ wc34_51 : Int → Int, A_c34 51 = wc34_51 → (DI ((yc34_5_4)) ((w27)) ((w28)) ((w29)) ((w30))) → (DW ((yc34_6_6)) ((wc34_49)) ((wc34_50)) ((wc34_51))) → Ew 78 (d + 1) 34 ls [] σ c s Q := by
     as_aux_lemma =>
      intro  ls σ F_c34 A_c34  lc34_1 H hS_c34 hA_c34 yc34_5_4 eyc34_5_4 yc34_6_6 eyc34_6_6 wc34_49 ewc34_49 wc34_50 ewc34_50 wc34_51 ewc34_51 jc34_0 jc34_1
      have r4 : (0 : Int) ≤ yc34_5_4 ∧ yc34_5_4 ≤ 1 := by have h1 : (0 : Int) ≤ F_c34 5 4 ∧ F_c34 5 4 ≤ 1 := H.frng 5 4; rw [show F_c34 5 4 = yc34_5_4 from (eyc34_5_4)] at h1; exact h1
      have r5 : (0 : Int) ≤ yc34_6_6 ∧ yc34_6_6 ≤ 1 := by have h1 : (0 : Int) ≤ F_c34 6 6 ∧ F_c34 6 6 ≤ 1 := H.frng 6 6; rw [show F_c34 6 6 = yc34_6_6 from (eyc34_6_6)] at h1; exact h1
      refine Ew_of (pc' := 35) (fun _ => x_iload_n rfl lc34_1) ?_
      refine w_ifeq (t := 43) rfl rfl (show inr (a1) by omega) (fun b6 => ?_) (fun b6 => ?_)
      · refine Ew_of (pc' := 44) (fun _ => x_iconst rfl) ?_
        refine Ew_of (pc' := 48) (fun _ => x_goto rfl rfl) ?_
        exact w_ireturn rfl (k (1) σ _ _ H (SF_trans (SF_refl) hS_c34 (any_sub rfl)) (SA_trans (SA_refl) hA_c34 (any_subA rfl)) (yc34_5_4) ((eyc34_5_4)) (yc34_6_6) ((eyc34_6_6)) (w27) ((funext (hA_c34 27 rfl)).trans (ew27)) (w28) ((funext (hA_c34 28 rfl)).trans (ew28)) (w29) ((funext (hA_c34 29 rfl)).trans (ew29)) (w30) ((funext (hA_c34 30 rfl)).trans (ew30)) (wc34_49) (ewc34_49) (wc34_50) (ewc34_50) (wc34_51) (ewc34_51) (show (1) = 0 ∨ (1) = 1 by omega) (show DI ((yc34_5_4)) ((w27)) ((w28)) ((w29)) ((w30)) by assumption) (show DW ((yc34_6_6)) ((wc34_49)) ((wc34_50)) ((wc34_51)) by assumption))
      · refine Ew_of (pc' := 39) (fun _ => x_iload_n rfl lc34_1) ?_
        refine Ew_of (pc' := 40) (fun _ => x_iconst rfl) ?_
        refine w_icmpne (t := 47) rfl rfl (show inr (a1) by omega) (show inr (1) by omega) (fun b7 => ?_) (fun b7 => ?_)
        · refine Ew_of (pc' := 48) (fun _ => x_iconst rfl) ?_
          exact w_ireturn rfl (k (0) σ _ _ H (SF_trans (SF_refl) hS_c34 (any_sub rfl)) (SA_trans (SA_refl) hA_c34 (any_subA rfl)) (yc34_5_4) ((eyc34_5_4)) (yc34_6_6) ((eyc34_6_6)) (w27) ((funext (hA_c34 27 rfl)).trans (ew27)) (w28) ((funext (hA_c34 28 rfl)).trans (ew28)) (w29) ((funext (hA_c34 29 rfl)).trans (ew29)) (w30) ((funext (hA_c34 30 rfl)).trans (ew30)) (wc34_49) (ewc34_49) (wc34_50) (ewc34_50) (wc34_51) (ewc34_51) (show (0) = 0 ∨ (0) = 1 by omega) (show DI ((yc34_5_4)) ((w27)) ((w28)) ((w29)) ((w30)) by assumption) (show DW ((yc34_6_6)) ((wc34_49)) ((wc34_50)) ((wc34_51)) by assumption))
        · refine Ew_of (pc' := 44) (fun _ => x_iconst rfl) ?_
          refine Ew_of (pc' := 48) (fun _ => x_goto rfl rfl) ?_
          exact w_ireturn rfl (k (1) σ _ _ H (SF_trans (SF_refl) hS_c34 (any_sub rfl)) (SA_trans (SA_refl) hA_c34 (any_subA rfl)) (yc34_5_4) ((eyc34_5_4)) (yc34_6_6) ((eyc34_6_6)) (w27) ((funext (hA_c34 27 rfl)).trans (ew27)) (w28) ((funext (hA_c34 28 rfl)).trans (ew28)) (w29) ((funext (hA_c34 29 rfl)).trans (ew29)) (w30) ((funext (hA_c34 30 rfl)).trans (ew30)) (wc34_49) (ewc34_49) (wc34_50) (ewc34_50) (wc34_51) (ewc34_51) (show (1) = 0 ∨ (1) = 1 by omega) (show DI ((yc34_5_4)) ((w27)) ((w28)) ((w29)) ((w30)) by assumption) (show DW ((yc34_6_6)) ((wc34_49)) ((wc34_50)) ((wc34_51)) by assumption))
    refine Ew_of (pc' := 12) (fun _ => x_iload_n rfl rfl) ?_
    refine Ew_of (pc' := 13) (fun _ => x_iconst rfl) ?_
    refine w_icmpne (t := 34) rfl rfl (show inr (a1) by omega) (show inr (1) by omega) (fun b8 => ?_) (fun b8 => ?_)
    · exact hc34  _ σ _ _  (rfl) H (SF_refl) (SA_refl) (u5_4) ((eu5_4)) (u6_6) ((eu6_6)) (w49) (ew49) (w50) (ew50) (w51) (ew51) (show DI ((u5_4)) ((w27)) ((w28)) ((w29)) ((w30)) by assumption) (show DW ((u6_6)) ((w49)) ((w50)) ((w51)) by assumption)
    · refine Ew_of (pc' := 17) (fun _ => x_aload_n rfl rfl) ?_
      refine w_gT H (o := 0) (t := 5) rfl (H.perm 0 rfl) rfl rfl rfl rfl rfl rfl ?_
      refine w_inv H (o := 5) rfl rfl rfl (H.perm 5 rfl) rfl rfl (by rfl) (M274 H  (fun σ F9 A10 H hS11 hA12 y14 ey15 y16 ey17 y18 ey19 pz13_0 pz13_1 pz13_2 => ⟨rfl, ?_⟩))
      have r20 : (0 : Int) ≤ y14 ∧ y14 ≤ 65536 := by have h1 : (0 : Int) ≤ F9 5 2 ∧ F9 5 2 ≤ 65536 := H.frng 5 2; rw [show F9 5 2 = y14 from (ey15)] at h1; exact h1
      have r21 : (-2147483648 : Int) ≤ y16 ∧ y16 ≤ 2147483647 := by have h1 : (-2147483648 : Int) ≤ F9 5 3 ∧ F9 5 3 ≤ 2147483647 := H.frng 5 3; rw [show F9 5 3 = y16 from (ey17)] at h1; exact h1
      have r22 : (0 : Int) ≤ y18 ∧ y18 ≤ 1 := by have h1 : (0 : Int) ≤ F9 5 4 ∧ F9 5 4 ≤ 1 := H.frng 5 4; rw [show F9 5 4 = y18 from (ey19)] at h1; exact h1
      have : DI ((y18)) ((w27)) ((w28)) ((w29)) ((w30)) := fun q => absurd q (by omega)
      refine Ew_of (pc' := 24) (fun _ => x_aload_n rfl rfl) ?_
      refine w_gT H (o := 0) (t := 6) rfl (H.perm 0 rfl) rfl rfl rfl rfl rfl rfl ?_
      refine Ew_of (pc' := 28) (fun _ => x_aload_n rfl rfl) ?_
      refine w_gT H (o := 0) (t := 5) rfl (H.perm 0 rfl) rfl rfl rfl rfl rfl rfl ?_
      refine w_inv H (o := 6) rfl rfl rfl (H.perm 6 rfl) rfl rfl (by rfl) (M388_5 H (y14) ((ey15)) (y18) ((ey19)) (w27) ((funext (hA12 27 rfl)).trans (ew27)) (w28) ((funext (hA12 28 rfl)).trans (ew28)) (w29) ((funext (hA12 29 rfl)).trans (ew29)) (w30) ((funext (hA12 30 rfl)).trans (ew30)) (show DI ((y18)) ((w27)) ((w28)) ((w29)) ((w30)) by assumption) (fun σ F23 A24 H hS25 hA26 y28 ey29 y30 ey31 wq32 ewq33 wq34 ewq35 wq36 ewq37 pz27_0 pz27_1 => ⟨rfl, ?_⟩))
      have r38 : (0 : Int) ≤ y28 ∧ y28 ≤ 65536 := by have h1 : (0 : Int) ≤ F23 6 4 ∧ F23 6 4 ≤ 65536 := H.frng 6 4; rw [show F23 6 4 = y28 from (ey29)] at h1; exact h1
      have r39 : (0 : Int) ≤ y30 ∧ y30 ≤ 1 := by have h1 : (0 : Int) ≤ F23 6 6 ∧ F23 6 6 ≤ 1 := H.frng 6 6; rw [show F23 6 6 = y30 from (ey31)] at h1; exact h1
      exact hc34  _ σ _ _  (rfl) H (SF_trans (SF_trans (SF_refl) hS11 (any_sub rfl)) hS25 (any_sub rfl)) (SA_trans (SA_trans (SA_refl) hA12 (any_subA rfl)) hA26 (any_subA rfl)) (y18) (((hS25 5 4 rfl).trans (ey19))) (y30) ((ey31)) (wq32) (ewq33) (wq34) (ewq35) (wq36) (ewq37) (show DI ((y18)) ((w27)) ((w28)) ((w29)) ((w30)) by assumption) (show DW ((y30)) ((wq32)) ((wq34)) ((wq36)) by assumption)
  · refine Ew_of (pc' := 5) (fun _ => x_aload_n rfl rfl) ?_
    refine w_gT H (o := 0) (t := 3) rfl (H.perm 0 rfl) rfl rfl rfl rfl rfl rfl ?_
    refine w_inv H (o := 3) rfl rfl rfl (H.perm 3 rfl) rfl rfl (by rfl) (M355 H  (fun σ F40 A41 H hS42 hA43 => ⟨rfl, ?_⟩))
    have hc34 : ∀ (ls : rO) (σ : rS) (F_c34 : hF) (A_c34 : hA) , rlook ls 1 = some (I (a1)) → HS σ0 σ D N F_c34 A_c34 → SF [(5, 2), (5, 3), (5, 4), (6, 4), (6, 5), (6, 6)] F40 F_c34 → SA [48, 49, 50, 51, 52] A41 A_c34 → ∀ yc34_5_4 : Int, F_c34 5 4 = yc34_5_4 → ∀ yc34_6_6 : Int, F_c34 6 6 = yc34_6_6 → ∀ wc34_49 : Int → Int, A_c34 49 = wc34_49 → ∀ wc34_50 : Int → Int, A_c34 50 = wc34_50 → ∀ wc34_51 : Int → Int, A_c34 51 = wc34_51 → (DI ((yc34_5_4)) ((w27)) ((w28)) ((w29)) ((w30))) → (DW ((yc34_6_6)) ((wc34_49)) ((wc34_50)) ((wc34_51))) → Ew 78 (d + 1) 34 ls [] σ c s Q := by
     as_aux_lemma =>
      intro  ls σ F_c34 A_c34  lc34_1 H hS_c34 hA_c34 yc34_5_4 eyc34_5_4 yc34_6_6 eyc34_6_6 wc34_49 ewc34_49 wc34_50 ewc34_50 wc34_51 ewc34_51 jc34_0 jc34_1
      have r45 : (0 : Int) ≤ yc34_5_4 ∧ yc34_5_4 ≤ 1 := by have h1 : (0 : Int) ≤ F_c34 5 4 ∧ F_c34 5 4 ≤ 1 := H.frng 5 4; rw [show F_c34 5 4 = yc34_5_4 from (eyc34_5_4)] at h1; exact h1
      have r46 : (0 : Int) ≤ yc34_6_6 ∧ yc34_6_6 ≤ 1 := by have h1 : (0 : Int) ≤ F_c34 6 6 ∧ F_c34 6 6 ≤ 1 := H.frng 6 6; rw [show F_c34 6 6 = yc34_6_6 from (eyc34_6_6)] at h1; exact h1
      refine Ew_of (pc' := 35) (fun _ => x_iload_n rfl lc34_1) ?_
      refine w_ifeq (t := 43) rfl rfl (show inr (a1) by omega) (fun b47 => ?_) (fun b47 => ?_)
      · refine Ew_of (pc' := 44) (fun _ => x_iconst rfl) ?_
        refine Ew_of (pc' := 48) (fun _ => x_goto rfl rfl) ?_
        exact w_ireturn rfl (k (1) σ _ _ H (SF_trans (SF_trans (SF_refl) hS42 (any_sub rfl)) hS_c34 (any_sub rfl)) (SA_trans (SA_trans (SA_refl) hA43 (any_subA rfl)) hA_c34 (any_subA rfl)) (yc34_5_4) ((eyc34_5_4)) (yc34_6_6) ((eyc34_6_6)) (w27) ((funext (hA_c34 27 rfl)).trans ((funext (hA43 27 rfl)).trans (ew27))) (w28) ((funext (hA_c34 28 rfl)).trans ((funext (hA43 28 rfl)).trans (ew28))) (w29) ((funext (hA_c34 29 rfl)).trans ((funext (hA43 29 rfl)).trans (ew29))) (w30) ((funext (hA_c34 30 rfl)).trans ((funext (hA43 30 rfl)).trans (ew30))) (wc34_49) (ewc34_49) (wc34_50) (ewc34_50) (wc34_51) (ewc34_51) (show (1) = 0 ∨ (1) = 1 by omega) (show DI ((yc34_5_4)) ((w27)) ((w28)) ((w29)) ((w30)) by assumption) (show DW ((yc34_6_6)) ((wc34_49)) ((wc34_50)) ((wc34_51)) by assumption))
      · refine Ew_of (pc' := 39) (fun _ => x_iload_n rfl lc34_1) ?_
        refine Ew_of (pc' := 40) (fun _ => x_iconst rfl) ?_
        refine w_icmpne (t := 47) rfl rfl (show inr (a1) by omega) (show inr (1) by omega) (fun b48 => ?_) (fun b48 => ?_)
        · refine Ew_of (pc' := 48) (fun _ => x_iconst rfl) ?_
          exact w_ireturn rfl (k (0) σ _ _ H (SF_trans (SF_trans (SF_refl) hS42 (any_sub rfl)) hS_c34 (any_sub rfl)) (SA_trans (SA_trans (SA_refl) hA43 (any_subA rfl)) hA_c34 (any_subA rfl)) (yc34_5_4) ((eyc34_5_4)) (yc34_6_6) ((eyc34_6_6)) (w27) ((funext (hA_c34 27 rfl)).trans ((funext (hA43 27 rfl)).trans (ew27))) (w28) ((funext (hA_c34 28 rfl)).trans ((funext (hA43 28 rfl)).trans (ew28))) (w29) ((funext (hA_c34 29 rfl)).trans ((funext (hA43 29 rfl)).trans (ew29))) (w30) ((funext (hA_c34 30 rfl)).trans ((funext (hA43 30 rfl)).trans (ew30))) (wc34_49) (ewc34_49) (wc34_50) (ewc34_50) (wc34_51) (ewc34_51) (show (0) = 0 ∨ (0) = 1 by omega) (show DI ((yc34_5_4)) ((w27)) ((w28)) ((w29)) ((w30)) by assumption) (show DW ((yc34_6_6)) ((wc34_49)) ((wc34_50)) ((wc34_51)) by assumption))
        · refine Ew_of (pc' := 44) (fun _ => x_iconst rfl) ?_
          refine Ew_of (pc' := 48) (fun _ => x_goto rfl rfl) ?_
          exact w_ireturn rfl (k (1) σ _ _ H (SF_trans (SF_trans (SF_refl) hS42 (any_sub rfl)) hS_c34 (any_sub rfl)) (SA_trans (SA_trans (SA_refl) hA43 (any_subA rfl)) hA_c34 (any_subA rfl)) (yc34_5_4) ((eyc34_5_4)) (yc34_6_6) ((eyc34_6_6)) (w27) ((funext (hA_c34 27 rfl)).trans ((funext (hA43 27 rfl)).trans (ew27))) (w28) ((funext (hA_c34 28 rfl)).trans ((funext (hA43 28 rfl)).trans (ew28))) (w29) ((funext (hA_c34 29 rfl)).trans ((funext (hA43 29 rfl)).trans (ew29))) (w30) ((funext (hA_c34 30 rfl)).trans ((funext (hA43 30 rfl)).trans (ew30))) (wc34_49) (ewc34_49) (wc34_50) (ewc34_50) (wc34_51) (ewc34_51) (show (1) = 0 ∨ (1) = 1 by omega) (show DI ((yc34_5_4)) ((w27)) ((w28)) ((w29)) ((w30)) by assumption) (show DW ((yc34_6_6)) ((wc34_49)) ((wc34_50)) ((wc34_51)) by assumption))
    refine Ew_of (pc' := 12) (fun _ => x_iload_n rfl rfl) ?_
    refine Ew_of (pc' := 13) (fun _ => x_iconst rfl) ?_
    refine w_icmpne (t := 34) rfl rfl (show inr (a1) by omega) (show inr (1) by omega) (fun b49 => ?_) (fun b49 => ?_)
    · exact hc34  _ σ _ _  (rfl) H (SF_refl) (SA_refl) (u5_4) (((hS42 5 4 rfl).trans (eu5_4))) (u6_6) (((hS42 6 6 rfl).trans (eu6_6))) (w49) ((funext (hA43 49 rfl)).trans (ew49)) (w50) ((funext (hA43 50 rfl)).trans (ew50)) (w51) ((funext (hA43 51 rfl)).trans (ew51)) (show DI ((u5_4)) ((w27)) ((w28)) ((w29)) ((w30)) by assumption) (show DW ((u6_6)) ((w49)) ((w50)) ((w51)) by assumption)
    · refine Ew_of (pc' := 17) (fun _ => x_aload_n rfl rfl) ?_
      refine w_gT H (o := 0) (t := 5) rfl (H.perm 0 rfl) rfl rfl rfl rfl rfl rfl ?_
      refine w_inv H (o := 5) rfl rfl rfl (H.perm 5 rfl) rfl rfl (by rfl) (M274 H  (fun σ F50 A51 H hS52 hA53 y55 ey56 y57 ey58 y59 ey60 pz54_0 pz54_1 pz54_2 => ⟨rfl, ?_⟩))
      have r61 : (0 : Int) ≤ y55 ∧ y55 ≤ 65536 := by have h1 : (0 : Int) ≤ F50 5 2 ∧ F50 5 2 ≤ 65536 := H.frng 5 2; rw [show F50 5 2 = y55 from (ey56)] at h1; exact h1
      have r62 : (-2147483648 : Int) ≤ y57 ∧ y57 ≤ 2147483647 := by have h1 : (-2147483648 : Int) ≤ F50 5 3 ∧ F50 5 3 ≤ 2147483647 := H.frng 5 3; rw [show F50 5 3 = y57 from (ey58)] at h1; exact h1
      have r63 : (0 : Int) ≤ y59 ∧ y59 ≤ 1 := by have h1 : (0 : Int) ≤ F50 5 4 ∧ F50 5 4 ≤ 1 := H.frng 5 4; rw [show F50 5 4 = y59 from (ey60)] at h1; exact h1
      have : DI ((y59)) ((w27)) ((w28)) ((w29)) ((w30)) := fun q => absurd q (by omega)
      refine Ew_of (pc' := 24) (fun _ => x_aload_n rfl rfl) ?_
      refine w_gT H (o := 0) (t := 6) rfl (H.perm 0 rfl) rfl rfl rfl rfl rfl rfl ?_
      refine Ew_of (pc' := 28) (fun _ => x_aload_n rfl rfl) ?_
      refine w_gT H (o := 0) (t := 5) rfl (H.perm 0 rfl) rfl rfl rfl rfl rfl rfl ?_
      refine w_inv H (o := 6) rfl rfl rfl (H.perm 6 rfl) rfl rfl (by rfl) (M388_5 H (y55) ((ey56)) (y59) ((ey60)) (w27) ((funext (hA53 27 rfl)).trans ((funext (hA43 27 rfl)).trans (ew27))) (w28) ((funext (hA53 28 rfl)).trans ((funext (hA43 28 rfl)).trans (ew28))) (w29) ((funext (hA53 29 rfl)).trans ((funext (hA43 29 rfl)).trans (ew29))) (w30) ((funext (hA53 30 rfl)).trans ((funext (hA43 30 rfl)).trans (ew30))) (show DI ((y59)) ((w27)) ((w28)) ((w29)) ((w30)) by assumption) (fun σ F64 A65 H hS66 hA67 y69 ey70 y71 ey72 wq73 ewq74 wq75 ewq76 wq77 ewq78 pz68_0 pz68_1 => ⟨rfl, ?_⟩))
      have r79 : (0 : Int) ≤ y69 ∧ y69 ≤ 65536 := by have h1 : (0 : Int) ≤ F64 6 4 ∧ F64 6 4 ≤ 65536 := H.frng 6 4; rw [show F64 6 4 = y69 from (ey70)] at h1; exact h1
      have r80 : (0 : Int) ≤ y71 ∧ y71 ≤ 1 := by have h1 : (0 : Int) ≤ F64 6 6 ∧ F64 6 6 ≤ 1 := H.frng 6 6; rw [show F64 6 6 = y71 from (ey72)] at h1; exact h1
      exact hc34  _ σ _ _  (rfl) H (SF_trans (SF_trans (SF_refl) hS52 (any_sub rfl)) hS66 (any_sub rfl)) (SA_trans (SA_trans (SA_refl) hA53 (any_subA rfl)) hA67 (any_subA rfl)) (y59) (((hS66 5 4 rfl).trans (ey60))) (y71) ((ey72)) (wq73) (ewq74) (wq75) (ewq76) (wq77) (ewq78) (show DI ((y59)) ((w27)) ((w28)) ((w29)) ((w30)) by assumption) (show DW ((y71)) ((wq73)) ((wq75)) ((wq77)) by assumption)
/-- Model.ahead -/
theorem M79 {σ0 σ : rS} {D N : Nat → Nat} {F : hF} {A : hA} {d c s : Nat} {Q : wQ} (H : HS σ0 σ D N F A) {a1 : Int} (u3_2 : Int) (eu3_2 : F 3 2 = u3_2) (u5_2 : Int) (eu5_2 : F 5 2 = u5_2) (h0 : inr (a1)) (k : ∀ (z : Int) σ F' A', HS σ0 σ D N F' A' → SF [] F F' → SA [] A A' → (inr (z)) → (0 ≤ (z) ∧ (z) ≤ 65536) → ((a1) < 2 ∧ (z) = (u3_2) ∨ (a1) = 4 ∧ (z) = (u5_2) ∨ 2 ≤ (a1) ∧ (a1) ≠ 4 ∧ (z) = 0) → Q (some (I z)) σ c s) : Ew 79 (d + 0) 0 (rargs 0 [.ref (D 0), I a1]) [] σ c s Q := by
  have r1 : (0 : Int) ≤ u3_2 ∧ u3_2 ≤ 65536 := by have h1 : (0 : Int) ≤ F 3 2 ∧ F 3 2 ≤ 65536 := H.frng 3 2; rw [show F 3 2 = u3_2 from (eu3_2)] at h1; exact h1
  have r2 : (0 : Int) ≤ u5_2 ∧ u5_2 ≤ 65536 := by have h1 : (0 : Int) ≤ F 5 2 ∧ F 5 2 ≤ 65536 := H.frng 5 2; rw [show F 5 2 = u5_2 from (eu5_2)] at h1; exact h1
  refine Ew_of (pc' := 1) (fun _ => x_iload_n rfl rfl) ?_
  refine Ew_of (pc' := 2) (fun _ => x_iconst rfl) ?_
  refine w_icmpge (t := 15) rfl rfl (show inr (a1) by omega) (show inr (2) by omega) (fun b3 => ?_) (fun b3 => ?_)
  · refine Ew_of (pc' := 16) (fun _ => x_iload_n rfl rfl) ?_
    refine Ew_of (pc' := 17) (fun _ => x_iconst rfl) ?_
    refine w_icmpne (t := 30) rfl rfl (show inr (a1) by omega) (show inr (4) by omega) (fun b4 => ?_) (fun b4 => ?_)
    · refine Ew_of (pc' := 31) (fun _ => x_iconst rfl) ?_
      exact w_ireturn rfl (k (0) σ _ _ H (SF_refl) (SA_refl) (show inr (0) by omega) (show 0 ≤ (0) ∧ (0) ≤ 65536 by omega) (show a1 < 2 ∧ (0) = (u3_2) ∨ a1 = 4 ∧ (0) = (u5_2) ∨ 2 ≤ a1 ∧ a1 ≠ 4 ∧ (0) = 0 by omega))
    · refine Ew_of (pc' := 21) (fun _ => x_aload_n rfl rfl) ?_
      refine w_gT H (o := 0) (t := 5) rfl (H.perm 0 rfl) rfl rfl rfl rfl rfl rfl ?_
      refine w_gI H (o := 5) (w := u5_2) rfl (H.perm 5 rfl) rfl rfl rfl (fun _ => rfl) (eu5_2) ?_
      refine Ew_of (pc' := 31) (fun _ => x_goto rfl rfl) ?_
      exact w_ireturn rfl (k (u5_2) σ _ _ H (SF_refl) (SA_refl) (show inr (u5_2) by omega) (show 0 ≤ (u5_2) ∧ (u5_2) ≤ 65536 by omega) (show a1 < 2 ∧ (u5_2) = (u3_2) ∨ a1 = 4 ∧ (u5_2) = (u5_2) ∨ 2 ≤ a1 ∧ a1 ≠ 4 ∧ (u5_2) = 0 by omega))
  · refine Ew_of (pc' := 6) (fun _ => x_aload_n rfl rfl) ?_
    refine w_gT H (o := 0) (t := 3) rfl (H.perm 0 rfl) rfl rfl rfl rfl rfl rfl ?_
    refine w_gI H (o := 3) (w := u3_2) rfl (H.perm 3 rfl) rfl rfl rfl (fun _ => rfl) (eu3_2) ?_
    refine Ew_of (pc' := 31) (fun _ => x_goto rfl rfl) ?_
    exact w_ireturn rfl (k (u3_2) σ _ _ H (SF_refl) (SA_refl) (show inr (u3_2) by omega) (show 0 ≤ (u3_2) ∧ (u3_2) ≤ 65536 by omega) (show a1 < 2 ∧ (u3_2) = (u3_2) ∨ a1 = 4 ∧ (u3_2) = (u5_2) ∨ 2 ≤ a1 ∧ a1 ≠ 4 ∧ (u3_2) = 0 by omega))
/-- Model.state -/
theorem M83 {σ0 σ : rS} {D N : Nat → Nat} {F : hF} {A : hA} {d c s : Nat} {Q : wQ} (H : HS σ0 σ D N F A) {a1 : Int} (h0 : inr (a1)) (k : ∀ (z : Int) σ F' A', HS σ0 σ D N F' A' → SF [] F F' → SA [] A A' → (inr (z)) → ((a1) = 3 → 0 ≤ (z) ∧ (z) ≤ 65536) → Q (some (I z)) σ c s) : Ew 83 (d + 0) 0 (rargs 0 [.ref (D 0), I a1]) [] σ c s Q := by
  refine Ew_of (pc' := 1) (fun _ => x_iload_n rfl rfl) ?_
  refine w_ifne (t := 14) rfl rfl (show inr (a1) by omega) (fun b1 => ?_) (fun b1 => ?_)
  · refine Ew_of (pc' := 15) (fun _ => x_iload_n rfl rfl) ?_
    refine Ew_of (pc' := 16) (fun _ => x_iconst rfl) ?_
    refine w_icmpne (t := 29) rfl rfl (show inr (a1) by omega) (show inr (1) by omega) (fun b2 => ?_) (fun b2 => ?_)
    · refine Ew_of (pc' := 30) (fun _ => x_iload_n rfl rfl) ?_
      refine Ew_of (pc' := 31) (fun _ => x_iconst rfl) ?_
      refine w_icmpne (t := 44) rfl rfl (show inr (a1) by omega) (show inr (2) by omega) (fun b3 => ?_) (fun b3 => ?_)
      · refine Ew_of (pc' := 45) (fun _ => x_iload_n rfl rfl) ?_
        refine Ew_of (pc' := 46) (fun _ => x_iconst rfl) ?_
        refine w_icmpne (t := 59) rfl rfl (show inr (a1) by omega) (show inr (3) by omega) (fun b4 => ?_) (fun b4 => ?_)
        · refine Ew_of (pc' := 60) (fun _ => x_aload_n rfl rfl) ?_
          refine w_gT H (o := 0) (t := 5) rfl (H.perm 0 rfl) rfl rfl rfl rfl rfl rfl ?_
          have r5 : (-2147483648 : Int) ≤ F 5 36 ∧ F 5 36 ≤ 2147483647 := by have h1 : (-2147483648 : Int) ≤ F 5 36 ∧ F 5 36 ≤ 2147483647 := H.frng 5 36; rw [show F 5 36 = F 5 36 from rfl] at h1; exact h1
          refine w_gI H (o := 5) (w := F 5 36) rfl (H.perm 5 rfl) rfl rfl rfl (fun _ => rfl) rfl ?_
          exact w_ireturn rfl (k (F 5 36) σ _ _ H (SF_refl) (SA_refl) (show inr (F 5 36) by omega) (show a1 = 3 → 0 ≤ (F 5 36) ∧ (F 5 36) ≤ 65536 by omega))
        · refine Ew_of (pc' := 50) (fun _ => x_aload_n rfl rfl) ?_
          refine w_gT H (o := 0) (t := 5) rfl (H.perm 0 rfl) rfl rfl rfl rfl rfl rfl ?_
          have r6 : (0 : Int) ≤ F 5 27 ∧ F 5 27 ≤ 65536 := by have h1 : (0 : Int) ≤ F 5 27 ∧ F 5 27 ≤ 65536 := H.frng 5 27; rw [show F 5 27 = F 5 27 from rfl] at h1; exact h1
          refine w_gI H (o := 5) (w := F 5 27) rfl (H.perm 5 rfl) rfl rfl rfl (fun _ => rfl) rfl ?_
          refine Ew_of (pc' := 66) (fun _ => x_goto rfl rfl) ?_
          exact w_ireturn rfl (k (F 5 27) σ _ _ H (SF_refl) (SA_refl) (show inr (F 5 27) by omega) (show a1 = 3 → 0 ≤ (F 5 27) ∧ (F 5 27) ≤ 65536 by omega))
      · refine Ew_of (pc' := 35) (fun _ => x_aload_n rfl rfl) ?_
        refine w_gT H (o := 0) (t := 5) rfl (H.perm 0 rfl) rfl rfl rfl rfl rfl rfl ?_
        have r7 : (-2147483648 : Int) ≤ F 5 34 ∧ F 5 34 ≤ 2147483647 := by have h1 : (-2147483648 : Int) ≤ F 5 34 ∧ F 5 34 ≤ 2147483647 := H.frng 5 34; rw [show F 5 34 = F 5 34 from rfl] at h1; exact h1
        refine w_gI H (o := 5) (w := F 5 34) rfl (H.perm 5 rfl) rfl rfl rfl (fun _ => rfl) rfl ?_
        refine Ew_of (pc' := 66) (fun _ => x_goto rfl rfl) ?_
        exact w_ireturn rfl (k (F 5 34) σ _ _ H (SF_refl) (SA_refl) (show inr (F 5 34) by omega) (show a1 = 3 → 0 ≤ (F 5 34) ∧ (F 5 34) ≤ 65536 by omega))
    · refine Ew_of (pc' := 20) (fun _ => x_aload_n rfl rfl) ?_
      refine w_gT H (o := 0) (t := 5) rfl (H.perm 0 rfl) rfl rfl rfl rfl rfl rfl ?_
      have r8 : (-2147483648 : Int) ≤ F 5 33 ∧ F 5 33 ≤ 2147483647 := by have h1 : (-2147483648 : Int) ≤ F 5 33 ∧ F 5 33 ≤ 2147483647 := H.frng 5 33; rw [show F 5 33 = F 5 33 from rfl] at h1; exact h1
      refine w_gI H (o := 5) (w := F 5 33) rfl (H.perm 5 rfl) rfl rfl rfl (fun _ => rfl) rfl ?_
      refine Ew_of (pc' := 66) (fun _ => x_goto rfl rfl) ?_
      exact w_ireturn rfl (k (F 5 33) σ _ _ H (SF_refl) (SA_refl) (show inr (F 5 33) by omega) (show a1 = 3 → 0 ≤ (F 5 33) ∧ (F 5 33) ≤ 65536 by omega))
  · refine Ew_of (pc' := 5) (fun _ => x_aload_n rfl rfl) ?_
    refine w_gT H (o := 0) (t := 5) rfl (H.perm 0 rfl) rfl rfl rfl rfl rfl rfl ?_
    have r9 : (-2147483648 : Int) ≤ F 5 32 ∧ F 5 32 ≤ 2147483647 := by have h1 : (-2147483648 : Int) ≤ F 5 32 ∧ F 5 32 ≤ 2147483647 := H.frng 5 32; rw [show F 5 32 = F 5 32 from rfl] at h1; exact h1
    refine w_gI H (o := 5) (w := F 5 32) rfl (H.perm 5 rfl) rfl rfl rfl (fun _ => rfl) rfl ?_
    refine Ew_of (pc' := 66) (fun _ => x_goto rfl rfl) ?_
    exact w_ireturn rfl (k (F 5 32) σ _ _ H (SF_refl) (SA_refl) (show inr (F 5 32) by omega) (show a1 = 3 → 0 ≤ (F 5 32) ∧ (F 5 32) ≤ 65536 by omega))
/-- Model.reads -/
theorem M84 {σ0 σ : rS} {D N : Nat → Nat} {F : hF} {A : hA} {d c s : Nat} {Q : wQ} (H : HS σ0 σ D N F A) {a1 a2 : Int} (u5_4 : Int) (eu5_4 : F 5 4 = u5_4) (w27 : Int → Int) (ew27 : A 27 = w27) (w28 : Int → Int) (ew28 : A 28 = w28) (w29 : Int → Int) (ew29 : A 29 = w29) (w30 : Int → Int) (ew30 : A 30 = w30) (w34 : Int → Int) (ew34 : A 34 = w34) (w35 : Int → Int) (ew35 : A 35 = w35) (w36 : Int → Int) (ew36 : A 36 = w36) (w37 : Int → Int) (ew37 : A 37 = w37) (h0 : inr (a1)) (h1 : inr (a2)) (h2 : 0 ≤ (a1) ∧ (a1) ≤ 4 ∧ 0 ≤ (a2) ∧ (a2) ≤ 65536) (h3 : RT ((w35)) ((w36)) ((w37)) ((w34))) (h4 : DI ((u5_4)) ((w27)) ((w28)) ((w29)) ((w30))) (k : ∀ (z : Int) σ F' A', HS σ0 σ D N F' A' → SF [(1, 3), (1, 4), (3, 12), (3, 14), (3, 15), (3, 16), (4, 2), (4, 8), (4, 9), (4, 10), (4, 11), (5, 10), (5, 19), (5, 25), (5, 26), (5, 27), (5, 28), (5, 29), (5, 30), (5, 31), (5, 32), (5, 33), (5, 34), (5, 35), (5, 36), (5, 39), (5, 40), (5, 41), (5, 42), (5, 43), (5, 44), (5, 45)] F F' → SA [15, 17, 21, 22, 23, 31, 32, 33, 34, 35, 36, 37, 38, 39, 40, 41, 42, 43, 44, 45, 46, 47] A A' → ∀ v34 : Int → Int, A' 34 = v34 → ∀ v35 : Int → Int, A' 35 = v35 → ∀ v36 : Int → Int, A' 36 = v36 → ∀ v37 : Int → Int, A' 37 = v37 → (inr (z)) → (RT ((v35)) ((v36)) ((v37)) ((v34))) → Q (some (I z)) σ c s) : Ew 84 (d + 11) 0 (rargs 0 [.ref (D 0), I a1, I a2]) [] σ c s Q := by
  have r1 : (0 : Int) ≤ u5_4 ∧ u5_4 ≤ 1 := by have h1 : (0 : Int) ≤ F 5 4 ∧ F 5 4 ≤ 1 := H.frng 5 4; rw [show F 5 4 = u5_4 from (eu5_4)] at h1; exact h1
  have hc71 : ∀ (tc71_0 : Int), ∀ (ls : rO) (σ : rS) (F_c71 : hF) (A_c71 : hA) , rlook ls 0 = some (.ref (D 0)) → rlook ls 1 = some (I (a1)) → HS σ0 σ D N F_c71 A_c71 → SF [(1, 3), (1, 4), (3, 12), (3, 14), (3, 15), (3, 16), (4, 2), (4, 8), (4, 9), (4, 10), (4, 11), (5, 10), (5, 19), (5, 25), (5, 26), (5, 27), (5, 28), (5, 29), (5, 30), (5, 31), (5, 32), (5, 33), (5, 34), (5, 35), (5, 36), (5, 39), (5, 40), (5, 41), (5, 42), (5, 43), (5, 44), (5, 45)] F F_c71 → SA [15, 17, 21, 22, 23, 31, 32, 33, 34, 35, 36, 37, 38, 39, 40, 41, 42, 43, 44, 45, 46, 47] A A_c71 → ∀ wc71_34 : Int → Int, A_c71 34 = wc71_34 → ∀ wc71_35 : Int → Int, A_c71 35 = wc71_35 → ∀ wc71_36 : Int → Int, A_c71 36 = wc71_36 → ∀ wc71_37 : Int → Int, A_c71 37 = wc71_37 → (inr (tc71_0)) → (RT ((wc71_35)) ((wc71_36)) ((wc71_37)) ((wc71_34))) → Ew 84 (d + 11) 71 ls [I (tc71_0)] σ c s Q := by
   as_aux_lemma =>
    intro tc71_0 ls σ F_c71 A_c71  lc71_0 lc71_1 H hS_c71 hA_c71  wc71_34 ewc71_34 wc71_35 ewc71_35 wc71_36 ewc71_36 wc71_37 ewc71_37 jc71_0 jc71_1
    refine Ew_of (pc' := 72) (fun _ => x_istore_n rfl) ?_
    refine Ew_of (pc' := 73) (fun _ => x_iload_n rfl (rk_o (lc71_1) rfl rfl)) ?_
    refine Ew_of (pc' := 74) (fun _ => x_iconst rfl) ?_
    refine w_icmpne (t := 91) rfl rfl (show inr (a1) by omega) (show inr (4) by omega) (fun b2 => ?_) (fun b2 => ?_)
    · refine Ew_of (pc' := 92) (fun _ => x_iload_n rfl rk_s) ?_
      exact w_ireturn rfl (k (tc71_0) σ _ _ H (SF_trans (SF_refl) hS_c71 (any_sub rfl)) (SA_trans (SA_refl) hA_c71 (any_subA rfl)) (wc71_34) (ewc71_34) (wc71_35) (ewc71_35) (wc71_36) (ewc71_36) (wc71_37) (ewc71_37) (show inr (tc71_0) by omega) (show RT ((wc71_35)) ((wc71_36)) ((wc71_37)) ((wc71_34)) by assumption))
    · refine Ew_of (pc' := 78) (fun _ => x_aload_n rfl (rk_o (lc71_0) rfl rfl)) ?_
      refine w_gT H (o := 0) (t := 1) rfl (H.perm 0 rfl) rfl rfl rfl rfl rfl rfl ?_
      refine Ew_of (pc' := 82) (fun _ => x_aload_n rfl (rk_o (lc71_0) rfl rfl)) ?_
      refine w_gT H (o := 0) (t := 5) rfl (H.perm 0 rfl) rfl rfl rfl rfl rfl rfl ?_
      have r3 : (0 : Int) ≤ F_c71 5 31 ∧ F_c71 5 31 ≤ 65536 := by have h1 : (0 : Int) ≤ F_c71 5 31 ∧ F_c71 5 31 ≤ 65536 := H.frng 5 31; rw [show F_c71 5 31 = F_c71 5 31 from rfl] at h1; exact h1
      refine w_gI H (o := 5) (w := F_c71 5 31) rfl (H.perm 5 rfl) rfl rfl rfl (fun _ => rfl) rfl ?_
      refine w_pI H (o := 1) rfl rfl (H.perm 1 rfl) rfl rfl rfl (fun _ => rfl) rfl (show (-2147483648 : Int) ≤ F_c71 5 31 ∧ F_c71 5 31 ≤ 2147483647 by omega) (fun σ H => ?_)
      refine Ew_of (pc' := 92) (fun _ => x_iload_n rfl rk_s) ?_
      exact w_ireturn rfl (k (tc71_0) σ _ _ H (SF_upd (SF_trans (SF_refl) hS_c71 (any_sub rfl)) rfl) (SA_trans (SA_refl) hA_c71 (any_subA rfl)) (wc71_34) (ewc71_34) (wc71_35) (ewc71_35) (wc71_36) (ewc71_36) (wc71_37) (ewc71_37) (show inr (tc71_0) by omega) (show RT ((wc71_35)) ((wc71_36)) ((wc71_37)) ((wc71_34)) by assumption))
  refine Ew_of (pc' := 1) (fun _ => x_iload_n rfl rfl) ?_
  refine w_ifne (t := 15) rfl rfl (show inr (a1) by omega) (fun b4 => ?_) (fun b4 => ?_)
  · refine Ew_of (pc' := 16) (fun _ => x_iload_n rfl rfl) ?_
    refine Ew_of (pc' := 17) (fun _ => x_iconst rfl) ?_
    refine w_icmpne (t := 31) rfl rfl (show inr (a1) by omega) (show inr (1) by omega) (fun b5 => ?_) (fun b5 => ?_)
    · refine Ew_of (pc' := 32) (fun _ => x_iload_n rfl rfl) ?_
      refine Ew_of (pc' := 33) (fun _ => x_iconst rfl) ?_
      refine w_icmpne (t := 47) rfl rfl (show inr (a1) by omega) (show inr (2) by omega) (fun b6 => ?_) (fun b6 => ?_)
      · refine Ew_of (pc' := 48) (fun _ => x_iload_n rfl rfl) ?_
        refine Ew_of (pc' := 49) (fun _ => x_iconst rfl) ?_
        refine w_icmpne (t := 63) rfl rfl (show inr (a1) by omega) (show inr (3) by omega) (fun b7 => ?_) (fun b7 => ?_)
        · refine Ew_of (pc' := 64) (fun _ => x_aload_n rfl rfl) ?_
          refine w_gT H (o := 0) (t := 5) rfl (H.perm 0 rfl) rfl rfl rfl rfl rfl rfl ?_
          refine Ew_of (pc' := 68) (fun _ => x_iload_n rfl rfl) ?_
          have r8 : (0 : Int) ≤ F 1 1 ∧ F 1 1 ≤ 65536 := by have h1 : (0 : Int) ≤ F 1 1 ∧ F 1 1 ≤ 65536 := H.frng 1 1; rw [show F 1 1 = F 1 1 from rfl] at h1; exact h1
          have r9 : (0 : Int) ≤ F 5 2 ∧ F 5 2 ≤ 65536 := by have h1 : (0 : Int) ≤ F 5 2 ∧ F 5 2 ≤ 65536 := H.frng 5 2; rw [show F 5 2 = F 5 2 from rfl] at h1; exact h1
          have r10 : (-2147483648 : Int) ≤ F 5 3 ∧ F 5 3 ≤ 2147483647 := by have h1 : (-2147483648 : Int) ≤ F 5 3 ∧ F 5 3 ≤ 2147483647 := H.frng 5 3; rw [show F 5 3 = F 5 3 from rfl] at h1; exact h1
          refine w_inv H (o := 5) rfl rfl rfl (H.perm 5 rfl) rfl rfl (by rfl) (M284 H (F 1 1) (rfl) (F 5 2) (rfl) (F 5 3) (rfl) (u5_4) ((eu5_4)) (A 14) (rfl) (A 26) (rfl) (w27) (ew27) (w28) (ew28) (w29) (ew29) (w30) (ew30) (w34) (ew34) (w35) (ew35) (w36) (ew36) (w37) (ew37) (show inr (a2) by omega) (show 0 ≤ (a2) ∧ (a2) ≤ 65536 by omega) (show RT ((w35)) ((w36)) ((w37)) ((w34)) by assumption) (show DI ((u5_4)) ((w27)) ((w28)) ((w29)) ((w30)) by assumption) (show RDI Dc ((u5_4)) ((F 5 3)) ((A 26)) ((F 5 2)) ((w27)) ((w28)) ((w29)) ((w30)) by assumption) (fun z15 σ F11 A12 H hS13 hA14 y16 ey17 y18 ey19 y20 ey21 y22 ey23 y24 ey25 y26 ey27 y28 ey29 wq30 ewq31 wq32 ewq33 wq34 ewq35 wq36 ewq37 wq38 ewq39 wq40 ewq41 pz15_0 pz15_1 pz15_2 pz15_3 => ⟨rfl, ?_⟩))
          have r42 : (0 : Int) ≤ y16 ∧ y16 ≤ 65536 := by have h1 : (0 : Int) ≤ F11 1 3 ∧ F11 1 3 ≤ 65536 := H.frng 1 3; rw [show F11 1 3 = y16 from (ey17)] at h1; exact h1
          have r43 : (0 : Int) ≤ y18 ∧ y18 ≤ 65536 := by have h1 : (0 : Int) ≤ F11 5 27 ∧ F11 5 27 ≤ 65536 := H.frng 5 27; rw [show F11 5 27 = y18 from (ey19)] at h1; exact h1
          have r44 : (0 : Int) ≤ y20 ∧ y20 ≤ 65536 := by have h1 : (0 : Int) ≤ F11 5 31 ∧ F11 5 31 ≤ 65536 := H.frng 5 31; rw [show F11 5 31 = y20 from (ey21)] at h1; exact h1
          have r45 : (-2147483648 : Int) ≤ y22 ∧ y22 ≤ 2147483647 := by have h1 : (-2147483648 : Int) ≤ F11 5 32 ∧ F11 5 32 ≤ 2147483647 := H.frng 5 32; rw [show F11 5 32 = y22 from (ey23)] at h1; exact h1
          have r46 : (-2147483648 : Int) ≤ y24 ∧ y24 ≤ 2147483647 := by have h1 : (-2147483648 : Int) ≤ F11 5 33 ∧ F11 5 33 ≤ 2147483647 := H.frng 5 33; rw [show F11 5 33 = y24 from (ey25)] at h1; exact h1
          have r47 : (-2147483648 : Int) ≤ y26 ∧ y26 ≤ 2147483647 := by have h1 : (-2147483648 : Int) ≤ F11 5 34 ∧ F11 5 34 ≤ 2147483647 := H.frng 5 34; rw [show F11 5 34 = y26 from (ey27)] at h1; exact h1
          have r48 : (-2147483648 : Int) ≤ y28 ∧ y28 ≤ 2147483647 := by have h1 : (-2147483648 : Int) ≤ F11 5 36 ∧ F11 5 36 ≤ 2147483647 := H.frng 5 36; rw [show F11 5 36 = y28 from (ey29)] at h1; exact h1
          exact hc71 (z15) _ σ _ _  (rfl) (rfl) H (SF_trans (SF_refl) hS13 (any_sub rfl)) (SA_trans (SA_refl) hA14 (any_subA rfl))  (wq32) (ewq33) (wq34) (ewq35) (wq36) (ewq37) (wq38) (ewq39) (show inr (z15) by omega) (show RT ((wq34)) ((wq36)) ((wq38)) ((wq32)) by assumption)
        · refine Ew_of (pc' := 53) (fun _ => x_aload_n rfl rfl) ?_
          refine w_gT H (o := 0) (t := 4) rfl (H.perm 0 rfl) rfl rfl rfl rfl rfl rfl ?_
          refine Ew_of (pc' := 57) (fun _ => x_iload_n rfl rfl) ?_
          have r49 : (0 : Int) ≤ F 1 1 ∧ F 1 1 ≤ 65536 := by have h1 : (0 : Int) ≤ F 1 1 ∧ F 1 1 ≤ 65536 := H.frng 1 1; rw [show F 1 1 = F 1 1 from rfl] at h1; exact h1
          refine w_inv H (o := 4) rfl rfl rfl (H.perm 4 rfl) rfl rfl (by rfl) (M352 H (F 1 1) (rfl) (A 14) (rfl) (show inr (a2) by omega) (show 0 ≤ (a2) ∧ (a2) ≤ 65536 by omega) (fun z54 σ F50 A51 H hS52 hA53 y55 ey56 y57 ey58 wq59 ewq60 pz54_0 pz54_1 => ⟨rfl, ?_⟩))
          have r61 : (0 : Int) ≤ y55 ∧ y55 ≤ 65536 := by have h1 : (0 : Int) ≤ F50 1 3 ∧ F50 1 3 ≤ 65536 := H.frng 1 3; rw [show F50 1 3 = y55 from (ey56)] at h1; exact h1
          have r62 : (-2147483648 : Int) ≤ y57 ∧ y57 ≤ 2147483647 := by have h1 : (-2147483648 : Int) ≤ F50 1 4 ∧ F50 1 4 ≤ 2147483647 := H.frng 1 4; rw [show F50 1 4 = y57 from (ey58)] at h1; exact h1
          refine Ew_of (pc' := 71) (fun _ => x_goto rfl rfl) ?_
          exact hc71 (z54) _ σ _ _  (rfl) (rfl) H (SF_trans (SF_refl) hS52 (any_sub rfl)) (SA_trans (SA_refl) hA53 (any_subA rfl))  (w34) ((funext (hA53 34 rfl)).trans (ew34)) (w35) ((funext (hA53 35 rfl)).trans (ew35)) (w36) ((funext (hA53 36 rfl)).trans (ew36)) (w37) ((funext (hA53 37 rfl)).trans (ew37)) (show inr (z54) by omega) (show RT ((w35)) ((w36)) ((w37)) ((w34)) by assumption)
      · refine Ew_of (pc' := 37) (fun _ => x_aload_n rfl rfl) ?_
        refine w_gT H (o := 0) (t := 4) rfl (H.perm 0 rfl) rfl rfl rfl rfl rfl rfl ?_
        refine Ew_of (pc' := 41) (fun _ => x_iload_n rfl rfl) ?_
        have r63 : (0 : Int) ≤ F 1 1 ∧ F 1 1 ≤ 65536 := by have h1 : (0 : Int) ≤ F 1 1 ∧ F 1 1 ≤ 65536 := H.frng 1 1; rw [show F 1 1 = F 1 1 from rfl] at h1; exact h1
        refine w_inv H (o := 4) rfl rfl rfl (H.perm 4 rfl) rfl rfl (by rfl) (M344 H (F 1 1) (rfl) (A 14) (rfl) (show inr (a2) by omega) (show 0 ≤ (a2) ∧ (a2) ≤ 65536 by omega) (fun z68 σ F64 A65 H hS66 hA67 y69 ey70 y71 ey72 wq73 ewq74 pz68_0 pz68_1 => ⟨rfl, ?_⟩))
        have r75 : (0 : Int) ≤ y69 ∧ y69 ≤ 65536 := by have h1 : (0 : Int) ≤ F64 1 3 ∧ F64 1 3 ≤ 65536 := H.frng 1 3; rw [show F64 1 3 = y69 from (ey70)] at h1; exact h1
        have r76 : (-2147483648 : Int) ≤ y71 ∧ y71 ≤ 2147483647 := by have h1 : (-2147483648 : Int) ≤ F64 1 4 ∧ F64 1 4 ≤ 2147483647 := H.frng 1 4; rw [show F64 1 4 = y71 from (ey72)] at h1; exact h1
        refine Ew_of (pc' := 71) (fun _ => x_goto rfl rfl) ?_
        exact hc71 (z68) _ σ _ _  (rfl) (rfl) H (SF_trans (SF_refl) hS66 (any_sub rfl)) (SA_trans (SA_refl) hA67 (any_subA rfl))  (w34) ((funext (hA67 34 rfl)).trans (ew34)) (w35) ((funext (hA67 35 rfl)).trans (ew35)) (w36) ((funext (hA67 36 rfl)).trans (ew36)) (w37) ((funext (hA67 37 rfl)).trans (ew37)) (show inr (z68) by omega) (show RT ((w35)) ((w36)) ((w37)) ((w34)) by assumption)
    · refine Ew_of (pc' := 21) (fun _ => x_aload_n rfl rfl) ?_
      refine w_gT H (o := 0) (t := 3) rfl (H.perm 0 rfl) rfl rfl rfl rfl rfl rfl ?_
      refine Ew_of (pc' := 25) (fun _ => x_iload_n rfl rfl) ?_
      have r77 : (0 : Int) ≤ F 1 1 ∧ F 1 1 ≤ 65536 := by have h1 : (0 : Int) ≤ F 1 1 ∧ F 1 1 ≤ 65536 := H.frng 1 1; rw [show F 1 1 = F 1 1 from rfl] at h1; exact h1
      have r78 : (0 : Int) ≤ F 3 2 ∧ F 3 2 ≤ 65536 := by have h1 : (0 : Int) ≤ F 3 2 ∧ F 3 2 ≤ 65536 := H.frng 3 2; rw [show F 3 2 = F 3 2 from rfl] at h1; exact h1
      refine w_inv H (o := 3) rfl rfl rfl (H.perm 3 rfl) rfl rfl (by rfl) (M385 H (F 1 1) (rfl) (F 3 2) (rfl) (A 14) (rfl) (A 16) (rfl) (show inr (a2) by omega) (fun z83 σ F79 A80 H hS81 hA82 y84 ey85 y86 ey87 wq88 ewq89 pz83_0 pz83_1 => ⟨rfl, ?_⟩))
      have r90 : (0 : Int) ≤ y84 ∧ y84 ≤ 65536 := by have h1 : (0 : Int) ≤ F79 1 3 ∧ F79 1 3 ≤ 65536 := H.frng 1 3; rw [show F79 1 3 = y84 from (ey85)] at h1; exact h1
      have r91 : (-2147483648 : Int) ≤ y86 ∧ y86 ≤ 2147483647 := by have h1 : (-2147483648 : Int) ≤ F79 1 4 ∧ F79 1 4 ≤ 2147483647 := H.frng 1 4; rw [show F79 1 4 = y86 from (ey87)] at h1; exact h1
      refine Ew_of (pc' := 71) (fun _ => x_goto rfl rfl) ?_
      exact hc71 (z83) _ σ _ _  (rfl) (rfl) H (SF_trans (SF_refl) hS81 (any_sub rfl)) (SA_trans (SA_refl) hA82 (any_subA rfl))  (w34) ((funext (hA82 34 rfl)).trans (ew34)) (w35) ((funext (hA82 35 rfl)).trans (ew35)) (w36) ((funext (hA82 36 rfl)).trans (ew36)) (w37) ((funext (hA82 37 rfl)).trans (ew37)) (show inr (z83) by omega) (show RT ((w35)) ((w36)) ((w37)) ((w34)) by assumption)
  · refine Ew_of (pc' := 5) (fun _ => x_aload_n rfl rfl) ?_
    refine w_gT H (o := 0) (t := 3) rfl (H.perm 0 rfl) rfl rfl rfl rfl rfl rfl ?_
    refine Ew_of (pc' := 9) (fun _ => x_iload_n rfl rfl) ?_
    have r92 : (0 : Int) ≤ F 1 1 ∧ F 1 1 ≤ 65536 := by have h1 : (0 : Int) ≤ F 1 1 ∧ F 1 1 ≤ 65536 := H.frng 1 1; rw [show F 1 1 = F 1 1 from rfl] at h1; exact h1
    have r93 : (0 : Int) ≤ F 3 2 ∧ F 3 2 ≤ 65536 := by have h1 : (0 : Int) ≤ F 3 2 ∧ F 3 2 ≤ 65536 := H.frng 3 2; rw [show F 3 2 = F 3 2 from rfl] at h1; exact h1
    refine w_inv H (o := 3) rfl rfl rfl (H.perm 3 rfl) rfl rfl (by rfl) (M374 H (F 1 1) (rfl) (F 3 2) (rfl) (A 14) (rfl) (A 16) (rfl) (show inr (a2) by omega) (fun z98 σ F94 A95 H hS96 hA97 y99 ey100 y101 ey102 wq103 ewq104 pz98_0 pz98_1 => ⟨rfl, ?_⟩))
    have r105 : (0 : Int) ≤ y99 ∧ y99 ≤ 65536 := by have h1 : (0 : Int) ≤ F94 1 3 ∧ F94 1 3 ≤ 65536 := H.frng 1 3; rw [show F94 1 3 = y99 from (ey100)] at h1; exact h1
    have r106 : (-2147483648 : Int) ≤ y101 ∧ y101 ≤ 2147483647 := by have h1 : (-2147483648 : Int) ≤ F94 1 4 ∧ F94 1 4 ≤ 2147483647 := H.frng 1 4; rw [show F94 1 4 = y101 from (ey102)] at h1; exact h1
    refine Ew_of (pc' := 71) (fun _ => x_goto rfl rfl) ?_
    exact hc71 (z98) _ σ _ _  (rfl) (rfl) H (SF_trans (SF_refl) hS96 (any_sub rfl)) (SA_trans (SA_refl) hA97 (any_subA rfl))  (w34) ((funext (hA97 34 rfl)).trans (ew34)) (w35) ((funext (hA97 35 rfl)).trans (ew35)) (w36) ((funext (hA97 36 rfl)).trans (ew36)) (w37) ((funext (hA97 37 rfl)).trans (ew37)) (show inr (z98) by omega) (show RT ((w35)) ((w36)) ((w37)) ((w34)) by assumption)
/-- Model.read -/
theorem M85 {σ0 σ : rS} {D N : Nat → Nat} {F : hF} {A : hA} {d c s : Nat} {Q : wQ} (H : HS σ0 σ D N F A) {a1 a2 a3 a4 : Int} (u5_4 : Int) (eu5_4 : F 5 4 = u5_4) (w27 : Int → Int) (ew27 : A 27 = w27) (w28 : Int → Int) (ew28 : A 28 = w28) (w29 : Int → Int) (ew29 : A 29 = w29) (w30 : Int → Int) (ew30 : A 30 = w30) (w34 : Int → Int) (ew34 : A 34 = w34) (w35 : Int → Int) (ew35 : A 35 = w35) (w36 : Int → Int) (ew36 : A 36 = w36) (w37 : Int → Int) (ew37 : A 37 = w37) (h0 : inr (a1)) (h1 : inr (a2)) (h2 : inr (a3)) (h3 : inr (a4)) (h4 : RT ((w35)) ((w36)) ((w37)) ((w34))) (h5 : DI ((u5_4)) ((w27)) ((w28)) ((w29)) ((w30))) (k : ∀ (z : Int) σ F' A', HS σ0 σ D N F' A' → SF [(0, 9), (1, 1), (1, 3), (1, 4), (3, 12), (3, 14), (3, 15), (3, 16), (4, 2), (4, 8), (4, 9), (4, 10), (4, 11), (5, 10), (5, 19), (5, 25), (5, 26), (5, 27), (5, 28), (5, 29), (5, 30), (5, 31), (5, 32), (5, 33), (5, 34), (5, 35), (5, 36), (5, 39), (5, 40), (5, 41), (5, 42), (5, 43), (5, 44), (5, 45)] F F' → SA [10, 11, 14, 15, 17, 21, 22, 23, 31, 32, 33, 34, 35, 36, 37, 38, 39, 40, 41, 42, 43, 44, 45, 46, 47] A A' → ∀ v34 : Int → Int, A' 34 = v34 → ∀ v35 : Int → Int, A' 35 = v35 → ∀ v36 : Int → Int, A' 36 = v36 → ∀ v37 : Int → Int, A' 37 = v37 → (inr (z)) → (RT ((v35)) ((v36)) ((v37)) ((v34))) → Q (some (I z)) σ c s) : Ew 85 (d + 12) 0 (rargs 0 [.ref (D 0), I a1, I a2, I a3, I a4]) [] σ c s Q := by
  have r1 : (0 : Int) ≤ u5_4 ∧ u5_4 ≤ 1 := by have h1 : (0 : Int) ≤ F 5 4 ∧ F 5 4 ≤ 1 := H.frng 5 4; rw [show F 5 4 = u5_4 from (eu5_4)] at h1; exact h1
  refine Ew_of (pc' := 1) (fun _ => x_iload_n rfl rfl) ?_
  refine w_stat24 rfl rfl (by rfl) (M56 H (show inr (a1) by omega) (fun z6 σ F2 A3 H hS4 hA5 pz6_0 pz6_1 => ⟨rretB rfl pz6_0, ?_⟩))
  refine w_ifeq (t := 34) rfl rfl (show inr (z6) by omega) (fun b7 => ?_) (fun b7 => ?_)
  · refine Ew_of (pc' := 36) (fun _ => x_bipush (z := -50) rfl (by decide)) ?_
    exact w_ireturn rfl (k ((-50)) σ _ _ H (SF_trans (SF_refl) hS4 (any_sub rfl)) (SA_trans (SA_refl) hA5 (any_subA rfl)) (w34) ((funext (hA5 34 rfl)).trans (ew34)) (w35) ((funext (hA5 35 rfl)).trans (ew35)) (w36) ((funext (hA5 36 rfl)).trans (ew36)) (w37) ((funext (hA5 37 rfl)).trans (ew37)) (show inr ((-50)) by omega) (show RT ((w35)) ((w36)) ((w37)) ((w34)) by assumption))
  · refine Ew_of (pc' := 8) (fun _ => x_iload_n rfl rfl) ?_
    refine w_stat24 rfl rfl (by rfl) (M56 H (show inr (a2) by omega) (fun z12 σ F8 A9 H hS10 hA11 pz12_0 pz12_1 => ⟨rretB rfl pz12_0, ?_⟩))
    refine w_ifeq (t := 34) rfl rfl (show inr (z12) by omega) (fun b13 => ?_) (fun b13 => ?_)
    · refine Ew_of (pc' := 36) (fun _ => x_bipush (z := -50) rfl (by decide)) ?_
      exact w_ireturn rfl (k ((-50)) σ _ _ H (SF_trans (SF_trans (SF_refl) hS4 (any_sub rfl)) hS10 (any_sub rfl)) (SA_trans (SA_trans (SA_refl) hA5 (any_subA rfl)) hA11 (any_subA rfl)) (w34) ((funext (hA11 34 rfl)).trans ((funext (hA5 34 rfl)).trans (ew34))) (w35) ((funext (hA11 35 rfl)).trans ((funext (hA5 35 rfl)).trans (ew35))) (w36) ((funext (hA11 36 rfl)).trans ((funext (hA5 36 rfl)).trans (ew36))) (w37) ((funext (hA11 37 rfl)).trans ((funext (hA5 37 rfl)).trans (ew37))) (show inr ((-50)) by omega) (show RT ((w35)) ((w36)) ((w37)) ((w34)) by assumption))
    · refine Ew_of (pc' := 15) (fun _ => x_iload_n rfl rfl) ?_
      refine Ew_of (pc' := 16) (fun _ => x_iconst rfl) ?_
      refine Ew_of (pc' := 17) (fun _ => x_iconst rfl) ?_
      refine w_stat24 rfl rfl (by rfl) (M67 H (show inr (a3) by omega) (show inr (0) by omega) (show inr (4) by omega) (fun z18 σ F14 A15 H hS16 hA17 pz18_0 pz18_1 => ⟨rretB rfl pz18_0, ?_⟩))
      refine w_ifeq (t := 34) rfl rfl (show inr (z18) by omega) (fun b19 => ?_) (fun b19 => ?_)
      · refine Ew_of (pc' := 36) (fun _ => x_bipush (z := -50) rfl (by decide)) ?_
        exact w_ireturn rfl (k ((-50)) σ _ _ H (SF_trans (SF_trans (SF_trans (SF_refl) hS4 (any_sub rfl)) hS10 (any_sub rfl)) hS16 (any_sub rfl)) (SA_trans (SA_trans (SA_trans (SA_refl) hA5 (any_subA rfl)) hA11 (any_subA rfl)) hA17 (any_subA rfl)) (w34) ((funext (hA17 34 rfl)).trans ((funext (hA11 34 rfl)).trans ((funext (hA5 34 rfl)).trans (ew34)))) (w35) ((funext (hA17 35 rfl)).trans ((funext (hA11 35 rfl)).trans ((funext (hA5 35 rfl)).trans (ew35)))) (w36) ((funext (hA17 36 rfl)).trans ((funext (hA11 36 rfl)).trans ((funext (hA5 36 rfl)).trans (ew36)))) (w37) ((funext (hA17 37 rfl)).trans ((funext (hA11 37 rfl)).trans ((funext (hA5 37 rfl)).trans (ew37)))) (show inr ((-50)) by omega) (show RT ((w35)) ((w36)) ((w37)) ((w34)) by assumption))
      · refine Ew_of (pc' := 25) (fun _ => x_iload rfl rfl) ?_
        refine Ew_of (pc' := 26) (fun _ => x_iconst rfl) ?_
        refine Ew_of (pc' := 28) (fun _ => x_ldc (z := 65536) rfl (by decide)) ?_
        refine w_stat24 rfl rfl (by rfl) (M67 H (show inr (a4) by omega) (show inr (0) by omega) (show inr (65536) by omega) (fun z24 σ F20 A21 H hS22 hA23 pz24_0 pz24_1 => ⟨rretB rfl pz24_0, ?_⟩))
        refine w_ifne (t := 37) rfl rfl (show inr (z24) by omega) (fun b25 => ?_) (fun b25 => ?_)
        · refine Ew_of (pc' := 38) (fun _ => x_aload_n rfl rfl) ?_
          refine Ew_of (pc' := 39) (fun _ => x_iload_n rfl rfl) ?_
          refine w_inv H (o := 0) rfl rfl rfl (H.perm 0 rfl) rfl rfl (by rfl) (M74 H (show inr (a2) by omega) (show 0 ≤ (a2) ∧ (a2) ≤ 3 by omega) (fun σ F26 A27 H hS28 hA29 => ⟨rfl, ?_⟩))
          refine Ew_of (pc' := 43) (fun _ => x_aload_n rfl rfl) ?_
          refine Ew_of (pc' := 44) (fun _ => x_iload_n rfl rfl) ?_
          refine Ew_of (pc' := 46) (fun _ => x_iload rfl rfl) ?_
          refine w_inv H (o := 0) rfl rfl rfl (H.perm 0 rfl) rfl rfl (by rfl) (M84 H (u5_4) (((((((hS28 5 4 rfl).trans (hS22 5 4 rfl)).trans (hS16 5 4 rfl)).trans (hS10 5 4 rfl)).trans (hS4 5 4 rfl)).trans (eu5_4))) (w27) ((funext (hA29 27 rfl)).trans ((funext (hA23 27 rfl)).trans ((funext (hA17 27 rfl)).trans ((funext (hA11 27 rfl)).trans ((funext (hA5 27 rfl)).trans (ew27)))))) (w28) ((funext (hA29 28 rfl)).trans ((funext (hA23 28 rfl)).trans ((funext (hA17 28 rfl)).trans ((funext (hA11 28 rfl)).trans ((funext (hA5 28 rfl)).trans (ew28)))))) (w29) ((funext (hA29 29 rfl)).trans ((funext (hA23 29 rfl)).trans ((funext (hA17 29 rfl)).trans ((funext (hA11 29 rfl)).trans ((funext (hA5 29 rfl)).trans (ew29)))))) (w30) ((funext (hA29 30 rfl)).trans ((funext (hA23 30 rfl)).trans ((funext (hA17 30 rfl)).trans ((funext (hA11 30 rfl)).trans ((funext (hA5 30 rfl)).trans (ew30)))))) (w34) ((funext (hA29 34 rfl)).trans ((funext (hA23 34 rfl)).trans ((funext (hA17 34 rfl)).trans ((funext (hA11 34 rfl)).trans ((funext (hA5 34 rfl)).trans (ew34)))))) (w35) ((funext (hA29 35 rfl)).trans ((funext (hA23 35 rfl)).trans ((funext (hA17 35 rfl)).trans ((funext (hA11 35 rfl)).trans ((funext (hA5 35 rfl)).trans (ew35)))))) (w36) ((funext (hA29 36 rfl)).trans ((funext (hA23 36 rfl)).trans ((funext (hA17 36 rfl)).trans ((funext (hA11 36 rfl)).trans ((funext (hA5 36 rfl)).trans (ew36)))))) (w37) ((funext (hA29 37 rfl)).trans ((funext (hA23 37 rfl)).trans ((funext (hA17 37 rfl)).trans ((funext (hA11 37 rfl)).trans ((funext (hA5 37 rfl)).trans (ew37)))))) (show inr (a3) by omega) (show inr (a4) by omega) (show 0 ≤ (a3) ∧ (a3) ≤ 4 ∧ 0 ≤ (a4) ∧ (a4) ≤ 65536 by omega) (show RT ((w35)) ((w36)) ((w37)) ((w34)) by assumption) (show DI ((u5_4)) ((w27)) ((w28)) ((w29)) ((w30)) by assumption) (fun z35 σ F31 A32 H hS33 hA34 wq36 ewq37 wq38 ewq39 wq40 ewq41 wq42 ewq43 pz35_0 pz35_1 => ⟨rfl, ?_⟩))
          refine Ew_of (pc' := 51) (fun _ => x_istore rfl) ?_
          refine Ew_of (pc' := 52) (fun _ => x_aload_n rfl (rk_o (rfl) rfl rfl)) ?_
          refine Ew_of (pc' := 53) (fun _ => x_aload_n rfl (rk_o (rfl) rfl rfl)) ?_
          refine w_gT H (o := 0) (t := 1) rfl (H.perm 0 rfl) rfl rfl rfl rfl rfl rfl ?_
          have r44 : (-2147483648 : Int) ≤ F31 1 4 ∧ F31 1 4 ≤ 2147483647 := by have h1 : (-2147483648 : Int) ≤ F31 1 4 ∧ F31 1 4 ≤ 2147483647 := H.frng 1 4; rw [show F31 1 4 = F31 1 4 from rfl] at h1; exact h1
          refine w_gI H (o := 1) (w := F31 1 4) rfl (H.perm 1 rfl) rfl rfl rfl (fun _ => rfl) rfl ?_
          refine w_pI H (o := 0) rfl rfl (H.perm 0 rfl) rfl rfl rfl (fun _ => rfl) rfl (show (-2147483648 : Int) ≤ F31 1 4 ∧ F31 1 4 ≤ 2147483647 by omega) (fun σ H => ?_)
          refine Ew_of (pc' := 64) (fun _ => x_iload rfl rk_s) ?_
          refine w_iflt (t := 72) rfl rfl (show inr (z35) by omega) (fun b45 => ?_) (fun b45 => ?_)
          · refine Ew_of (pc' := 74) (fun _ => x_iload rfl rk_s) ?_
            exact w_ireturn rfl (k (z35) σ _ _ H (SF_upd (SF_trans (SF_trans (SF_trans (SF_trans (SF_trans (SF_trans (SF_refl) hS4 (any_sub rfl)) hS10 (any_sub rfl)) hS16 (any_sub rfl)) hS22 (any_sub rfl)) hS28 (any_sub rfl)) hS33 (any_sub rfl)) rfl) (SA_trans (SA_trans (SA_trans (SA_trans (SA_trans (SA_trans (SA_refl) hA5 (any_subA rfl)) hA11 (any_subA rfl)) hA17 (any_subA rfl)) hA23 (any_subA rfl)) hA29 (any_subA rfl)) hA34 (any_subA rfl)) (wq36) (ewq37) (wq38) (ewq39) (wq40) (ewq41) (wq42) (ewq43) (show inr (z35) by omega) (show RT ((wq38)) ((wq40)) ((wq42)) ((wq36)) by assumption))
          · refine Ew_of (pc' := 68) (fun _ => x_aload_n rfl (rk_o (rfl) rfl rfl)) ?_
            refine Ew_of (pc' := 69) (fun _ => x_iload_n rfl (rk_o (rfl) rfl rfl)) ?_
            refine w_inv H (o := 0) rfl rfl rfl (H.perm 0 rfl) rfl rfl (by rfl) (M75 H (show inr (a1) by omega) (show 0 ≤ (a1) ∧ (a1) ≤ 3 by omega) (fun σ F46 A47 H hS48 hA49 => ⟨rfl, ?_⟩))
            refine Ew_of (pc' := 74) (fun _ => x_iload rfl rk_s) ?_
            exact w_ireturn rfl (k (z35) σ _ _ H (SF_trans (SF_upd (SF_trans (SF_trans (SF_trans (SF_trans (SF_trans (SF_trans (SF_refl) hS4 (any_sub rfl)) hS10 (any_sub rfl)) hS16 (any_sub rfl)) hS22 (any_sub rfl)) hS28 (any_sub rfl)) hS33 (any_sub rfl)) rfl) hS48 (any_sub rfl)) (SA_trans (SA_trans (SA_trans (SA_trans (SA_trans (SA_trans (SA_trans (SA_refl) hA5 (any_subA rfl)) hA11 (any_subA rfl)) hA17 (any_subA rfl)) hA23 (any_subA rfl)) hA29 (any_subA rfl)) hA34 (any_subA rfl)) hA49 (any_subA rfl)) (wq36) ((funext (hA49 34 rfl)).trans (ewq37)) (wq38) ((funext (hA49 35 rfl)).trans (ewq39)) (wq40) ((funext (hA49 36 rfl)).trans (ewq41)) (wq42) ((funext (hA49 37 rfl)).trans (ewq43)) (show inr (z35) by omega) (show RT ((wq38)) ((wq40)) ((wq42)) ((wq36)) by assumption))
        · refine Ew_of (pc' := 36) (fun _ => x_bipush (z := -50) rfl (by decide)) ?_
          exact w_ireturn rfl (k ((-50)) σ _ _ H (SF_trans (SF_trans (SF_trans (SF_trans (SF_refl) hS4 (any_sub rfl)) hS10 (any_sub rfl)) hS16 (any_sub rfl)) hS22 (any_sub rfl)) (SA_trans (SA_trans (SA_trans (SA_trans (SA_refl) hA5 (any_subA rfl)) hA11 (any_subA rfl)) hA17 (any_subA rfl)) hA23 (any_subA rfl)) (w34) ((funext (hA23 34 rfl)).trans ((funext (hA17 34 rfl)).trans ((funext (hA11 34 rfl)).trans ((funext (hA5 34 rfl)).trans (ew34))))) (w35) ((funext (hA23 35 rfl)).trans ((funext (hA17 35 rfl)).trans ((funext (hA11 35 rfl)).trans ((funext (hA5 35 rfl)).trans (ew35))))) (w36) ((funext (hA23 36 rfl)).trans ((funext (hA17 36 rfl)).trans ((funext (hA11 36 rfl)).trans ((funext (hA5 36 rfl)).trans (ew36))))) (w37) ((funext (hA23 37 rfl)).trans ((funext (hA17 37 rfl)).trans ((funext (hA11 37 rfl)).trans ((funext (hA5 37 rfl)).trans (ew37))))) (show inr ((-50)) by omega) (show RT ((w35)) ((w36)) ((w37)) ((w34)) by assumption))
/-- Model.stands -/
theorem M86 {σ0 σ : rS} {D N : Nat → Nat} {F : hF} {A : hA} {d c s : Nat} {Q : wQ} (H : HS σ0 σ D N F A) {a1 a2 a3 a4 a5 a6 : Int} (w11 : Int → Int) (ew11 : A 11 = w11) (h0 : inr (a1)) (h1 : inr (a2)) (h2 : inr (a3)) (h3 : inr (a4)) (h4 : inr (a5)) (h5 : inr (a6)) (h6 : 0 ≤ (a1) ∧ (a1) ≤ 3 ∧ 0 ≤ (a2) ∧ (a2) ≤ 65540) (k : ∀ (z : Int) σ F' A', HS σ0 σ D N F' A' → SF [] F F' → SA [] A A' → ((z) = 0 ∨ (z) = 1) → ((z) = 1 → (a2) + 4 ≤ ((w11)) ((a1))) → Q (some (I z)) σ c s) : Ew 86 (d + 0) 0 (rargs 0 [.ref (D 0), I a1, I a2, I a3, I a4, I a5, I a6]) [] σ c s Q := by
  refine Ew_of (pc' := 2) (fun _ => x_ldc (z := 65536) rfl (by decide)) ?_
  refine Ew_of (pc' := 3) (fun _ => x_iload_n rfl rfl) ?_
  refine w_imul rfl ?_
  refine Ew_of (pc' := 5) (fun _ => x_iload_n rfl rfl) ?_
  refine w_iadd rfl ?_
  refine Ew_of (pc' := 8) (fun _ => x_istore rfl) ?_
  refine Ew_of (pc' := 9) (fun _ => x_iload_n rfl (rk_o (rfl) rfl rfl)) ?_
  refine Ew_of (pc' := 10) (fun _ => x_iconst rfl) ?_
  refine w_iadd rfl ?_
  refine Ew_of (pc' := 12) (fun _ => x_aload_n rfl (rk_o (rfl) rfl rfl)) ?_
  refine w_gT H (o := 0) (t := 11) rfl (H.perm 0 rfl) rfl rfl rfl rfl rfl rfl ?_
  refine Ew_of (pc' := 16) (fun _ => x_iload_n rfl (rk_o (rfl) rfl rfl)) ?_
  refine w_lI H (o := 11) (n := 4) rfl (H.perm 11 rfl) rfl rfl (H.fix 11 rfl rfl) (show 0 ≤ a1 ∧ a1 < ((4 : Nat) : Int) by omega) (by decide) (fun v1 ev1 qv1 => ?_)
  have qv1 : (0 : Int) ≤ v1 ∧ v1 ≤ 65536 := qv1
  have ev1 : (w11) (a1) = v1 := (congrFun (ew11) (a1)).symm.trans ev1
  refine w_icmpgt (t := 77) rfl rfl (show inr ((a2 + 4)) by omega) (show inr (v1) by omega) (fun b2 => ?_) (fun b2 => ?_)
  · refine Ew_of (pc' := 78) (fun _ => x_iconst rfl) ?_
    exact w_ireturn rfl (k (0) σ _ _ H (SF_refl) (SA_refl) (show (0) = 0 ∨ (0) = 1 by omega) (show (0) = 1 → a2 + 4 ≤ ((w11)) (a1) by omega))
  · refine Ew_of (pc' := 21) (fun _ => x_aload_n rfl (rk_o (rfl) rfl rfl)) ?_
    refine w_gT H (o := 0) (t := 10) rfl (H.perm 0 rfl) rfl rfl rfl rfl rfl rfl ?_
    refine Ew_of (pc' := 26) (fun _ => x_iload rfl rk_s) ?_
    refine w_lI H (o := 10) (n := 262144) rfl (H.perm 10 rfl) rfl rfl (H.fix 10 rfl rfl) (show 0 ≤ ((65536 * a1) + a2) ∧ ((65536 * a1) + a2) < ((262144 : Nat) : Int) by omega) (by decide) (fun v3 ev3 qv3 => ?_)
    have qv3 : (0 : Int) ≤ v3 ∧ v3 ≤ 255 := qv3
    have ev3 : (A 10) (((65536 * a1) + a2)) = v3 := (congrFun (rfl : A 10 = A 10) (((65536 * a1) + a2))).symm.trans ev3
    refine Ew_of (pc' := 28) (fun _ => x_iload_n rfl (rk_o (rfl) rfl rfl)) ?_
    refine w_icmpne (t := 77) rfl rfl (show inr (v3) by omega) (show inr (a3) by omega) (fun b4 => ?_) (fun b4 => ?_)
    · refine Ew_of (pc' := 78) (fun _ => x_iconst rfl) ?_
      exact w_ireturn rfl (k (0) σ _ _ H (SF_refl) (SA_refl) (show (0) = 0 ∨ (0) = 1 by omega) (show (0) = 1 → a2 + 4 ≤ ((w11)) (a1) by omega))
    · refine Ew_of (pc' := 32) (fun _ => x_aload_n rfl (rk_o (rfl) rfl rfl)) ?_
      refine w_gT H (o := 0) (t := 10) rfl (H.perm 0 rfl) rfl rfl rfl rfl rfl rfl ?_
      refine Ew_of (pc' := 37) (fun _ => x_iload rfl rk_s) ?_
      refine Ew_of (pc' := 38) (fun _ => x_iconst rfl) ?_
      refine w_iadd rfl ?_
      refine w_lI H (o := 10) (n := 262144) rfl (H.perm 10 rfl) rfl rfl (H.fix 10 rfl rfl) (show 0 ≤ (((65536 * a1) + a2) + 1) ∧ (((65536 * a1) + a2) + 1) < ((262144 : Nat) : Int) by omega) (by decide) (fun v5 ev5 qv5 => ?_)
      have qv5 : (0 : Int) ≤ v5 ∧ v5 ≤ 255 := qv5
      have ev5 : (A 10) ((((65536 * a1) + a2) + 1)) = v5 := (congrFun (rfl : A 10 = A 10) ((((65536 * a1) + a2) + 1))).symm.trans ev5
      refine Ew_of (pc' := 42) (fun _ => x_iload rfl (rk_o (rfl) rfl rfl)) ?_
      refine w_icmpne (t := 77) rfl rfl (show inr (v5) by omega) (show inr (a4) by omega) (fun b6 => ?_) (fun b6 => ?_)
      · refine Ew_of (pc' := 78) (fun _ => x_iconst rfl) ?_
        exact w_ireturn rfl (k (0) σ _ _ H (SF_refl) (SA_refl) (show (0) = 0 ∨ (0) = 1 by omega) (show (0) = 1 → a2 + 4 ≤ ((w11)) (a1) by omega))
      · refine Ew_of (pc' := 46) (fun _ => x_aload_n rfl (rk_o (rfl) rfl rfl)) ?_
        refine w_gT H (o := 0) (t := 10) rfl (H.perm 0 rfl) rfl rfl rfl rfl rfl rfl ?_
        refine Ew_of (pc' := 51) (fun _ => x_iload rfl rk_s) ?_
        refine Ew_of (pc' := 52) (fun _ => x_iconst rfl) ?_
        refine w_iadd rfl ?_
        refine w_lI H (o := 10) (n := 262144) rfl (H.perm 10 rfl) rfl rfl (H.fix 10 rfl rfl) (show 0 ≤ (((65536 * a1) + a2) + 2) ∧ (((65536 * a1) + a2) + 2) < ((262144 : Nat) : Int) by omega) (by decide) (fun v7 ev7 qv7 => ?_)
        have qv7 : (0 : Int) ≤ v7 ∧ v7 ≤ 255 := qv7
        have ev7 : (A 10) ((((65536 * a1) + a2) + 2)) = v7 := (congrFun (rfl : A 10 = A 10) ((((65536 * a1) + a2) + 2))).symm.trans ev7
        refine Ew_of (pc' := 56) (fun _ => x_iload rfl (rk_o (rfl) rfl rfl)) ?_
        refine w_icmpne (t := 77) rfl rfl (show inr (v7) by omega) (show inr (a5) by omega) (fun b8 => ?_) (fun b8 => ?_)
        · refine Ew_of (pc' := 78) (fun _ => x_iconst rfl) ?_
          exact w_ireturn rfl (k (0) σ _ _ H (SF_refl) (SA_refl) (show (0) = 0 ∨ (0) = 1 by omega) (show (0) = 1 → a2 + 4 ≤ ((w11)) (a1) by omega))
        · refine Ew_of (pc' := 60) (fun _ => x_aload_n rfl (rk_o (rfl) rfl rfl)) ?_
          refine w_gT H (o := 0) (t := 10) rfl (H.perm 0 rfl) rfl rfl rfl rfl rfl rfl ?_
          refine Ew_of (pc' := 65) (fun _ => x_iload rfl rk_s) ?_
          refine Ew_of (pc' := 66) (fun _ => x_iconst rfl) ?_
          refine w_iadd rfl ?_
          refine w_lI H (o := 10) (n := 262144) rfl (H.perm 10 rfl) rfl rfl (H.fix 10 rfl rfl) (show 0 ≤ (((65536 * a1) + a2) + 3) ∧ (((65536 * a1) + a2) + 3) < ((262144 : Nat) : Int) by omega) (by decide) (fun v9 ev9 qv9 => ?_)
          have qv9 : (0 : Int) ≤ v9 ∧ v9 ≤ 255 := qv9
          have ev9 : (A 10) ((((65536 * a1) + a2) + 3)) = v9 := (congrFun (rfl : A 10 = A 10) ((((65536 * a1) + a2) + 3))).symm.trans ev9
          refine Ew_of (pc' := 70) (fun _ => x_iload rfl (rk_o (rfl) rfl rfl)) ?_
          refine w_icmpne (t := 77) rfl rfl (show inr (v9) by omega) (show inr (a6) by omega) (fun b10 => ?_) (fun b10 => ?_)
          · refine Ew_of (pc' := 78) (fun _ => x_iconst rfl) ?_
            exact w_ireturn rfl (k (0) σ _ _ H (SF_refl) (SA_refl) (show (0) = 0 ∨ (0) = 1 by omega) (show (0) = 1 → a2 + 4 ≤ ((w11)) (a1) by omega))
          · refine Ew_of (pc' := 74) (fun _ => x_iconst rfl) ?_
            refine Ew_of (pc' := 78) (fun _ => x_goto rfl rfl) ?_
            exact w_ireturn rfl (k (1) σ _ _ H (SF_refl) (SA_refl) (show (1) = 0 ∨ (1) = 1 by omega) (show (1) = 1 → a2 + 4 ≤ ((w11)) (a1) by omega))
/-- Model.kind -/
theorem M87 {σ0 σ : rS} {D N : Nat → Nat} {F : hF} {A : hA} {d c s : Nat} {Q : wQ} (H : HS σ0 σ D N F A) {a1 : Int} (h0 : inr (a1)) (k : ∀ (z : Int) σ F' A', HS σ0 σ D N F' A' → SF [] F F' → SA [] A A' → (inr (z)) → (-1 ≤ (z) ∧ (z) ≤ 5 ∧ (z) ≠ 2) → Q (some (I z)) σ c s) : Ew 87 (d + 1) 0 (rargs 0 [.ref (D 0), I a1]) [] σ c s Q := by
  refine Ew_of (pc' := 1) (fun _ => x_iload_n rfl rfl) ?_
  refine w_stat24 rfl rfl (by rfl) (M56 H (show inr (a1) by omega) (fun z5 σ F1 A2 H hS3 hA4 pz5_0 pz5_1 => ⟨rretB rfl pz5_0, ?_⟩))
  refine w_ifne (t := 9) rfl rfl (show inr (z5) by omega) (fun b6 => ?_) (fun b6 => ?_)
  · refine Ew_of (pc' := 10) (fun _ => x_iconst rfl) ?_
    refine Ew_of (pc' := 11) (fun _ => x_istore_n rfl) ?_
    refine Ew_of (pc' := 12) (fun _ => x_iconst rfl) ?_
    refine Ew_of (pc' := 13) (fun _ => x_istore_n rfl) ?_
    have hB : ∀ i, (0 : Int) ≤ (A 11) i ∧ (A 11) i ≤ 65536 := fun i => by have h1 : (0 : Int) ≤ A2 11 i ∧ A2 11 i ≤ 65536 := H.arng 11 i; rw [show A2 11 = A 11 from funext (hA4 11 rfl)] at h1; exact h1
    have hsz := hB ((a1))
    suffices hl13 : ∀ (m : Nat), ∀ (ls : rO) (σ : rS) (F_13 : hF) (A_13 : hA) (x13_2 : Int) (x13_3 : Int), rlook ls 0 = some (.ref (D 0)) → rlook ls 1 = some (I (a1)) → rlook ls 2 = some (I (x13_2)) → rlook ls 3 = some (I (x13_3)) → HS σ0 σ D N F_13 A_13 → SF [] F1 F_13 → SA [] A2 A_13 → (inr (x13_2)) → (inr (x13_3)) → ((x13_3) = 0 ∨ (x13_3) = 1) → (0 ≤ (x13_2) ∧ (x13_2) ≤ ((A 11)) ((a1)) ∧ ((A 11)) ((a1)) ≤ 65536) → (2 * (((A 11)) ((a1)) - (x13_2)) + (x13_3)).toNat = m → Ew 87 (d + 1) 13 ls [] σ c s Q from
      hl13 _ _ σ _ _ (0) (1) (rk_o (rk_o (rfl) rfl rfl) rfl rfl) (rk_o (rk_o (rfl) rfl rfl) rfl rfl) (rk_o (rk_s) rfl rfl) (rk_s) H (SF_refl) (SA_refl)   (show inr (0) by omega) (show inr (1) by omega) (show (1) = 0 ∨ (1) = 1 by omega) (show 0 ≤ (0) ∧ (0) ≤ ((A 11)) ((a1)) ∧ ((A 11)) ((a1)) ≤ 65536 by omega) rfl
    as_aux_lemma =>
    intro m
    induction m using Nat.strongRecOn with
    | _ m ih13 =>
      intro ls σ F_13 A_13 x13_2 x13_3 l13_0 l13_1 l13_2 l13_3 H hS_13 hA_13   j13_0 j13_1 j13_2 j13_3 hm13
      refine Ew_of (pc' := 14) (fun _ => x_iload_n rfl l13_3) ?_
      refine w_ifeq (t := 201) rfl rfl (show inr (x13_3) by omega) (fun b7 => ?_) (fun b7 => ?_)
      · refine Ew_of (pc' := 202) (fun _ => x_aload_n rfl l13_0) ?_
        refine Ew_of (pc' := 203) (fun _ => x_iload_n rfl l13_1) ?_
        refine Ew_of (pc' := 204) (fun _ => x_iload_n rfl l13_2) ?_
        refine Ew_of (pc' := 205) (fun _ => x_iconst rfl) ?_
        refine Ew_of (pc' := 207) (fun _ => x_bipush (z := 34) rfl (by decide)) ?_
        refine Ew_of (pc' := 209) (fun _ => x_bipush (z := 77) rfl (by decide)) ?_
        refine Ew_of (pc' := 211) (fun _ => x_bipush (z := 24) rfl (by decide)) ?_
        refine w_inv H (o := 0) rfl rfl rfl (H.perm 0 rfl) rfl rfl (by rfl) (M86 H (A 11) ((funext (hA_13 11 rfl)).trans (funext (hA4 11 rfl))) (show inr (a1) by omega) (show inr (x13_2) by omega) (show inr (4) by omega) (show inr (34) by omega) (show inr (77) by omega) (show inr (24) by omega) (show 0 ≤ (a1) ∧ (a1) ≤ 3 ∧ 0 ≤ (x13_2) ∧ (x13_2) ≤ 65540 by omega) (fun z12 σ F8 A9 H hS10 hA11 pz12_0 pz12_1 => ⟨rretB rfl pz12_0, ?_⟩))
        refine w_ifeq (t := 219) rfl rfl (show inr (z12) by omega) (fun b13 => ?_) (fun b13 => ?_)
        · refine Ew_of (pc' := 220) (fun _ => x_aload_n rfl l13_0) ?_
          refine Ew_of (pc' := 221) (fun _ => x_iload_n rfl l13_1) ?_
          refine Ew_of (pc' := 222) (fun _ => x_iload_n rfl l13_2) ?_
          refine Ew_of (pc' := 224) (fun _ => x_bipush (z := 40) rfl (by decide)) ?_
          refine Ew_of (pc' := 227) (fun _ => x_sipush (z := 181) rfl (by decide)) ?_
          refine Ew_of (pc' := 229) (fun _ => x_bipush (z := 47) rfl (by decide)) ?_
          refine Ew_of (pc' := 232) (fun _ => x_sipush (z := 253) rfl (by decide)) ?_
          refine w_inv H (o := 0) rfl rfl rfl (H.perm 0 rfl) rfl rfl (by rfl) (M86 H (A 11) ((funext (hA11 11 rfl)).trans ((funext (hA_13 11 rfl)).trans (funext (hA4 11 rfl)))) (show inr (a1) by omega) (show inr (x13_2) by omega) (show inr (40) by omega) (show inr (181) by omega) (show inr (47) by omega) (show inr (253) by omega) (show 0 ≤ (a1) ∧ (a1) ≤ 3 ∧ 0 ≤ (x13_2) ∧ (x13_2) ≤ 65540 by omega) (fun z18 σ F14 A15 H hS16 hA17 pz18_0 pz18_1 => ⟨rretB rfl pz18_0, ?_⟩))
          refine w_ifeq (t := 240) rfl rfl (show inr (z18) by omega) (fun b19 => ?_) (fun b19 => ?_)
          · refine Ew_of (pc' := 241) (fun _ => x_aload_n rfl l13_0) ?_
            refine Ew_of (pc' := 242) (fun _ => x_iload_n rfl l13_1) ?_
            refine Ew_of (pc' := 243) (fun _ => x_iload_n rfl l13_2) ?_
            refine Ew_of (pc' := 245) (fun _ => x_bipush (z := 55) rfl (by decide)) ?_
            refine Ew_of (pc' := 248) (fun _ => x_sipush (z := 164) rfl (by decide)) ?_
            refine Ew_of (pc' := 250) (fun _ => x_bipush (z := 48) rfl (by decide)) ?_
            refine Ew_of (pc' := 253) (fun _ => x_sipush (z := 236) rfl (by decide)) ?_
            refine w_inv H (o := 0) rfl rfl rfl (H.perm 0 rfl) rfl rfl (by rfl) (M86 H (A 11) ((funext (hA17 11 rfl)).trans ((funext (hA11 11 rfl)).trans ((funext (hA_13 11 rfl)).trans (funext (hA4 11 rfl))))) (show inr (a1) by omega) (show inr (x13_2) by omega) (show inr (55) by omega) (show inr (164) by omega) (show inr (48) by omega) (show inr (236) by omega) (show 0 ≤ (a1) ∧ (a1) ≤ 3 ∧ 0 ≤ (x13_2) ∧ (x13_2) ≤ 65540 by omega) (fun z24 σ F20 A21 H hS22 hA23 pz24_0 pz24_1 => ⟨rretB rfl pz24_0, ?_⟩))
            refine w_ifeq (t := 261) rfl rfl (show inr (z24) by omega) (fun b25 => ?_) (fun b25 => ?_)
            · have hc314 : ∀ (tc314_0 : Int), ∀ (ls : rO) (σ : rS) (F_c314 : hF) (A_c314 : hA) , rlook ls 0 = some (.ref (D 0)) → rlook ls 1 = some (I (a1)) → rlook ls 2 = some (I (x13_2)) → HS σ0 σ D N F_c314 A_c314 → SF [] F20 F_c314 → SA [] A21 A_c314 → (inr (tc314_0)) → ((tc314_0) = 0 ∨ (tc314_0) = 1 ∧ (x13_2) + 10 ≤ ((A 11)) ((a1))) → Ew 87 (d + 1) 314 ls [I (tc314_0)] σ c s Q := by
               as_aux_lemma =>
                intro tc314_0 ls σ F_c314 A_c314  lc314_0 lc314_1 lc314_2 H hS_c314 hA_c314   jc314_0 jc314_1
                refine Ew_of (pc' := 316) (fun _ => x_istore rfl) ?_
                refine Ew_of (pc' := 318) (fun _ => x_iload rfl rk_s) ?_
                refine w_ifeq (t := 363) rfl rfl (show inr (tc314_0) by omega) (fun b26 => ?_) (fun b26 => ?_)
                · refine Ew_of (pc' := 364) (fun _ => x_iconst rfl) ?_
                  exact w_ireturn rfl (k (0) σ _ _ H (SF_trans (SF_trans (SF_trans (SF_trans (SF_trans (SF_trans (SF_refl) hS3 (any_sub rfl)) hS_13 (any_sub rfl)) hS10 (any_sub rfl)) hS16 (any_sub rfl)) hS22 (any_sub rfl)) hS_c314 (any_sub rfl)) (SA_trans (SA_trans (SA_trans (SA_trans (SA_trans (SA_trans (SA_refl) hA4 (any_subA rfl)) hA_13 (any_subA rfl)) hA11 (any_subA rfl)) hA17 (any_subA rfl)) hA23 (any_subA rfl)) hA_c314 (any_subA rfl)) (show inr (0) by omega) (show -1 ≤ (0) ∧ (0) ≤ 5 ∧ (0) ≠ 2 by omega))
                · refine Ew_of (pc' := 322) (fun _ => x_aload_n rfl (rk_o (lc314_0) rfl rfl)) ?_
                  refine w_gT H (o := 0) (t := 10) rfl (H.perm 0 rfl) rfl rfl rfl rfl rfl rfl ?_
                  refine Ew_of (pc' := 327) (fun _ => x_ldc (z := 65536) rfl (by decide)) ?_
                  refine Ew_of (pc' := 328) (fun _ => x_iload_n rfl (rk_o (lc314_1) rfl rfl)) ?_
                  refine w_imul rfl ?_
                  refine Ew_of (pc' := 330) (fun _ => x_iload_n rfl (rk_o (lc314_2) rfl rfl)) ?_
                  refine w_iadd rfl ?_
                  refine Ew_of (pc' := 333) (fun _ => x_bipush (z := 8) rfl (by decide)) ?_
                  refine w_iadd rfl ?_
                  refine w_lI H (o := 10) (n := 262144) rfl (H.perm 10 rfl) rfl rfl (H.fix 10 rfl rfl) (show 0 ≤ (((65536 * a1) + x13_2) + 8) ∧ (((65536 * a1) + x13_2) + 8) < ((262144 : Nat) : Int) by omega) (by decide) (fun v27 ev27 qv27 => ?_)
                  have qv27 : (0 : Int) ≤ v27 ∧ v27 ≤ 255 := qv27
                  have ev27 : (A 10) ((((65536 * a1) + x13_2) + 8)) = v27 := (congrFun ((funext (hA_c314 10 rfl)).trans ((funext (hA23 10 rfl)).trans ((funext (hA17 10 rfl)).trans ((funext (hA11 10 rfl)).trans ((funext (hA_13 10 rfl)).trans (funext (hA4 10 rfl))))))) ((((65536 * a1) + x13_2) + 8))).symm.trans ev27
                  refine Ew_of (pc' := 337) (fun _ => x_bipush (z := 112) rfl (by decide)) ?_
                  refine w_icmpne (t := 363) rfl rfl (show inr (v27) by omega) (show inr (112) by omega) (fun b28 => ?_) (fun b28 => ?_)
                  · refine Ew_of (pc' := 364) (fun _ => x_iconst rfl) ?_
                    exact w_ireturn rfl (k (0) σ _ _ H (SF_trans (SF_trans (SF_trans (SF_trans (SF_trans (SF_trans (SF_refl) hS3 (any_sub rfl)) hS_13 (any_sub rfl)) hS10 (any_sub rfl)) hS16 (any_sub rfl)) hS22 (any_sub rfl)) hS_c314 (any_sub rfl)) (SA_trans (SA_trans (SA_trans (SA_trans (SA_trans (SA_trans (SA_refl) hA4 (any_subA rfl)) hA_13 (any_subA rfl)) hA11 (any_subA rfl)) hA17 (any_subA rfl)) hA23 (any_subA rfl)) hA_c314 (any_subA rfl)) (show inr (0) by omega) (show -1 ≤ (0) ∧ (0) ≤ 5 ∧ (0) ≠ 2 by omega))
                  · refine Ew_of (pc' := 341) (fun _ => x_aload_n rfl (rk_o (lc314_0) rfl rfl)) ?_
                    refine w_gT H (o := 0) (t := 10) rfl (H.perm 0 rfl) rfl rfl rfl rfl rfl rfl ?_
                    refine Ew_of (pc' := 346) (fun _ => x_ldc (z := 65536) rfl (by decide)) ?_
                    refine Ew_of (pc' := 347) (fun _ => x_iload_n rfl (rk_o (lc314_1) rfl rfl)) ?_
                    refine w_imul rfl ?_
                    refine Ew_of (pc' := 349) (fun _ => x_iload_n rfl (rk_o (lc314_2) rfl rfl)) ?_
                    refine w_iadd rfl ?_
                    refine Ew_of (pc' := 352) (fun _ => x_bipush (z := 9) rfl (by decide)) ?_
                    refine w_iadd rfl ?_
                    refine w_lI H (o := 10) (n := 262144) rfl (H.perm 10 rfl) rfl rfl (H.fix 10 rfl rfl) (show 0 ≤ (((65536 * a1) + x13_2) + 9) ∧ (((65536 * a1) + x13_2) + 9) < ((262144 : Nat) : Int) by omega) (by decide) (fun v29 ev29 qv29 => ?_)
                    have qv29 : (0 : Int) ≤ v29 ∧ v29 ≤ 255 := qv29
                    have ev29 : (A 10) ((((65536 * a1) + x13_2) + 9)) = v29 := (congrFun ((funext (hA_c314 10 rfl)).trans ((funext (hA23 10 rfl)).trans ((funext (hA17 10 rfl)).trans ((funext (hA11 10 rfl)).trans ((funext (hA_13 10 rfl)).trans (funext (hA4 10 rfl))))))) ((((65536 * a1) + x13_2) + 9))).symm.trans ev29
                    refine Ew_of (pc' := 356) (fun _ => x_bipush (z := 89) rfl (by decide)) ?_
                    refine w_icmpne (t := 363) rfl rfl (show inr (v29) by omega) (show inr (89) by omega) (fun b30 => ?_) (fun b30 => ?_)
                    · refine Ew_of (pc' := 364) (fun _ => x_iconst rfl) ?_
                      exact w_ireturn rfl (k (0) σ _ _ H (SF_trans (SF_trans (SF_trans (SF_trans (SF_trans (SF_trans (SF_refl) hS3 (any_sub rfl)) hS_13 (any_sub rfl)) hS10 (any_sub rfl)) hS16 (any_sub rfl)) hS22 (any_sub rfl)) hS_c314 (any_sub rfl)) (SA_trans (SA_trans (SA_trans (SA_trans (SA_trans (SA_trans (SA_refl) hA4 (any_subA rfl)) hA_13 (any_subA rfl)) hA11 (any_subA rfl)) hA17 (any_subA rfl)) hA23 (any_subA rfl)) hA_c314 (any_subA rfl)) (show inr (0) by omega) (show -1 ≤ (0) ∧ (0) ≤ 5 ∧ (0) ≠ 2 by omega))
                    · refine Ew_of (pc' := 360) (fun _ => x_iconst rfl) ?_
                      refine Ew_of (pc' := 364) (fun _ => x_goto rfl rfl) ?_
                      exact w_ireturn rfl (k (3) σ _ _ H (SF_trans (SF_trans (SF_trans (SF_trans (SF_trans (SF_trans (SF_refl) hS3 (any_sub rfl)) hS_13 (any_sub rfl)) hS10 (any_sub rfl)) hS16 (any_sub rfl)) hS22 (any_sub rfl)) hS_c314 (any_sub rfl)) (SA_trans (SA_trans (SA_trans (SA_trans (SA_trans (SA_trans (SA_refl) hA4 (any_subA rfl)) hA_13 (any_subA rfl)) hA11 (any_subA rfl)) hA17 (any_subA rfl)) hA23 (any_subA rfl)) hA_c314 (any_subA rfl)) (show inr (3) by omega) (show -1 ≤ (3) ∧ (3) ≤ 5 ∧ (3) ≠ 2 by omega))
              refine Ew_of (pc' := 262) (fun _ => x_aload_n rfl l13_0) ?_
              refine Ew_of (pc' := 263) (fun _ => x_iload_n rfl l13_1) ?_
              refine Ew_of (pc' := 264) (fun _ => x_iload_n rfl l13_2) ?_
              refine Ew_of (pc' := 267) (fun _ => x_sipush (z := 255) rfl (by decide)) ?_
              refine Ew_of (pc' := 269) (fun _ => x_bipush (z := 6) rfl (by decide)) ?_
              refine Ew_of (pc' := 270) (fun _ => x_iconst rfl) ?_
              refine Ew_of (pc' := 271) (fun _ => x_iconst rfl) ?_
              refine w_inv H (o := 0) rfl rfl rfl (H.perm 0 rfl) rfl rfl (by rfl) (M86 H (A 11) ((funext (hA23 11 rfl)).trans ((funext (hA17 11 rfl)).trans ((funext (hA11 11 rfl)).trans ((funext (hA_13 11 rfl)).trans (funext (hA4 11 rfl)))))) (show inr (a1) by omega) (show inr (x13_2) by omega) (show inr (255) by omega) (show inr (6) by omega) (show inr (0) by omega) (show inr (0) by omega) (show 0 ≤ (a1) ∧ (a1) ≤ 3 ∧ 0 ≤ (x13_2) ∧ (x13_2) ≤ 65540 by omega) (fun z35 σ F31 A32 H hS33 hA34 pz35_0 pz35_1 => ⟨rretB rfl pz35_0, ?_⟩))
              refine w_ifeq (t := 313) rfl rfl (show inr (z35) by omega) (fun b36 => ?_) (fun b36 => ?_)
              · refine Ew_of (pc' := 314) (fun _ => x_iconst rfl) ?_
                exact hc314 (0) _ σ _ _  (l13_0) (l13_1) (l13_2) H (SF_trans (SF_refl) hS33 (any_sub rfl)) (SA_trans (SA_refl) hA34 (any_subA rfl))   (show inr (0) by omega) (show (0) = 0 ∨ (0) = 1 ∧ (x13_2) + 10 ≤ ((A 11)) ((a1)) by omega)
              · refine Ew_of (pc' := 278) (fun _ => x_aload_n rfl l13_0) ?_
                refine Ew_of (pc' := 279) (fun _ => x_iload_n rfl l13_1) ?_
                refine Ew_of (pc' := 280) (fun _ => x_iload_n rfl l13_2) ?_
                refine Ew_of (pc' := 281) (fun _ => x_iconst rfl) ?_
                refine w_iadd rfl ?_
                refine Ew_of (pc' := 284) (fun _ => x_bipush (z := 115) rfl (by decide)) ?_
                refine Ew_of (pc' := 286) (fun _ => x_bipush (z := 78) rfl (by decide)) ?_
                refine Ew_of (pc' := 288) (fun _ => x_bipush (z := 97) rfl (by decide)) ?_
                refine Ew_of (pc' := 290) (fun _ => x_bipush (z := 80) rfl (by decide)) ?_
                refine w_inv H (o := 0) rfl rfl rfl (H.perm 0 rfl) rfl rfl (by rfl) (M86 H (A 11) ((funext (hA34 11 rfl)).trans ((funext (hA23 11 rfl)).trans ((funext (hA17 11 rfl)).trans ((funext (hA11 11 rfl)).trans ((funext (hA_13 11 rfl)).trans (funext (hA4 11 rfl))))))) (show inr (a1) by omega) (show inr ((x13_2 + 4)) by omega) (show inr (115) by omega) (show inr (78) by omega) (show inr (97) by omega) (show inr (80) by omega) (show 0 ≤ (a1) ∧ (a1) ≤ 3 ∧ 0 ≤ ((x13_2 + 4)) ∧ ((x13_2 + 4)) ≤ 65540 by omega) (fun z41 σ F37 A38 H hS39 hA40 pz41_0 pz41_1 => ⟨rretB rfl pz41_0, ?_⟩))
                refine w_ifeq (t := 313) rfl rfl (show inr (z41) by omega) (fun b42 => ?_) (fun b42 => ?_)
                · refine Ew_of (pc' := 314) (fun _ => x_iconst rfl) ?_
                  exact hc314 (0) _ σ _ _  (l13_0) (l13_1) (l13_2) H (SF_trans (SF_trans (SF_refl) hS33 (any_sub rfl)) hS39 (any_sub rfl)) (SA_trans (SA_trans (SA_refl) hA34 (any_subA rfl)) hA40 (any_subA rfl))   (show inr (0) by omega) (show (0) = 0 ∨ (0) = 1 ∧ (x13_2) + 10 ≤ ((A 11)) ((a1)) by omega)
                · refine Ew_of (pc' := 297) (fun _ => x_iload_n rfl l13_2) ?_
                  refine Ew_of (pc' := 299) (fun _ => x_bipush (z := 10) rfl (by decide)) ?_
                  refine w_iadd rfl ?_
                  refine Ew_of (pc' := 301) (fun _ => x_aload_n rfl l13_0) ?_
                  refine w_gT H (o := 0) (t := 11) rfl (H.perm 0 rfl) rfl rfl rfl rfl rfl rfl ?_
                  refine Ew_of (pc' := 305) (fun _ => x_iload_n rfl l13_1) ?_
                  refine w_lI H (o := 11) (n := 4) rfl (H.perm 11 rfl) rfl rfl (H.fix 11 rfl rfl) (show 0 ≤ a1 ∧ a1 < ((4 : Nat) : Int) by omega) (by decide) (fun v43 ev43 qv43 => ?_)
                  have qv43 : (0 : Int) ≤ v43 ∧ v43 ≤ 65536 := qv43
                  have ev43 : (A 11) (a1) = v43 := (congrFun ((funext (hA40 11 rfl)).trans ((funext (hA34 11 rfl)).trans ((funext (hA23 11 rfl)).trans ((funext (hA17 11 rfl)).trans ((funext (hA11 11 rfl)).trans ((funext (hA_13 11 rfl)).trans (funext (hA4 11 rfl)))))))) (a1)).symm.trans ev43
                  refine w_icmpgt (t := 313) rfl rfl (show inr ((x13_2 + 10)) by omega) (show inr (v43) by omega) (fun b44 => ?_) (fun b44 => ?_)
                  · refine Ew_of (pc' := 314) (fun _ => x_iconst rfl) ?_
                    exact hc314 (0) _ σ _ _  (l13_0) (l13_1) (l13_2) H (SF_trans (SF_trans (SF_refl) hS33 (any_sub rfl)) hS39 (any_sub rfl)) (SA_trans (SA_trans (SA_refl) hA34 (any_subA rfl)) hA40 (any_subA rfl))   (show inr (0) by omega) (show (0) = 0 ∨ (0) = 1 ∧ (x13_2) + 10 ≤ ((A 11)) ((a1)) by omega)
                  · refine Ew_of (pc' := 310) (fun _ => x_iconst rfl) ?_
                    refine Ew_of (pc' := 314) (fun _ => x_goto rfl rfl) ?_
                    exact hc314 (1) _ σ _ _  (l13_0) (l13_1) (l13_2) H (SF_trans (SF_trans (SF_refl) hS33 (any_sub rfl)) hS39 (any_sub rfl)) (SA_trans (SA_trans (SA_refl) hA34 (any_subA rfl)) hA40 (any_subA rfl))   (show inr (1) by omega) (show (1) = 0 ∨ (1) = 1 ∧ (x13_2) + 10 ≤ ((A 11)) ((a1)) by omega)
            · refine Ew_of (pc' := 260) (fun _ => x_iconst rfl) ?_
              exact w_ireturn rfl (k (5) σ _ _ H (SF_trans (SF_trans (SF_trans (SF_trans (SF_trans (SF_refl) hS3 (any_sub rfl)) hS_13 (any_sub rfl)) hS10 (any_sub rfl)) hS16 (any_sub rfl)) hS22 (any_sub rfl)) (SA_trans (SA_trans (SA_trans (SA_trans (SA_trans (SA_refl) hA4 (any_subA rfl)) hA_13 (any_subA rfl)) hA11 (any_subA rfl)) hA17 (any_subA rfl)) hA23 (any_subA rfl)) (show inr (5) by omega) (show -1 ≤ (5) ∧ (5) ≤ 5 ∧ (5) ≠ 2 by omega))
          · refine Ew_of (pc' := 239) (fun _ => x_iconst rfl) ?_
            exact w_ireturn rfl (k (4) σ _ _ H (SF_trans (SF_trans (SF_trans (SF_trans (SF_refl) hS3 (any_sub rfl)) hS_13 (any_sub rfl)) hS10 (any_sub rfl)) hS16 (any_sub rfl)) (SA_trans (SA_trans (SA_trans (SA_trans (SA_refl) hA4 (any_subA rfl)) hA_13 (any_subA rfl)) hA11 (any_subA rfl)) hA17 (any_subA rfl)) (show inr (4) by omega) (show -1 ≤ (4) ∧ (4) ≤ 5 ∧ (4) ≠ 2 by omega))
        · refine Ew_of (pc' := 218) (fun _ => x_iconst rfl) ?_
          exact w_ireturn rfl (k (1) σ _ _ H (SF_trans (SF_trans (SF_trans (SF_refl) hS3 (any_sub rfl)) hS_13 (any_sub rfl)) hS10 (any_sub rfl)) (SA_trans (SA_trans (SA_trans (SA_refl) hA4 (any_subA rfl)) hA_13 (any_subA rfl)) hA11 (any_subA rfl)) (show inr (1) by omega) (show -1 ≤ (1) ∧ (1) ≤ 5 ∧ (1) ≠ 2 by omega))
      · have hc82 : ∀ (tc82_0 : Int), ∀ (ls : rO) (σ : rS) (F_c82 : hF) (A_c82 : hA) , rlook ls 0 = some (.ref (D 0)) → rlook ls 1 = some (I (a1)) → rlook ls 2 = some (I (x13_2)) → HS σ0 σ D N F_c82 A_c82 → SF [] F_13 F_c82 → SA [] A_13 A_c82 → (inr (tc82_0)) → ((tc82_0) = 0 ∨ (tc82_0) = 1 ∧ (x13_2) + 8 ≤ ((A 11)) ((a1))) → Ew 87 (d + 1) 82 ls [I (tc82_0)] σ c s Q := by
         as_aux_lemma =>
          intro tc82_0 ls σ F_c82 A_c82  lc82_0 lc82_1 lc82_2 H hS_c82 hA_c82   jc82_0 jc82_1
          refine Ew_of (pc' := 83) (fun _ => x_istore_n rfl) ?_
          refine Ew_of (pc' := 85) (fun _ => x_ldc (z := 65536) rfl (by decide)) ?_
          refine Ew_of (pc' := 86) (fun _ => x_iload_n rfl (rk_o (lc82_1) rfl rfl)) ?_
          refine w_imul rfl ?_
          refine Ew_of (pc' := 88) (fun _ => x_iload_n rfl (rk_o (lc82_2) rfl rfl)) ?_
          refine w_iadd rfl ?_
          refine Ew_of (pc' := 91) (fun _ => x_istore rfl) ?_
          have hc151 : ∀ (tc151_0 : Int), ∀ (ls : rO) (σ : rS) (F_c151 : hF) (A_c151 : hA) , rlook ls 0 = some (.ref (D 0)) → rlook ls 1 = some (I (a1)) → rlook ls 2 = some (I (x13_2)) → rlook ls 3 = some (I (tc82_0)) → HS σ0 σ D N F_c151 A_c151 → SF [] F_c82 F_c151 → SA [] A_c82 A_c151 → (inrJ (tc151_0)) → (0 ≤ (tc151_0) ∧ (tc151_0) ≤ 8589934592) → Ew 87 (d + 1) 151 ls [J (tc151_0)] σ c s Q := by
           as_aux_lemma =>
            intro tc151_0 ls σ F_c151 A_c151  lc151_0 lc151_1 lc151_2 lc151_3 H hS_c151 hA_c151   jc151_0 jc151_1
            refine Ew_of (pc' := 153) (fun _ => x_lstore rfl) ?_
            refine Ew_of (pc' := 154) (fun _ => x_iload_n rfl (rk2_o (lc151_3) rfl rfl)) ?_
            have hc180 : ∀ (tc180_0 : Int), ∀ (ls : rO) (σ : rS) (F_c180 : hF) (A_c180 : hA) , rlook ls 0 = some (.ref (D 0)) → rlook ls 1 = some (I (a1)) → rlook ls 2 = some (I (x13_2)) → rlook ls 5 = some (J (tc151_0)) → HS σ0 σ D N F_c180 A_c180 → SF [] F_c151 F_c180 → SA [] A_c151 A_c180 → (inr (tc180_0)) → (((tc82_0) = (0) ∧ (tc180_0) = (0)) ∨ ((tc82_0) ≠ (0) ∧ 0 ≤ ((A 11) (a1)) ∧ ((A 11) (a1)) ≤ 65536 ∧ (tc151_0) > ((((A 11) (a1) - x13_2) - 8)) ∧ (tc180_0) = (0)) ∨ ((tc82_0) ≠ (0) ∧ 0 ≤ ((A 11) (a1)) ∧ ((A 11) (a1)) ≤ 65536 ∧ (tc151_0) ≤ ((((A 11) (a1) - x13_2) - 8)) ∧ (tc180_0) = (1))) → Ew 87 (d + 1) 180 ls [I (tc180_0)] σ c s Q := by
             as_aux_lemma =>
              intro tc180_0 ls σ F_c180 A_c180  lc180_0 lc180_1 lc180_2 lc180_5 H hS_c180 hA_c180   jc180_0 jc180_1
              refine Ew_of (pc' := 181) (fun _ => x_istore_n rfl) ?_
              refine Ew_of (pc' := 182) (fun _ => x_iload_n rfl rk_s) ?_
              refine w_ifeq (t := 196) rfl rfl (show inr (tc180_0) by omega) (fun b45 => ?_) (fun b45 => ?_)
              · refine Ew_of (pc' := 197) (fun _ => x_iload_n rfl (rk_o (lc180_2) rfl rfl)) ?_
                refine Ew_of (pc' := 198) (fun _ => x_istore_n rfl) ?_
                refine Ew_of (pc' := 13) (fun _ => x_goto rfl rfl) ?_
                exact ih13 _ (by omega) _ σ _ _ (x13_2) (tc180_0) (rk_o (rk_o (lc180_0) rfl rfl) rfl rfl) (rk_o (rk_o (lc180_1) rfl rfl) rfl rfl) (rk_s) (rk_o (rk_s) rfl rfl) H (SF_trans (SF_trans (SF_trans (hS_13) hS_c82 (any_sub rfl)) hS_c151 (any_sub rfl)) hS_c180 (any_sub rfl)) (SA_trans (SA_trans (SA_trans (hA_13) hA_c82 (any_subA rfl)) hA_c151 (any_subA rfl)) hA_c180 (any_subA rfl))   (show inr (x13_2) by omega) (show inr (tc180_0) by omega) (show (tc180_0) = 0 ∨ (tc180_0) = 1 by omega) (show 0 ≤ (x13_2) ∧ (x13_2) ≤ ((A 11)) ((a1)) ∧ ((A 11)) ((a1)) ≤ 65536 by omega) rfl
              · refine Ew_of (pc' := 186) (fun _ => x_iload_n rfl (rk_o (lc180_2) rfl rfl)) ?_
                refine Ew_of (pc' := 188) (fun _ => x_bipush (z := 8) rfl (by decide)) ?_
                refine w_iadd rfl ?_
                refine Ew_of (pc' := 191) (fun _ => x_lload rfl (rk_o (lc180_5) rfl rfl)) ?_
                refine w_l2i rfl ?_
                refine w_iadd rfl ?_
                refine Ew_of (pc' := 197) (fun _ => x_goto rfl rfl) ?_
                refine Ew_of (pc' := 198) (fun _ => x_istore_n rfl) ?_
                refine Ew_of (pc' := 13) (fun _ => x_goto rfl rfl) ?_
                exact ih13 _ (by omega) _ σ _ _ (((x13_2 + 8) + tc151_0)) (tc180_0) (rk_o (rk_o (lc180_0) rfl rfl) rfl rfl) (rk_o (rk_o (lc180_1) rfl rfl) rfl rfl) (rk_s) (rk_o (rk_s) rfl rfl) H (SF_trans (SF_trans (SF_trans (hS_13) hS_c82 (any_sub rfl)) hS_c151 (any_sub rfl)) hS_c180 (any_sub rfl)) (SA_trans (SA_trans (SA_trans (hA_13) hA_c82 (any_subA rfl)) hA_c151 (any_subA rfl)) hA_c180 (any_subA rfl))   (show inr (((x13_2 + 8) + tc151_0)) by omega) (show inr (tc180_0) by omega) (show (tc180_0) = 0 ∨ (tc180_0) = 1 by omega) (show 0 ≤ (((x13_2 + 8) + tc151_0)) ∧ (((x13_2 + 8) + tc151_0)) ≤ ((A 11)) ((a1)) ∧ ((A 11)) ((a1)) ≤ 65536 by omega) rfl
            refine w_ifeq (t := 179) rfl rfl (show inr (tc82_0) by omega) (fun b46 => ?_) (fun b46 => ?_)
            · refine Ew_of (pc' := 180) (fun _ => x_iconst rfl) ?_
              exact hc180 (0) _ σ _ _  (rk2_o (lc151_0) rfl rfl) (rk2_o (lc151_1) rfl rfl) (rk2_o (lc151_2) rfl rfl) (rk2_s) H (SF_refl) (SA_refl)   (show inr (0) by omega) (show ((tc82_0) = (0) ∧ (0) = (0)) ∨ ((tc82_0) ≠ (0) ∧ 0 ≤ ((A 11) (a1)) ∧ ((A 11) (a1)) ≤ 65536 ∧ (tc151_0) > ((((A 11) (a1) - x13_2) - 8)) ∧ (0) = (0)) ∨ ((tc82_0) ≠ (0) ∧ 0 ≤ ((A 11) (a1)) ∧ ((A 11) (a1)) ≤ 65536 ∧ (tc151_0) ≤ ((((A 11) (a1) - x13_2) - 8)) ∧ (0) = (1)) by omega)
            · refine Ew_of (pc' := 159) (fun _ => x_lload rfl rk2_s) ?_
              refine Ew_of (pc' := 160) (fun _ => x_aload_n rfl (rk2_o (lc151_0) rfl rfl)) ?_
              refine w_gT H (o := 0) (t := 11) rfl (H.perm 0 rfl) rfl rfl rfl rfl rfl rfl ?_
              refine Ew_of (pc' := 164) (fun _ => x_iload_n rfl (rk2_o (lc151_1) rfl rfl)) ?_
              refine w_lI H (o := 11) (n := 4) rfl (H.perm 11 rfl) rfl rfl (H.fix 11 rfl rfl) (show 0 ≤ a1 ∧ a1 < ((4 : Nat) : Int) by omega) (by decide) (fun v47 ev47 qv47 => ?_)
              have qv47 : (0 : Int) ≤ v47 ∧ v47 ≤ 65536 := qv47
              have ev47 : (A 11) (a1) = v47 := (congrFun ((funext (hA_c151 11 rfl)).trans ((funext (hA_c82 11 rfl)).trans ((funext (hA_13 11 rfl)).trans (funext (hA4 11 rfl))))) (a1)).symm.trans ev47
              refine Ew_of (pc' := 166) (fun _ => x_iload_n rfl (rk2_o (lc151_2) rfl rfl)) ?_
              refine w_isub rfl ?_
              refine Ew_of (pc' := 169) (fun _ => x_bipush (z := 8) rfl (by decide)) ?_
              refine w_isub rfl ?_
              refine w_i2l rfl (show inr (((v47 - x13_2) - 8)) by omega) ?_
              refine w_lcmp rfl (show inrJ (tc151_0) by omega) (show inrJ (((v47 - x13_2) - 8)) by omega) (fun z48 gz48 gaz48 gbz48 => ?_)
              refine w_ifgt (t := 179) rfl rfl (show inr (z48) by omega) (fun b49 => ?_) (fun b49 => ?_)
              · refine Ew_of (pc' := 180) (fun _ => x_iconst rfl) ?_
                exact hc180 (0) _ σ _ _  (rk2_o (lc151_0) rfl rfl) (rk2_o (lc151_1) rfl rfl) (rk2_o (lc151_2) rfl rfl) (rk2_s) H (SF_refl) (SA_refl)   (show inr (0) by omega) (show ((tc82_0) = (0) ∧ (0) = (0)) ∨ ((tc82_0) ≠ (0) ∧ 0 ≤ ((A 11) (a1)) ∧ ((A 11) (a1)) ≤ 65536 ∧ (tc151_0) > ((((A 11) (a1) - x13_2) - 8)) ∧ (0) = (0)) ∨ ((tc82_0) ≠ (0) ∧ 0 ≤ ((A 11) (a1)) ∧ ((A 11) (a1)) ≤ 65536 ∧ (tc151_0) ≤ ((((A 11) (a1) - x13_2) - 8)) ∧ (0) = (1)) by omega)
              · refine Ew_of (pc' := 176) (fun _ => x_iconst rfl) ?_
                refine Ew_of (pc' := 180) (fun _ => x_goto rfl rfl) ?_
                exact hc180 (1) _ σ _ _  (rk2_o (lc151_0) rfl rfl) (rk2_o (lc151_1) rfl rfl) (rk2_o (lc151_2) rfl rfl) (rk2_s) H (SF_refl) (SA_refl)   (show inr (1) by omega) (show ((tc82_0) = (0) ∧ (1) = (0)) ∨ ((tc82_0) ≠ (0) ∧ 0 ≤ ((A 11) (a1)) ∧ ((A 11) (a1)) ≤ 65536 ∧ (tc151_0) > ((((A 11) (a1) - x13_2) - 8)) ∧ (1) = (0)) ∨ ((tc82_0) ≠ (0) ∧ 0 ≤ ((A 11) (a1)) ∧ ((A 11) (a1)) ≤ 65536 ∧ (tc151_0) ≤ ((((A 11) (a1) - x13_2) - 8)) ∧ (1) = (1)) by omega)
          refine Ew_of (pc' := 92) (fun _ => x_iload_n rfl (rk_o (rk_s) rfl rfl)) ?_
          refine w_ifeq (t := 150) rfl rfl (show inr (tc82_0) by omega) (fun b50 => ?_) (fun b50 => ?_)
          · refine Ew_of (pc' := 151) (fun _ => x_lconst (z := 0) rfl (by decide)) ?_
            exact hc151 (0) _ σ _ _  (rk_o (rk_o (lc82_0) rfl rfl) rfl rfl) (rk_o (rk_o (lc82_1) rfl rfl) rfl rfl) (rk_o (rk_o (lc82_2) rfl rfl) rfl rfl) (rk_o (rk_s) rfl rfl) H (SF_refl) (SA_refl)   (show inrJ (0) by omega) (show 0 ≤ (0) ∧ (0) ≤ 8589934592 by omega)
          · refine Ew_of (pc' := 96) (fun _ => x_aload_n rfl (rk_o (rk_o (lc82_0) rfl rfl) rfl rfl)) ?_
            refine w_gT H (o := 0) (t := 10) rfl (H.perm 0 rfl) rfl rfl rfl rfl rfl rfl ?_
            refine Ew_of (pc' := 101) (fun _ => x_iload rfl rk_s) ?_
            refine Ew_of (pc' := 102) (fun _ => x_iconst rfl) ?_
            refine w_iadd rfl ?_
            refine w_lI H (o := 10) (n := 262144) rfl (H.perm 10 rfl) rfl rfl (H.fix 10 rfl rfl) (show 0 ≤ (((65536 * a1) + x13_2) + 4) ∧ (((65536 * a1) + x13_2) + 4) < ((262144 : Nat) : Int) by omega) (by decide) (fun v51 ev51 qv51 => ?_)
            have qv51 : (0 : Int) ≤ v51 ∧ v51 ≤ 255 := qv51
            have ev51 : (A 10) ((((65536 * a1) + x13_2) + 4)) = v51 := (congrFun ((funext (hA_c82 10 rfl)).trans ((funext (hA_13 10 rfl)).trans (funext (hA4 10 rfl)))) ((((65536 * a1) + x13_2) + 4))).symm.trans ev51
            refine Ew_of (pc' := 105) (fun _ => x_aload_n rfl (rk_o (rk_o (lc82_0) rfl rfl) rfl rfl)) ?_
            refine w_gT H (o := 0) (t := 10) rfl (H.perm 0 rfl) rfl rfl rfl rfl rfl rfl ?_
            refine Ew_of (pc' := 110) (fun _ => x_iload rfl rk_s) ?_
            refine Ew_of (pc' := 111) (fun _ => x_iconst rfl) ?_
            refine w_iadd rfl ?_
            refine w_lI H (o := 10) (n := 262144) rfl (H.perm 10 rfl) rfl rfl (H.fix 10 rfl rfl) (show 0 ≤ (((65536 * a1) + x13_2) + 5) ∧ (((65536 * a1) + x13_2) + 5) < ((262144 : Nat) : Int) by omega) (by decide) (fun v52 ev52 qv52 => ?_)
            have qv52 : (0 : Int) ≤ v52 ∧ v52 ≤ 255 := qv52
            have ev52 : (A 10) ((((65536 * a1) + x13_2) + 5)) = v52 := (congrFun ((funext (hA_c82 10 rfl)).trans ((funext (hA_13 10 rfl)).trans (funext (hA4 10 rfl)))) ((((65536 * a1) + x13_2) + 5))).symm.trans ev52
            refine Ew_of (pc' := 115) (fun _ => x_bipush (z := 8) rfl (by decide)) ?_
            refine w_ishlK 8 256 (by decide) (by decide) rfl (fun z53 gz53 dz53 => ?_)
            refine w_iorN rfl (show inr (v51) by omega) (show inr (z53) by omega) (fun z54 gz54 dz54 => ?_)
            refine Ew_of (pc' := 118) (fun _ => x_aload_n rfl (rk_o (rk_o (lc82_0) rfl rfl) rfl rfl)) ?_
            refine w_gT H (o := 0) (t := 10) rfl (H.perm 0 rfl) rfl rfl rfl rfl rfl rfl ?_
            refine Ew_of (pc' := 123) (fun _ => x_iload rfl rk_s) ?_
            refine Ew_of (pc' := 125) (fun _ => x_bipush (z := 6) rfl (by decide)) ?_
            refine w_iadd rfl ?_
            refine w_lI H (o := 10) (n := 262144) rfl (H.perm 10 rfl) rfl rfl (H.fix 10 rfl rfl) (show 0 ≤ (((65536 * a1) + x13_2) + 6) ∧ (((65536 * a1) + x13_2) + 6) < ((262144 : Nat) : Int) by omega) (by decide) (fun v55 ev55 qv55 => ?_)
            have qv55 : (0 : Int) ≤ v55 ∧ v55 ≤ 255 := qv55
            have ev55 : (A 10) ((((65536 * a1) + x13_2) + 6)) = v55 := (congrFun ((funext (hA_c82 10 rfl)).trans ((funext (hA_13 10 rfl)).trans (funext (hA4 10 rfl)))) ((((65536 * a1) + x13_2) + 6))).symm.trans ev55
            refine Ew_of (pc' := 129) (fun _ => x_bipush (z := 16) rfl (by decide)) ?_
            refine w_ishlK 16 65536 (by decide) (by decide) rfl (fun z56 gz56 dz56 => ?_)
            refine w_iorN rfl (show inr (z54) by omega) (show inr (z56) by omega) (fun z57 gz57 dz57 => ?_)
            refine w_i2l rfl (show inr (z57) by omega) ?_
            refine Ew_of (pc' := 133) (fun _ => x_aload_n rfl (rk_o (rk_o (lc82_0) rfl rfl) rfl rfl)) ?_
            refine w_gT H (o := 0) (t := 10) rfl (H.perm 0 rfl) rfl rfl rfl rfl rfl rfl ?_
            refine Ew_of (pc' := 138) (fun _ => x_iload rfl rk_s) ?_
            refine Ew_of (pc' := 140) (fun _ => x_bipush (z := 7) rfl (by decide)) ?_
            refine w_iadd rfl ?_
            refine w_lI H (o := 10) (n := 262144) rfl (H.perm 10 rfl) rfl rfl (H.fix 10 rfl rfl) (show 0 ≤ (((65536 * a1) + x13_2) + 7) ∧ (((65536 * a1) + x13_2) + 7) < ((262144 : Nat) : Int) by omega) (by decide) (fun v58 ev58 qv58 => ?_)
            have qv58 : (0 : Int) ≤ v58 ∧ v58 ≤ 255 := qv58
            have ev58 : (A 10) ((((65536 * a1) + x13_2) + 7)) = v58 := (congrFun ((funext (hA_c82 10 rfl)).trans ((funext (hA_13 10 rfl)).trans (funext (hA4 10 rfl)))) ((((65536 * a1) + x13_2) + 7))).symm.trans ev58
            refine w_i2l rfl (show inr (v58) by omega) ?_
            refine Ew_of (pc' := 145) (fun _ => x_bipush (z := 24) rfl (by decide)) ?_
            refine w_lshlK 24 16777216 (by decide) (by decide) rfl (fun z59 gz59 dz59 => ?_)
            refine w_lorN rfl (show inrJ (z57) by omega) (show inrJ (z59) by omega) (fun z60 gz60 dz60 => ?_)
            refine Ew_of (pc' := 151) (fun _ => x_goto rfl rfl) ?_
            exact hc151 (z60) _ σ _ _  (rk_o (rk_o (lc82_0) rfl rfl) rfl rfl) (rk_o (rk_o (lc82_1) rfl rfl) rfl rfl) (rk_o (rk_o (lc82_2) rfl rfl) rfl rfl) (rk_o (rk_s) rfl rfl) H (SF_refl) (SA_refl)   (show inrJ (z60) by omega) (show 0 ≤ (z60) ∧ (z60) ≤ 8589934592 by omega)
        refine Ew_of (pc' := 18) (fun _ => x_iload_n rfl l13_2) ?_
        refine Ew_of (pc' := 20) (fun _ => x_bipush (z := 8) rfl (by decide)) ?_
        refine w_iadd rfl ?_
        refine Ew_of (pc' := 22) (fun _ => x_aload_n rfl l13_0) ?_
        refine w_gT H (o := 0) (t := 11) rfl (H.perm 0 rfl) rfl rfl rfl rfl rfl rfl ?_
        refine Ew_of (pc' := 26) (fun _ => x_iload_n rfl l13_1) ?_
        refine w_lI H (o := 11) (n := 4) rfl (H.perm 11 rfl) rfl rfl (H.fix 11 rfl rfl) (show 0 ≤ a1 ∧ a1 < ((4 : Nat) : Int) by omega) (by decide) (fun v61 ev61 qv61 => ?_)
        have qv61 : (0 : Int) ≤ v61 ∧ v61 ≤ 65536 := qv61
        have ev61 : (A 11) (a1) = v61 := (congrFun ((funext (hA_13 11 rfl)).trans (funext (hA4 11 rfl))) (a1)).symm.trans ev61
        refine w_icmpgt (t := 81) rfl rfl (show inr ((x13_2 + 8)) by omega) (show inr (v61) by omega) (fun b62 => ?_) (fun b62 => ?_)
        · refine Ew_of (pc' := 82) (fun _ => x_iconst rfl) ?_
          exact hc82 (0) _ σ _ _  (l13_0) (l13_1) (l13_2) H (SF_refl) (SA_refl)   (show inr (0) by omega) (show (0) = 0 ∨ (0) = 1 ∧ (x13_2) + 8 ≤ ((A 11)) ((a1)) by omega)
        · refine Ew_of (pc' := 31) (fun _ => x_aload_n rfl l13_0) ?_
          refine w_gT H (o := 0) (t := 10) rfl (H.perm 0 rfl) rfl rfl rfl rfl rfl rfl ?_
          refine Ew_of (pc' := 36) (fun _ => x_ldc (z := 65536) rfl (by decide)) ?_
          refine Ew_of (pc' := 37) (fun _ => x_iload_n rfl l13_1) ?_
          refine w_imul rfl ?_
          refine Ew_of (pc' := 39) (fun _ => x_iload_n rfl l13_2) ?_
          refine w_iadd rfl ?_
          refine w_lI H (o := 10) (n := 262144) rfl (H.perm 10 rfl) rfl rfl (H.fix 10 rfl rfl) (show 0 ≤ ((65536 * a1) + x13_2) ∧ ((65536 * a1) + x13_2) < ((262144 : Nat) : Int) by omega) (by decide) (fun v63 ev63 qv63 => ?_)
          have qv63 : (0 : Int) ≤ v63 ∧ v63 ≤ 255 := qv63
          have ev63 : (A 10) (((65536 * a1) + x13_2)) = v63 := (congrFun ((funext (hA_13 10 rfl)).trans (funext (hA4 10 rfl))) (((65536 * a1) + x13_2))).symm.trans ev63
          refine Ew_of (pc' := 43) (fun _ => x_bipush (z := 80) rfl (by decide)) ?_
          refine Ew_of (pc' := 45) (fun _ => x_bipush (z := 95) rfl (by decide)) ?_
          refine w_stat24 rfl rfl (by rfl) (M67 H (show inr (v63) by omega) (show inr (80) by omega) (show inr (95) by omega) (fun z68 σ F64 A65 H hS66 hA67 pz68_0 pz68_1 => ⟨rretB rfl pz68_0, ?_⟩))
          refine w_ifeq (t := 81) rfl rfl (show inr (z68) by omega) (fun b69 => ?_) (fun b69 => ?_)
          · refine Ew_of (pc' := 82) (fun _ => x_iconst rfl) ?_
            exact hc82 (0) _ σ _ _  (l13_0) (l13_1) (l13_2) H (SF_trans (SF_refl) hS66 (any_sub rfl)) (SA_trans (SA_refl) hA67 (any_subA rfl))   (show inr (0) by omega) (show (0) = 0 ∨ (0) = 1 ∧ (x13_2) + 8 ≤ ((A 11)) ((a1)) by omega)
          · refine Ew_of (pc' := 52) (fun _ => x_aload_n rfl l13_0) ?_
            refine Ew_of (pc' := 53) (fun _ => x_iload_n rfl l13_1) ?_
            refine Ew_of (pc' := 54) (fun _ => x_iload_n rfl l13_2) ?_
            refine Ew_of (pc' := 55) (fun _ => x_aload_n rfl l13_0) ?_
            refine w_gT H (o := 0) (t := 10) rfl (H.perm 0 rfl) rfl rfl rfl rfl rfl rfl ?_
            refine Ew_of (pc' := 60) (fun _ => x_ldc (z := 65536) rfl (by decide)) ?_
            refine Ew_of (pc' := 61) (fun _ => x_iload_n rfl l13_1) ?_
            refine w_imul rfl ?_
            refine Ew_of (pc' := 63) (fun _ => x_iload_n rfl l13_2) ?_
            refine w_iadd rfl ?_
            refine w_lI H (o := 10) (n := 262144) rfl (H.perm 10 rfl) rfl rfl (H.fix 10 rfl rfl) (show 0 ≤ ((65536 * a1) + x13_2) ∧ ((65536 * a1) + x13_2) < ((262144 : Nat) : Int) by omega) (by decide) (fun v70 ev70 qv70 => ?_)
            have qv70 : (0 : Int) ≤ v70 ∧ v70 ≤ 255 := qv70
            have ev70 : (A 10) (((65536 * a1) + x13_2)) = v70 := (congrFun ((funext (hA67 10 rfl)).trans ((funext (hA_13 10 rfl)).trans (funext (hA4 10 rfl)))) (((65536 * a1) + x13_2))).symm.trans ev70
            refine Ew_of (pc' := 67) (fun _ => x_bipush (z := 42) rfl (by decide)) ?_
            refine Ew_of (pc' := 69) (fun _ => x_bipush (z := 77) rfl (by decide)) ?_
            refine Ew_of (pc' := 71) (fun _ => x_bipush (z := 24) rfl (by decide)) ?_
            refine w_inv H (o := 0) rfl rfl rfl (H.perm 0 rfl) rfl rfl (by rfl) (M86 H (A 11) ((funext (hA67 11 rfl)).trans ((funext (hA_13 11 rfl)).trans (funext (hA4 11 rfl)))) (show inr (a1) by omega) (show inr (x13_2) by omega) (show inr (v70) by omega) (show inr (42) by omega) (show inr (77) by omega) (show inr (24) by omega) (show 0 ≤ (a1) ∧ (a1) ≤ 3 ∧ 0 ≤ (x13_2) ∧ (x13_2) ≤ 65540 by omega) (fun z75 σ F71 A72 H hS73 hA74 pz75_0 pz75_1 => ⟨rretB rfl pz75_0, ?_⟩))
            refine w_ifeq (t := 81) rfl rfl (show inr (z75) by omega) (fun b76 => ?_) (fun b76 => ?_)
            · refine Ew_of (pc' := 82) (fun _ => x_iconst rfl) ?_
              exact hc82 (0) _ σ _ _  (l13_0) (l13_1) (l13_2) H (SF_trans (SF_trans (SF_refl) hS66 (any_sub rfl)) hS73 (any_sub rfl)) (SA_trans (SA_trans (SA_refl) hA67 (any_subA rfl)) hA74 (any_subA rfl))   (show inr (0) by omega) (show (0) = 0 ∨ (0) = 1 ∧ (x13_2) + 8 ≤ ((A 11)) ((a1)) by omega)
            · refine Ew_of (pc' := 78) (fun _ => x_iconst rfl) ?_
              refine Ew_of (pc' := 82) (fun _ => x_goto rfl rfl) ?_
              exact hc82 (1) _ σ _ _  (l13_0) (l13_1) (l13_2) H (SF_trans (SF_trans (SF_refl) hS66 (any_sub rfl)) hS73 (any_sub rfl)) (SA_trans (SA_trans (SA_refl) hA67 (any_subA rfl)) hA74 (any_subA rfl))   (show inr (1) by omega) (show (1) = 0 ∨ (1) = 1 ∧ (x13_2) + 8 ≤ ((A 11)) ((a1)) by omega)
  · refine Ew_of (pc' := 8) (fun _ => x_iconst rfl) ?_
    exact w_ireturn rfl (k ((-1)) σ _ _ H (SF_trans (SF_refl) hS3 (any_sub rfl)) (SA_trans (SA_refl) hA4 (any_subA rfl)) (show inr ((-1)) by omega) (show -1 ≤ ((-1)) ∧ ((-1)) ≤ 5 ∧ ((-1)) ≠ 2 by omega))
/-- Model.open -/
theorem M88 {σ0 σ : rS} {D N : Nat → Nat} {F : hF} {A : hA} {d c s : Nat} {Q : wQ} (H : HS σ0 σ D N F A) {a1 a2 a3 : Int} (u5_4 : Int) (eu5_4 : F 5 4 = u5_4) (w27 : Int → Int) (ew27 : A 27 = w27) (w28 : Int → Int) (ew28 : A 28 = w28) (w29 : Int → Int) (ew29 : A 29 = w29) (w30 : Int → Int) (ew30 : A 30 = w30) (w34 : Int → Int) (ew34 : A 34 = w34) (w35 : Int → Int) (ew35 : A 35 = w35) (w36 : Int → Int) (ew36 : A 36 = w36) (w37 : Int → Int) (ew37 : A 37 = w37) (h0 : inr (a1)) (h1 : inr (a2)) (h2 : inr (a3)) (h3 : RT ((w35)) ((w36)) ((w37)) ((w34))) (h4 : DI ((u5_4)) ((w27)) ((w28)) ((w29)) ((w30))) (k : ∀ (z : Int) σ F' A', HS σ0 σ D N F' A' → SF [(0, 9), (1, 1), (1, 3), (1, 4), (3, 12), (3, 14), (3, 15), (3, 16), (4, 2), (4, 8), (4, 9), (4, 10), (4, 11), (5, 10), (5, 19), (5, 25), (5, 26), (5, 27), (5, 28), (5, 29), (5, 30), (5, 31), (5, 32), (5, 33), (5, 34), (5, 35), (5, 36), (5, 39), (5, 40), (5, 41), (5, 42), (5, 43), (5, 44), (5, 45)] F F' → SA [10, 11, 14, 15, 17, 21, 22, 23, 31, 32, 33, 34, 35, 36, 37, 38, 39, 40, 41, 42, 43, 44, 45, 46, 47] A A' → ∀ v34 : Int → Int, A' 34 = v34 → ∀ v35 : Int → Int, A' 35 = v35 → ∀ v36 : Int → Int, A' 36 = v36 → ∀ v37 : Int → Int, A' 37 = v37 → (inr (z)) → (RT ((v35)) ((v36)) ((v37)) ((v34))) → Q (some (I z)) σ c s) : Ew 88 (d + 13) 0 (rargs 0 [.ref (D 0), I a1, I a2, I a3]) [] σ c s Q := by
  have r1 : (0 : Int) ≤ u5_4 ∧ u5_4 ≤ 1 := by have h1 : (0 : Int) ≤ F 5 4 ∧ F 5 4 ≤ 1 := H.frng 5 4; rw [show F 5 4 = u5_4 from (eu5_4)] at h1; exact h1
  refine Ew_of (pc' := 1) (fun _ => x_iload_n rfl rfl) ?_
  refine w_stat24 rfl rfl (by rfl) (M56 H (show inr (a1) by omega) (fun z6 σ F2 A3 H hS4 hA5 pz6_0 pz6_1 => ⟨rretB rfl pz6_0, ?_⟩))
  refine w_ifeq (t := 24) rfl rfl (show inr (z6) by omega) (fun b7 => ?_) (fun b7 => ?_)
  · refine Ew_of (pc' := 26) (fun _ => x_bipush (z := -50) rfl (by decide)) ?_
    exact w_ireturn rfl (k ((-50)) σ _ _ H (SF_trans (SF_refl) hS4 (any_sub rfl)) (SA_trans (SA_refl) hA5 (any_subA rfl)) (w34) ((funext (hA5 34 rfl)).trans (ew34)) (w35) ((funext (hA5 35 rfl)).trans (ew35)) (w36) ((funext (hA5 36 rfl)).trans (ew36)) (w37) ((funext (hA5 37 rfl)).trans (ew37)) (show inr ((-50)) by omega) (show RT ((w35)) ((w36)) ((w37)) ((w34)) by assumption))
  · refine Ew_of (pc' := 8) (fun _ => x_iload_n rfl rfl) ?_
    refine w_stat24 rfl rfl (by rfl) (M56 H (show inr (a2) by omega) (fun z12 σ F8 A9 H hS10 hA11 pz12_0 pz12_1 => ⟨rretB rfl pz12_0, ?_⟩))
    refine w_ifeq (t := 24) rfl rfl (show inr (z12) by omega) (fun b13 => ?_) (fun b13 => ?_)
    · refine Ew_of (pc' := 26) (fun _ => x_bipush (z := -50) rfl (by decide)) ?_
      exact w_ireturn rfl (k ((-50)) σ _ _ H (SF_trans (SF_trans (SF_refl) hS4 (any_sub rfl)) hS10 (any_sub rfl)) (SA_trans (SA_trans (SA_refl) hA5 (any_subA rfl)) hA11 (any_subA rfl)) (w34) ((funext (hA11 34 rfl)).trans ((funext (hA5 34 rfl)).trans (ew34))) (w35) ((funext (hA11 35 rfl)).trans ((funext (hA5 35 rfl)).trans (ew35))) (w36) ((funext (hA11 36 rfl)).trans ((funext (hA5 36 rfl)).trans (ew36))) (w37) ((funext (hA11 37 rfl)).trans ((funext (hA5 37 rfl)).trans (ew37))) (show inr ((-50)) by omega) (show RT ((w35)) ((w36)) ((w37)) ((w34)) by assumption))
    · refine Ew_of (pc' := 15) (fun _ => x_iload_n rfl rfl) ?_
      refine Ew_of (pc' := 16) (fun _ => x_iconst rfl) ?_
      refine Ew_of (pc' := 18) (fun _ => x_ldc (z := 65536) rfl (by decide)) ?_
      refine w_stat24 rfl rfl (by rfl) (M67 H (show inr (a3) by omega) (show inr (0) by omega) (show inr (65536) by omega) (fun z18 σ F14 A15 H hS16 hA17 pz18_0 pz18_1 => ⟨rretB rfl pz18_0, ?_⟩))
      refine w_ifne (t := 27) rfl rfl (show inr (z18) by omega) (fun b19 => ?_) (fun b19 => ?_)
      · refine Ew_of (pc' := 28) (fun _ => x_aload_n rfl rfl) ?_
        refine Ew_of (pc' := 29) (fun _ => x_iload_n rfl rfl) ?_
        refine w_inv H (o := 0) rfl rfl rfl (H.perm 0 rfl) rfl rfl (by rfl) (M87 H (show inr (a2) by omega) (fun z24 σ F20 A21 H hS22 hA23 pz24_0 pz24_1 => ⟨rfl, ?_⟩))
        refine Ew_of (pc' := 34) (fun _ => x_istore rfl) ?_
        refine Ew_of (pc' := 36) (fun _ => x_iload rfl rk_s) ?_
        refine w_ifeq (t := 45) rfl rfl (show inr (z24) by omega) (fun b25 => ?_) (fun b25 => ?_)
        · refine Ew_of (pc' := 47) (fun _ => x_bipush (z := -51) rfl (by decide)) ?_
          refine Ew_of (pc' := 59) (fun _ => x_goto rfl rfl) ?_
          exact w_ireturn rfl (k ((-51)) σ _ _ H (SF_trans (SF_trans (SF_trans (SF_trans (SF_refl) hS4 (any_sub rfl)) hS10 (any_sub rfl)) hS16 (any_sub rfl)) hS22 (any_sub rfl)) (SA_trans (SA_trans (SA_trans (SA_trans (SA_refl) hA5 (any_subA rfl)) hA11 (any_subA rfl)) hA17 (any_subA rfl)) hA23 (any_subA rfl)) (w34) ((funext (hA23 34 rfl)).trans ((funext (hA17 34 rfl)).trans ((funext (hA11 34 rfl)).trans ((funext (hA5 34 rfl)).trans (ew34))))) (w35) ((funext (hA23 35 rfl)).trans ((funext (hA17 35 rfl)).trans ((funext (hA11 35 rfl)).trans ((funext (hA5 35 rfl)).trans (ew35))))) (w36) ((funext (hA23 36 rfl)).trans ((funext (hA17 36 rfl)).trans ((funext (hA11 36 rfl)).trans ((funext (hA5 36 rfl)).trans (ew36))))) (w37) ((funext (hA23 37 rfl)).trans ((funext (hA17 37 rfl)).trans ((funext (hA11 37 rfl)).trans ((funext (hA5 37 rfl)).trans (ew37))))) (show inr ((-51)) by omega) (show RT ((w35)) ((w36)) ((w37)) ((w34)) by assumption))
        · refine Ew_of (pc' := 41) (fun _ => x_iload rfl rk_s) ?_
          refine Ew_of (pc' := 42) (fun _ => x_iconst rfl) ?_
          refine w_icmpne (t := 50) rfl rfl (show inr (z24) by omega) (show inr (5) by omega) (fun b26 => ?_) (fun b26 => ?_)
          · refine Ew_of (pc' := 51) (fun _ => x_aload_n rfl (rk_o (rfl) rfl rfl)) ?_
            refine Ew_of (pc' := 52) (fun _ => x_iload_n rfl (rk_o (rfl) rfl rfl)) ?_
            refine Ew_of (pc' := 53) (fun _ => x_iload_n rfl (rk_o (rfl) rfl rfl)) ?_
            refine Ew_of (pc' := 55) (fun _ => x_iload rfl rk_s) ?_
            refine Ew_of (pc' := 56) (fun _ => x_iload_n rfl (rk_o (rfl) rfl rfl)) ?_
            refine w_inv H (o := 0) rfl rfl rfl (H.perm 0 rfl) rfl rfl (by rfl) (M85 H (u5_4) ((((((hS22 5 4 rfl).trans (hS16 5 4 rfl)).trans (hS10 5 4 rfl)).trans (hS4 5 4 rfl)).trans (eu5_4))) (w27) ((funext (hA23 27 rfl)).trans ((funext (hA17 27 rfl)).trans ((funext (hA11 27 rfl)).trans ((funext (hA5 27 rfl)).trans (ew27))))) (w28) ((funext (hA23 28 rfl)).trans ((funext (hA17 28 rfl)).trans ((funext (hA11 28 rfl)).trans ((funext (hA5 28 rfl)).trans (ew28))))) (w29) ((funext (hA23 29 rfl)).trans ((funext (hA17 29 rfl)).trans ((funext (hA11 29 rfl)).trans ((funext (hA5 29 rfl)).trans (ew29))))) (w30) ((funext (hA23 30 rfl)).trans ((funext (hA17 30 rfl)).trans ((funext (hA11 30 rfl)).trans ((funext (hA5 30 rfl)).trans (ew30))))) (w34) ((funext (hA23 34 rfl)).trans ((funext (hA17 34 rfl)).trans ((funext (hA11 34 rfl)).trans ((funext (hA5 34 rfl)).trans (ew34))))) (w35) ((funext (hA23 35 rfl)).trans ((funext (hA17 35 rfl)).trans ((funext (hA11 35 rfl)).trans ((funext (hA5 35 rfl)).trans (ew35))))) (w36) ((funext (hA23 36 rfl)).trans ((funext (hA17 36 rfl)).trans ((funext (hA11 36 rfl)).trans ((funext (hA5 36 rfl)).trans (ew36))))) (w37) ((funext (hA23 37 rfl)).trans ((funext (hA17 37 rfl)).trans ((funext (hA11 37 rfl)).trans ((funext (hA5 37 rfl)).trans (ew37))))) (show inr (a1) by omega) (show inr (a2) by omega) (show inr (z24) by omega) (show inr (a3) by omega) (show RT ((w35)) ((w36)) ((w37)) ((w34)) by assumption) (show DI ((u5_4)) ((w27)) ((w28)) ((w29)) ((w30)) by assumption) (fun z31 σ F27 A28 H hS29 hA30 wq32 ewq33 wq34 ewq35 wq36 ewq37 wq38 ewq39 pz31_0 pz31_1 => ⟨rfl, ?_⟩))
            exact w_ireturn rfl (k (z31) σ _ _ H (SF_trans (SF_trans (SF_trans (SF_trans (SF_trans (SF_refl) hS4 (any_sub rfl)) hS10 (any_sub rfl)) hS16 (any_sub rfl)) hS22 (any_sub rfl)) hS29 (any_sub rfl)) (SA_trans (SA_trans (SA_trans (SA_trans (SA_trans (SA_refl) hA5 (any_subA rfl)) hA11 (any_subA rfl)) hA17 (any_subA rfl)) hA23 (any_subA rfl)) hA30 (any_subA rfl)) (wq32) (ewq33) (wq34) (ewq35) (wq36) (ewq37) (wq38) (ewq39) (show inr (z31) by omega) (show RT ((wq34)) ((wq36)) ((wq38)) ((wq32)) by assumption))
          · refine Ew_of (pc' := 47) (fun _ => x_bipush (z := -51) rfl (by decide)) ?_
            refine Ew_of (pc' := 59) (fun _ => x_goto rfl rfl) ?_
            exact w_ireturn rfl (k ((-51)) σ _ _ H (SF_trans (SF_trans (SF_trans (SF_trans (SF_refl) hS4 (any_sub rfl)) hS10 (any_sub rfl)) hS16 (any_sub rfl)) hS22 (any_sub rfl)) (SA_trans (SA_trans (SA_trans (SA_trans (SA_refl) hA5 (any_subA rfl)) hA11 (any_subA rfl)) hA17 (any_subA rfl)) hA23 (any_subA rfl)) (w34) ((funext (hA23 34 rfl)).trans ((funext (hA17 34 rfl)).trans ((funext (hA11 34 rfl)).trans ((funext (hA5 34 rfl)).trans (ew34))))) (w35) ((funext (hA23 35 rfl)).trans ((funext (hA17 35 rfl)).trans ((funext (hA11 35 rfl)).trans ((funext (hA5 35 rfl)).trans (ew35))))) (w36) ((funext (hA23 36 rfl)).trans ((funext (hA17 36 rfl)).trans ((funext (hA11 36 rfl)).trans ((funext (hA5 36 rfl)).trans (ew36))))) (w37) ((funext (hA23 37 rfl)).trans ((funext (hA17 37 rfl)).trans ((funext (hA11 37 rfl)).trans ((funext (hA5 37 rfl)).trans (ew37))))) (show inr ((-51)) by omega) (show RT ((w35)) ((w36)) ((w37)) ((w34)) by assumption))
      · refine Ew_of (pc' := 26) (fun _ => x_bipush (z := -50) rfl (by decide)) ?_
        exact w_ireturn rfl (k ((-50)) σ _ _ H (SF_trans (SF_trans (SF_trans (SF_refl) hS4 (any_sub rfl)) hS10 (any_sub rfl)) hS16 (any_sub rfl)) (SA_trans (SA_trans (SA_trans (SA_refl) hA5 (any_subA rfl)) hA11 (any_subA rfl)) hA17 (any_subA rfl)) (w34) ((funext (hA17 34 rfl)).trans ((funext (hA11 34 rfl)).trans ((funext (hA5 34 rfl)).trans (ew34)))) (w35) ((funext (hA17 35 rfl)).trans ((funext (hA11 35 rfl)).trans ((funext (hA5 35 rfl)).trans (ew35)))) (w36) ((funext (hA17 36 rfl)).trans ((funext (hA11 36 rfl)).trans ((funext (hA5 36 rfl)).trans (ew36)))) (w37) ((funext (hA17 37 rfl)).trans ((funext (hA11 37 rfl)).trans ((funext (hA5 37 rfl)).trans (ew37)))) (show inr ((-50)) by omega) (show RT ((w35)) ((w36)) ((w37)) ((w34)) by assumption))
/-- Model.bound -/
theorem M89 {σ0 σ : rS} {D N : Nat → Nat} {F : hF} {A : hA} {d c s : Nat} {Q : wQ} (H : HS σ0 σ D N F A) {a1 a2 : Int} (w12 : Int → Int) (ew12 : A 12 = w12) (h0 : inr (a1)) (h1 : inr (a2)) (h2 : SE ((w12))) (k : ∀ (z : Int) σ F' A', HS σ0 σ D N F' A' → SF [] F F' → SA [] A A' → (inr (z)) → Q (some (I z)) σ c s) : Ew 89 (d + 1) 0 (rargs 0 [.ref (D 0), I a1, I a2]) [] σ c s Q := by
  refine Ew_of (pc' := 1) (fun _ => x_iload_n rfl rfl) ?_
  refine Ew_of (pc' := 2) (fun _ => x_iconst rfl) ?_
  refine Ew_of (pc' := 3) (fun _ => x_iconst rfl) ?_
  refine w_stat24 rfl rfl (by rfl) (M67 H (show inr (a1) by omega) (show inr (0) by omega) (show inr (5) by omega) (fun z5 σ F1 A2 H hS3 hA4 pz5_0 pz5_1 => ⟨rretB rfl pz5_0, ?_⟩))
  refine w_ifeq (t := 20) rfl rfl (show inr (z5) by omega) (fun b6 => ?_) (fun b6 => ?_)
  · refine Ew_of (pc' := 21) (fun _ => x_iconst rfl) ?_
    exact w_ireturn rfl (k ((-1)) σ _ _ H (SF_trans (SF_refl) hS3 (any_sub rfl)) (SA_trans (SA_refl) hA4 (any_subA rfl)) (show inr ((-1)) by omega))
  · refine Ew_of (pc' := 10) (fun _ => x_iload_n rfl rfl) ?_
    refine Ew_of (pc' := 11) (fun _ => x_iconst rfl) ?_
    refine Ew_of (pc' := 14) (fun _ => x_sipush (z := 16384) rfl (by decide)) ?_
    refine w_stat24 rfl rfl (by rfl) (M67 H (show inr (a2) by omega) (show inr (0) by omega) (show inr (16384) by omega) (fun z11 σ F7 A8 H hS9 hA10 pz11_0 pz11_1 => ⟨rretB rfl pz11_0, ?_⟩))
    refine w_ifne (t := 22) rfl rfl (show inr (z11) by omega) (fun b12 => ?_) (fun b12 => ?_)
    · have hse : SE ((w12)) := by assumption
      unfold SE at hse
      refine Ew_of (pc' := 23) (fun _ => x_aload_n rfl rfl) ?_
      refine w_gT H (o := 0) (t := 12) rfl (H.perm 0 rfl) rfl rfl rfl rfl rfl rfl ?_
      refine Ew_of (pc' := 27) (fun _ => x_iconst rfl) ?_
      refine w_lI H (o := 12) (n := 10) rfl (H.perm 12 rfl) rfl rfl (H.fix 12 rfl rfl) (show 0 ≤ 2 ∧ 2 < ((10 : Nat) : Int) by omega) (by decide) (fun v13 ev13 qv13 => ?_)
      have qv13 : (-2147483648 : Int) ≤ v13 ∧ v13 ≤ 2147483647 := qv13
      have ev13 : (w12) (2) = v13 := (congrFun ((funext (hA10 12 rfl)).trans ((funext (hA4 12 rfl)).trans (ew12))) (2)).symm.trans ev13
      refine Ew_of (pc' := 29) (fun _ => x_istore_n rfl) ?_
      have hc98 : ∀ (ls : rO) (σ : rS) (F_c98 : hF) (A_c98 : hA) (xc98_3 : Int), rlook ls 0 = some (.ref (D 0)) → rlook ls 1 = some (I (a1)) → rlook ls 2 = some (I (a2)) → rlook ls 3 = some (I (xc98_3)) → HS σ0 σ D N F_c98 A_c98 → SF [] F7 F_c98 → SA [] A8 A_c98 → (inr (xc98_3)) → (1 ≤ (xc98_3) ∧ (xc98_3) ≤ 131072) → Ew 89 (d + 1) 98 ls [] σ c s Q := by
       as_aux_lemma =>
        intro  ls σ F_c98 A_c98 xc98_3 lc98_0 lc98_1 lc98_2 lc98_3 H hS_c98 hA_c98   jc98_0 jc98_1
        refine Ew_of (pc' := 99) (fun _ => x_iload_n rfl lc98_2) ?_
        refine Ew_of (pc' := 100) (fun _ => x_iload_n rfl lc98_3) ?_
        refine w_iadd rfl ?_
        refine Ew_of (pc' := 102) (fun _ => x_iconst rfl) ?_
        refine w_isub rfl ?_
        refine Ew_of (pc' := 104) (fun _ => x_iload_n rfl lc98_3) ?_
        have hdv : 0 ≤ (((a2 + xc98_3) - 1)) / (xc98_3) ∧ (((a2 + xc98_3) - 1)) / (xc98_3) ≤ (((a2 + xc98_3) - 1)) := ⟨Int.ediv_nonneg (by omega) (by omega), Int.ediv_le_self _ (by omega)⟩
        refine w_idiv rfl (show inr (((a2 + xc98_3) - 1)) ∧ 0 ≤ ((a2 + xc98_3) - 1) by omega) (show inr (xc98_3) ∧ 0 < xc98_3 by omega) ?_
        refine Ew_of (pc' := 107) (fun _ => x_istore rfl) ?_
        refine Ew_of (pc' := 108) (fun _ => x_iload_n rfl (rk_o (lc98_1) rfl rfl)) ?_
        by_cases b14 : a1 = 0
        · refine w_tsk 0 144 rfl (show inr (a1) by omega) (by omega) (by decide) rfl rfl ?_
          refine Ew_of (pc' := 145) (fun _ => x_iload_n rfl (rk_o (lc98_2) rfl rfl)) ?_
          refine Ew_of (pc' := 146) (fun _ => x_iload_n rfl (rk_o (lc98_2) rfl rfl)) ?_
          refine Ew_of (pc' := 149) (fun _ => x_sipush (z := 255) rfl (by decide)) ?_
          refine w_idiv rfl (show inr (a2) ∧ 0 ≤ a2 by omega) (show inr (255) ∧ 0 < 255 by omega) ?_
          refine w_iadd rfl ?_
          refine Ew_of (pc' := 153) (fun _ => x_bipush (z := 16) rfl (by decide)) ?_
          refine w_iadd rfl ?_
          exact w_ireturn rfl (k (((a2 + (a2 / 255)) + 16)) σ _ _ H (SF_trans (SF_trans (SF_trans (SF_refl) hS3 (any_sub rfl)) hS9 (any_sub rfl)) hS_c98 (any_sub rfl)) (SA_trans (SA_trans (SA_trans (SA_refl) hA4 (any_subA rfl)) hA10 (any_subA rfl)) hA_c98 (any_subA rfl)) (show inr (((a2 + (a2 / 255)) + 16)) by omega))
        ·
          by_cases b15 : a1 = 1
          · refine w_tsk 1 155 rfl (show inr (a1) by omega) (by omega) (by decide) rfl rfl ?_
            refine Ew_of (pc' := 157) (fun _ => x_bipush (z := 27) rfl (by decide)) ?_
            refine Ew_of (pc' := 159) (fun _ => x_bipush (z := 8) rfl (by decide)) ?_
            refine Ew_of (pc' := 161) (fun _ => x_iload rfl rk_s) ?_
            refine w_imul rfl ?_
            refine w_iadd rfl ?_
            refine Ew_of (pc' := 164) (fun _ => x_iload_n rfl (rk_o (lc98_2) rfl rfl)) ?_
            refine w_iadd rfl ?_
            exact w_ireturn rfl (k (((27 + (8 * (((a2 + xc98_3) - 1) / xc98_3))) + a2)) σ _ _ H (SF_trans (SF_trans (SF_trans (SF_refl) hS3 (any_sub rfl)) hS9 (any_sub rfl)) hS_c98 (any_sub rfl)) (SA_trans (SA_trans (SA_trans (SA_refl) hA4 (any_subA rfl)) hA10 (any_subA rfl)) hA_c98 (any_subA rfl)) (show inr (((27 + (8 * (((a2 + xc98_3) - 1) / xc98_3))) + a2)) by omega))
          ·
            by_cases b16 : a1 = 2
            · refine w_tsk 2 166 rfl (show inr (a1) by omega) (by omega) (by decide) rfl rfl ?_
              refine Ew_of (pc' := 168) (fun _ => x_bipush (z := 32) rfl (by decide)) ?_
              refine Ew_of (pc' := 169) (fun _ => x_iload_n rfl (rk_o (lc98_2) rfl rfl)) ?_
              refine w_iadd rfl ?_
              refine Ew_of (pc' := 171) (fun _ => x_iload_n rfl (rk_o (lc98_2) rfl rfl)) ?_
              refine Ew_of (pc' := 173) (fun _ => x_bipush (z := 6) rfl (by decide)) ?_
              refine w_idiv rfl (show inr (a2) ∧ 0 ≤ a2 by omega) (show inr (6) ∧ 0 < 6 by omega) ?_
              refine w_iadd rfl ?_
              exact w_ireturn rfl (k (((32 + a2) + (a2 / 6))) σ _ _ H (SF_trans (SF_trans (SF_trans (SF_refl) hS3 (any_sub rfl)) hS9 (any_sub rfl)) hS_c98 (any_sub rfl)) (SA_trans (SA_trans (SA_trans (SA_refl) hA4 (any_subA rfl)) hA10 (any_subA rfl)) hA_c98 (any_subA rfl)) (show inr (((32 + a2) + (a2 / 6))) by omega))
            ·
              by_cases b17 : a1 = 3
              · refine w_tsk 3 176 rfl (show inr (a1) by omega) (by omega) (by decide) rfl rfl ?_
                refine Ew_of (pc' := 178) (fun _ => x_bipush (z := 10) rfl (by decide)) ?_
                refine Ew_of (pc' := 179) (fun _ => x_iload_n rfl (rk_o (lc98_2) rfl rfl)) ?_
                refine w_iadd rfl ?_
                refine Ew_of (pc' := 182) (fun _ => x_bipush (z := 8) rfl (by decide)) ?_
                refine Ew_of (pc' := 184) (fun _ => x_iload rfl rk_s) ?_
                refine w_imul rfl ?_
                refine w_iadd rfl ?_
                refine Ew_of (pc' := 187) (fun _ => x_aload_n rfl (rk_o (lc98_0) rfl rfl)) ?_
                refine w_gT H (o := 0) (t := 12) rfl (H.perm 0 rfl) rfl rfl rfl rfl rfl rfl ?_
                refine Ew_of (pc' := 192) (fun _ => x_bipush (z := 6) rfl (by decide)) ?_
                refine w_lI H (o := 12) (n := 10) rfl (H.perm 12 rfl) rfl rfl (H.fix 12 rfl rfl) (show 0 ≤ 6 ∧ 6 < ((10 : Nat) : Int) by omega) (by decide) (fun v18 ev18 qv18 => ?_)
                have qv18 : (-2147483648 : Int) ≤ v18 ∧ v18 ≤ 2147483647 := qv18
                have ev18 : (w12) (6) = v18 := (congrFun ((funext (hA_c98 12 rfl)).trans ((funext (hA10 12 rfl)).trans ((funext (hA4 12 rfl)).trans (ew12)))) (6)).symm.trans ev18
                refine w_ifle (t := 211) rfl rfl (show inr (v18) by omega) (fun b19 => ?_) (fun b19 => ?_)
                · refine Ew_of (pc' := 212) (fun _ => x_iconst rfl) ?_
                  refine w_iadd rfl ?_
                  exact w_ireturn rfl (k ((((10 + a2) + (8 * (((a2 + xc98_3) - 1) / xc98_3))) + 0)) σ _ _ H (SF_trans (SF_trans (SF_trans (SF_refl) hS3 (any_sub rfl)) hS9 (any_sub rfl)) hS_c98 (any_sub rfl)) (SA_trans (SA_trans (SA_trans (SA_refl) hA4 (any_subA rfl)) hA10 (any_subA rfl)) hA_c98 (any_subA rfl)) (show inr ((((10 + a2) + (8 * (((a2 + xc98_3) - 1) / xc98_3))) + 0)) by omega))
                · refine Ew_of (pc' := 198) (fun _ => x_iload rfl rk_s) ?_
                  refine Ew_of (pc' := 199) (fun _ => x_iconst rfl) ?_
                  refine Ew_of (pc' := 200) (fun _ => x_aload_n rfl (rk_o (lc98_0) rfl rfl)) ?_
                  refine w_gT H (o := 0) (t := 12) rfl (H.perm 0 rfl) rfl rfl rfl rfl rfl rfl ?_
                  refine Ew_of (pc' := 205) (fun _ => x_bipush (z := 6) rfl (by decide)) ?_
                  refine w_lI H (o := 12) (n := 10) rfl (H.perm 12 rfl) rfl rfl (H.fix 12 rfl rfl) (show 0 ≤ 6 ∧ 6 < ((10 : Nat) : Int) by omega) (by decide) (fun v20 ev20 qv20 => ?_)
                  have qv20 : (-2147483648 : Int) ≤ v20 ∧ v20 ≤ 2147483647 := qv20
                  have ev20 : (w12) (6) = v20 := (congrFun ((funext (hA_c98 12 rfl)).trans ((funext (hA10 12 rfl)).trans ((funext (hA4 12 rfl)).trans (ew12)))) (6)).symm.trans ev20
                  refine w_iadd rfl ?_
                  have hmm : 0 ≤ ((((a2 + xc98_3) - 1) / xc98_3)) * ((4 + v20)) := Int.mul_nonneg (by omega) (by omega)
                  have hmn : ((((a2 + xc98_3) - 1) / xc98_3)) * ((4 + v20)) ≤ 200000 * 300 := Int.mul_le_mul (by omega) (by omega) (by omega) (by omega)
                  refine w_imul rfl ?_
                  refine Ew_of (pc' := 212) (fun _ => x_goto rfl rfl) ?_
                  refine w_iadd rfl ?_
                  exact w_ireturn rfl (k ((((10 + a2) + (8 * (((a2 + xc98_3) - 1) / xc98_3))) + ((((a2 + xc98_3) - 1) / xc98_3) * (4 + v20)))) σ _ _ H (SF_trans (SF_trans (SF_trans (SF_refl) hS3 (any_sub rfl)) hS9 (any_sub rfl)) hS_c98 (any_sub rfl)) (SA_trans (SA_trans (SA_trans (SA_refl) hA4 (any_subA rfl)) hA10 (any_subA rfl)) hA_c98 (any_subA rfl)) (show inr ((((10 + a2) + (8 * (((a2 + xc98_3) - 1) / xc98_3))) + ((((a2 + xc98_3) - 1) / xc98_3) * (4 + v20)))) by omega))
              ·
                by_cases b21 : a1 = 4
                · refine w_tsk 4 214 rfl (show inr (a1) by omega) (by omega) (by decide) rfl rfl ?_
                  refine Ew_of (pc' := 216) (fun _ => x_bipush (z := 22) rfl (by decide)) ?_
                  refine Ew_of (pc' := 217) (fun _ => x_iconst rfl) ?_
                  refine Ew_of (pc' := 219) (fun _ => x_iload rfl rk_s) ?_
                  refine Ew_of (pc' := 220) (fun _ => x_iconst rfl) ?_
                  refine w_icmpge (t := 227) rfl rfl (show inr ((((a2 + xc98_3) - 1) / xc98_3)) by omega) (show inr (1) by omega) (fun b22 => ?_) (fun b22 => ?_)
                  · refine Ew_of (pc' := 229) (fun _ => x_iload rfl rk_s) ?_
                    refine w_imul rfl ?_
                    refine w_iadd rfl ?_
                    refine Ew_of (pc' := 232) (fun _ => x_iload_n rfl (rk_o (lc98_2) rfl rfl)) ?_
                    refine w_iadd rfl ?_
                    exact w_ireturn rfl (k (((22 + (3 * (((a2 + xc98_3) - 1) / xc98_3))) + a2)) σ _ _ H (SF_trans (SF_trans (SF_trans (SF_refl) hS3 (any_sub rfl)) hS9 (any_sub rfl)) hS_c98 (any_sub rfl)) (SA_trans (SA_trans (SA_trans (SA_refl) hA4 (any_subA rfl)) hA10 (any_subA rfl)) hA_c98 (any_subA rfl)) (show inr (((22 + (3 * (((a2 + xc98_3) - 1) / xc98_3))) + a2)) by omega))
                  · refine Ew_of (pc' := 224) (fun _ => x_iconst rfl) ?_
                    refine Ew_of (pc' := 229) (fun _ => x_goto rfl rfl) ?_
                    refine w_imul rfl ?_
                    refine w_iadd rfl ?_
                    refine Ew_of (pc' := 232) (fun _ => x_iload_n rfl (rk_o (lc98_2) rfl rfl)) ?_
                    refine w_iadd rfl ?_
                    exact w_ireturn rfl (k (((22 + (3 * 1)) + a2)) σ _ _ H (SF_trans (SF_trans (SF_trans (SF_refl) hS3 (any_sub rfl)) hS9 (any_sub rfl)) hS_c98 (any_sub rfl)) (SA_trans (SA_trans (SA_trans (SA_refl) hA4 (any_subA rfl)) hA10 (any_subA rfl)) hA_c98 (any_subA rfl)) (show inr (((22 + (3 * 1)) + a2)) by omega))
                ·
                  refine w_tsd 234 rfl (show inr (a1) by omega) (by omega) rfl ?_
                  refine Ew_of (pc' := 237) (fun _ => x_sipush (z := 700) rfl (by decide)) ?_
                  refine Ew_of (pc' := 238) (fun _ => x_iload_n rfl (rk_o (lc98_2) rfl rfl)) ?_
                  refine w_iadd rfl ?_
                  exact w_ireturn rfl (k ((700 + a2)) σ _ _ H (SF_trans (SF_trans (SF_trans (SF_refl) hS3 (any_sub rfl)) hS9 (any_sub rfl)) hS_c98 (any_sub rfl)) (SA_trans (SA_trans (SA_trans (SA_refl) hA4 (any_subA rfl)) hA10 (any_subA rfl)) hA_c98 (any_subA rfl)) (show inr ((700 + a2)) by omega))
      refine Ew_of (pc' := 30) (fun _ => x_iload_n rfl (rk_o (rfl) rfl rfl)) ?_
      refine Ew_of (pc' := 31) (fun _ => x_iconst rfl) ?_
      refine w_icmpne (t := 98) rfl rfl (show inr (a1) by omega) (show inr (4) by omega) (fun b23 => ?_) (fun b23 => ?_)
      · exact hc98  _ σ _ _ (v13) (rk_o (rfl) rfl rfl) (rk_o (rfl) rfl rfl) (rk_o (rfl) rfl rfl) (rk_s) H (SF_refl) (SA_refl)   (show inr (v13) by omega) (show 1 ≤ (v13) ∧ (v13) ≤ 131072 by omega)
      · refine Ew_of (pc' := 35) (fun _ => x_aload_n rfl (rk_o (rfl) rfl rfl)) ?_
        refine w_gT H (o := 0) (t := 12) rfl (H.perm 0 rfl) rfl rfl rfl rfl rfl rfl ?_
        refine Ew_of (pc' := 40) (fun _ => x_bipush (z := 7) rfl (by decide)) ?_
        refine w_lI H (o := 12) (n := 10) rfl (H.perm 12 rfl) rfl rfl (H.fix 12 rfl rfl) (show 0 ≤ 7 ∧ 7 < ((10 : Nat) : Int) by omega) (by decide) (fun v24 ev24 qv24 => ?_)
        have qv24 : (-2147483648 : Int) ≤ v24 ∧ v24 ≤ 2147483647 := qv24
        have ev24 : (w12) (7) = v24 := (congrFun ((funext (hA10 12 rfl)).trans ((funext (hA4 12 rfl)).trans (ew12))) (7)).symm.trans ev24
        refine Ew_of (pc' := 42) (fun _ => x_iconst rfl) ?_
        refine w_iand rfl (show inr (v24) by omega) (show inr (4) by omega) (fun z25 gz25 gaz25 gbz25 => ?_)
        have hc62 : ∀ (tc62_0 : Int), ∀ (ls : rO) (σ : rS) (F_c62 : hF) (A_c62 : hA) , rlook ls 0 = some (.ref (D 0)) → rlook ls 1 = some (I (a1)) → rlook ls 2 = some (I (a2)) → rlook ls 3 = some (I (v13)) → HS σ0 σ D N F_c62 A_c62 → SF [] F7 F_c62 → SA [] A8 A_c62 → (inr (tc62_0)) → (((z25) = (0) ∧ (-2147483648) ≤ ((w12) (8)) ∧ ((w12) (8)) ≤ 2147483647 ∧ (tc62_0) = (p2 ((10 + (w12) (8))))) ∨ ((z25) ≠ (0) ∧ (tc62_0) = (a2))) → Ew 89 (d + 1) 62 ls [I (tc62_0)] σ c s Q := by
         as_aux_lemma =>
          intro tc62_0 ls σ F_c62 A_c62  lc62_0 lc62_1 lc62_2 lc62_3 H hS_c62 hA_c62   jc62_0 jc62_1
          refine Ew_of (pc' := 64) (fun _ => x_istore rfl) ?_
          refine Ew_of (pc' := 66) (fun _ => x_iload rfl rk_s) ?_
          refine Ew_of (pc' := 68) (fun _ => x_ldc (z := 131072) rfl (by decide)) ?_
          have hc78 : ∀ (tc78_0 : Int), ∀ (ls : rO) (σ : rS) (F_c78 : hF) (A_c78 : hA) , rlook ls 0 = some (.ref (D 0)) → rlook ls 1 = some (I (a1)) → rlook ls 2 = some (I (a2)) → rlook ls 3 = some (I (v13)) → HS σ0 σ D N F_c78 A_c78 → SF [] F_c62 F_c78 → SA [] A_c62 A_c78 → (inr (tc78_0)) → (((tc62_0) ≥ (131072) ∧ (tc78_0) = (131072)) ∨ ((tc62_0) < (131072) ∧ (tc78_0) = (tc62_0))) → Ew 89 (d + 1) 78 ls [I (tc78_0)] σ c s Q := by
           as_aux_lemma =>
            intro tc78_0 ls σ F_c78 A_c78  lc78_0 lc78_1 lc78_2 lc78_3 H hS_c78 hA_c78   jc78_0 jc78_1
            refine Ew_of (pc' := 80) (fun _ => x_istore rfl) ?_
            refine Ew_of (pc' := 82) (fun _ => x_iload rfl rk_s) ?_
            refine w_ifle (t := 96) rfl rfl (show inr (tc78_0) by omega) (fun b26 => ?_) (fun b26 => ?_)
            · refine Ew_of (pc' := 97) (fun _ => x_iload_n rfl (rk_o (lc78_3) rfl rfl)) ?_
              refine Ew_of (pc' := 98) (fun _ => x_istore_n rfl) ?_
              exact hc98  _ σ _ _ (v13) (rk_o (rk_o (lc78_0) rfl rfl) rfl rfl) (rk_o (rk_o (lc78_1) rfl rfl) rfl rfl) (rk_o (rk_o (lc78_2) rfl rfl) rfl rfl) (rk_s) H (SF_trans (SF_trans (SF_refl) hS_c62 (any_sub rfl)) hS_c78 (any_sub rfl)) (SA_trans (SA_trans (SA_refl) hA_c62 (any_subA rfl)) hA_c78 (any_subA rfl))   (show inr (v13) by omega) (show 1 ≤ (v13) ∧ (v13) ≤ 131072 by omega)
            · refine Ew_of (pc' := 87) (fun _ => x_iload rfl rk_s) ?_
              refine Ew_of (pc' := 88) (fun _ => x_iload_n rfl (rk_o (lc78_3) rfl rfl)) ?_
              refine w_icmpge (t := 96) rfl rfl (show inr (tc78_0) by omega) (show inr (v13) by omega) (fun b27 => ?_) (fun b27 => ?_)
              · refine Ew_of (pc' := 97) (fun _ => x_iload_n rfl (rk_o (lc78_3) rfl rfl)) ?_
                refine Ew_of (pc' := 98) (fun _ => x_istore_n rfl) ?_
                exact hc98  _ σ _ _ (v13) (rk_o (rk_o (lc78_0) rfl rfl) rfl rfl) (rk_o (rk_o (lc78_1) rfl rfl) rfl rfl) (rk_o (rk_o (lc78_2) rfl rfl) rfl rfl) (rk_s) H (SF_trans (SF_trans (SF_refl) hS_c62 (any_sub rfl)) hS_c78 (any_sub rfl)) (SA_trans (SA_trans (SA_refl) hA_c62 (any_subA rfl)) hA_c78 (any_subA rfl))   (show inr (v13) by omega) (show 1 ≤ (v13) ∧ (v13) ≤ 131072 by omega)
              · refine Ew_of (pc' := 93) (fun _ => x_iload rfl rk_s) ?_
                refine Ew_of (pc' := 97) (fun _ => x_goto rfl rfl) ?_
                refine Ew_of (pc' := 98) (fun _ => x_istore_n rfl) ?_
                exact hc98  _ σ _ _ (tc78_0) (rk_o (rk_o (lc78_0) rfl rfl) rfl rfl) (rk_o (rk_o (lc78_1) rfl rfl) rfl rfl) (rk_o (rk_o (lc78_2) rfl rfl) rfl rfl) (rk_s) H (SF_trans (SF_trans (SF_refl) hS_c62 (any_sub rfl)) hS_c78 (any_sub rfl)) (SA_trans (SA_trans (SA_refl) hA_c62 (any_subA rfl)) hA_c78 (any_subA rfl))   (show inr (tc78_0) by omega) (show 1 ≤ (tc78_0) ∧ (tc78_0) ≤ 131072 by omega)
          refine w_icmpge (t := 76) rfl rfl (show inr (tc62_0) by omega) (show inr (131072) by omega) (fun b28 => ?_) (fun b28 => ?_)
          · refine Ew_of (pc' := 78) (fun _ => x_ldc (z := 131072) rfl (by decide)) ?_
            exact hc78 (131072) _ σ _ _  (rk_o (lc62_0) rfl rfl) (rk_o (lc62_1) rfl rfl) (rk_o (lc62_2) rfl rfl) (rk_o (lc62_3) rfl rfl) H (SF_refl) (SA_refl)   (show inr (131072) by omega) (show ((tc62_0) ≥ (131072) ∧ (131072) = (131072)) ∨ ((tc62_0) < (131072) ∧ (131072) = (tc62_0)) by omega)
          · refine Ew_of (pc' := 73) (fun _ => x_iload rfl rk_s) ?_
            refine Ew_of (pc' := 78) (fun _ => x_goto rfl rfl) ?_
            exact hc78 (tc62_0) _ σ _ _  (rk_o (lc62_0) rfl rfl) (rk_o (lc62_1) rfl rfl) (rk_o (lc62_2) rfl rfl) (rk_o (lc62_3) rfl rfl) H (SF_refl) (SA_refl)   (show inr (tc62_0) by omega) (show ((tc62_0) ≥ (131072) ∧ (tc62_0) = (131072)) ∨ ((tc62_0) < (131072) ∧ (tc62_0) = (tc62_0)) by omega)
        refine w_ifeq (t := 50) rfl rfl (show inr (z25) by omega) (fun b29 => ?_) (fun b29 => ?_)
        · refine Ew_of (pc' := 51) (fun _ => x_iconst rfl) ?_
          refine Ew_of (pc' := 53) (fun _ => x_bipush (z := 10) rfl (by decide)) ?_
          refine Ew_of (pc' := 54) (fun _ => x_aload_n rfl (rk_o (rfl) rfl rfl)) ?_
          refine w_gT H (o := 0) (t := 12) rfl (H.perm 0 rfl) rfl rfl rfl rfl rfl rfl ?_
          refine Ew_of (pc' := 59) (fun _ => x_bipush (z := 8) rfl (by decide)) ?_
          refine w_lI H (o := 12) (n := 10) rfl (H.perm 12 rfl) rfl rfl (H.fix 12 rfl rfl) (show 0 ≤ 8 ∧ 8 < ((10 : Nat) : Int) by omega) (by decide) (fun v30 ev30 qv30 => ?_)
          have qv30 : (-2147483648 : Int) ≤ v30 ∧ v30 ≤ 2147483647 := qv30
          have ev30 : (w12) (8) = v30 := (congrFun ((funext (hA10 12 rfl)).trans ((funext (hA4 12 rfl)).trans (ew12))) (8)).symm.trans ev30
          refine w_iadd rfl ?_
          have : p2 (((10 + v30))) ≤ p2 21 := p2_mono (by omega)
          have : p2 21 = 2097152 := by decide
          have := p2_pos (((10 + v30)))
          have hpe : p2 (((10 + v30))) = p2 (10 + ((w12)) 8) := by congr 1; omega
          refine w_ishl1 rfl (show 0 ≤ (10 + v30) ∧ (10 + v30) ≤ 31 by omega) ?_
          exact hc62 (p2 ((10 + v30))) _ σ _ _  (rk_o (rfl) rfl rfl) (rk_o (rfl) rfl rfl) (rk_o (rfl) rfl rfl) (rk_s) H (SF_refl) (SA_refl)   (show inr (p2 ((10 + v30))) by omega) (show ((z25) = (0) ∧ (-2147483648) ≤ ((w12) (8)) ∧ ((w12) (8)) ≤ 2147483647 ∧ (p2 ((10 + v30))) = (p2 ((10 + (w12) (8))))) ∨ ((z25) ≠ (0) ∧ (p2 ((10 + v30))) = (a2)) by omega)
        · refine Ew_of (pc' := 47) (fun _ => x_iload_n rfl (rk_o (rfl) rfl rfl)) ?_
          refine Ew_of (pc' := 62) (fun _ => x_goto rfl rfl) ?_
          exact hc62 (a2) _ σ _ _  (rk_o (rfl) rfl rfl) (rk_o (rfl) rfl rfl) (rk_o (rfl) rfl rfl) (rk_s) H (SF_refl) (SA_refl)   (show inr (a2) by omega) (show ((z25) = (0) ∧ (-2147483648) ≤ ((w12) (8)) ∧ ((w12) (8)) ≤ 2147483647 ∧ (a2) = (p2 ((10 + (w12) (8))))) ∨ ((z25) ≠ (0) ∧ (a2) = (a2)) by omega)
    · refine Ew_of (pc' := 21) (fun _ => x_iconst rfl) ?_
      exact w_ireturn rfl (k ((-1)) σ _ _ H (SF_trans (SF_trans (SF_refl) hS3 (any_sub rfl)) hS9 (any_sub rfl)) (SA_trans (SA_trans (SA_refl) hA4 (any_subA rfl)) hA10 (any_subA rfl)) (show inr ((-1)) by omega))
/-- Model.about -/
theorem M90 {σ0 σ : rS} {D N : Nat → Nat} {F : hF} {A : hA} {d c s : Nat} {Q : wQ} (H : HS σ0 σ D N F A) {a1 : Int} (h0 : inr (a1)) (k : ∀ (z : Int) σ F' A', HS σ0 σ D N F' A' → SF [] F F' → SA [] A A' → (inr (z)) → Q (some (I z)) σ c s) : Ew 90 (d + 1) 0 (rargs 0 [.ref (D 0), I a1]) [] σ c s Q := by
  refine Ew_of (pc' := 1) (fun _ => x_iload_n rfl rfl) ?_
  refine w_ifne (t := 9) rfl rfl (show inr (a1) by omega) (fun b1 => ?_) (fun b1 => ?_)
  · refine Ew_of (pc' := 10) (fun _ => x_iload_n rfl rfl) ?_
    refine Ew_of (pc' := 11) (fun _ => x_iconst rfl) ?_
    refine Ew_of (pc' := 13) (fun _ => x_bipush (z := 12) rfl (by decide)) ?_
    refine w_stat24 rfl rfl (by rfl) (M67 H (show inr (a1) by omega) (show inr (1) by omega) (show inr (12) by omega) (fun z6 σ F2 A3 H hS4 hA5 pz6_0 pz6_1 => ⟨rretB rfl pz6_0, ?_⟩))
    refine w_ifeq (t := 31) rfl rfl (show inr (z6) by omega) (fun b7 => ?_) (fun b7 => ?_)
    · refine Ew_of (pc' := 32) (fun _ => x_iload_n rfl rfl) ?_
      refine Ew_of (pc' := 34) (fun _ => x_bipush (z := 13) rfl (by decide)) ?_
      refine Ew_of (pc' := 36) (fun _ => x_bipush (z := 17) rfl (by decide)) ?_
      refine w_stat24 rfl rfl (by rfl) (M67 H (show inr (a1) by omega) (show inr (13) by omega) (show inr (17) by omega) (fun z12 σ F8 A9 H hS10 hA11 pz12_0 pz12_1 => ⟨rretB rfl pz12_0, ?_⟩))
      refine w_ifeq (t := 51) rfl rfl (show inr (z12) by omega) (fun b13 => ?_) (fun b13 => ?_)
      · refine Ew_of (pc' := 52) (fun _ => x_iload_n rfl rfl) ?_
        refine Ew_of (pc' := 54) (fun _ => x_bipush (z := 18) rfl (by decide)) ?_
        refine w_icmpne (t := 67) rfl rfl (show inr (a1) by omega) (show inr (18) by omega) (fun b14 => ?_) (fun b14 => ?_)
        · refine Ew_of (pc' := 68) (fun _ => x_iload_n rfl rfl) ?_
          refine Ew_of (pc' := 70) (fun _ => x_bipush (z := 19) rfl (by decide)) ?_
          refine w_icmpne (t := 83) rfl rfl (show inr (a1) by omega) (show inr (19) by omega) (fun b15 => ?_) (fun b15 => ?_)
          · refine Ew_of (pc' := 84) (fun _ => x_iload_n rfl rfl) ?_
            refine Ew_of (pc' := 86) (fun _ => x_bipush (z := 20) rfl (by decide)) ?_
            refine w_icmpne (t := 99) rfl rfl (show inr (a1) by omega) (show inr (20) by omega) (fun b16 => ?_) (fun b16 => ?_)
            · refine Ew_of (pc' := 100) (fun _ => x_iconst rfl) ?_
              exact w_ireturn rfl (k ((-1)) σ _ _ H (SF_trans (SF_trans (SF_refl) hS4 (any_sub rfl)) hS10 (any_sub rfl)) (SA_trans (SA_trans (SA_refl) hA5 (any_subA rfl)) hA11 (any_subA rfl)) (show inr ((-1)) by omega))
            · refine Ew_of (pc' := 90) (fun _ => x_aload_n rfl rfl) ?_
              refine w_gT H (o := 0) (t := 5) rfl (H.perm 0 rfl) rfl rfl rfl rfl rfl rfl ?_
              have r17 : (-2147483648 : Int) ≤ F 5 3 ∧ F 5 3 ≤ 2147483647 := by have h1 : (-2147483648 : Int) ≤ F8 5 3 ∧ F8 5 3 ≤ 2147483647 := H.frng 5 3; rw [show F8 5 3 = F 5 3 from ((hS10 5 3 rfl).trans (hS4 5 3 rfl))] at h1; exact h1
              refine w_gI H (o := 5) (w := F 5 3) rfl (H.perm 5 rfl) rfl rfl rfl (fun _ => rfl) ((hS10 5 3 rfl).trans (hS4 5 3 rfl)) ?_
              refine Ew_of (pc' := 100) (fun _ => x_goto rfl rfl) ?_
              exact w_ireturn rfl (k (F 5 3) σ _ _ H (SF_trans (SF_trans (SF_refl) hS4 (any_sub rfl)) hS10 (any_sub rfl)) (SA_trans (SA_trans (SA_refl) hA5 (any_subA rfl)) hA11 (any_subA rfl)) (show inr (F 5 3) by omega))
          · refine Ew_of (pc' := 74) (fun _ => x_aload_n rfl rfl) ?_
            refine w_gT H (o := 0) (t := 5) rfl (H.perm 0 rfl) rfl rfl rfl rfl rfl rfl ?_
            have r18 : (0 : Int) ≤ F 5 2 ∧ F 5 2 ≤ 65536 := by have h1 : (0 : Int) ≤ F8 5 2 ∧ F8 5 2 ≤ 65536 := H.frng 5 2; rw [show F8 5 2 = F 5 2 from ((hS10 5 2 rfl).trans (hS4 5 2 rfl))] at h1; exact h1
            refine w_gI H (o := 5) (w := F 5 2) rfl (H.perm 5 rfl) rfl rfl rfl (fun _ => rfl) ((hS10 5 2 rfl).trans (hS4 5 2 rfl)) ?_
            refine Ew_of (pc' := 100) (fun _ => x_goto rfl rfl) ?_
            exact w_ireturn rfl (k (F 5 2) σ _ _ H (SF_trans (SF_trans (SF_refl) hS4 (any_sub rfl)) hS10 (any_sub rfl)) (SA_trans (SA_trans (SA_refl) hA5 (any_subA rfl)) hA11 (any_subA rfl)) (show inr (F 5 2) by omega))
        · refine Ew_of (pc' := 58) (fun _ => x_aload_n rfl rfl) ?_
          refine w_gT H (o := 0) (t := 3) rfl (H.perm 0 rfl) rfl rfl rfl rfl rfl rfl ?_
          have r19 : (0 : Int) ≤ F 3 2 ∧ F 3 2 ≤ 65536 := by have h1 : (0 : Int) ≤ F8 3 2 ∧ F8 3 2 ≤ 65536 := H.frng 3 2; rw [show F8 3 2 = F 3 2 from ((hS10 3 2 rfl).trans (hS4 3 2 rfl))] at h1; exact h1
          refine w_gI H (o := 3) (w := F 3 2) rfl (H.perm 3 rfl) rfl rfl rfl (fun _ => rfl) ((hS10 3 2 rfl).trans (hS4 3 2 rfl)) ?_
          refine Ew_of (pc' := 100) (fun _ => x_goto rfl rfl) ?_
          exact w_ireturn rfl (k (F 3 2) σ _ _ H (SF_trans (SF_trans (SF_refl) hS4 (any_sub rfl)) hS10 (any_sub rfl)) (SA_trans (SA_trans (SA_refl) hA5 (any_subA rfl)) hA11 (any_subA rfl)) (show inr (F 3 2) by omega))
      · refine Ew_of (pc' := 43) (fun _ => x_aload_n rfl rfl) ?_
        refine Ew_of (pc' := 44) (fun _ => x_iload_n rfl rfl) ?_
        refine Ew_of (pc' := 46) (fun _ => x_bipush (z := 13) rfl (by decide)) ?_
        refine w_isub rfl ?_
        refine w_inv H (o := 0) rfl rfl rfl (H.perm 0 rfl) rfl rfl (by rfl) (M83 H (show inr ((a1 - 13)) by omega) (fun z24 σ F20 A21 H hS22 hA23 pz24_0 pz24_1 => ⟨rfl, ?_⟩))
        exact w_ireturn rfl (k (z24) σ _ _ H (SF_trans (SF_trans (SF_trans (SF_refl) hS4 (any_sub rfl)) hS10 (any_sub rfl)) hS22 (any_sub rfl)) (SA_trans (SA_trans (SA_trans (SA_refl) hA5 (any_subA rfl)) hA11 (any_subA rfl)) hA23 (any_subA rfl)) (show inr (z24) by omega))
    · refine Ew_of (pc' := 20) (fun _ => x_aload_n rfl rfl) ?_
      refine w_gT H (o := 0) (t := 6) rfl (H.perm 0 rfl) rfl rfl rfl rfl rfl rfl ?_
      refine w_gT H (o := 6) (t := 88) rfl (H.perm 6 rfl) rfl rfl rfl rfl rfl rfl ?_
      refine Ew_of (pc' := 27) (fun _ => x_iload_n rfl rfl) ?_
      refine Ew_of (pc' := 28) (fun _ => x_iconst rfl) ?_
      refine w_isub rfl ?_
      refine w_lI H (o := 88) (n := 12) rfl (H.perm 88 rfl) rfl rfl (H.fix 88 rfl rfl) (show 0 ≤ (a1 - 1) ∧ (a1 - 1) < ((12 : Nat) : Int) by omega) (by decide) (fun v25 ev25 qv25 => ?_)
      have qv25 : (-2147483648 : Int) ≤ v25 ∧ v25 ≤ 2147483647 := qv25
      have ev25 : (A 88) ((a1 - 1)) = v25 := (congrFun (funext (hA5 88 rfl)) ((a1 - 1))).symm.trans ev25
      exact w_ireturn rfl (k (v25) σ _ _ H (SF_trans (SF_refl) hS4 (any_sub rfl)) (SA_trans (SA_refl) hA5 (any_subA rfl)) (show inr (v25) by omega))
  · refine Ew_of (pc' := 5) (fun _ => x_aload_n rfl rfl) ?_
    have r26 : (-2147483648 : Int) ≤ F 0 9 ∧ F 0 9 ≤ 2147483647 := by have h1 : (-2147483648 : Int) ≤ F 0 9 ∧ F 0 9 ≤ 2147483647 := H.frng 0 9; rw [show F 0 9 = F 0 9 from rfl] at h1; exact h1
    refine w_gI H (o := 0) (w := F 0 9) rfl (H.perm 0 rfl) rfl rfl rfl (fun _ => rfl) rfl ?_
    exact w_ireturn rfl (k (F 0 9) σ _ _ H (SF_refl) (SA_refl) (show inr (F 0 9) by omega))
/-- Model.comesBack -/
theorem M82 {σ0 σ : rS} {D N : Nat → Nat} {F : hF} {A : hA} {d c s : Nat} {Q : wQ} (H : HS σ0 σ D N F A) {a1 a2 : Int} (u1_3 : Int) (eu1_3 : F 1 3 = u1_3) (u5_4 : Int) (eu5_4 : F 5 4 = u5_4) (w27 : Int → Int) (ew27 : A 27 = w27) (w28 : Int → Int) (ew28 : A 28 = w28) (w29 : Int → Int) (ew29 : A 29 = w29) (w30 : Int → Int) (ew30 : A 30 = w30) (w34 : Int → Int) (ew34 : A 34 = w34) (w35 : Int → Int) (ew35 : A 35 = w35) (w36 : Int → Int) (ew36 : A 36 = w36) (w37 : Int → Int) (ew37 : A 37 = w37) (h0 : inr (a1)) (h1 : inr (a2)) (h2 : 0 ≤ (a1) ∧ (a1) ≤ 3 ∧ 0 ≤ (a2) ∧ (a2) ≤ 4) (h3 : RT ((w35)) ((w36)) ((w37)) ((w34))) (h4 : DI ((u5_4)) ((w27)) ((w28)) ((w29)) ((w30))) (k : ∀ (z : Int) σ F' A', HS σ0 σ D N F' A' → SF [(1, 1), (1, 3), (1, 4), (3, 12), (3, 14), (3, 15), (3, 16), (4, 2), (4, 8), (4, 9), (4, 10), (4, 11), (5, 10), (5, 19), (5, 25), (5, 26), (5, 27), (5, 28), (5, 29), (5, 30), (5, 31), (5, 32), (5, 33), (5, 34), (5, 35), (5, 36), (5, 39), (5, 40), (5, 41), (5, 42), (5, 43), (5, 44), (5, 45)] F F' → SA [13, 14, 15, 17, 21, 22, 23, 31, 32, 33, 34, 35, 36, 37, 38, 39, 40, 41, 42, 43, 44, 45, 46, 47] A A' → ∀ y1_3 : Int, F' 1 3 = y1_3 → ∀ v34 : Int → Int, A' 34 = v34 → ∀ v35 : Int → Int, A' 35 = v35 → ∀ v36 : Int → Int, A' 36 = v36 → ∀ v37 : Int → Int, A' 37 = v37 → ((z) = 0 ∨ (z) = 1) → (RT ((v35)) ((v36)) ((v37)) ((v34))) → ((y1_3) = (u1_3)) → Q (some (I z)) σ c s) : Ew 82 (d + 12) 0 (rargs 0 [.ref (D 0), I a1, I a2]) [] σ c s Q := by
  have r1 : (0 : Int) ≤ u1_3 ∧ u1_3 ≤ 65536 := by have h1 : (0 : Int) ≤ F 1 3 ∧ F 1 3 ≤ 65536 := H.frng 1 3; rw [show F 1 3 = u1_3 from (eu1_3)] at h1; exact h1
  have r2 : (0 : Int) ≤ u5_4 ∧ u5_4 ≤ 1 := by have h1 : (0 : Int) ≤ F 5 4 ∧ F 5 4 ≤ 1 := H.frng 5 4; rw [show F 5 4 = u5_4 from (eu5_4)] at h1; exact h1
  refine Ew_of (pc' := 1) (fun _ => x_aload_n rfl rfl) ?_
  refine w_gT H (o := 0) (t := 1) rfl (H.perm 0 rfl) rfl rfl rfl rfl rfl rfl ?_
  refine w_gI H (o := 1) (w := u1_3) rfl (H.perm 1 rfl) rfl rfl rfl (fun _ => rfl) (eu1_3) ?_
  refine Ew_of (pc' := 8) (fun _ => x_istore_n rfl) ?_
  refine Ew_of (pc' := 9) (fun _ => x_iconst rfl) ?_
  refine Ew_of (pc' := 11) (fun _ => x_istore rfl) ?_
  suffices hl11 : ∀ (m : Nat), ∀ (ls : rO) (σ : rS) (F_11 : hF) (A_11 : hA) (x11_4 : Int), rlook ls 0 = some (.ref (D 0)) → rlook ls 1 = some (I (a1)) → rlook ls 2 = some (I (a2)) → rlook ls 3 = some (I (u1_3)) → rlook ls 4 = some (I (x11_4)) → HS σ0 σ D N F_11 A_11 → SF [] F F_11 → SA [14] A A_11 → (inr (x11_4)) → ((0) ≤ (x11_4)) → ((x11_4) ≤ (0) ∨ (x11_4) ≤ ((u1_3))) → (((u1_3)) - (x11_4)).toNat = m → Ew 82 (d + 12) 11 ls [] σ c s Q from
    hl11 _ _ σ _ _ (0) (rk_o (rk_o (rfl) rfl rfl) rfl rfl) (rk_o (rk_o (rfl) rfl rfl) rfl rfl) (rk_o (rk_o (rfl) rfl rfl) rfl rfl) (rk_o (rk_s) rfl rfl) (rk_s) H (SF_refl) (SA_refl)   (show inr (0) by omega) (show (0) ≤ (0) by omega) (show (0) ≤ (0) ∨ (0) ≤ ((u1_3)) by omega) rfl
  as_aux_lemma =>
  intro m
  induction m using Nat.strongRecOn with
  | _ m ih11 =>
    intro ls σ F_11 A_11 x11_4 l11_0 l11_1 l11_2 l11_3 l11_4 H hS_11 hA_11   j11_0 j11_1 j11_2 hm11
    refine Ew_of (pc' := 13) (fun _ => x_iload rfl l11_4) ?_
    refine Ew_of (pc' := 14) (fun _ => x_iload_n rfl l11_3) ?_
    refine w_icmpge (t := 43) rfl rfl (show inr (x11_4) by omega) (show inr (u1_3) by omega) (fun b3 => ?_) (fun b3 => ?_)
    · refine Ew_of (pc' := 44) (fun _ => x_aload_n rfl l11_0) ?_
      refine w_gT H (o := 0) (t := 1) rfl (H.perm 0 rfl) rfl rfl rfl rfl rfl rfl ?_
      refine Ew_of (pc' := 48) (fun _ => x_iload_n rfl l11_3) ?_
      refine w_pI H (o := 1) rfl rfl (H.perm 1 rfl) rfl rfl rfl (fun _ => rfl) rfl (show (0 : Int) ≤ u1_3 ∧ u1_3 ≤ 65536 by omega) (fun σ H => ?_)
      refine Ew_of (pc' := 52) (fun _ => x_iconst rfl) ?_
      refine Ew_of (pc' := 54) (fun _ => x_istore rfl) ?_
      suffices hl54 : ∀ (m : Nat), ∀ (ls : rO) (σ : rS) (F_54 : hF) (A_54 : hA) (x54_4 : Int), rlook ls 0 = some (.ref (D 0)) → rlook ls 1 = some (I (a1)) → rlook ls 2 = some (I (a2)) → rlook ls 3 = some (I (u1_3)) → rlook ls 4 = some (I (x54_4)) → HS σ0 σ D N F_54 A_54 → SF [] (updF F_11 1 1 (u1_3)) F_54 → SA [13] A_11 A_54 → ∀ w54_13 : Int → Int, A_54 13 = w54_13 → (inr (x54_4)) → ((0) ≤ (x54_4)) → ((x54_4) ≤ (0) ∨ (x54_4) ≤ (5)) → (3 < (x54_4) → 0 ≤ ((w54_13)) 3 ∧ ((w54_13)) 3 ≤ 65536) → ((5) - (x54_4)).toNat = m → Ew 82 (d + 12) 54 ls [] σ c s Q from
        hl54 _ _ σ _ _ (0) (rk_o (l11_0) rfl rfl) (rk_o (l11_1) rfl rfl) (rk_o (l11_2) rfl rfl) (rk_o (l11_3) rfl rfl) (rk_s) H (SF_refl) (SA_refl)  (A 13) (funext (hA_11 13 rfl)) (show inr (0) by omega) (show (0) ≤ (0) by omega) (show (0) ≤ (0) ∨ (0) ≤ (5) by omega) (show 3 < (0) → 0 ≤ ((A 13)) 3 ∧ ((A 13)) 3 ≤ 65536 by omega) rfl
      as_aux_lemma =>
      intro m
      induction m using Nat.strongRecOn with
      | _ m ih54 =>
        intro ls σ F_54 A_54 x54_4 l54_0 l54_1 l54_2 l54_3 l54_4 H hS_54 hA_54  w54_13 ew54_13 j54_0 j54_1 j54_2 j54_3 hm54
        refine Ew_of (pc' := 56) (fun _ => x_iload rfl l54_4) ?_
        refine Ew_of (pc' := 57) (fun _ => x_iconst rfl) ?_
        refine w_icmpge (t := 79) rfl rfl (show inr (x54_4) by omega) (show inr (5) by omega) (fun b4 => ?_) (fun b4 => ?_)
        · refine Ew_of (pc' := 80) (fun _ => x_aload_n rfl l54_0) ?_
          refine Ew_of (pc' := 81) (fun _ => x_iload_n rfl l54_2) ?_
          refine Ew_of (pc' := 82) (fun _ => x_aload_n rfl l54_0) ?_
          refine w_gT H (o := 0) (t := 11) rfl (H.perm 0 rfl) rfl rfl rfl rfl rfl rfl ?_
          refine Ew_of (pc' := 86) (fun _ => x_iload_n rfl l54_1) ?_
          refine w_lI H (o := 11) (n := 4) rfl (H.perm 11 rfl) rfl rfl (H.fix 11 rfl rfl) (show 0 ≤ a1 ∧ a1 < ((4 : Nat) : Int) by omega) (by decide) (fun v5 ev5 qv5 => ?_)
          have qv5 : (0 : Int) ≤ v5 ∧ v5 ≤ 65536 := qv5
          have ev5 : (A 11) (a1) = v5 := (congrFun ((funext (hA_54 11 rfl)).trans (funext (hA_11 11 rfl))) (a1)).symm.trans ev5
          refine w_inv H (o := 0) rfl rfl rfl (H.perm 0 rfl) rfl rfl (by rfl) (M84 H (u5_4) ((((hS_54 5 4 rfl).trans (hS_11 5 4 rfl)).trans (eu5_4))) (w27) ((funext (hA_54 27 rfl)).trans ((funext (hA_11 27 rfl)).trans (ew27))) (w28) ((funext (hA_54 28 rfl)).trans ((funext (hA_11 28 rfl)).trans (ew28))) (w29) ((funext (hA_54 29 rfl)).trans ((funext (hA_11 29 rfl)).trans (ew29))) (w30) ((funext (hA_54 30 rfl)).trans ((funext (hA_11 30 rfl)).trans (ew30))) (w34) ((funext (hA_54 34 rfl)).trans ((funext (hA_11 34 rfl)).trans (ew34))) (w35) ((funext (hA_54 35 rfl)).trans ((funext (hA_11 35 rfl)).trans (ew35))) (w36) ((funext (hA_54 36 rfl)).trans ((funext (hA_11 36 rfl)).trans (ew36))) (w37) ((funext (hA_54 37 rfl)).trans ((funext (hA_11 37 rfl)).trans (ew37))) (show inr (a2) by omega) (show inr (v5) by omega) (show 0 ≤ (a2) ∧ (a2) ≤ 4 ∧ 0 ≤ (v5) ∧ (v5) ≤ 65536 by omega) (show RT ((w35)) ((w36)) ((w37)) ((w34)) by assumption) (show DI ((u5_4)) ((w27)) ((w28)) ((w29)) ((w30)) by assumption) (fun z10 σ F6 A7 H hS8 hA9 wq11 ewq12 wq13 ewq14 wq15 ewq16 wq17 ewq18 pz10_0 pz10_1 => ⟨rfl, ?_⟩))
          refine Ew_of (pc' := 91) (fun _ => x_aload_n rfl l54_0) ?_
          refine w_gT H (o := 0) (t := 11) rfl (H.perm 0 rfl) rfl rfl rfl rfl rfl rfl ?_
          refine Ew_of (pc' := 95) (fun _ => x_iload_n rfl l54_1) ?_
          refine w_lI H (o := 11) (n := 4) rfl (H.perm 11 rfl) rfl rfl (H.fix 11 rfl rfl) (show 0 ≤ a1 ∧ a1 < ((4 : Nat) : Int) by omega) (by decide) (fun v19 ev19 qv19 => ?_)
          have qv19 : (0 : Int) ≤ v19 ∧ v19 ≤ 65536 := qv19
          have ev19 : (A 11) (a1) = v19 := (congrFun ((funext (hA9 11 rfl)).trans ((funext (hA_54 11 rfl)).trans (funext (hA_11 11 rfl)))) (a1)).symm.trans ev19
          have hc104 : ∀ (tc104_0 : Int), ∀ (ls : rO) (σ : rS) (F_c104 : hF) (A_c104 : hA) , rlook ls 0 = some (.ref (D 0)) → rlook ls 1 = some (I (a1)) → rlook ls 3 = some (I (u1_3)) → HS σ0 σ D N F_c104 A_c104 → SF [] F6 F_c104 → SA [] A7 A_c104 → (inr (tc104_0)) → (((z10) ≠ (v19) ∧ (tc104_0) = (0)) ∨ ((z10) = (v19) ∧ (tc104_0) = (1))) → Ew 82 (d + 12) 104 ls [I (tc104_0)] σ c s Q := by
           as_aux_lemma =>
            intro tc104_0 ls σ F_c104 A_c104  lc104_0 lc104_1 lc104_3 H hS_c104 hA_c104   jc104_0 jc104_1
            refine Ew_of (pc' := 106) (fun _ => x_istore rfl) ?_
            refine Ew_of (pc' := 107) (fun _ => x_iconst rfl) ?_
            refine Ew_of (pc' := 109) (fun _ => x_istore rfl) ?_
            suffices hl109 : ∀ (m : Nat), ∀ (ls : rO) (σ : rS) (F_109 : hF) (A_109 : hA) (x109_4 : Int) (x109_5 : Int), rlook ls 0 = some (.ref (D 0)) → rlook ls 1 = some (I (a1)) → rlook ls 3 = some (I (u1_3)) → rlook ls 4 = some (I (x109_4)) → rlook ls 5 = some (I (x109_5)) → HS σ0 σ D N F_109 A_109 → SF [] F_c104 F_109 → SA [] A_c104 A_109 → (inr (x109_4)) → (inr (x109_5)) → ((0) ≤ (x109_5)) → ((x109_5) ≤ (0) ∨ (x109_5) ≤ ((A 11) ((a1)))) → ((x109_4) = 0 ∨ (x109_4) = 1) → (((A 11) ((a1))) - (x109_5)).toNat = m → Ew 82 (d + 12) 109 ls [] σ c s Q from
              hl109 _ _ σ _ _ (tc104_0) (0) (rk_o (rk_o (lc104_0) rfl rfl) rfl rfl) (rk_o (rk_o (lc104_1) rfl rfl) rfl rfl) (rk_o (rk_o (lc104_3) rfl rfl) rfl rfl) (rk_o (rk_s) rfl rfl) (rk_s) H (SF_refl) (SA_refl)   (show inr (tc104_0) by omega) (show inr (0) by omega) (show (0) ≤ (0) by omega) (show (0) ≤ (0) ∨ (0) ≤ ((A 11) ((a1))) by omega) (show (tc104_0) = 0 ∨ (tc104_0) = 1 by omega) rfl
            as_aux_lemma =>
            intro m
            induction m using Nat.strongRecOn with
            | _ m ih109 =>
              intro ls σ F_109 A_109 x109_4 x109_5 l109_0 l109_1 l109_3 l109_4 l109_5 H hS_109 hA_109   j109_0 j109_1 j109_2 j109_3 j109_4 hm109
              refine Ew_of (pc' := 111) (fun _ => x_iload rfl l109_5) ?_
              refine Ew_of (pc' := 112) (fun _ => x_aload_n rfl l109_0) ?_
              refine w_gT H (o := 0) (t := 11) rfl (H.perm 0 rfl) rfl rfl rfl rfl rfl rfl ?_
              refine Ew_of (pc' := 116) (fun _ => x_iload_n rfl l109_1) ?_
              refine w_lI H (o := 11) (n := 4) rfl (H.perm 11 rfl) rfl rfl (H.fix 11 rfl rfl) (show 0 ≤ a1 ∧ a1 < ((4 : Nat) : Int) by omega) (by decide) (fun v20 ev20 qv20 => ?_)
              have qv20 : (0 : Int) ≤ v20 ∧ v20 ≤ 65536 := qv20
              have ev20 : (A 11) (a1) = v20 := (congrFun ((funext (hA_109 11 rfl)).trans ((funext (hA_c104 11 rfl)).trans ((funext (hA9 11 rfl)).trans ((funext (hA_54 11 rfl)).trans (funext (hA_11 11 rfl)))))) (a1)).symm.trans ev20
              have hc163 : ∀ (ls : rO) (σ : rS) (F_c163 : hF) (A_c163 : hA) , rlook ls 0 = some (.ref (D 0)) → rlook ls 3 = some (I (u1_3)) → rlook ls 4 = some (I (x109_4)) → HS σ0 σ D N F_c163 A_c163 → SF [] F_109 F_c163 → SA [] A_109 A_c163 → (((x109_5) ≥ (v20)) ∨ ((x109_5) < (v20) ∧ (x109_4) = (0))) → Ew 82 (d + 12) 163 ls [] σ c s Q := by
               as_aux_lemma =>
                intro  ls σ F_c163 A_c163  lc163_0 lc163_3 lc163_4 H hS_c163 hA_c163   jc163_0
                refine Ew_of (pc' := 164) (fun _ => x_iconst rfl) ?_
                refine Ew_of (pc' := 166) (fun _ => x_istore rfl) ?_
                suffices hl166 : ∀ (m : Nat), ∀ (ls : rO) (σ : rS) (F_166 : hF) (A_166 : hA) (x166_5 : Int), rlook ls 0 = some (.ref (D 0)) → rlook ls 3 = some (I (u1_3)) → rlook ls 4 = some (I (x109_4)) → rlook ls 5 = some (I (x166_5)) → HS σ0 σ D N F_166 A_166 → SF [] F_c163 F_166 → SA [15] A_c163 A_166 → (inr (x166_5)) → ((0) ≤ (x166_5)) → ((x166_5) ≤ (0) ∨ (x166_5) ≤ ((u1_3))) → (((u1_3)) - (x166_5)).toNat = m → Ew 82 (d + 12) 166 ls [] σ c s Q from
                  hl166 _ _ σ _ _ (0) (rk_o (lc163_0) rfl rfl) (rk_o (lc163_3) rfl rfl) (rk_o (lc163_4) rfl rfl) (rk_s) H (SF_refl) (SA_refl)   (show inr (0) by omega) (show (0) ≤ (0) by omega) (show (0) ≤ (0) ∨ (0) ≤ ((u1_3)) by omega) rfl
                as_aux_lemma =>
                intro m
                induction m using Nat.strongRecOn with
                | _ m ih166 =>
                  intro ls σ F_166 A_166 x166_5 l166_0 l166_3 l166_4 l166_5 H hS_166 hA_166   j166_0 j166_1 j166_2 hm166
                  refine Ew_of (pc' := 168) (fun _ => x_iload rfl l166_5) ?_
                  refine Ew_of (pc' := 169) (fun _ => x_iload_n rfl l166_3) ?_
                  refine w_icmpge (t := 198) rfl rfl (show inr (x166_5) by omega) (show inr (u1_3) by omega) (fun b21 => ?_) (fun b21 => ?_)
                  · refine Ew_of (pc' := 199) (fun _ => x_aload_n rfl l166_0) ?_
                    refine w_gT H (o := 0) (t := 1) rfl (H.perm 0 rfl) rfl rfl rfl rfl rfl rfl ?_
                    refine Ew_of (pc' := 203) (fun _ => x_iload_n rfl l166_3) ?_
                    refine w_pI H (o := 1) rfl rfl (H.perm 1 rfl) rfl rfl rfl (fun _ => rfl) rfl (show (0 : Int) ≤ u1_3 ∧ u1_3 ≤ 65536 by omega) (fun σ H => ?_)
                    refine Ew_of (pc' := 207) (fun _ => x_aload_n rfl l166_0) ?_
                    refine w_gT H (o := 0) (t := 5) rfl (H.perm 0 rfl) rfl rfl rfl rfl rfl rfl ?_
                    refine Ew_of (pc' := 211) (fun _ => x_aload_n rfl l166_0) ?_
                    refine w_gT H (o := 0) (t := 13) rfl (H.perm 0 rfl) rfl rfl rfl rfl rfl rfl ?_
                    refine Ew_of (pc' := 215) (fun _ => x_iconst rfl) ?_
                    refine w_lI H (o := 13) (n := 5) rfl (H.perm 13 rfl) rfl rfl (H.fix 13 rfl rfl) (show 0 ≤ 0 ∧ 0 < ((5 : Nat) : Int) by omega) (by decide) (fun v22 ev22 qv22 => ?_)
                    have qv22 : (-2147483648 : Int) ≤ v22 ∧ v22 ≤ 2147483647 := qv22
                    have ev22 : (w54_13) (0) = v22 := (congrFun ((funext (hA_166 13 rfl)).trans ((funext (hA_c163 13 rfl)).trans ((funext (hA_109 13 rfl)).trans ((funext (hA_c104 13 rfl)).trans ((funext (hA9 13 rfl)).trans (ew54_13)))))) (0)).symm.trans ev22
                    refine w_pI H (o := 5) rfl rfl (H.perm 5 rfl) rfl rfl rfl (fun _ => rfl) rfl (show (-2147483648 : Int) ≤ v22 ∧ v22 ≤ 2147483647 by omega) (fun σ H => ?_)
                    refine Ew_of (pc' := 220) (fun _ => x_aload_n rfl l166_0) ?_
                    refine w_gT H (o := 0) (t := 5) rfl (H.perm 0 rfl) rfl rfl rfl rfl rfl rfl ?_
                    refine Ew_of (pc' := 224) (fun _ => x_aload_n rfl l166_0) ?_
                    refine w_gT H (o := 0) (t := 13) rfl (H.perm 0 rfl) rfl rfl rfl rfl rfl rfl ?_
                    refine Ew_of (pc' := 228) (fun _ => x_iconst rfl) ?_
                    refine w_lI H (o := 13) (n := 5) rfl (H.perm 13 rfl) rfl rfl (H.fix 13 rfl rfl) (show 0 ≤ 1 ∧ 1 < ((5 : Nat) : Int) by omega) (by decide) (fun v23 ev23 qv23 => ?_)
                    have qv23 : (-2147483648 : Int) ≤ v23 ∧ v23 ≤ 2147483647 := qv23
                    have ev23 : (w54_13) (1) = v23 := (congrFun ((funext (hA_166 13 rfl)).trans ((funext (hA_c163 13 rfl)).trans ((funext (hA_109 13 rfl)).trans ((funext (hA_c104 13 rfl)).trans ((funext (hA9 13 rfl)).trans (ew54_13)))))) (1)).symm.trans ev23
                    refine w_pI H (o := 5) rfl rfl (H.perm 5 rfl) rfl rfl rfl (fun _ => rfl) rfl (show (-2147483648 : Int) ≤ v23 ∧ v23 ≤ 2147483647 by omega) (fun σ H => ?_)
                    refine Ew_of (pc' := 233) (fun _ => x_aload_n rfl l166_0) ?_
                    refine w_gT H (o := 0) (t := 5) rfl (H.perm 0 rfl) rfl rfl rfl rfl rfl rfl ?_
                    refine Ew_of (pc' := 237) (fun _ => x_aload_n rfl l166_0) ?_
                    refine w_gT H (o := 0) (t := 13) rfl (H.perm 0 rfl) rfl rfl rfl rfl rfl rfl ?_
                    refine Ew_of (pc' := 241) (fun _ => x_iconst rfl) ?_
                    refine w_lI H (o := 13) (n := 5) rfl (H.perm 13 rfl) rfl rfl (H.fix 13 rfl rfl) (show 0 ≤ 2 ∧ 2 < ((5 : Nat) : Int) by omega) (by decide) (fun v24 ev24 qv24 => ?_)
                    have qv24 : (-2147483648 : Int) ≤ v24 ∧ v24 ≤ 2147483647 := qv24
                    have ev24 : (w54_13) (2) = v24 := (congrFun ((funext (hA_166 13 rfl)).trans ((funext (hA_c163 13 rfl)).trans ((funext (hA_109 13 rfl)).trans ((funext (hA_c104 13 rfl)).trans ((funext (hA9 13 rfl)).trans (ew54_13)))))) (2)).symm.trans ev24
                    refine w_pI H (o := 5) rfl rfl (H.perm 5 rfl) rfl rfl rfl (fun _ => rfl) rfl (show (-2147483648 : Int) ≤ v24 ∧ v24 ≤ 2147483647 by omega) (fun σ H => ?_)
                    refine Ew_of (pc' := 246) (fun _ => x_aload_n rfl l166_0) ?_
                    refine w_gT H (o := 0) (t := 5) rfl (H.perm 0 rfl) rfl rfl rfl rfl rfl rfl ?_
                    refine Ew_of (pc' := 250) (fun _ => x_aload_n rfl l166_0) ?_
                    refine w_gT H (o := 0) (t := 13) rfl (H.perm 0 rfl) rfl rfl rfl rfl rfl rfl ?_
                    refine Ew_of (pc' := 254) (fun _ => x_iconst rfl) ?_
                    refine w_lI H (o := 13) (n := 5) rfl (H.perm 13 rfl) rfl rfl (H.fix 13 rfl rfl) (show 0 ≤ 3 ∧ 3 < ((5 : Nat) : Int) by omega) (by decide) (fun v25 ev25 qv25 => ?_)
                    have qv25 : (-2147483648 : Int) ≤ v25 ∧ v25 ≤ 2147483647 := qv25
                    have ev25 : (w54_13) (3) = v25 := (congrFun ((funext (hA_166 13 rfl)).trans ((funext (hA_c163 13 rfl)).trans ((funext (hA_109 13 rfl)).trans ((funext (hA_c104 13 rfl)).trans ((funext (hA9 13 rfl)).trans (ew54_13)))))) (3)).symm.trans ev25
                    refine w_pI H (o := 5) rfl rfl (H.perm 5 rfl) rfl rfl rfl (fun _ => rfl) rfl (show (0 : Int) ≤ v25 ∧ v25 ≤ 65536 by omega) (fun σ H => ?_)
                    refine Ew_of (pc' := 259) (fun _ => x_aload_n rfl l166_0) ?_
                    refine w_gT H (o := 0) (t := 5) rfl (H.perm 0 rfl) rfl rfl rfl rfl rfl rfl ?_
                    refine Ew_of (pc' := 263) (fun _ => x_aload_n rfl l166_0) ?_
                    refine w_gT H (o := 0) (t := 13) rfl (H.perm 0 rfl) rfl rfl rfl rfl rfl rfl ?_
                    refine Ew_of (pc' := 267) (fun _ => x_iconst rfl) ?_
                    refine w_lI H (o := 13) (n := 5) rfl (H.perm 13 rfl) rfl rfl (H.fix 13 rfl rfl) (show 0 ≤ 4 ∧ 4 < ((5 : Nat) : Int) by omega) (by decide) (fun v26 ev26 qv26 => ?_)
                    have qv26 : (-2147483648 : Int) ≤ v26 ∧ v26 ≤ 2147483647 := qv26
                    have ev26 : (w54_13) (4) = v26 := (congrFun ((funext (hA_166 13 rfl)).trans ((funext (hA_c163 13 rfl)).trans ((funext (hA_109 13 rfl)).trans ((funext (hA_c104 13 rfl)).trans ((funext (hA9 13 rfl)).trans (ew54_13)))))) (4)).symm.trans ev26
                    refine w_pI H (o := 5) rfl rfl (H.perm 5 rfl) rfl rfl rfl (fun _ => rfl) rfl (show (-2147483648 : Int) ≤ v26 ∧ v26 ≤ 2147483647 by omega) (fun σ H => ?_)
                    refine Ew_of (pc' := 273) (fun _ => x_iload rfl l166_4) ?_
                    exact w_ireturn rfl (k (x109_4) σ _ _ H (SF_upd (SF_upd (SF_upd (SF_upd (SF_upd (SF_upd (SF_trans (SF_trans (SF_trans (SF_trans (SF_trans (SF_trans (SF_upd (SF_trans (SF_refl) hS_11 (any_sub rfl)) rfl) hS_54 (any_sub rfl)) hS8 (any_sub rfl)) hS_c104 (any_sub rfl)) hS_109 (any_sub rfl)) hS_c163 (any_sub rfl)) hS_166 (any_sub rfl)) rfl) rfl) rfl) rfl) rfl) rfl) (SA_trans (SA_trans (SA_trans (SA_trans (SA_trans (SA_trans (SA_trans (SA_refl) hA_11 (any_subA rfl)) hA_54 (any_subA rfl)) hA9 (any_subA rfl)) hA_c104 (any_subA rfl)) hA_109 (any_subA rfl)) hA_c163 (any_subA rfl)) hA_166 (any_subA rfl)) (u1_3) (rfl) (wq11) ((funext (hA_166 34 rfl)).trans ((funext (hA_c163 34 rfl)).trans ((funext (hA_109 34 rfl)).trans ((funext (hA_c104 34 rfl)).trans (ewq12))))) (wq13) ((funext (hA_166 35 rfl)).trans ((funext (hA_c163 35 rfl)).trans ((funext (hA_109 35 rfl)).trans ((funext (hA_c104 35 rfl)).trans (ewq14))))) (wq15) ((funext (hA_166 36 rfl)).trans ((funext (hA_c163 36 rfl)).trans ((funext (hA_109 36 rfl)).trans ((funext (hA_c104 36 rfl)).trans (ewq16))))) (wq17) ((funext (hA_166 37 rfl)).trans ((funext (hA_c163 37 rfl)).trans ((funext (hA_109 37 rfl)).trans ((funext (hA_c104 37 rfl)).trans (ewq18))))) (show (x109_4) = 0 ∨ (x109_4) = 1 by omega) (show RT ((wq13)) ((wq15)) ((wq17)) ((wq11)) by assumption) (show (u1_3) = (u1_3) by omega))
                  · refine Ew_of (pc' := 173) (fun _ => x_aload_n rfl l166_0) ?_
                    refine w_gT H (o := 0) (t := 1) rfl (H.perm 0 rfl) rfl rfl rfl rfl rfl rfl ?_
                    refine w_gT H (o := 1) (t := 15) rfl (H.perm 1 rfl) rfl rfl rfl rfl rfl rfl ?_
                    refine Ew_of (pc' := 181) (fun _ => x_iload rfl l166_5) ?_
                    refine Ew_of (pc' := 182) (fun _ => x_aload_n rfl l166_0) ?_
                    refine w_gT H (o := 0) (t := 1) rfl (H.perm 0 rfl) rfl rfl rfl rfl rfl rfl ?_
                    refine w_gT H (o := 1) (t := 14) rfl (H.perm 1 rfl) rfl rfl rfl rfl rfl rfl ?_
                    refine Ew_of (pc' := 190) (fun _ => x_iload rfl l166_5) ?_
                    refine w_lI H (o := 14) (n := 65536) rfl (H.perm 14 rfl) rfl rfl (H.fix 14 rfl rfl) (show 0 ≤ x166_5 ∧ x166_5 < ((65536 : Nat) : Int) by omega) (by decide) (fun v27 ev27 qv27 => ?_)
                    have qv27 : (0 : Int) ≤ v27 ∧ v27 ≤ 255 := qv27
                    have ev27 : (A_11 14) (x166_5) = v27 := (congrFun ((funext (hA_166 14 rfl)).trans ((funext (hA_c163 14 rfl)).trans ((funext (hA_109 14 rfl)).trans ((funext (hA_c104 14 rfl)).trans ((funext (hA9 14 rfl)).trans (funext (hA_54 14 rfl))))))) (x166_5)).symm.trans ev27
                    refine w_sI H (o := 15) (n := 65536) rfl (H.perm 15 rfl) rfl rfl (H.fix 15 rfl rfl) (show 0 ≤ x166_5 ∧ x166_5 < ((65536 : Nat) : Int) by omega) (by decide) (show (0 : Int) ≤ v27 ∧ v27 ≤ 255 by omega) (fun σ H => ?_)
                    refine Ew_of (pc' := 195) (fun _ => x_iinc (len := 3) rfl (l166_5)) ?_
                    refine Ew_of (pc' := 166) (fun _ => x_goto rfl rfl) ?_
                    exact ih166 _ (by omega) _ σ _ _ ((x166_5 + 1)) (rk_o (l166_0) rfl rfl) (rk_o (l166_3) rfl rfl) (rk_o (l166_4) rfl rfl) (rk_s) H (hS_166) (SA_upd (hA_166) rfl)   (show inr ((x166_5 + 1)) by omega) (show (0) ≤ ((x166_5 + 1)) by omega) (show ((x166_5 + 1)) ≤ (0) ∨ ((x166_5 + 1)) ≤ ((u1_3)) by omega) rfl
              refine w_icmpge (t := 163) rfl rfl (show inr (x109_5) by omega) (show inr (v20) by omega) (fun b28 => ?_) (fun b28 => ?_)
              · exact hc163  _ σ _ _  (l109_0) (l109_3) (l109_4) H (SF_refl) (SA_refl)   (show ((x109_5) ≥ (v20)) ∨ ((x109_5) < (v20) ∧ (x109_4) = (0)) by omega)
              · refine Ew_of (pc' := 122) (fun _ => x_iload rfl l109_4) ?_
                refine w_ifeq (t := 163) rfl rfl (show inr (x109_4) by omega) (fun b29 => ?_) (fun b29 => ?_)
                · exact hc163  _ σ _ _  (l109_0) (l109_3) (l109_4) H (SF_refl) (SA_refl)   (show ((x109_5) ≥ (v20)) ∨ ((x109_5) < (v20) ∧ (x109_4) = (0)) by omega)
                · refine Ew_of (pc' := 126) (fun _ => x_aload_n rfl l109_0) ?_
                  refine w_gT H (o := 0) (t := 1) rfl (H.perm 0 rfl) rfl rfl rfl rfl rfl rfl ?_
                  refine w_gT H (o := 1) (t := 15) rfl (H.perm 1 rfl) rfl rfl rfl rfl rfl rfl ?_
                  refine Ew_of (pc' := 134) (fun _ => x_iload rfl l109_5) ?_
                  refine w_lI H (o := 15) (n := 65536) rfl (H.perm 15 rfl) rfl rfl (H.fix 15 rfl rfl) (show 0 ≤ x109_5 ∧ x109_5 < ((65536 : Nat) : Int) by omega) (by decide) (fun v30 ev30 qv30 => ?_)
                  have qv30 : (0 : Int) ≤ v30 ∧ v30 ≤ 255 := qv30
                  have ev30 : (A7 15) (x109_5) = v30 := (congrFun ((funext (hA_109 15 rfl)).trans (funext (hA_c104 15 rfl))) (x109_5)).symm.trans ev30
                  refine Ew_of (pc' := 136) (fun _ => x_aload_n rfl l109_0) ?_
                  refine w_gT H (o := 0) (t := 10) rfl (H.perm 0 rfl) rfl rfl rfl rfl rfl rfl ?_
                  refine Ew_of (pc' := 141) (fun _ => x_ldc (z := 65536) rfl (by decide)) ?_
                  refine Ew_of (pc' := 142) (fun _ => x_iload_n rfl l109_1) ?_
                  refine w_imul rfl ?_
                  refine Ew_of (pc' := 145) (fun _ => x_iload rfl l109_5) ?_
                  refine w_iadd rfl ?_
                  refine w_lI H (o := 10) (n := 262144) rfl (H.perm 10 rfl) rfl rfl (H.fix 10 rfl rfl) (show 0 ≤ ((65536 * a1) + x109_5) ∧ ((65536 * a1) + x109_5) < ((262144 : Nat) : Int) by omega) (by decide) (fun v31 ev31 qv31 => ?_)
                  have qv31 : (0 : Int) ≤ v31 ∧ v31 ≤ 255 := qv31
                  have ev31 : (A 10) (((65536 * a1) + x109_5)) = v31 := (congrFun ((funext (hA_109 10 rfl)).trans ((funext (hA_c104 10 rfl)).trans ((funext (hA9 10 rfl)).trans ((funext (hA_54 10 rfl)).trans (funext (hA_11 10 rfl)))))) (((65536 * a1) + x109_5))).symm.trans ev31
                  refine w_icmpne (t := 154) rfl rfl (show inr (v30) by omega) (show inr (v31) by omega) (fun b32 => ?_) (fun b32 => ?_)
                  · refine Ew_of (pc' := 155) (fun _ => x_iconst rfl) ?_
                    refine Ew_of (pc' := 157) (fun _ => x_istore rfl) ?_
                    refine Ew_of (pc' := 160) (fun _ => x_iinc (len := 3) rfl (rk_o (l109_5) rfl rfl)) ?_
                    refine Ew_of (pc' := 109) (fun _ => x_goto rfl rfl) ?_
                    exact ih109 _ (by omega) _ σ _ _ (0) ((x109_5 + 1)) (rk_o (rk_o (l109_0) rfl rfl) rfl rfl) (rk_o (rk_o (l109_1) rfl rfl) rfl rfl) (rk_o (rk_o (l109_3) rfl rfl) rfl rfl) (rk_o (rk_s) rfl rfl) (rk_s) H (hS_109) (hA_109)   (show inr (0) by omega) (show inr ((x109_5 + 1)) by omega) (show (0) ≤ ((x109_5 + 1)) by omega) (show ((x109_5 + 1)) ≤ (0) ∨ ((x109_5 + 1)) ≤ ((A 11) ((a1))) by omega) (show (0) = 0 ∨ (0) = 1 by omega) rfl
                  · refine Ew_of (pc' := 151) (fun _ => x_iconst rfl) ?_
                    refine Ew_of (pc' := 155) (fun _ => x_goto rfl rfl) ?_
                    refine Ew_of (pc' := 157) (fun _ => x_istore rfl) ?_
                    refine Ew_of (pc' := 160) (fun _ => x_iinc (len := 3) rfl (rk_o (l109_5) rfl rfl)) ?_
                    refine Ew_of (pc' := 109) (fun _ => x_goto rfl rfl) ?_
                    exact ih109 _ (by omega) _ σ _ _ (1) ((x109_5 + 1)) (rk_o (rk_o (l109_0) rfl rfl) rfl rfl) (rk_o (rk_o (l109_1) rfl rfl) rfl rfl) (rk_o (rk_o (l109_3) rfl rfl) rfl rfl) (rk_o (rk_s) rfl rfl) (rk_s) H (hS_109) (hA_109)   (show inr (1) by omega) (show inr ((x109_5 + 1)) by omega) (show (0) ≤ ((x109_5 + 1)) by omega) (show ((x109_5 + 1)) ≤ (0) ∨ ((x109_5 + 1)) ≤ ((A 11) ((a1))) by omega) (show (1) = 0 ∨ (1) = 1 by omega) rfl
          refine w_icmpne (t := 103) rfl rfl (show inr (z10) by omega) (show inr (v19) by omega) (fun b33 => ?_) (fun b33 => ?_)
          · refine Ew_of (pc' := 104) (fun _ => x_iconst rfl) ?_
            exact hc104 (0) _ σ _ _  (l54_0) (l54_1) (l54_3) H (SF_refl) (SA_refl)   (show inr (0) by omega) (show ((z10) ≠ (v19) ∧ (0) = (0)) ∨ ((z10) = (v19) ∧ (0) = (1)) by omega)
          · refine Ew_of (pc' := 100) (fun _ => x_iconst rfl) ?_
            refine Ew_of (pc' := 104) (fun _ => x_goto rfl rfl) ?_
            exact hc104 (1) _ σ _ _  (l54_0) (l54_1) (l54_3) H (SF_refl) (SA_refl)   (show inr (1) by omega) (show ((z10) ≠ (v19) ∧ (1) = (0)) ∨ ((z10) = (v19) ∧ (1) = (1)) by omega)
        · refine Ew_of (pc' := 61) (fun _ => x_aload_n rfl l54_0) ?_
          refine w_gT H (o := 0) (t := 13) rfl (H.perm 0 rfl) rfl rfl rfl rfl rfl rfl ?_
          refine Ew_of (pc' := 66) (fun _ => x_iload rfl l54_4) ?_
          refine Ew_of (pc' := 67) (fun _ => x_aload_n rfl l54_0) ?_
          refine Ew_of (pc' := 69) (fun _ => x_iload rfl l54_4) ?_
          refine w_inv H (o := 0) rfl rfl rfl (H.perm 0 rfl) rfl rfl (by rfl) (M83 H (show inr (x54_4) by omega) (fun z38 σ F34 A35 H hS36 hA37 pz38_0 pz38_1 => ⟨rfl, ?_⟩))
          refine w_sI H (o := 13) (n := 5) rfl (H.perm 13 rfl) rfl rfl (H.fix 13 rfl rfl) (show 0 ≤ x54_4 ∧ x54_4 < ((5 : Nat) : Int) by omega) (by decide) (show (-2147483648 : Int) ≤ z38 ∧ z38 ≤ 2147483647 by omega) (fun σ H => ?_)
          refine Ew_of (pc' := 76) (fun _ => x_iinc (len := 3) rfl (l54_4)) ?_
          refine Ew_of (pc' := 54) (fun _ => x_goto rfl rfl) ?_
          have hk3 : 3 < ((x54_4 + 1)) → 0 ≤ ((upd1 (w54_13) (x54_4) (z38))) 3 ∧ ((upd1 (w54_13) (x54_4) (z38))) 3 ≤ 65536 := by simp only [upd1]; omega
          exact ih54 _ (by omega) _ σ _ _ ((x54_4 + 1)) (rk_o (l54_0) rfl rfl) (rk_o (l54_1) rfl rfl) (rk_o (l54_2) rfl rfl) (rk_o (l54_3) rfl rfl) (rk_s) H (SF_trans (hS_54) hS36 (any_sub rfl)) (SA_upd (SA_trans (hA_54) hA37 (any_subA rfl)) rfl)  (upd1 (w54_13) (x54_4) (z38)) (congrArg (fun q => upd1 q (x54_4) (z38)) ((funext (hA37 13 rfl)).trans (ew54_13))) (show inr ((x54_4 + 1)) by omega) (show (0) ≤ ((x54_4 + 1)) by omega) (show ((x54_4 + 1)) ≤ (0) ∨ ((x54_4 + 1)) ≤ (5) by omega) (show 3 < ((x54_4 + 1)) → 0 ≤ ((upd1 (w54_13) (x54_4) (z38))) 3 ∧ ((upd1 (w54_13) (x54_4) (z38))) 3 ≤ 65536 by omega) rfl
    · refine Ew_of (pc' := 18) (fun _ => x_aload_n rfl l11_0) ?_
      refine w_gT H (o := 0) (t := 1) rfl (H.perm 0 rfl) rfl rfl rfl rfl rfl rfl ?_
      refine w_gT H (o := 1) (t := 14) rfl (H.perm 1 rfl) rfl rfl rfl rfl rfl rfl ?_
      refine Ew_of (pc' := 26) (fun _ => x_iload rfl l11_4) ?_
      refine Ew_of (pc' := 27) (fun _ => x_aload_n rfl l11_0) ?_
      refine w_gT H (o := 0) (t := 1) rfl (H.perm 0 rfl) rfl rfl rfl rfl rfl rfl ?_
      refine w_gT H (o := 1) (t := 15) rfl (H.perm 1 rfl) rfl rfl rfl rfl rfl rfl ?_
      refine Ew_of (pc' := 35) (fun _ => x_iload rfl l11_4) ?_
      refine w_lI H (o := 15) (n := 65536) rfl (H.perm 15 rfl) rfl rfl (H.fix 15 rfl rfl) (show 0 ≤ x11_4 ∧ x11_4 < ((65536 : Nat) : Int) by omega) (by decide) (fun v39 ev39 qv39 => ?_)
      have qv39 : (0 : Int) ≤ v39 ∧ v39 ≤ 255 := qv39
      have ev39 : (A 15) (x11_4) = v39 := (congrFun (funext (hA_11 15 rfl)) (x11_4)).symm.trans ev39
      refine w_sI H (o := 14) (n := 65536) rfl (H.perm 14 rfl) rfl rfl (H.fix 14 rfl rfl) (show 0 ≤ x11_4 ∧ x11_4 < ((65536 : Nat) : Int) by omega) (by decide) (show (0 : Int) ≤ v39 ∧ v39 ≤ 255 by omega) (fun σ H => ?_)
      refine Ew_of (pc' := 40) (fun _ => x_iinc (len := 3) rfl (l11_4)) ?_
      refine Ew_of (pc' := 11) (fun _ => x_goto rfl rfl) ?_
      exact ih11 _ (by omega) _ σ _ _ ((x11_4 + 1)) (rk_o (l11_0) rfl rfl) (rk_o (l11_1) rfl rfl) (rk_o (l11_2) rfl rfl) (rk_o (l11_3) rfl rfl) (rk_s) H (hS_11) (SA_upd (hA_11) rfl)   (show inr ((x11_4 + 1)) by omega) (show (0) ≤ ((x11_4 + 1)) by omega) (show ((x11_4 + 1)) ≤ (0) ∨ ((x11_4 + 1)) ≤ ((u1_3)) by omega) rfl
