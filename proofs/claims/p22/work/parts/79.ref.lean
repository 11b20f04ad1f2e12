/-- Writer.bestOrder -/
theorem M413 {σ0 σ : rS} {D N : Nat → Nat} {F : hF} {A : hA} {d c s : Nat} {Q : wQ} (H : HS σ0 σ D N F A) {a1 : Int} (u6_28 : Int) (eu6_28 : F 6 28 = u6_28) (w66 : Int → Int) (ew66 : A 66 = w66) (lst : Int) (h0 : inr (a1)) (h1 : 0 ≤ (a1) ∧ (a1) ≤ 2) (h2 : 1 ≤ (u6_28)) (h3 : ∀ j, 0 ≤ j → j < (u6_28) → (sh ((w66)) (8001 * (a1))) j ≤ lst) (h4 : 0 ≤ lst ∧ lst ≤ 63) (k : ∀ (z : Int) σ Fₚ Aₚ, HS σ0 σ D N Fₚ Aₚ → SF [(6, 35)] F Fₚ → SA [69, 71, 72, 73, 74, 75, 76, 77, 78] A Aₚ → ∀ v78 : Int → Int, Aₚ 78 = v78 → (inr (z)) → (5 ≤ (z) ∧ (z) ≤ 9) → (su (fun i => ((v78)) i) 64 = (u6_28)) → (su (fun i => pos1 (((v78)) i)) 64 ≤ p2 ((z))) → (∀ i, (0 : Int) ≤ i → i < 64 → 0 ≤ ((v78)) i) → (∀ j, 0 ≤ j → j < (u6_28) → 1 ≤ ((v78)) (((w66)) (8001 * (a1) + j))) → (∀ i, (0 : Int) ≤ i → i < 64 → ((v78)) i = su (eqs (sh ((w66)) (8001 * (a1))) i) ((u6_28) : Int).toNat) → Q (some (I z)) σ c s) : Ew 413 (d + 4) 0 (rargs 0 [.ref (D 6), I a1]) [] σ c s Q := by
  have r1 : (0 : Int) ≤ u6_28 ∧ u6_28 ≤ 8001 := rngE (show (0 : Int) ≤ F 6 28 ∧ F 6 28 ≤ 8001 from H.frng 6 28) (show F 6 28 = u6_28 from (eu6_28))
  refine Ew_of (pcₚ := 1) (fun _ => x_aload_n rfl rfl) ?_
  refine Ew_of (pcₚ := 2) (fun _ => x_iload_n rfl rfl) ?_
  refine w_inv H (o := 6) rfl rfl rfl (H.perm 6 rfl) rfl rfl (by rfl) (M414b H (u6_28) ((eu6_28)) (w66) (ew66) (show inr (a1) from h0) (show 0 ≤ (a1) ∧ (a1) ≤ 2 from h1) (fun z6 σ F2 A3 H hS4 hA5 wq7 ewq8 pz6_0 pz6_1 pz6_2 pz6_3 pz6_4 pz6_5 pz6_6 => ⟨rfl, ?_⟩))
  have hle : ∀ j, 0 ≤ j → j < (u6_28) → (sh ((w66)) (8001 * (a1))) j ≤ lst := h3
  have hce : ∀ i, (0 : Int) ≤ i → i < 64 → ((wq7)) i = su (eqs (sh ((w66)) (8001 * (a1))) i) ((u6_28) : Int).toNat := by assumption
  have : ∀ i, lst < i → i < 64 → 0 ≤ i → ((wq7)) i = 0 := fun i a b c => by rw [hce i c b]; exact su_eqs0 (fun k x y => by have := hle k x (by omega); omega)
  have h64 : su (fun i => pos1 (((wq7)) i)) 64 ≤ 64 := su_pos64
  refine Ew_of (pcₚ := 6) (fun _ => x_istore_n rfl) ?_
  refine Ew_of (pcₚ := 7) (fun _ => x_iconst rfl) ?_
  refine Ew_of (pcₚ := 8) (fun _ => x_istore_n rfl) ?_
  refine Ew_of (pcₚ := 9) (fun _ => x_iconst rfl) ?_
  refine Ew_of (pcₚ := 11) (fun _ => x_istore rfl) ?_
  refine Ew_of (pcₚ := 12) (fun _ => x_iconst rfl) ?_
  refine Ew_of (pcₚ := 14) (fun _ => x_istore rfl) ?_
  suffices hl14 : ∀ (m : Nat), ∀ (ls : rO) (σ : rS) (F_14 : hF) (A_14 : hA) (x14_3 : Int) (x14_4 : Int) (x14_5 : Int), rlook ls 0 = some (.ref (D 6)) → rlook ls 1 = some (I (a1)) → rlook ls 2 = some (I (z6)) → rlook ls 3 = some (I (x14_3)) → rlook ls 4 = some (I (x14_4)) → rlook ls 5 = some (I (x14_5)) → HS σ0 σ D N F_14 A_14 → SF [(6, 35)] F2 F_14 → SA [69, 71, 72, 73, 74, 75, 76, 77] A3 A_14 → (inr (x14_3)) → (inr (x14_4)) → (inr (x14_5)) → (5 ≤ (x14_5) ∧ (x14_5) ≤ 10) → (0 ≤ (x14_4) ∧ (x14_4) ≤ 80000) → ((x14_3) = -1 ∧ (x14_5) ≤ 6 ∨ 5 ≤ (x14_3) ∧ (x14_3) ≤ 9 ∧ (x14_3) < (x14_5) ∧ su (fun i => pos1 (((wq7)) i)) 64 ≤ p2 ((x14_3))) → (12 - (x14_5)).toNat = m → Ew 413 (d + 4) 14 ls [] σ c s Q from
    hl14 _ _ σ _ _ ((-1)) (0) (5) (rk_o (rk_o (rk_o (rk_o (rfl) rfl rfl) rfl rfl) rfl rfl) rfl rfl) (rk_o (rk_o (rk_o (rk_o (rfl) rfl rfl) rfl rfl) rfl rfl) rfl rfl) (rk_o (rk_o (rk_o (rk_s) rfl rfl) rfl rfl) rfl rfl) (rk_o (rk_o (rk_s) rfl rfl) rfl rfl) (rk_o (rk_s) rfl rfl) (rk_s) H (SF_refl) (SA_refl)   (show inr ((-1)) from q_16) (show inr (0) from q_20) (show inr (5) from q_509) (show 5 ≤ (5) ∧ (5) ≤ 10 from q_2320) (show 0 ≤ (0) ∧ (0) ≤ 80000 from q_2319) (show ((-1)) = -1 ∧ (5) ≤ 6 ∨ 5 ≤ ((-1)) ∧ ((-1)) ≤ 9 ∧ ((-1)) < (5) ∧ su (fun i => pos1 (((wq7)) i)) 64 ≤ p2 (((-1))) by omega) rfl
  as_aux_lemma =>
  intro m
  induction m using Nat.strongRecOn with
  | _ m ih14 =>
    intro ls σ F_14 A_14 x14_3 x14_4 x14_5 l14_0 l14_1 l14_2 l14_3 l14_4 l14_5 H hS_14 hA_14   j14_0 j14_1 j14_2 j14_3 j14_4 j14_5 hm14
    refine Ew_of (pcₚ := 16) (fun _ => x_iload rfl l14_5) ?_
    refine Ew_of (pcₚ := 17) (fun _ => x_iload_n rfl l14_1) ?_
    refine Ew_of (pcₚ := 18) (fun _ => x_iconst rfl) ?_
    have hc28 : ∀ (tc28_0 : Int), ∀ (ls : rO) (σ : rS) (F_c28 : hF) (A_c28 : hA) , rlook ls 0 = some (.ref (D 6)) → rlook ls 1 = some (I (a1)) → rlook ls 2 = some (I (z6)) → rlook ls 3 = some (I (x14_3)) → rlook ls 4 = some (I (x14_4)) → rlook ls 5 = some (I (x14_5)) → HS σ0 σ D N F_c28 A_c28 → SF [] F_14 F_c28 → SA [] A_14 A_c28 → (inr (tc28_0)) → (((a1) ≠ (1) ∧ (tc28_0) = (9)) ∨ ((a1) = (1) ∧ (tc28_0) = (8))) → Ew 413 (d + 4) 28 ls [I (tc28_0), I (x14_5)] σ c s Q := by
     as_aux_lemma =>
      intro tc28_0 ls σ F_c28 A_c28  lc28_0 lc28_1 lc28_2 lc28_3 lc28_4 lc28_5 H hS_c28 hA_c28   jc28_0 jc28_1
      refine w_icmpgt (t := 75) rfl rfl (show inr (x14_5) from j14_2) (show inr (tc28_0) from jc28_0) (fun b9 => ?_) (fun b9 => ?_)
      · refine Ew_of (pcₚ := 76) (fun _ => x_aload_n rfl lc28_0) ?_
        refine Ew_of (pcₚ := 77) (fun _ => x_iload_n rfl lc28_1) ?_
        refine Ew_of (pcₚ := 78) (fun _ => x_iload_n rfl lc28_3) ?_
        refine w_inv H (o := 6) rfl rfl rfl (H.perm 6 rfl) rfl rfl (by rfl) (M415 H (u6_28) (((((hS_c28 6 28 rfl).trans (hS_14 6 28 rfl)).trans (hS4 6 28 rfl)).trans (eu6_28))) (w66) ((funext (hA_c28 66 rfl)).trans ((funext (hA_14 66 rfl)).trans ((funext (hA5 66 rfl)).trans (ew66)))) (wq7) ((funext (hA_c28 78 rfl)).trans ((funext (hA_14 78 rfl)).trans (ewq8))) (lst) (show inr (a1) from h0) (show inr (x14_3) from j14_0) (show 0 ≤ (a1) ∧ (a1) ≤ 2 from h1) (show 5 ≤ (x14_3) ∧ (x14_3) ≤ 9 by omega) (show 1 ≤ (u6_28) from h2) (show ∀ i, (0 : Int) ≤ i → i < 64 → 0 ≤ ((wq7)) i by assumption) (show su (fun i => ((wq7)) i) 64 = (u6_28) by omega) (show su (fun i => pos1 (((wq7)) i)) 64 ≤ p2 ((x14_3)) by omega) (show ∀ j, 0 ≤ j → j < (u6_28) → 1 ≤ ((wq7)) (((w66)) (8001 * (a1) + j)) by assumption) (show ∀ i, (lst) < i → i < 64 → 0 ≤ i → ((wq7)) i = 0 by assumption) (show 0 ≤ (lst) ∧ (lst) ≤ 63 from h4) (fun z14 σ F10 A11 H hS12 hA13 y15 ey16 wq17 ewq18 pz14_0 pz14_1 pz14_2 pz14_3 pz14_4 pz14_5 => ⟨rfl, ?_⟩))
        have r19 : (0 : Int) ≤ y15 ∧ y15 ≤ 100000000 := rngE (show (0 : Int) ≤ F10 6 35 ∧ F10 6 35 ≤ 100000000 from H.frng 6 35) (show F10 6 35 = y15 from (ey16))
        refine Ew_of (pcₚ := 83) (fun _ => x_istore rfl) ?_
        refine Ew_of (pcₚ := 84) (fun _ => x_iload_n rfl (rk_o (lc28_3) rfl rfl)) ?_
        exact w_ireturn rfl (k (x14_3) σ _ _ H (SF_trans (SF_trans (SF_trans (SF_trans (SF_refl) hS4 (any_sub rfl)) hS_14 (any_sub rfl)) hS_c28 (any_sub rfl)) hS12 (any_sub rfl)) (SA_trans (SA_trans (SA_trans (SA_trans (SA_refl) hA5 (any_subA rfl)) hA_14 (any_subA rfl)) hA_c28 (any_subA rfl)) hA13 (any_subA rfl)) (wq7) ((funext (hA13 78 rfl)).trans ((funext (hA_c28 78 rfl)).trans ((funext (hA_14 78 rfl)).trans (ewq8)))) (show inr (x14_3) from j14_0) (show 5 ≤ (x14_3) ∧ (x14_3) ≤ 9 by omega) (show su (fun i => ((wq7)) i) 64 = (u6_28) by omega) (show su (fun i => pos1 (((wq7)) i)) 64 ≤ p2 ((x14_3)) by omega) (show ∀ i, (0 : Int) ≤ i → i < 64 → 0 ≤ ((wq7)) i by assumption) (show ∀ j, 0 ≤ j → j < (u6_28) → 1 ≤ ((wq7)) (((w66)) (8001 * a1 + j)) by assumption) (show ∀ i, (0 : Int) ≤ i → i < 64 → ((wq7)) i = su (eqs (sh ((w66)) (8001 * a1)) i) ((u6_28) : Int).toNat by assumption))
      · have hp6 : (x14_5) = 6 → p2 ((x14_5)) = 64 := fun q => by rw [q]; decide
        have hpp := p2_pos ((x14_5))
        have hp9 := p2_le9 (o := (x14_5)) (by omega)
        refine Ew_of (pcₚ := 32) (fun _ => x_iload_n rfl lc28_2) ?_
        refine Ew_of (pcₚ := 33) (fun _ => x_iconst rfl) ?_
        refine Ew_of (pcₚ := 35) (fun _ => x_iload rfl lc28_5) ?_
        refine w_ishl1 rfl (show 0 ≤ x14_5 ∧ x14_5 ≤ 31 from q_2321 j14_3) ?_
        refine w_icmple (t := 42) rfl rfl (show inr (z6) from pz6_0) (show inr (p2 (x14_5)) by omega) (fun b21 => ?_) (fun b21 => ?_)
        · refine Ew_of (pcₚ := 43) (fun _ => x_aload_n rfl lc28_0) ?_
          refine Ew_of (pcₚ := 44) (fun _ => x_iload_n rfl lc28_1) ?_
          refine Ew_of (pcₚ := 46) (fun _ => x_iload rfl lc28_5) ?_
          refine w_inv H (o := 6) rfl rfl rfl (H.perm 6 rfl) rfl rfl (by rfl) (M415 H (u6_28) (((((hS_c28 6 28 rfl).trans (hS_14 6 28 rfl)).trans (hS4 6 28 rfl)).trans (eu6_28))) (w66) ((funext (hA_c28 66 rfl)).trans ((funext (hA_14 66 rfl)).trans ((funext (hA5 66 rfl)).trans (ew66)))) (wq7) ((funext (hA_c28 78 rfl)).trans ((funext (hA_14 78 rfl)).trans (ewq8))) (lst) (show inr (a1) from h0) (show inr (x14_5) from j14_2) (show 0 ≤ (a1) ∧ (a1) ≤ 2 from h1) (show 5 ≤ (x14_5) ∧ (x14_5) ≤ 9 by omega) (show 1 ≤ (u6_28) from h2) (show ∀ i, (0 : Int) ≤ i → i < 64 → 0 ≤ ((wq7)) i by assumption) (show su (fun i => ((wq7)) i) 64 = (u6_28) by omega) (show su (fun i => pos1 (((wq7)) i)) 64 ≤ p2 ((x14_5)) by omega) (show ∀ j, 0 ≤ j → j < (u6_28) → 1 ≤ ((wq7)) (((w66)) (8001 * (a1) + j)) by assumption) (show ∀ i, (lst) < i → i < 64 → 0 ≤ i → ((wq7)) i = 0 by assumption) (show 0 ≤ (lst) ∧ (lst) ≤ 63 from h4) (fun z26 σ F22 A23 H hS24 hA25 y27 ey28 wq29 ewq30 pz26_0 pz26_1 pz26_2 pz26_3 pz26_4 pz26_5 => ⟨rfl, ?_⟩))
          have r31 : (0 : Int) ≤ y27 ∧ y27 ≤ 100000000 := rngE (show (0 : Int) ≤ F22 6 35 ∧ F22 6 35 ≤ 100000000 from H.frng 6 35) (show F22 6 35 = y27 from (ey28))
          refine Ew_of (pcₚ := 51) (fun _ => x_istore rfl) ?_
          refine Ew_of (pcₚ := 52) (fun _ => x_iload_n rfl (rk_o (lc28_3) rfl rfl)) ?_
          have hc62 : ∀ (ls : rO) (σ : rS) (F_c62 : hF) (A_c62 : hA) , rlook ls 0 = some (.ref (D 6)) → rlook ls 1 = some (I (a1)) → rlook ls 2 = some (I (z6)) → rlook ls 5 = some (I (x14_5)) → rlook ls 6 = some (I (z26)) → HS σ0 σ D N F_c62 A_c62 → SF [] F22 F_c62 → SA [] A23 A_c62 → (((x14_3) < (0)) ∨ ((x14_3) ≥ (0) ∧ (z26) < (x14_4))) → Ew 413 (d + 4) 62 ls [] σ c s Q := by
           as_aux_lemma =>
            intro  ls σ F_c62 A_c62  lc62_0 lc62_1 lc62_2 lc62_5 lc62_6 H hS_c62 hA_c62   jc62_0
            refine Ew_of (pcₚ := 64) (fun _ => x_iload rfl lc62_5) ?_
            refine Ew_of (pcₚ := 65) (fun _ => x_istore_n rfl) ?_
            refine Ew_of (pcₚ := 67) (fun _ => x_iload rfl (rk_o (lc62_6) rfl rfl)) ?_
            refine Ew_of (pcₚ := 69) (fun _ => x_istore rfl) ?_
            refine Ew_of (pcₚ := 72) (fun _ => x_iinc (len := 3) rfl (rk_o (rk_o (lc62_5) rfl rfl) rfl rfl)) ?_
            refine Ew_of (pcₚ := 14) (fun _ => x_goto rfl rfl) ?_
            exact ih14 _ (msE hm14 q_2323 (q_2324 j14_3)) _ σ _ _ (x14_5) (z26) ((x14_5 + 1)) (rk_o (rk_o (rk_o (lc62_0) rfl rfl) rfl rfl) rfl rfl) (rk_o (rk_o (rk_o (lc62_1) rfl rfl) rfl rfl) rfl rfl) (rk_o (rk_o (rk_o (lc62_2) rfl rfl) rfl rfl) rfl rfl) (rk_o (rk_o (rk_s) rfl rfl) rfl rfl) (rk_o (rk_s) rfl rfl) (rk_s) H (SF_trans (SF_trans (SF_trans (hS_14) hS_c28 (any_sub rfl)) hS24 (any_sub rfl)) hS_c62 (any_sub rfl)) (SA_trans (SA_trans (SA_trans (hA_14) hA_c28 (any_subA rfl)) hA25 (any_subA rfl)) hA_c62 (any_subA rfl))   (show inr (x14_5) from j14_2) (show inr (z26) from pz26_0) (show inr ((x14_5 + 1)) from q_2322 j14_3) (show 5 ≤ ((x14_5 + 1)) ∧ ((x14_5 + 1)) ≤ 10 by omega) (show 0 ≤ (z26) ∧ (z26) ≤ 80000 from pz26_1) (show (x14_5) = -1 ∧ ((x14_5 + 1)) ≤ 6 ∨ 5 ≤ (x14_5) ∧ (x14_5) ≤ 9 ∧ (x14_5) < ((x14_5 + 1)) ∧ su (fun i => pos1 (((wq7)) i)) 64 ≤ p2 ((x14_5)) by omega) rfl
          refine w_iflt (t := 62) rfl rfl (show inr (x14_3) from j14_0) (fun b32 => ?_) (fun b32 => ?_)
          · exact hc62  _ σ _ _  (rk_o (lc28_0) rfl rfl) (rk_o (lc28_1) rfl rfl) (rk_o (lc28_2) rfl rfl) (rk_o (lc28_5) rfl rfl) (rk_s) H (SF_refl) (SA_refl)   (show ((x14_3) < (0)) ∨ ((x14_3) ≥ (0) ∧ (z26) < (x14_4)) from q_2325 b32)
          · refine Ew_of (pcₚ := 57) (fun _ => x_iload rfl rk_s) ?_
            refine Ew_of (pcₚ := 59) (fun _ => x_iload rfl (rk_o (lc28_4) rfl rfl)) ?_
            refine w_icmpge (t := 69) rfl rfl (show inr (z26) from pz26_0) (show inr (x14_4) from j14_1) (fun b33 => ?_) (fun b33 => ?_)
            · refine Ew_of (pcₚ := 72) (fun _ => x_iinc (len := 3) rfl (rk_o (lc28_5) rfl rfl)) ?_
              refine Ew_of (pcₚ := 14) (fun _ => x_goto rfl rfl) ?_
              exact ih14 _ (msE hm14 q_2323 (q_2324 j14_3)) _ σ _ _ (x14_3) (x14_4) ((x14_5 + 1)) (rk_o (rk_o (lc28_0) rfl rfl) rfl rfl) (rk_o (rk_o (lc28_1) rfl rfl) rfl rfl) (rk_o (rk_o (lc28_2) rfl rfl) rfl rfl) (rk_o (rk_o (lc28_3) rfl rfl) rfl rfl) (rk_o (rk_o (lc28_4) rfl rfl) rfl rfl) (rk_s) H (SF_trans (SF_trans (hS_14) hS_c28 (any_sub rfl)) hS24 (any_sub rfl)) (SA_trans (SA_trans (hA_14) hA_c28 (any_subA rfl)) hA25 (any_subA rfl))   (show inr (x14_3) from j14_0) (show inr (x14_4) from j14_1) (show inr ((x14_5 + 1)) from q_2322 j14_3) (show 5 ≤ ((x14_5 + 1)) ∧ ((x14_5 + 1)) ≤ 10 by omega) (show 0 ≤ (x14_4) ∧ (x14_4) ≤ 80000 from j14_4) (show (x14_3) = -1 ∧ ((x14_5 + 1)) ≤ 6 ∨ 5 ≤ (x14_3) ∧ (x14_3) ≤ 9 ∧ (x14_3) < ((x14_5 + 1)) ∧ su (fun i => pos1 (((wq7)) i)) 64 ≤ p2 ((x14_3)) by omega) rfl
            · exact hc62  _ σ _ _  (rk_o (lc28_0) rfl rfl) (rk_o (lc28_1) rfl rfl) (rk_o (lc28_2) rfl rfl) (rk_o (lc28_5) rfl rfl) (rk_s) H (SF_refl) (SA_refl)   (show ((x14_3) < (0)) ∨ ((x14_3) ≥ (0) ∧ (z26) < (x14_4)) from q_2326 b32 b33)
        · refine Ew_of (pcₚ := 69) (fun _ => x_goto rfl rfl) ?_
          refine Ew_of (pcₚ := 72) (fun _ => x_iinc (len := 3) rfl (lc28_5)) ?_
          refine Ew_of (pcₚ := 14) (fun _ => x_goto rfl rfl) ?_
          exact ih14 _ (msE hm14 q_2323 (q_2324 j14_3)) _ σ _ _ (x14_3) (x14_4) ((x14_5 + 1)) (rk_o (lc28_0) rfl rfl) (rk_o (lc28_1) rfl rfl) (rk_o (lc28_2) rfl rfl) (rk_o (lc28_3) rfl rfl) (rk_o (lc28_4) rfl rfl) (rk_s) H (SF_trans (hS_14) hS_c28 (any_sub rfl)) (SA_trans (hA_14) hA_c28 (any_subA rfl))   (show inr (x14_3) from j14_0) (show inr (x14_4) from j14_1) (show inr ((x14_5 + 1)) from q_2322 j14_3) (show 5 ≤ ((x14_5 + 1)) ∧ ((x14_5 + 1)) ≤ 10 by omega) (show 0 ≤ (x14_4) ∧ (x14_4) ≤ 80000 from j14_4) (show (x14_3) = -1 ∧ ((x14_5 + 1)) ≤ 6 ∨ 5 ≤ (x14_3) ∧ (x14_3) ≤ 9 ∧ (x14_3) < ((x14_5 + 1)) ∧ su (fun i => pos1 (((wq7)) i)) 64 ≤ p2 ((x14_3)) by omega) rfl
    refine w_icmpne (t := 26) rfl rfl (show inr (a1) from h0) (show inr (1) from q_23) (fun b34 => ?_) (fun b34 => ?_)
    · refine Ew_of (pcₚ := 28) (fun _ => x_bipush (z := 9) rfl (by decide)) ?_
      exact hc28 (9) _ σ _ _  (l14_0) (l14_1) (l14_2) (l14_3) (l14_4) (l14_5) H (SF_refl) (SA_refl)   (show inr (9) from q_19) (show ((a1) ≠ (1) ∧ (9) = (9)) ∨ ((a1) = (1) ∧ (9) = (8)) from q_1430 b34)
    · refine Ew_of (pcₚ := 23) (fun _ => x_bipush (z := 8) rfl (by decide)) ?_
      refine Ew_of (pcₚ := 28) (fun _ => x_goto rfl rfl) ?_
      exact hc28 (8) _ σ _ _  (l14_0) (l14_1) (l14_2) (l14_3) (l14_4) (l14_5) H (SF_refl) (SA_refl)   (show inr (8) from q_96) (show ((a1) ≠ (1) ∧ (8) = (9)) ∨ ((a1) = (1) ∧ (8) = (8)) from q_1431 b34)
