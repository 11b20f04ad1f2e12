/-- Writer.go -/
theorem M399b {σ0 σ : rS} {D N : Nat → Nat} {F : hF} {A : hA} {d c s : Nat} {Q : wQ} (H : HS σ0 σ D N F A) {a1 : Int} (u6_2 : Int) (eu6_2 : F 6 2 = u6_2) (u6_22 : Int) (eu6_22 : F 6 22 = u6_22) (h0 : inr (a1)) (h1 : 0 ≤ (a1) ∧ (a1) ≤ (u6_22)) (h2 : 3 ≤ (u6_2)) (k : ∀ σ Fₚ Aₚ, HS σ0 σ D N Fₚ Aₚ → SF [(6, 23), (6, 28), (6, 30)] F Fₚ → SA [62, 63, 64, 65] A Aₚ → ∀ y6_28 : Int, Fₚ 6 28 = y6_28 → ∀ y6_30 : Int, Fₚ 6 30 = y6_30 → ∀ v62 : Int → Int, Aₚ 62 = v62 → ∀ v63 : Int → Int, Aₚ 63 = v63 → (3 * (y6_28) + (y6_30) ≤ (u6_22) - (a1)) → (GOE ((v62)) ((v63)) ((y6_28)) ((u6_22) - (a1))) → Q none σ c s) : Ew 399 (d + 3) 0 (rargs 0 [.ref (D 6), I a1]) [] σ c s Q := by
  have r1 : (0 : Int) ≤ u6_2 ∧ u6_2 ≤ 8 := rngE (show (0 : Int) ≤ F 6 2 ∧ F 6 2 ≤ 8 from H.frng 6 2) (show F 6 2 = u6_2 from (eu6_2))
  have r2 : (0 : Int) ≤ u6_22 ∧ u6_22 ≤ 16384 := rngE (show (0 : Int) ≤ F 6 22 ∧ F 6 22 ≤ 16384 from H.frng 6 22) (show F 6 22 = u6_22 from (eu6_22))
  refine Ew_of (pcₚ := 1) (fun _ => x_aload_n rfl rfl) ?_
  refine Ew_of (pcₚ := 2) (fun _ => x_iconst rfl) ?_
  refine w_pI H (o := 6) rfl rfl (H.perm 6 rfl) rfl rfl rfl (fun _ => rfl) rfl (show (0 : Int) ≤ 0 ∧ 0 ≤ 8001 from q_1749) (fun σ H => ?_)
  refine Ew_of (pcₚ := 6) (fun _ => x_aload_n rfl rfl) ?_
  refine Ew_of (pcₚ := 7) (fun _ => x_iconst rfl) ?_
  refine w_pI H (o := 6) rfl rfl (H.perm 6 rfl) rfl rfl rfl (fun _ => rfl) rfl (show (0 : Int) ≤ 0 ∧ 0 ≤ 16385 from q_1750) (fun σ H => ?_)
  refine Ew_of (pcₚ := 11) (fun _ => x_iconst rfl) ?_
  refine Ew_of (pcₚ := 12) (fun _ => x_istore_n rfl) ?_
  refine Ew_of (pcₚ := 13) (fun _ => x_iload_n rfl (rk_o (rfl) rfl rfl)) ?_
  refine Ew_of (pcₚ := 14) (fun _ => x_istore_n rfl) ?_
  have : GOI ((A 62)) ((A 63)) ((0)) ((a1) - (a1) - 0) := GOI_c GOI_0 (by omega)
  suffices hl14 : ∀ (m : Nat), ∀ (ls : rO) (σ : rS) (F_14 : hF) (A_14 : hA) (x14_2 : Int) (x14_3 : Int), rlook ls 0 = some (.ref (D 6)) → rlook ls 2 = some (I (x14_2)) → rlook ls 3 = some (I (x14_3)) → HS σ0 σ D N F_14 A_14 → SF [(6, 23), (6, 28), (6, 30)] (updF (updF F 6 28 (0)) 6 30 (0)) F_14 → SA [62, 63, 64, 65] A A_14 → ∀ y14_6_28 : Int, F_14 6 28 = y14_6_28 → ∀ y14_6_30 : Int, F_14 6 30 = y14_6_30 → ∀ w14_62 : Int → Int, A_14 62 = w14_62 → ∀ w14_63 : Int → Int, A_14 63 = w14_63 → (inr (x14_2)) → (inr (x14_3)) → ((a1) ≤ (x14_3) ∧ (x14_3) ≤ (u6_22)) → (0 ≤ (x14_2) ∧ (x14_2) ≤ (x14_3) - (a1)) → (3 * (y14_6_28) + (y14_6_30) ≤ (x14_3) - (a1)) → (GOI ((w14_62)) ((w14_63)) ((y14_6_28)) ((x14_3) - (a1) - (x14_2))) → ((u6_22) - (x14_3)).toNat = m → Ew 399 (d + 3) 14 ls [] σ c s Q from
    hl14 _ _ σ _ _ (0) (a1) (rk_o (rk_o (rfl) rfl rfl) rfl rfl) (rk_o (rk_s) rfl rfl) (rk_s) H (SF_refl) (SA_refl) (0) (rfl) (0) (rfl) (A 62) (rfl) (A 63) (rfl) (show inr (0) from q_20) (show inr (a1) from h0) (show (a1) ≤ (a1) ∧ (a1) ≤ (u6_22) from q_763 h1) (show 0 ≤ (0) ∧ (0) ≤ (a1) - (a1) from q_1752) (show 3 * (0) + (0) ≤ (a1) - (a1) from q_1751) (show GOI ((A 62)) ((A 63)) ((0)) ((a1) - (a1) - (0)) by assumption) rfl
  as_aux_lemma =>
  intro m
  induction m using Nat.strongRecOn with
  | _ m ih14 =>
    intro ls σ F_14 A_14 x14_2 x14_3 l14_0 l14_2 l14_3 H hS_14 hA_14 y14_6_28 ey14_6_28 y14_6_30 ey14_6_30 w14_62 ew14_62 w14_63 ew14_63 j14_0 j14_1 j14_2 j14_3 j14_4 j14_5 hm14
    have r3 : (0 : Int) ≤ y14_6_28 ∧ y14_6_28 ≤ 8001 := rngE (show (0 : Int) ≤ F_14 6 28 ∧ F_14 6 28 ≤ 8001 from H.frng 6 28) (show F_14 6 28 = y14_6_28 from (ey14_6_28))
    have r4 : (0 : Int) ≤ y14_6_30 ∧ y14_6_30 ≤ 16385 := rngE (show (0 : Int) ≤ F_14 6 30 ∧ F_14 6 30 ≤ 16385 from H.frng 6 30) (show F_14 6 30 = y14_6_30 from (ey14_6_30))
    have j14_go : GOI ((w14_62)) ((w14_63)) ((y14_6_28)) ((x14_3) - (a1) - (x14_2)) := j14_5
    refine Ew_of (pcₚ := 15) (fun _ => x_iload_n rfl l14_3) ?_
    refine Ew_of (pcₚ := 16) (fun _ => x_aload_n rfl l14_0) ?_
    refine w_gI H (o := 6) (w := u6_22) rfl (H.perm 6 rfl) rfl rfl rfl (fun _ => rfl) ((hS_14 6 22 rfl).trans (eu6_22)) ?_
    refine w_icmpge (t := 124) rfl rfl (show inr (x14_3) from j14_1) (show inr (u6_22) from q_243 r2) (fun b5 => ?_) (fun b5 => ?_)
    · have : GOE ((w14_62)) ((w14_63)) ((y14_6_28)) ((u6_22) - (a1)) := GOE_of j14_go (by omega)
      exact w_ret rfl (k σ _ _ H (SF_trans (SF_upd (SF_upd (SF_refl) rfl) rfl) hS_14 (any_sub rfl)) (SA_trans (SA_refl) hA_14 (any_subA rfl)) (y14_6_28) ((ey14_6_28)) (y14_6_30) ((ey14_6_30)) (w14_62) (ew14_62) (w14_63) (ew14_63) (show 3 * (y14_6_28) + (y14_6_30) ≤ (u6_22) - a1 from q_1753 j14_2 j14_4) (show GOE ((w14_62)) ((w14_63)) ((y14_6_28)) ((u6_22) - a1) by assumption))
    · refine Ew_of (pcₚ := 23) (fun _ => x_aload_n rfl l14_0) ?_
      refine Ew_of (pcₚ := 24) (fun _ => x_iload_n rfl l14_3) ?_
      refine w_inv H (o := 6) rfl rfl rfl (H.perm 6 rfl) rfl rfl (by rfl) (M398 H (u6_2) (((hS_14 6 2 rfl).trans (eu6_2))) (u6_22) (((hS_14 6 22 rfl).trans (eu6_22))) (show inr (x14_3) from j14_1) (show 0 ≤ (x14_3) ∧ (x14_3) < (u6_22) from q_1755 b5 h1 j14_2) (show 1 ≤ (u6_2) from q_1754 h2 r1) (fun z10 σ F6 A7 H hS8 hA9 y11 ey12 pz10_0 pz10_1 pz10_2 => ⟨rfl, ?_⟩))
      have r13 : (0 : Int) ≤ y11 ∧ y11 ≤ 16384 := rngE (show (0 : Int) ≤ F6 6 23 ∧ F6 6 23 ≤ 16384 from H.frng 6 23) (show F6 6 23 = y11 from (ey12))
      refine Ew_of (pcₚ := 29) (fun _ => x_istore rfl) ?_
      refine Ew_of (pcₚ := 31) (fun _ => x_iload rfl rk_s) ?_
      refine w_ifne (t := 68) rfl rfl (show inr (z10) from pz10_0) (fun b14 => ?_) (fun b14 => ?_)
      · refine Ew_of (pcₚ := 69) (fun _ => x_aload_n rfl (rk_o (l14_0) rfl rfl)) ?_
        refine w_gT H (o := 6) (t := 62) rfl (H.perm 6 rfl) rfl rfl rfl rfl rfl rfl ?_
        refine Ew_of (pcₚ := 73) (fun _ => x_aload_n rfl (rk_o (l14_0) rfl rfl)) ?_
        refine w_gI H (o := 6) (w := y14_6_28) rfl (H.perm 6 rfl) rfl rfl rfl (fun _ => rfl) ((hS8 6 28 rfl).trans (ey14_6_28)) ?_
        refine Ew_of (pcₚ := 77) (fun _ => x_iload_n rfl (rk_o (l14_2) rfl rfl)) ?_
        refine w_sI H (o := 62) (n := 8001) rfl (H.perm 62 rfl) rfl rfl (H.fix 62 rfl rfl) (show 0 ≤ y14_6_28 ∧ y14_6_28 < ((8001 : Nat) : Int) by omega) (by decide) (show (0 : Int) ≤ x14_2 ∧ x14_2 ≤ 16384 from q_1756 b5 h1 j14_3 r2) (fun σ H => ?_)
        refine Ew_of (pcₚ := 79) (fun _ => x_aload_n rfl (rk_o (l14_0) rfl rfl)) ?_
        refine w_gT H (o := 6) (t := 63) rfl (H.perm 6 rfl) rfl rfl rfl rfl rfl rfl ?_
        refine Ew_of (pcₚ := 83) (fun _ => x_aload_n rfl (rk_o (l14_0) rfl rfl)) ?_
        refine w_gI H (o := 6) (w := y14_6_28) rfl (H.perm 6 rfl) rfl rfl rfl (fun _ => rfl) ((hS8 6 28 rfl).trans (ey14_6_28)) ?_
        refine Ew_of (pcₚ := 88) (fun _ => x_iload rfl rk_s) ?_
        refine w_sI H (o := 63) (n := 8001) rfl (H.perm 63 rfl) rfl rfl (H.fix 63 rfl rfl) (show 0 ≤ y14_6_28 ∧ y14_6_28 < ((8001 : Nat) : Int) by omega) (by decide) (show (0 : Int) ≤ z10 ∧ z10 ≤ 16384 from q_1757 pz10_1 pz10_2 r13 r2) (fun σ H => ?_)
        refine Ew_of (pcₚ := 90) (fun _ => x_aload_n rfl (rk_o (l14_0) rfl rfl)) ?_
        refine w_gT H (o := 6) (t := 64) rfl (H.perm 6 rfl) rfl rfl rfl rfl rfl rfl ?_
        refine Ew_of (pcₚ := 94) (fun _ => x_aload_n rfl (rk_o (l14_0) rfl rfl)) ?_
        refine w_gI H (o := 6) (w := y14_6_28) rfl (H.perm 6 rfl) rfl rfl rfl (fun _ => rfl) ((hS8 6 28 rfl).trans (ey14_6_28)) ?_
        refine Ew_of (pcₚ := 98) (fun _ => x_iload_n rfl (rk_o (l14_3) rfl rfl)) ?_
        refine Ew_of (pcₚ := 99) (fun _ => x_aload_n rfl (rk_o (l14_0) rfl rfl)) ?_
        refine w_gI H (o := 6) (w := y11) rfl (H.perm 6 rfl) rfl rfl rfl (fun _ => rfl) (ey12) ?_
        refine w_isub rfl ?_
        refine w_sI H (o := 64) (n := 8001) rfl (H.perm 64 rfl) rfl rfl (H.fix 64 rfl rfl) (show 0 ≤ y14_6_28 ∧ y14_6_28 < ((8001 : Nat) : Int) by omega) (by decide) (show (0 : Int) ≤ (x14_3 - y11) ∧ (x14_3 - y11) ≤ 16384 by omega) (fun σ H => ?_)
        refine Ew_of (pcₚ := 105) (fun _ => x_aload_n rfl (rk_o (l14_0) rfl rfl)) ?_
        refine Ew_of (pcₚ := 106) (fun _ => x_dup rfl rfl) ?_
        refine w_gI H (o := 6) (w := y14_6_28) rfl (H.perm 6 rfl) rfl rfl rfl (fun _ => rfl) ((hS8 6 28 rfl).trans (ey14_6_28)) ?_
        refine Ew_of (pcₚ := 110) (fun _ => x_iconst rfl) ?_
        refine w_iadd rfl ?_
        refine w_pI H (o := 6) rfl rfl (H.perm 6 rfl) rfl rfl rfl (fun _ => rfl) rfl (show (0 : Int) ≤ (y14_6_28 + 1) ∧ (y14_6_28 + 1) ≤ 8001 by omega) (fun σ H => ?_)
        refine Ew_of (pcₚ := 115) (fun _ => x_iconst rfl) ?_
        refine Ew_of (pcₚ := 116) (fun _ => x_istore_n rfl) ?_
        refine Ew_of (pcₚ := 117) (fun _ => x_iload_n rfl (rk_o (rk_o (l14_3) rfl rfl) rfl rfl)) ?_
        refine Ew_of (pcₚ := 119) (fun _ => x_iload rfl (rk_o (rk_s) rfl rfl)) ?_
        refine w_iadd rfl ?_
        refine Ew_of (pcₚ := 121) (fun _ => x_istore_n rfl) ?_
        refine Ew_of (pcₚ := 14) (fun _ => x_goto rfl rfl) ?_
        have : GOI ((upd1 (w14_62) (y14_6_28) (x14_2))) ((upd1 (w14_63) (y14_6_28) (z10))) (((y14_6_28 + 1))) (((x14_3 + z10)) - (a1) - (0)) := by first | exact GOI_c j14_go (by omega) | exact GOI_next j14_go (by omega) rfl (by omega) (by omega)
        exact ih14 _ (by omega) _ σ _ _ (0) ((x14_3 + z10)) (rk_o (rk_o (rk_o (l14_0) rfl rfl) rfl rfl) rfl rfl) (rk_o (rk_s) rfl rfl) (rk_s) H (SF_upd (SF_trans (hS_14) hS8 (any_sub rfl)) rfl) (SA_upd (SA_upd (SA_upd (SA_trans (hA_14) hA9 (any_subA rfl)) rfl) rfl) rfl) ((y14_6_28 + 1)) (rfl) (y14_6_30) (((hS8 6 30 rfl).trans (ey14_6_30))) (upd1 (w14_62) (y14_6_28) (x14_2)) (congrArg (fun q => upd1 q (y14_6_28) (x14_2)) ((funext (hA9 62 rfl)).trans (ew14_62))) (upd1 (w14_63) (y14_6_28) (z10)) (congrArg (fun q => upd1 q (y14_6_28) (z10)) ((funext (hA9 63 rfl)).trans (ew14_63))) (show inr (0) from q_20) (show inr ((x14_3 + z10)) from q_1760 j14_1 pz10_1 pz10_2 r2) (show (a1) ≤ ((x14_3 + z10)) ∧ ((x14_3 + z10)) ≤ (u6_22) from q_1759 b5 j14_2 pz10_1 pz10_2) (show 0 ≤ (0) ∧ (0) ≤ ((x14_3 + z10)) - (a1) from q_1758 j14_2 pz10_1) (show 3 * ((y14_6_28 + 1)) + (y14_6_30) ≤ ((x14_3 + z10)) - (a1) by omega) (show GOI ((upd1 (w14_62) (y14_6_28) (x14_2))) ((upd1 (w14_63) (y14_6_28) (z10))) (((y14_6_28 + 1))) (((x14_3 + z10)) - (a1) - (0)) by assumption) rfl
      · refine Ew_of (pcₚ := 35) (fun _ => x_aload_n rfl (rk_o (l14_0) rfl rfl)) ?_
        refine w_gT H (o := 6) (t := 65) rfl (H.perm 6 rfl) rfl rfl rfl rfl rfl rfl ?_
        refine Ew_of (pcₚ := 39) (fun _ => x_aload_n rfl (rk_o (l14_0) rfl rfl)) ?_
        refine w_gI H (o := 6) (w := y14_6_30) rfl (H.perm 6 rfl) rfl rfl rfl (fun _ => rfl) ((hS8 6 30 rfl).trans (ey14_6_30)) ?_
        refine Ew_of (pcₚ := 43) (fun _ => x_aload_n rfl (rk_o (l14_0) rfl rfl)) ?_
        refine w_gT H (o := 6) (t := 61) rfl (H.perm 6 rfl) rfl rfl rfl rfl rfl rfl ?_
        refine Ew_of (pcₚ := 47) (fun _ => x_iload_n rfl (rk_o (l14_3) rfl rfl)) ?_
        refine w_lI H (o := 61) (n := 16384) rfl (H.perm 61 rfl) rfl rfl (H.fix 61 rfl rfl) (show 0 ≤ x14_3 ∧ x14_3 < ((16384 : Nat) : Int) from q_1761 b5 h1 j14_2 r2) (by decide) (fun v15 ev15 qv15 => ?_)
        have qv15 : (0 : Int) ≤ v15 ∧ v15 ≤ 255 := qv15
        have ev15 : (A 61) (x14_3) = v15 := (congrFun ((funext (hA9 61 rfl)).trans (funext (hA_14 61 rfl))) (x14_3)).symm.trans ev15
        refine w_sI H (o := 65) (n := 16385) rfl (H.perm 65 rfl) rfl rfl (H.fix 65 rfl rfl) (show 0 ≤ y14_6_30 ∧ y14_6_30 < ((16385 : Nat) : Int) from q_1762 b5 h1 j14_4 r2 r3 r4) (by decide) (show (0 : Int) ≤ v15 ∧ v15 ≤ 255 from qv15) (fun σ H => ?_)
        refine Ew_of (pcₚ := 50) (fun _ => x_aload_n rfl (rk_o (l14_0) rfl rfl)) ?_
        refine Ew_of (pcₚ := 51) (fun _ => x_dup rfl rfl) ?_
        refine w_gI H (o := 6) (w := y14_6_30) rfl (H.perm 6 rfl) rfl rfl rfl (fun _ => rfl) ((hS8 6 30 rfl).trans (ey14_6_30)) ?_
        refine Ew_of (pcₚ := 55) (fun _ => x_iconst rfl) ?_
        refine w_iadd rfl ?_
        refine w_pI H (o := 6) rfl rfl (H.perm 6 rfl) rfl rfl rfl (fun _ => rfl) rfl (show (0 : Int) ≤ (y14_6_30 + 1) ∧ (y14_6_30 + 1) ≤ 16385 from q_1763 b5 h1 j14_4 r2 r3 r4) (fun σ H => ?_)
        refine Ew_of (pcₚ := 62) (fun _ => x_iinc (len := 3) rfl (rk_o (l14_2) rfl rfl)) ?_
        refine Ew_of (pcₚ := 65) (fun _ => x_iinc (len := 3) rfl (rk_o (rk_o (l14_3) rfl rfl) rfl rfl)) ?_
        refine Ew_of (pcₚ := 14) (fun _ => x_goto rfl rfl) ?_
        have : GOI ((w14_62)) ((w14_63)) ((y14_6_28)) (((x14_3 + 1)) - (a1) - ((x14_2 + 1))) := by first | exact GOI_c j14_go (by omega) | exact GOI_next j14_go (by omega) rfl (by omega) (by omega)
        exact ih14 _ (msE hm14 q_31 (q_34 b5)) _ σ _ _ ((x14_2 + 1)) ((x14_3 + 1)) (rk_o (rk_o (rk_o (l14_0) rfl rfl) rfl rfl) rfl rfl) (rk_o (rk_s) rfl rfl) (rk_s) H (SF_upd (SF_trans (hS_14) hS8 (any_sub rfl)) rfl) (SA_upd (SA_trans (hA_14) hA9 (any_subA rfl)) rfl) (y14_6_28) (((hS8 6 28 rfl).trans (ey14_6_28))) ((y14_6_30 + 1)) (rfl) (w14_62) ((funext (hA9 62 rfl)).trans (ew14_62)) (w14_63) ((funext (hA9 63 rfl)).trans (ew14_63)) (show inr ((x14_2 + 1)) from q_1767 b5 h1 j14_3 r2) (show inr ((x14_3 + 1)) from q_1766 b5 j14_1 r2) (show (a1) ≤ ((x14_3 + 1)) ∧ ((x14_3 + 1)) ≤ (u6_22) from q_1251 b5 j14_2) (show 0 ≤ ((x14_2 + 1)) ∧ ((x14_2 + 1)) ≤ ((x14_3 + 1)) - (a1) from q_1765 j14_3) (show 3 * (y14_6_28) + ((y14_6_30 + 1)) ≤ ((x14_3 + 1)) - (a1) from q_1764 j14_4) (show GOI ((w14_62)) ((w14_63)) ((y14_6_28)) (((x14_3 + 1)) - (a1) - ((x14_2 + 1))) by assumption) rfl
/-- Writer.tellAll -/
theorem M404b {σ0 σ : rS} {D N : Nat → Nat} {F : hF} {A : hA} {d c s : Nat} {Q : wQ} (H : HS σ0 σ D N F A)  (u6_28 : Int) (eu6_28 : F 6 28 = u6_28) (w62 : Int → Int) (ew62 : A 62 = w62) (w63 : Int → Int) (ew63 : A 63 = w63) (h0 : ∀ j, 0 ≤ j → j < (u6_28) → 3 ≤ ((w63)) j) (k : ∀ σ Fₚ Aₚ, HS σ0 σ D N Fₚ Aₚ → SF [] F Fₚ → SA [56, 66, 67, 68] A Aₚ → ∀ v66 : Int → Int, Aₚ 66 = v66 → ∀ v67 : Int → Int, Aₚ 67 = v67 → (TLI ((v66)) ((v67)) ((w62)) ((w63)) ((u6_28))) → Q none σ c s) : Ew 404 (d + 1) 0 (rargs 0 [.ref (D 6)]) [] σ c s Q := by
  have r1 : (0 : Int) ≤ u6_28 ∧ u6_28 ≤ 8001 := rngE (show (0 : Int) ≤ F 6 28 ∧ F 6 28 ≤ 8001 from H.frng 6 28) (show F 6 28 = u6_28 from (eu6_28))
  refine Ew_of (pcₚ := 1) (fun _ => x_iconst rfl) ?_
  refine Ew_of (pcₚ := 2) (fun _ => x_istore_n rfl) ?_
  have : TLI ((A 66)) ((A 67)) ((w62)) ((w63)) (0) := fun j a b => absurd b (by omega)
  suffices hl2 : ∀ (m : Nat), ∀ (ls : rO) (σ : rS) (F_2 : hF) (A_2 : hA) (x2_1 : Int), rlook ls 0 = some (.ref (D 6)) → rlook ls 1 = some (I (x2_1)) → HS σ0 σ D N F_2 A_2 → SF [] F F_2 → SA [56, 66, 67, 68] A A_2 → ∀ w2_66 : Int → Int, A_2 66 = w2_66 → ∀ w2_67 : Int → Int, A_2 67 = w2_67 → (inr (x2_1)) → ((0) ≤ (x2_1)) → ((x2_1) ≤ (0) ∨ (x2_1) ≤ ((u6_28))) → (TLI ((w2_66)) ((w2_67)) ((w62)) ((w63)) ((x2_1))) → (((u6_28)) - (x2_1)).toNat = m → Ew 404 (d + 1) 2 ls [] σ c s Q from
    hl2 _ _ σ _ _ (0) (rk_o (rfl) rfl rfl) (rk_s) H (SF_refl) (SA_refl)  (A 66) (rfl) (A 67) (rfl) (show inr (0) from q_20) (show (0) ≤ (0) from q_25) (show (0) ≤ (0) ∨ (0) ≤ ((u6_28)) from q_24) (show TLI ((A 66)) ((A 67)) ((w62)) ((w63)) ((0)) by assumption) rfl
  as_aux_lemma =>
  intro m
  induction m using Nat.strongRecOn with
  | _ m ih2 =>
    intro ls σ F_2 A_2 x2_1 l2_0 l2_1 H hS_2 hA_2  w2_66 ew2_66 w2_67 ew2_67 j2_0 j2_1 j2_2 j2_3 hm2
    have j2_t : TLI ((w2_66)) ((w2_67)) ((w62)) ((w63)) ((x2_1)) := j2_3
    refine Ew_of (pcₚ := 3) (fun _ => x_iload_n rfl l2_1) ?_
    refine Ew_of (pcₚ := 4) (fun _ => x_aload_n rfl l2_0) ?_
    refine w_gI H (o := 6) (w := u6_28) rfl (H.perm 6 rfl) rfl rfl rfl (fun _ => rfl) ((hS_2 6 28 rfl).trans (eu6_28)) ?_
    refine w_icmpge (t := 172) rfl rfl (show inr (x2_1) from j2_0) (show inr (u6_28) from q_1788 r1) (fun b2 => ?_) (fun b2 => ?_)
    · have he1 : (x2_1) = (u6_28) := q_2317 b2 j2_2 r1
      have : TLI ((w2_66)) ((w2_67)) ((w62)) ((w63)) ((u6_28)) := by rw [← he1]; exact j2_t
      exact w_ret rfl (k σ _ _ H (SF_trans (SF_refl) hS_2 (any_sub rfl)) (SA_trans (SA_refl) hA_2 (any_subA rfl)) (w2_66) (ew2_66) (w2_67) (ew2_67) (show TLI ((w2_66)) ((w2_67)) ((w62)) ((w63)) ((u6_28)) by assumption))
    · have hBl : ∀ i, (0 : Int) ≤ (w62) i ∧ (w62) i ≤ 16384 := fun i => by have h1 : (0 : Int) ≤ A_2 62 i ∧ A_2 62 i ≤ 16384 := H.arng 62 i; rw [show A_2 62 = w62 from (funext (hA_2 62 rfl)).trans (ew62)] at h1; exact h1
      have hbl := hBl ((x2_1))
      refine Ew_of (pcₚ := 11) (fun _ => x_iconst rfl) ?_
      refine Ew_of (pcₚ := 12) (fun _ => x_istore_n rfl) ?_
      refine Ew_of (pcₚ := 13) (fun _ => x_iconst rfl) ?_
      refine Ew_of (pcₚ := 14) (fun _ => x_istore_n rfl) ?_
      have : lBs 0 = 0 := by decide
      suffices hl14 : ∀ (m : Nat), ∀ (ls : rO) (σ : rS) (F_14 : hF) (A_14 : hA) (x14_2 : Int) (x14_3 : Int), rlook ls 0 = some (.ref (D 6)) → rlook ls 1 = some (I (x2_1)) → rlook ls 2 = some (I (x14_2)) → rlook ls 3 = some (I (x14_3)) → HS σ0 σ D N F_14 A_14 → SF [] F_2 F_14 → SA [] A_2 A_14 → (inr (x14_2)) → (inr (x14_3)) → (0 ≤ (x14_2) ∧ (x14_2) ≤ 33) → ((x14_3) = lBs ((x14_2))) → (0 ≤ (x14_3) ∧ (x14_3) ≤ 16384) → ((x14_3) ≤ ((w62)) ((x2_1))) → (40 - (x14_2)).toNat = m → Ew 404 (d + 1) 14 ls [] σ c s Q from
        hl14 _ _ σ _ _ (0) (0) (rk_o (rk_o (l2_0) rfl rfl) rfl rfl) (rk_o (rk_o (l2_1) rfl rfl) rfl rfl) (rk_o (rk_s) rfl rfl) (rk_s) H (SF_refl) (SA_refl)   (show inr (0) from q_20) (show inr (0) from q_20) (show 0 ≤ (0) ∧ (0) ≤ 33 from q_1790) (show (0) = lBs ((0)) by omega) (show 0 ≤ (0) ∧ (0) ≤ 16384 from q_1789) (show (0) ≤ ((w62)) ((x2_1)) by omega) rfl
      as_aux_lemma =>
      intro m
      induction m using Nat.strongRecOn with
      | _ m ih14 =>
        intro ls σ F_14 A_14 x14_2 x14_3 l14_0 l14_1 l14_2 l14_3 H hS_14 hA_14   j14_0 j14_1 j14_2 j14_3 j14_4 j14_5 hm14
        have hls := lBs_s (s := (x14_2)) (by omega) (by omega)
        refine Ew_of (pcₚ := 15) (fun _ => x_iload_n rfl l14_3) ?_
        refine Ew_of (pcₚ := 16) (fun _ => x_iconst rfl) ?_
        refine Ew_of (pcₚ := 17) (fun _ => x_iload_n rfl l14_2) ?_
        refine w_stat24 rfl rfl (by rfl) (M401 H (show inr (x14_2) from j14_0) (show 0 ≤ (x14_2) ∧ (x14_2) ≤ 35 from q_1791 j14_2) (fun z7 σ F3 A4 H hS5 hA6 pz7_0 pz7_1 pz7_2 => ⟨rfl, ?_⟩))
        have hz : p2 ((z7)) = p2 (lB ((x14_2))) := by rw [pz7_2]
        have : p2 ((z7)) ≤ p2 16 := p2_mono (by omega)
        have : p2 16 = 65536 := by decide
        have := p2_pos ((z7))
        refine w_ishl1 rfl (show 0 ≤ z7 ∧ z7 ≤ 31 from q_1467 pz7_1) ?_
        refine w_iadd rfl ?_
        refine Ew_of (pcₚ := 23) (fun _ => x_aload_n rfl l14_0) ?_
        refine w_gT H (o := 6) (t := 62) rfl (H.perm 6 rfl) rfl rfl rfl rfl rfl rfl ?_
        refine Ew_of (pcₚ := 27) (fun _ => x_iload_n rfl l14_1) ?_
        refine w_lI H (o := 62) (n := 8001) rfl (H.perm 62 rfl) rfl rfl (H.fix 62 rfl rfl) (show 0 ≤ x2_1 ∧ x2_1 < ((8001 : Nat) : Int) from q_1792 b2 j2_1 r1) (by decide) (fun v9 ev9 qv9 => ?_)
        have qv9 : (0 : Int) ≤ v9 ∧ v9 ≤ 16384 := qv9
        have ev9 : (w62) (x2_1) = v9 := (congrFun ((funext (hA6 62 rfl)).trans ((funext (hA_14 62 rfl)).trans ((funext (hA_2 62 rfl)).trans (ew62)))) (x2_1)).symm.trans ev9
        have hcl := ev9
        refine w_icmpgt (t := 46) rfl rfl (show inr ((x14_3 + p2 (z7))) by omega) (show inr (v9) from q_243 qv9) (fun b10 => ?_) (fun b10 => ?_)
        · have hl46 := lB_le (s := (x14_2)) (by omega) (by omega)
          have hl47 : (x14_3) ≤ ((w62)) ((x2_1)) := j14_5
          refine Ew_of (pcₚ := 47) (fun _ => x_aload_n rfl l14_0) ?_
          refine Ew_of (pcₚ := 48) (fun _ => x_iconst rfl) ?_
          refine Ew_of (pcₚ := 49) (fun _ => x_iload_n rfl l14_1) ?_
          refine Ew_of (pcₚ := 50) (fun _ => x_iload_n rfl l14_2) ?_
          refine Ew_of (pcₚ := 51) (fun _ => x_iload_n rfl l14_2) ?_
          refine w_stat24 rfl rfl (by rfl) (M401 H (show inr (x14_2) from j14_0) (show 0 ≤ (x14_2) ∧ (x14_2) ≤ 35 from q_1791 j14_2) (fun z15 σ F11 A12 H hS13 hA14 pz15_0 pz15_1 pz15_2 => ⟨rfl, ?_⟩))
          refine Ew_of (pcₚ := 55) (fun _ => x_aload_n rfl l14_0) ?_
          refine w_gT H (o := 6) (t := 62) rfl (H.perm 6 rfl) rfl rfl rfl rfl rfl rfl ?_
          refine Ew_of (pcₚ := 59) (fun _ => x_iload_n rfl l14_1) ?_
          refine w_lI H (o := 62) (n := 8001) rfl (H.perm 62 rfl) rfl rfl (H.fix 62 rfl rfl) (show 0 ≤ x2_1 ∧ x2_1 < ((8001 : Nat) : Int) from q_1792 b2 j2_1 r1) (by decide) (fun v16 ev16 qv16 => ?_)
          have qv16 : (0 : Int) ≤ v16 ∧ v16 ≤ 16384 := qv16
          have ev16 : (w62) (x2_1) = v16 := (congrFun ((funext (hA14 62 rfl)).trans ((funext (hA6 62 rfl)).trans ((funext (hA_14 62 rfl)).trans ((funext (hA_2 62 rfl)).trans (ew62))))) (x2_1)).symm.trans ev16
          refine Ew_of (pcₚ := 61) (fun _ => x_iload_n rfl l14_3) ?_
          refine w_isub rfl ?_
          refine w_inv H (o := 6) rfl rfl rfl (H.perm 6 rfl) rfl rfl (by rfl) (M403b H (w2_66) ((funext (hA14 66 rfl)).trans ((funext (hA6 66 rfl)).trans ((funext (hA_14 66 rfl)).trans (ew2_66)))) (w2_67) ((funext (hA14 67 rfl)).trans ((funext (hA6 67 rfl)).trans ((funext (hA_14 67 rfl)).trans (ew2_67)))) (show inr (0) from q_20) (show inr (x2_1) from j2_0) (show inr (x14_2) from j14_0) (show inr (z15) from pz15_0) (show inr ((v16 - x14_3)) from q_2329 ev16 hl47 j14_4 qv16) (show 0 ≤ (0) ∧ (0) ≤ 2 ∧ 0 ≤ (x2_1) ∧ (x2_1) ≤ 8000 from q_1794 b2 j2_1 r1) (show 0 ≤ (x14_2) ∧ (x14_2) ≤ 63 ∧ 0 ≤ (z15) ∧ (z15) ≤ 31 from q_1793 j14_2 pz15_1) (fun σ F17 A18 H hS19 hA20 wq22 ewq23 wq24 ewq25 pz21_0 pz21_1 => ⟨rfl, ?_⟩))
          have hm65 := (show ∀ j, 0 ≤ j → j < (u6_28) → 3 ≤ ((w63)) j from h0) ((x2_1)) (by omega) (by omega)
          refine Ew_of (pcₚ := 66) (fun _ => x_iconst rfl) ?_
          refine Ew_of (pcₚ := 67) (fun _ => x_istore_n rfl) ?_
          refine Ew_of (pcₚ := 68) (fun _ => x_iconst rfl) ?_
          refine Ew_of (pcₚ := 69) (fun _ => x_istore_n rfl) ?_
          have : mBs 0 = 3 := by decide
          suffices hl69 : ∀ (m : Nat), ∀ (ls : rO) (σ : rS) (F_69 : hF) (A_69 : hA) (x69_2 : Int) (x69_3 : Int), rlook ls 0 = some (.ref (D 6)) → rlook ls 1 = some (I (x2_1)) → rlook ls 2 = some (I (x69_2)) → rlook ls 3 = some (I (x69_3)) → HS σ0 σ D N F_69 A_69 → SF [] F17 F_69 → SA [] A18 A_69 → (inr (x69_2)) → (inr (x69_3)) → (0 ≤ (x69_2) ∧ (x69_2) ≤ 49) → ((x69_3) = mBs ((x69_2))) → (0 ≤ (x69_3) ∧ (x69_3) ≤ 16384) → ((x69_3) ≤ ((w63)) ((x2_1))) → (60 - (x69_2)).toNat = m → Ew 404 (d + 1) 69 ls [] σ c s Q from
            hl69 _ _ σ _ _ (0) (3) (rk_o (rk_o (l14_0) rfl rfl) rfl rfl) (rk_o (rk_o (l14_1) rfl rfl) rfl rfl) (rk_o (rk_s) rfl rfl) (rk_s) H (SF_refl) (SA_refl)   (show inr (0) from q_20) (show inr (3) from q_66) (show 0 ≤ (0) ∧ (0) ≤ 49 from q_1797) (show (3) = mBs ((0)) by omega) (show 0 ≤ (3) ∧ (3) ≤ 16384 from q_1796) (show (3) ≤ ((w63)) ((x2_1)) by omega) rfl
          as_aux_lemma =>
          intro m
          induction m using Nat.strongRecOn with
          | _ m ih69 =>
            intro ls σ F_69 A_69 x69_2 x69_3 l69_0 l69_1 l69_2 l69_3 H hS_69 hA_69   j69_0 j69_1 j69_2 j69_3 j69_4 j69_5 hm69
            have hms := mBs_s (s := (x69_2)) (by omega) (by omega)
            refine Ew_of (pcₚ := 70) (fun _ => x_iload_n rfl l69_3) ?_
            refine Ew_of (pcₚ := 71) (fun _ => x_iconst rfl) ?_
            refine Ew_of (pcₚ := 72) (fun _ => x_iload_n rfl l69_2) ?_
            refine w_stat24 rfl rfl (by rfl) (M402 H (show inr (x69_2) from j69_0) (show 0 ≤ (x69_2) ∧ (x69_2) ≤ 52 from q_1798 j69_2) (fun z30 σ F26 A27 H hS28 hA29 pz30_0 pz30_1 pz30_2 => ⟨rfl, ?_⟩))
            have hz : p2 ((z30)) = p2 (mB ((x69_2))) := by rw [pz30_2]
            have : p2 ((z30)) ≤ p2 16 := p2_mono (by omega)
            have : p2 16 = 65536 := by decide
            have := p2_pos ((z30))
            refine w_ishl1 rfl (show 0 ≤ z30 ∧ z30 ≤ 31 from q_1467 pz30_1) ?_
            refine w_iadd rfl ?_
            refine Ew_of (pcₚ := 78) (fun _ => x_aload_n rfl l69_0) ?_
            refine w_gT H (o := 6) (t := 63) rfl (H.perm 6 rfl) rfl rfl rfl rfl rfl rfl ?_
            refine Ew_of (pcₚ := 82) (fun _ => x_iload_n rfl l69_1) ?_
            refine w_lI H (o := 63) (n := 8001) rfl (H.perm 63 rfl) rfl rfl (H.fix 63 rfl rfl) (show 0 ≤ x2_1 ∧ x2_1 < ((8001 : Nat) : Int) from q_1792 b2 j2_1 r1) (by decide) (fun v32 ev32 qv32 => ?_)
            have qv32 : (0 : Int) ≤ v32 ∧ v32 ≤ 16384 := qv32
            have ev32 : (w63) (x2_1) = v32 := (congrFun ((funext (hA29 63 rfl)).trans ((funext (hA_69 63 rfl)).trans ((funext (hA20 63 rfl)).trans ((funext (hA14 63 rfl)).trans ((funext (hA6 63 rfl)).trans ((funext (hA_14 63 rfl)).trans ((funext (hA_2 63 rfl)).trans (ew63)))))))) (x2_1)).symm.trans ev32
            have hcm := ev32
            refine w_icmpgt (t := 101) rfl rfl (show inr ((x69_3 + p2 (z30))) by omega) (show inr (v32) from q_243 qv32) (fun b33 => ?_) (fun b33 => ?_)
            · have hm46 := mB_le (s := (x69_2)) (by omega) (by omega)
              have hm47 : (x69_3) ≤ ((w63)) ((x2_1)) := j69_5
              refine Ew_of (pcₚ := 102) (fun _ => x_aload_n rfl l69_0) ?_
              refine Ew_of (pcₚ := 103) (fun _ => x_iconst rfl) ?_
              refine Ew_of (pcₚ := 104) (fun _ => x_iload_n rfl l69_1) ?_
              refine Ew_of (pcₚ := 105) (fun _ => x_iload_n rfl l69_2) ?_
              refine Ew_of (pcₚ := 106) (fun _ => x_iload_n rfl l69_2) ?_
              refine w_stat24 rfl rfl (by rfl) (M402 H (show inr (x69_2) from j69_0) (show 0 ≤ (x69_2) ∧ (x69_2) ≤ 52 from q_1798 j69_2) (fun z38 σ F34 A35 H hS36 hA37 pz38_0 pz38_1 pz38_2 => ⟨rfl, ?_⟩))
              refine Ew_of (pcₚ := 110) (fun _ => x_aload_n rfl l69_0) ?_
              refine w_gT H (o := 6) (t := 63) rfl (H.perm 6 rfl) rfl rfl rfl rfl rfl rfl ?_
              refine Ew_of (pcₚ := 114) (fun _ => x_iload_n rfl l69_1) ?_
              refine w_lI H (o := 63) (n := 8001) rfl (H.perm 63 rfl) rfl rfl (H.fix 63 rfl rfl) (show 0 ≤ x2_1 ∧ x2_1 < ((8001 : Nat) : Int) from q_1792 b2 j2_1 r1) (by decide) (fun v39 ev39 qv39 => ?_)
              have qv39 : (0 : Int) ≤ v39 ∧ v39 ≤ 16384 := qv39
              have ev39 : (w63) (x2_1) = v39 := (congrFun ((funext (hA37 63 rfl)).trans ((funext (hA29 63 rfl)).trans ((funext (hA_69 63 rfl)).trans ((funext (hA20 63 rfl)).trans ((funext (hA14 63 rfl)).trans ((funext (hA6 63 rfl)).trans ((funext (hA_14 63 rfl)).trans ((funext (hA_2 63 rfl)).trans (ew63))))))))) (x2_1)).symm.trans ev39
              refine Ew_of (pcₚ := 116) (fun _ => x_iload_n rfl l69_3) ?_
              refine w_isub rfl ?_
              refine w_inv H (o := 6) rfl rfl rfl (H.perm 6 rfl) rfl rfl (by rfl) (M403b H (wq22) ((funext (hA37 66 rfl)).trans ((funext (hA29 66 rfl)).trans ((funext (hA_69 66 rfl)).trans (ewq23)))) (wq24) ((funext (hA37 67 rfl)).trans ((funext (hA29 67 rfl)).trans ((funext (hA_69 67 rfl)).trans (ewq25)))) (show inr (2) from q_55) (show inr (x2_1) from j2_0) (show inr (x69_2) from j69_0) (show inr (z38) from pz38_0) (show inr ((v39 - x69_3)) from q_2329 ev39 hm47 j69_4 qv39) (show 0 ≤ (2) ∧ (2) ≤ 2 ∧ 0 ≤ (x2_1) ∧ (x2_1) ≤ 8000 from q_1800 b2 j2_1 r1) (show 0 ≤ (x69_2) ∧ (x69_2) ≤ 63 ∧ 0 ≤ (z38) ∧ (z38) ≤ 31 from q_1799 j69_2 pz38_1) (fun σ F40 A41 H hS42 hA43 wq45 ewq46 wq47 ewq48 pz44_0 pz44_1 => ⟨rfl, ?_⟩))
              refine Ew_of (pcₚ := 121) (fun _ => x_aload_n rfl l69_0) ?_
              refine Ew_of (pcₚ := 122) (fun _ => x_aload_n rfl l69_0) ?_
              refine w_gT H (o := 6) (t := 64) rfl (H.perm 6 rfl) rfl rfl rfl rfl rfl rfl ?_
              refine Ew_of (pcₚ := 126) (fun _ => x_iload_n rfl l69_1) ?_
              refine w_lI H (o := 64) (n := 8001) rfl (H.perm 64 rfl) rfl rfl (H.fix 64 rfl rfl) (show 0 ≤ x2_1 ∧ x2_1 < ((8001 : Nat) : Int) from q_1792 b2 j2_1 r1) (by decide) (fun v49 ev49 qv49 => ?_)
              have qv49 : (0 : Int) ≤ v49 ∧ v49 ≤ 16384 := qv49
              have ev49 : (A 64) (x2_1) = v49 := (congrFun ((funext (hA43 64 rfl)).trans ((funext (hA37 64 rfl)).trans ((funext (hA29 64 rfl)).trans ((funext (hA_69 64 rfl)).trans ((funext (hA20 64 rfl)).trans ((funext (hA14 64 rfl)).trans ((funext (hA6 64 rfl)).trans ((funext (hA_14 64 rfl)).trans (funext (hA_2 64 rfl)))))))))) (x2_1)).symm.trans ev49
              refine Ew_of (pcₚ := 128) (fun _ => x_aload_n rfl l69_0) ?_
              refine w_gT H (o := 6) (t := 62) rfl (H.perm 6 rfl) rfl rfl rfl rfl rfl rfl ?_
              refine Ew_of (pcₚ := 132) (fun _ => x_iload_n rfl l69_1) ?_
              refine w_lI H (o := 62) (n := 8001) rfl (H.perm 62 rfl) rfl rfl (H.fix 62 rfl rfl) (show 0 ≤ x2_1 ∧ x2_1 < ((8001 : Nat) : Int) from q_1792 b2 j2_1 r1) (by decide) (fun v50 ev50 qv50 => ?_)
              have qv50 : (0 : Int) ≤ v50 ∧ v50 ≤ 16384 := qv50
              have ev50 : (w62) (x2_1) = v50 := (congrFun ((funext (hA43 62 rfl)).trans ((funext (hA37 62 rfl)).trans ((funext (hA29 62 rfl)).trans ((funext (hA_69 62 rfl)).trans ((funext (hA20 62 rfl)).trans ((funext (hA14 62 rfl)).trans ((funext (hA6 62 rfl)).trans ((funext (hA_14 62 rfl)).trans ((funext (hA_2 62 rfl)).trans (ew62)))))))))) (x2_1)).symm.trans ev50
              have hc141 : ∀ (tc141_0 : Int), ∀ (ls : rO) (σ : rS) (F_c141 : hF) (A_c141 : hA) , rlook ls 0 = some (.ref (D 6)) → rlook ls 1 = some (I (x2_1)) → HS σ0 σ D N F_c141 A_c141 → SF [] F40 F_c141 → SA [] A41 A_c141 → (inr (tc141_0)) → (((v50) ≠ (0) ∧ (tc141_0) = (0)) ∨ ((v50) = (0) ∧ (tc141_0) = (1))) → Ew 404 (d + 1) 141 ls [I (tc141_0), I (v49), .ref (D 6)] σ c s Q := by
               as_aux_lemma =>
                intro tc141_0 ls σ F_c141 A_c141  lc141_0 lc141_1 H hS_c141 hA_c141   jc141_0 jc141_1
                refine w_inv H (o := 6) rfl rfl rfl (H.perm 6 rfl) rfl rfl (by rfl) (M405 H (show inr (v49) from q_243 qv49) (show inr (tc141_0) from jc141_0) (show 0 ≤ (v49) ∧ (v49) ≤ 16384 ∧ 0 ≤ (tc141_0) ∧ (tc141_0) ≤ 1 from q_1801 jc141_1 qv49) (fun z55 σ F51 A52 H hS53 hA54 pz55_0 pz55_1 => ⟨rfl, ?_⟩))
                refine Ew_of (pcₚ := 146) (fun _ => x_istore rfl) ?_
                refine Ew_of (pcₚ := 148) (fun _ => x_iload rfl rk_s) ?_
                refine w_stat24 rfl rfl (by rfl) (M400 H (show inr (z55) from pz55_0) (show 1 ≤ (z55) from q_1802 pz55_1) (fun z60 σ F56 A57 H hS58 hA59 pz60_0 pz60_1 pz60_2 => ⟨rfl, ?_⟩))
                have hp15 : (z60) < 15 := p2_lt (by omega) (by rw [show p2 15 = 32768 from by decide]; omega)
                refine Ew_of (pcₚ := 152) (fun _ => x_istore_n rfl) ?_
                refine Ew_of (pcₚ := 153) (fun _ => x_aload_n rfl (rk_o (rk_o (lc141_0) rfl rfl) rfl rfl)) ?_
                refine Ew_of (pcₚ := 154) (fun _ => x_iconst rfl) ?_
                refine Ew_of (pcₚ := 155) (fun _ => x_iload_n rfl (rk_o (rk_o (lc141_1) rfl rfl) rfl rfl)) ?_
                refine Ew_of (pcₚ := 156) (fun _ => x_iload_n rfl rk_s) ?_
                refine Ew_of (pcₚ := 157) (fun _ => x_iload_n rfl rk_s) ?_
                refine Ew_of (pcₚ := 159) (fun _ => x_iload rfl (rk_o (rk_s) rfl rfl)) ?_
                refine Ew_of (pcₚ := 160) (fun _ => x_iconst rfl) ?_
                refine Ew_of (pcₚ := 161) (fun _ => x_iload_n rfl rk_s) ?_
                refine w_ishl1 rfl (show 0 ≤ z60 ∧ z60 ≤ 31 from q_2330 hp15 pz60_1) ?_
                refine w_isub rfl ?_
                refine w_inv H (o := 6) rfl rfl rfl (H.perm 6 rfl) rfl rfl (by rfl) (M403b H (wq45) ((funext (hA59 66 rfl)).trans ((funext (hA54 66 rfl)).trans ((funext (hA_c141 66 rfl)).trans (ewq46)))) (wq47) ((funext (hA59 67 rfl)).trans ((funext (hA54 67 rfl)).trans ((funext (hA_c141 67 rfl)).trans (ewq48)))) (show inr (1) from q_23) (show inr (x2_1) from j2_0) (show inr (z60) from pz60_0) (show inr (z60) from pz60_0) (show inr ((z55 - p2 (z60))) from q_1806 pz55_0 pz60_2) (show 0 ≤ (1) ∧ (1) ≤ 2 ∧ 0 ≤ (x2_1) ∧ (x2_1) ≤ 8000 from q_1805 b2 j2_1 r1) (show 0 ≤ (z60) ∧ (z60) ≤ 63 ∧ 0 ≤ (z60) ∧ (z60) ≤ 31 from q_2331 hp15 pz60_1) (fun σ F62 A63 H hS64 hA65 wq67 ewq68 wq69 ewq70 pz66_0 pz66_1 => ⟨rfl, ?_⟩))
                have : TLI ((wq67)) ((wq69)) ((w62)) ((w63)) ((x2_1) + 1) := TLI_next j2_t (by omega) (by omega) rfl pz21_0 pz21_1 pz44_0 pz44_1 pz66_0 pz66_1 (by omega) (by omega) (by omega) (by omega)
                refine Ew_of (pcₚ := 169) (fun _ => x_iinc (len := 3) rfl (rk_o (rk_o (lc141_1) rfl rfl) rfl rfl)) ?_
                refine Ew_of (pcₚ := 2) (fun _ => x_goto rfl rfl) ?_
                exact ih2 _ (msE hm2 q_31 (q_34 b2)) _ σ _ _ ((x2_1 + 1)) (rk_o (rk_o (rk_o (lc141_0) rfl rfl) rfl rfl) rfl rfl) (rk_s) H (SF_trans (SF_trans (SF_trans (SF_trans (SF_trans (SF_trans (SF_trans (SF_trans (SF_trans (SF_trans (SF_trans (SF_trans (hS_2) hS_14 (any_sub rfl)) hS5 (any_sub rfl)) hS13 (any_sub rfl)) hS19 (any_sub rfl)) hS_69 (any_sub rfl)) hS28 (any_sub rfl)) hS36 (any_sub rfl)) hS42 (any_sub rfl)) hS_c141 (any_sub rfl)) hS53 (any_sub rfl)) hS58 (any_sub rfl)) hS64 (any_sub rfl)) (SA_trans (SA_trans (SA_trans (SA_trans (SA_trans (SA_trans (SA_trans (SA_trans (SA_trans (SA_trans (SA_trans (SA_trans (hA_2) hA_14 (any_subA rfl)) hA6 (any_subA rfl)) hA14 (any_subA rfl)) hA20 (any_subA rfl)) hA_69 (any_subA rfl)) hA29 (any_subA rfl)) hA37 (any_subA rfl)) hA43 (any_subA rfl)) hA_c141 (any_subA rfl)) hA54 (any_subA rfl)) hA59 (any_subA rfl)) hA65 (any_subA rfl))  (wq67) (ewq68) (wq69) (ewq70) (show inr ((x2_1 + 1)) from q_1807 b2 j2_1 r1) (show (0) ≤ ((x2_1 + 1)) from q_29 j2_1) (show ((x2_1 + 1)) ≤ (0) ∨ ((x2_1 + 1)) ≤ ((u6_28)) from q_33 b2) (show TLI ((wq67)) ((wq69)) ((w62)) ((w63)) (((x2_1 + 1))) by assumption) rfl
              refine w_ifne (t := 140) rfl rfl (show inr (v50) from q_243 qv50) (fun b71 => ?_) (fun b71 => ?_)
              · refine Ew_of (pcₚ := 141) (fun _ => x_iconst rfl) ?_
                exact hc141 (0) _ σ _ _  (l69_0) (l69_1) H (SF_refl) (SA_refl)   (show inr (0) from q_20) (show ((v50) ≠ (0) ∧ (0) = (0)) ∨ ((v50) = (0) ∧ (0) = (1)) from q_1808 b71)
              · refine Ew_of (pcₚ := 137) (fun _ => x_iconst rfl) ?_
                refine Ew_of (pcₚ := 141) (fun _ => x_goto rfl rfl) ?_
                exact hc141 (1) _ σ _ _  (l69_0) (l69_1) H (SF_refl) (SA_refl)   (show inr (1) from q_23) (show ((v50) ≠ (0) ∧ (1) = (0)) ∨ ((v50) = (0) ∧ (1) = (1)) from q_1809 b71)
            · refine Ew_of (pcₚ := 87) (fun _ => x_iload_n rfl l69_3) ?_
              refine Ew_of (pcₚ := 88) (fun _ => x_iconst rfl) ?_
              refine Ew_of (pcₚ := 89) (fun _ => x_iload_n rfl l69_2) ?_
              refine w_stat24 rfl rfl (by rfl) (M402 H (show inr (x69_2) from j69_0) (show 0 ≤ (x69_2) ∧ (x69_2) ≤ 52 from q_1798 j69_2) (fun z76 σ F72 A73 H hS74 hA75 pz76_0 pz76_1 pz76_2 => ⟨rfl, ?_⟩))
              have hz : p2 ((z76)) = p2 (mB ((x69_2))) := by rw [pz76_2]
              have : p2 ((z76)) ≤ p2 16 := p2_mono (by omega)
              have : p2 16 = 65536 := by decide
              have := p2_pos ((z76))
              refine w_ishl1 rfl (show 0 ≤ z76 ∧ z76 ≤ 31 from q_1467 pz76_1) ?_
              refine w_iadd rfl ?_
              refine Ew_of (pcₚ := 95) (fun _ => x_istore_n rfl) ?_
              have : (x69_2) + 1 ≤ 49 := mBs_bd (by omega) (by omega) (by omega)
              refine Ew_of (pcₚ := 98) (fun _ => x_iinc (len := 3) rfl (rk_o (l69_2) rfl rfl)) ?_
              refine Ew_of (pcₚ := 69) (fun _ => x_goto rfl rfl) ?_
              exact ih69 _ (msE hm69 q_1811 (q_1812 j69_2)) _ σ _ _ ((x69_2 + 1)) ((x69_3 + p2 (z76))) (rk_o (rk_o (l69_0) rfl rfl) rfl rfl) (rk_o (rk_o (l69_1) rfl rfl) rfl rfl) (rk_s) (rk_o (rk_s) rfl rfl) H (SF_trans (SF_trans (hS_69) hS28 (any_sub rfl)) hS74 (any_sub rfl)) (SA_trans (SA_trans (hA_69) hA29 (any_subA rfl)) hA75 (any_subA rfl))   (show inr ((x69_2 + 1)) from q_1810 j69_2) (show inr ((x69_3 + p2 (z76))) by omega) (show 0 ≤ ((x69_2 + 1)) ∧ ((x69_2 + 1)) ≤ 49 by omega) (show ((x69_3 + p2 (z76))) = mBs (((x69_2 + 1))) by omega) (show 0 ≤ ((x69_3 + p2 (z76))) ∧ ((x69_3 + p2 (z76))) ≤ 16384 by omega) (show ((x69_3 + p2 (z76))) ≤ ((w63)) ((x2_1)) by omega) rfl
        · refine Ew_of (pcₚ := 32) (fun _ => x_iload_n rfl l14_3) ?_
          refine Ew_of (pcₚ := 33) (fun _ => x_iconst rfl) ?_
          refine Ew_of (pcₚ := 34) (fun _ => x_iload_n rfl l14_2) ?_
          refine w_stat24 rfl rfl (by rfl) (M401 H (show inr (x14_2) from j14_0) (show 0 ≤ (x14_2) ∧ (x14_2) ≤ 35 from q_1791 j14_2) (fun z82 σ F78 A79 H hS80 hA81 pz82_0 pz82_1 pz82_2 => ⟨rfl, ?_⟩))
          have hz : p2 ((z82)) = p2 (lB ((x14_2))) := by rw [pz82_2]
          have : p2 ((z82)) ≤ p2 16 := p2_mono (by omega)
          have : p2 16 = 65536 := by decide
          have := p2_pos ((z82))
          refine w_ishl1 rfl (show 0 ≤ z82 ∧ z82 ≤ 31 from q_1467 pz82_1) ?_
          refine w_iadd rfl ?_
          refine Ew_of (pcₚ := 40) (fun _ => x_istore_n rfl) ?_
          have : (x14_2) + 1 ≤ 33 := lBs_bd (by omega) (by omega) (by omega)
          refine Ew_of (pcₚ := 43) (fun _ => x_iinc (len := 3) rfl (rk_o (l14_2) rfl rfl)) ?_
          refine Ew_of (pcₚ := 14) (fun _ => x_goto rfl rfl) ?_
          exact ih14 _ (msE hm14 q_1814 (q_1815 j14_2)) _ σ _ _ ((x14_2 + 1)) ((x14_3 + p2 (z82))) (rk_o (rk_o (l14_0) rfl rfl) rfl rfl) (rk_o (rk_o (l14_1) rfl rfl) rfl rfl) (rk_s) (rk_o (rk_s) rfl rfl) H (SF_trans (SF_trans (hS_14) hS5 (any_sub rfl)) hS80 (any_sub rfl)) (SA_trans (SA_trans (hA_14) hA6 (any_subA rfl)) hA81 (any_subA rfl))   (show inr ((x14_2 + 1)) from q_1813 j14_2) (show inr ((x14_3 + p2 (z82))) by omega) (show 0 ≤ ((x14_2 + 1)) ∧ ((x14_2 + 1)) ≤ 33 by omega) (show ((x14_3 + p2 (z82))) = lBs (((x14_2 + 1))) by omega) (show 0 ≤ ((x14_3 + p2 (z82))) ∧ ((x14_3 + p2 (z82))) ≤ 16384 by omega) (show ((x14_3 + p2 (z82))) ≤ ((w62)) ((x2_1)) by omega) rfl
