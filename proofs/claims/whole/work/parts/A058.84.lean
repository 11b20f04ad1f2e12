section
/-! 84.ref -/
theorem M399b {σ0 σ : rS} {D N : Nat → Nat} {F : hF} {A : hA} {d c s : Nat} {Q : wQ} (H : HS σ0 σ D N F A) {a1 : Int} (u6_1 : Int) (eu6_1 : F 6 1 = u6_1) (u6_2 : Int) (eu6_2 : F 6 2 = u6_2) (u6_22 : Int) (eu6_22 : F 6 22 = u6_22) (u6_24 : Int) (eu6_24 : F 6 24 = u6_24) (w61 : Int → Int) (ew61 : A 61 = w61) (h0 : inr (a1)) (h1 : 0 ≤ (a1) ∧ (a1) ≤ (u6_22)) (h2 : 0 ≤ (u6_22) ∧ (u6_22) ≤ 16384) (h3 : 3 ≤ (u6_2) ∧ (u6_2) ≤ 8) (h4 : 0 ≤ (u6_1) ∧ (u6_1) ≤ 3) (k : ∀ σ Fₚ Aₚ, HS σ0 σ D N Fₚ Aₚ → SF [(6, 23), (6, 28), (6, 30)] F Fₚ → SA [62, 63, 64, 65] A Aₚ → ∀ y6_28 : Int, Fₚ 6 28 = y6_28 → ∀ y6_30 : Int, Fₚ 6 30 = y6_30 → ∀ v62 : Int → Int, Aₚ 62 = v62 → ∀ v63 : Int → Int, Aₚ 63 = v63 → ∀ v64 : Int → Int, Aₚ 64 = v64 → ∀ v65 : Int → Int, Aₚ 65 = v65 → (3 * (y6_28) + (y6_30) ≤ (u6_22) - (a1)) → (GOR (MTL ((w61)) ((u6_22)) ((u6_24)) ((u6_2)) ((u6_1)) ((u6_22) - (u6_2))) ((w61)) ((u6_22)) ((a1)) ((v62)) ((v63)) ((v64)) ((y6_28)) ((v65)) ((y6_30))) → (GOE ((v62)) ((v63)) ((y6_28)) ((u6_22) - (a1))) → Q none σ c s) : Ew 399 (d + 3) 0 (rargs 0 [.ref (D 6), I a1]) [] σ c s Q := by
  have r1 : (0 : Int) ≤ u6_1 ∧ u6_1 ≤ 3 := rngE (show (0 : Int) ≤ F 6 1 ∧ F 6 1 ≤ 3 from H.frng 6 1) (show F 6 1 = u6_1 from (eu6_1))
  have r2 : (0 : Int) ≤ u6_2 ∧ u6_2 ≤ 8 := rngE (show (0 : Int) ≤ F 6 2 ∧ F 6 2 ≤ 8 from H.frng 6 2) (show F 6 2 = u6_2 from (eu6_2))
  have r3 : (0 : Int) ≤ u6_22 ∧ u6_22 ≤ 16384 := rngE (show (0 : Int) ≤ F 6 22 ∧ F 6 22 ≤ 16384 from H.frng 6 22) (show F 6 22 = u6_22 from (eu6_22))
  have r4 : (0 : Int) ≤ u6_24 ∧ u6_24 ≤ 16777216 := rngE (show (0 : Int) ≤ F 6 24 ∧ F 6 24 ≤ 16777216 from H.frng 6 24) (show F 6 24 = u6_24 from (eu6_24))
  refine Ew_of (pcₚ := 1) (fun _ => x_aload_n rfl rfl) ?_
  refine Ew_of (pcₚ := 2) (fun _ => x_iconst rfl) ?_
  refine w_pI H (o := 6) rfl rfl (H.perm 6 rfl) rfl rfl rfl (fun _ => rfl) rfl (show (0 : Int) ≤ 0 ∧ 0 ≤ 8001 from q_2036) (fun σ H => ?_)
  refine Ew_of (pcₚ := 6) (fun _ => x_aload_n rfl rfl) ?_
  refine Ew_of (pcₚ := 7) (fun _ => x_iconst rfl) ?_
  refine w_pI H (o := 6) rfl rfl (H.perm 6 rfl) rfl rfl rfl (fun _ => rfl) rfl (show (0 : Int) ≤ 0 ∧ 0 ≤ 16385 from q_2037) (fun σ H => ?_)
  refine Ew_of (pcₚ := 11) (fun _ => x_iconst rfl) ?_
  refine Ew_of (pcₚ := 12) (fun _ => x_istore_n rfl) ?_
  refine Ew_of (pcₚ := 13) (fun _ => x_iload_n rfl (rk_o (rfl) rfl rfl)) ?_
  refine Ew_of (pcₚ := 14) (fun _ => x_istore_n rfl) ?_
  have : GOW (MTL ((w61)) ((u6_22)) ((u6_24)) ((u6_2)) ((u6_1)) ((u6_22) - (u6_2))) ((w61)) ((u6_22)) ((a1)) ((a1)) (0) ((A 62)) ((A 63)) ((A 64)) 0 ((A 65)) 0 := GOW_0
  have : GOI ((A 62)) ((A 63)) ((0)) ((a1) - (a1) - 0) := GOI_c GOI_0 (by omega)
  suffices hl14 : ∀ (m : Nat), ∀ (ls : rO) (σ : rS) (F_14 : hF) (A_14 : hA) (x14_2 : Int) (x14_3 : Int), rlook ls 0 = some (.ref (D 6)) → rlook ls 2 = some (I (x14_2)) → rlook ls 3 = some (I (x14_3)) → HS σ0 σ D N F_14 A_14 → SF [(6, 23), (6, 28), (6, 30)] (updF (updF F 6 28 (0)) 6 30 (0)) F_14 → SA [62, 63, 64, 65] A A_14 → ∀ y14_6_28 : Int, F_14 6 28 = y14_6_28 → ∀ y14_6_30 : Int, F_14 6 30 = y14_6_30 → ∀ w14_62 : Int → Int, A_14 62 = w14_62 → ∀ w14_63 : Int → Int, A_14 63 = w14_63 → ∀ w14_64 : Int → Int, A_14 64 = w14_64 → ∀ w14_65 : Int → Int, A_14 65 = w14_65 → (inr (x14_2)) → (inr (x14_3)) → ((a1) ≤ (x14_3) ∧ (x14_3) ≤ (u6_22)) → (0 ≤ (x14_2) ∧ (x14_2) ≤ (x14_3) - (a1)) → (3 * (y14_6_28) + (y14_6_30) ≤ (x14_3) - (a1)) → (0 ≤ (y14_6_28) ∧ 0 ≤ (y14_6_30)) → (GOW (MTL ((w61)) ((u6_22)) ((u6_24)) ((u6_2)) ((u6_1)) ((u6_22) - (u6_2))) ((w61)) ((u6_22)) ((a1)) ((x14_3)) ((x14_2)) ((w14_62)) ((w14_63)) ((w14_64)) ((y14_6_28)) ((w14_65)) ((y14_6_30))) → (GOI ((w14_62)) ((w14_63)) ((y14_6_28)) ((x14_3) - (a1) - (x14_2))) → ((u6_22) - (x14_3)).toNat = m → Ew 399 (d + 3) 14 ls [] σ c s Q from
    hl14 _ _ σ _ _ (0) (a1) (rk_o (rk_o (rfl) rfl rfl) rfl rfl) (rk_o (rk_s) rfl rfl) (rk_s) H (SF_refl) (SA_refl) (0) (rfl) (0) (rfl) (A 62) (rfl) (A 63) (rfl) (A 64) (rfl) (A 65) (rfl) (show inr (0) from q_2) (show inr (a1) from h0) (show (a1) ≤ (a1) ∧ (a1) ≤ (u6_22) from q_988 h1) (show 0 ≤ (0) ∧ (0) ≤ (a1) - (a1) from q_2039) (show 3 * (0) + (0) ≤ (a1) - (a1) from q_2038) (show 0 ≤ (0) ∧ 0 ≤ (0) from q_4) (show GOW (MTL ((w61)) ((u6_22)) ((u6_24)) ((u6_2)) ((u6_1)) ((u6_22) - (u6_2))) ((w61)) ((u6_22)) ((a1)) ((a1)) ((0)) ((A 62)) ((A 63)) ((A 64)) ((0)) ((A 65)) ((0)) by assumption) (show GOI ((A 62)) ((A 63)) ((0)) ((a1) - (a1) - (0)) by assumption) rfl
  as_aux_lemma =>
  intro m
  induction m using Nat.strongRecOn with
  | _ m ih14 =>
    intro ls σ F_14 A_14 x14_2 x14_3 l14_0 l14_2 l14_3 H hS_14 hA_14 y14_6_28 ey14_6_28 y14_6_30 ey14_6_30 w14_62 ew14_62 w14_63 ew14_63 w14_64 ew14_64 w14_65 ew14_65 j14_0 j14_1 j14_2 j14_3 j14_4 j14_5 j14_6 j14_7 hm14
    have r5 : (0 : Int) ≤ y14_6_28 ∧ y14_6_28 ≤ 8001 := rngE (show (0 : Int) ≤ F_14 6 28 ∧ F_14 6 28 ≤ 8001 from H.frng 6 28) (show F_14 6 28 = y14_6_28 from (ey14_6_28))
    have r6 : (0 : Int) ≤ y14_6_30 ∧ y14_6_30 ≤ 16385 := rngE (show (0 : Int) ≤ F_14 6 30 ∧ F_14 6 30 ≤ 16385 from H.frng 6 30) (show F_14 6 30 = y14_6_30 from (ey14_6_30))
    have j14_g : GOW (MTL ((w61)) ((u6_22)) ((u6_24)) ((u6_2)) ((u6_1)) ((u6_22) - (u6_2))) ((w61)) ((u6_22)) ((a1)) ((x14_3)) ((x14_2)) ((w14_62)) ((w14_63)) ((w14_64)) ((y14_6_28)) ((w14_65)) ((y14_6_30)) := j14_6
    have j14_go : GOI ((w14_62)) ((w14_63)) ((y14_6_28)) ((x14_3) - (a1) - (x14_2)) := j14_7
    refine Ew_of (pcₚ := 15) (fun _ => x_iload_n rfl l14_3) ?_
    refine Ew_of (pcₚ := 16) (fun _ => x_aload_n rfl l14_0) ?_
    refine w_gI H (o := 6) (w := u6_22) rfl (H.perm 6 rfl) rfl rfl rfl (fun _ => rfl) ((hS_14 6 22 rfl).trans (eu6_22)) ?_
    refine w_icmpge (t := 124) rfl rfl (show inr (x14_3) from j14_1) (show inr (u6_22) from q_481 r3) (fun b7 => ?_) (fun b7 => ?_)
    · have : GOR (MTL ((w61)) ((u6_22)) ((u6_24)) ((u6_2)) ((u6_1)) ((u6_22) - (u6_2))) ((w61)) ((u6_22)) ((a1)) ((w14_62)) ((w14_63)) ((w14_64)) ((y14_6_28)) ((w14_65)) ((y14_6_30)) := GOW_end j14_g (by omega) (by omega)
      have : GOE ((w14_62)) ((w14_63)) ((y14_6_28)) ((u6_22) - (a1)) := GOE_of j14_go (by omega)
      exact w_ret rfl (k σ _ _ H (SF_trans (SF_upd (SF_upd (SF_refl) rfl) rfl) hS_14 (any_sub rfl)) (SA_trans (SA_refl) hA_14 (any_subA rfl)) (y14_6_28) ((ey14_6_28)) (y14_6_30) ((ey14_6_30)) (w14_62) (ew14_62) (w14_63) (ew14_63) (w14_64) (ew14_64) (w14_65) (ew14_65) (show 3 * (y14_6_28) + (y14_6_30) ≤ (u6_22) - a1 from q_2040 j14_2 j14_4) (show GOR (MTL ((w61)) ((u6_22)) ((u6_24)) ((u6_2)) ((u6_1)) ((u6_22) - (u6_2))) ((w61)) ((u6_22)) (a1) ((w14_62)) ((w14_63)) ((w14_64)) ((y14_6_28)) ((w14_65)) ((y14_6_30)) by assumption) (show GOE ((w14_62)) ((w14_63)) ((y14_6_28)) ((u6_22) - a1) by assumption))
    · refine Ew_of (pcₚ := 23) (fun _ => x_aload_n rfl l14_0) ?_
      refine Ew_of (pcₚ := 24) (fun _ => x_iload_n rfl l14_3) ?_
      refine w_inv H (o := 6) rfl rfl rfl (H.perm 6 rfl) rfl rfl (by rfl) (M398 H (u6_1) (((hS_14 6 1 rfl).trans (eu6_1))) (u6_2) (((hS_14 6 2 rfl).trans (eu6_2))) (u6_22) (((hS_14 6 22 rfl).trans (eu6_22))) (u6_24) (((hS_14 6 24 rfl).trans (eu6_24))) (w61) ((funext (hA_14 61 rfl)).trans (ew61)) (show inr (x14_3) from j14_1) (show 0 ≤ (x14_3) ∧ (x14_3) < (u6_22) from q_2041 b7 h1 j14_2) (show 0 ≤ (u6_22) ∧ (u6_22) ≤ 16384 from r3) (show 3 ≤ (u6_2) ∧ (u6_2) ≤ 8 from h3) (show 0 ≤ (u6_1) ∧ (u6_1) ≤ 3 from r1) (fun z12 σ F8 A9 H hS10 hA11 y13 ey14 pz12_0 pz12_1 pz12_2 pz12_3 => ⟨rfl, ?_⟩))
      have r15 : (0 : Int) ≤ y13 ∧ y13 ≤ 16384 := rngE (show (0 : Int) ≤ F8 6 23 ∧ F8 6 23 ≤ 16384 from H.frng 6 23) (show F8 6 23 = y13 from (ey14))
      have htk : ∀ r, (z12) = r → MTL ((w61)) ((u6_22)) ((u6_24)) ((u6_2)) ((u6_1)) ((u6_22) - (u6_2)) ((x14_3)) (r) ((x14_3) - (y13)) := fun r e => e ▸ pz12_3
      refine Ew_of (pcₚ := 29) (fun _ => x_istore rfl) ?_
      refine Ew_of (pcₚ := 31) (fun _ => x_iload rfl rk_s) ?_
      refine w_ifne (t := 68) rfl rfl (show inr (z12) from pz12_0) (fun b16 => ?_) (fun b16 => ?_)
      · refine Ew_of (pcₚ := 69) (fun _ => x_aload_n rfl (rk_o (l14_0) rfl rfl)) ?_
        refine w_gT H (o := 6) (t := 62) rfl (H.perm 6 rfl) rfl rfl rfl rfl rfl rfl ?_
        refine Ew_of (pcₚ := 73) (fun _ => x_aload_n rfl (rk_o (l14_0) rfl rfl)) ?_
        refine w_gI H (o := 6) (w := y14_6_28) rfl (H.perm 6 rfl) rfl rfl rfl (fun _ => rfl) ((hS10 6 28 rfl).trans (ey14_6_28)) ?_
        refine Ew_of (pcₚ := 77) (fun _ => x_iload_n rfl (rk_o (l14_2) rfl rfl)) ?_
        refine w_sI H (o := 62) (n := 8001) rfl (H.perm 62 rfl) rfl rfl (H.fix 62 rfl rfl) (show 0 ≤ y14_6_28 ∧ y14_6_28 < ((8001 : Nat) : Int) by omega) (by decide) (show (0 : Int) ≤ x14_2 ∧ x14_2 ≤ 16384 from q_2042 b7 h1 j14_3 r3) (fun σ H => ?_)
        refine Ew_of (pcₚ := 79) (fun _ => x_aload_n rfl (rk_o (l14_0) rfl rfl)) ?_
        refine w_gT H (o := 6) (t := 63) rfl (H.perm 6 rfl) rfl rfl rfl rfl rfl rfl ?_
        refine Ew_of (pcₚ := 83) (fun _ => x_aload_n rfl (rk_o (l14_0) rfl rfl)) ?_
        refine w_gI H (o := 6) (w := y14_6_28) rfl (H.perm 6 rfl) rfl rfl rfl (fun _ => rfl) ((hS10 6 28 rfl).trans (ey14_6_28)) ?_
        refine Ew_of (pcₚ := 88) (fun _ => x_iload rfl rk_s) ?_
        refine w_sI H (o := 63) (n := 8001) rfl (H.perm 63 rfl) rfl rfl (H.fix 63 rfl rfl) (show 0 ≤ y14_6_28 ∧ y14_6_28 < ((8001 : Nat) : Int) by omega) (by decide) (show (0 : Int) ≤ z12 ∧ z12 ≤ 16384 from q_2043 pz12_1 pz12_2 r15 r3) (fun σ H => ?_)
        refine Ew_of (pcₚ := 90) (fun _ => x_aload_n rfl (rk_o (l14_0) rfl rfl)) ?_
        refine w_gT H (o := 6) (t := 64) rfl (H.perm 6 rfl) rfl rfl rfl rfl rfl rfl ?_
        refine Ew_of (pcₚ := 94) (fun _ => x_aload_n rfl (rk_o (l14_0) rfl rfl)) ?_
        refine w_gI H (o := 6) (w := y14_6_28) rfl (H.perm 6 rfl) rfl rfl rfl (fun _ => rfl) ((hS10 6 28 rfl).trans (ey14_6_28)) ?_
        refine Ew_of (pcₚ := 98) (fun _ => x_iload_n rfl (rk_o (l14_3) rfl rfl)) ?_
        refine Ew_of (pcₚ := 99) (fun _ => x_aload_n rfl (rk_o (l14_0) rfl rfl)) ?_
        refine w_gI H (o := 6) (w := y13) rfl (H.perm 6 rfl) rfl rfl rfl (fun _ => rfl) (ey14) ?_
        refine w_isub rfl ?_
        refine w_sI H (o := 64) (n := 8001) rfl (H.perm 64 rfl) rfl rfl (H.fix 64 rfl rfl) (show 0 ≤ y14_6_28 ∧ y14_6_28 < ((8001 : Nat) : Int) by omega) (by decide) (show (0 : Int) ≤ (x14_3 - y13) ∧ (x14_3 - y13) ≤ 16384 by omega) (fun σ H => ?_)
        refine Ew_of (pcₚ := 105) (fun _ => x_aload_n rfl (rk_o (l14_0) rfl rfl)) ?_
        refine Ew_of (pcₚ := 106) (fun _ => x_dup rfl rfl) ?_
        refine w_gI H (o := 6) (w := y14_6_28) rfl (H.perm 6 rfl) rfl rfl rfl (fun _ => rfl) ((hS10 6 28 rfl).trans (ey14_6_28)) ?_
        refine Ew_of (pcₚ := 110) (fun _ => x_iconst rfl) ?_
        refine w_iadd rfl ?_
        refine w_pI H (o := 6) rfl rfl (H.perm 6 rfl) rfl rfl rfl (fun _ => rfl) rfl (show (0 : Int) ≤ (y14_6_28 + 1) ∧ (y14_6_28 + 1) ≤ 8001 by omega) (fun σ H => ?_)
        refine Ew_of (pcₚ := 115) (fun _ => x_iconst rfl) ?_
        refine Ew_of (pcₚ := 116) (fun _ => x_istore_n rfl) ?_
        refine Ew_of (pcₚ := 117) (fun _ => x_iload_n rfl (rk_o (rk_o (l14_3) rfl rfl) rfl rfl)) ?_
        refine Ew_of (pcₚ := 119) (fun _ => x_iload rfl (rk_o (rk_s) rfl rfl)) ?_
        refine w_iadd rfl ?_
        refine Ew_of (pcₚ := 121) (fun _ => x_istore_n rfl) ?_
        refine Ew_of (pcₚ := 14) (fun _ => x_goto rfl rfl) ?_
        have : GOW (MTL ((w61)) ((u6_22)) ((u6_24)) ((u6_2)) ((u6_1)) ((u6_22) - (u6_2))) ((w61)) ((u6_22)) ((a1)) (((x14_3 + z12))) ((0)) ((upd1 (w14_62) (y14_6_28) (x14_2))) ((upd1 (w14_63) (y14_6_28) (z12))) ((upd1 (w14_64) (y14_6_28) ((x14_3 - y13)))) (((y14_6_28 + 1))) ((w14_65)) ((y14_6_30)) := by first | exact GOW_skip j14_g (by omega) (htk 0 (by omega)) (by omega) (by omega) rfl rfl rfl hv.symm | exact GOW_take j14_g (by omega) (by omega) (htk _ rfl) (by omega) rfl rfl rfl
        have : GOI ((upd1 (w14_62) (y14_6_28) (x14_2))) ((upd1 (w14_63) (y14_6_28) (z12))) (((y14_6_28 + 1))) (((x14_3 + z12)) - (a1) - (0)) := by first | exact GOI_c j14_go (by omega) | exact GOI_next j14_go (by omega) rfl (by omega) (by omega)
        exact ih14 _ (by omega) _ σ _ _ (0) ((x14_3 + z12)) (rk_o (rk_o (rk_o (l14_0) rfl rfl) rfl rfl) rfl rfl) (rk_o (rk_s) rfl rfl) (rk_s) H (SF_upd (SF_trans (hS_14) hS10 (any_sub rfl)) rfl) (SA_upd (SA_upd (SA_upd (SA_trans (hA_14) hA11 (any_subA rfl)) rfl) rfl) rfl) ((y14_6_28 + 1)) (rfl) (y14_6_30) (((hS10 6 30 rfl).trans (ey14_6_30))) (upd1 (w14_62) (y14_6_28) (x14_2)) (congrArg (fun q => upd1 q (y14_6_28) (x14_2)) ((funext (hA11 62 rfl)).trans (ew14_62))) (upd1 (w14_63) (y14_6_28) (z12)) (congrArg (fun q => upd1 q (y14_6_28) (z12)) ((funext (hA11 63 rfl)).trans (ew14_63))) (upd1 (w14_64) (y14_6_28) ((x14_3 - y13))) (congrArg (fun q => upd1 q (y14_6_28) ((x14_3 - y13))) ((funext (hA11 64 rfl)).trans (ew14_64))) (w14_65) ((funext (hA11 65 rfl)).trans (ew14_65)) (show inr (0) from q_2) (show inr ((x14_3 + z12)) from q_2047 j14_1 pz12_1 pz12_2 r3) (show (a1) ≤ ((x14_3 + z12)) ∧ ((x14_3 + z12)) ≤ (u6_22) from q_2046 b7 j14_2 pz12_1 pz12_2) (show 0 ≤ (0) ∧ (0) ≤ ((x14_3 + z12)) - (a1) from q_2045 j14_2 pz12_1) (show 3 * ((y14_6_28 + 1)) + (y14_6_30) ≤ ((x14_3 + z12)) - (a1) by omega) (show 0 ≤ ((y14_6_28 + 1)) ∧ 0 ≤ (y14_6_30) from q_2044 r5 r6) (show GOW (MTL ((w61)) ((u6_22)) ((u6_24)) ((u6_2)) ((u6_1)) ((u6_22) - (u6_2))) ((w61)) ((u6_22)) ((a1)) (((x14_3 + z12))) ((0)) ((upd1 (w14_62) (y14_6_28) (x14_2))) ((upd1 (w14_63) (y14_6_28) (z12))) ((upd1 (w14_64) (y14_6_28) ((x14_3 - y13)))) (((y14_6_28 + 1))) ((w14_65)) ((y14_6_30)) by assumption) (show GOI ((upd1 (w14_62) (y14_6_28) (x14_2))) ((upd1 (w14_63) (y14_6_28) (z12))) (((y14_6_28 + 1))) (((x14_3 + z12)) - (a1) - (0)) by assumption) rfl
      · refine Ew_of (pcₚ := 35) (fun _ => x_aload_n rfl (rk_o (l14_0) rfl rfl)) ?_
        refine w_gT H (o := 6) (t := 65) rfl (H.perm 6 rfl) rfl rfl rfl rfl rfl rfl ?_
        refine Ew_of (pcₚ := 39) (fun _ => x_aload_n rfl (rk_o (l14_0) rfl rfl)) ?_
        refine w_gI H (o := 6) (w := y14_6_30) rfl (H.perm 6 rfl) rfl rfl rfl (fun _ => rfl) ((hS10 6 30 rfl).trans (ey14_6_30)) ?_
        refine Ew_of (pcₚ := 43) (fun _ => x_aload_n rfl (rk_o (l14_0) rfl rfl)) ?_
        refine w_gT H (o := 6) (t := 61) rfl (H.perm 6 rfl) rfl rfl rfl rfl rfl rfl ?_
        refine Ew_of (pcₚ := 47) (fun _ => x_iload_n rfl (rk_o (l14_3) rfl rfl)) ?_
        refine w_lI H (o := 61) (n := 16384) rfl (H.perm 61 rfl) rfl rfl (H.fix 61 rfl rfl) (show 0 ≤ x14_3 ∧ x14_3 < ((16384 : Nat) : Int) from q_2048 b7 h1 j14_2 r3) (by decide) (fun v17 ev17 qv17 => ?_)
        have qv17 : (0 : Int) ≤ v17 ∧ v17 ≤ 255 := qv17
        have ev17 : (w61) (x14_3) = v17 := (congrFun ((funext (hA11 61 rfl)).trans ((funext (hA_14 61 rfl)).trans (ew61))) (x14_3)).symm.trans ev17
        have hv := ev17
        refine w_sI H (o := 65) (n := 16385) rfl (H.perm 65 rfl) rfl rfl (H.fix 65 rfl rfl) (show 0 ≤ y14_6_30 ∧ y14_6_30 < ((16385 : Nat) : Int) from q_2049 b7 h1 j14_4 j14_5 r3 r6) (by decide) (show (0 : Int) ≤ v17 ∧ v17 ≤ 255 from qv17) (fun σ H => ?_)
        refine Ew_of (pcₚ := 50) (fun _ => x_aload_n rfl (rk_o (l14_0) rfl rfl)) ?_
        refine Ew_of (pcₚ := 51) (fun _ => x_dup rfl rfl) ?_
        refine w_gI H (o := 6) (w := y14_6_30) rfl (H.perm 6 rfl) rfl rfl rfl (fun _ => rfl) ((hS10 6 30 rfl).trans (ey14_6_30)) ?_
        refine Ew_of (pcₚ := 55) (fun _ => x_iconst rfl) ?_
        refine w_iadd rfl ?_
        refine w_pI H (o := 6) rfl rfl (H.perm 6 rfl) rfl rfl rfl (fun _ => rfl) rfl (show (0 : Int) ≤ (y14_6_30 + 1) ∧ (y14_6_30 + 1) ≤ 16385 from q_2050 b7 h1 j14_4 j14_5 r3 r6) (fun σ H => ?_)
        refine Ew_of (pcₚ := 62) (fun _ => x_iinc (len := 3) rfl (rk_o (l14_2) rfl rfl)) ?_
        refine Ew_of (pcₚ := 65) (fun _ => x_iinc (len := 3) rfl (rk_o (rk_o (l14_3) rfl rfl) rfl rfl)) ?_
        refine Ew_of (pcₚ := 14) (fun _ => x_goto rfl rfl) ?_
        have : GOW (MTL ((w61)) ((u6_22)) ((u6_24)) ((u6_2)) ((u6_1)) ((u6_22) - (u6_2))) ((w61)) ((u6_22)) ((a1)) (((x14_3 + 1))) (((x14_2 + 1))) ((w14_62)) ((w14_63)) ((w14_64)) ((y14_6_28)) ((upd1 (w14_65) (y14_6_30) (v17))) (((y14_6_30 + 1))) := by first | exact GOW_skip j14_g (by omega) (htk 0 (by omega)) (by omega) (by omega) rfl rfl rfl hv.symm | exact GOW_take j14_g (by omega) (by omega) (htk _ rfl) (by omega) rfl rfl rfl
        have : GOI ((w14_62)) ((w14_63)) ((y14_6_28)) (((x14_3 + 1)) - (a1) - ((x14_2 + 1))) := by first | exact GOI_c j14_go (by omega) | exact GOI_next j14_go (by omega) rfl (by omega) (by omega)
        exact ih14 _ (msE hm14 q_16 (q_17 b7)) _ σ _ _ ((x14_2 + 1)) ((x14_3 + 1)) (rk_o (rk_o (rk_o (l14_0) rfl rfl) rfl rfl) rfl rfl) (rk_o (rk_s) rfl rfl) (rk_s) H (SF_upd (SF_trans (hS_14) hS10 (any_sub rfl)) rfl) (SA_upd (SA_trans (hA_14) hA11 (any_subA rfl)) rfl) (y14_6_28) (((hS10 6 28 rfl).trans (ey14_6_28))) ((y14_6_30 + 1)) (rfl) (w14_62) ((funext (hA11 62 rfl)).trans (ew14_62)) (w14_63) ((funext (hA11 63 rfl)).trans (ew14_63)) (w14_64) ((funext (hA11 64 rfl)).trans (ew14_64)) (upd1 (w14_65) (y14_6_30) (v17)) (congrArg (fun q => upd1 q (y14_6_30) (v17)) ((funext (hA11 65 rfl)).trans (ew14_65))) (show inr ((x14_2 + 1)) from q_2055 b7 h1 j14_3 r3) (show inr ((x14_3 + 1)) from q_2054 b7 j14_1 r3) (show (a1) ≤ ((x14_3 + 1)) ∧ ((x14_3 + 1)) ≤ (u6_22) from q_1503 b7 j14_2) (show 0 ≤ ((x14_2 + 1)) ∧ ((x14_2 + 1)) ≤ ((x14_3 + 1)) - (a1) from q_2053 j14_3) (show 3 * (y14_6_28) + ((y14_6_30 + 1)) ≤ ((x14_3 + 1)) - (a1) from q_2052 j14_4) (show 0 ≤ (y14_6_28) ∧ 0 ≤ ((y14_6_30 + 1)) from q_2051 r5 r6) (show GOW (MTL ((w61)) ((u6_22)) ((u6_24)) ((u6_2)) ((u6_1)) ((u6_22) - (u6_2))) ((w61)) ((u6_22)) ((a1)) (((x14_3 + 1))) (((x14_2 + 1))) ((w14_62)) ((w14_63)) ((w14_64)) ((y14_6_28)) ((upd1 (w14_65) (y14_6_30) (v17))) (((y14_6_30 + 1))) by assumption) (show GOI ((w14_62)) ((w14_63)) ((y14_6_28)) (((x14_3 + 1)) - (a1) - ((x14_2 + 1))) by assumption) rfl

theorem M404b {σ0 σ : rS} {D N : Nat → Nat} {F : hF} {A : hA} {d c s : Nat} {Q : wQ} (H : HS σ0 σ D N F A)  (u6_28 : Int) (eu6_28 : F 6 28 = u6_28) (w56 : Int → Int) (ew56 : A 56 = w56) (w62 : Int → Int) (ew62 : A 62 = w62) (w63 : Int → Int) (ew63 : A 63 = w63) (w64 : Int → Int) (ew64 : A 64 = w64) (h0 : ∀ j, 0 ≤ j → j < (u6_28) → 3 ≤ ((w63)) j) (k : ∀ σ Fₚ Aₚ, HS σ0 σ D N Fₚ Aₚ → SF [] F Fₚ → SA [56, 66, 67, 68] A Aₚ → ∀ v56 : Int → Int, Aₚ 56 = v56 → ∀ v66 : Int → Int, Aₚ 66 = v66 → ∀ v67 : Int → Int, Aₚ 67 = v67 → ∀ v68 : Int → Int, Aₚ 68 = v68 → (TLI ((v66)) ((v67)) ((w62)) ((w63)) ((u6_28))) → (IMP ((1 ≤ ((w56)) 0 ∧ 1 ≤ ((w56)) 1 ∧ 1 ≤ ((w56)) 2) ∧ DGE ((w64)) ((u6_28))) (TLA ((v66)) ((v67)) ((v68)) ((w62)) ((w63)) ((w64)) (((w56)) 0, ((w56)) 1, ((w56)) 2) ((u6_28)) ((v56)))) → Q none σ c s) : Ew 404 (d + 1) 0 (rargs 0 [.ref (D 6)]) [] σ c s Q := by
  have r1 : (0 : Int) ≤ u6_28 ∧ u6_28 ≤ 8001 := rngE (show (0 : Int) ≤ F 6 28 ∧ F 6 28 ≤ 8001 from H.frng 6 28) (show F 6 28 = u6_28 from (eu6_28))
  refine Ew_of (pcₚ := 1) (fun _ => x_iconst rfl) ?_
  refine Ew_of (pcₚ := 2) (fun _ => x_istore_n rfl) ?_
  have : IMP ((1 ≤ ((w56)) 0 ∧ 1 ≤ ((w56)) 1 ∧ 1 ≤ ((w56)) 2) ∧ DGE ((w64)) ((u6_28))) (TLA ((A 66)) ((A 67)) ((A 68)) ((w62)) ((w63)) ((w64)) (((w56)) 0, ((w56)) 1, ((w56)) 2) (0) ((w56))) := fun h => ⟨TLW_0, rfl, h.1⟩
  have : TLI ((A 66)) ((A 67)) ((w62)) ((w63)) (0) := fun j a b => absurd b (by omega)
  suffices hl2 : ∀ (m : Nat), ∀ (ls : rO) (σ : rS) (F_2 : hF) (A_2 : hA) (x2_1 : Int), rlook ls 0 = some (.ref (D 6)) → rlook ls 1 = some (I (x2_1)) → HS σ0 σ D N F_2 A_2 → SF [] F F_2 → SA [56, 66, 67, 68] A A_2 → ∀ w2_56 : Int → Int, A_2 56 = w2_56 → ∀ w2_66 : Int → Int, A_2 66 = w2_66 → ∀ w2_67 : Int → Int, A_2 67 = w2_67 → ∀ w2_68 : Int → Int, A_2 68 = w2_68 → (inr (x2_1)) → ((0) ≤ (x2_1)) → ((x2_1) ≤ (0) ∨ (x2_1) ≤ ((u6_28))) → (IMP ((1 ≤ ((w56)) 0 ∧ 1 ≤ ((w56)) 1 ∧ 1 ≤ ((w56)) 2) ∧ DGE ((w64)) ((u6_28))) (TLA ((w2_66)) ((w2_67)) ((w2_68)) ((w62)) ((w63)) ((w64)) (((w56)) 0, ((w56)) 1, ((w56)) 2) ((x2_1)) ((w2_56)))) → (TLI ((w2_66)) ((w2_67)) ((w62)) ((w63)) ((x2_1))) → (((u6_28)) - (x2_1)).toNat = m → Ew 404 (d + 1) 2 ls [] σ c s Q from
    hl2 _ _ σ _ _ (0) (rk_o (rfl) rfl rfl) (rk_s) H (SF_refl) (SA_refl)  (w56) (ew56) (A 66) (rfl) (A 67) (rfl) (A 68) (rfl) (show inr (0) from q_2) (show (0) ≤ (0) from q_1) (show (0) ≤ (0) ∨ (0) ≤ ((u6_28)) from q_5) (show IMP ((1 ≤ ((w56)) 0 ∧ 1 ≤ ((w56)) 1 ∧ 1 ≤ ((w56)) 2) ∧ DGE ((w64)) ((u6_28))) (TLA ((A 66)) ((A 67)) ((A 68)) ((w62)) ((w63)) ((w64)) (((w56)) 0, ((w56)) 1, ((w56)) 2) ((0)) ((w56))) by assumption) (show TLI ((A 66)) ((A 67)) ((w62)) ((w63)) ((0)) by assumption) rfl
  as_aux_lemma =>
  intro m
  induction m using Nat.strongRecOn with
  | _ m ih2 =>
    intro ls σ F_2 A_2 x2_1 l2_0 l2_1 H hS_2 hA_2  w2_56 ew2_56 w2_66 ew2_66 w2_67 ew2_67 w2_68 ew2_68 j2_0 j2_1 j2_2 j2_3 j2_4 hm2
    have j2_q : IMP ((1 ≤ ((w56)) 0 ∧ 1 ≤ ((w56)) 1 ∧ 1 ≤ ((w56)) 2) ∧ DGE ((w64)) ((u6_28))) (TLA ((w2_66)) ((w2_67)) ((w2_68)) ((w62)) ((w63)) ((w64)) (((w56)) 0, ((w56)) 1, ((w56)) 2) ((x2_1)) ((w2_56))) := by assumption
    have j2_t : TLI ((w2_66)) ((w2_67)) ((w62)) ((w63)) ((x2_1)) := j2_4
    refine Ew_of (pcₚ := 3) (fun _ => x_iload_n rfl l2_1) ?_
    refine Ew_of (pcₚ := 4) (fun _ => x_aload_n rfl l2_0) ?_
    refine w_gI H (o := 6) (w := u6_28) rfl (H.perm 6 rfl) rfl rfl rfl (fun _ => rfl) ((hS_2 6 28 rfl).trans (eu6_28)) ?_
    refine w_icmpge (t := 172) rfl rfl (show inr (x2_1) from j2_0) (show inr (u6_28) from q_6 r1) (fun b2 => ?_) (fun b2 => ?_)
    · have : IMP ((1 ≤ ((w56)) 0 ∧ 1 ≤ ((w56)) 1 ∧ 1 ≤ ((w56)) 2) ∧ DGE ((w64)) ((u6_28))) (TLA ((w2_66)) ((w2_67)) ((w2_68)) ((w62)) ((w63)) ((w64)) (((w56)) 0, ((w56)) 1, ((w56)) 2) ((u6_28)) ((w2_56))) := fun h => by have w := j2_q h; rw [show (x2_1) = (u6_28) by omega] at w; exact w
      have he1 : (x2_1) = (u6_28) := q_7 b2 j2_2 r1
      have : TLI ((w2_66)) ((w2_67)) ((w62)) ((w63)) ((u6_28)) := by rw [← he1]; exact j2_t
      exact w_ret rfl (k σ _ _ H (SF_trans (SF_refl) hS_2 (any_sub rfl)) (SA_trans (SA_refl) hA_2 (any_subA rfl)) (w2_56) (ew2_56) (w2_66) (ew2_66) (w2_67) (ew2_67) (w2_68) (ew2_68) (show TLI ((w2_66)) ((w2_67)) ((w62)) ((w63)) ((u6_28)) by assumption) (show IMP ((1 ≤ ((w56)) 0 ∧ 1 ≤ ((w56)) 1 ∧ 1 ≤ ((w56)) 2) ∧ DGE ((w64)) ((u6_28))) (TLA ((w2_66)) ((w2_67)) ((w2_68)) ((w62)) ((w63)) ((w64)) (((w56)) 0, ((w56)) 1, ((w56)) 2) ((u6_28)) ((w2_56))) by assumption))
    · have hBl : ∀ i, (0 : Int) ≤ (w62) i ∧ (w62) i ≤ 16384 := fun i => by have h1 : (0 : Int) ≤ A_2 62 i ∧ A_2 62 i ≤ 16384 := H.arng 62 i; rw [show A_2 62 = w62 from (funext (hA_2 62 rfl)).trans (ew62)] at h1; exact h1
      have hbl := hBl ((x2_1))
      refine Ew_of (pcₚ := 11) (fun _ => x_iconst rfl) ?_
      refine Ew_of (pcₚ := 12) (fun _ => x_istore_n rfl) ?_
      refine Ew_of (pcₚ := 13) (fun _ => x_iconst rfl) ?_
      refine Ew_of (pcₚ := 14) (fun _ => x_istore_n rfl) ?_
      have : lBs 0 = 0 := by decide
      suffices hl14 : ∀ (m : Nat), ∀ (ls : rO) (σ : rS) (F_14 : hF) (A_14 : hA) (x14_2 : Int) (x14_3 : Int), rlook ls 0 = some (.ref (D 6)) → rlook ls 1 = some (I (x2_1)) → rlook ls 2 = some (I (x14_2)) → rlook ls 3 = some (I (x14_3)) → HS σ0 σ D N F_14 A_14 → SF [] F_2 F_14 → SA [] A_2 A_14 → (inr (x14_2)) → (inr (x14_3)) → (0 ≤ (x14_2) ∧ (x14_2) ≤ 33) → ((x14_3) = lBs ((x14_2))) → (0 ≤ (x14_3) ∧ (x14_3) ≤ 16384) → ((x14_2) = 0 ∨ (x14_3) ≤ ((w62)) ((x2_1))) → ((x14_3) ≤ ((w62)) ((x2_1))) → (40 - (x14_2)).toNat = m → Ew 404 (d + 1) 14 ls [] σ c s Q from
        hl14 _ _ σ _ _ (0) (0) (rk_o (rk_o (l2_0) rfl rfl) rfl rfl) (rk_o (rk_o (l2_1) rfl rfl) rfl rfl) (rk_o (rk_s) rfl rfl) (rk_s) H (SF_refl) (SA_refl)   (show inr (0) from q_2) (show inr (0) from q_2) (show 0 ≤ (0) ∧ (0) ≤ 33 from q_2076) (show (0) = lBs ((0)) by omega) (show 0 ≤ (0) ∧ (0) ≤ 16384 from q_2075) (show (0) = 0 ∨ (0) ≤ ((w62)) ((x2_1)) from q_2074) (show (0) ≤ ((w62)) ((x2_1)) by omega) rfl
      as_aux_lemma =>
      intro m
      induction m using Nat.strongRecOn with
      | _ m ih14 =>
        intro ls σ F_14 A_14 x14_2 x14_3 l14_0 l14_1 l14_2 l14_3 H hS_14 hA_14   j14_0 j14_1 j14_2 j14_3 j14_4 j14_5 j14_6 hm14
        have hls := lBs_s (s := (x14_2)) (by omega) (by omega)
        refine Ew_of (pcₚ := 15) (fun _ => x_iload_n rfl l14_3) ?_
        refine Ew_of (pcₚ := 16) (fun _ => x_iconst rfl) ?_
        refine Ew_of (pcₚ := 17) (fun _ => x_iload_n rfl l14_2) ?_
        refine w_stat24 rfl rfl (by rfl) (M401 H (show inr (x14_2) from j14_0) (show 0 ≤ (x14_2) ∧ (x14_2) ≤ 35 from q_2077 j14_2) (fun z7 σ F3 A4 H hS5 hA6 pz7_0 pz7_1 pz7_2 => ⟨rfl, ?_⟩))
        have hz : p2 ((z7)) = p2 (lB ((x14_2))) := by rw [pz7_2]
        have : p2 ((z7)) ≤ p2 16 := p2_mono (by omega)
        have : p2 16 = 65536 := by decide
        have := p2_pos ((z7))
        refine w_ishl1 rfl (show 0 ≤ z7 ∧ z7 ≤ 31 from q_1720 pz7_1) ?_
        refine w_iadd rfl ?_
        refine Ew_of (pcₚ := 23) (fun _ => x_aload_n rfl l14_0) ?_
        refine w_gT H (o := 6) (t := 62) rfl (H.perm 6 rfl) rfl rfl rfl rfl rfl rfl ?_
        refine Ew_of (pcₚ := 27) (fun _ => x_iload_n rfl l14_1) ?_
        refine w_lI H (o := 62) (n := 8001) rfl (H.perm 62 rfl) rfl rfl (H.fix 62 rfl rfl) (show 0 ≤ x2_1 ∧ x2_1 < ((8001 : Nat) : Int) from q_2078 b2 j2_1 r1) (by decide) (fun v9 ev9 qv9 => ?_)
        have qv9 : (0 : Int) ≤ v9 ∧ v9 ≤ 16384 := qv9
        have ev9 : (w62) (x2_1) = v9 := (congrFun ((funext (hA6 62 rfl)).trans ((funext (hA_14 62 rfl)).trans ((funext (hA_2 62 rfl)).trans (ew62)))) (x2_1)).symm.trans ev9
        have hlb := ev9
        have hcl := ev9
        refine w_icmpgt (t := 46) rfl rfl (show inr ((x14_3 + p2 (z7))) by omega) (show inr (v9) from q_481 qv9) (fun b10 => ?_) (fun b10 => ?_)
        · have ha0 : (x14_2) = gsB lBs (((w62)) ((x2_1))) 36 := gsB_l (by omega) (by omega) (by omega)
          obtain ⟨qs0, hqs0⟩ : ∃ q : Int, q = (x14_2) := ⟨_, rfl⟩
          obtain ⟨qb0, hqb0⟩ : ∃ q : Int, q = (x14_3) := ⟨_, rfl⟩
          have hqbl : qb0 = lBs qs0 := by rw [hqs0]; omega
          have ha0q : qs0 = gsB lBs (((w62)) ((x2_1))) 36 := hqs0.trans ha0
          have hl46 := lB_le (s := (x14_2)) (by omega) (by omega)
          have hl47 : (x14_3) ≤ ((w62)) ((x2_1)) := j14_6
          refine Ew_of (pcₚ := 47) (fun _ => x_aload_n rfl l14_0) ?_
          refine Ew_of (pcₚ := 48) (fun _ => x_iconst rfl) ?_
          refine Ew_of (pcₚ := 49) (fun _ => x_iload_n rfl l14_1) ?_
          refine Ew_of (pcₚ := 50) (fun _ => x_iload_n rfl l14_2) ?_
          refine Ew_of (pcₚ := 51) (fun _ => x_iload_n rfl l14_2) ?_
          refine w_stat24 rfl rfl (by rfl) (M401 H (show inr (x14_2) from j14_0) (show 0 ≤ (x14_2) ∧ (x14_2) ≤ 35 from q_2077 j14_2) (fun z15 σ F11 A12 H hS13 hA14 pz15_0 pz15_1 pz15_2 => ⟨rfl, ?_⟩))
          have hm0 : (z15) = lB qs0 := by rw [hqs0]; exact pz15_2
          refine Ew_of (pcₚ := 55) (fun _ => x_aload_n rfl l14_0) ?_
          refine w_gT H (o := 6) (t := 62) rfl (H.perm 6 rfl) rfl rfl rfl rfl rfl rfl ?_
          refine Ew_of (pcₚ := 59) (fun _ => x_iload_n rfl l14_1) ?_
          refine w_lI H (o := 62) (n := 8001) rfl (H.perm 62 rfl) rfl rfl (H.fix 62 rfl rfl) (show 0 ≤ x2_1 ∧ x2_1 < ((8001 : Nat) : Int) from q_2078 b2 j2_1 r1) (by decide) (fun v16 ev16 qv16 => ?_)
          have qv16 : (0 : Int) ≤ v16 ∧ v16 ≤ 16384 := qv16
          have ev16 : (w62) (x2_1) = v16 := (congrFun ((funext (hA14 62 rfl)).trans ((funext (hA6 62 rfl)).trans ((funext (hA_14 62 rfl)).trans ((funext (hA_2 62 rfl)).trans (ew62))))) (x2_1)).symm.trans ev16
          have hlw := ev16
          refine Ew_of (pcₚ := 61) (fun _ => x_iload_n rfl l14_3) ?_
          refine w_isub rfl ?_
          have hx0 : ((v16 - x14_3)) = ((w62)) ((x2_1)) - lBs qs0 := by rw [hlw]; omega
          have hm0b : (z15) = lB qs0 := hm0
          have hs0b : (x14_2) = qs0 := q_2079 ha0 ha0q
          refine w_inv H (o := 6) rfl rfl rfl (H.perm 6 rfl) rfl rfl (by rfl) (M403b H (w2_66) ((funext (hA14 66 rfl)).trans ((funext (hA6 66 rfl)).trans ((funext (hA_14 66 rfl)).trans (ew2_66)))) (w2_67) ((funext (hA14 67 rfl)).trans ((funext (hA6 67 rfl)).trans ((funext (hA_14 67 rfl)).trans (ew2_67)))) (w2_68) ((funext (hA14 68 rfl)).trans ((funext (hA6 68 rfl)).trans ((funext (hA_14 68 rfl)).trans (ew2_68)))) (show inr (0) from q_2) (show inr (x2_1) from j2_0) (show inr (x14_2) from j14_0) (show inr (z15) from pz15_0) (show inr ((v16 - x14_3)) from q_2632 ev16 hl47 j14_4 qv16) (show 0 ≤ (0) ∧ (0) ≤ 2 ∧ 0 ≤ (x2_1) ∧ (x2_1) ≤ 8000 from q_2081 b2 j2_1 r1) (show 0 ≤ (x14_2) ∧ (x14_2) ≤ 63 ∧ 0 ≤ (z15) ∧ (z15) ≤ 31 from q_2080 j14_2 pz15_1) (fun σ F17 A18 H hS19 hA20 wq22 ewq23 wq24 ewq25 wq26 ewq27 pz21_0 pz21_1 pz21_2 => ⟨rfl, ?_⟩))
          have hA0 := pz21_0
          have hA1 := pz21_1
          have hA2 := pz21_2
          have hm65 := (h0) ((x2_1)) (by omega) (by omega)
          refine Ew_of (pcₚ := 66) (fun _ => x_iconst rfl) ?_
          refine Ew_of (pcₚ := 67) (fun _ => x_istore_n rfl) ?_
          refine Ew_of (pcₚ := 68) (fun _ => x_iconst rfl) ?_
          refine Ew_of (pcₚ := 69) (fun _ => x_istore_n rfl) ?_
          have : mBs 0 = 3 := by decide
          suffices hl69 : ∀ (m : Nat), ∀ (ls : rO) (σ : rS) (F_69 : hF) (A_69 : hA) (x69_2 : Int) (x69_3 : Int), rlook ls 0 = some (.ref (D 6)) → rlook ls 1 = some (I (x2_1)) → rlook ls 2 = some (I (x69_2)) → rlook ls 3 = some (I (x69_3)) → HS σ0 σ D N F_69 A_69 → SF [] F17 F_69 → SA [] A18 A_69 → (inr (x69_2)) → (inr (x69_3)) → (0 ≤ (x69_2) ∧ (x69_2) ≤ 49) → ((x69_3) = mBs ((x69_2))) → (0 ≤ (x69_3) ∧ (x69_3) ≤ 16384) → ((x69_2) = 0 ∨ (x69_3) ≤ ((w63)) ((x2_1))) → ((x69_3) ≤ ((w63)) ((x2_1))) → (60 - (x69_2)).toNat = m → Ew 404 (d + 1) 69 ls [] σ c s Q from
            hl69 _ _ σ _ _ (0) (3) (rk_o (rk_o (l14_0) rfl rfl) rfl rfl) (rk_o (rk_o (l14_1) rfl rfl) rfl rfl) (rk_o (rk_s) rfl rfl) (rk_s) H (SF_refl) (SA_refl)   (show inr (0) from q_2) (show inr (3) from q_246) (show 0 ≤ (0) ∧ (0) ≤ 49 from q_2085) (show (3) = mBs ((0)) by omega) (show 0 ≤ (3) ∧ (3) ≤ 16384 from q_2084) (show (0) = 0 ∨ (3) ≤ ((w63)) ((x2_1)) from q_2083) (show (3) ≤ ((w63)) ((x2_1)) by omega) rfl
          as_aux_lemma =>
          intro m
          induction m using Nat.strongRecOn with
          | _ m ih69 =>
            intro ls σ F_69 A_69 x69_2 x69_3 l69_0 l69_1 l69_2 l69_3 H hS_69 hA_69   j69_0 j69_1 j69_2 j69_3 j69_4 j69_5 j69_6 hm69
            have hms := mBs_s (s := (x69_2)) (by omega) (by omega)
            refine Ew_of (pcₚ := 70) (fun _ => x_iload_n rfl l69_3) ?_
            refine Ew_of (pcₚ := 71) (fun _ => x_iconst rfl) ?_
            refine Ew_of (pcₚ := 72) (fun _ => x_iload_n rfl l69_2) ?_
            refine w_stat24 rfl rfl (by rfl) (M402 H (show inr (x69_2) from j69_0) (show 0 ≤ (x69_2) ∧ (x69_2) ≤ 52 from q_2086 j69_2) (fun z32 σ F28 A29 H hS30 hA31 pz32_0 pz32_1 pz32_2 => ⟨rfl, ?_⟩))
            have hz : p2 ((z32)) = p2 (mB ((x69_2))) := by rw [pz32_2]
            have : p2 ((z32)) ≤ p2 16 := p2_mono (by omega)
            have : p2 16 = 65536 := by decide
            have := p2_pos ((z32))
            refine w_ishl1 rfl (show 0 ≤ z32 ∧ z32 ≤ 31 from q_1720 pz32_1) ?_
            refine w_iadd rfl ?_
            refine Ew_of (pcₚ := 78) (fun _ => x_aload_n rfl l69_0) ?_
            refine w_gT H (o := 6) (t := 63) rfl (H.perm 6 rfl) rfl rfl rfl rfl rfl rfl ?_
            refine Ew_of (pcₚ := 82) (fun _ => x_iload_n rfl l69_1) ?_
            refine w_lI H (o := 63) (n := 8001) rfl (H.perm 63 rfl) rfl rfl (H.fix 63 rfl rfl) (show 0 ≤ x2_1 ∧ x2_1 < ((8001 : Nat) : Int) from q_2078 b2 j2_1 r1) (by decide) (fun v34 ev34 qv34 => ?_)
            have qv34 : (0 : Int) ≤ v34 ∧ v34 ≤ 16384 := qv34
            have ev34 : (w63) (x2_1) = v34 := (congrFun ((funext (hA31 63 rfl)).trans ((funext (hA_69 63 rfl)).trans ((funext (hA20 63 rfl)).trans ((funext (hA14 63 rfl)).trans ((funext (hA6 63 rfl)).trans ((funext (hA_14 63 rfl)).trans ((funext (hA_2 63 rfl)).trans (ew63)))))))) (x2_1)).symm.trans ev34
            have hmb := ev34
            have hcm := ev34
            refine w_icmpgt (t := 101) rfl rfl (show inr ((x69_3 + p2 (z32))) by omega) (show inr (v34) from q_481 qv34) (fun b35 => ?_) (fun b35 => ?_)
            · have hb0 : (x69_2) = gsB mBs (((w63)) ((x2_1))) 53 := gsB_m (by omega) (by omega) (by omega)
              obtain ⟨qs2, hqs2⟩ : ∃ q : Int, q = (x69_2) := ⟨_, rfl⟩
              obtain ⟨qb2, hqb2⟩ : ∃ q : Int, q = (x69_3) := ⟨_, rfl⟩
              have hqbm : qb2 = mBs qs2 := by rw [hqs2]; omega
              have hb0q : qs2 = gsB mBs (((w63)) ((x2_1))) 53 := hqs2.trans hb0
              have hm46 := mB_le (s := (x69_2)) (by omega) (by omega)
              have hm47 : (x69_3) ≤ ((w63)) ((x2_1)) := j69_6
              refine Ew_of (pcₚ := 102) (fun _ => x_aload_n rfl l69_0) ?_
              refine Ew_of (pcₚ := 103) (fun _ => x_iconst rfl) ?_
              refine Ew_of (pcₚ := 104) (fun _ => x_iload_n rfl l69_1) ?_
              refine Ew_of (pcₚ := 105) (fun _ => x_iload_n rfl l69_2) ?_
              refine Ew_of (pcₚ := 106) (fun _ => x_iload_n rfl l69_2) ?_
              refine w_stat24 rfl rfl (by rfl) (M402 H (show inr (x69_2) from j69_0) (show 0 ≤ (x69_2) ∧ (x69_2) ≤ 52 from q_2086 j69_2) (fun z40 σ F36 A37 H hS38 hA39 pz40_0 pz40_1 pz40_2 => ⟨rfl, ?_⟩))
              have hm2 : (z40) = mB qs2 := by rw [hqs2]; exact pz40_2
              refine Ew_of (pcₚ := 110) (fun _ => x_aload_n rfl l69_0) ?_
              refine w_gT H (o := 6) (t := 63) rfl (H.perm 6 rfl) rfl rfl rfl rfl rfl rfl ?_
              refine Ew_of (pcₚ := 114) (fun _ => x_iload_n rfl l69_1) ?_
              refine w_lI H (o := 63) (n := 8001) rfl (H.perm 63 rfl) rfl rfl (H.fix 63 rfl rfl) (show 0 ≤ x2_1 ∧ x2_1 < ((8001 : Nat) : Int) from q_2078 b2 j2_1 r1) (by decide) (fun v41 ev41 qv41 => ?_)
              have qv41 : (0 : Int) ≤ v41 ∧ v41 ≤ 16384 := qv41
              have ev41 : (w63) (x2_1) = v41 := (congrFun ((funext (hA39 63 rfl)).trans ((funext (hA31 63 rfl)).trans ((funext (hA_69 63 rfl)).trans ((funext (hA20 63 rfl)).trans ((funext (hA14 63 rfl)).trans ((funext (hA6 63 rfl)).trans ((funext (hA_14 63 rfl)).trans ((funext (hA_2 63 rfl)).trans (ew63))))))))) (x2_1)).symm.trans ev41
              have hmw := ev41
              refine Ew_of (pcₚ := 116) (fun _ => x_iload_n rfl l69_3) ?_
              refine w_isub rfl ?_
              have hx2 : ((v41 - x69_3)) = ((w63)) ((x2_1)) - mBs qs2 := by rw [hmw]; omega
              have hm2b : (z40) = mB qs2 := hm2
              have hs2b : (x69_2) = qs2 := q_2079 hb0 hb0q
              refine w_inv H (o := 6) rfl rfl rfl (H.perm 6 rfl) rfl rfl (by rfl) (M403b H (wq22) ((funext (hA39 66 rfl)).trans ((funext (hA31 66 rfl)).trans ((funext (hA_69 66 rfl)).trans (ewq23)))) (wq24) ((funext (hA39 67 rfl)).trans ((funext (hA31 67 rfl)).trans ((funext (hA_69 67 rfl)).trans (ewq25)))) (wq26) ((funext (hA39 68 rfl)).trans ((funext (hA31 68 rfl)).trans ((funext (hA_69 68 rfl)).trans (ewq27)))) (show inr (2) from q_122) (show inr (x2_1) from j2_0) (show inr (x69_2) from j69_0) (show inr (z40) from pz40_0) (show inr ((v41 - x69_3)) from q_2632 ev41 hm47 j69_4 qv41) (show 0 ≤ (2) ∧ (2) ≤ 2 ∧ 0 ≤ (x2_1) ∧ (x2_1) ≤ 8000 from q_2088 b2 j2_1 r1) (show 0 ≤ (x69_2) ∧ (x69_2) ≤ 63 ∧ 0 ≤ (z40) ∧ (z40) ≤ 31 from q_2087 j69_2 pz40_1) (fun σ F42 A43 H hS44 hA45 wq47 ewq48 wq49 ewq50 wq51 ewq52 pz46_0 pz46_1 pz46_2 => ⟨rfl, ?_⟩))
              have hB0_ := pz46_0
              have hB1_ := pz46_1
              have hB2_ := pz46_2
              refine Ew_of (pcₚ := 121) (fun _ => x_aload_n rfl l69_0) ?_
              refine Ew_of (pcₚ := 122) (fun _ => x_aload_n rfl l69_0) ?_
              refine w_gT H (o := 6) (t := 64) rfl (H.perm 6 rfl) rfl rfl rfl rfl rfl rfl ?_
              refine Ew_of (pcₚ := 126) (fun _ => x_iload_n rfl l69_1) ?_
              refine w_lI H (o := 64) (n := 8001) rfl (H.perm 64 rfl) rfl rfl (H.fix 64 rfl rfl) (show 0 ≤ x2_1 ∧ x2_1 < ((8001 : Nat) : Int) from q_2078 b2 j2_1 r1) (by decide) (fun v53 ev53 qv53 => ?_)
              have qv53 : (0 : Int) ≤ v53 ∧ v53 ≤ 16384 := qv53
              have ev53 : (w64) (x2_1) = v53 := (congrFun ((funext (hA45 64 rfl)).trans ((funext (hA39 64 rfl)).trans ((funext (hA31 64 rfl)).trans ((funext (hA_69 64 rfl)).trans ((funext (hA20 64 rfl)).trans ((funext (hA14 64 rfl)).trans ((funext (hA6 64 rfl)).trans ((funext (hA_14 64 rfl)).trans ((funext (hA_2 64 rfl)).trans (ew64)))))))))) (x2_1)).symm.trans ev53
              have hdv := ev53
              have hdg : DGE ((w64)) ((u6_28)) → 1 ≤ ((w64)) ((x2_1)) := fun h => h _ (by omega) (by omega)
              refine Ew_of (pcₚ := 128) (fun _ => x_aload_n rfl l69_0) ?_
              refine w_gT H (o := 6) (t := 62) rfl (H.perm 6 rfl) rfl rfl rfl rfl rfl rfl ?_
              refine Ew_of (pcₚ := 132) (fun _ => x_iload_n rfl l69_1) ?_
              refine w_lI H (o := 62) (n := 8001) rfl (H.perm 62 rfl) rfl rfl (H.fix 62 rfl rfl) (show 0 ≤ x2_1 ∧ x2_1 < ((8001 : Nat) : Int) from q_2078 b2 j2_1 r1) (by decide) (fun v54 ev54 qv54 => ?_)
              have qv54 : (0 : Int) ≤ v54 ∧ v54 ≤ 16384 := qv54
              have ev54 : (w62) (x2_1) = v54 := (congrFun ((funext (hA45 62 rfl)).trans ((funext (hA39 62 rfl)).trans ((funext (hA31 62 rfl)).trans ((funext (hA_69 62 rfl)).trans ((funext (hA20 62 rfl)).trans ((funext (hA14 62 rfl)).trans ((funext (hA6 62 rfl)).trans ((funext (hA_14 62 rfl)).trans ((funext (hA_2 62 rfl)).trans (ew62)))))))))) (x2_1)).symm.trans ev54
              have hlv := ev54
              refine w_ifne (t := 140) rfl rfl (show inr (v54) from q_481 qv54) (fun b55 => ?_) (fun b55 => ?_)
              · refine Ew_of (pcₚ := 141) (fun _ => x_iconst rfl) ?_
                have hli : (((w62)) ((x2_1)) = 0 ↔ (1 : Int) - (0) = 0) := by rw [hlv]; omega
                obtain ⟨qd, hqd⟩ : ∃ q : Int, q = (v53) := ⟨_, rfl⟩
                have hqd2 : qd = ((w64)) ((x2_1)) := by rw [hdv]; exact hqd
                refine w_inv H (o := 6) rfl rfl rfl (H.perm 6 rfl) rfl rfl (by rfl) (M405 H (w2_56) ((funext (hA45 56 rfl)).trans ((funext (hA39 56 rfl)).trans ((funext (hA31 56 rfl)).trans ((funext (hA_69 56 rfl)).trans ((funext (hA20 56 rfl)).trans ((funext (hA14 56 rfl)).trans ((funext (hA6 56 rfl)).trans ((funext (hA_14 56 rfl)).trans (ew2_56))))))))) (show inr (v53) from q_481 qv53) (show inr (0) from q_2) (show 0 ≤ (v53) ∧ (v53) ≤ 16384 ∧ 0 ≤ (0) ∧ (0) ≤ 1 from q_2089 qv53) (fun z60 σ F56 A57 H hS58 hA59 wq61 ewq62 pz60_0 pz60_1 pz60_2 pz60_3 => ⟨rfl, ?_⟩))
                have hnr := pz60_2
                have hnl := pz60_3
                rw [← hqd] at hnr hnl
                refine Ew_of (pcₚ := 146) (fun _ => x_istore rfl) ?_
                obtain ⟨q4, hq4⟩ : ∃ q : Int, q = (z60) := ⟨_, rfl⟩
                rw [← hq4] at hnr
                refine Ew_of (pcₚ := 148) (fun _ => x_iload rfl rk_s) ?_
                refine w_stat24 rfl rfl (by rfl) (M400 H (show inr (z60) from pz60_0) (show 1 ≤ (z60) from q_2090 pz60_1) (fun z67 σ F63 A64 H hS65 hA66 pz67_0 pz67_1 pz67_2 => ⟨rfl, ?_⟩))
                have hlg : (z67) = gsB p2 ((z60)) 31 := gsB_p (by omega) (by omega) (by omega)
                have hp15 : (z67) < 15 := p2_lt (by omega) (by rw [show p2 15 = 32768 from by decide]; omega)
                refine Ew_of (pcₚ := 152) (fun _ => x_istore_n rfl) ?_
                obtain ⟨qs1, hqs1⟩ : ∃ q : Int, q = (z67) := ⟨_, rfl⟩
                have hc0 : qs1 = gsB p2 q4 31 := by rw [hqs1, hq4]; exact hlg
                refine Ew_of (pcₚ := 153) (fun _ => x_aload_n rfl (rk_o (rk_o (l69_0) rfl rfl) rfl rfl)) ?_
                refine Ew_of (pcₚ := 154) (fun _ => x_iconst rfl) ?_
                refine Ew_of (pcₚ := 155) (fun _ => x_iload_n rfl (rk_o (rk_o (l69_1) rfl rfl) rfl rfl)) ?_
                refine Ew_of (pcₚ := 156) (fun _ => x_iload_n rfl rk_s) ?_
                refine Ew_of (pcₚ := 157) (fun _ => x_iload_n rfl rk_s) ?_
                refine Ew_of (pcₚ := 159) (fun _ => x_iload rfl (rk_o (rk_s) rfl rfl)) ?_
                refine Ew_of (pcₚ := 160) (fun _ => x_iconst rfl) ?_
                refine Ew_of (pcₚ := 161) (fun _ => x_iload_n rfl rk_s) ?_
                refine w_ishl1 rfl (show 0 ≤ z67 ∧ z67 ≤ 31 from q_2633 hp15 pz67_1) ?_
                refine w_isub rfl ?_
                have hx1 : ((z60 - p2 (z67))) = q4 - p2 qs1 := by rw [hqs1, hq4]
                have hm1b : (z67) = qs1 := by omega
                have hs1b : (z67) = qs1 := hm1b
                refine w_inv H (o := 6) rfl rfl rfl (H.perm 6 rfl) rfl rfl (by rfl) (M403b H (wq47) ((funext (hA66 66 rfl)).trans ((funext (hA59 66 rfl)).trans (ewq48))) (wq49) ((funext (hA66 67 rfl)).trans ((funext (hA59 67 rfl)).trans (ewq50))) (wq51) ((funext (hA66 68 rfl)).trans ((funext (hA59 68 rfl)).trans (ewq52))) (show inr (1) from q_135) (show inr (x2_1) from j2_0) (show inr (z67) from pz67_0) (show inr (z67) from pz67_0) (show inr ((z60 - p2 (z67))) from q_2094 pz60_0 pz67_2) (show 0 ≤ (1) ∧ (1) ≤ 2 ∧ 0 ≤ (x2_1) ∧ (x2_1) ≤ 8000 from q_2093 b2 j2_1 r1) (show 0 ≤ (z67) ∧ (z67) ≤ 63 ∧ 0 ≤ (z67) ∧ (z67) ≤ 31 from q_2634 hp15 pz67_1) (fun σ F69 A70 H hS71 hA72 wq74 ewq75 wq76 ewq77 wq78 ewq79 pz73_0 pz73_1 pz73_2 => ⟨rfl, ?_⟩))
                have hC0 := pz73_0
                have hC1 := pz73_1
                have hC2 := pz73_2
                have : TLI ((wq74)) ((wq76)) ((w62)) ((w63)) ((x2_1) + 1) := TLI_next j2_t (by omega) (by omega) rfl pz21_0 pz21_1 pz46_0 pz46_1 pz73_0 pz73_1 (by omega) (by omega) (by omega) (by omega)
                refine Ew_of (pcₚ := 169) (fun _ => x_iinc (len := 3) rfl (rk_o (rk_o (l69_1) rfl rfl) rfl rfl)) ?_
                refine Ew_of (pcₚ := 2) (fun _ => x_goto rfl rfl) ?_
                have : IMP ((1 ≤ ((w56)) 0 ∧ 1 ≤ ((w56)) 1 ∧ 1 ≤ ((w56)) 2) ∧ DGE ((w64)) ((u6_28))) (TLA ((wq74)) ((wq76)) ((wq78)) ((w62)) ((w63)) ((w64)) (((w56)) 0, ((w56)) 1, ((w56)) 2) (((x2_1 + 1))) ((wq61))) := fun h => by have t := j2_q h; have hd1 := hdg h.2; exact TLA_s (m0 := lB qs0) (m2 := mB qs2) (m1 := qs1) (y0 := qs0) (y2 := qs2) (y1 := qs1) t (by omega) (by omega) rfl (hA0.trans (by rw [hs0b])) (hA1.trans (by rw [hm0b])) hA2 (hB0_.trans (by rw [hs2b])) (hB1_.trans (by rw [hm2b])) hB2_ (hC0.trans (by rw [hs1b])) (hC1.trans (by rw [hm1b])) hC2 ha0q rfl hx0 hb0q rfl hx2 hqd2 hli (hnr ⟨t.2.2.1, by omega⟩).1 (hnr ⟨t.2.2.1, by omega⟩).2 (hnl ⟨t.2.2, by omega⟩) hc0 rfl hx1
                exact ih2 _ (by omega) _ σ _ _ ((x2_1 + 1)) (rk_o (rk_o (rk_o (l69_0) rfl rfl) rfl rfl) rfl rfl) (rk_s) H (SF_trans (SF_trans (SF_trans (SF_trans (SF_trans (SF_trans (SF_trans (SF_trans (SF_trans (SF_trans (SF_trans (hS_2) hS_14 (any_sub rfl)) hS5 (any_sub rfl)) hS13 (any_sub rfl)) hS19 (any_sub rfl)) hS_69 (any_sub rfl)) hS30 (any_sub rfl)) hS38 (any_sub rfl)) hS44 (any_sub rfl)) hS58 (any_sub rfl)) hS65 (any_sub rfl)) hS71 (any_sub rfl)) (SA_trans (SA_trans (SA_trans (SA_trans (SA_trans (SA_trans (SA_trans (SA_trans (SA_trans (SA_trans (SA_trans (hA_2) hA_14 (any_subA rfl)) hA6 (any_subA rfl)) hA14 (any_subA rfl)) hA20 (any_subA rfl)) hA_69 (any_subA rfl)) hA31 (any_subA rfl)) hA39 (any_subA rfl)) hA45 (any_subA rfl)) hA59 (any_subA rfl)) hA66 (any_subA rfl)) hA72 (any_subA rfl))  (wq61) ((funext (hA72 56 rfl)).trans ((funext (hA66 56 rfl)).trans (ewq62))) (wq74) (ewq75) (wq76) (ewq77) (wq78) (ewq79) (show inr ((x2_1 + 1)) from q_15 b2 j2_1 r1) (show (0) ≤ ((x2_1 + 1)) from q_14 j2_1) (show ((x2_1 + 1)) ≤ (0) ∨ ((x2_1 + 1)) ≤ ((u6_28)) from q_13 b2) (show IMP ((1 ≤ ((w56)) 0 ∧ 1 ≤ ((w56)) 1 ∧ 1 ≤ ((w56)) 2) ∧ DGE ((w64)) ((u6_28))) (TLA ((wq74)) ((wq76)) ((wq78)) ((w62)) ((w63)) ((w64)) (((w56)) 0, ((w56)) 1, ((w56)) 2) (((x2_1 + 1))) ((wq61))) by assumption) (show TLI ((wq74)) ((wq76)) ((w62)) ((w63)) (((x2_1 + 1))) by assumption) rfl
              · refine Ew_of (pcₚ := 137) (fun _ => x_iconst rfl) ?_
                refine Ew_of (pcₚ := 141) (fun _ => x_goto rfl rfl) ?_
                have hli : (((w62)) ((x2_1)) = 0 ↔ (1 : Int) - (1) = 0) := by rw [hlv]; omega
                obtain ⟨qd, hqd⟩ : ∃ q : Int, q = (v53) := ⟨_, rfl⟩
                have hqd2 : qd = ((w64)) ((x2_1)) := by rw [hdv]; exact hqd
                refine w_inv H (o := 6) rfl rfl rfl (H.perm 6 rfl) rfl rfl (by rfl) (M405 H (w2_56) ((funext (hA45 56 rfl)).trans ((funext (hA39 56 rfl)).trans ((funext (hA31 56 rfl)).trans ((funext (hA_69 56 rfl)).trans ((funext (hA20 56 rfl)).trans ((funext (hA14 56 rfl)).trans ((funext (hA6 56 rfl)).trans ((funext (hA_14 56 rfl)).trans (ew2_56))))))))) (show inr (v53) from q_481 qv53) (show inr (1) from q_135) (show 0 ≤ (v53) ∧ (v53) ≤ 16384 ∧ 0 ≤ (1) ∧ (1) ≤ 1 from q_2095 qv53) (fun z84 σ F80 A81 H hS82 hA83 wq85 ewq86 pz84_0 pz84_1 pz84_2 pz84_3 => ⟨rfl, ?_⟩))
                have hnr := pz84_2
                have hnl := pz84_3
                rw [← hqd] at hnr hnl
                refine Ew_of (pcₚ := 146) (fun _ => x_istore rfl) ?_
                obtain ⟨q4, hq4⟩ : ∃ q : Int, q = (z84) := ⟨_, rfl⟩
                rw [← hq4] at hnr
                refine Ew_of (pcₚ := 148) (fun _ => x_iload rfl rk_s) ?_
                refine w_stat24 rfl rfl (by rfl) (M400 H (show inr (z84) from pz84_0) (show 1 ≤ (z84) from q_2090 pz84_1) (fun z91 σ F87 A88 H hS89 hA90 pz91_0 pz91_1 pz91_2 => ⟨rfl, ?_⟩))
                have hlg : (z91) = gsB p2 ((z84)) 31 := gsB_p (by omega) (by omega) (by omega)
                have hp15 : (z91) < 15 := p2_lt (by omega) (by rw [show p2 15 = 32768 from by decide]; omega)
                refine Ew_of (pcₚ := 152) (fun _ => x_istore_n rfl) ?_
                obtain ⟨qs1, hqs1⟩ : ∃ q : Int, q = (z91) := ⟨_, rfl⟩
                have hc0 : qs1 = gsB p2 q4 31 := by rw [hqs1, hq4]; exact hlg
                refine Ew_of (pcₚ := 153) (fun _ => x_aload_n rfl (rk_o (rk_o (l69_0) rfl rfl) rfl rfl)) ?_
                refine Ew_of (pcₚ := 154) (fun _ => x_iconst rfl) ?_
                refine Ew_of (pcₚ := 155) (fun _ => x_iload_n rfl (rk_o (rk_o (l69_1) rfl rfl) rfl rfl)) ?_
                refine Ew_of (pcₚ := 156) (fun _ => x_iload_n rfl rk_s) ?_
                refine Ew_of (pcₚ := 157) (fun _ => x_iload_n rfl rk_s) ?_
                refine Ew_of (pcₚ := 159) (fun _ => x_iload rfl (rk_o (rk_s) rfl rfl)) ?_
                refine Ew_of (pcₚ := 160) (fun _ => x_iconst rfl) ?_
                refine Ew_of (pcₚ := 161) (fun _ => x_iload_n rfl rk_s) ?_
                refine w_ishl1 rfl (show 0 ≤ z91 ∧ z91 ≤ 31 from q_2633 hp15 pz91_1) ?_
                refine w_isub rfl ?_
                have hx1 : ((z84 - p2 (z91))) = q4 - p2 qs1 := by rw [hqs1, hq4]
                have hm1b : (z91) = qs1 := by omega
                have hs1b : (z91) = qs1 := hm1b
                refine w_inv H (o := 6) rfl rfl rfl (H.perm 6 rfl) rfl rfl (by rfl) (M403b H (wq47) ((funext (hA90 66 rfl)).trans ((funext (hA83 66 rfl)).trans (ewq48))) (wq49) ((funext (hA90 67 rfl)).trans ((funext (hA83 67 rfl)).trans (ewq50))) (wq51) ((funext (hA90 68 rfl)).trans ((funext (hA83 68 rfl)).trans (ewq52))) (show inr (1) from q_135) (show inr (x2_1) from j2_0) (show inr (z91) from pz91_0) (show inr (z91) from pz91_0) (show inr ((z84 - p2 (z91))) from q_2094 pz84_0 pz91_2) (show 0 ≤ (1) ∧ (1) ≤ 2 ∧ 0 ≤ (x2_1) ∧ (x2_1) ≤ 8000 from q_2093 b2 j2_1 r1) (show 0 ≤ (z91) ∧ (z91) ≤ 63 ∧ 0 ≤ (z91) ∧ (z91) ≤ 31 from q_2634 hp15 pz91_1) (fun σ F93 A94 H hS95 hA96 wq98 ewq99 wq100 ewq101 wq102 ewq103 pz97_0 pz97_1 pz97_2 => ⟨rfl, ?_⟩))
                have hC0 := pz97_0
                have hC1 := pz97_1
                have hC2 := pz97_2
                have : TLI ((wq98)) ((wq100)) ((w62)) ((w63)) ((x2_1) + 1) := TLI_next j2_t (by omega) (by omega) rfl pz21_0 pz21_1 pz46_0 pz46_1 pz97_0 pz97_1 (by omega) (by omega) (by omega) (by omega)
                refine Ew_of (pcₚ := 169) (fun _ => x_iinc (len := 3) rfl (rk_o (rk_o (l69_1) rfl rfl) rfl rfl)) ?_
                refine Ew_of (pcₚ := 2) (fun _ => x_goto rfl rfl) ?_
                have : IMP ((1 ≤ ((w56)) 0 ∧ 1 ≤ ((w56)) 1 ∧ 1 ≤ ((w56)) 2) ∧ DGE ((w64)) ((u6_28))) (TLA ((wq98)) ((wq100)) ((wq102)) ((w62)) ((w63)) ((w64)) (((w56)) 0, ((w56)) 1, ((w56)) 2) (((x2_1 + 1))) ((wq85))) := fun h => by have t := j2_q h; have hd1 := hdg h.2; exact TLA_s (m0 := lB qs0) (m2 := mB qs2) (m1 := qs1) (y0 := qs0) (y2 := qs2) (y1 := qs1) t (by omega) (by omega) rfl (hA0.trans (by rw [hs0b])) (hA1.trans (by rw [hm0b])) hA2 (hB0_.trans (by rw [hs2b])) (hB1_.trans (by rw [hm2b])) hB2_ (hC0.trans (by rw [hs1b])) (hC1.trans (by rw [hm1b])) hC2 ha0q rfl hx0 hb0q rfl hx2 hqd2 hli (hnr ⟨t.2.2.1, by omega⟩).1 (hnr ⟨t.2.2.1, by omega⟩).2 (hnl ⟨t.2.2, by omega⟩) hc0 rfl hx1
                exact ih2 _ (by omega) _ σ _ _ ((x2_1 + 1)) (rk_o (rk_o (rk_o (l69_0) rfl rfl) rfl rfl) rfl rfl) (rk_s) H (SF_trans (SF_trans (SF_trans (SF_trans (SF_trans (SF_trans (SF_trans (SF_trans (SF_trans (SF_trans (SF_trans (hS_2) hS_14 (any_sub rfl)) hS5 (any_sub rfl)) hS13 (any_sub rfl)) hS19 (any_sub rfl)) hS_69 (any_sub rfl)) hS30 (any_sub rfl)) hS38 (any_sub rfl)) hS44 (any_sub rfl)) hS82 (any_sub rfl)) hS89 (any_sub rfl)) hS95 (any_sub rfl)) (SA_trans (SA_trans (SA_trans (SA_trans (SA_trans (SA_trans (SA_trans (SA_trans (SA_trans (SA_trans (SA_trans (hA_2) hA_14 (any_subA rfl)) hA6 (any_subA rfl)) hA14 (any_subA rfl)) hA20 (any_subA rfl)) hA_69 (any_subA rfl)) hA31 (any_subA rfl)) hA39 (any_subA rfl)) hA45 (any_subA rfl)) hA83 (any_subA rfl)) hA90 (any_subA rfl)) hA96 (any_subA rfl))  (wq85) ((funext (hA96 56 rfl)).trans ((funext (hA90 56 rfl)).trans (ewq86))) (wq98) (ewq99) (wq100) (ewq101) (wq102) (ewq103) (show inr ((x2_1 + 1)) from q_15 b2 j2_1 r1) (show (0) ≤ ((x2_1 + 1)) from q_14 j2_1) (show ((x2_1 + 1)) ≤ (0) ∨ ((x2_1 + 1)) ≤ ((u6_28)) from q_13 b2) (show IMP ((1 ≤ ((w56)) 0 ∧ 1 ≤ ((w56)) 1 ∧ 1 ≤ ((w56)) 2) ∧ DGE ((w64)) ((u6_28))) (TLA ((wq98)) ((wq100)) ((wq102)) ((w62)) ((w63)) ((w64)) (((w56)) 0, ((w56)) 1, ((w56)) 2) (((x2_1 + 1))) ((wq85))) by assumption) (show TLI ((wq98)) ((wq100)) ((w62)) ((w63)) (((x2_1 + 1))) by assumption) rfl
            · refine Ew_of (pcₚ := 87) (fun _ => x_iload_n rfl l69_3) ?_
              refine Ew_of (pcₚ := 88) (fun _ => x_iconst rfl) ?_
              refine Ew_of (pcₚ := 89) (fun _ => x_iload_n rfl l69_2) ?_
              refine w_stat24 rfl rfl (by rfl) (M402 H (show inr (x69_2) from j69_0) (show 0 ≤ (x69_2) ∧ (x69_2) ≤ 52 from q_2086 j69_2) (fun z108 σ F104 A105 H hS106 hA107 pz108_0 pz108_1 pz108_2 => ⟨rfl, ?_⟩))
              have hz : p2 ((z108)) = p2 (mB ((x69_2))) := by rw [pz108_2]
              have : p2 ((z108)) ≤ p2 16 := p2_mono (by omega)
              have : p2 16 = 65536 := by decide
              have := p2_pos ((z108))
              refine w_ishl1 rfl (show 0 ≤ z108 ∧ z108 ≤ 31 from q_1720 pz108_1) ?_
              refine w_iadd rfl ?_
              refine Ew_of (pcₚ := 95) (fun _ => x_istore_n rfl) ?_
              have : (x69_2) + 1 ≤ 49 := mBs_bd (by omega) (by omega) (by omega)
              refine Ew_of (pcₚ := 98) (fun _ => x_iinc (len := 3) rfl (rk_o (l69_2) rfl rfl)) ?_
              refine Ew_of (pcₚ := 69) (fun _ => x_goto rfl rfl) ?_
              exact ih69 _ (msE hm69 q_2097 (q_2098 j69_2)) _ σ _ _ ((x69_2 + 1)) ((x69_3 + p2 (z108))) (rk_o (rk_o (l69_0) rfl rfl) rfl rfl) (rk_o (rk_o (l69_1) rfl rfl) rfl rfl) (rk_s) (rk_o (rk_s) rfl rfl) H (SF_trans (SF_trans (hS_69) hS30 (any_sub rfl)) hS106 (any_sub rfl)) (SA_trans (SA_trans (hA_69) hA31 (any_subA rfl)) hA107 (any_subA rfl))   (show inr ((x69_2 + 1)) from q_2096 j69_2) (show inr ((x69_3 + p2 (z108))) by omega) (show 0 ≤ ((x69_2 + 1)) ∧ ((x69_2 + 1)) ≤ 49 by omega) (show ((x69_3 + p2 (z108))) = mBs (((x69_2 + 1))) by omega) (show 0 ≤ ((x69_3 + p2 (z108))) ∧ ((x69_3 + p2 (z108))) ≤ 16384 by omega) (show ((x69_2 + 1)) = 0 ∨ ((x69_3 + p2 (z108))) ≤ ((w63)) ((x2_1)) by omega) (show ((x69_3 + p2 (z108))) ≤ ((w63)) ((x2_1)) by omega) rfl
        · refine Ew_of (pcₚ := 32) (fun _ => x_iload_n rfl l14_3) ?_
          refine Ew_of (pcₚ := 33) (fun _ => x_iconst rfl) ?_
          refine Ew_of (pcₚ := 34) (fun _ => x_iload_n rfl l14_2) ?_
          refine w_stat24 rfl rfl (by rfl) (M401 H (show inr (x14_2) from j14_0) (show 0 ≤ (x14_2) ∧ (x14_2) ≤ 35 from q_2077 j14_2) (fun z114 σ F110 A111 H hS112 hA113 pz114_0 pz114_1 pz114_2 => ⟨rfl, ?_⟩))
          have hz : p2 ((z114)) = p2 (lB ((x14_2))) := by rw [pz114_2]
          have : p2 ((z114)) ≤ p2 16 := p2_mono (by omega)
          have : p2 16 = 65536 := by decide
          have := p2_pos ((z114))
          refine w_ishl1 rfl (show 0 ≤ z114 ∧ z114 ≤ 31 from q_1720 pz114_1) ?_
          refine w_iadd rfl ?_
          refine Ew_of (pcₚ := 40) (fun _ => x_istore_n rfl) ?_
          have : (x14_2) + 1 ≤ 33 := lBs_bd (by omega) (by omega) (by omega)
          refine Ew_of (pcₚ := 43) (fun _ => x_iinc (len := 3) rfl (rk_o (l14_2) rfl rfl)) ?_
          refine Ew_of (pcₚ := 14) (fun _ => x_goto rfl rfl) ?_
          exact ih14 _ (msE hm14 q_2100 (q_2101 j14_2)) _ σ _ _ ((x14_2 + 1)) ((x14_3 + p2 (z114))) (rk_o (rk_o (l14_0) rfl rfl) rfl rfl) (rk_o (rk_o (l14_1) rfl rfl) rfl rfl) (rk_s) (rk_o (rk_s) rfl rfl) H (SF_trans (SF_trans (hS_14) hS5 (any_sub rfl)) hS112 (any_sub rfl)) (SA_trans (SA_trans (hA_14) hA6 (any_subA rfl)) hA113 (any_subA rfl))   (show inr ((x14_2 + 1)) from q_2099 j14_2) (show inr ((x14_3 + p2 (z114))) by omega) (show 0 ≤ ((x14_2 + 1)) ∧ ((x14_2 + 1)) ≤ 33 by omega) (show ((x14_3 + p2 (z114))) = lBs (((x14_2 + 1))) by omega) (show 0 ≤ ((x14_3 + p2 (z114))) ∧ ((x14_3 + p2 (z114))) ≤ 16384 by omega) (show ((x14_2 + 1)) = 0 ∨ ((x14_3 + p2 (z114))) ≤ ((w62)) ((x2_1)) by omega) (show ((x14_3 + p2 (z114))) ≤ ((w62)) ((x2_1)) by omega) rfl


end
section
/-! 85.ref -/
theorem M411b {σ0 σ : rS} {D N : Nat → Nat} {F : hF} {A : hA} {d c s : Nat} {Q : wQ} (H : HS σ0 σ D N F A) {a1 a2 : Int} (w78 : Int → Int) (ew78 : A 78 = w78) (h0 : inr (a1)) (h1 : inr (a2)) (h2 : 1 ≤ (a1) ∧ (a1) ≤ 8001) (h3 : 5 ≤ (a2) ∧ (a2) ≤ 9) (h4 : ∀ i, (0 : Int) ≤ i → i < 64 → 0 ≤ ((w78)) i) (h5 : su (fun i => ((w78)) i) 64 = (a1)) (h6 : su (fun i => pos1 (((w78)) i)) 64 ≤ p2 ((a2))) (k : ∀ σ Fₚ Aₚ, HS σ0 σ D N Fₚ Aₚ → SF [] F Fₚ → SA [75, 76, 77] A Aₚ → ∀ v75 : Int → Int, Aₚ 75 = v75 → (DVI ((w78)) ((v75)) 64) → (su (fun i => mass (((v75)) i)) 64 = p2 ((a2))) → (DVF ((w78)) ((a1)) (p2 ((a2))) ((v75))) → Q none σ c s) : Ew 411 (d + 1) 0 (rargs 0 [.ref (D 6), I a1, I a2]) [] σ c s Q := by
  refine Ew_of (pcₚ := 1) (fun _ => x_iconst rfl) ?_
  refine Ew_of (pcₚ := 2) (fun _ => x_iload_n rfl rfl) ?_
  refine w_ishl1 rfl (show 0 ≤ a2 ∧ a2 ≤ 31 from q_1303 h3) ?_
  refine Ew_of (pcₚ := 4) (fun _ => x_istore_n rfl) ?_
  refine Ew_of (pcₚ := 5) (fun _ => x_iconst rfl) ?_
  refine Ew_of (pcₚ := 7) (fun _ => x_istore rfl) ?_
  have hp5 := p2_5 (o := (a2)) (by omega)
  have : su (fun i => mass (((A 75)) i)) (0 : Int).toNat = 0 := rfl
  have : DVI ((w78)) ((A 75)) 0 := fun s a b => absurd b (by omega)
  have : DVJ ((w78)) ((A 75)) 0 ((a1)) (p2 ((a2))) := fun s a b => absurd b (by omega)
  have : DVA ((w78)) ((A 75)) ((a1)) (p2 ((a2))) (0) := fun s a b => absurd b (by omega)
  have : DVC ((w78)) ((A 76)) ((a1)) (p2 ((a2))) (0) := fun s a b => absurd b (by omega)
  have : DVH ((A 77)) (0) := fun s a b => absurd b (by omega)
  suffices hl7 : ∀ (m : Nat), ∀ (ls : rO) (σ : rS) (F_7 : hF) (A_7 : hA) (x7_3 : Int) (x7_4 : Int), rlook ls 0 = some (.ref (D 6)) → rlook ls 1 = some (I (a1)) → rlook ls 2 = some (I (a2)) → rlook ls 3 = some (I (x7_3)) → rlook ls 4 = some (I (x7_4)) → HS σ0 σ D N F_7 A_7 → SF [] F F_7 → SA [75, 76, 77] A A_7 → ∀ w7_75 : Int → Int, A_7 75 = w7_75 → ∀ w7_76 : Int → Int, A_7 76 = w7_76 → ∀ w7_77 : Int → Int, A_7 77 = w7_77 → (inr (x7_3)) → (inr (x7_4)) → ((0) ≤ (x7_4)) → ((x7_4) ≤ (0) ∨ (x7_4) ≤ ((64))) → ((x7_3) = p2 ((a2)) - su (fun i => mass (((w7_75)) i)) ((x7_4) : Int).toNat) → (-(512 * (x7_4)) ≤ (x7_3) ∧ (x7_3) ≤ 512) → (DVI ((w78)) ((w7_75)) ((x7_4))) → (DVJ ((w78)) ((w7_75)) ((x7_4)) ((a1)) (p2 ((a2)))) → (DVA ((w78)) ((w7_75)) ((a1)) (p2 ((a2))) ((x7_4))) → (DVC ((w78)) ((w7_76)) ((a1)) (p2 ((a2))) ((x7_4))) → (DVH ((w7_77)) ((x7_4))) → (((64)) - (x7_4)).toNat = m → Ew 411 (d + 1) 7 ls [] σ c s Q from
    hl7 _ _ σ _ _ (p2 (a2)) (0) (rk_o (rk_o (rfl) rfl rfl) rfl rfl) (rk_o (rk_o (rfl) rfl rfl) rfl rfl) (rk_o (rk_o (rfl) rfl rfl) rfl rfl) (rk_o (rk_s) rfl rfl) (rk_s) H (SF_refl) (SA_refl)  (A 75) (rfl) (A 76) (rfl) (A 77) (rfl) (show inr (p2 (a2)) by omega) (show inr (0) from q_2) (show (0) ≤ (0) from q_1) (show (0) ≤ (0) ∨ (0) ≤ ((64)) from q_1339) (show (p2 (a2)) = p2 ((a2)) - su (fun i => mass (((A 75)) i)) ((0) : Int).toNat by omega) (show -(512 * (0)) ≤ (p2 (a2)) ∧ (p2 (a2)) ≤ 512 by omega) (show DVI ((w78)) ((A 75)) ((0)) by assumption) (show DVJ ((w78)) ((A 75)) ((0)) ((a1)) (p2 ((a2))) by assumption) (show DVA ((w78)) ((A 75)) ((a1)) (p2 ((a2))) ((0)) by assumption) (show DVC ((w78)) ((A 76)) ((a1)) (p2 ((a2))) ((0)) by assumption) (show DVH ((A 77)) ((0)) by assumption) rfl
  as_aux_lemma =>
  intro m
  induction m using Nat.strongRecOn with
  | _ m ih7 =>
    intro ls σ F_7 A_7 x7_3 x7_4 l7_0 l7_1 l7_2 l7_3 l7_4 H hS_7 hA_7  w7_75 ew7_75 w7_76 ew7_76 w7_77 ew7_77 j7_0 j7_1 j7_2 j7_3 j7_4 j7_5 j7_6 j7_7 j7_8 j7_9 j7_10 hm7
    have j7_dvi : DVI ((w78)) ((w7_75)) ((x7_4)) := j7_6
    have j7_dvj : DVJ ((w78)) ((w7_75)) ((x7_4)) ((a1)) (p2 ((a2))) := j7_7
    have j7_a : DVA ((w78)) ((w7_75)) ((a1)) (p2 ((a2))) ((x7_4)) := j7_8
    have j7_c : DVC ((w78)) ((w7_76)) ((a1)) (p2 ((a2))) ((x7_4)) := j7_9
    have j7_h : DVH ((w7_77)) ((x7_4)) := j7_10
    refine Ew_of (pcₚ := 9) (fun _ => x_iload rfl l7_4) ?_
    refine Ew_of (pcₚ := 11) (fun _ => x_bipush (z := 64) rfl (by decide)) ?_
    refine w_icmpge (t := 93) rfl rfl (show inr (x7_4) from j7_1) (show inr (64) from q_151) (fun b2 => ?_) (fun b2 => ?_)
    · have : TRU ((w7_77)) := trivial
      have h64 : (x7_4) = 64 := q_2422 b2 j7_3
      have hdvi : DVI ((w78)) ((w7_75)) 64 := by rw [← h64]; assumption
      have hdvj : DVJ ((w78)) ((w7_75)) 64 ((a1)) (p2 ((a2))) := by rw [← h64]; assumption
      have hms64 : su (fun i => mass (((w7_75)) i)) ((x7_4) : Int).toNat = su (fun i => mass (((w7_75)) i)) 64 := by rw [h64]; rfl
      have hexp : EXP ((w7_75)) := EXP_of hdvj (by assumption) (by assumption) (by omega) (by omega)
      have : 2 * (x7_3) + 1 ≤ ((2 * (x7_3) + 1 : Int).toNat : Int) ∨ (2 * (x7_3) ≤ ((2 * (x7_3) + 1 : Int).toNat : Int) ∧ FREE ((w7_75)) ((w7_77)) 64) := .inl (by omega)
      have hdvc : DVC ((w78)) ((w7_76)) ((a1)) (p2 ((a2))) (64) := by rw [← h64]; exact j7_c
      have hdva : DVA ((w78)) ((w7_75)) ((a1)) (p2 ((a2))) (64) := by rw [← h64]; exact j7_a
      have hdvh : DVH ((w7_77)) (64) := by rw [← h64]; exact j7_h
      have : DV1R ((w78)) ((a1)) (p2 ((a2))) ((w7_75)) ((w7_77)) ((x7_3)) := DV1R_0 hdva hdvh (by omega)
      suffices hl93 : ∀ (mx : Nat), ∀ (ls : rO) (σ : rS) (F_93 : hF) (A_93 : hA) (x93_3 : Int), rlook ls 0 = some (.ref (D 6)) → rlook ls 3 = some (I (x93_3)) → HS σ0 σ D N F_93 A_93 → SF [] F_7 F_93 → SA [75, 77] A_7 A_93 → ∀ w93_75 : Int → Int, A_93 75 = w93_75 → ∀ w93_77 : Int → Int, A_93 77 = w93_77 → (inr (x93_3)) → ((x93_3) = p2 ((a2)) - su (fun i => mass (((w93_75)) i)) 64) → (-32768 ≤ (x93_3) ∧ (x93_3) ≤ 512) → (DVI ((w78)) ((w93_75)) 64) → (EXP ((w93_75))) → (TRU ((w93_77))) → (DV1R ((w78)) ((a1)) (p2 ((a2))) ((w93_75)) ((w93_77)) ((x93_3))) → (2 * (x93_3) + 1 ≤ mx ∨ (2 * (x93_3) ≤ mx ∧ FREE ((w93_75)) ((w93_77)) 64)) → Ew 411 (d + 1) 93 ls [] σ c s Q from
        hl93 ((2 * (x7_3) + 1 : Int).toNat) _ σ _ _ (x7_3) (l7_0) (l7_3) H (SF_refl) (SA_refl)  (w7_75) (ew7_75) (w7_77) (ew7_77) (show inr (x7_3) from j7_0) (show (x7_3) = p2 ((a2)) - su (fun i => mass (((w7_75)) i)) 64 by omega) (show -32768 ≤ (x7_3) ∧ (x7_3) ≤ 512 from q_2423 h64 j7_5) (hdvi) (hexp) (show TRU ((w7_77)) by assumption) (show DV1R ((w78)) ((a1)) (p2 ((a2))) ((w7_75)) ((w7_77)) ((x7_3)) by assumption) (by assumption)
      as_aux_lemma =>
      intro mx
      induction mx using Nat.strongRecOn with
      | _ mx ih93 =>
        intro ls σ F_93 A_93 x93_3 l93_0 l93_3 H hS_93 hA_93  w93_75 ew93_75 w93_77 ew93_77 j93_0 j93_1 j93_2 j93_3 j93_4 j93_5 j93_6 hm93
        have j93_e : EXP ((w93_75)) := by assumption
        have j93_d : DVI ((w78)) ((w93_75)) 64 := by assumption
        have j93_r : DV1R ((w78)) ((a1)) (p2 ((a2))) ((w93_75)) ((w93_77)) ((x93_3)) := by assumption
        refine Ew_of (pcₚ := 94) (fun _ => x_iload_n rfl l93_3) ?_
        refine w_ifle (t := 219) rfl rfl (show inr (x93_3) by omega) (fun b3 => ?_) (fun b3 => ?_)
        · have : DV2R ((w78)) ((a1)) (p2 ((a2))) ((w93_75)) ((x93_3)) := DV2R_0 j93_r (by omega)
          suffices hl219 : ∀ (m : Nat), ∀ (ls : rO) (σ : rS) (F_219 : hF) (A_219 : hA) (x219_3 : Int), rlook ls 0 = some (.ref (D 6)) → rlook ls 3 = some (I (x219_3)) → HS σ0 σ D N F_219 A_219 → SF [] F_93 F_219 → SA [75] A_93 A_219 → ∀ w219_75 : Int → Int, A_219 75 = w219_75 → (inr (x219_3)) → ((x219_3) = p2 ((a2)) - su (fun i => mass (((w219_75)) i)) 64) → (-32768 ≤ (x219_3) ∧ (x219_3) ≤ 0) → (DVI ((w78)) ((w219_75)) 64) → (DV2R ((w78)) ((a1)) (p2 ((a2))) ((w219_75)) ((x219_3))) → (0 - (x219_3)).toNat = m → Ew 411 (d + 1) 219 ls [] σ c s Q from
            hl219 _ _ σ _ _ (x93_3) (l93_0) (l93_3) H (SF_refl) (SA_refl)  (w93_75) (ew93_75) (show inr (x93_3) by omega) (show (x93_3) = p2 ((a2)) - su (fun i => mass (((w93_75)) i)) 64 by omega) (show -32768 ≤ (x93_3) ∧ (x93_3) ≤ 0 by omega) (j93_d) (show DV2R ((w78)) ((a1)) (p2 ((a2))) ((w93_75)) ((x93_3)) by assumption) rfl
          as_aux_lemma =>
          intro m
          induction m using Nat.strongRecOn with
          | _ m ih219 =>
            intro ls σ F_219 A_219 x219_3 l219_0 l219_3 H hS_219 hA_219  w219_75 ew219_75 j219_0 j219_1 j219_2 j219_3 j219_4 hm219
            have j219_r : DV2R ((w78)) ((a1)) (p2 ((a2))) ((w219_75)) ((x219_3)) := j219_4
            refine Ew_of (pcₚ := 220) (fun _ => x_iload_n rfl l219_3) ?_
            refine w_ifge (t := 285) rfl rfl (show inr (x219_3) from j219_0) (fun b4 => ?_) (fun b4 => ?_)
            · have : DVF ((w78)) ((a1)) (p2 ((a2))) ((w219_75)) := ⟨(x219_3), by omega, j219_r⟩
              exact w_ret rfl (k σ _ _ H (SF_trans (SF_trans (SF_trans (SF_refl) hS_7 (any_sub rfl)) hS_93 (any_sub rfl)) hS_219 (any_sub rfl)) (SA_trans (SA_trans (SA_trans (SA_refl) hA_7 (any_subA rfl)) hA_93 (any_subA rfl)) hA_219 (any_subA rfl)) (w219_75) (ew219_75) (j219_3) (show su (fun i => mass (((w219_75)) i)) 64 = p2 (a2) by omega) (show DVF ((w78)) (a1) (p2 (a2)) ((w219_75)) by assumption))
            · have htwo := two_ex (j219_3) (by assumption) (show p2 ((a2)) < su (fun i => mass (((w219_75)) i)) 64 by omega)
              refine Ew_of (pcₚ := 224) (fun _ => x_iconst rfl) ?_
              refine Ew_of (pcₚ := 226) (fun _ => x_istore rfl) ?_
              refine Ew_of (pcₚ := 227) (fun _ => x_iconst rfl) ?_
              refine Ew_of (pcₚ := 229) (fun _ => x_istore rfl) ?_
              have : ∀ k, (0 : Int) ≤ k → k < 1 → ((w219_75)) k ≤ ((w219_75)) 0 := fun k a b => by rw [show k = 0 by omega]; omega
              have : mst ((w219_75)) (1 : Int).toNat = 0 := mst_1
              suffices hl229 : ∀ (m : Nat), ∀ (ls : rO) (σ : rS) (F_229 : hF) (A_229 : hA) (x229_4 : Int) (x229_5 : Int), rlook ls 0 = some (.ref (D 6)) → rlook ls 3 = some (I (x219_3)) → rlook ls 4 = some (I (x229_4)) → rlook ls 5 = some (I (x229_5)) → HS σ0 σ D N F_229 A_229 → SF [] F_219 F_229 → SA [] A_219 A_229 → (inr (x229_4)) → (inr (x229_5)) → ((1) ≤ (x229_5)) → ((x229_5) ≤ (1) ∨ (x229_5) ≤ ((64))) → (0 ≤ (x229_4) ∧ (x229_4) < 64) → (∀ k, 0 ≤ k → k < (x229_5) → ((w219_75)) k ≤ ((w219_75)) ((x229_4))) → (mst ((w219_75)) ((x229_5) : Int).toNat = (x229_4)) → (((64)) - (x229_5)).toNat = m → Ew 411 (d + 1) 229 ls [] σ c s Q from
                hl229 _ _ σ _ _ (0) (1) (rk_o (rk_o (l219_0) rfl rfl) rfl rfl) (rk_o (rk_o (l219_3) rfl rfl) rfl rfl) (rk_o (rk_s) rfl rfl) (rk_s) H (SF_refl) (SA_refl)   (show inr (0) from q_2) (show inr (1) from q_135) (show (1) ≤ (1) from q_1387) (show (1) ≤ (1) ∨ (1) ≤ ((64)) from q_2425) (show 0 ≤ (0) ∧ (0) < 64 from q_2424) (show ∀ k, 0 ≤ k → k < (1) → ((w219_75)) k ≤ ((w219_75)) ((0)) by assumption) (show mst ((w219_75)) ((1) : Int).toNat = (0) by assumption) rfl
              as_aux_lemma =>
              intro m
              induction m using Nat.strongRecOn with
              | _ m ih229 =>
                intro ls σ F_229 A_229 x229_4 x229_5 l229_0 l229_3 l229_4 l229_5 H hS_229 hA_229   j229_0 j229_1 j229_2 j229_3 j229_4 j229_5 j229_6 hm229
                have j229_m : mst ((w219_75)) ((x229_5) : Int).toNat = (x229_4) := by assumption
                refine Ew_of (pcₚ := 231) (fun _ => x_iload rfl l229_5) ?_
                refine Ew_of (pcₚ := 233) (fun _ => x_bipush (z := 64) rfl (by decide)) ?_
                refine w_icmpge (t := 268) rfl rfl (show inr (x229_5) from j229_1) (show inr (64) from q_151) (fun b5 => ?_) (fun b5 => ?_)
                · have ht2 : 2 ≤ ((w219_75)) ((x229_4)) := by obtain ⟨s, a, b, c⟩ := htwo; have := (j229_5) s a (by omega); omega
                  have hmst : mst ((w219_75)) 64 = (x229_4) := by have e5 : (x229_5) = 64 := (by omega); rw [e5] at j229_m; exact j229_m
                  refine Ew_of (pcₚ := 269) (fun _ => x_aload_n rfl l229_0) ?_
                  refine w_gT H (o := 6) (t := 75) rfl (H.perm 6 rfl) rfl rfl rfl rfl rfl rfl ?_
                  refine Ew_of (pcₚ := 274) (fun _ => x_iload rfl l229_4) ?_
                  refine Ew_of (pcₚ := 275) (fun _ => x_dup2 rfl rfl rfl) ?_
                  refine w_lI H (o := 75) (n := 64) rfl (H.perm 75 rfl) rfl rfl (H.fix 75 rfl rfl) (show 0 ≤ x229_4 ∧ x229_4 < ((64 : Nat) : Int) from q_2426 j229_4) (by decide) (fun v6 ev6 qv6 => ?_)
                  have qv6 : (-2147483648 : Int) ≤ v6 ∧ v6 ≤ 2147483647 := qv6
                  have ev6 : (w219_75) (x229_4) = v6 := (congrFun ((funext (hA_229 75 rfl)).trans (ew219_75)) (x229_4)).symm.trans ev6
                  refine Ew_of (pcₚ := 277) (fun _ => x_iconst rfl) ?_
                  refine w_isub rfl ?_
                  have hb1 := mass_upd (g := (w219_75)) (j := (x229_4)) (v := ((v6 - 1))) (n := 64) (by omega) (by omega)
                  have hb2 := mass_eq (((v6 - 1)))
                  have hb3 := mass_eq (((w219_75)) ((x229_4)))
                  have hb4 : DVI ((w78)) (upd1 ((w219_75)) ((x229_4)) (((v6 - 1)))) 64 := DVI_dec (by assumption) (by omega) (by omega)
                  have : DV2R ((w78)) ((a1)) (p2 ((a2))) (upd1 ((w219_75)) ((x229_4)) (((v6 - 1)))) ((x219_3) + 1) := DV2R_s j219_r (by omega) hmst (by omega) rfl
                  refine w_sI H (o := 75) (n := 64) rfl (H.perm 75 rfl) rfl rfl (H.fix 75 rfl rfl) (show 0 ≤ x229_4 ∧ x229_4 < ((64 : Nat) : Int) from q_2426 j229_4) (by decide) (show (-2147483648 : Int) ≤ (v6 - 1) ∧ (v6 - 1) ≤ 2147483647 from q_2427 ev6 ht2 qv6) (fun σ H => ?_)
                  refine Ew_of (pcₚ := 282) (fun _ => x_iinc (len := 3) rfl (l229_3)) ?_
                  refine Ew_of (pcₚ := 219) (fun _ => x_goto rfl rfl) ?_
                  exact ih219 _ (msE hm219 q_2430 (q_2431 b4)) _ σ _ _ ((x219_3 + 1)) (rk_o (l229_0) rfl rfl) (rk_s) H (SF_trans (hS_219) hS_229 (any_sub rfl)) (SA_upd (SA_trans (hA_219) hA_229 (any_subA rfl)) rfl)  (upd1 (w219_75) (x229_4) ((v6 - 1))) (congrArg (fun q => upd1 q (x229_4) ((v6 - 1))) ((funext (hA_229 75 rfl)).trans (ew219_75))) (show inr ((x219_3 + 1)) from q_2429 b4 j219_2) (show ((x219_3 + 1)) = p2 ((a2)) - su (fun i => mass (((upd1 (w219_75) (x229_4) ((v6 - 1)))) i)) 64 by omega) (show -32768 ≤ ((x219_3 + 1)) ∧ ((x219_3 + 1)) ≤ 0 from q_2428 b4 j219_2) (hb4) (show DV2R ((w78)) ((a1)) (p2 ((a2))) ((upd1 (w219_75) (x229_4) ((v6 - 1)))) (((x219_3 + 1))) by assumption) rfl
                · refine Ew_of (pcₚ := 237) (fun _ => x_aload_n rfl l229_0) ?_
                  refine w_gT H (o := 6) (t := 75) rfl (H.perm 6 rfl) rfl rfl rfl rfl rfl rfl ?_
                  refine Ew_of (pcₚ := 242) (fun _ => x_iload rfl l229_5) ?_
                  refine w_lI H (o := 75) (n := 64) rfl (H.perm 75 rfl) rfl rfl (H.fix 75 rfl rfl) (show 0 ≤ x229_5 ∧ x229_5 < ((64 : Nat) : Int) from q_2432 b5 j229_2) (by decide) (fun v7 ev7 qv7 => ?_)
                  have qv7 : (-2147483648 : Int) ≤ v7 ∧ v7 ≤ 2147483647 := qv7
                  have ev7 : (w219_75) (x229_5) = v7 := (congrFun ((funext (hA_229 75 rfl)).trans (ew219_75)) (x229_5)).symm.trans ev7
                  refine Ew_of (pcₚ := 244) (fun _ => x_aload_n rfl l229_0) ?_
                  refine w_gT H (o := 6) (t := 75) rfl (H.perm 6 rfl) rfl rfl rfl rfl rfl rfl ?_
                  refine Ew_of (pcₚ := 249) (fun _ => x_iload rfl l229_4) ?_
                  refine w_lI H (o := 75) (n := 64) rfl (H.perm 75 rfl) rfl rfl (H.fix 75 rfl rfl) (show 0 ≤ x229_4 ∧ x229_4 < ((64 : Nat) : Int) from q_2426 j229_4) (by decide) (fun v8 ev8 qv8 => ?_)
                  have qv8 : (-2147483648 : Int) ≤ v8 ∧ v8 ≤ 2147483647 := qv8
                  have ev8 : (w219_75) (x229_4) = v8 := (congrFun ((funext (hA_229 75 rfl)).trans (ew219_75)) (x229_4)).symm.trans ev8
                  refine w_icmple (t := 258) rfl rfl (show inr (v7) from q_18 qv7) (show inr (v8) from q_18 qv8) (fun b9 => ?_) (fun b9 => ?_)
                  · refine Ew_of (pcₚ := 260) (fun _ => x_iload rfl l229_4) ?_
                    refine Ew_of (pcₚ := 262) (fun _ => x_istore rfl) ?_
                    refine Ew_of (pcₚ := 265) (fun _ => x_iinc (len := 3) rfl (rk_o (l229_5) rfl rfl)) ?_
                    refine Ew_of (pcₚ := 229) (fun _ => x_goto rfl rfl) ?_
                    have : ∀ k, (0 : Int) ≤ k → k < ((x229_5 + 1)) → ((w219_75)) k ≤ ((w219_75)) ((x229_4)) := fun k a b => by by_cases e : k = x229_5; (rw [e]; omega); (have := (j229_5) k a (by omega); omega)
                    have : mst ((w219_75)) (((x229_5 + 1)) : Int).toNat = (x229_4) := by have q := mst_s (tr := (w219_75)) (i := x229_5) (by omega) j229_m; omega
                    exact ih229 _ (msE hm229 q_1344 (q_1345 b5)) _ σ _ _ (x229_4) ((x229_5 + 1)) (rk_o (rk_o (l229_0) rfl rfl) rfl rfl) (rk_o (rk_o (l229_3) rfl rfl) rfl rfl) (rk_o (rk_s) rfl rfl) (rk_s) H (hS_229) (hA_229)   (show inr (x229_4) from j229_0) (show inr ((x229_5 + 1)) from q_2434 b5 j229_2) (show (1) ≤ ((x229_5 + 1)) from q_888 j229_2) (show ((x229_5 + 1)) ≤ (1) ∨ ((x229_5 + 1)) ≤ ((64)) from q_2433 b5) (show 0 ≤ (x229_4) ∧ (x229_4) < 64 from j229_4) (show ∀ k, 0 ≤ k → k < ((x229_5 + 1)) → ((w219_75)) k ≤ ((w219_75)) ((x229_4)) by assumption) (show mst ((w219_75)) (((x229_5 + 1)) : Int).toNat = (x229_4) by assumption) rfl
                  · refine Ew_of (pcₚ := 255) (fun _ => x_iload rfl l229_5) ?_
                    refine Ew_of (pcₚ := 260) (fun _ => x_goto rfl rfl) ?_
                    refine Ew_of (pcₚ := 262) (fun _ => x_istore rfl) ?_
                    refine Ew_of (pcₚ := 265) (fun _ => x_iinc (len := 3) rfl (rk_o (l229_5) rfl rfl)) ?_
                    refine Ew_of (pcₚ := 229) (fun _ => x_goto rfl rfl) ?_
                    have : ∀ k, (0 : Int) ≤ k → k < ((x229_5 + 1)) → ((w219_75)) k ≤ ((w219_75)) ((x229_5)) := fun k a b => by by_cases e : k = x229_5; (rw [e]; omega); (have := (j229_5) k a (by omega); omega)
                    have : mst ((w219_75)) (((x229_5 + 1)) : Int).toNat = (x229_5) := by have q := mst_s (tr := (w219_75)) (i := x229_5) (by omega) j229_m; omega
                    exact ih229 _ (msE hm229 q_1344 (q_1345 b5)) _ σ _ _ (x229_5) ((x229_5 + 1)) (rk_o (rk_o (l229_0) rfl rfl) rfl rfl) (rk_o (rk_o (l229_3) rfl rfl) rfl rfl) (rk_o (rk_s) rfl rfl) (rk_s) H (hS_229) (hA_229)   (show inr (x229_5) from j229_1) (show inr ((x229_5 + 1)) from q_2434 b5 j229_2) (show (1) ≤ ((x229_5 + 1)) from q_888 j229_2) (show ((x229_5 + 1)) ≤ (1) ∨ ((x229_5 + 1)) ≤ ((64)) from q_2433 b5) (show 0 ≤ (x229_5) ∧ (x229_5) < 64 from q_2435 b5 j229_2) (show ∀ k, 0 ≤ k → k < ((x229_5 + 1)) → ((w219_75)) k ≤ ((w219_75)) ((x229_5)) by assumption) (show mst ((w219_75)) (((x229_5 + 1)) : Int).toNat = (x229_5) by assumption) rfl
        · refine Ew_of (pcₚ := 98) (fun _ => x_iconst rfl) ?_
          refine Ew_of (pcₚ := 100) (fun _ => x_istore rfl) ?_
          refine Ew_of (pcₚ := 101) (fun _ => x_iconst rfl) ?_
          refine Ew_of (pcₚ := 103) (fun _ => x_istore rfl) ?_
          have : (-1 : Int) = -1 → ∀ k, 0 ≤ k → k < (0 : Int) → ¬ (0 < ((w93_75)) k ∧ ((w93_77)) k = 0) := fun _ k a b => absurd b (by omega)
          have : bst ((w93_75)) ((w93_77)) ((w7_76)) (0 : Int).toNat = -1 := rfl
          suffices hl103 : ∀ (m : Nat), ∀ (ls : rO) (σ : rS) (F_103 : hF) (A_103 : hA) (x103_4 : Int) (x103_5 : Int), rlook ls 0 = some (.ref (D 6)) → rlook ls 3 = some (I (x93_3)) → rlook ls 4 = some (I (x103_4)) → rlook ls 5 = some (I (x103_5)) → HS σ0 σ D N F_103 A_103 → SF [] F_93 F_103 → SA [] A_93 A_103 → (inr (x103_4)) → (inr (x103_5)) → ((0) ≤ (x103_5)) → ((x103_5) ≤ (0) ∨ (x103_5) ≤ ((64))) → ((x103_4) = -1 ∨ 0 ≤ (x103_4) ∧ (x103_4) < (x103_5) ∧ 0 < ((w93_75)) ((x103_4)) ∧ ((w93_77)) ((x103_4)) = 0) → ((x103_4) = -1 → ∀ k, 0 ≤ k → k < (x103_5) → ¬ (0 < ((w93_75)) k ∧ ((w93_77)) k = 0)) → (bst ((w93_75)) ((w93_77)) ((w7_76)) ((x103_5) : Int).toNat = (x103_4)) → (((64)) - (x103_5)).toNat = m → Ew 411 (d + 1) 103 ls [] σ c s Q from
            hl103 _ _ σ _ _ ((-1)) (0) (rk_o (rk_o (l93_0) rfl rfl) rfl rfl) (rk_o (rk_o (l93_3) rfl rfl) rfl rfl) (rk_o (rk_s) rfl rfl) (rk_s) H (SF_refl) (SA_refl)   (show inr ((-1)) from q_63) (show inr (0) from q_2) (show (0) ≤ (0) from q_1) (show (0) ≤ (0) ∨ (0) ≤ ((64)) from q_1339) (show ((-1)) = -1 ∨ 0 ≤ ((-1)) ∧ ((-1)) < (0) ∧ 0 < ((w93_75)) (((-1))) ∧ ((w93_77)) (((-1))) = 0 from q_2436) (show ((-1)) = -1 → ∀ k, 0 ≤ k → k < (0) → ¬ (0 < ((w93_75)) k ∧ ((w93_77)) k = 0) by assumption) (show bst ((w93_75)) ((w93_77)) ((w7_76)) ((0) : Int).toNat = ((-1)) by assumption) rfl
          as_aux_lemma =>
          intro m
          induction m using Nat.strongRecOn with
          | _ m ih103 =>
            intro ls σ F_103 A_103 x103_4 x103_5 l103_0 l103_3 l103_4 l103_5 H hS_103 hA_103   j103_0 j103_1 j103_2 j103_3 j103_4 j103_5 j103_6 hm103
            have j103_n : (x103_4) = -1 → ∀ k, 0 ≤ k → k < (x103_5) → ¬ (0 < ((w93_75)) k ∧ ((w93_77)) k = 0) := by assumption
            have j103_b : bst ((w93_75)) ((w93_77)) ((w7_76)) ((x103_5) : Int).toNat = (x103_4) := by assumption
            refine Ew_of (pcₚ := 105) (fun _ => x_iload rfl l103_5) ?_
            refine Ew_of (pcₚ := 107) (fun _ => x_bipush (z := 64) rfl (by decide)) ?_
            refine w_icmpge (t := 162) rfl rfl (show inr (x103_5) from j103_1) (show inr (64) from q_151) (fun b10 => ?_) (fun b10 => ?_)
            · have hbst : bst ((w93_75)) ((w93_77)) ((w7_76)) 64 = (x103_4) := by have e5 : (x103_5) = 64 := (by omega); rw [e5] at j103_b; exact j103_b
              refine Ew_of (pcₚ := 164) (fun _ => x_iload rfl l103_4) ?_
              refine w_ifge (t := 194) rfl rfl (show inr (x103_4) from j103_0) (fun b11 => ?_) (fun b11 => ?_)
              · have hb3 := mass_eq (((w93_75)) ((x103_4)))
                have hbnd := su_one (f := fun i => mass (((w93_75)) i)) (i := (x103_4)) (n := 64) (fun i => by have := mass_eq (((w93_75)) i); omega) (by omega) (by omega)
                refine Ew_of (pcₚ := 195) (fun _ => x_aload_n rfl l103_0) ?_
                refine w_gT H (o := 6) (t := 75) rfl (H.perm 6 rfl) rfl rfl rfl rfl rfl rfl ?_
                refine Ew_of (pcₚ := 200) (fun _ => x_iload rfl l103_4) ?_
                refine Ew_of (pcₚ := 201) (fun _ => x_dup2 rfl rfl rfl) ?_
                refine w_lI H (o := 75) (n := 64) rfl (H.perm 75 rfl) rfl rfl (H.fix 75 rfl rfl) (show 0 ≤ x103_4 ∧ x103_4 < ((64 : Nat) : Int) from q_2437 b11 j103_3 j103_4) (by decide) (fun v12 ev12 qv12 => ?_)
                have qv12 : (-2147483648 : Int) ≤ v12 ∧ v12 ≤ 2147483647 := qv12
                have ev12 : (w93_75) (x103_4) = v12 := (congrFun ((funext (hA_103 75 rfl)).trans (ew93_75)) (x103_4)).symm.trans ev12
                refine Ew_of (pcₚ := 203) (fun _ => x_iconst rfl) ?_
                refine w_iadd rfl ?_
                have hb1 := mass_upd (g := (w93_75)) (j := (x103_4)) (v := ((v12 + 1))) (n := 64) (by omega) (by omega)
                have hb2 := mass_eq (((v12 + 1)))
                have hb3 := mass_eq (((w93_75)) ((x103_4)))
                have hb4 : DVI ((w78)) (upd1 ((w93_75)) ((x103_4)) (((v12 + 1)))) 64 := DVI_inc j93_d (by omega) (by omega)
                have hb5 : EXP (upd1 ((w93_75)) ((x103_4)) (((v12 + 1)))) := EXP_inc j93_e (by omega) (by omega)
                have hv2 : ((v12 + 1)) = ((w93_75)) ((x103_4)) + 1 := q_11 ev12
                refine w_sI H (o := 75) (n := 64) rfl (H.perm 75 rfl) rfl rfl (H.fix 75 rfl rfl) (show 0 ≤ x103_4 ∧ x103_4 < ((64 : Nat) : Int) from q_2437 b11 j103_3 j103_4) (by decide) (show (-2147483648 : Int) ≤ (v12 + 1) ∧ (v12 + 1) ≤ 2147483647 by omega) (fun σ H => ?_)
                refine Ew_of (pcₚ := 206) (fun _ => x_aload_n rfl l103_0) ?_
                refine w_gT H (o := 6) (t := 77) rfl (H.perm 6 rfl) rfl rfl rfl rfl rfl rfl ?_
                refine Ew_of (pcₚ := 211) (fun _ => x_iload rfl l103_4) ?_
                refine Ew_of (pcₚ := 212) (fun _ => x_iconst rfl) ?_
                have hm2 : 2 * (x93_3) ≤ mx := by rcases hm93 with q | q; omega; exact q.1
                have : 2 * ((x93_3) + (-1)) + 1 ≤ ((mx - 1 : Nat) : Int) ∨ (2 * ((x93_3) + (-1)) ≤ ((mx - 1 : Nat) : Int) ∧ FREE ((upd1 (w93_75) (x103_4) ((v12 + 1)))) (upd1 ((w93_77)) ((x103_4)) 1) 64) := .inl (by omega)
                have : DV1R ((w78)) ((a1)) (p2 ((a2))) ((upd1 (w93_75) (x103_4) ((v12 + 1)))) (upd1 ((w93_77)) ((x103_4)) 1) ((x93_3) + (-1)) := DV1R_put j93_r (by omega) hdvc hbst (by omega) hv2 (by omega)
                refine w_sZ H (o := 77) (n := 64) rfl (H.perm 77 rfl) rfl rfl (H.fix 77 rfl rfl) (show 0 ≤ x103_4 ∧ x103_4 < ((64 : Nat) : Int) from q_2437 b11 j103_3 j103_4) (by decide) ⟨rfl, rfl⟩ (show (0 : Int) ≤ 1 ∧ 1 ≤ 1 from q_35) (fun σ H => ?_)
                refine Ew_of (pcₚ := 216) (fun _ => x_iinc (len := 3) rfl (l103_3)) ?_
                refine Ew_of (pcₚ := 93) (fun _ => x_goto rfl rfl) ?_
                have : TRU ((upd1 (w93_77) (x103_4) (1))) := trivial
                exact ih93 (mx - 1) (by omega) _ σ _ _ ((x93_3 + (-1))) (rk_o (l103_0) rfl rfl) (rk_s) H (SF_trans (hS_93) hS_103 (any_sub rfl)) (SA_upd (SA_upd (SA_trans (hA_93) hA_103 (any_subA rfl)) rfl) rfl)  (upd1 (w93_75) (x103_4) ((v12 + 1))) (congrArg (fun q => upd1 q (x103_4) ((v12 + 1))) ((funext (hA_103 75 rfl)).trans (ew93_75))) (upd1 (w93_77) (x103_4) (1)) (congrArg (fun q => upd1 q (x103_4) (1)) ((funext (hA_103 77 rfl)).trans (ew93_77))) (show inr ((x93_3 + (-1))) by omega) (show ((x93_3 + (-1))) = p2 ((a2)) - su (fun i => mass (((upd1 (w93_75) (x103_4) ((v12 + 1)))) i)) 64 by omega) (show -32768 ≤ ((x93_3 + (-1))) ∧ ((x93_3 + (-1))) ≤ 512 by omega) (hb4) (hb5) (show TRU ((upd1 (w93_77) (x103_4) (1))) by assumption) (show DV1R ((w78)) ((a1)) (p2 ((a2))) ((upd1 (w93_75) (x103_4) ((v12 + 1)))) ((upd1 (w93_77) (x103_4) (1))) (((x93_3 + (-1)))) by assumption) (by assumption)
              · have hnf : ¬ FREE ((w93_75)) ((w93_77)) 64 := fun ⟨s, a, b, c, d⟩ => j103_n (by omega) s a (by omega) ⟨c, d⟩
                have hm2 : 2 * (x93_3) + 1 ≤ mx := by rcases hm93 with q | q; exact q; exact absurd q.2 hnf
                refine Ew_of (pcₚ := 168) (fun _ => x_iconst rfl) ?_
                refine Ew_of (pcₚ := 170) (fun _ => x_istore rfl) ?_
                have : ∀ k, (0 : Int) ≤ k → k < 0 → ((w93_77)) (0 + k) = 0 := fun k a b => absurd b (by omega)
                suffices hl170 : ∀ (m : Nat), ∀ (ls : rO) (σ : rS) (F_170 : hF) (A_170 : hA) (x170_5 : Int), rlook ls 0 = some (.ref (D 6)) → rlook ls 3 = some (I (x93_3)) → rlook ls 5 = some (I (x170_5)) → HS σ0 σ D N F_170 A_170 → SF [] F_103 F_170 → SA [77] A_103 A_170 → ∀ w170_77 : Int → Int, A_170 77 = w170_77 → (inr (x170_5)) → ((0) ≤ (x170_5)) → ((x170_5) ≤ (0) ∨ (x170_5) ≤ ((64))) → (∀ k, 0 ≤ k → k < (x170_5) → ((w170_77)) (0 + k) = 0) → (((64)) - (x170_5)).toNat = m → Ew 411 (d + 1) 170 ls [] σ c s Q from
                  hl170 _ _ σ _ _ (0) (rk_o (l103_0) rfl rfl) (rk_o (l103_3) rfl rfl) (rk_s) H (SF_refl) (SA_refl)  (w93_77) ((funext (hA_103 77 rfl)).trans (ew93_77)) (show inr (0) from q_2) (show (0) ≤ (0) from q_1) (show (0) ≤ (0) ∨ (0) ≤ ((64)) from q_1339) (show ∀ k, 0 ≤ k → k < (0) → ((w93_77)) (0 + k) = 0 by assumption) rfl
                as_aux_lemma =>
                intro m
                induction m using Nat.strongRecOn with
                | _ m ih170 =>
                  intro ls σ F_170 A_170 x170_5 l170_0 l170_3 l170_5 H hS_170 hA_170  w170_77 ew170_77 j170_0 j170_1 j170_2 j170_3 hm170
                  refine Ew_of (pcₚ := 172) (fun _ => x_iload rfl l170_5) ?_
                  refine Ew_of (pcₚ := 174) (fun _ => x_bipush (z := 64) rfl (by decide)) ?_
                  refine w_icmpge (t := 191) rfl rfl (show inr (x170_5) from j170_0) (show inr (64) from q_151) (fun b13 => ?_) (fun b13 => ?_)
                  · have hfr : FREE ((w93_75)) ((w170_77)) 64 := by obtain ⟨s, a, b, c⟩ := j93_e; exact ⟨s, a, b, c, by have := j170_3 s a (by omega); rw [Int.zero_add] at this; exact this⟩
                    have : 2 * (x93_3) + 1 ≤ ((mx - 1 : Nat) : Int) ∨ (2 * (x93_3) ≤ ((mx - 1 : Nat) : Int) ∧ FREE ((w93_75)) ((w170_77)) 64) := .inr ⟨by omega, hfr⟩
                    have : DV1R ((w78)) ((a1)) (p2 ((a2))) ((w93_75)) ((w170_77)) ((x93_3)) := DV1R_clear j93_r (by omega) hdvc (by rw [hbst]; omega) (fun s a b => by have := j170_3 s a (by omega); rw [Int.zero_add] at this; exact this)
                    refine Ew_of (pcₚ := 93) (fun _ => x_goto rfl rfl) ?_
                    have : TRU ((w170_77)) := trivial
                    exact ih93 (mx - 1) (by omega) _ σ _ _ (x93_3) (l170_0) (l170_3) H (SF_trans (SF_trans (hS_93) hS_103 (any_sub rfl)) hS_170 (any_sub rfl)) (SA_trans (SA_trans (hA_93) hA_103 (any_subA rfl)) hA_170 (any_subA rfl))  (w93_75) ((funext (hA_170 75 rfl)).trans ((funext (hA_103 75 rfl)).trans (ew93_75))) (w170_77) (ew170_77) (show inr (x93_3) by omega) (show (x93_3) = p2 ((a2)) - su (fun i => mass (((w93_75)) i)) 64 by omega) (show -32768 ≤ (x93_3) ∧ (x93_3) ≤ 512 by omega) (j93_d) (j93_e) (show TRU ((w170_77)) by assumption) (show DV1R ((w78)) ((a1)) (p2 ((a2))) ((w93_75)) ((w170_77)) ((x93_3)) by assumption) (by assumption)
                  · refine Ew_of (pcₚ := 178) (fun _ => x_aload_n rfl l170_0) ?_
                    refine w_gT H (o := 6) (t := 77) rfl (H.perm 6 rfl) rfl rfl rfl rfl rfl rfl ?_
                    refine Ew_of (pcₚ := 183) (fun _ => x_iload rfl l170_5) ?_
                    refine Ew_of (pcₚ := 184) (fun _ => x_iconst rfl) ?_
                    refine w_sZ H (o := 77) (n := 64) rfl (H.perm 77 rfl) rfl rfl (H.fix 77 rfl rfl) (show 0 ≤ x170_5 ∧ x170_5 < ((64 : Nat) : Int) from q_2438 b13 j170_1) (by decide) ⟨rfl, rfl⟩ (show (0 : Int) ≤ 0 ∧ 0 ≤ 1 from q_32) (fun σ H => ?_)
                    refine Ew_of (pcₚ := 188) (fun _ => x_iinc (len := 3) rfl (l170_5)) ?_
                    refine Ew_of (pcₚ := 170) (fun _ => x_goto rfl rfl) ?_
                    have : ∀ k, (0 : Int) ≤ k → k < ((x170_5 + 1)) → ((upd1 (w170_77) (x170_5) (0))) (0 + k) = 0 := share_z j170_3
                    exact ih170 _ (msE hm170 q_1344 (q_1345 b13)) _ σ _ _ ((x170_5 + 1)) (rk_o (l170_0) rfl rfl) (rk_o (l170_3) rfl rfl) (rk_s) H (hS_170) (SA_upd (hA_170) rfl)  (upd1 (w170_77) (x170_5) (0)) (congrArg (fun q => upd1 q (x170_5) (0)) (ew170_77)) (show inr ((x170_5 + 1)) from q_1343 b13 j170_1) (show (0) ≤ ((x170_5 + 1)) from q_14 j170_1) (show ((x170_5 + 1)) ≤ (0) ∨ ((x170_5 + 1)) ≤ ((64)) from q_1342 b13) (show ∀ k, 0 ≤ k → k < ((x170_5 + 1)) → ((upd1 (w170_77) (x170_5) (0))) (0 + k) = 0 by assumption) rfl
            · refine Ew_of (pcₚ := 111) (fun _ => x_aload_n rfl l103_0) ?_
              refine w_gT H (o := 6) (t := 75) rfl (H.perm 6 rfl) rfl rfl rfl rfl rfl rfl ?_
              refine Ew_of (pcₚ := 116) (fun _ => x_iload rfl l103_5) ?_
              refine w_lI H (o := 75) (n := 64) rfl (H.perm 75 rfl) rfl rfl (H.fix 75 rfl rfl) (show 0 ≤ x103_5 ∧ x103_5 < ((64 : Nat) : Int) from q_2438 b10 j103_2) (by decide) (fun v14 ev14 qv14 => ?_)
              have qv14 : (-2147483648 : Int) ≤ v14 ∧ v14 ≤ 2147483647 := qv14
              have ev14 : (w93_75) (x103_5) = v14 := (congrFun ((funext (hA_103 75 rfl)).trans (ew93_75)) (x103_5)).symm.trans ev14
              refine w_ifle (t := 156) rfl rfl (show inr (v14) from q_18 qv14) (fun b15 => ?_) (fun b15 => ?_)
              · refine Ew_of (pcₚ := 159) (fun _ => x_iinc (len := 3) rfl (l103_5)) ?_
                refine Ew_of (pcₚ := 103) (fun _ => x_goto rfl rfl) ?_
                have : (x103_4) = -1 → ∀ k, 0 ≤ k → k < ((x103_5 + 1)) → ¬ (0 < ((w93_75)) k ∧ ((w93_77)) k = 0) := fun q k a b => by by_cases e : k = x103_5; (rw [e]; omega); exact j103_n (by omega) k a (by omega)
                have : bst ((w93_75)) ((w93_77)) ((w7_76)) (((x103_5 + 1)) : Int).toNat = (x103_4) := by have q := bst_s (tr := (w93_75)) (hd := (w93_77)) (cu := (w7_76)) (i := x103_5) (by omega) j103_b; omega
                exact ih103 _ (msE hm103 q_1344 (q_1345 b10)) _ σ _ _ (x103_4) ((x103_5 + 1)) (rk_o (l103_0) rfl rfl) (rk_o (l103_3) rfl rfl) (rk_o (l103_4) rfl rfl) (rk_s) H (hS_103) (hA_103)   (show inr (x103_4) from j103_0) (show inr ((x103_5 + 1)) from q_1343 b10 j103_2) (show (0) ≤ ((x103_5 + 1)) from q_14 j103_2) (show ((x103_5 + 1)) ≤ (0) ∨ ((x103_5 + 1)) ≤ ((64)) from q_1342 b10) (show (x103_4) = -1 ∨ 0 ≤ (x103_4) ∧ (x103_4) < ((x103_5 + 1)) ∧ 0 < ((w93_75)) ((x103_4)) ∧ ((w93_77)) ((x103_4)) = 0 by omega) (show (x103_4) = -1 → ∀ k, 0 ≤ k → k < ((x103_5 + 1)) → ¬ (0 < ((w93_75)) k ∧ ((w93_77)) k = 0) by assumption) (show bst ((w93_75)) ((w93_77)) ((w7_76)) (((x103_5 + 1)) : Int).toNat = (x103_4) by assumption) rfl
              · refine Ew_of (pcₚ := 121) (fun _ => x_aload_n rfl l103_0) ?_
                refine w_gT H (o := 6) (t := 77) rfl (H.perm 6 rfl) rfl rfl rfl rfl rfl rfl ?_
                refine Ew_of (pcₚ := 126) (fun _ => x_iload rfl l103_5) ?_
                refine w_lZ H (o := 77) (n := 64) rfl (H.perm 77 rfl) rfl rfl (H.fix 77 rfl rfl) (show 0 ≤ x103_5 ∧ x103_5 < ((64 : Nat) : Int) from q_2438 b10 j103_2) (by decide) ⟨rfl, rfl⟩ (fun v16 ev16 qv16 => ?_)
                have qv16 : (0 : Int) ≤ v16 ∧ v16 ≤ 1 := qv16
                have ev16 : (w93_77) (x103_5) = v16 := (congrFun ((funext (hA_103 77 rfl)).trans (ew93_77)) (x103_5)).symm.trans ev16
                refine w_ifne (t := 156) rfl rfl (show inr (v16) from q_1794 qv16) (fun b17 => ?_) (fun b17 => ?_)
                · refine Ew_of (pcₚ := 159) (fun _ => x_iinc (len := 3) rfl (l103_5)) ?_
                  refine Ew_of (pcₚ := 103) (fun _ => x_goto rfl rfl) ?_
                  have : (x103_4) = -1 → ∀ k, 0 ≤ k → k < ((x103_5 + 1)) → ¬ (0 < ((w93_75)) k ∧ ((w93_77)) k = 0) := fun q k a b => by by_cases e : k = x103_5; (rw [e]; omega); exact j103_n (by omega) k a (by omega)
                  have : bst ((w93_75)) ((w93_77)) ((w7_76)) (((x103_5 + 1)) : Int).toNat = (x103_4) := by have q := bst_s (tr := (w93_75)) (hd := (w93_77)) (cu := (w7_76)) (i := x103_5) (by omega) j103_b; omega
                  exact ih103 _ (msE hm103 q_1344 (q_1345 b10)) _ σ _ _ (x103_4) ((x103_5 + 1)) (rk_o (l103_0) rfl rfl) (rk_o (l103_3) rfl rfl) (rk_o (l103_4) rfl rfl) (rk_s) H (hS_103) (hA_103)   (show inr (x103_4) from j103_0) (show inr ((x103_5 + 1)) from q_1343 b10 j103_2) (show (0) ≤ ((x103_5 + 1)) from q_14 j103_2) (show ((x103_5 + 1)) ≤ (0) ∨ ((x103_5 + 1)) ≤ ((64)) from q_1342 b10) (show (x103_4) = -1 ∨ 0 ≤ (x103_4) ∧ (x103_4) < ((x103_5 + 1)) ∧ 0 < ((w93_75)) ((x103_4)) ∧ ((w93_77)) ((x103_4)) = 0 by omega) (show (x103_4) = -1 → ∀ k, 0 ≤ k → k < ((x103_5 + 1)) → ¬ (0 < ((w93_75)) k ∧ ((w93_77)) k = 0) by assumption) (show bst ((w93_75)) ((w93_77)) ((w7_76)) (((x103_5 + 1)) : Int).toNat = (x103_4) by assumption) rfl
                · refine Ew_of (pcₚ := 132) (fun _ => x_iload rfl l103_4) ?_
                  refine w_iflt (t := 152) rfl rfl (show inr (x103_4) from j103_0) (fun b18 => ?_) (fun b18 => ?_)
                  · refine Ew_of (pcₚ := 154) (fun _ => x_iload rfl l103_5) ?_
                    refine Ew_of (pcₚ := 156) (fun _ => x_istore rfl) ?_
                    refine Ew_of (pcₚ := 159) (fun _ => x_iinc (len := 3) rfl (rk_o (l103_5) rfl rfl)) ?_
                    refine Ew_of (pcₚ := 103) (fun _ => x_goto rfl rfl) ?_
                    have : (x103_5) = -1 → ∀ k, 0 ≤ k → k < ((x103_5 + 1)) → ¬ (0 < ((w93_75)) k ∧ ((w93_77)) k = 0) := fun q k a b => by by_cases e : k = x103_5; (rw [e]; omega); exact j103_n (by omega) k a (by omega)
                    have : bst ((w93_75)) ((w93_77)) ((w7_76)) (((x103_5 + 1)) : Int).toNat = (x103_5) := by have q := bst_s (tr := (w93_75)) (hd := (w93_77)) (cu := (w7_76)) (i := x103_5) (by omega) j103_b; omega
                    exact ih103 _ (msE hm103 q_1344 (q_1345 b10)) _ σ _ _ (x103_5) ((x103_5 + 1)) (rk_o (rk_o (l103_0) rfl rfl) rfl rfl) (rk_o (rk_o (l103_3) rfl rfl) rfl rfl) (rk_o (rk_s) rfl rfl) (rk_s) H (hS_103) (hA_103)   (show inr (x103_5) from j103_1) (show inr ((x103_5 + 1)) from q_1343 b10 j103_2) (show (0) ≤ ((x103_5 + 1)) from q_14 j103_2) (show ((x103_5 + 1)) ≤ (0) ∨ ((x103_5 + 1)) ≤ ((64)) from q_1342 b10) (show (x103_5) = -1 ∨ 0 ≤ (x103_5) ∧ (x103_5) < ((x103_5 + 1)) ∧ 0 < ((w93_75)) ((x103_5)) ∧ ((w93_77)) ((x103_5)) = 0 from q_2439 b15 b17 ev14 ev16 j103_2) (show (x103_5) = -1 → ∀ k, 0 ≤ k → k < ((x103_5 + 1)) → ¬ (0 < ((w93_75)) k ∧ ((w93_77)) k = 0) by assumption) (show bst ((w93_75)) ((w93_77)) ((w7_76)) (((x103_5 + 1)) : Int).toNat = (x103_5) by assumption) rfl
                  · refine Ew_of (pcₚ := 136) (fun _ => x_aload_n rfl l103_0) ?_
                    refine w_gT H (o := 6) (t := 76) rfl (H.perm 6 rfl) rfl rfl rfl rfl rfl rfl ?_
                    refine Ew_of (pcₚ := 141) (fun _ => x_iload rfl l103_5) ?_
                    refine w_lI H (o := 76) (n := 64) rfl (H.perm 76 rfl) rfl rfl (H.fix 76 rfl rfl) (show 0 ≤ x103_5 ∧ x103_5 < ((64 : Nat) : Int) from q_2438 b10 j103_2) (by decide) (fun v19 ev19 qv19 => ?_)
                    have qv19 : (-2147483648 : Int) ≤ v19 ∧ v19 ≤ 2147483647 := qv19
                    have ev19 : (w7_76) (x103_5) = v19 := (congrFun ((funext (hA_103 76 rfl)).trans ((funext (hA_93 76 rfl)).trans (ew7_76))) (x103_5)).symm.trans ev19
                    refine Ew_of (pcₚ := 143) (fun _ => x_aload_n rfl l103_0) ?_
                    refine w_gT H (o := 6) (t := 76) rfl (H.perm 6 rfl) rfl rfl rfl rfl rfl rfl ?_
                    refine Ew_of (pcₚ := 148) (fun _ => x_iload rfl l103_4) ?_
                    refine w_lI H (o := 76) (n := 64) rfl (H.perm 76 rfl) rfl rfl (H.fix 76 rfl rfl) (show 0 ≤ x103_4 ∧ x103_4 < ((64 : Nat) : Int) from q_2440 b10 b18 j103_4) (by decide) (fun v20 ev20 qv20 => ?_)
                    have qv20 : (-2147483648 : Int) ≤ v20 ∧ v20 ≤ 2147483647 := qv20
                    have ev20 : (w7_76) (x103_4) = v20 := (congrFun ((funext (hA_103 76 rfl)).trans ((funext (hA_93 76 rfl)).trans (ew7_76))) (x103_4)).symm.trans ev20
                    refine w_icmple (t := 156) rfl rfl (show inr (v19) from q_18 qv19) (show inr (v20) from q_18 qv20) (fun b21 => ?_) (fun b21 => ?_)
                    · refine Ew_of (pcₚ := 159) (fun _ => x_iinc (len := 3) rfl (l103_5)) ?_
                      refine Ew_of (pcₚ := 103) (fun _ => x_goto rfl rfl) ?_
                      have : (x103_4) = -1 → ∀ k, 0 ≤ k → k < ((x103_5 + 1)) → ¬ (0 < ((w93_75)) k ∧ ((w93_77)) k = 0) := fun q k a b => by by_cases e : k = x103_5; (rw [e]; omega); exact j103_n (by omega) k a (by omega)
                      have : bst ((w93_75)) ((w93_77)) ((w7_76)) (((x103_5 + 1)) : Int).toNat = (x103_4) := by have q := bst_s (tr := (w93_75)) (hd := (w93_77)) (cu := (w7_76)) (i := x103_5) (by omega) j103_b; omega
                      exact ih103 _ (msE hm103 q_1344 (q_1345 b10)) _ σ _ _ (x103_4) ((x103_5 + 1)) (rk_o (l103_0) rfl rfl) (rk_o (l103_3) rfl rfl) (rk_o (l103_4) rfl rfl) (rk_s) H (hS_103) (hA_103)   (show inr (x103_4) from j103_0) (show inr ((x103_5 + 1)) from q_1343 b10 j103_2) (show (0) ≤ ((x103_5 + 1)) from q_14 j103_2) (show ((x103_5 + 1)) ≤ (0) ∨ ((x103_5 + 1)) ≤ ((64)) from q_1342 b10) (show (x103_4) = -1 ∨ 0 ≤ (x103_4) ∧ (x103_4) < ((x103_5 + 1)) ∧ 0 < ((w93_75)) ((x103_4)) ∧ ((w93_77)) ((x103_4)) = 0 by omega) (show (x103_4) = -1 → ∀ k, 0 ≤ k → k < ((x103_5 + 1)) → ¬ (0 < ((w93_75)) k ∧ ((w93_77)) k = 0) by assumption) (show bst ((w93_75)) ((w93_77)) ((w7_76)) (((x103_5 + 1)) : Int).toNat = (x103_4) by assumption) rfl
                    · refine Ew_of (pcₚ := 154) (fun _ => x_iload rfl l103_5) ?_
                      refine Ew_of (pcₚ := 156) (fun _ => x_istore rfl) ?_
                      refine Ew_of (pcₚ := 159) (fun _ => x_iinc (len := 3) rfl (rk_o (l103_5) rfl rfl)) ?_
                      refine Ew_of (pcₚ := 103) (fun _ => x_goto rfl rfl) ?_
                      have : (x103_5) = -1 → ∀ k, 0 ≤ k → k < ((x103_5 + 1)) → ¬ (0 < ((w93_75)) k ∧ ((w93_77)) k = 0) := fun q k a b => by by_cases e : k = x103_5; (rw [e]; omega); exact j103_n (by omega) k a (by omega)
                      have : bst ((w93_75)) ((w93_77)) ((w7_76)) (((x103_5 + 1)) : Int).toNat = (x103_5) := by have q := bst_s (tr := (w93_75)) (hd := (w93_77)) (cu := (w7_76)) (i := x103_5) (by omega) j103_b; omega
                      exact ih103 _ (msE hm103 q_1344 (q_1345 b10)) _ σ _ _ (x103_5) ((x103_5 + 1)) (rk_o (rk_o (l103_0) rfl rfl) rfl rfl) (rk_o (rk_o (l103_3) rfl rfl) rfl rfl) (rk_o (rk_s) rfl rfl) (rk_s) H (hS_103) (hA_103)   (show inr (x103_5) from j103_1) (show inr ((x103_5 + 1)) from q_1343 b10 j103_2) (show (0) ≤ ((x103_5 + 1)) from q_14 j103_2) (show ((x103_5 + 1)) ≤ (0) ∨ ((x103_5 + 1)) ≤ ((64)) from q_1342 b10) (show (x103_5) = -1 ∨ 0 ≤ (x103_5) ∧ (x103_5) < ((x103_5 + 1)) ∧ 0 < ((w93_75)) ((x103_5)) ∧ ((w93_77)) ((x103_5)) = 0 from q_2439 b15 b17 ev14 ev16 j103_2) (show (x103_5) = -1 → ∀ k, 0 ≤ k → k < ((x103_5 + 1)) → ¬ (0 < ((w93_75)) k ∧ ((w93_77)) k = 0) by assumption) (show bst ((w93_75)) ((w93_77)) ((w7_76)) (((x103_5 + 1)) : Int).toNat = (x103_5) by assumption) rfl
    · have hnn := (h4) ((x7_4)) (by omega) (by omega)
      have hle := su_oneR (f := fun i => ((w78)) i) (i := (x7_4)) (n := 64) (fun i a b => (h4) i a (by omega)) (by omega) (by omega)
      have hdv := DV1 (v := ((w78)) ((x7_4))) (n := (a1)) (p := p2 ((a2))) (by omega) (by omega) (by omega) (by omega)
      have hsz := su_s (f := fun i => mass (((w7_75)) i)) (i := (x7_4)) (by omega)
      have hap : (a1) * p2 ((a2)) ≤ 8001 * 512 := Int.mul_le_mul (by omega) (by omega) (by omega) (by omega)
      refine Ew_of (pcₚ := 15) (fun _ => x_aload_n rfl l7_0) ?_
      refine w_gT H (o := 6) (t := 78) rfl (H.perm 6 rfl) rfl rfl rfl rfl rfl rfl ?_
      refine Ew_of (pcₚ := 20) (fun _ => x_iload rfl l7_4) ?_
      refine w_lI H (o := 78) (n := 256) rfl (H.perm 78 rfl) rfl rfl (H.fix 78 rfl rfl) (show 0 ≤ x7_4 ∧ x7_4 < ((256 : Nat) : Int) from q_1340 b2 j7_2) (by decide) (fun v22 ev22 qv22 => ?_)
      have qv22 : (-2147483648 : Int) ≤ v22 ∧ v22 ≤ 2147483647 := qv22
      have ev22 : (w78) (x7_4) = v22 := (congrFun ((funext (hA_7 78 rfl)).trans (ew78)) (x7_4)).symm.trans ev22
      refine Ew_of (pcₚ := 22) (fun _ => x_iload_n rfl l7_2) ?_
      have hcv := ev22
      rw [hcv] at hdv
      refine w_ishlT rfl (show 0 ≤ a2 ∧ a2 ≤ 31 from q_1303 h3) ?_
      refine Ew_of (pcₚ := 25) (fun _ => x_istore rfl) ?_
      have hrm : 0 ≤ ((v22 * p2 (a2))) % (a1) ∧ ((v22 * p2 (a2))) % (a1) < (a1) := ⟨Int.emod_nonneg _ (by omega), Int.emod_lt_of_pos _ (by omega)⟩
      refine Ew_of (pcₚ := 26) (fun _ => x_aload_n rfl (rk_o (l7_0) rfl rfl)) ?_
      refine w_gT H (o := 6) (t := 75) rfl (H.perm 6 rfl) rfl rfl rfl rfl rfl rfl ?_
      refine Ew_of (pcₚ := 31) (fun _ => x_iload rfl (rk_o (l7_4) rfl rfl)) ?_
      refine Ew_of (pcₚ := 33) (fun _ => x_iload rfl rk_s) ?_
      have hc54 : ∀ (tc54_0 : Int), ∀ (ls : rO) (σ : rS) (F_c54 : hF) (A_c54 : hA) , rlook ls 0 = some (.ref (D 6)) → rlook ls 1 = some (I (a1)) → rlook ls 2 = some (I (a2)) → rlook ls 3 = some (I (x7_3)) → rlook ls 4 = some (I (x7_4)) → rlook ls 5 = some (I ((v22 * p2 (a2)))) → HS σ0 σ D N F_c54 A_c54 → SF [] F_7 F_c54 → SA [] A_7 A_c54 → (inr (tc54_0)) → ((((v22 * p2 (a2))) ≠ (0) ∧ ((v22 * p2 (a2))) ≥ (a1) ∧ (tc54_0) = (((v22 * p2 (a2)) / a1))) ∨ (((v22 * p2 (a2))) ≠ (0) ∧ ((v22 * p2 (a2))) < (a1) ∧ (tc54_0) = ((-1))) ∨ (((v22 * p2 (a2))) = (0) ∧ (tc54_0) = (0))) → Ew 411 (d + 1) 54 ls [I (tc54_0), I (x7_4), .ref (D 75)] σ c s Q := by
       as_aux_lemma =>
        intro tc54_0 ls σ F_c54 A_c54  lc54_0 lc54_1 lc54_2 lc54_3 lc54_4 lc54_5 H hS_c54 hA_c54   jc54_0 jc54_1
        have htv : DVI ((w78)) (upd1 ((w7_75)) ((x7_4)) ((tc54_0))) ((x7_4) + 1) := fun s a b => by by_cases e : s = (x7_4); (rw [e, upd1_s]; omega); (rw [upd1_o e]; exact j7_dvi s a (by omega))
        have hp1 := pos1_eq (((w78)) ((x7_4)))
        rw [hcv] at hp1
        have htj : DVJ ((w78)) (upd1 ((w7_75)) ((x7_4)) ((tc54_0))) ((x7_4) + 1) ((a1)) (p2 ((a2))) := fun s a b => by by_cases e : s = (x7_4); (rw [e, upd1_s, hcv]; intro q; rcases hp1 with ⟨w1, w2⟩ | ⟨w1, w2⟩; (rw [w2]; omega); (rw [w2, Int.mul_one]; omega)); (rw [upd1_o e]; exact j7_dvj s a (by omega))
        have hmu := su_congr (f := fun i => mass ((upd1 ((w7_75)) ((x7_4)) ((tc54_0))) i)) (h := fun i => mass (((w7_75)) i)) (n := ((x7_4) : Int).toNat) (fun i a b => by rw [upd1_o (by omega)])
        have hsu := su_s (f := fun i => mass ((upd1 ((w7_75)) ((x7_4)) ((tc54_0))) i)) (i := (x7_4)) (by omega)
        have hsv : mass ((upd1 ((w7_75)) ((x7_4)) ((tc54_0))) ((x7_4))) = mass ((tc54_0)) := by rw [upd1_s]
        have hmq := mass_eq ((tc54_0))
        have hd0 := dv0_eq ((w78)) ((a1)) (p2 ((a2))) ((x7_4)) (((v22 * p2 (a2)))) (by rw [hcv])
        have : DVA ((w78)) (upd1 ((w7_75)) ((x7_4)) ((tc54_0))) ((a1)) (p2 ((a2))) ((x7_4) + 1) := DVA_next j7_a (by omega) rfl
        refine w_sI H (o := 75) (n := 64) rfl (H.perm 75 rfl) rfl rfl (H.fix 75 rfl rfl) (show 0 ≤ x7_4 ∧ x7_4 < ((64 : Nat) : Int) from q_2438 b2 j7_2) (by decide) (show (-2147483648 : Int) ≤ tc54_0 ∧ tc54_0 ≤ 2147483647 from q_31 jc54_0) (fun σ H => ?_)
        refine Ew_of (pcₚ := 56) (fun _ => x_aload_n rfl lc54_0) ?_
        refine w_gT H (o := 6) (t := 76) rfl (H.perm 6 rfl) rfl rfl rfl rfl rfl rfl ?_
        refine Ew_of (pcₚ := 61) (fun _ => x_iload rfl lc54_4) ?_
        refine Ew_of (pcₚ := 63) (fun _ => x_iload rfl lc54_5) ?_
        refine Ew_of (pcₚ := 64) (fun _ => x_iload_n rfl lc54_1) ?_
        refine w_irem rfl (show inr ((v22 * p2 (a2))) ∧ 0 ≤ (v22 * p2 (a2)) by omega) (show inr (a1) ∧ 0 < a1 from q_2441 h0 h2) ?_
        have : DVC ((w78)) (upd1 ((w7_76)) ((x7_4)) ((((v22 * p2 (a2)) % a1)))) ((a1)) (p2 ((a2))) ((x7_4) + 1) := DVC_next j7_c (by unfold cu0; rw [hcv]) rfl
        refine w_sI H (o := 76) (n := 64) rfl (H.perm 76 rfl) rfl rfl (H.fix 76 rfl rfl) (show 0 ≤ x7_4 ∧ x7_4 < ((64 : Nat) : Int) from q_2438 b2 j7_2) (by decide) (show (-2147483648 : Int) ≤ ((v22 * p2 (a2)) % a1) ∧ ((v22 * p2 (a2)) % a1) ≤ 2147483647 from q_2442 h2 hrm) (fun σ H => ?_)
        refine Ew_of (pcₚ := 67) (fun _ => x_aload_n rfl lc54_0) ?_
        refine w_gT H (o := 6) (t := 77) rfl (H.perm 6 rfl) rfl rfl rfl rfl rfl rfl ?_
        refine Ew_of (pcₚ := 72) (fun _ => x_iload rfl lc54_4) ?_
        refine Ew_of (pcₚ := 73) (fun _ => x_iconst rfl) ?_
        have : DVH (upd1 ((w7_77)) ((x7_4)) 0) ((x7_4) + 1) := DVH_next j7_h rfl rfl
        refine w_sZ H (o := 77) (n := 64) rfl (H.perm 77 rfl) rfl rfl (H.fix 77 rfl rfl) (show 0 ≤ x7_4 ∧ x7_4 < ((64 : Nat) : Int) from q_2438 b2 j7_2) (by decide) ⟨rfl, rfl⟩ (show (0 : Int) ≤ 0 ∧ 0 ≤ 1 from q_32) (fun σ H => ?_)
        refine Ew_of (pcₚ := 75) (fun _ => x_iload_n rfl lc54_3) ?_
        refine Ew_of (pcₚ := 76) (fun _ => x_aload_n rfl lc54_0) ?_
        refine w_gT H (o := 6) (t := 75) rfl (H.perm 6 rfl) rfl rfl rfl rfl rfl rfl ?_
        refine Ew_of (pcₚ := 81) (fun _ => x_iload rfl lc54_4) ?_
        refine w_lI H (o := 75) (n := 64) rfl (H.perm 75 rfl) rfl rfl (H.fix 75 rfl rfl) (show 0 ≤ x7_4 ∧ x7_4 < ((64 : Nat) : Int) from q_2438 b2 j7_2) (by decide) (fun v24 ev24 qv24 => ?_)
        have qv24 : (-2147483648 : Int) ≤ v24 ∧ v24 ≤ 2147483647 := qv24
        have ev24 : (upd1 (w7_75) (x7_4) (tc54_0)) (x7_4) = v24 := (congrFun (congrArg (fun q => upd1 q (x7_4) (tc54_0)) ((funext (hA_c54 75 rfl)).trans (ew7_75))) (x7_4)).symm.trans ev24
        have hq82 := ev24
        rw [upd1_s] at hq82
        refine w_stat24 rfl rfl (by rfl) (M406 H (show inr (v24) from q_18 qv24) (show -1 ≤ (v24) by omega) (fun z29 σ F25 A26 H hS27 hA28 pz29_0 pz29_1 => ⟨rfl, ?_⟩))
        rw [← hq82] at pz29_1
        refine w_isub rfl ?_
        refine Ew_of (pcₚ := 87) (fun _ => x_istore_n rfl) ?_
        refine Ew_of (pcₚ := 90) (fun _ => x_iinc (len := 3) rfl (rk_o (lc54_4) rfl rfl)) ?_
        refine Ew_of (pcₚ := 7) (fun _ => x_goto rfl rfl) ?_
        exact ih7 _ (msE hm7 q_1344 (q_1345 b2)) _ σ _ _ ((x7_3 - z29)) ((x7_4 + 1)) (rk_o (rk_o (lc54_0) rfl rfl) rfl rfl) (rk_o (rk_o (lc54_1) rfl rfl) rfl rfl) (rk_o (rk_o (lc54_2) rfl rfl) rfl rfl) (rk_o (rk_s) rfl rfl) (rk_s) H (SF_trans (SF_trans (hS_7) hS_c54 (any_sub rfl)) hS27 (any_sub rfl)) (SA_trans (SA_upd (SA_upd (SA_upd (SA_trans (hA_7) hA_c54 (any_subA rfl)) rfl) rfl) rfl) hA28 (any_subA rfl))  (upd1 (w7_75) (x7_4) (tc54_0)) ((funext (hA28 75 rfl)).trans (congrArg (fun q => upd1 q (x7_4) (tc54_0)) ((funext (hA_c54 75 rfl)).trans (ew7_75)))) (upd1 (w7_76) (x7_4) (((v22 * p2 (a2)) % a1))) ((funext (hA28 76 rfl)).trans (congrArg (fun q => upd1 q (x7_4) (((v22 * p2 (a2)) % a1))) ((funext (hA_c54 76 rfl)).trans (ew7_76)))) (upd1 (w7_77) (x7_4) (0)) ((funext (hA28 77 rfl)).trans (congrArg (fun q => upd1 q (x7_4) (0)) ((funext (hA_c54 77 rfl)).trans (ew7_77)))) (show inr ((x7_3 - z29)) by omega) (show inr ((x7_4 + 1)) from q_2444 b2 j7_5) (show (0) ≤ ((x7_4 + 1)) from q_2443 j7_5) (show ((x7_4 + 1)) ≤ (0) ∨ ((x7_4 + 1)) ≤ ((64)) from q_1342 b2) (show ((x7_3 - z29)) = p2 ((a2)) - su (fun i => mass (((upd1 (w7_75) (x7_4) (tc54_0))) i)) (((x7_4 + 1)) : Int).toNat by omega) (show -(512 * ((x7_4 + 1))) ≤ ((x7_3 - z29)) ∧ ((x7_3 - z29)) ≤ 512 by omega) (htv) (htj) (show DVA ((w78)) ((upd1 (w7_75) (x7_4) (tc54_0))) ((a1)) (p2 ((a2))) (((x7_4 + 1))) by assumption) (show DVC ((w78)) ((upd1 (w7_76) (x7_4) (((v22 * p2 (a2)) % a1)))) ((a1)) (p2 ((a2))) (((x7_4 + 1))) by assumption) (show DVH ((upd1 (w7_77) (x7_4) (0))) (((x7_4 + 1))) by assumption) rfl
      refine w_ifne (t := 40) rfl rfl (show inr ((v22 * p2 (a2))) by omega) (fun b30 => ?_) (fun b30 => ?_)
      · refine Ew_of (pcₚ := 42) (fun _ => x_iload rfl rk_s) ?_
        refine Ew_of (pcₚ := 43) (fun _ => x_iload_n rfl (rk_o (l7_1) rfl rfl)) ?_
        refine w_icmpge (t := 50) rfl rfl (show inr ((v22 * p2 (a2))) by omega) (show inr (a1) from h0) (fun b31 => ?_) (fun b31 => ?_)
        · refine Ew_of (pcₚ := 52) (fun _ => x_iload rfl rk_s) ?_
          refine Ew_of (pcₚ := 53) (fun _ => x_iload_n rfl (rk_o (l7_1) rfl rfl)) ?_
          refine w_idiv rfl (show inr ((v22 * p2 (a2))) ∧ 0 ≤ (v22 * p2 (a2)) by omega) (show inr (a1) ∧ 0 < a1 from q_2441 h0 h2) ?_
          exact hc54 (((v22 * p2 (a2)) / a1)) _ σ _ _  (rk_o (l7_0) rfl rfl) (rk_o (l7_1) rfl rfl) (rk_o (l7_2) rfl rfl) (rk_o (l7_3) rfl rfl) (rk_o (l7_4) rfl rfl) (rk_s) H (SF_refl) (SA_refl)   (show inr (((v22 * p2 (a2)) / a1)) by omega) (show (((v22 * p2 (a2))) ≠ (0) ∧ ((v22 * p2 (a2))) ≥ (a1) ∧ (((v22 * p2 (a2)) / a1)) = (((v22 * p2 (a2)) / a1))) ∨ (((v22 * p2 (a2))) ≠ (0) ∧ ((v22 * p2 (a2))) < (a1) ∧ (((v22 * p2 (a2)) / a1)) = ((-1))) ∨ (((v22 * p2 (a2))) = (0) ∧ (((v22 * p2 (a2)) / a1)) = (0)) from q_2445 b30 b31)
        · refine Ew_of (pcₚ := 47) (fun _ => x_iconst rfl) ?_
          refine Ew_of (pcₚ := 54) (fun _ => x_goto rfl rfl) ?_
          exact hc54 ((-1)) _ σ _ _  (rk_o (l7_0) rfl rfl) (rk_o (l7_1) rfl rfl) (rk_o (l7_2) rfl rfl) (rk_o (l7_3) rfl rfl) (rk_o (l7_4) rfl rfl) (rk_s) H (SF_refl) (SA_refl)   (show inr ((-1)) from q_63) (show (((v22 * p2 (a2))) ≠ (0) ∧ ((v22 * p2 (a2))) ≥ (a1) ∧ ((-1)) = (((v22 * p2 (a2)) / a1))) ∨ (((v22 * p2 (a2))) ≠ (0) ∧ ((v22 * p2 (a2))) < (a1) ∧ ((-1)) = ((-1))) ∨ (((v22 * p2 (a2))) = (0) ∧ ((-1)) = (0)) from q_2446 b30 b31)
      · refine Ew_of (pcₚ := 37) (fun _ => x_iconst rfl) ?_
        refine Ew_of (pcₚ := 54) (fun _ => x_goto rfl rfl) ?_
        exact hc54 (0) _ σ _ _  (rk_o (l7_0) rfl rfl) (rk_o (l7_1) rfl rfl) (rk_o (l7_2) rfl rfl) (rk_o (l7_3) rfl rfl) (rk_o (l7_4) rfl rfl) (rk_s) H (SF_refl) (SA_refl)   (show inr (0) from q_2) (show (((v22 * p2 (a2))) ≠ (0) ∧ ((v22 * p2 (a2))) ≥ (a1) ∧ (0) = (((v22 * p2 (a2)) / a1))) ∨ (((v22 * p2 (a2))) ≠ (0) ∧ ((v22 * p2 (a2))) < (a1) ∧ (0) = ((-1))) ∨ (((v22 * p2 (a2))) = (0) ∧ (0) = (0)) from q_2447 b30)


end
