/-- Writer.go -/
theorem M399b {σ0 σ : rS} {D N : Nat → Nat} {F : hF} {A : hA} {d c s : Nat} {Q : wQ} (H : HS σ0 σ D N F A) {a1 : Int} (u6_1 : Int) (eu6_1 : F 6 1 = u6_1) (u6_2 : Int) (eu6_2 : F 6 2 = u6_2) (u6_22 : Int) (eu6_22 : F 6 22 = u6_22) (u6_24 : Int) (eu6_24 : F 6 24 = u6_24) (w61 : Int → Int) (ew61 : A 61 = w61) (h0 : inr (a1)) (h1 : 0 ≤ (a1) ∧ (a1) ≤ (u6_22)) (h2 : 0 ≤ (u6_22) ∧ (u6_22) ≤ 16384) (h3 : 3 ≤ (u6_2) ∧ (u6_2) ≤ 8) (h4 : 0 ≤ (u6_1) ∧ (u6_1) ≤ 3) (k : ∀ σ F' A', HS σ0 σ D N F' A' → SF [(6, 23), (6, 28), (6, 30)] F F' → SA [62, 63, 64, 65] A A' → ∀ y6_28 : Int, F' 6 28 = y6_28 → ∀ y6_30 : Int, F' 6 30 = y6_30 → ∀ v62 : Int → Int, A' 62 = v62 → ∀ v63 : Int → Int, A' 63 = v63 → ∀ v64 : Int → Int, A' 64 = v64 → ∀ v65 : Int → Int, A' 65 = v65 → (3 * (y6_28) + (y6_30) ≤ (u6_22) - (a1)) → (GOR (MTL ((w61)) ((u6_22)) ((u6_24)) ((u6_2)) ((u6_1)) ((u6_22) - (u6_2))) ((w61)) ((u6_22)) ((a1)) ((v62)) ((v63)) ((v64)) ((y6_28)) ((v65)) ((y6_30))) → (GOE ((v62)) ((v63)) ((y6_28)) ((u6_22) - (a1))) → Q none σ c s) : Ew 399 (d + 3) 0 (rargs 0 [.ref (D 6), I a1]) [] σ c s Q := by
  have r1 : (0 : Int) ≤ u6_1 ∧ u6_1 ≤ 3 := by have h1 : (0 : Int) ≤ F 6 1 ∧ F 6 1 ≤ 3 := H.frng 6 1; rw [show F 6 1 = u6_1 from (eu6_1)] at h1; exact h1
  have r2 : (0 : Int) ≤ u6_2 ∧ u6_2 ≤ 8 := by have h1 : (0 : Int) ≤ F 6 2 ∧ F 6 2 ≤ 8 := H.frng 6 2; rw [show F 6 2 = u6_2 from (eu6_2)] at h1; exact h1
  have r3 : (0 : Int) ≤ u6_22 ∧ u6_22 ≤ 16384 := by have h1 : (0 : Int) ≤ F 6 22 ∧ F 6 22 ≤ 16384 := H.frng 6 22; rw [show F 6 22 = u6_22 from (eu6_22)] at h1; exact h1
  have r4 : (0 : Int) ≤ u6_24 ∧ u6_24 ≤ 16777216 := by have h1 : (0 : Int) ≤ F 6 24 ∧ F 6 24 ≤ 16777216 := H.frng 6 24; rw [show F 6 24 = u6_24 from (eu6_24)] at h1; exact h1
  refine Ew_of (pc' := 1) (fun _ => x_aload_n rfl rfl) ?_
  refine Ew_of (pc' := 2) (fun _ => x_iconst rfl) ?_
  refine w_pI H (o := 6) rfl rfl (H.perm 6 rfl) rfl rfl rfl (fun _ => rfl) rfl (show (0 : Int) ≤ 0 ∧ 0 ≤ 8001 by omega) (fun σ H => ?_)
  refine Ew_of (pc' := 6) (fun _ => x_aload_n rfl rfl) ?_
  refine Ew_of (pc' := 7) (fun _ => x_iconst rfl) ?_
  refine w_pI H (o := 6) rfl rfl (H.perm 6 rfl) rfl rfl rfl (fun _ => rfl) rfl (show (0 : Int) ≤ 0 ∧ 0 ≤ 16385 by omega) (fun σ H => ?_)
  refine Ew_of (pc' := 11) (fun _ => x_iconst rfl) ?_
  refine Ew_of (pc' := 12) (fun _ => x_istore_n rfl) ?_
  refine Ew_of (pc' := 13) (fun _ => x_iload_n rfl (rk_o (rfl) rfl rfl)) ?_
  refine Ew_of (pc' := 14) (fun _ => x_istore_n rfl) ?_
  have : GOW (MTL ((w61)) ((u6_22)) ((u6_24)) ((u6_2)) ((u6_1)) ((u6_22) - (u6_2))) ((w61)) ((u6_22)) ((a1)) ((a1)) (0) ((A 62)) ((A 63)) ((A 64)) 0 ((A 65)) 0 := GOW_0
  have : GOI ((A 62)) ((A 63)) ((0)) ((a1) - (a1) - 0) := GOI_c GOI_0 (by omega)
  suffices hl14 : ∀ (m : Nat), ∀ (ls : rO) (σ : rS) (F_14 : hF) (A_14 : hA) (x14_2 : Int) (x14_3 : Int), rlook ls 0 = some (.ref (D 6)) → rlook ls 2 = some (I (x14_2)) → rlook ls 3 = some (I (x14_3)) → HS σ0 σ D N F_14 A_14 → SF [(6, 23), (6, 28), (6, 30)] (updF (updF F 6 28 (0)) 6 30 (0)) F_14 → SA [62, 63, 64, 65] A A_14 → ∀ y14_6_28 : Int, F_14 6 28 = y14_6_28 → ∀ y14_6_30 : Int, F_14 6 30 = y14_6_30 → ∀ w14_62 : Int → Int, A_14 62 = w14_62 → ∀ w14_63 : Int → Int, A_14 63 = w14_63 → ∀ w14_64 : Int → Int, A_14 64 = w14_64 → ∀ w14_65 : Int → Int, A_14 65 = w14_65 → (inr (x14_2)) → (inr (x14_3)) → ((a1) ≤ (x14_3) ∧ (x14_3) ≤ (u6_22)) → (0 ≤ (x14_2) ∧ (x14_2) ≤ (x14_3) - (a1)) → (3 * (y14_6_28) + (y14_6_30) ≤ (x14_3) - (a1)) → (0 ≤ (y14_6_28) ∧ 0 ≤ (y14_6_30)) → (GOW (MTL ((w61)) ((u6_22)) ((u6_24)) ((u6_2)) ((u6_1)) ((u6_22) - (u6_2))) ((w61)) ((u6_22)) ((a1)) ((x14_3)) ((x14_2)) ((w14_62)) ((w14_63)) ((w14_64)) ((y14_6_28)) ((w14_65)) ((y14_6_30))) → (GOI ((w14_62)) ((w14_63)) ((y14_6_28)) ((x14_3) - (a1) - (x14_2))) → ((u6_22) - (x14_3)).toNat = m → Ew 399 (d + 3) 14 ls [] σ c s Q from
    hl14 _ _ σ _ _ (0) (a1) (rk_o (rk_o (rfl) rfl rfl) rfl rfl) (rk_o (rk_s) rfl rfl) (rk_s) H (SF_refl) (SA_refl) (0) (rfl) (0) (rfl) (A 62) (rfl) (A 63) (rfl) (A 64) (rfl) (A 65) (rfl) (show inr (0) by omega) (show inr (a1) by omega) (show (a1) ≤ (a1) ∧ (a1) ≤ (u6_22) by omega) (show 0 ≤ (0) ∧ (0) ≤ (a1) - (a1) by omega) (show 3 * (0) + (0) ≤ (a1) - (a1) by omega) (show 0 ≤ (0) ∧ 0 ≤ (0) by omega) (show GOW (MTL ((w61)) ((u6_22)) ((u6_24)) ((u6_2)) ((u6_1)) ((u6_22) - (u6_2))) ((w61)) ((u6_22)) ((a1)) ((a1)) ((0)) ((A 62)) ((A 63)) ((A 64)) ((0)) ((A 65)) ((0)) by assumption) (show GOI ((A 62)) ((A 63)) ((0)) ((a1) - (a1) - (0)) by assumption) rfl
  as_aux_lemma =>
  intro m
  induction m using Nat.strongRecOn with
  | _ m ih14 =>
    intro ls σ F_14 A_14 x14_2 x14_3 l14_0 l14_2 l14_3 H hS_14 hA_14 y14_6_28 ey14_6_28 y14_6_30 ey14_6_30 w14_62 ew14_62 w14_63 ew14_63 w14_64 ew14_64 w14_65 ew14_65 j14_0 j14_1 j14_2 j14_3 j14_4 j14_5 j14_6 j14_7 hm14
    have r5 : (0 : Int) ≤ y14_6_28 ∧ y14_6_28 ≤ 8001 := by have h1 : (0 : Int) ≤ F_14 6 28 ∧ F_14 6 28 ≤ 8001 := H.frng 6 28; rw [show F_14 6 28 = y14_6_28 from (ey14_6_28)] at h1; exact h1
    have r6 : (0 : Int) ≤ y14_6_30 ∧ y14_6_30 ≤ 16385 := by have h1 : (0 : Int) ≤ F_14 6 30 ∧ F_14 6 30 ≤ 16385 := H.frng 6 30; rw [show F_14 6 30 = y14_6_30 from (ey14_6_30)] at h1; exact h1
    have j14_g : GOW (MTL ((w61)) ((u6_22)) ((u6_24)) ((u6_2)) ((u6_1)) ((u6_22) - (u6_2))) ((w61)) ((u6_22)) ((a1)) ((x14_3)) ((x14_2)) ((w14_62)) ((w14_63)) ((w14_64)) ((y14_6_28)) ((w14_65)) ((y14_6_30)) := by assumption
    have j14_go : GOI ((w14_62)) ((w14_63)) ((y14_6_28)) ((x14_3) - (a1) - (x14_2)) := by assumption
    refine Ew_of (pc' := 15) (fun _ => x_iload_n rfl l14_3) ?_
    refine Ew_of (pc' := 16) (fun _ => x_aload_n rfl l14_0) ?_
    refine w_gI H (o := 6) (w := u6_22) rfl (H.perm 6 rfl) rfl rfl rfl (fun _ => rfl) ((hS_14 6 22 rfl).trans (eu6_22)) ?_
    refine w_icmpge (t := 124) rfl rfl (show inr (x14_3) by omega) (show inr (u6_22) by omega) (fun b7 => ?_) (fun b7 => ?_)
    · have : GOR (MTL ((w61)) ((u6_22)) ((u6_24)) ((u6_2)) ((u6_1)) ((u6_22) - (u6_2))) ((w61)) ((u6_22)) ((a1)) ((w14_62)) ((w14_63)) ((w14_64)) ((y14_6_28)) ((w14_65)) ((y14_6_30)) := GOW_end j14_g (by omega) (by omega)
      have : GOE ((w14_62)) ((w14_63)) ((y14_6_28)) ((u6_22) - (a1)) := GOE_of j14_go (by omega)
      exact w_ret rfl (k σ _ _ H (SF_trans (SF_upd (SF_upd (SF_refl) rfl) rfl) hS_14 (any_sub rfl)) (SA_trans (SA_refl) hA_14 (any_subA rfl)) (y14_6_28) ((ey14_6_28)) (y14_6_30) ((ey14_6_30)) (w14_62) (ew14_62) (w14_63) (ew14_63) (w14_64) (ew14_64) (w14_65) (ew14_65) (show 3 * (y14_6_28) + (y14_6_30) ≤ (u6_22) - a1 by omega) (show GOR (MTL ((w61)) ((u6_22)) ((u6_24)) ((u6_2)) ((u6_1)) ((u6_22) - (u6_2))) ((w61)) ((u6_22)) (a1) ((w14_62)) ((w14_63)) ((w14_64)) ((y14_6_28)) ((w14_65)) ((y14_6_30)) by assumption) (show GOE ((w14_62)) ((w14_63)) ((y14_6_28)) ((u6_22) - a1) by assumption))
    · refine Ew_of (pc' := 23) (fun _ => x_aload_n rfl l14_0) ?_
      refine Ew_of (pc' := 24) (fun _ => x_iload_n rfl l14_3) ?_
      refine w_inv H (o := 6) rfl rfl rfl (H.perm 6 rfl) rfl rfl (by rfl) (M398 H (u6_1) (((hS_14 6 1 rfl).trans (eu6_1))) (u6_2) (((hS_14 6 2 rfl).trans (eu6_2))) (u6_22) (((hS_14 6 22 rfl).trans (eu6_22))) (u6_24) (((hS_14 6 24 rfl).trans (eu6_24))) (w61) ((funext (hA_14 61 rfl)).trans (ew61)) (show inr (x14_3) by omega) (show 0 ≤ (x14_3) ∧ (x14_3) < (u6_22) by omega) (show 0 ≤ (u6_22) ∧ (u6_22) ≤ 16384 by omega) (show 3 ≤ (u6_2) ∧ (u6_2) ≤ 8 by omega) (show 0 ≤ (u6_1) ∧ (u6_1) ≤ 3 by omega) (fun z12 σ F8 A9 H hS10 hA11 y13 ey14 pz12_0 pz12_1 pz12_2 pz12_3 => ⟨rfl, ?_⟩))
      have r15 : (0 : Int) ≤ y13 ∧ y13 ≤ 16384 := by have h1 : (0 : Int) ≤ F8 6 23 ∧ F8 6 23 ≤ 16384 := H.frng 6 23; rw [show F8 6 23 = y13 from (ey14)] at h1; exact h1
      have htk : ∀ r, (z12) = r → MTL ((w61)) ((u6_22)) ((u6_24)) ((u6_2)) ((u6_1)) ((u6_22) - (u6_2)) ((x14_3)) (r) ((x14_3) - (y13)) := fun r e => e ▸ pz12_3
      refine Ew_of (pc' := 29) (fun _ => x_istore rfl) ?_
      refine Ew_of (pc' := 31) (fun _ => x_iload rfl rk_s) ?_
      refine w_ifne (t := 68) rfl rfl (show inr (z12) by omega) (fun b16 => ?_) (fun b16 => ?_)
      · refine Ew_of (pc' := 69) (fun _ => x_aload_n rfl (rk_o (l14_0) rfl rfl)) ?_
        refine w_gT H (o := 6) (t := 62) rfl (H.perm 6 rfl) rfl rfl rfl rfl rfl rfl ?_
        refine Ew_of (pc' := 73) (fun _ => x_aload_n rfl (rk_o (l14_0) rfl rfl)) ?_
        refine w_gI H (o := 6) (w := y14_6_28) rfl (H.perm 6 rfl) rfl rfl rfl (fun _ => rfl) ((hS10 6 28 rfl).trans (ey14_6_28)) ?_
        refine Ew_of (pc' := 77) (fun _ => x_iload_n rfl (rk_o (l14_2) rfl rfl)) ?_
        refine w_sI H (o := 62) (n := 8001) rfl (H.perm 62 rfl) rfl rfl (H.fix 62 rfl rfl) (show 0 ≤ y14_6_28 ∧ y14_6_28 < ((8001 : Nat) : Int) by omega) (by decide) (show (0 : Int) ≤ x14_2 ∧ x14_2 ≤ 16384 by omega) (fun σ H => ?_)
        refine Ew_of (pc' := 79) (fun _ => x_aload_n rfl (rk_o (l14_0) rfl rfl)) ?_
        refine w_gT H (o := 6) (t := 63) rfl (H.perm 6 rfl) rfl rfl rfl rfl rfl rfl ?_
        refine Ew_of (pc' := 83) (fun _ => x_aload_n rfl (rk_o (l14_0) rfl rfl)) ?_
        refine w_gI H (o := 6) (w := y14_6_28) rfl (H.perm 6 rfl) rfl rfl rfl (fun _ => rfl) ((hS10 6 28 rfl).trans (ey14_6_28)) ?_
        refine Ew_of (pc' := 88) (fun _ => x_iload rfl rk_s) ?_
        refine w_sI H (o := 63) (n := 8001) rfl (H.perm 63 rfl) rfl rfl (H.fix 63 rfl rfl) (show 0 ≤ y14_6_28 ∧ y14_6_28 < ((8001 : Nat) : Int) by omega) (by decide) (show (0 : Int) ≤ z12 ∧ z12 ≤ 16384 by omega) (fun σ H => ?_)
        refine Ew_of (pc' := 90) (fun _ => x_aload_n rfl (rk_o (l14_0) rfl rfl)) ?_
        refine w_gT H (o := 6) (t := 64) rfl (H.perm 6 rfl) rfl rfl rfl rfl rfl rfl ?_
        refine Ew_of (pc' := 94) (fun _ => x_aload_n rfl (rk_o (l14_0) rfl rfl)) ?_
        refine w_gI H (o := 6) (w := y14_6_28) rfl (H.perm 6 rfl) rfl rfl rfl (fun _ => rfl) ((hS10 6 28 rfl).trans (ey14_6_28)) ?_
        refine Ew_of (pc' := 98) (fun _ => x_iload_n rfl (rk_o (l14_3) rfl rfl)) ?_
        refine Ew_of (pc' := 99) (fun _ => x_aload_n rfl (rk_o (l14_0) rfl rfl)) ?_
        refine w_gI H (o := 6) (w := y13) rfl (H.perm 6 rfl) rfl rfl rfl (fun _ => rfl) (ey14) ?_
        refine w_isub rfl ?_
        refine w_sI H (o := 64) (n := 8001) rfl (H.perm 64 rfl) rfl rfl (H.fix 64 rfl rfl) (show 0 ≤ y14_6_28 ∧ y14_6_28 < ((8001 : Nat) : Int) by omega) (by decide) (show (0 : Int) ≤ (x14_3 - y13) ∧ (x14_3 - y13) ≤ 16384 by omega) (fun σ H => ?_)
        refine Ew_of (pc' := 105) (fun _ => x_aload_n rfl (rk_o (l14_0) rfl rfl)) ?_
        refine Ew_of (pc' := 106) (fun _ => x_dup rfl rfl) ?_
        refine w_gI H (o := 6) (w := y14_6_28) rfl (H.perm 6 rfl) rfl rfl rfl (fun _ => rfl) ((hS10 6 28 rfl).trans (ey14_6_28)) ?_
        refine Ew_of (pc' := 110) (fun _ => x_iconst rfl) ?_
        refine w_iadd rfl ?_
        refine w_pI H (o := 6) rfl rfl (H.perm 6 rfl) rfl rfl rfl (fun _ => rfl) rfl (show (0 : Int) ≤ (y14_6_28 + 1) ∧ (y14_6_28 + 1) ≤ 8001 by omega) (fun σ H => ?_)
        refine Ew_of (pc' := 115) (fun _ => x_iconst rfl) ?_
        refine Ew_of (pc' := 116) (fun _ => x_istore_n rfl) ?_
        refine Ew_of (pc' := 117) (fun _ => x_iload_n rfl (rk_o (rk_o (l14_3) rfl rfl) rfl rfl)) ?_
        refine Ew_of (pc' := 119) (fun _ => x_iload rfl (rk_o (rk_s) rfl rfl)) ?_
        refine w_iadd rfl ?_
        refine Ew_of (pc' := 121) (fun _ => x_istore_n rfl) ?_
        refine Ew_of (pc' := 14) (fun _ => x_goto rfl rfl) ?_
        have : GOW (MTL ((w61)) ((u6_22)) ((u6_24)) ((u6_2)) ((u6_1)) ((u6_22) - (u6_2))) ((w61)) ((u6_22)) ((a1)) (((x14_3 + z12))) ((0)) ((upd1 (w14_62) (y14_6_28) (x14_2))) ((upd1 (w14_63) (y14_6_28) (z12))) ((upd1 (w14_64) (y14_6_28) ((x14_3 - y13)))) (((y14_6_28 + 1))) ((w14_65)) ((y14_6_30)) := by first | exact GOW_skip j14_g (by omega) (htk 0 (by omega)) (by omega) (by omega) rfl rfl rfl hv.symm | exact GOW_take j14_g (by omega) (by omega) (htk _ rfl) (by omega) rfl rfl rfl
        have : GOI ((upd1 (w14_62) (y14_6_28) (x14_2))) ((upd1 (w14_63) (y14_6_28) (z12))) (((y14_6_28 + 1))) (((x14_3 + z12)) - (a1) - (0)) := by first | exact GOI_c j14_go (by omega) | exact GOI_next j14_go (by omega) rfl (by omega) (by omega)
        exact ih14 _ (by omega) _ σ _ _ (0) ((x14_3 + z12)) (rk_o (rk_o (rk_o (l14_0) rfl rfl) rfl rfl) rfl rfl) (rk_o (rk_s) rfl rfl) (rk_s) H (SF_upd (SF_trans (hS_14) hS10 (any_sub rfl)) rfl) (SA_upd (SA_upd (SA_upd (SA_trans (hA_14) hA11 (any_subA rfl)) rfl) rfl) rfl) ((y14_6_28 + 1)) (rfl) (y14_6_30) (((hS10 6 30 rfl).trans (ey14_6_30))) (upd1 (w14_62) (y14_6_28) (x14_2)) (congrArg (fun q => upd1 q (y14_6_28) (x14_2)) ((funext (hA11 62 rfl)).trans (ew14_62))) (upd1 (w14_63) (y14_6_28) (z12)) (congrArg (fun q => upd1 q (y14_6_28) (z12)) ((funext (hA11 63 rfl)).trans (ew14_63))) (upd1 (w14_64) (y14_6_28) ((x14_3 - y13))) (congrArg (fun q => upd1 q (y14_6_28) ((x14_3 - y13))) ((funext (hA11 64 rfl)).trans (ew14_64))) (w14_65) ((funext (hA11 65 rfl)).trans (ew14_65)) (show inr (0) by omega) (show inr ((x14_3 + z12)) by omega) (show (a1) ≤ ((x14_3 + z12)) ∧ ((x14_3 + z12)) ≤ (u6_22) by omega) (show 0 ≤ (0) ∧ (0) ≤ ((x14_3 + z12)) - (a1) by omega) (show 3 * ((y14_6_28 + 1)) + (y14_6_30) ≤ ((x14_3 + z12)) - (a1) by omega) (show 0 ≤ ((y14_6_28 + 1)) ∧ 0 ≤ (y14_6_30) by omega) (show GOW (MTL ((w61)) ((u6_22)) ((u6_24)) ((u6_2)) ((u6_1)) ((u6_22) - (u6_2))) ((w61)) ((u6_22)) ((a1)) (((x14_3 + z12))) ((0)) ((upd1 (w14_62) (y14_6_28) (x14_2))) ((upd1 (w14_63) (y14_6_28) (z12))) ((upd1 (w14_64) (y14_6_28) ((x14_3 - y13)))) (((y14_6_28 + 1))) ((w14_65)) ((y14_6_30)) by assumption) (show GOI ((upd1 (w14_62) (y14_6_28) (x14_2))) ((upd1 (w14_63) (y14_6_28) (z12))) (((y14_6_28 + 1))) (((x14_3 + z12)) - (a1) - (0)) by assumption) rfl
      · refine Ew_of (pc' := 35) (fun _ => x_aload_n rfl (rk_o (l14_0) rfl rfl)) ?_
        refine w_gT H (o := 6) (t := 65) rfl (H.perm 6 rfl) rfl rfl rfl rfl rfl rfl ?_
        refine Ew_of (pc' := 39) (fun _ => x_aload_n rfl (rk_o (l14_0) rfl rfl)) ?_
        refine w_gI H (o := 6) (w := y14_6_30) rfl (H.perm 6 rfl) rfl rfl rfl (fun _ => rfl) ((hS10 6 30 rfl).trans (ey14_6_30)) ?_
        refine Ew_of (pc' := 43) (fun _ => x_aload_n rfl (rk_o (l14_0) rfl rfl)) ?_
        refine w_gT H (o := 6) (t := 61) rfl (H.perm 6 rfl) rfl rfl rfl rfl rfl rfl ?_
        refine Ew_of (pc' := 47) (fun _ => x_iload_n rfl (rk_o (l14_3) rfl rfl)) ?_
        refine w_lI H (o := 61) (n := 16384) rfl (H.perm 61 rfl) rfl rfl (H.fix 61 rfl rfl) (show 0 ≤ x14_3 ∧ x14_3 < ((16384 : Nat) : Int) by omega) (by decide) (fun v17 ev17 qv17 => ?_)
        have qv17 : (0 : Int) ≤ v17 ∧ v17 ≤ 255 := qv17
        have ev17 : (w61) (x14_3) = v17 := (congrFun ((funext (hA11 61 rfl)).trans ((funext (hA_14 61 rfl)).trans (ew61))) (x14_3)).symm.trans ev17
        have hv := ev17
        refine w_sI H (o := 65) (n := 16385) rfl (H.perm 65 rfl) rfl rfl (H.fix 65 rfl rfl) (show 0 ≤ y14_6_30 ∧ y14_6_30 < ((16385 : Nat) : Int) by omega) (by decide) (show (0 : Int) ≤ v17 ∧ v17 ≤ 255 by omega) (fun σ H => ?_)
        refine Ew_of (pc' := 50) (fun _ => x_aload_n rfl (rk_o (l14_0) rfl rfl)) ?_
        refine Ew_of (pc' := 51) (fun _ => x_dup rfl rfl) ?_
        refine w_gI H (o := 6) (w := y14_6_30) rfl (H.perm 6 rfl) rfl rfl rfl (fun _ => rfl) ((hS10 6 30 rfl).trans (ey14_6_30)) ?_
        refine Ew_of (pc' := 55) (fun _ => x_iconst rfl) ?_
        refine w_iadd rfl ?_
        refine w_pI H (o := 6) rfl rfl (H.perm 6 rfl) rfl rfl rfl (fun _ => rfl) rfl (show (0 : Int) ≤ (y14_6_30 + 1) ∧ (y14_6_30 + 1) ≤ 16385 by omega) (fun σ H => ?_)
        refine Ew_of (pc' := 62) (fun _ => x_iinc (len := 3) rfl (rk_o (l14_2) rfl rfl)) ?_
        refine Ew_of (pc' := 65) (fun _ => x_iinc (len := 3) rfl (rk_o (rk_o (l14_3) rfl rfl) rfl rfl)) ?_
        refine Ew_of (pc' := 14) (fun _ => x_goto rfl rfl) ?_
        have : GOW (MTL ((w61)) ((u6_22)) ((u6_24)) ((u6_2)) ((u6_1)) ((u6_22) - (u6_2))) ((w61)) ((u6_22)) ((a1)) (((x14_3 + 1))) (((x14_2 + 1))) ((w14_62)) ((w14_63)) ((w14_64)) ((y14_6_28)) ((upd1 (w14_65) (y14_6_30) (v17))) (((y14_6_30 + 1))) := by first | exact GOW_skip j14_g (by omega) (htk 0 (by omega)) (by omega) (by omega) rfl rfl rfl hv.symm | exact GOW_take j14_g (by omega) (by omega) (htk _ rfl) (by omega) rfl rfl rfl
        have : GOI ((w14_62)) ((w14_63)) ((y14_6_28)) (((x14_3 + 1)) - (a1) - ((x14_2 + 1))) := by first | exact GOI_c j14_go (by omega) | exact GOI_next j14_go (by omega) rfl (by omega) (by omega)
        exact ih14 _ (by omega) _ σ _ _ ((x14_2 + 1)) ((x14_3 + 1)) (rk_o (rk_o (rk_o (l14_0) rfl rfl) rfl rfl) rfl rfl) (rk_o (rk_s) rfl rfl) (rk_s) H (SF_upd (SF_trans (hS_14) hS10 (any_sub rfl)) rfl) (SA_upd (SA_trans (hA_14) hA11 (any_subA rfl)) rfl) (y14_6_28) (((hS10 6 28 rfl).trans (ey14_6_28))) ((y14_6_30 + 1)) (rfl) (w14_62) ((funext (hA11 62 rfl)).trans (ew14_62)) (w14_63) ((funext (hA11 63 rfl)).trans (ew14_63)) (w14_64) ((funext (hA11 64 rfl)).trans (ew14_64)) (upd1 (w14_65) (y14_6_30) (v17)) (congrArg (fun q => upd1 q (y14_6_30) (v17)) ((funext (hA11 65 rfl)).trans (ew14_65))) (show inr ((x14_2 + 1)) by omega) (show inr ((x14_3 + 1)) by omega) (show (a1) ≤ ((x14_3 + 1)) ∧ ((x14_3 + 1)) ≤ (u6_22) by omega) (show 0 ≤ ((x14_2 + 1)) ∧ ((x14_2 + 1)) ≤ ((x14_3 + 1)) - (a1) by omega) (show 3 * (y14_6_28) + ((y14_6_30 + 1)) ≤ ((x14_3 + 1)) - (a1) by omega) (show 0 ≤ (y14_6_28) ∧ 0 ≤ ((y14_6_30 + 1)) by omega) (show GOW (MTL ((w61)) ((u6_22)) ((u6_24)) ((u6_2)) ((u6_1)) ((u6_22) - (u6_2))) ((w61)) ((u6_22)) ((a1)) (((x14_3 + 1))) (((x14_2 + 1))) ((w14_62)) ((w14_63)) ((w14_64)) ((y14_6_28)) ((upd1 (w14_65) (y14_6_30) (v17))) (((y14_6_30 + 1))) by assumption) (show GOI ((w14_62)) ((w14_63)) ((y14_6_28)) (((x14_3 + 1)) - (a1) - ((x14_2 + 1))) by assumption) rfl
/-- Writer.tellAll -/
theorem M404b {σ0 σ : rS} {D N : Nat → Nat} {F : hF} {A : hA} {d c s : Nat} {Q : wQ} (H : HS σ0 σ D N F A)  (u6_28 : Int) (eu6_28 : F 6 28 = u6_28) (w56 : Int → Int) (ew56 : A 56 = w56) (w62 : Int → Int) (ew62 : A 62 = w62) (w63 : Int → Int) (ew63 : A 63 = w63) (w64 : Int → Int) (ew64 : A 64 = w64) (h0 : ∀ j, 0 ≤ j → j < (u6_28) → 3 ≤ ((w63)) j) (k : ∀ σ F' A', HS σ0 σ D N F' A' → SF [] F F' → SA [56, 66, 67, 68] A A' → ∀ v56 : Int → Int, A' 56 = v56 → ∀ v66 : Int → Int, A' 66 = v66 → ∀ v67 : Int → Int, A' 67 = v67 → ∀ v68 : Int → Int, A' 68 = v68 → (TLI ((v66)) ((v67)) ((w62)) ((w63)) ((u6_28))) → (IMP ((1 ≤ ((w56)) 0 ∧ 1 ≤ ((w56)) 1 ∧ 1 ≤ ((w56)) 2) ∧ DGE ((w64)) ((u6_28))) (TLA ((v66)) ((v67)) ((v68)) ((w62)) ((w63)) ((w64)) (((w56)) 0, ((w56)) 1, ((w56)) 2) ((u6_28)) ((v56)))) → Q none σ c s) : Ew 404 (d + 1) 0 (rargs 0 [.ref (D 6)]) [] σ c s Q := by
  have r1 : (0 : Int) ≤ u6_28 ∧ u6_28 ≤ 8001 := by have h1 : (0 : Int) ≤ F 6 28 ∧ F 6 28 ≤ 8001 := H.frng 6 28; rw [show F 6 28 = u6_28 from (eu6_28)] at h1; exact h1
  refine Ew_of (pc' := 1) (fun _ => x_iconst rfl) ?_
  refine Ew_of (pc' := 2) (fun _ => x_istore_n rfl) ?_
  have : IMP ((1 ≤ ((w56)) 0 ∧ 1 ≤ ((w56)) 1 ∧ 1 ≤ ((w56)) 2) ∧ DGE ((w64)) ((u6_28))) (TLA ((A 66)) ((A 67)) ((A 68)) ((w62)) ((w63)) ((w64)) (((w56)) 0, ((w56)) 1, ((w56)) 2) (0) ((w56))) := fun h => ⟨TLW_0, rfl, h.1⟩
  have : TLI ((A 66)) ((A 67)) ((w62)) ((w63)) (0) := fun j a b => absurd b (by omega)
  suffices hl2 : ∀ (m : Nat), ∀ (ls : rO) (σ : rS) (F_2 : hF) (A_2 : hA) (x2_1 : Int), rlook ls 0 = some (.ref (D 6)) → rlook ls 1 = some (I (x2_1)) → HS σ0 σ D N F_2 A_2 → SF [] F F_2 → SA [56, 66, 67, 68] A A_2 → ∀ w2_56 : Int → Int, A_2 56 = w2_56 → ∀ w2_66 : Int → Int, A_2 66 = w2_66 → ∀ w2_67 : Int → Int, A_2 67 = w2_67 → ∀ w2_68 : Int → Int, A_2 68 = w2_68 → (inr (x2_1)) → ((0) ≤ (x2_1)) → ((x2_1) ≤ (0) ∨ (x2_1) ≤ ((u6_28))) → (IMP ((1 ≤ ((w56)) 0 ∧ 1 ≤ ((w56)) 1 ∧ 1 ≤ ((w56)) 2) ∧ DGE ((w64)) ((u6_28))) (TLA ((w2_66)) ((w2_67)) ((w2_68)) ((w62)) ((w63)) ((w64)) (((w56)) 0, ((w56)) 1, ((w56)) 2) ((x2_1)) ((w2_56)))) → (TLI ((w2_66)) ((w2_67)) ((w62)) ((w63)) ((x2_1))) → (((u6_28)) - (x2_1)).toNat = m → Ew 404 (d + 1) 2 ls [] σ c s Q from
    hl2 _ _ σ _ _ (0) (rk_o (rfl) rfl rfl) (rk_s) H (SF_refl) (SA_refl)  (w56) (ew56) (A 66) (rfl) (A 67) (rfl) (A 68) (rfl) (show inr (0) by omega) (show (0) ≤ (0) by omega) (show (0) ≤ (0) ∨ (0) ≤ ((u6_28)) by omega) (show IMP ((1 ≤ ((w56)) 0 ∧ 1 ≤ ((w56)) 1 ∧ 1 ≤ ((w56)) 2) ∧ DGE ((w64)) ((u6_28))) (TLA ((A 66)) ((A 67)) ((A 68)) ((w62)) ((w63)) ((w64)) (((w56)) 0, ((w56)) 1, ((w56)) 2) ((0)) ((w56))) by assumption) (show TLI ((A 66)) ((A 67)) ((w62)) ((w63)) ((0)) by assumption) rfl
  as_aux_lemma =>
  intro m
  induction m using Nat.strongRecOn with
  | _ m ih2 =>
    intro ls σ F_2 A_2 x2_1 l2_0 l2_1 H hS_2 hA_2  w2_56 ew2_56 w2_66 ew2_66 w2_67 ew2_67 w2_68 ew2_68 j2_0 j2_1 j2_2 j2_3 j2_4 hm2
    have j2_q : IMP ((1 ≤ ((w56)) 0 ∧ 1 ≤ ((w56)) 1 ∧ 1 ≤ ((w56)) 2) ∧ DGE ((w64)) ((u6_28))) (TLA ((w2_66)) ((w2_67)) ((w2_68)) ((w62)) ((w63)) ((w64)) (((w56)) 0, ((w56)) 1, ((w56)) 2) ((x2_1)) ((w2_56))) := by assumption
    have j2_t : TLI ((w2_66)) ((w2_67)) ((w62)) ((w63)) ((x2_1)) := by assumption
    refine Ew_of (pc' := 3) (fun _ => x_iload_n rfl l2_1) ?_
    refine Ew_of (pc' := 4) (fun _ => x_aload_n rfl l2_0) ?_
    refine w_gI H (o := 6) (w := u6_28) rfl (H.perm 6 rfl) rfl rfl rfl (fun _ => rfl) ((hS_2 6 28 rfl).trans (eu6_28)) ?_
    refine w_icmpge (t := 172) rfl rfl (show inr (x2_1) by omega) (show inr (u6_28) by omega) (fun b2 => ?_) (fun b2 => ?_)
    · have : IMP ((1 ≤ ((w56)) 0 ∧ 1 ≤ ((w56)) 1 ∧ 1 ≤ ((w56)) 2) ∧ DGE ((w64)) ((u6_28))) (TLA ((w2_66)) ((w2_67)) ((w2_68)) ((w62)) ((w63)) ((w64)) (((w56)) 0, ((w56)) 1, ((w56)) 2) ((u6_28)) ((w2_56))) := fun h => by have w := j2_q h; rw [show (x2_1) = (u6_28) by omega] at w; exact w
      have he1 : (x2_1) = (u6_28) := by omega
      have : TLI ((w2_66)) ((w2_67)) ((w62)) ((w63)) ((u6_28)) := by rw [← he1]; exact j2_t
      exact w_ret rfl (k σ _ _ H (SF_trans (SF_refl) hS_2 (any_sub rfl)) (SA_trans (SA_refl) hA_2 (any_subA rfl)) (w2_56) (ew2_56) (w2_66) (ew2_66) (w2_67) (ew2_67) (w2_68) (ew2_68) (show TLI ((w2_66)) ((w2_67)) ((w62)) ((w63)) ((u6_28)) by assumption) (show IMP ((1 ≤ ((w56)) 0 ∧ 1 ≤ ((w56)) 1 ∧ 1 ≤ ((w56)) 2) ∧ DGE ((w64)) ((u6_28))) (TLA ((w2_66)) ((w2_67)) ((w2_68)) ((w62)) ((w63)) ((w64)) (((w56)) 0, ((w56)) 1, ((w56)) 2) ((u6_28)) ((w2_56))) by assumption))
    · have hBl : ∀ i, (0 : Int) ≤ (w62) i ∧ (w62) i ≤ 16384 := fun i => by have h1 : (0 : Int) ≤ A_2 62 i ∧ A_2 62 i ≤ 16384 := H.arng 62 i; rw [show A_2 62 = w62 from (funext (hA_2 62 rfl)).trans (ew62)] at h1; exact h1
      have hbl := hBl ((x2_1))
      refine Ew_of (pc' := 11) (fun _ => x_iconst rfl) ?_
      refine Ew_of (pc' := 12) (fun _ => x_istore_n rfl) ?_
      refine Ew_of (pc' := 13) (fun _ => x_iconst rfl) ?_
      refine Ew_of (pc' := 14) (fun _ => x_istore_n rfl) ?_
      have : lBs 0 = 0 := by decide
      suffices hl14 : ∀ (m : Nat), ∀ (ls : rO) (σ : rS) (F_14 : hF) (A_14 : hA) (x14_2 : Int) (x14_3 : Int), rlook ls 0 = some (.ref (D 6)) → rlook ls 1 = some (I (x2_1)) → rlook ls 2 = some (I (x14_2)) → rlook ls 3 = some (I (x14_3)) → HS σ0 σ D N F_14 A_14 → SF [] F_2 F_14 → SA [] A_2 A_14 → (inr (x14_2)) → (inr (x14_3)) → (0 ≤ (x14_2) ∧ (x14_2) ≤ 33) → ((x14_3) = lBs ((x14_2))) → (0 ≤ (x14_3) ∧ (x14_3) ≤ 16384) → ((x14_2) = 0 ∨ (x14_3) ≤ ((w62)) ((x2_1))) → ((x14_3) ≤ ((w62)) ((x2_1))) → (40 - (x14_2)).toNat = m → Ew 404 (d + 1) 14 ls [] σ c s Q from
        hl14 _ _ σ _ _ (0) (0) (rk_o (rk_o (l2_0) rfl rfl) rfl rfl) (rk_o (rk_o (l2_1) rfl rfl) rfl rfl) (rk_o (rk_s) rfl rfl) (rk_s) H (SF_refl) (SA_refl)   (show inr (0) by omega) (show inr (0) by omega) (show 0 ≤ (0) ∧ (0) ≤ 33 by omega) (show (0) = lBs ((0)) by omega) (show 0 ≤ (0) ∧ (0) ≤ 16384 by omega) (show (0) = 0 ∨ (0) ≤ ((w62)) ((x2_1)) by omega) (show (0) ≤ ((w62)) ((x2_1)) by omega) rfl
      as_aux_lemma =>
      intro m
      induction m using Nat.strongRecOn with
      | _ m ih14 =>
        intro ls σ F_14 A_14 x14_2 x14_3 l14_0 l14_1 l14_2 l14_3 H hS_14 hA_14   j14_0 j14_1 j14_2 j14_3 j14_4 j14_5 j14_6 hm14
        have hls := lBs_s (s := (x14_2)) (by omega) (by omega)
        refine Ew_of (pc' := 15) (fun _ => x_iload_n rfl l14_3) ?_
        refine Ew_of (pc' := 16) (fun _ => x_iconst rfl) ?_
        refine Ew_of (pc' := 17) (fun _ => x_iload_n rfl l14_2) ?_
        refine w_stat24 rfl rfl (by rfl) (M401 H (show inr (x14_2) by omega) (show 0 ≤ (x14_2) ∧ (x14_2) ≤ 35 by omega) (fun z7 σ F3 A4 H hS5 hA6 pz7_0 pz7_1 pz7_2 => ⟨rfl, ?_⟩))
        have hz : p2 ((z7)) = p2 (lB ((x14_2))) := by rw [pz7_2]
        have : p2 ((z7)) ≤ p2 16 := p2_mono (by omega)
        have : p2 16 = 65536 := by decide
        have := p2_pos ((z7))
        refine w_ishl1 rfl (show 0 ≤ z7 ∧ z7 ≤ 31 by omega) ?_
        refine w_iadd rfl ?_
        refine Ew_of (pc' := 23) (fun _ => x_aload_n rfl l14_0) ?_
        refine w_gT H (o := 6) (t := 62) rfl (H.perm 6 rfl) rfl rfl rfl rfl rfl rfl ?_
        refine Ew_of (pc' := 27) (fun _ => x_iload_n rfl l14_1) ?_
        refine w_lI H (o := 62) (n := 8001) rfl (H.perm 62 rfl) rfl rfl (H.fix 62 rfl rfl) (show 0 ≤ x2_1 ∧ x2_1 < ((8001 : Nat) : Int) by omega) (by decide) (fun v9 ev9 qv9 => ?_)
        have qv9 : (0 : Int) ≤ v9 ∧ v9 ≤ 16384 := qv9
        have ev9 : (w62) (x2_1) = v9 := (congrFun ((funext (hA6 62 rfl)).trans ((funext (hA_14 62 rfl)).trans ((funext (hA_2 62 rfl)).trans (ew62)))) (x2_1)).symm.trans ev9
        have hlb := ev9
        have hcl := ev9
        refine w_icmpgt (t := 46) rfl rfl (show inr ((x14_3 + p2 (z7))) by omega) (show inr (v9) by omega) (fun b10 => ?_) (fun b10 => ?_)
        · have ha0 : (x14_2) = gsB lBs (((w62)) ((x2_1))) 36 := gsB_l (by omega) (by omega) (by omega)
          obtain ⟨qs0, hqs0⟩ : ∃ q : Int, q = (x14_2) := ⟨_, rfl⟩
          obtain ⟨qb0, hqb0⟩ : ∃ q : Int, q = (x14_3) := ⟨_, rfl⟩
          have hqbl : qb0 = lBs qs0 := by rw [hqs0]; omega
          have ha0q : qs0 = gsB lBs (((w62)) ((x2_1))) 36 := hqs0.trans ha0
          have hl46 := lB_le (s := (x14_2)) (by omega) (by omega)
          have hl47 : (x14_3) ≤ ((w62)) ((x2_1)) := by omega
          refine Ew_of (pc' := 47) (fun _ => x_aload_n rfl l14_0) ?_
          refine Ew_of (pc' := 48) (fun _ => x_iconst rfl) ?_
          refine Ew_of (pc' := 49) (fun _ => x_iload_n rfl l14_1) ?_
          refine Ew_of (pc' := 50) (fun _ => x_iload_n rfl l14_2) ?_
          refine Ew_of (pc' := 51) (fun _ => x_iload_n rfl l14_2) ?_
          refine w_stat24 rfl rfl (by rfl) (M401 H (show inr (x14_2) by omega) (show 0 ≤ (x14_2) ∧ (x14_2) ≤ 35 by omega) (fun z15 σ F11 A12 H hS13 hA14 pz15_0 pz15_1 pz15_2 => ⟨rfl, ?_⟩))
          have hm0 : (z15) = lB qs0 := by rw [hqs0]; exact pz15_2
          refine Ew_of (pc' := 55) (fun _ => x_aload_n rfl l14_0) ?_
          refine w_gT H (o := 6) (t := 62) rfl (H.perm 6 rfl) rfl rfl rfl rfl rfl rfl ?_
          refine Ew_of (pc' := 59) (fun _ => x_iload_n rfl l14_1) ?_
          refine w_lI H (o := 62) (n := 8001) rfl (H.perm 62 rfl) rfl rfl (H.fix 62 rfl rfl) (show 0 ≤ x2_1 ∧ x2_1 < ((8001 : Nat) : Int) by omega) (by decide) (fun v16 ev16 qv16 => ?_)
          have qv16 : (0 : Int) ≤ v16 ∧ v16 ≤ 16384 := qv16
          have ev16 : (w62) (x2_1) = v16 := (congrFun ((funext (hA14 62 rfl)).trans ((funext (hA6 62 rfl)).trans ((funext (hA_14 62 rfl)).trans ((funext (hA_2 62 rfl)).trans (ew62))))) (x2_1)).symm.trans ev16
          have hlw := ev16
          refine Ew_of (pc' := 61) (fun _ => x_iload_n rfl l14_3) ?_
          refine w_isub rfl ?_
          have hx0 : ((v16 - x14_3)) = ((w62)) ((x2_1)) - lBs qs0 := by rw [hlw]; omega
          have hm0b : (z15) = lB qs0 := by omega
          have hs0b : (x14_2) = qs0 := by omega
          refine w_inv H (o := 6) rfl rfl rfl (H.perm 6 rfl) rfl rfl (by rfl) (M403b H (w2_66) ((funext (hA14 66 rfl)).trans ((funext (hA6 66 rfl)).trans ((funext (hA_14 66 rfl)).trans (ew2_66)))) (w2_67) ((funext (hA14 67 rfl)).trans ((funext (hA6 67 rfl)).trans ((funext (hA_14 67 rfl)).trans (ew2_67)))) (w2_68) ((funext (hA14 68 rfl)).trans ((funext (hA6 68 rfl)).trans ((funext (hA_14 68 rfl)).trans (ew2_68)))) (show inr (0) by omega) (show inr (x2_1) by omega) (show inr (x14_2) by omega) (show inr (z15) by omega) (show inr ((v16 - x14_3)) by omega) (show 0 ≤ (0) ∧ (0) ≤ 2 ∧ 0 ≤ (x2_1) ∧ (x2_1) ≤ 8000 by omega) (show 0 ≤ (x14_2) ∧ (x14_2) ≤ 63 ∧ 0 ≤ (z15) ∧ (z15) ≤ 31 by omega) (fun σ F17 A18 H hS19 hA20 wq22 ewq23 wq24 ewq25 wq26 ewq27 pz21_0 pz21_1 pz21_2 => ⟨rfl, ?_⟩))
          have hA0 := pz21_0
          have hA1 := pz21_1
          have hA2 := pz21_2
          have hm65 := (show ∀ j, 0 ≤ j → j < (u6_28) → 3 ≤ ((w63)) j from by assumption) ((x2_1)) (by omega) (by omega)
          refine Ew_of (pc' := 66) (fun _ => x_iconst rfl) ?_
          refine Ew_of (pc' := 67) (fun _ => x_istore_n rfl) ?_
          refine Ew_of (pc' := 68) (fun _ => x_iconst rfl) ?_
          refine Ew_of (pc' := 69) (fun _ => x_istore_n rfl) ?_
          have : mBs 0 = 3 := by decide
          suffices hl69 : ∀ (m : Nat), ∀ (ls : rO) (σ : rS) (F_69 : hF) (A_69 : hA) (x69_2 : Int) (x69_3 : Int), rlook ls 0 = some (.ref (D 6)) → rlook ls 1 = some (I (x2_1)) → rlook ls 2 = some (I (x69_2)) → rlook ls 3 = some (I (x69_3)) → HS σ0 σ D N F_69 A_69 → SF [] F17 F_69 → SA [] A18 A_69 → (inr (x69_2)) → (inr (x69_3)) → (0 ≤ (x69_2) ∧ (x69_2) ≤ 49) → ((x69_3) = mBs ((x69_2))) → (0 ≤ (x69_3) ∧ (x69_3) ≤ 16384) → ((x69_2) = 0 ∨ (x69_3) ≤ ((w63)) ((x2_1))) → ((x69_3) ≤ ((w63)) ((x2_1))) → (60 - (x69_2)).toNat = m → Ew 404 (d + 1) 69 ls [] σ c s Q from
            hl69 _ _ σ _ _ (0) (3) (rk_o (rk_o (l14_0) rfl rfl) rfl rfl) (rk_o (rk_o (l14_1) rfl rfl) rfl rfl) (rk_o (rk_s) rfl rfl) (rk_s) H (SF_refl) (SA_refl)   (show inr (0) by omega) (show inr (3) by omega) (show 0 ≤ (0) ∧ (0) ≤ 49 by omega) (show (3) = mBs ((0)) by omega) (show 0 ≤ (3) ∧ (3) ≤ 16384 by omega) (show (0) = 0 ∨ (3) ≤ ((w63)) ((x2_1)) by omega) (show (3) ≤ ((w63)) ((x2_1)) by omega) rfl
          as_aux_lemma =>
          intro m
          induction m using Nat.strongRecOn with
          | _ m ih69 =>
            intro ls σ F_69 A_69 x69_2 x69_3 l69_0 l69_1 l69_2 l69_3 H hS_69 hA_69   j69_0 j69_1 j69_2 j69_3 j69_4 j69_5 j69_6 hm69
            have hms := mBs_s (s := (x69_2)) (by omega) (by omega)
            refine Ew_of (pc' := 70) (fun _ => x_iload_n rfl l69_3) ?_
            refine Ew_of (pc' := 71) (fun _ => x_iconst rfl) ?_
            refine Ew_of (pc' := 72) (fun _ => x_iload_n rfl l69_2) ?_
            refine w_stat24 rfl rfl (by rfl) (M402 H (show inr (x69_2) by omega) (show 0 ≤ (x69_2) ∧ (x69_2) ≤ 52 by omega) (fun z32 σ F28 A29 H hS30 hA31 pz32_0 pz32_1 pz32_2 => ⟨rfl, ?_⟩))
            have hz : p2 ((z32)) = p2 (mB ((x69_2))) := by rw [pz32_2]
            have : p2 ((z32)) ≤ p2 16 := p2_mono (by omega)
            have : p2 16 = 65536 := by decide
            have := p2_pos ((z32))
            refine w_ishl1 rfl (show 0 ≤ z32 ∧ z32 ≤ 31 by omega) ?_
            refine w_iadd rfl ?_
            refine Ew_of (pc' := 78) (fun _ => x_aload_n rfl l69_0) ?_
            refine w_gT H (o := 6) (t := 63) rfl (H.perm 6 rfl) rfl rfl rfl rfl rfl rfl ?_
            refine Ew_of (pc' := 82) (fun _ => x_iload_n rfl l69_1) ?_
            refine w_lI H (o := 63) (n := 8001) rfl (H.perm 63 rfl) rfl rfl (H.fix 63 rfl rfl) (show 0 ≤ x2_1 ∧ x2_1 < ((8001 : Nat) : Int) by omega) (by decide) (fun v34 ev34 qv34 => ?_)
            have qv34 : (0 : Int) ≤ v34 ∧ v34 ≤ 16384 := qv34
            have ev34 : (w63) (x2_1) = v34 := (congrFun ((funext (hA31 63 rfl)).trans ((funext (hA_69 63 rfl)).trans ((funext (hA20 63 rfl)).trans ((funext (hA14 63 rfl)).trans ((funext (hA6 63 rfl)).trans ((funext (hA_14 63 rfl)).trans ((funext (hA_2 63 rfl)).trans (ew63)))))))) (x2_1)).symm.trans ev34
            have hmb := ev34
            have hcm := ev34
            refine w_icmpgt (t := 101) rfl rfl (show inr ((x69_3 + p2 (z32))) by omega) (show inr (v34) by omega) (fun b35 => ?_) (fun b35 => ?_)
            · have hb0 : (x69_2) = gsB mBs (((w63)) ((x2_1))) 53 := gsB_m (by omega) (by omega) (by omega)
              obtain ⟨qs2, hqs2⟩ : ∃ q : Int, q = (x69_2) := ⟨_, rfl⟩
              obtain ⟨qb2, hqb2⟩ : ∃ q : Int, q = (x69_3) := ⟨_, rfl⟩
              have hqbm : qb2 = mBs qs2 := by rw [hqs2]; omega
              have hb0q : qs2 = gsB mBs (((w63)) ((x2_1))) 53 := hqs2.trans hb0
              have hm46 := mB_le (s := (x69_2)) (by omega) (by omega)
              have hm47 : (x69_3) ≤ ((w63)) ((x2_1)) := by omega
              refine Ew_of (pc' := 102) (fun _ => x_aload_n rfl l69_0) ?_
              refine Ew_of (pc' := 103) (fun _ => x_iconst rfl) ?_
              refine Ew_of (pc' := 104) (fun _ => x_iload_n rfl l69_1) ?_
              refine Ew_of (pc' := 105) (fun _ => x_iload_n rfl l69_2) ?_
              refine Ew_of (pc' := 106) (fun _ => x_iload_n rfl l69_2) ?_
              refine w_stat24 rfl rfl (by rfl) (M402 H (show inr (x69_2) by omega) (show 0 ≤ (x69_2) ∧ (x69_2) ≤ 52 by omega) (fun z40 σ F36 A37 H hS38 hA39 pz40_0 pz40_1 pz40_2 => ⟨rfl, ?_⟩))
              have hm2 : (z40) = mB qs2 := by rw [hqs2]; exact pz40_2
              refine Ew_of (pc' := 110) (fun _ => x_aload_n rfl l69_0) ?_
              refine w_gT H (o := 6) (t := 63) rfl (H.perm 6 rfl) rfl rfl rfl rfl rfl rfl ?_
              refine Ew_of (pc' := 114) (fun _ => x_iload_n rfl l69_1) ?_
              refine w_lI H (o := 63) (n := 8001) rfl (H.perm 63 rfl) rfl rfl (H.fix 63 rfl rfl) (show 0 ≤ x2_1 ∧ x2_1 < ((8001 : Nat) : Int) by omega) (by decide) (fun v41 ev41 qv41 => ?_)
              have qv41 : (0 : Int) ≤ v41 ∧ v41 ≤ 16384 := qv41
              have ev41 : (w63) (x2_1) = v41 := (congrFun ((funext (hA39 63 rfl)).trans ((funext (hA31 63 rfl)).trans ((funext (hA_69 63 rfl)).trans ((funext (hA20 63 rfl)).trans ((funext (hA14 63 rfl)).trans ((funext (hA6 63 rfl)).trans ((funext (hA_14 63 rfl)).trans ((funext (hA_2 63 rfl)).trans (ew63))))))))) (x2_1)).symm.trans ev41
              have hmw := ev41
              refine Ew_of (pc' := 116) (fun _ => x_iload_n rfl l69_3) ?_
              refine w_isub rfl ?_
              have hx2 : ((v41 - x69_3)) = ((w63)) ((x2_1)) - mBs qs2 := by rw [hmw]; omega
              have hm2b : (z40) = mB qs2 := by omega
              have hs2b : (x69_2) = qs2 := by omega
              refine w_inv H (o := 6) rfl rfl rfl (H.perm 6 rfl) rfl rfl (by rfl) (M403b H (wq22) ((funext (hA39 66 rfl)).trans ((funext (hA31 66 rfl)).trans ((funext (hA_69 66 rfl)).trans (ewq23)))) (wq24) ((funext (hA39 67 rfl)).trans ((funext (hA31 67 rfl)).trans ((funext (hA_69 67 rfl)).trans (ewq25)))) (wq26) ((funext (hA39 68 rfl)).trans ((funext (hA31 68 rfl)).trans ((funext (hA_69 68 rfl)).trans (ewq27)))) (show inr (2) by omega) (show inr (x2_1) by omega) (show inr (x69_2) by omega) (show inr (z40) by omega) (show inr ((v41 - x69_3)) by omega) (show 0 ≤ (2) ∧ (2) ≤ 2 ∧ 0 ≤ (x2_1) ∧ (x2_1) ≤ 8000 by omega) (show 0 ≤ (x69_2) ∧ (x69_2) ≤ 63 ∧ 0 ≤ (z40) ∧ (z40) ≤ 31 by omega) (fun σ F42 A43 H hS44 hA45 wq47 ewq48 wq49 ewq50 wq51 ewq52 pz46_0 pz46_1 pz46_2 => ⟨rfl, ?_⟩))
              have hB0_ := pz46_0
              have hB1_ := pz46_1
              have hB2_ := pz46_2
              refine Ew_of (pc' := 121) (fun _ => x_aload_n rfl l69_0) ?_
              refine Ew_of (pc' := 122) (fun _ => x_aload_n rfl l69_0) ?_
              refine w_gT H (o := 6) (t := 64) rfl (H.perm 6 rfl) rfl rfl rfl rfl rfl rfl ?_
              refine Ew_of (pc' := 126) (fun _ => x_iload_n rfl l69_1) ?_
              refine w_lI H (o := 64) (n := 8001) rfl (H.perm 64 rfl) rfl rfl (H.fix 64 rfl rfl) (show 0 ≤ x2_1 ∧ x2_1 < ((8001 : Nat) : Int) by omega) (by decide) (fun v53 ev53 qv53 => ?_)
              have qv53 : (0 : Int) ≤ v53 ∧ v53 ≤ 16384 := qv53
              have ev53 : (w64) (x2_1) = v53 := (congrFun ((funext (hA45 64 rfl)).trans ((funext (hA39 64 rfl)).trans ((funext (hA31 64 rfl)).trans ((funext (hA_69 64 rfl)).trans ((funext (hA20 64 rfl)).trans ((funext (hA14 64 rfl)).trans ((funext (hA6 64 rfl)).trans ((funext (hA_14 64 rfl)).trans ((funext (hA_2 64 rfl)).trans (ew64)))))))))) (x2_1)).symm.trans ev53
              have hdv := ev53
              have hdg : DGE ((w64)) ((u6_28)) → 1 ≤ ((w64)) ((x2_1)) := fun h => h _ (by omega) (by omega)
              refine Ew_of (pc' := 128) (fun _ => x_aload_n rfl l69_0) ?_
              refine w_gT H (o := 6) (t := 62) rfl (H.perm 6 rfl) rfl rfl rfl rfl rfl rfl ?_
              refine Ew_of (pc' := 132) (fun _ => x_iload_n rfl l69_1) ?_
              refine w_lI H (o := 62) (n := 8001) rfl (H.perm 62 rfl) rfl rfl (H.fix 62 rfl rfl) (show 0 ≤ x2_1 ∧ x2_1 < ((8001 : Nat) : Int) by omega) (by decide) (fun v54 ev54 qv54 => ?_)
              have qv54 : (0 : Int) ≤ v54 ∧ v54 ≤ 16384 := qv54
              have ev54 : (w62) (x2_1) = v54 := (congrFun ((funext (hA45 62 rfl)).trans ((funext (hA39 62 rfl)).trans ((funext (hA31 62 rfl)).trans ((funext (hA_69 62 rfl)).trans ((funext (hA20 62 rfl)).trans ((funext (hA14 62 rfl)).trans ((funext (hA6 62 rfl)).trans ((funext (hA_14 62 rfl)).trans ((funext (hA_2 62 rfl)).trans (ew62)))))))))) (x2_1)).symm.trans ev54
              have hlv := ev54
              refine w_ifne (t := 140) rfl rfl (show inr (v54) by omega) (fun b55 => ?_) (fun b55 => ?_)
              · refine Ew_of (pc' := 141) (fun _ => x_iconst rfl) ?_
                have hli : (((w62)) ((x2_1)) = 0 ↔ (1 : Int) - (0) = 0) := by rw [hlv]; omega
                obtain ⟨qd, hqd⟩ : ∃ q : Int, q = (v53) := ⟨_, rfl⟩
                have hqd2 : qd = ((w64)) ((x2_1)) := by rw [hdv]; exact hqd
                refine w_inv H (o := 6) rfl rfl rfl (H.perm 6 rfl) rfl rfl (by rfl) (M405 H (w2_56) ((funext (hA45 56 rfl)).trans ((funext (hA39 56 rfl)).trans ((funext (hA31 56 rfl)).trans ((funext (hA_69 56 rfl)).trans ((funext (hA20 56 rfl)).trans ((funext (hA14 56 rfl)).trans ((funext (hA6 56 rfl)).trans ((funext (hA_14 56 rfl)).trans (ew2_56))))))))) (show inr (v53) by omega) (show inr (0) by omega) (show 0 ≤ (v53) ∧ (v53) ≤ 16384 ∧ 0 ≤ (0) ∧ (0) ≤ 1 by omega) (fun z60 σ F56 A57 H hS58 hA59 wq61 ewq62 pz60_0 pz60_1 pz60_2 pz60_3 => ⟨rfl, ?_⟩))
                have hnr := pz60_2
                have hnl := pz60_3
                rw [← hqd] at hnr hnl
                refine Ew_of (pc' := 146) (fun _ => x_istore rfl) ?_
                obtain ⟨q4, hq4⟩ : ∃ q : Int, q = (z60) := ⟨_, rfl⟩
                rw [← hq4] at hnr
                refine Ew_of (pc' := 148) (fun _ => x_iload rfl rk_s) ?_
                refine w_stat24 rfl rfl (by rfl) (M400 H (show inr (z60) by omega) (show 1 ≤ (z60) by omega) (fun z67 σ F63 A64 H hS65 hA66 pz67_0 pz67_1 pz67_2 => ⟨rfl, ?_⟩))
                have hlg : (z67) = gsB p2 ((z60)) 31 := gsB_p (by omega) (by omega) (by omega)
                have hp15 : (z67) < 15 := p2_lt (by omega) (by rw [show p2 15 = 32768 from by decide]; omega)
                refine Ew_of (pc' := 152) (fun _ => x_istore_n rfl) ?_
                obtain ⟨qs1, hqs1⟩ : ∃ q : Int, q = (z67) := ⟨_, rfl⟩
                have hc0 : qs1 = gsB p2 q4 31 := by rw [hqs1, hq4]; exact hlg
                refine Ew_of (pc' := 153) (fun _ => x_aload_n rfl (rk_o (rk_o (l69_0) rfl rfl) rfl rfl)) ?_
                refine Ew_of (pc' := 154) (fun _ => x_iconst rfl) ?_
                refine Ew_of (pc' := 155) (fun _ => x_iload_n rfl (rk_o (rk_o (l69_1) rfl rfl) rfl rfl)) ?_
                refine Ew_of (pc' := 156) (fun _ => x_iload_n rfl rk_s) ?_
                refine Ew_of (pc' := 157) (fun _ => x_iload_n rfl rk_s) ?_
                refine Ew_of (pc' := 159) (fun _ => x_iload rfl (rk_o (rk_s) rfl rfl)) ?_
                refine Ew_of (pc' := 160) (fun _ => x_iconst rfl) ?_
                refine Ew_of (pc' := 161) (fun _ => x_iload_n rfl rk_s) ?_
                refine w_ishl1 rfl (show 0 ≤ z67 ∧ z67 ≤ 31 by omega) ?_
                refine w_isub rfl ?_
                have hx1 : ((z60 - p2 (z67))) = q4 - p2 qs1 := by rw [hqs1, hq4]
                have hm1b : (z67) = qs1 := by omega
                have hs1b : (z67) = qs1 := by omega
                refine w_inv H (o := 6) rfl rfl rfl (H.perm 6 rfl) rfl rfl (by rfl) (M403b H (wq47) ((funext (hA66 66 rfl)).trans ((funext (hA59 66 rfl)).trans (ewq48))) (wq49) ((funext (hA66 67 rfl)).trans ((funext (hA59 67 rfl)).trans (ewq50))) (wq51) ((funext (hA66 68 rfl)).trans ((funext (hA59 68 rfl)).trans (ewq52))) (show inr (1) by omega) (show inr (x2_1) by omega) (show inr (z67) by omega) (show inr (z67) by omega) (show inr ((z60 - p2 (z67))) by omega) (show 0 ≤ (1) ∧ (1) ≤ 2 ∧ 0 ≤ (x2_1) ∧ (x2_1) ≤ 8000 by omega) (show 0 ≤ (z67) ∧ (z67) ≤ 63 ∧ 0 ≤ (z67) ∧ (z67) ≤ 31 by omega) (fun σ F69 A70 H hS71 hA72 wq74 ewq75 wq76 ewq77 wq78 ewq79 pz73_0 pz73_1 pz73_2 => ⟨rfl, ?_⟩))
                have hC0 := pz73_0
                have hC1 := pz73_1
                have hC2 := pz73_2
                have : TLI ((wq74)) ((wq76)) ((w62)) ((w63)) ((x2_1) + 1) := TLI_next j2_t (by omega) (by omega) rfl pz21_0 pz21_1 pz46_0 pz46_1 pz73_0 pz73_1 (by omega) (by omega) (by omega) (by omega)
                refine Ew_of (pc' := 169) (fun _ => x_iinc (len := 3) rfl (rk_o (rk_o (l69_1) rfl rfl) rfl rfl)) ?_
                refine Ew_of (pc' := 2) (fun _ => x_goto rfl rfl) ?_
                have : IMP ((1 ≤ ((w56)) 0 ∧ 1 ≤ ((w56)) 1 ∧ 1 ≤ ((w56)) 2) ∧ DGE ((w64)) ((u6_28))) (TLA ((wq74)) ((wq76)) ((wq78)) ((w62)) ((w63)) ((w64)) (((w56)) 0, ((w56)) 1, ((w56)) 2) (((x2_1 + 1))) ((wq61))) := fun h => by have t := j2_q h; have hd1 := hdg h.2; exact TLA_s (m0 := lB qs0) (m2 := mB qs2) (m1 := qs1) (y0 := qs0) (y2 := qs2) (y1 := qs1) t (by omega) (by omega) rfl (hA0.trans (by rw [hs0b])) (hA1.trans (by rw [hm0b])) hA2 (hB0_.trans (by rw [hs2b])) (hB1_.trans (by rw [hm2b])) hB2_ (hC0.trans (by rw [hs1b])) (hC1.trans (by rw [hm1b])) hC2 ha0q rfl hx0 hb0q rfl hx2 hqd2 hli (hnr ⟨t.2.2.1, by omega⟩).1 (hnr ⟨t.2.2.1, by omega⟩).2 (hnl ⟨t.2.2, by omega⟩) hc0 rfl hx1
                exact ih2 _ (by omega) _ σ _ _ ((x2_1 + 1)) (rk_o (rk_o (rk_o (l69_0) rfl rfl) rfl rfl) rfl rfl) (rk_s) H (SF_trans (SF_trans (SF_trans (SF_trans (SF_trans (SF_trans (SF_trans (SF_trans (SF_trans (SF_trans (SF_trans (hS_2) hS_14 (any_sub rfl)) hS5 (any_sub rfl)) hS13 (any_sub rfl)) hS19 (any_sub rfl)) hS_69 (any_sub rfl)) hS30 (any_sub rfl)) hS38 (any_sub rfl)) hS44 (any_sub rfl)) hS58 (any_sub rfl)) hS65 (any_sub rfl)) hS71 (any_sub rfl)) (SA_trans (SA_trans (SA_trans (SA_trans (SA_trans (SA_trans (SA_trans (SA_trans (SA_trans (SA_trans (SA_trans (hA_2) hA_14 (any_subA rfl)) hA6 (any_subA rfl)) hA14 (any_subA rfl)) hA20 (any_subA rfl)) hA_69 (any_subA rfl)) hA31 (any_subA rfl)) hA39 (any_subA rfl)) hA45 (any_subA rfl)) hA59 (any_subA rfl)) hA66 (any_subA rfl)) hA72 (any_subA rfl))  (wq61) ((funext (hA72 56 rfl)).trans ((funext (hA66 56 rfl)).trans (ewq62))) (wq74) (ewq75) (wq76) (ewq77) (wq78) (ewq79) (show inr ((x2_1 + 1)) by omega) (show (0) ≤ ((x2_1 + 1)) by omega) (show ((x2_1 + 1)) ≤ (0) ∨ ((x2_1 + 1)) ≤ ((u6_28)) by omega) (show IMP ((1 ≤ ((w56)) 0 ∧ 1 ≤ ((w56)) 1 ∧ 1 ≤ ((w56)) 2) ∧ DGE ((w64)) ((u6_28))) (TLA ((wq74)) ((wq76)) ((wq78)) ((w62)) ((w63)) ((w64)) (((w56)) 0, ((w56)) 1, ((w56)) 2) (((x2_1 + 1))) ((wq61))) by assumption) (show TLI ((wq74)) ((wq76)) ((w62)) ((w63)) (((x2_1 + 1))) by assumption) rfl
              · refine Ew_of (pc' := 137) (fun _ => x_iconst rfl) ?_
                refine Ew_of (pc' := 141) (fun _ => x_goto rfl rfl) ?_
                have hli : (((w62)) ((x2_1)) = 0 ↔ (1 : Int) - (1) = 0) := by rw [hlv]; omega
                obtain ⟨qd, hqd⟩ : ∃ q : Int, q = (v53) := ⟨_, rfl⟩
                have hqd2 : qd = ((w64)) ((x2_1)) := by rw [hdv]; exact hqd
                refine w_inv H (o := 6) rfl rfl rfl (H.perm 6 rfl) rfl rfl (by rfl) (M405 H (w2_56) ((funext (hA45 56 rfl)).trans ((funext (hA39 56 rfl)).trans ((funext (hA31 56 rfl)).trans ((funext (hA_69 56 rfl)).trans ((funext (hA20 56 rfl)).trans ((funext (hA14 56 rfl)).trans ((funext (hA6 56 rfl)).trans ((funext (hA_14 56 rfl)).trans (ew2_56))))))))) (show inr (v53) by omega) (show inr (1) by omega) (show 0 ≤ (v53) ∧ (v53) ≤ 16384 ∧ 0 ≤ (1) ∧ (1) ≤ 1 by omega) (fun z84 σ F80 A81 H hS82 hA83 wq85 ewq86 pz84_0 pz84_1 pz84_2 pz84_3 => ⟨rfl, ?_⟩))
                have hnr := pz84_2
                have hnl := pz84_3
                rw [← hqd] at hnr hnl
                refine Ew_of (pc' := 146) (fun _ => x_istore rfl) ?_
                obtain ⟨q4, hq4⟩ : ∃ q : Int, q = (z84) := ⟨_, rfl⟩
                rw [← hq4] at hnr
                refine Ew_of (pc' := 148) (fun _ => x_iload rfl rk_s) ?_
                refine w_stat24 rfl rfl (by rfl) (M400 H (show inr (z84) by omega) (show 1 ≤ (z84) by omega) (fun z91 σ F87 A88 H hS89 hA90 pz91_0 pz91_1 pz91_2 => ⟨rfl, ?_⟩))
                have hlg : (z91) = gsB p2 ((z84)) 31 := gsB_p (by omega) (by omega) (by omega)
                have hp15 : (z91) < 15 := p2_lt (by omega) (by rw [show p2 15 = 32768 from by decide]; omega)
                refine Ew_of (pc' := 152) (fun _ => x_istore_n rfl) ?_
                obtain ⟨qs1, hqs1⟩ : ∃ q : Int, q = (z91) := ⟨_, rfl⟩
                have hc0 : qs1 = gsB p2 q4 31 := by rw [hqs1, hq4]; exact hlg
                refine Ew_of (pc' := 153) (fun _ => x_aload_n rfl (rk_o (rk_o (l69_0) rfl rfl) rfl rfl)) ?_
                refine Ew_of (pc' := 154) (fun _ => x_iconst rfl) ?_
                refine Ew_of (pc' := 155) (fun _ => x_iload_n rfl (rk_o (rk_o (l69_1) rfl rfl) rfl rfl)) ?_
                refine Ew_of (pc' := 156) (fun _ => x_iload_n rfl rk_s) ?_
                refine Ew_of (pc' := 157) (fun _ => x_iload_n rfl rk_s) ?_
                refine Ew_of (pc' := 159) (fun _ => x_iload rfl (rk_o (rk_s) rfl rfl)) ?_
                refine Ew_of (pc' := 160) (fun _ => x_iconst rfl) ?_
                refine Ew_of (pc' := 161) (fun _ => x_iload_n rfl rk_s) ?_
                refine w_ishl1 rfl (show 0 ≤ z91 ∧ z91 ≤ 31 by omega) ?_
                refine w_isub rfl ?_
                have hx1 : ((z84 - p2 (z91))) = q4 - p2 qs1 := by rw [hqs1, hq4]
                have hm1b : (z91) = qs1 := by omega
                have hs1b : (z91) = qs1 := by omega
                refine w_inv H (o := 6) rfl rfl rfl (H.perm 6 rfl) rfl rfl (by rfl) (M403b H (wq47) ((funext (hA90 66 rfl)).trans ((funext (hA83 66 rfl)).trans (ewq48))) (wq49) ((funext (hA90 67 rfl)).trans ((funext (hA83 67 rfl)).trans (ewq50))) (wq51) ((funext (hA90 68 rfl)).trans ((funext (hA83 68 rfl)).trans (ewq52))) (show inr (1) by omega) (show inr (x2_1) by omega) (show inr (z91) by omega) (show inr (z91) by omega) (show inr ((z84 - p2 (z91))) by omega) (show 0 ≤ (1) ∧ (1) ≤ 2 ∧ 0 ≤ (x2_1) ∧ (x2_1) ≤ 8000 by omega) (show 0 ≤ (z91) ∧ (z91) ≤ 63 ∧ 0 ≤ (z91) ∧ (z91) ≤ 31 by omega) (fun σ F93 A94 H hS95 hA96 wq98 ewq99 wq100 ewq101 wq102 ewq103 pz97_0 pz97_1 pz97_2 => ⟨rfl, ?_⟩))
                have hC0 := pz97_0
                have hC1 := pz97_1
                have hC2 := pz97_2
                have : TLI ((wq98)) ((wq100)) ((w62)) ((w63)) ((x2_1) + 1) := TLI_next j2_t (by omega) (by omega) rfl pz21_0 pz21_1 pz46_0 pz46_1 pz97_0 pz97_1 (by omega) (by omega) (by omega) (by omega)
                refine Ew_of (pc' := 169) (fun _ => x_iinc (len := 3) rfl (rk_o (rk_o (l69_1) rfl rfl) rfl rfl)) ?_
                refine Ew_of (pc' := 2) (fun _ => x_goto rfl rfl) ?_
                have : IMP ((1 ≤ ((w56)) 0 ∧ 1 ≤ ((w56)) 1 ∧ 1 ≤ ((w56)) 2) ∧ DGE ((w64)) ((u6_28))) (TLA ((wq98)) ((wq100)) ((wq102)) ((w62)) ((w63)) ((w64)) (((w56)) 0, ((w56)) 1, ((w56)) 2) (((x2_1 + 1))) ((wq85))) := fun h => by have t := j2_q h; have hd1 := hdg h.2; exact TLA_s (m0 := lB qs0) (m2 := mB qs2) (m1 := qs1) (y0 := qs0) (y2 := qs2) (y1 := qs1) t (by omega) (by omega) rfl (hA0.trans (by rw [hs0b])) (hA1.trans (by rw [hm0b])) hA2 (hB0_.trans (by rw [hs2b])) (hB1_.trans (by rw [hm2b])) hB2_ (hC0.trans (by rw [hs1b])) (hC1.trans (by rw [hm1b])) hC2 ha0q rfl hx0 hb0q rfl hx2 hqd2 hli (hnr ⟨t.2.2.1, by omega⟩).1 (hnr ⟨t.2.2.1, by omega⟩).2 (hnl ⟨t.2.2, by omega⟩) hc0 rfl hx1
                exact ih2 _ (by omega) _ σ _ _ ((x2_1 + 1)) (rk_o (rk_o (rk_o (l69_0) rfl rfl) rfl rfl) rfl rfl) (rk_s) H (SF_trans (SF_trans (SF_trans (SF_trans (SF_trans (SF_trans (SF_trans (SF_trans (SF_trans (SF_trans (SF_trans (hS_2) hS_14 (any_sub rfl)) hS5 (any_sub rfl)) hS13 (any_sub rfl)) hS19 (any_sub rfl)) hS_69 (any_sub rfl)) hS30 (any_sub rfl)) hS38 (any_sub rfl)) hS44 (any_sub rfl)) hS82 (any_sub rfl)) hS89 (any_sub rfl)) hS95 (any_sub rfl)) (SA_trans (SA_trans (SA_trans (SA_trans (SA_trans (SA_trans (SA_trans (SA_trans (SA_trans (SA_trans (SA_trans (hA_2) hA_14 (any_subA rfl)) hA6 (any_subA rfl)) hA14 (any_subA rfl)) hA20 (any_subA rfl)) hA_69 (any_subA rfl)) hA31 (any_subA rfl)) hA39 (any_subA rfl)) hA45 (any_subA rfl)) hA83 (any_subA rfl)) hA90 (any_subA rfl)) hA96 (any_subA rfl))  (wq85) ((funext (hA96 56 rfl)).trans ((funext (hA90 56 rfl)).trans (ewq86))) (wq98) (ewq99) (wq100) (ewq101) (wq102) (ewq103) (show inr ((x2_1 + 1)) by omega) (show (0) ≤ ((x2_1 + 1)) by omega) (show ((x2_1 + 1)) ≤ (0) ∨ ((x2_1 + 1)) ≤ ((u6_28)) by omega) (show IMP ((1 ≤ ((w56)) 0 ∧ 1 ≤ ((w56)) 1 ∧ 1 ≤ ((w56)) 2) ∧ DGE ((w64)) ((u6_28))) (TLA ((wq98)) ((wq100)) ((wq102)) ((w62)) ((w63)) ((w64)) (((w56)) 0, ((w56)) 1, ((w56)) 2) (((x2_1 + 1))) ((wq85))) by assumption) (show TLI ((wq98)) ((wq100)) ((w62)) ((w63)) (((x2_1 + 1))) by assumption) rfl
            · refine Ew_of (pc' := 87) (fun _ => x_iload_n rfl l69_3) ?_
              refine Ew_of (pc' := 88) (fun _ => x_iconst rfl) ?_
              refine Ew_of (pc' := 89) (fun _ => x_iload_n rfl l69_2) ?_
              refine w_stat24 rfl rfl (by rfl) (M402 H (show inr (x69_2) by omega) (show 0 ≤ (x69_2) ∧ (x69_2) ≤ 52 by omega) (fun z108 σ F104 A105 H hS106 hA107 pz108_0 pz108_1 pz108_2 => ⟨rfl, ?_⟩))
              have hz : p2 ((z108)) = p2 (mB ((x69_2))) := by rw [pz108_2]
              have : p2 ((z108)) ≤ p2 16 := p2_mono (by omega)
              have : p2 16 = 65536 := by decide
              have := p2_pos ((z108))
              refine w_ishl1 rfl (show 0 ≤ z108 ∧ z108 ≤ 31 by omega) ?_
              refine w_iadd rfl ?_
              refine Ew_of (pc' := 95) (fun _ => x_istore_n rfl) ?_
              have : (x69_2) + 1 ≤ 49 := mBs_bd (by omega) (by omega) (by omega)
              refine Ew_of (pc' := 98) (fun _ => x_iinc (len := 3) rfl (rk_o (l69_2) rfl rfl)) ?_
              refine Ew_of (pc' := 69) (fun _ => x_goto rfl rfl) ?_
              exact ih69 _ (by omega) _ σ _ _ ((x69_2 + 1)) ((x69_3 + p2 (z108))) (rk_o (rk_o (l69_0) rfl rfl) rfl rfl) (rk_o (rk_o (l69_1) rfl rfl) rfl rfl) (rk_s) (rk_o (rk_s) rfl rfl) H (SF_trans (SF_trans (hS_69) hS30 (any_sub rfl)) hS106 (any_sub rfl)) (SA_trans (SA_trans (hA_69) hA31 (any_subA rfl)) hA107 (any_subA rfl))   (show inr ((x69_2 + 1)) by omega) (show inr ((x69_3 + p2 (z108))) by omega) (show 0 ≤ ((x69_2 + 1)) ∧ ((x69_2 + 1)) ≤ 49 by omega) (show ((x69_3 + p2 (z108))) = mBs (((x69_2 + 1))) by omega) (show 0 ≤ ((x69_3 + p2 (z108))) ∧ ((x69_3 + p2 (z108))) ≤ 16384 by omega) (show ((x69_2 + 1)) = 0 ∨ ((x69_3 + p2 (z108))) ≤ ((w63)) ((x2_1)) by omega) (show ((x69_3 + p2 (z108))) ≤ ((w63)) ((x2_1)) by omega) rfl
        · refine Ew_of (pc' := 32) (fun _ => x_iload_n rfl l14_3) ?_
          refine Ew_of (pc' := 33) (fun _ => x_iconst rfl) ?_
          refine Ew_of (pc' := 34) (fun _ => x_iload_n rfl l14_2) ?_
          refine w_stat24 rfl rfl (by rfl) (M401 H (show inr (x14_2) by omega) (show 0 ≤ (x14_2) ∧ (x14_2) ≤ 35 by omega) (fun z114 σ F110 A111 H hS112 hA113 pz114_0 pz114_1 pz114_2 => ⟨rfl, ?_⟩))
          have hz : p2 ((z114)) = p2 (lB ((x14_2))) := by rw [pz114_2]
          have : p2 ((z114)) ≤ p2 16 := p2_mono (by omega)
          have : p2 16 = 65536 := by decide
          have := p2_pos ((z114))
          refine w_ishl1 rfl (show 0 ≤ z114 ∧ z114 ≤ 31 by omega) ?_
          refine w_iadd rfl ?_
          refine Ew_of (pc' := 40) (fun _ => x_istore_n rfl) ?_
          have : (x14_2) + 1 ≤ 33 := lBs_bd (by omega) (by omega) (by omega)
          refine Ew_of (pc' := 43) (fun _ => x_iinc (len := 3) rfl (rk_o (l14_2) rfl rfl)) ?_
          refine Ew_of (pc' := 14) (fun _ => x_goto rfl rfl) ?_
          exact ih14 _ (by omega) _ σ _ _ ((x14_2 + 1)) ((x14_3 + p2 (z114))) (rk_o (rk_o (l14_0) rfl rfl) rfl rfl) (rk_o (rk_o (l14_1) rfl rfl) rfl rfl) (rk_s) (rk_o (rk_s) rfl rfl) H (SF_trans (SF_trans (hS_14) hS5 (any_sub rfl)) hS112 (any_sub rfl)) (SA_trans (SA_trans (hA_14) hA6 (any_subA rfl)) hA113 (any_subA rfl))   (show inr ((x14_2 + 1)) by omega) (show inr ((x14_3 + p2 (z114))) by omega) (show 0 ≤ ((x14_2 + 1)) ∧ ((x14_2 + 1)) ≤ 33 by omega) (show ((x14_3 + p2 (z114))) = lBs (((x14_2 + 1))) by omega) (show 0 ≤ ((x14_3 + p2 (z114))) ∧ ((x14_3 + p2 (z114))) ≤ 16384 by omega) (show ((x14_2 + 1)) = 0 ∨ ((x14_3 + p2 (z114))) ≤ ((w62)) ((x2_1)) by omega) (show ((x14_3 + p2 (z114))) ≤ ((w62)) ((x2_1)) by omega) rfl
