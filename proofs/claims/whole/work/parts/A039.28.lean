theorem M328 {σ0 σ : rS} {D N : Nat → Nat} {F : hF} {A : hA} {d c s : Nat} {Q : wQ} (H : HS σ0 σ D N F A) {a1 a2 : Int} (w24 : Int → Int) (ew24 : A 24 = w24) (w25 : Int → Int) (ew25 : A 25 = w25) (h0 : inr (a1)) (h1 : inr (a2)) (h2 : (a2) = 0 ∨ (a2) = 1) (h3 : 0 ≤ (a1) ∧ (a1) ≤ 16384) (k : ∀ (z : Int) σ Fₚ Aₚ, HS σ0 σ D N Fₚ Aₚ → SF [] F Fₚ → SA [] A Aₚ → (inr (z)) → ((a2) = 1 ∧ (z) = (w24) ((a1)) ∨ (a2) = 0 ∧ (z) = (w25) ((a1))) → Q (some (I z)) σ c s) : Ew 328 (d + 0) 0 (rargs 0 [.ref (D 4), I a1, I a2]) [] σ c s Q := by
  refine Ew_of (pcₚ := 1) (fun _ => x_iload_n rfl rfl) ?_
  refine w_ifeq (t := 13) rfl rfl (show inr (a2) from h1) (fun b1 => ?_) (fun b1 => ?_)
  · refine Ew_of (pcₚ := 14) (fun _ => x_aload_n rfl rfl) ?_
    refine w_gT H (o := 4) (t := 25) rfl (H.perm 4 rfl) rfl rfl rfl rfl rfl rfl ?_
    refine Ew_of (pcₚ := 18) (fun _ => x_iload_n rfl rfl) ?_
    refine w_lI H (o := 25) (n := 16385) rfl (H.perm 25 rfl) rfl rfl (H.fix 25 rfl rfl) (show 0 ≤ a1 ∧ a1 < ((16385 : Nat) : Int) from q_875 h3) (by decide) (fun v2 ev2 qv2 => ?_)
    have qv2 : (0 : Int) ≤ v2 ∧ v2 ≤ 2147483647 := qv2
    have ev2 : (w25) (a1) = v2 := (congrFun (ew25) (a1)).symm.trans ev2
    exact w_ireturn rfl (k (v2) σ _ _ H (SF_refl) (SA_refl) (show inr (v2) from q_877 qv2) (show a2 = 1 ∧ (v2) = (w24) (a1) ∨ a2 = 0 ∧ (v2) = (w25) (a1) from q_876 b1 ev2))
  · refine Ew_of (pcₚ := 5) (fun _ => x_aload_n rfl rfl) ?_
    refine w_gT H (o := 4) (t := 24) rfl (H.perm 4 rfl) rfl rfl rfl rfl rfl rfl ?_
    refine Ew_of (pcₚ := 9) (fun _ => x_iload_n rfl rfl) ?_
    refine w_lI H (o := 24) (n := 16385) rfl (H.perm 24 rfl) rfl rfl (H.fix 24 rfl rfl) (show 0 ≤ a1 ∧ a1 < ((16385 : Nat) : Int) from q_875 h3) (by decide) (fun v3 ev3 qv3 => ?_)
    have qv3 : (0 : Int) ≤ v3 ∧ v3 ≤ 2147483647 := qv3
    have ev3 : (w24) (a1) = v3 := (congrFun (ew24) (a1)).symm.trans ev3
    refine Ew_of (pcₚ := 19) (fun _ => x_goto rfl rfl) ?_
    exact w_ireturn rfl (k (v3) σ _ _ H (SF_refl) (SA_refl) (show inr (v3) from q_877 qv3) (show a2 = 1 ∧ (v3) = (w24) (a1) ∨ a2 = 0 ∧ (v3) = (w25) (a1) by omega))

theorem M329 {σ0 σ : rS} {D N : Nat → Nat} {F : hF} {A : hA} {d c s : Nat} {Q : wQ} (H : HS σ0 σ D N F A) {a1 a2 a3 : Int} (w24 : Int → Int) (ew24 : A 24 = w24) (w25 : Int → Int) (ew25 : A 25 = w25) (h0 : inr (a1)) (h1 : inr (a2)) (h2 : inr (a3)) (h3 : (a3) = 0 ∨ (a3) = 1) (h4 : 0 ≤ (a2) ∧ (a2) ≤ (a1) ∧ (a1) ≤ 16384) (h5 : 0 ≤ (w24) ((a1) - (a2)) ∧ (w24) ((a1) - (a2)) ≤ 100000) (h6 : 0 ≤ (w25) ((a1) - (a2)) ∧ (w25) ((a1) - (a2)) ≤ 100000) (k : ∀ (z : Int) σ Fₚ Aₚ, HS σ0 σ D N Fₚ Aₚ → SF [] F Fₚ → SA [] A Aₚ → (inr (z)) → ((a3) = 1 ∧ (z) = bN ((a2)) + (w24) ((a1) - (a2)) ∨ (a3) = 0 ∧ (z) = bF ((a2)) + (w25) ((a1) - (a2))) → Q (some (I z)) σ c s) : Ew 329 (d + 1) 0 (rargs 0 [.ref (D 4), I a1, I a2, I a3]) [] σ c s Q := by
  refine Ew_of (pcₚ := 1) (fun _ => x_iload_n rfl rfl) ?_
  refine Ew_of (pcₚ := 2) (fun _ => x_iload_n rfl rfl) ?_
  refine w_stat24 rfl rfl (by rfl) (M327 H (show inr (a2) from h1) (show inr (a3) from h2) (show (a3) = 0 ∨ (a3) = 1 from h3) (fun z5 σ F1 A2 H hS3 hA4 pz5_0 pz5_1 => ⟨rfl, ?_⟩))
  refine Ew_of (pcₚ := 6) (fun _ => x_aload_n rfl rfl) ?_
  refine Ew_of (pcₚ := 7) (fun _ => x_iload_n rfl rfl) ?_
  refine Ew_of (pcₚ := 8) (fun _ => x_iload_n rfl rfl) ?_
  refine w_isub rfl ?_
  refine Ew_of (pcₚ := 10) (fun _ => x_iload_n rfl rfl) ?_
  refine w_inv H (o := 4) rfl rfl rfl (H.perm 4 rfl) rfl rfl (by rfl) (M328 H (w24) ((funext (hA4 24 rfl)).trans (ew24)) (w25) ((funext (hA4 25 rfl)).trans (ew25)) (show inr ((a1 - a2)) from q_456 h4) (show inr (a3) from h2) (show (a3) = 0 ∨ (a3) = 1 from h3) (show 0 ≤ ((a1 - a2)) ∧ ((a1 - a2)) ≤ 16384 from q_878 h4) (fun z10 σ F6 A7 H hS8 hA9 pz10_0 pz10_1 => ⟨rfl, ?_⟩))
  have := bN_eq ((a2))
  have := bF_eq ((a2))
  refine w_iadd rfl ?_
  exact w_ireturn rfl (k ((z5 + z10)) σ _ _ H (SF_trans (SF_trans (SF_refl) hS3 (any_sub rfl)) hS8 (any_sub rfl)) (SA_trans (SA_trans (SA_refl) hA4 (any_subA rfl)) hA9 (any_subA rfl)) (show inr ((z5 + z10)) from q_879 h5 h6 pz10_1 pz5_0 pz5_1) (show a3 = 1 ∧ ((z5 + z10)) = bN (a2) + (w24) (a1 - a2) ∨ a3 = 0 ∧ ((z5 + z10)) = bF (a2) + (w25) (a1 - a2) by omega))

theorem M330 {σ0 σ : rS} {D N : Nat → Nat} {F : hF} {A : hA} {d c s : Nat} {Q : wQ} (H : HS σ0 σ D N F A) {a1 : Int} (u4_5 : Int) (eu4_5 : F 4 5 = u4_5) (w24 : Int → Int) (ew24 : A 24 = w24) (w25 : Int → Int) (ew25 : A 25 = w25) (h0 : inr (a1)) (h1 : 0 ≤ (a1) ∧ (a1) ≤ 16384) (h2 : KQ bN ((w24)) ((u4_5))) (h3 : KQ bF ((w25)) ((u4_5))) (k : ∀ σ Fₚ Aₚ, HS σ0 σ D N Fₚ Aₚ → SF [(4, 5)] F Fₚ → SA [24, 25] A Aₚ → ∀ y4_5 : Int, Fₚ 4 5 = y4_5 → ∀ v24 : Int → Int, Aₚ 24 = v24 → ∀ v25 : Int → Int, Aₚ 25 = v25 → ((a1) ≤ (y4_5)) → (KQ bN ((v24)) ((y4_5))) → (KQ bF ((v25)) ((y4_5))) → Q none σ c s) : Ew 330 (d + 2) 0 (rargs 0 [.ref (D 4), I a1]) [] σ c s Q := by
  have r1 : (0 : Int) ≤ u4_5 ∧ u4_5 ≤ 16384 := rngE (show (0 : Int) ≤ F 4 5 ∧ F 4 5 ≤ 16384 from H.frng 4 5) (show F 4 5 = u4_5 from (eu4_5))
  have : KQ bN ((w24)) ((u4_5) + 1 - 1) := by rw [show (u4_5) + 1 - 1 = (u4_5) by omega]; assumption
  have : KQ bF ((w25)) ((u4_5) + 1 - 1) := by rw [show (u4_5) + 1 - 1 = (u4_5) by omega]; assumption
  refine Ew_of (pcₚ := 1) (fun _ => x_aload_n rfl rfl) ?_
  refine w_gI H (o := 4) (w := u4_5) rfl (H.perm 4 rfl) rfl rfl rfl (fun _ => rfl) (eu4_5) ?_
  refine Ew_of (pcₚ := 5) (fun _ => x_iconst rfl) ?_
  refine w_iadd rfl ?_
  refine Ew_of (pcₚ := 7) (fun _ => x_istore_n rfl) ?_
  suffices hl7 : ∀ (m : Nat), ∀ (ls : rO) (σ : rS) (F_7 : hF) (A_7 : hA) (x7_2 : Int), rlook ls 0 = some (.ref (D 4)) → rlook ls 1 = some (I (a1)) → rlook ls 2 = some (I (x7_2)) → HS σ0 σ D N F_7 A_7 → SF [(4, 5)] F F_7 → SA [24, 25] A A_7 → ∀ y7_4_5 : Int, F_7 4 5 = y7_4_5 → ∀ w7_24 : Int → Int, A_7 24 = w7_24 → ∀ w7_25 : Int → Int, A_7 25 = w7_25 → (inr (x7_2)) → (1 ≤ (x7_2)) → ((x7_2) = (y7_4_5) + 1) → (KQ bN ((w7_24)) ((x7_2) - 1)) → (KQ bF ((w7_25)) ((x7_2) - 1)) → ((a1) + 1 - (x7_2)).toNat = m → Ew 330 (d + 2) 7 ls [] σ c s Q from
    hl7 _ _ σ _ _ ((u4_5 + 1)) (rk_o (rfl) rfl rfl) (rk_o (rfl) rfl rfl) (rk_s) H (SF_refl) (SA_refl) (u4_5) ((eu4_5)) (w24) (ew24) (w25) (ew25) (show inr ((u4_5 + 1)) from q_881 r1) (show 1 ≤ ((u4_5 + 1)) from q_880 r1) (show ((u4_5 + 1)) = (u4_5) + 1 from q_308) (show KQ bN ((w24)) (((u4_5 + 1)) - 1) by assumption) (show KQ bF ((w25)) (((u4_5 + 1)) - 1) by assumption) rfl
  as_aux_lemma =>
  intro m
  induction m using Nat.strongRecOn with
  | _ m ih7 =>
    intro ls σ F_7 A_7 x7_2 l7_0 l7_1 l7_2 H hS_7 hA_7 y7_4_5 ey7_4_5 w7_24 ew7_24 w7_25 ew7_25 j7_0 j7_1 j7_2 j7_3 j7_4 hm7
    have r2 : (0 : Int) ≤ y7_4_5 ∧ y7_4_5 ≤ 16384 := rngE (show (0 : Int) ≤ F_7 4 5 ∧ F_7 4 5 ≤ 16384 from H.frng 4 5) (show F_7 4 5 = y7_4_5 from (ey7_4_5))
    refine Ew_of (pcₚ := 8) (fun _ => x_iload_n rfl l7_2) ?_
    refine Ew_of (pcₚ := 9) (fun _ => x_iload_n rfl l7_1) ?_
    refine w_icmpgt (t := 116) rfl rfl (show inr (x7_2) from j7_0) (show inr (a1) from h0) (fun b3 => ?_) (fun b3 => ?_)
    · have : KQ bN ((w7_24)) ((y7_4_5)) := by rw [show (y7_4_5) = (x7_2) - 1 by omega]; assumption
      have : KQ bF ((w7_25)) ((y7_4_5)) := by rw [show (y7_4_5) = (x7_2) - 1 by omega]; assumption
      exact w_ret rfl (k σ _ _ H (SF_trans (SF_refl) hS_7 (any_sub rfl)) (SA_trans (SA_refl) hA_7 (any_subA rfl)) (y7_4_5) ((ey7_4_5)) (w7_24) (ew7_24) (w7_25) (ew7_25) (show a1 ≤ (y7_4_5) from q_882 b3 j7_2) (show KQ bN ((w7_24)) ((y7_4_5)) by assumption) (show KQ bF ((w7_25)) ((y7_4_5)) by assumption))
    · have : KP bN (upd1 ((w7_24)) (x7_2) 2147483647) (x7_2) 1 := KP_start (by assumption) (by omega)
      have : KP bF (upd1 ((w7_25)) (x7_2) 2147483647) (x7_2) 1 := KP_start (by assumption) (by omega)
      refine Ew_of (pcₚ := 13) (fun _ => x_aload_n rfl l7_0) ?_
      refine w_gT H (o := 4) (t := 24) rfl (H.perm 4 rfl) rfl rfl rfl rfl rfl rfl ?_
      refine Ew_of (pcₚ := 17) (fun _ => x_iload_n rfl l7_2) ?_
      refine Ew_of (pcₚ := 19) (fun _ => x_ldc (z := 2147483647) rfl (by decide)) ?_
      refine w_sI H (o := 24) (n := 16385) rfl (H.perm 24 rfl) rfl rfl (H.fix 24 rfl rfl) (show 0 ≤ x7_2 ∧ x7_2 < ((16385 : Nat) : Int) from q_884 b3 h1 j7_1) (by decide) (show (0 : Int) ≤ 2147483647 ∧ 2147483647 ≤ 2147483647 from q_883) (fun σ H => ?_)
      refine Ew_of (pcₚ := 21) (fun _ => x_aload_n rfl l7_0) ?_
      refine w_gT H (o := 4) (t := 25) rfl (H.perm 4 rfl) rfl rfl rfl rfl rfl rfl ?_
      refine Ew_of (pcₚ := 25) (fun _ => x_iload_n rfl l7_2) ?_
      refine Ew_of (pcₚ := 27) (fun _ => x_ldc (z := 2147483647) rfl (by decide)) ?_
      refine w_sI H (o := 25) (n := 16385) rfl (H.perm 25 rfl) rfl rfl (H.fix 25 rfl rfl) (show 0 ≤ x7_2 ∧ x7_2 < ((16385 : Nat) : Int) from q_884 b3 h1 j7_1) (by decide) (show (0 : Int) ≤ 2147483647 ∧ 2147483647 ≤ 2147483647 from q_883) (fun σ H => ?_)
      refine Ew_of (pcₚ := 29) (fun _ => x_iconst rfl) ?_
      refine Ew_of (pcₚ := 30) (fun _ => x_istore_n rfl) ?_
      suffices hl30 : ∀ (m : Nat), ∀ (ls : rO) (σ : rS) (F_30 : hF) (A_30 : hA) (x30_3 : Int), rlook ls 0 = some (.ref (D 4)) → rlook ls 1 = some (I (a1)) → rlook ls 2 = some (I (x7_2)) → rlook ls 3 = some (I (x30_3)) → HS σ0 σ D N F_30 A_30 → SF [] F_7 F_30 → SA [24, 25] (updA (updA A_7 24 (x7_2) (2147483647)) 25 (x7_2) (2147483647)) A_30 → ∀ w30_24 : Int → Int, A_30 24 = w30_24 → ∀ w30_25 : Int → Int, A_30 25 = w30_25 → (inr (x30_3)) → (1 ≤ (x30_3) ∧ (x30_3) ≤ 65 ∧ (x30_3) ≤ (x7_2) + 1) → ((y7_4_5) = (x7_2) - 1) → (KP bN ((w30_24)) (x7_2) (x30_3)) → (KP bF ((w30_25)) (x7_2) (x30_3)) → (65 - (x30_3)).toNat = m → Ew 330 (d + 2) 30 ls [] σ c s Q from
        hl30 _ _ σ _ _ (1) (rk_o (l7_0) rfl rfl) (rk_o (l7_1) rfl rfl) (rk_o (l7_2) rfl rfl) (rk_s) H (SF_refl) (SA_refl)  (upd1 (w7_24) (x7_2) (2147483647)) (congrArg (fun q => upd1 q (x7_2) (2147483647)) (ew7_24)) (upd1 (w7_25) (x7_2) (2147483647)) (congrArg (fun q => upd1 q (x7_2) (2147483647)) (ew7_25)) (show inr (1) from q_135) (show 1 ≤ (1) ∧ (1) ≤ 65 ∧ (1) ≤ (x7_2) + 1 from q_886 j7_1) (show (y7_4_5) = (x7_2) - 1 from q_885 j7_2) (show KP bN ((upd1 (w7_24) (x7_2) (2147483647))) (x7_2) (1) by assumption) (show KP bF ((upd1 (w7_25) (x7_2) (2147483647))) (x7_2) (1) by assumption) rfl
      as_aux_lemma =>
      intro m
      induction m using Nat.strongRecOn with
      | _ m ih30 =>
        intro ls σ F_30 A_30 x30_3 l30_0 l30_1 l30_2 l30_3 H hS_30 hA_30  w30_24 ew30_24 w30_25 ew30_25 j30_0 j30_1 j30_2 j30_3 j30_4 hm30
        refine Ew_of (pcₚ := 31) (fun _ => x_iload_n rfl l30_3) ?_
        refine Ew_of (pcₚ := 33) (fun _ => x_bipush (z := 64) rfl (by decide)) ?_
        refine w_icmpgt (t := 105) rfl rfl (show inr (x30_3) from j30_0) (show inr (64) from q_151) (fun b4 => ?_) (fun b4 => ?_)
        · have : KQ bN ((w30_24)) ((x7_2) + 1 - 1) := by rw [show (x7_2) + 1 - 1 = (x7_2) by omega]; exact KP_end (f := (x30_3)) (by assumption) (by omega) (by omega) (by omega) (by omega)
          have : KQ bF ((w30_25)) ((x7_2) + 1 - 1) := by rw [show (x7_2) + 1 - 1 = (x7_2) by omega]; exact KP_end (f := (x30_3)) (by assumption) (by omega) (by omega) (by omega) (by omega)
          refine Ew_of (pcₚ := 106) (fun _ => x_aload_n rfl l30_0) ?_
          refine Ew_of (pcₚ := 107) (fun _ => x_iload_n rfl l30_2) ?_
          refine w_pI H (o := 4) rfl rfl (H.perm 4 rfl) rfl rfl rfl (fun _ => rfl) rfl (show (0 : Int) ≤ x7_2 ∧ x7_2 ≤ 16384 from q_887 b3 h1 j7_1) (fun σ H => ?_)
          refine Ew_of (pcₚ := 113) (fun _ => x_iinc (len := 3) rfl (l30_2)) ?_
          refine Ew_of (pcₚ := 7) (fun _ => x_goto rfl rfl) ?_
          exact ih7 _ (msE hm7 q_77 (q_890 b3)) _ σ _ _ ((x7_2 + 1)) (rk_o (l30_0) rfl rfl) (rk_o (l30_1) rfl rfl) (rk_s) H (SF_upd (SF_trans (hS_7) hS_30 (any_sub rfl)) rfl) (SA_trans (SA_upd (SA_upd (hA_7) rfl) rfl) hA_30 (any_subA rfl)) (x7_2) (rfl) (w30_24) (ew30_24) (w30_25) (ew30_25) (show inr ((x7_2 + 1)) from q_889 j30_2 j7_1 r2) (show 1 ≤ ((x7_2 + 1)) from q_888 j7_1) (show ((x7_2 + 1)) = (x7_2) + 1 from q_308) (show KQ bN ((w30_24)) (((x7_2 + 1)) - 1) by assumption) (show KQ bF ((w30_25)) (((x7_2 + 1)) - 1) by assumption) rfl
        · refine Ew_of (pcₚ := 37) (fun _ => x_iload_n rfl l30_3) ?_
          refine Ew_of (pcₚ := 38) (fun _ => x_iload_n rfl l30_2) ?_
          refine w_icmpgt (t := 105) rfl rfl (show inr (x30_3) from j30_0) (show inr (x7_2) from j7_0) (fun b5 => ?_) (fun b5 => ?_)
          · have : KQ bN ((w30_24)) ((x7_2) + 1 - 1) := by rw [show (x7_2) + 1 - 1 = (x7_2) by omega]; exact KP_end (f := (x30_3)) (by assumption) (by omega) (by omega) (by omega) (by omega)
            have : KQ bF ((w30_25)) ((x7_2) + 1 - 1) := by rw [show (x7_2) + 1 - 1 = (x7_2) by omega]; exact KP_end (f := (x30_3)) (by assumption) (by omega) (by omega) (by omega) (by omega)
            refine Ew_of (pcₚ := 106) (fun _ => x_aload_n rfl l30_0) ?_
            refine Ew_of (pcₚ := 107) (fun _ => x_iload_n rfl l30_2) ?_
            refine w_pI H (o := 4) rfl rfl (H.perm 4 rfl) rfl rfl rfl (fun _ => rfl) rfl (show (0 : Int) ≤ x7_2 ∧ x7_2 ≤ 16384 from q_891 b5 j30_1 j7_1) (fun σ H => ?_)
            refine Ew_of (pcₚ := 113) (fun _ => x_iinc (len := 3) rfl (l30_2)) ?_
            refine Ew_of (pcₚ := 7) (fun _ => x_goto rfl rfl) ?_
            exact ih7 _ (msE hm7 q_77 (q_890 b3)) _ σ _ _ ((x7_2 + 1)) (rk_o (l30_0) rfl rfl) (rk_o (l30_1) rfl rfl) (rk_s) H (SF_upd (SF_trans (hS_7) hS_30 (any_sub rfl)) rfl) (SA_trans (SA_upd (SA_upd (hA_7) rfl) rfl) hA_30 (any_subA rfl)) (x7_2) (rfl) (w30_24) (ew30_24) (w30_25) (ew30_25) (show inr ((x7_2 + 1)) from q_892 b5 j30_1 j7_1) (show 1 ≤ ((x7_2 + 1)) from q_888 j7_1) (show ((x7_2 + 1)) = (x7_2) + 1 from q_308) (show KQ bN ((w30_24)) (((x7_2 + 1)) - 1) by assumption) (show KQ bF ((w30_25)) (((x7_2 + 1)) - 1) by assumption) rfl
          · have hc70 : ∀ (ls : rO) (σ : rS) (F_c70 : hF) (A_c70 : hA) , rlook ls 0 = some (.ref (D 4)) → rlook ls 1 = some (I (a1)) → rlook ls 2 = some (I (x7_2)) → rlook ls 3 = some (I (x30_3)) → HS σ0 σ D N F_c70 A_c70 → SF [] F_30 F_c70 → SA [24] A_30 A_c70 → ∀ wc70_24 : Int → Int, A_c70 24 = wc70_24 → (KP bN ((wc70_24)) (x7_2) ((x30_3) + 1)) → Ew 330 (d + 2) 70 ls [] σ c s Q := by
             as_aux_lemma =>
              intro  ls σ F_c70 A_c70  lc70_0 lc70_1 lc70_2 lc70_3 H hS_c70 hA_c70  wc70_24 ewc70_24 jc70_0
              have hc99 : ∀ (ls : rO) (σ : rS) (F_c99 : hF) (A_c99 : hA) , rlook ls 0 = some (.ref (D 4)) → rlook ls 1 = some (I (a1)) → rlook ls 2 = some (I (x7_2)) → rlook ls 3 = some (I (x30_3)) → HS σ0 σ D N F_c99 A_c99 → SF [] F_c70 F_c99 → SA [25] A_c70 A_c99 → ∀ wc99_25 : Int → Int, A_c99 25 = wc99_25 → (KP bF ((wc99_25)) (x7_2) ((x30_3) + 1)) → Ew 330 (d + 2) 99 ls [] σ c s Q := by
               as_aux_lemma =>
                intro  ls σ F_c99 A_c99  lc99_0 lc99_1 lc99_2 lc99_3 H hS_c99 hA_c99  wc99_25 ewc99_25 jc99_0
                refine Ew_of (pcₚ := 102) (fun _ => x_iinc (len := 3) rfl (lc99_3)) ?_
                refine Ew_of (pcₚ := 30) (fun _ => x_goto rfl rfl) ?_
                exact ih30 _ (msE hm30 q_895 (q_896 b4)) _ σ _ _ ((x30_3 + 1)) (rk_o (lc99_0) rfl rfl) (rk_o (lc99_1) rfl rfl) (rk_o (lc99_2) rfl rfl) (rk_s) H (SF_trans (SF_trans (hS_30) hS_c70 (any_sub rfl)) hS_c99 (any_sub rfl)) (SA_trans (SA_trans (hA_30) hA_c70 (any_subA rfl)) hA_c99 (any_subA rfl))  (wc70_24) ((funext (hA_c99 24 rfl)).trans (ewc70_24)) (wc99_25) (ewc99_25) (show inr ((x30_3 + 1)) from q_894 b4 j30_1) (show 1 ≤ ((x30_3 + 1)) ∧ ((x30_3 + 1)) ≤ 65 ∧ ((x30_3 + 1)) ≤ (x7_2) + 1 from q_893 b4 b5 j30_1) (show (y7_4_5) = (x7_2) - 1 from j30_2) (jc70_0) (jc99_0) rfl
              have q1 := KQ_small (jc70_0).1 (j := (x7_2) - (x30_3)) (by omega) (by omega)
              have q2 := KP_small (b := bF) (g := (w30_25)) (l := (x7_2)) (f := (x30_3)) (by assumption) (by omega) (by omega)
              have q3 := bN_eq ((x30_3))
              have q4 := bF_eq ((x30_3))
              refine Ew_of (pcₚ := 71) (fun _ => x_aload_n rfl lc70_0) ?_
              refine Ew_of (pcₚ := 72) (fun _ => x_iload_n rfl lc70_2) ?_
              refine Ew_of (pcₚ := 73) (fun _ => x_iload_n rfl lc70_3) ?_
              refine Ew_of (pcₚ := 74) (fun _ => x_iconst rfl) ?_
              refine w_inv H (o := 4) rfl rfl rfl (H.perm 4 rfl) rfl rfl (by rfl) (M329 H (wc70_24) (ewc70_24) (w30_25) ((funext (hA_c70 25 rfl)).trans (ew30_25)) (show inr (x7_2) from j7_0) (show inr (x30_3) from j30_0) (show inr (0) from q_2) (show (0) = 0 ∨ (0) = 1 from q_45) (show 0 ≤ (x30_3) ∧ (x30_3) ≤ (x7_2) ∧ (x7_2) ≤ 16384 from q_897 b3 b5 h1 j30_1) (show 0 ≤ (wc70_24) ((x7_2) - (x30_3)) ∧ (wc70_24) ((x7_2) - (x30_3)) ≤ 100000 by omega) (show 0 ≤ (w30_25) ((x7_2) - (x30_3)) ∧ (w30_25) ((x7_2) - (x30_3)) ≤ 100000 by omega) (fun z10 σ F6 A7 H hS8 hA9 pz10_0 pz10_1 => ⟨rfl, ?_⟩))
              refine Ew_of (pcₚ := 78) (fun _ => x_aload_n rfl lc70_0) ?_
              refine w_gT H (o := 4) (t := 25) rfl (H.perm 4 rfl) rfl rfl rfl rfl rfl rfl ?_
              refine Ew_of (pcₚ := 82) (fun _ => x_iload_n rfl lc70_2) ?_
              refine w_lI H (o := 25) (n := 16385) rfl (H.perm 25 rfl) rfl rfl (H.fix 25 rfl rfl) (show 0 ≤ x7_2 ∧ x7_2 < ((16385 : Nat) : Int) from q_884 b3 h1 j7_1) (by decide) (fun v11 ev11 qv11 => ?_)
              have qv11 : (0 : Int) ≤ v11 ∧ v11 ≤ 2147483647 := qv11
              have ev11 : (w30_25) (x7_2) = v11 := (congrFun ((funext (hA9 25 rfl)).trans ((funext (hA_c70 25 rfl)).trans (ew30_25))) (x7_2)).symm.trans ev11
              refine w_icmpge (t := 99) rfl rfl (show inr (z10) from pz10_0) (show inr (v11) from q_877 qv11) (fun b12 => ?_) (fun b12 => ?_)
              · have : KP bF ((w30_25)) (x7_2) ((x30_3) + 1) := by exact KP_keep (by assumption) (by omega) (by omega) (by omega) (by omega) (by omega)
                exact hc99  _ σ _ _  (lc70_0) (lc70_1) (lc70_2) (lc70_3) H (SF_trans (SF_refl) hS8 (any_sub rfl)) (SA_trans (SA_refl) hA9 (any_subA rfl))  (w30_25) ((funext (hA9 25 rfl)).trans ((funext (hA_c70 25 rfl)).trans (ew30_25))) (show KP bF ((w30_25)) (x7_2) ((x30_3) + 1) by assumption)
              · refine Ew_of (pcₚ := 87) (fun _ => x_aload_n rfl lc70_0) ?_
                refine w_gT H (o := 4) (t := 25) rfl (H.perm 4 rfl) rfl rfl rfl rfl rfl rfl ?_
                refine Ew_of (pcₚ := 91) (fun _ => x_iload_n rfl lc70_2) ?_
                refine Ew_of (pcₚ := 92) (fun _ => x_aload_n rfl lc70_0) ?_
                refine Ew_of (pcₚ := 93) (fun _ => x_iload_n rfl lc70_2) ?_
                refine Ew_of (pcₚ := 94) (fun _ => x_iload_n rfl lc70_3) ?_
                refine Ew_of (pcₚ := 95) (fun _ => x_iconst rfl) ?_
                refine w_inv H (o := 4) rfl rfl rfl (H.perm 4 rfl) rfl rfl (by rfl) (M329 H (wc70_24) ((funext (hA9 24 rfl)).trans (ewc70_24)) (w30_25) ((funext (hA9 25 rfl)).trans ((funext (hA_c70 25 rfl)).trans (ew30_25))) (show inr (x7_2) from j7_0) (show inr (x30_3) from j30_0) (show inr (0) from q_2) (show (0) = 0 ∨ (0) = 1 from q_45) (show 0 ≤ (x30_3) ∧ (x30_3) ≤ (x7_2) ∧ (x7_2) ≤ 16384 from q_897 b3 b5 h1 j30_1) (show 0 ≤ (wc70_24) ((x7_2) - (x30_3)) ∧ (wc70_24) ((x7_2) - (x30_3)) ≤ 100000 by omega) (show 0 ≤ (w30_25) ((x7_2) - (x30_3)) ∧ (w30_25) ((x7_2) - (x30_3)) ≤ 100000 by omega) (fun z17 σ F13 A14 H hS15 hA16 pz17_0 pz17_1 => ⟨rfl, ?_⟩))
                refine w_sI H (o := 25) (n := 16385) rfl (H.perm 25 rfl) rfl rfl (H.fix 25 rfl rfl) (show 0 ≤ x7_2 ∧ x7_2 < ((16385 : Nat) : Int) from q_884 b3 h1 j7_1) (by decide) (show (0 : Int) ≤ z17 ∧ z17 ≤ 2147483647 by omega) (fun σ H => ?_)
                have : KP bF ((upd1 (w30_25) (x7_2) (z17))) (x7_2) ((x30_3) + 1) := by exact KP_set (by assumption) (by omega) (by omega) (by omega) (by omega) (by omega) (by omega)
                exact hc99  _ σ _ _  (lc70_0) (lc70_1) (lc70_2) (lc70_3) H (SF_trans (SF_trans (SF_refl) hS8 (any_sub rfl)) hS15 (any_sub rfl)) (SA_upd (SA_trans (SA_trans (SA_refl) hA9 (any_subA rfl)) hA16 (any_subA rfl)) rfl)  (upd1 (w30_25) (x7_2) (z17)) (congrArg (fun q => upd1 q (x7_2) (z17)) ((funext (hA16 25 rfl)).trans ((funext (hA9 25 rfl)).trans ((funext (hA_c70 25 rfl)).trans (ew30_25))))) (show KP bF ((upd1 (w30_25) (x7_2) (z17))) (x7_2) ((x30_3) + 1) by assumption)
            have q1 := KP_small (b := bN) (g := (w30_24)) (l := (x7_2)) (f := (x30_3)) (by assumption) (by omega) (by omega)
            have q2 := KP_small (b := bF) (g := (w30_25)) (l := (x7_2)) (f := (x30_3)) (by assumption) (by omega) (by omega)
            have q3 := bN_eq ((x30_3))
            have q4 := bF_eq ((x30_3))
            refine Ew_of (pcₚ := 42) (fun _ => x_aload_n rfl l30_0) ?_
            refine Ew_of (pcₚ := 43) (fun _ => x_iload_n rfl l30_2) ?_
            refine Ew_of (pcₚ := 44) (fun _ => x_iload_n rfl l30_3) ?_
            refine Ew_of (pcₚ := 45) (fun _ => x_iconst rfl) ?_
            refine w_inv H (o := 4) rfl rfl rfl (H.perm 4 rfl) rfl rfl (by rfl) (M329 H (w30_24) (ew30_24) (w30_25) (ew30_25) (show inr (x7_2) from j7_0) (show inr (x30_3) from j30_0) (show inr (1) from q_135) (show (1) = 0 ∨ (1) = 1 from q_49) (show 0 ≤ (x30_3) ∧ (x30_3) ≤ (x7_2) ∧ (x7_2) ≤ 16384 from q_897 b3 b5 h1 j30_1) (show 0 ≤ (w30_24) ((x7_2) - (x30_3)) ∧ (w30_24) ((x7_2) - (x30_3)) ≤ 100000 by omega) (show 0 ≤ (w30_25) ((x7_2) - (x30_3)) ∧ (w30_25) ((x7_2) - (x30_3)) ≤ 100000 by omega) (fun z22 σ F18 A19 H hS20 hA21 pz22_0 pz22_1 => ⟨rfl, ?_⟩))
            refine Ew_of (pcₚ := 49) (fun _ => x_aload_n rfl l30_0) ?_
            refine w_gT H (o := 4) (t := 24) rfl (H.perm 4 rfl) rfl rfl rfl rfl rfl rfl ?_
            refine Ew_of (pcₚ := 53) (fun _ => x_iload_n rfl l30_2) ?_
            refine w_lI H (o := 24) (n := 16385) rfl (H.perm 24 rfl) rfl rfl (H.fix 24 rfl rfl) (show 0 ≤ x7_2 ∧ x7_2 < ((16385 : Nat) : Int) from q_884 b3 h1 j7_1) (by decide) (fun v23 ev23 qv23 => ?_)
            have qv23 : (0 : Int) ≤ v23 ∧ v23 ≤ 2147483647 := qv23
            have ev23 : (w30_24) (x7_2) = v23 := (congrFun ((funext (hA21 24 rfl)).trans (ew30_24)) (x7_2)).symm.trans ev23
            refine w_icmpge (t := 70) rfl rfl (show inr (z22) from pz22_0) (show inr (v23) from q_877 qv23) (fun b24 => ?_) (fun b24 => ?_)
            · have : KP bN ((w30_24)) (x7_2) ((x30_3) + 1) := by exact KP_keep (by assumption) (by omega) (by omega) (by omega) (by omega) (by omega)
              exact hc70  _ σ _ _  (l30_0) (l30_1) (l30_2) (l30_3) H (SF_trans (SF_refl) hS20 (any_sub rfl)) (SA_trans (SA_refl) hA21 (any_subA rfl))  (w30_24) ((funext (hA21 24 rfl)).trans (ew30_24)) (show KP bN ((w30_24)) (x7_2) ((x30_3) + 1) by assumption)
            · refine Ew_of (pcₚ := 58) (fun _ => x_aload_n rfl l30_0) ?_
              refine w_gT H (o := 4) (t := 24) rfl (H.perm 4 rfl) rfl rfl rfl rfl rfl rfl ?_
              refine Ew_of (pcₚ := 62) (fun _ => x_iload_n rfl l30_2) ?_
              refine Ew_of (pcₚ := 63) (fun _ => x_aload_n rfl l30_0) ?_
              refine Ew_of (pcₚ := 64) (fun _ => x_iload_n rfl l30_2) ?_
              refine Ew_of (pcₚ := 65) (fun _ => x_iload_n rfl l30_3) ?_
              refine Ew_of (pcₚ := 66) (fun _ => x_iconst rfl) ?_
              refine w_inv H (o := 4) rfl rfl rfl (H.perm 4 rfl) rfl rfl (by rfl) (M329 H (w30_24) ((funext (hA21 24 rfl)).trans (ew30_24)) (w30_25) ((funext (hA21 25 rfl)).trans (ew30_25)) (show inr (x7_2) from j7_0) (show inr (x30_3) from j30_0) (show inr (1) from q_135) (show (1) = 0 ∨ (1) = 1 from q_49) (show 0 ≤ (x30_3) ∧ (x30_3) ≤ (x7_2) ∧ (x7_2) ≤ 16384 from q_897 b3 b5 h1 j30_1) (show 0 ≤ (w30_24) ((x7_2) - (x30_3)) ∧ (w30_24) ((x7_2) - (x30_3)) ≤ 100000 by omega) (show 0 ≤ (w30_25) ((x7_2) - (x30_3)) ∧ (w30_25) ((x7_2) - (x30_3)) ≤ 100000 by omega) (fun z29 σ F25 A26 H hS27 hA28 pz29_0 pz29_1 => ⟨rfl, ?_⟩))
              refine w_sI H (o := 24) (n := 16385) rfl (H.perm 24 rfl) rfl rfl (H.fix 24 rfl rfl) (show 0 ≤ x7_2 ∧ x7_2 < ((16385 : Nat) : Int) from q_884 b3 h1 j7_1) (by decide) (show (0 : Int) ≤ z29 ∧ z29 ≤ 2147483647 by omega) (fun σ H => ?_)
              have : KP bN ((upd1 (w30_24) (x7_2) (z29))) (x7_2) ((x30_3) + 1) := by exact KP_set (by assumption) (by omega) (by omega) (by omega) (by omega) (by omega) (by omega)
              exact hc70  _ σ _ _  (l30_0) (l30_1) (l30_2) (l30_3) H (SF_trans (SF_trans (SF_refl) hS20 (any_sub rfl)) hS27 (any_sub rfl)) (SA_upd (SA_trans (SA_trans (SA_refl) hA21 (any_subA rfl)) hA28 (any_subA rfl)) rfl)  (upd1 (w30_24) (x7_2) (z29)) (congrArg (fun q => upd1 q (x7_2) (z29)) ((funext (hA28 24 rfl)).trans ((funext (hA21 24 rfl)).trans (ew30_24)))) (show KP bN ((upd1 (w30_24) (x7_2) (z29))) (x7_2) ((x30_3) + 1) by assumption)

theorem M331 {σ0 σ : rS} {D N : Nat → Nat} {F : hF} {A : hA} {d c s : Nat} {Q : wQ} (H : HS σ0 σ D N F A) {a1 a2 : Int} (u4_2 : Int) (eu4_2 : F 4 2 = u4_2) (u4_5 : Int) (eu4_5 : F 4 5 = u4_5) (w23 : Int → Int) (ew23 : A 23 = w23) (w24 : Int → Int) (ew24 : A 24 = w24) (w25 : Int → Int) (ew25 : A 25 = w25) (h0 : inr (a1)) (h1 : inr (a2)) (h2 : 1 ≤ (a1) ∧ (a1) ≤ 16384) (h3 : 0 ≤ (a2) ∧ (a2) ≤ 65536) (h4 : 0 ≤ (u4_2) ∧ (u4_2) ≤ 9000000) (h5 : KQ bN ((w24)) ((u4_5))) (h6 : KQ bF ((w25)) ((u4_5))) (k : ∀ σ Fₚ Aₚ, HS σ0 σ D N Fₚ Aₚ → SF [(4, 2), (4, 5)] F Fₚ → SA [23, 24, 25] A Aₚ → ∀ y4_2 : Int, Fₚ 4 2 = y4_2 → ∀ y4_5 : Int, Fₚ 4 5 = y4_5 → ∀ v23 : Int → Int, Aₚ 23 = v23 → ∀ v24 : Int → Int, Aₚ 24 = v24 → ∀ v25 : Int → Int, Aₚ 25 = v25 → (KQ bN ((v24)) ((y4_5))) → (KQ bF ((v25)) ((y4_5))) → ((u4_2) ≤ (y4_2) ∧ (y4_2) ≤ (u4_2) + 3 * (a1)) → (QAP 70000 ((w23)) ((u4_2)) ((v23)) ((y4_2)) (tgc (ner ((a2))) ((a2)) ((a1)))) → Q none σ c s) : Ew 331 (d + 3) 0 (rargs 0 [.ref (D 4), I a1, I a2]) [] σ c s Q := by
  have r1 : (-2147483648 : Int) ≤ u4_2 ∧ u4_2 ≤ 2147483647 := rngE (show (-2147483648 : Int) ≤ F 4 2 ∧ F 4 2 ≤ 2147483647 from H.frng 4 2) (show F 4 2 = u4_2 from (eu4_2))
  have r2 : (0 : Int) ≤ u4_5 ∧ u4_5 ≤ 16384 := rngE (show (0 : Int) ≤ F 4 5 ∧ F 4 5 ≤ 16384 from H.frng 4 5) (show F 4 5 = u4_5 from (eu4_5))
  refine Ew_of (pcₚ := 1) (fun _ => x_aload_n rfl rfl) ?_
  refine Ew_of (pcₚ := 2) (fun _ => x_iload_n rfl rfl) ?_
  refine w_inv H (o := 4) rfl rfl rfl (H.perm 4 rfl) rfl rfl (by rfl) (M330 H (u4_5) ((eu4_5)) (w24) (ew24) (w25) (ew25) (show inr (a1) from h0) (show 0 ≤ (a1) ∧ (a1) ≤ 16384 from q_898 h2) (h5) (show KQ bF ((w25)) ((u4_5)) by assumption) (fun σ F3 A4 H hS5 hA6 y8 ey9 wv10 ewv11 wv12 ewv13 pz7_0 pz7_1 pz7_2 => ⟨rfl, ?_⟩))
  have r14 : (0 : Int) ≤ y8 ∧ y8 ≤ 16384 := rngE (show (0 : Int) ≤ F3 4 5 ∧ F3 4 5 ≤ 16384 from H.frng 4 5) (show F3 4 5 = y8 from (ey9))
  have hc17 : ∀ (tc17_0 : Int), ∀ (ls : rO) (σ : rS) (F_c17 : hF) (A_c17 : hA) , rlook ls 0 = some (.ref (D 4)) → rlook ls 1 = some (I (a1)) → rlook ls 2 = some (I (a2)) → HS σ0 σ D N F_c17 A_c17 → SF [] F3 F_c17 → SA [] A4 A_c17 → (inr (tc17_0)) → ((tc17_0) = 1 ∧ (a2) < 2048 ∨ (tc17_0) = 0 ∧ 2048 ≤ (a2)) → Ew 331 (d + 3) 17 ls [I (tc17_0)] σ c s Q := by
   as_aux_lemma =>
    intro tc17_0 ls σ F_c17 A_c17  lc17_0 lc17_1 lc17_2 H hS_c17 hA_c17   jc17_0 jc17_1
    refine Ew_of (pcₚ := 18) (fun _ => x_istore_n rfl) ?_
    have hn3 : (tc17_0) = 1 ∧ (a2) < 2048 ∨ (tc17_0) = 0 ∧ 2048 ≤ (a2) := jc17_1
    have hner2 := ner_eq ((a2))
    have hne : ner ((a2)) = (tc17_0) := by omega
    refine Ew_of (pcₚ := 19) (fun _ => x_iload_n rfl (rk_o (lc17_1) rfl rfl)) ?_
    refine Ew_of (pcₚ := 21) (fun _ => x_istore rfl) ?_
    have : QTO 70000 ((w23)) ((u4_2)) ((w23)) ((u4_2)) (tgc (ner ((a2))) ((a2)) ((a1))) (tgc (ner ((a2))) ((a2)) ((a1))) := QTO_0
    suffices hl21 : ∀ (m : Nat), ∀ (ls : rO) (σ : rS) (F_21 : hF) (A_21 : hA) (x21_4 : Int), rlook ls 0 = some (.ref (D 4)) → rlook ls 2 = some (I (a2)) → rlook ls 3 = some (I (tc17_0)) → rlook ls 4 = some (I (x21_4)) → HS σ0 σ D N F_21 A_21 → SF [(4, 2)] F_c17 F_21 → SA [23] A_c17 A_21 → ∀ y21_4_2 : Int, F_21 4 2 = y21_4_2 → ∀ w21_23 : Int → Int, A_21 23 = w21_23 → (inr (x21_4)) → (0 ≤ (x21_4) ∧ (x21_4) ≤ (a1)) → ((u4_2) ≤ (y21_4_2) ∧ (y21_4_2) ≤ (u4_2) + 3 * ((a1) - (x21_4))) → (QTO 70000 ((w23)) ((u4_2)) ((w21_23)) ((y21_4_2)) (tgc (ner ((a2))) ((a2)) ((a1))) (tgc (ner ((a2))) ((a2)) ((x21_4)))) → ((x21_4)).toNat = m → Ew 331 (d + 3) 21 ls [] σ c s Q from
      hl21 _ _ σ _ _ (a1) (rk_o (rk_o (lc17_0) rfl rfl) rfl rfl) (rk_o (rk_o (lc17_2) rfl rfl) rfl rfl) (rk_o (rk_s) rfl rfl) (rk_s) H (SF_refl) (SA_refl) (u4_2) ((((hS_c17 4 2 rfl).trans (hS5 4 2 rfl)).trans (eu4_2))) (w23) ((funext (hA_c17 23 rfl)).trans ((funext (hA6 23 rfl)).trans (ew23))) (show inr (a1) from h0) (show 0 ≤ (a1) ∧ (a1) ≤ (a1) from q_900 h2) (show (u4_2) ≤ (u4_2) ∧ (u4_2) ≤ (u4_2) + 3 * ((a1) - (a1)) from q_899) (show QTO 70000 ((w23)) ((u4_2)) ((w23)) ((u4_2)) (tgc (ner ((a2))) ((a2)) ((a1))) (tgc (ner ((a2))) ((a2)) ((a1))) by assumption) rfl
    as_aux_lemma =>
    intro m
    induction m using Nat.strongRecOn with
    | _ m ih21 =>
      intro ls σ F_21 A_21 x21_4 l21_0 l21_2 l21_3 l21_4 H hS_21 hA_21 y21_4_2 ey21_4_2 w21_23 ew21_23 j21_0 j21_1 j21_2 j21_3 hm21
      have r15 : (-2147483648 : Int) ≤ y21_4_2 ∧ y21_4_2 ≤ 2147483647 := rngE (show (-2147483648 : Int) ≤ F_21 4 2 ∧ F_21 4 2 ≤ 2147483647 from H.frng 4 2) (show F_21 4 2 = y21_4_2 from (ey21_4_2))
      have j21_q : QTO 70000 ((w23)) ((u4_2)) ((w21_23)) ((y21_4_2)) (tgc (ner ((a2))) ((a2)) ((a1))) (tgc (ner ((a2))) ((a2)) ((x21_4))) := j21_3
      refine Ew_of (pcₚ := 23) (fun _ => x_iload rfl l21_4) ?_
      refine w_ifle (t := 134) rfl rfl (show inr (x21_4) from j21_0) (fun b16 => ?_) (fun b16 => ?_)
      · have : QAP 70000 ((w23)) ((u4_2)) ((w21_23)) ((y21_4_2)) (tgc (ner ((a2))) ((a2)) ((a1))) := QTO_z (by have h := j21_q; rw [tgc_0 (l := (x21_4)) (by omega)] at h; exact h)
        exact w_ret rfl (k σ _ _ H (SF_trans (SF_trans (SF_trans (SF_refl) hS5 (any_sub rfl)) hS_c17 (any_sub rfl)) hS_21 (any_sub rfl)) (SA_trans (SA_trans (SA_trans (SA_refl) hA6 (any_subA rfl)) hA_c17 (any_subA rfl)) hA_21 (any_subA rfl)) (y21_4_2) ((ey21_4_2)) (y8) ((((hS_21 4 5 rfl).trans (hS_c17 4 5 rfl)).trans (ey9))) (w21_23) (ew21_23) (wv10) ((funext (hA_21 24 rfl)).trans ((funext (hA_c17 24 rfl)).trans (ewv11))) (wv12) ((funext (hA_21 25 rfl)).trans ((funext (hA_c17 25 rfl)).trans (ewv13))) (pz7_1) (pz7_2) (show (u4_2) ≤ (y21_4_2) ∧ (y21_4_2) ≤ (u4_2) + 3 * a1 from q_901 j21_1 j21_2) (show QAP 70000 ((w23)) ((u4_2)) ((w21_23)) ((y21_4_2)) (tgc (ner (a2)) (a2) (a1)) by assumption))
      · refine Ew_of (pcₚ := 28) (fun _ => x_iload rfl l21_4) ?_
        refine Ew_of (pcₚ := 30) (fun _ => x_bipush (z := 64) rfl (by decide)) ?_
        refine w_icmpge (t := 38) rfl rfl (show inr (x21_4) from j21_0) (show inr (64) from q_151) (fun b17 => ?_) (fun b17 => ?_)
        · refine Ew_of (pcₚ := 40) (fun _ => x_bipush (z := 64) rfl (by decide)) ?_
          have : (tc17_0) = 1 → KX bN ((wv10)) ((x21_4)) ((64)) := fun _ => KX_all (pz7_1) (by omega) (by omega) _ (by omega)
          have : (tc17_0) = 0 → KX bF ((wv12)) ((x21_4)) ((64)) := fun _ => KX_all (pz7_2) (by omega) (by omega) _ (by omega)
          refine Ew_of (pcₚ := 42) (fun _ => x_istore rfl) ?_
          have : fcl ((tc17_0)) ((x21_4)) = fcn ((tc17_0)) ((x21_4)) ((64) : Int).toNat := by unfold fcl m64; (rw [if_neg (by omega)] <;> rfl)
          suffices hl42 : ∀ (m : Nat), ∀ (ls : rO) (σ : rS) (F_42 : hF) (A_42 : hA) (x42_5 : Int), rlook ls 0 = some (.ref (D 4)) → rlook ls 2 = some (I (a2)) → rlook ls 3 = some (I (tc17_0)) → rlook ls 4 = some (I (x21_4)) → rlook ls 5 = some (I (x42_5)) → HS σ0 σ D N F_42 A_42 → SF [] F_21 F_42 → SA [] A_21 A_42 → (inr (x42_5)) → (1 ≤ (x42_5) ∧ (x42_5) ≤ 64 ∧ (x42_5) ≤ (x21_4)) → ((tc17_0) = 1 → KX bN ((wv10)) ((x21_4)) ((x42_5))) → ((tc17_0) = 0 → KX bF ((wv12)) ((x21_4)) ((x42_5))) → (fcl ((tc17_0)) ((x21_4)) = fcn ((tc17_0)) ((x21_4)) ((x42_5) : Int).toNat) → ((x42_5)).toNat = m → Ew 331 (d + 3) 42 ls [] σ c s Q from
            hl42 _ _ σ _ _ (64) (rk_o (l21_0) rfl rfl) (rk_o (l21_2) rfl rfl) (rk_o (l21_3) rfl rfl) (rk_o (l21_4) rfl rfl) (rk_s) H (SF_refl) (SA_refl)   (show inr (64) from q_151) (show 1 ≤ (64) ∧ (64) ≤ 64 ∧ (64) ≤ (x21_4) from q_902 b17) (show (tc17_0) = 1 → KX bN ((wv10)) ((x21_4)) ((64)) by assumption) (show (tc17_0) = 0 → KX bF ((wv12)) ((x21_4)) ((64)) by assumption) (show fcl ((tc17_0)) ((x21_4)) = fcn ((tc17_0)) ((x21_4)) ((64) : Int).toNat by assumption) rfl
          as_aux_lemma =>
          intro m
          induction m using Nat.strongRecOn with
          | _ m ih42 =>
            intro ls σ F_42 A_42 x42_5 l42_0 l42_2 l42_3 l42_4 l42_5 H hS_42 hA_42   j42_0 j42_1 j42_2 j42_3 j42_4 hm42
            have j42_f : fcl ((tc17_0)) ((x21_4)) = fcn ((tc17_0)) ((x21_4)) ((x42_5) : Int).toNat := by assumption
            have kq1 := KQ_small (pz7_1) (j := (x21_4) - (x42_5)) (by omega) (by omega)
            have kq2 := KQ_small (pz7_2) (j := (x21_4) - (x42_5)) (by omega) (by omega)
            have := fun e => KX_pos (j42_2 e)
            have := fun e => KX_pos (j42_3 e)
            have cf1 := KQ_N (pz7_1) (l := (x21_4)) (by omega) (by omega)
            have cf2 := KQ_N (pz7_1) (l := (x21_4) - (x42_5)) (by omega) (by omega)
            have cf3 := KQ_F (pz7_2) (l := (x21_4)) (by omega) (by omega)
            have cf4 := KQ_F (pz7_2) (l := (x21_4) - (x42_5)) (by omega) (by omega)
            have cb1 := bN_C ((x42_5))
            have cb2 := bF_C ((x42_5))
            have cl1 := cfw_le (nr := 1) (l := (x21_4)) (f := (x42_5)) (by omega) (by omega) (by omega)
            have cl0 := cfw_le (nr := 0) (l := (x21_4)) (f := (x42_5)) (by omega) (by omega) (by omega)
            refine Ew_of (pcₚ := 43) (fun _ => x_aload_n rfl l42_0) ?_
            refine Ew_of (pcₚ := 45) (fun _ => x_iload rfl l42_4) ?_
            refine Ew_of (pcₚ := 47) (fun _ => x_iload rfl l42_5) ?_
            refine Ew_of (pcₚ := 48) (fun _ => x_iload_n rfl l42_3) ?_
            refine w_inv H (o := 4) rfl rfl rfl (H.perm 4 rfl) rfl rfl (by rfl) (M329 H (wv10) ((funext (hA_42 24 rfl)).trans ((funext (hA_21 24 rfl)).trans ((funext (hA_c17 24 rfl)).trans (ewv11)))) (wv12) ((funext (hA_42 25 rfl)).trans ((funext (hA_21 25 rfl)).trans ((funext (hA_c17 25 rfl)).trans (ewv13)))) (show inr (x21_4) from j21_0) (show inr (x42_5) from j42_0) (show inr (tc17_0) from jc17_0) (show (tc17_0) = 0 ∨ (tc17_0) = 1 by omega) (show 0 ≤ (x42_5) ∧ (x42_5) ≤ (x21_4) ∧ (x21_4) ≤ 16384 from q_903 h2 j21_2 j42_1) (show 0 ≤ (wv10) ((x21_4) - (x42_5)) ∧ (wv10) ((x21_4) - (x42_5)) ≤ 100000 by omega) (show 0 ≤ (wv12) ((x21_4) - (x42_5)) ∧ (wv12) ((x21_4) - (x42_5)) ≤ 100000 by omega) (fun z22 σ F18 A19 H hS20 hA21 pz22_0 pz22_1 => ⟨rfl, ?_⟩))
            refine Ew_of (pcₚ := 52) (fun _ => x_aload_n rfl l42_0) ?_
            refine Ew_of (pcₚ := 54) (fun _ => x_iload rfl l42_4) ?_
            refine Ew_of (pcₚ := 55) (fun _ => x_iload_n rfl l42_3) ?_
            refine w_inv H (o := 4) rfl rfl rfl (H.perm 4 rfl) rfl rfl (by rfl) (M328 H (wv10) ((funext (hA21 24 rfl)).trans ((funext (hA_42 24 rfl)).trans ((funext (hA_21 24 rfl)).trans ((funext (hA_c17 24 rfl)).trans (ewv11))))) (wv12) ((funext (hA21 25 rfl)).trans ((funext (hA_42 25 rfl)).trans ((funext (hA_21 25 rfl)).trans ((funext (hA_c17 25 rfl)).trans (ewv13))))) (show inr (x21_4) from j21_0) (show inr (tc17_0) from jc17_0) (show (tc17_0) = 0 ∨ (tc17_0) = 1 by omega) (show 0 ≤ (x21_4) ∧ (x21_4) ≤ 16384 from q_904 h2 j21_1 j21_2) (fun z27 σ F23 A24 H hS25 hA26 pz27_0 pz27_1 => ⟨rfl, ?_⟩))
            refine w_icmple (t := 67) rfl rfl (show inr (z22) from pz22_0) (show inr (z27) from pz27_0) (fun b28 => ?_) (fun b28 => ?_)
            · have hc124 : ∀ (ls : rO) (σ : rS) (F_c124 : hF) (A_c124 : hA) , rlook ls 0 = some (.ref (D 4)) → rlook ls 2 = some (I (a2)) → rlook ls 3 = some (I (tc17_0)) → rlook ls 4 = some (I (x21_4)) → rlook ls 5 = some (I (x42_5)) → HS σ0 σ D N F_c124 A_c124 → SF [(4, 2)] F23 F_c124 → SA [23] A24 A_c124 → ∀ yc124_4_2 : Int, F_c124 4 2 = yc124_4_2 → ∀ wc124_23 : Int → Int, A_c124 23 = wc124_23 → ((y21_4_2) ≤ (yc124_4_2) ∧ (yc124_4_2) ≤ (y21_4_2) + 3) → (QTO 70000 ((w23)) ((u4_2)) ((wc124_23)) ((yc124_4_2)) (tgc (ner ((a2))) ((a2)) ((a1))) (tgc (ner ((a2))) ((a2)) ((x21_4) - (x42_5)))) → Ew 331 (d + 3) 124 ls [] σ c s Q := by
               as_aux_lemma =>
                intro  ls σ F_c124 A_c124  lc124_0 lc124_2 lc124_3 lc124_4 lc124_5 H hS_c124 hA_c124 yc124_4_2 eyc124_4_2 wc124_23 ewc124_23 jc124_0 jc124_1
                have r29 : (-2147483648 : Int) ≤ yc124_4_2 ∧ yc124_4_2 ≤ 2147483647 := rngE (show (-2147483648 : Int) ≤ F_c124 4 2 ∧ F_c124 4 2 ≤ 2147483647 from H.frng 4 2) (show F_c124 4 2 = yc124_4_2 from (eyc124_4_2))
                have k124 : QTO 70000 ((w23)) ((u4_2)) ((wc124_23)) ((yc124_4_2)) (tgc (ner ((a2))) ((a2)) ((a1))) (tgc (ner ((a2))) ((a2)) ((x21_4) - (x42_5))) := jc124_1
                refine Ew_of (pcₚ := 126) (fun _ => x_iload rfl lc124_4) ?_
                refine Ew_of (pcₚ := 128) (fun _ => x_iload rfl lc124_5) ?_
                refine w_isub rfl ?_
                refine Ew_of (pcₚ := 131) (fun _ => x_istore rfl) ?_
                refine Ew_of (pcₚ := 21) (fun _ => x_goto rfl rfl) ?_
                exact ih21 _ (msE hm21 (q_908 j42_1) (q_200 b16)) _ σ _ _ ((x21_4 - x42_5)) (rk_o (lc124_0) rfl rfl) (rk_o (lc124_2) rfl rfl) (rk_o (lc124_3) rfl rfl) (rk_s) H (SF_trans (SF_trans (SF_trans (SF_trans (hS_21) hS_42 (any_sub rfl)) hS20 (any_sub rfl)) hS25 (any_sub rfl)) hS_c124 (any_sub rfl)) (SA_trans (SA_trans (SA_trans (SA_trans (hA_21) hA_42 (any_subA rfl)) hA21 (any_subA rfl)) hA26 (any_subA rfl)) hA_c124 (any_subA rfl)) (yc124_4_2) ((eyc124_4_2)) (wc124_23) (ewc124_23) (show inr ((x21_4 - x42_5)) from q_907 j21_0 j42_1) (show 0 ≤ ((x21_4 - x42_5)) ∧ ((x21_4 - x42_5)) ≤ (a1) from q_906 j21_2 j42_1) (show (u4_2) ≤ (yc124_4_2) ∧ (yc124_4_2) ≤ (u4_2) + 3 * ((a1) - ((x21_4 - x42_5))) from q_905 j21_2 j42_1 jc124_0) (k124) rfl
              have hfc : (x42_5) = fcl (ner ((a2))) ((x21_4)) := by rw [hne, j42_f]; rcases (show (tc17_0) = 1 ∨ (tc17_0) = 0 by omega) with z | z <;> rw [z] <;> exact (fcn_y (by omega) (by omega)).symm
              refine Ew_of (pcₚ := 69) (fun _ => x_iload rfl l42_5) ?_
              refine Ew_of (pcₚ := 70) (fun _ => x_iload_n rfl l42_3) ?_
              refine w_stat24 rfl rfl (by rfl) (M327 H (show inr (x42_5) from j42_0) (show inr (tc17_0) from jc17_0) (show (tc17_0) = 0 ∨ (tc17_0) = 1 by omega) (fun z34 σ F30 A31 H hS32 hA33 pz34_0 pz34_1 => ⟨rfl, ?_⟩))
              refine Ew_of (pcₚ := 74) (fun _ => x_iconst rfl) ?_
              refine w_icmpne (t := 106) rfl rfl (show inr (z34) from pz34_0) (show inr (2) from q_122) (fun b35 => ?_) (fun b35 => ?_)
              · refine Ew_of (pcₚ := 107) (fun _ => x_aload_n rfl l42_0) ?_
                refine Ew_of (pcₚ := 108) (fun _ => x_iconst rfl) ?_
                refine Ew_of (pcₚ := 109) (fun _ => x_iconst rfl) ?_
                refine Ew_of (pcₚ := 111) (fun _ => x_iload rfl l42_5) ?_
                refine Ew_of (pcₚ := 112) (fun _ => x_iconst rfl) ?_
                refine w_isub rfl ?_
                refine w_imul rfl ?_
                refine w_iadd rfl ?_
                refine w_inv H (o := 4) rfl rfl rfl (H.perm 4 rfl) rfl rfl (by rfl) (M320 H (y21_4_2) ((((((hS32 4 2 rfl).trans (hS25 4 2 rfl)).trans (hS20 4 2 rfl)).trans (hS_42 4 2 rfl)).trans (ey21_4_2))) (w21_23) ((funext (hA33 23 rfl)).trans ((funext (hA26 23 rfl)).trans ((funext (hA21 23 rfl)).trans ((funext (hA_42 23 rfl)).trans (ew21_23))))) (show inr ((2 + (4 * (x42_5 - 1)))) from q_910 j42_1) (show 0 ≤ (y21_4_2) ∧ (y21_4_2) ≤ 100000000 from q_909 b17 h2 h4 j21_2 r15) (fun σ F36 A37 H hS38 hA39 y41 ey42 wv43 ewv44 pz40_0 pz40_1 pz40_2 => ⟨rfl, ?_⟩))
                have r45 : (-2147483648 : Int) ≤ y41 ∧ y41 ≤ 2147483647 := rngE (show (-2147483648 : Int) ≤ F36 4 2 ∧ F36 4 2 ≤ 2147483647 from H.frng 4 2) (show F36 4 2 = y41 from (ey42))
                have hw2 := pz40_1
                refine Ew_of (pcₚ := 119) (fun _ => x_aload_n rfl l42_0) ?_
                refine Ew_of (pcₚ := 120) (fun _ => x_iload_n rfl l42_2) ?_
                refine Ew_of (pcₚ := 121) (fun _ => x_iconst rfl) ?_
                refine w_inv H (o := 4) rfl rfl rfl (H.perm 4 rfl) rfl rfl (by rfl) (M321 H (y41) ((ey42)) (wv43) (ewv44) (show inr (a2) from h1) (show inr (2) from q_122) (show 0 ≤ (2) ∧ (2) ≤ 4 from q_911) (show 0 ≤ (y41) ∧ (y41) ≤ 10000000 by omega) (fun σ F46 A47 H hS48 hA49 y51 ey52 wv53 ewv54 pz50_0 pz50_1 pz50_2 => ⟨rfl, ?_⟩))
                have r55 : (-2147483648 : Int) ≤ y51 ∧ y51 ≤ 2147483647 := rngE (show (-2147483648 : Int) ≤ F46 4 2 ∧ F46 4 2 ≤ 2147483647 from H.frng 4 2) (show F46 4 2 = y51 from (ey52))
                have : QTO 70000 ((w23)) ((u4_2)) ((wv53)) ((y51)) (tgc (ner ((a2))) ((a2)) ((a1))) (tgc (ner ((a2))) ((a2)) ((x21_4) - (x42_5))) := by exact QTO_s j21_q (tgc_s (by omega) hfc rfl) (by have h := QAP_trans hw2 pz50_1; rw [tgp_l (nr := ner ((a2))) (n := (x42_5)) (by omega) (by omega) rfl] at h; exact h)
                exact hc124  _ σ _ _  (l42_0) (l42_2) (l42_3) (l42_4) (l42_5) H (SF_trans (SF_trans (SF_trans (SF_refl) hS32 (any_sub rfl)) hS38 (any_sub rfl)) hS48 (any_sub rfl)) (SA_trans (SA_trans (SA_trans (SA_refl) hA33 (any_subA rfl)) hA39 (any_subA rfl)) hA49 (any_subA rfl)) (y51) ((ey52)) (wv53) (ewv54) (show (y21_4_2) ≤ (y51) ∧ (y51) ≤ (y21_4_2) + 3 from q_912 pz40_0 pz50_0) (show QTO 70000 ((w23)) ((u4_2)) ((wv53)) ((y51)) (tgc (ner ((a2))) ((a2)) ((a1))) (tgc (ner ((a2))) ((a2)) ((x21_4) - (x42_5))) by assumption)
              · refine Ew_of (pcₚ := 78) (fun _ => x_aload_n rfl l42_0) ?_
                refine Ew_of (pcₚ := 79) (fun _ => x_iconst rfl) ?_
                refine Ew_of (pcₚ := 80) (fun _ => x_iconst rfl) ?_
                refine Ew_of (pcₚ := 82) (fun _ => x_iload rfl l42_5) ?_
                refine Ew_of (pcₚ := 83) (fun _ => x_iconst rfl) ?_
                refine w_isub rfl ?_
                refine Ew_of (pcₚ := 86) (fun _ => x_bipush (z := 8) rfl (by decide)) ?_
                refine Ew_of (pcₚ := 87) (fun _ => x_iload_n rfl l42_2) ?_
                refine Ew_of (pcₚ := 90) (fun _ => x_sipush (z := 256) rfl (by decide)) ?_
                refine w_idiv rfl (show inr (a2) ∧ 0 ≤ a2 from q_913 h1 h3) (show inr (256) ∧ 0 < 256 from q_457) ?_
                refine w_imul rfl ?_
                refine w_iadd rfl ?_
                refine w_imul rfl ?_
                refine w_iadd rfl ?_
                refine w_inv H (o := 4) rfl rfl rfl (H.perm 4 rfl) rfl rfl (by rfl) (M320 H (y21_4_2) ((((((hS32 4 2 rfl).trans (hS25 4 2 rfl)).trans (hS20 4 2 rfl)).trans (hS_42 4 2 rfl)).trans (ey21_4_2))) (w21_23) ((funext (hA33 23 rfl)).trans ((funext (hA26 23 rfl)).trans ((funext (hA21 23 rfl)).trans ((funext (hA_42 23 rfl)).trans (ew21_23))))) (show inr ((1 + (4 * ((x42_5 - 4) + (8 * (a2 / 256)))))) from q_914 h3 j42_1) (show 0 ≤ (y21_4_2) ∧ (y21_4_2) ≤ 100000000 from q_909 b17 h2 h4 j21_2 r15) (fun σ F56 A57 H hS58 hA59 y61 ey62 wv63 ewv64 pz60_0 pz60_1 pz60_2 => ⟨rfl, ?_⟩))
                have r65 : (-2147483648 : Int) ≤ y61 ∧ y61 ≤ 2147483647 := rngE (show (-2147483648 : Int) ≤ F56 4 2 ∧ F56 4 2 ≤ 2147483647 from H.frng 4 2) (show F56 4 2 = y61 from (ey62))
                have hw1 := pz60_1
                refine Ew_of (pcₚ := 99) (fun _ => x_aload_n rfl l42_0) ?_
                refine Ew_of (pcₚ := 100) (fun _ => x_iload_n rfl l42_2) ?_
                refine w_inv H (o := 4) rfl rfl rfl (H.perm 4 rfl) rfl rfl (by rfl) (M320 H (y61) ((ey62)) (wv63) (ewv64) (show inr (a2) from h1) (show 0 ≤ (y61) ∧ (y61) ≤ 100000000 from q_915 b17 h2 h4 j21_2 pz60_0 r65) (fun σ F66 A67 H hS68 hA69 y71 ey72 wv73 ewv74 pz70_0 pz70_1 pz70_2 => ⟨rfl, ?_⟩))
                have r75 : (-2147483648 : Int) ≤ y71 ∧ y71 ≤ 2147483647 := rngE (show (-2147483648 : Int) ≤ F66 4 2 ∧ F66 4 2 ≤ 2147483647 from H.frng 4 2) (show F66 4 2 = y71 from (ey72))
                refine Ew_of (pcₚ := 124) (fun _ => x_goto rfl rfl) ?_
                have : QTO 70000 ((w23)) ((u4_2)) ((wv73)) ((y71)) (tgc (ner ((a2))) ((a2)) ((a1))) (tgc (ner ((a2))) ((a2)) ((x21_4) - (x42_5))) := by exact QTO_s j21_q (tgc_s (by omega) hfc rfl) (by have h := QAP_trans hw1 pz70_1; rw [tgp_s (nr := ner ((a2))) (n := (x42_5)) (by omega) (by omega) rfl] at h; exact h)
                exact hc124  _ σ _ _  (l42_0) (l42_2) (l42_3) (l42_4) (l42_5) H (SF_trans (SF_trans (SF_trans (SF_refl) hS32 (any_sub rfl)) hS58 (any_sub rfl)) hS68 (any_sub rfl)) (SA_trans (SA_trans (SA_trans (SA_refl) hA33 (any_subA rfl)) hA59 (any_subA rfl)) hA69 (any_subA rfl)) (y71) ((ey72)) (wv73) (ewv74) (show (y21_4_2) ≤ (y71) ∧ (y71) ≤ (y21_4_2) + 3 from q_916 pz60_0 pz70_0) (show QTO 70000 ((w23)) ((u4_2)) ((wv73)) ((y71)) (tgc (ner ((a2))) ((a2)) ((a1))) (tgc (ner ((a2))) ((a2)) ((x21_4) - (x42_5))) by assumption)
            · have hf61 : fcn ((tc17_0)) ((x21_4)) ((x42_5) : Int).toNat = fcn ((tc17_0)) ((x21_4)) ((x42_5) + (-1) : Int).toNat := by rcases (show (tc17_0) = 1 ∨ (tc17_0) = 0 by omega) with z | z <;> rw [z] <;> exact fcn_n (by omega) (by omega) (by omega)
              have : fcl ((tc17_0)) ((x21_4)) = fcn ((tc17_0)) ((x21_4)) ((x42_5) + (-1) : Int).toNat := j42_f.trans hf61
              refine Ew_of (pcₚ := 64) (fun _ => x_iinc (len := 3) rfl (l42_5)) ?_
              refine Ew_of (pcₚ := 42) (fun _ => x_goto rfl rfl) ?_
              have : (tc17_0) = 1 → KX bN ((wv10)) ((x21_4)) (((x42_5 + (-1)))) := fun e => KX_less (j42_2 e) (by omega) (by omega)
              have : (tc17_0) = 0 → KX bF ((wv12)) ((x21_4)) (((x42_5 + (-1)))) := fun e => KX_less (j42_3 e) (by omega) (by omega)
              have kp1 : (tc17_0) = 1 → 1 ≤ ((x42_5 + (-1))) := fun e => KX_pos (KX_less (f2 := ((x42_5 + (-1)))) (j42_2 e) (by omega) (by omega))
              have kp2 : (tc17_0) = 0 → 1 ≤ ((x42_5 + (-1))) := fun e => KX_pos (KX_less (f2 := ((x42_5 + (-1)))) (j42_3 e) (by omega) (by omega))
              exact ih42 _ (msE hm42 q_276 (q_918 j42_1)) _ σ _ _ ((x42_5 + (-1))) (rk_o (l42_0) rfl rfl) (rk_o (l42_2) rfl rfl) (rk_o (l42_3) rfl rfl) (rk_o (l42_4) rfl rfl) (rk_s) H (SF_trans (SF_trans (hS_42) hS20 (any_sub rfl)) hS25 (any_sub rfl)) (SA_trans (SA_trans (hA_42) hA21 (any_subA rfl)) hA26 (any_subA rfl))   (show inr ((x42_5 + (-1))) from q_917 j42_1) (show 1 ≤ ((x42_5 + (-1))) ∧ ((x42_5 + (-1))) ≤ 64 ∧ ((x42_5 + (-1))) ≤ (x21_4) by omega) (show (tc17_0) = 1 → KX bN ((wv10)) ((x21_4)) (((x42_5 + (-1)))) by assumption) (show (tc17_0) = 0 → KX bF ((wv12)) ((x21_4)) (((x42_5 + (-1)))) by assumption) (show fcl ((tc17_0)) ((x21_4)) = fcn ((tc17_0)) ((x21_4)) (((x42_5 + (-1))) : Int).toNat by assumption) rfl
        · refine Ew_of (pcₚ := 35) (fun _ => x_iload rfl l21_4) ?_
          refine Ew_of (pcₚ := 40) (fun _ => x_goto rfl rfl) ?_
          have : (tc17_0) = 1 → KX bN ((wv10)) ((x21_4)) ((x21_4)) := fun _ => KX_all (pz7_1) (by omega) (by omega) _ (by omega)
          have : (tc17_0) = 0 → KX bF ((wv12)) ((x21_4)) ((x21_4)) := fun _ => KX_all (pz7_2) (by omega) (by omega) _ (by omega)
          refine Ew_of (pcₚ := 42) (fun _ => x_istore rfl) ?_
          have : fcl ((tc17_0)) ((x21_4)) = fcn ((tc17_0)) ((x21_4)) ((x21_4) : Int).toNat := by unfold fcl m64; (rw [if_pos (by omega)])
          suffices hl42 : ∀ (m : Nat), ∀ (ls : rO) (σ : rS) (F_42 : hF) (A_42 : hA) (x42_5 : Int), rlook ls 0 = some (.ref (D 4)) → rlook ls 2 = some (I (a2)) → rlook ls 3 = some (I (tc17_0)) → rlook ls 4 = some (I (x21_4)) → rlook ls 5 = some (I (x42_5)) → HS σ0 σ D N F_42 A_42 → SF [] F_21 F_42 → SA [] A_21 A_42 → (inr (x42_5)) → (1 ≤ (x42_5) ∧ (x42_5) ≤ 64 ∧ (x42_5) ≤ (x21_4)) → ((tc17_0) = 1 → KX bN ((wv10)) ((x21_4)) ((x42_5))) → ((tc17_0) = 0 → KX bF ((wv12)) ((x21_4)) ((x42_5))) → (fcl ((tc17_0)) ((x21_4)) = fcn ((tc17_0)) ((x21_4)) ((x42_5) : Int).toNat) → ((x42_5)).toNat = m → Ew 331 (d + 3) 42 ls [] σ c s Q from
            hl42 _ _ σ _ _ (x21_4) (rk_o (l21_0) rfl rfl) (rk_o (l21_2) rfl rfl) (rk_o (l21_3) rfl rfl) (rk_o (l21_4) rfl rfl) (rk_s) H (SF_refl) (SA_refl)   (show inr (x21_4) from j21_0) (show 1 ≤ (x21_4) ∧ (x21_4) ≤ 64 ∧ (x21_4) ≤ (x21_4) from q_919 b16 b17) (show (tc17_0) = 1 → KX bN ((wv10)) ((x21_4)) ((x21_4)) by assumption) (show (tc17_0) = 0 → KX bF ((wv12)) ((x21_4)) ((x21_4)) by assumption) (show fcl ((tc17_0)) ((x21_4)) = fcn ((tc17_0)) ((x21_4)) ((x21_4) : Int).toNat by assumption) rfl
          as_aux_lemma =>
          intro m
          induction m using Nat.strongRecOn with
          | _ m ih42 =>
            intro ls σ F_42 A_42 x42_5 l42_0 l42_2 l42_3 l42_4 l42_5 H hS_42 hA_42   j42_0 j42_1 j42_2 j42_3 j42_4 hm42
            have j42_f : fcl ((tc17_0)) ((x21_4)) = fcn ((tc17_0)) ((x21_4)) ((x42_5) : Int).toNat := by assumption
            have kq1 := KQ_small (pz7_1) (j := (x21_4) - (x42_5)) (by omega) (by omega)
            have kq2 := KQ_small (pz7_2) (j := (x21_4) - (x42_5)) (by omega) (by omega)
            have := fun e => KX_pos (j42_2 e)
            have := fun e => KX_pos (j42_3 e)
            have cf1 := KQ_N (pz7_1) (l := (x21_4)) (by omega) (by omega)
            have cf2 := KQ_N (pz7_1) (l := (x21_4) - (x42_5)) (by omega) (by omega)
            have cf3 := KQ_F (pz7_2) (l := (x21_4)) (by omega) (by omega)
            have cf4 := KQ_F (pz7_2) (l := (x21_4) - (x42_5)) (by omega) (by omega)
            have cb1 := bN_C ((x42_5))
            have cb2 := bF_C ((x42_5))
            have cl1 := cfw_le (nr := 1) (l := (x21_4)) (f := (x42_5)) (by omega) (by omega) (by omega)
            have cl0 := cfw_le (nr := 0) (l := (x21_4)) (f := (x42_5)) (by omega) (by omega) (by omega)
            refine Ew_of (pcₚ := 43) (fun _ => x_aload_n rfl l42_0) ?_
            refine Ew_of (pcₚ := 45) (fun _ => x_iload rfl l42_4) ?_
            refine Ew_of (pcₚ := 47) (fun _ => x_iload rfl l42_5) ?_
            refine Ew_of (pcₚ := 48) (fun _ => x_iload_n rfl l42_3) ?_
            refine w_inv H (o := 4) rfl rfl rfl (H.perm 4 rfl) rfl rfl (by rfl) (M329 H (wv10) ((funext (hA_42 24 rfl)).trans ((funext (hA_21 24 rfl)).trans ((funext (hA_c17 24 rfl)).trans (ewv11)))) (wv12) ((funext (hA_42 25 rfl)).trans ((funext (hA_21 25 rfl)).trans ((funext (hA_c17 25 rfl)).trans (ewv13)))) (show inr (x21_4) from j21_0) (show inr (x42_5) from j42_0) (show inr (tc17_0) from jc17_0) (show (tc17_0) = 0 ∨ (tc17_0) = 1 by omega) (show 0 ≤ (x42_5) ∧ (x42_5) ≤ (x21_4) ∧ (x21_4) ≤ 16384 from q_920 b17 j42_1) (show 0 ≤ (wv10) ((x21_4) - (x42_5)) ∧ (wv10) ((x21_4) - (x42_5)) ≤ 100000 by omega) (show 0 ≤ (wv12) ((x21_4) - (x42_5)) ∧ (wv12) ((x21_4) - (x42_5)) ≤ 100000 by omega) (fun z80 σ F76 A77 H hS78 hA79 pz80_0 pz80_1 => ⟨rfl, ?_⟩))
            refine Ew_of (pcₚ := 52) (fun _ => x_aload_n rfl l42_0) ?_
            refine Ew_of (pcₚ := 54) (fun _ => x_iload rfl l42_4) ?_
            refine Ew_of (pcₚ := 55) (fun _ => x_iload_n rfl l42_3) ?_
            refine w_inv H (o := 4) rfl rfl rfl (H.perm 4 rfl) rfl rfl (by rfl) (M328 H (wv10) ((funext (hA79 24 rfl)).trans ((funext (hA_42 24 rfl)).trans ((funext (hA_21 24 rfl)).trans ((funext (hA_c17 24 rfl)).trans (ewv11))))) (wv12) ((funext (hA79 25 rfl)).trans ((funext (hA_42 25 rfl)).trans ((funext (hA_21 25 rfl)).trans ((funext (hA_c17 25 rfl)).trans (ewv13))))) (show inr (x21_4) from j21_0) (show inr (tc17_0) from jc17_0) (show (tc17_0) = 0 ∨ (tc17_0) = 1 by omega) (show 0 ≤ (x21_4) ∧ (x21_4) ≤ 16384 from q_921 b17 j21_1) (fun z85 σ F81 A82 H hS83 hA84 pz85_0 pz85_1 => ⟨rfl, ?_⟩))
            refine w_icmple (t := 67) rfl rfl (show inr (z80) from pz80_0) (show inr (z85) from pz85_0) (fun b86 => ?_) (fun b86 => ?_)
            · have hc124 : ∀ (ls : rO) (σ : rS) (F_c124 : hF) (A_c124 : hA) , rlook ls 0 = some (.ref (D 4)) → rlook ls 2 = some (I (a2)) → rlook ls 3 = some (I (tc17_0)) → rlook ls 4 = some (I (x21_4)) → rlook ls 5 = some (I (x42_5)) → HS σ0 σ D N F_c124 A_c124 → SF [(4, 2)] F81 F_c124 → SA [23] A82 A_c124 → ∀ yc124_4_2 : Int, F_c124 4 2 = yc124_4_2 → ∀ wc124_23 : Int → Int, A_c124 23 = wc124_23 → ((y21_4_2) ≤ (yc124_4_2) ∧ (yc124_4_2) ≤ (y21_4_2) + 3) → (QTO 70000 ((w23)) ((u4_2)) ((wc124_23)) ((yc124_4_2)) (tgc (ner ((a2))) ((a2)) ((a1))) (tgc (ner ((a2))) ((a2)) ((x21_4) - (x42_5)))) → Ew 331 (d + 3) 124 ls [] σ c s Q := by
               as_aux_lemma =>
                intro  ls σ F_c124 A_c124  lc124_0 lc124_2 lc124_3 lc124_4 lc124_5 H hS_c124 hA_c124 yc124_4_2 eyc124_4_2 wc124_23 ewc124_23 jc124_0 jc124_1
                have r87 : (-2147483648 : Int) ≤ yc124_4_2 ∧ yc124_4_2 ≤ 2147483647 := rngE (show (-2147483648 : Int) ≤ F_c124 4 2 ∧ F_c124 4 2 ≤ 2147483647 from H.frng 4 2) (show F_c124 4 2 = yc124_4_2 from (eyc124_4_2))
                have k124 : QTO 70000 ((w23)) ((u4_2)) ((wc124_23)) ((yc124_4_2)) (tgc (ner ((a2))) ((a2)) ((a1))) (tgc (ner ((a2))) ((a2)) ((x21_4) - (x42_5))) := jc124_1
                refine Ew_of (pcₚ := 126) (fun _ => x_iload rfl lc124_4) ?_
                refine Ew_of (pcₚ := 128) (fun _ => x_iload rfl lc124_5) ?_
                refine w_isub rfl ?_
                refine Ew_of (pcₚ := 131) (fun _ => x_istore rfl) ?_
                refine Ew_of (pcₚ := 21) (fun _ => x_goto rfl rfl) ?_
                exact ih21 _ (msE hm21 (q_908 j42_1) (q_200 b16)) _ σ _ _ ((x21_4 - x42_5)) (rk_o (lc124_0) rfl rfl) (rk_o (lc124_2) rfl rfl) (rk_o (lc124_3) rfl rfl) (rk_s) H (SF_trans (SF_trans (SF_trans (SF_trans (hS_21) hS_42 (any_sub rfl)) hS78 (any_sub rfl)) hS83 (any_sub rfl)) hS_c124 (any_sub rfl)) (SA_trans (SA_trans (SA_trans (SA_trans (hA_21) hA_42 (any_subA rfl)) hA79 (any_subA rfl)) hA84 (any_subA rfl)) hA_c124 (any_subA rfl)) (yc124_4_2) ((eyc124_4_2)) (wc124_23) (ewc124_23) (show inr ((x21_4 - x42_5)) from q_922 b17 j42_1) (show 0 ≤ ((x21_4 - x42_5)) ∧ ((x21_4 - x42_5)) ≤ (a1) from q_906 j21_2 j42_1) (show (u4_2) ≤ (yc124_4_2) ∧ (yc124_4_2) ≤ (u4_2) + 3 * ((a1) - ((x21_4 - x42_5))) from q_905 j21_2 j42_1 jc124_0) (k124) rfl
              have hfc : (x42_5) = fcl (ner ((a2))) ((x21_4)) := by rw [hne, j42_f]; rcases (show (tc17_0) = 1 ∨ (tc17_0) = 0 by omega) with z | z <;> rw [z] <;> exact (fcn_y (by omega) (by omega)).symm
              refine Ew_of (pcₚ := 69) (fun _ => x_iload rfl l42_5) ?_
              refine Ew_of (pcₚ := 70) (fun _ => x_iload_n rfl l42_3) ?_
              refine w_stat24 rfl rfl (by rfl) (M327 H (show inr (x42_5) from j42_0) (show inr (tc17_0) from jc17_0) (show (tc17_0) = 0 ∨ (tc17_0) = 1 by omega) (fun z92 σ F88 A89 H hS90 hA91 pz92_0 pz92_1 => ⟨rfl, ?_⟩))
              refine Ew_of (pcₚ := 74) (fun _ => x_iconst rfl) ?_
              refine w_icmpne (t := 106) rfl rfl (show inr (z92) from pz92_0) (show inr (2) from q_122) (fun b93 => ?_) (fun b93 => ?_)
              · refine Ew_of (pcₚ := 107) (fun _ => x_aload_n rfl l42_0) ?_
                refine Ew_of (pcₚ := 108) (fun _ => x_iconst rfl) ?_
                refine Ew_of (pcₚ := 109) (fun _ => x_iconst rfl) ?_
                refine Ew_of (pcₚ := 111) (fun _ => x_iload rfl l42_5) ?_
                refine Ew_of (pcₚ := 112) (fun _ => x_iconst rfl) ?_
                refine w_isub rfl ?_
                refine w_imul rfl ?_
                refine w_iadd rfl ?_
                refine w_inv H (o := 4) rfl rfl rfl (H.perm 4 rfl) rfl rfl (by rfl) (M320 H (y21_4_2) ((((((hS90 4 2 rfl).trans (hS83 4 2 rfl)).trans (hS78 4 2 rfl)).trans (hS_42 4 2 rfl)).trans (ey21_4_2))) (w21_23) ((funext (hA91 23 rfl)).trans ((funext (hA84 23 rfl)).trans ((funext (hA79 23 rfl)).trans ((funext (hA_42 23 rfl)).trans (ew21_23))))) (show inr ((2 + (4 * (x42_5 - 1)))) from q_910 j42_1) (show 0 ≤ (y21_4_2) ∧ (y21_4_2) ≤ 100000000 from q_923 b16 h2 h4 j21_2 r15) (fun σ F94 A95 H hS96 hA97 y99 ey100 wv101 ewv102 pz98_0 pz98_1 pz98_2 => ⟨rfl, ?_⟩))
                have r103 : (-2147483648 : Int) ≤ y99 ∧ y99 ≤ 2147483647 := rngE (show (-2147483648 : Int) ≤ F94 4 2 ∧ F94 4 2 ≤ 2147483647 from H.frng 4 2) (show F94 4 2 = y99 from (ey100))
                have hw2 := pz98_1
                refine Ew_of (pcₚ := 119) (fun _ => x_aload_n rfl l42_0) ?_
                refine Ew_of (pcₚ := 120) (fun _ => x_iload_n rfl l42_2) ?_
                refine Ew_of (pcₚ := 121) (fun _ => x_iconst rfl) ?_
                refine w_inv H (o := 4) rfl rfl rfl (H.perm 4 rfl) rfl rfl (by rfl) (M321 H (y99) ((ey100)) (wv101) (ewv102) (show inr (a2) from h1) (show inr (2) from q_122) (show 0 ≤ (2) ∧ (2) ≤ 4 from q_911) (show 0 ≤ (y99) ∧ (y99) ≤ 10000000 by omega) (fun σ F104 A105 H hS106 hA107 y109 ey110 wv111 ewv112 pz108_0 pz108_1 pz108_2 => ⟨rfl, ?_⟩))
                have r113 : (-2147483648 : Int) ≤ y109 ∧ y109 ≤ 2147483647 := rngE (show (-2147483648 : Int) ≤ F104 4 2 ∧ F104 4 2 ≤ 2147483647 from H.frng 4 2) (show F104 4 2 = y109 from (ey110))
                have : QTO 70000 ((w23)) ((u4_2)) ((wv111)) ((y109)) (tgc (ner ((a2))) ((a2)) ((a1))) (tgc (ner ((a2))) ((a2)) ((x21_4) - (x42_5))) := by exact QTO_s j21_q (tgc_s (by omega) hfc rfl) (by have h := QAP_trans hw2 pz108_1; rw [tgp_l (nr := ner ((a2))) (n := (x42_5)) (by omega) (by omega) rfl] at h; exact h)
                exact hc124  _ σ _ _  (l42_0) (l42_2) (l42_3) (l42_4) (l42_5) H (SF_trans (SF_trans (SF_trans (SF_refl) hS90 (any_sub rfl)) hS96 (any_sub rfl)) hS106 (any_sub rfl)) (SA_trans (SA_trans (SA_trans (SA_refl) hA91 (any_subA rfl)) hA97 (any_subA rfl)) hA107 (any_subA rfl)) (y109) ((ey110)) (wv111) (ewv112) (show (y21_4_2) ≤ (y109) ∧ (y109) ≤ (y21_4_2) + 3 from q_924 pz108_0 pz98_0) (show QTO 70000 ((w23)) ((u4_2)) ((wv111)) ((y109)) (tgc (ner ((a2))) ((a2)) ((a1))) (tgc (ner ((a2))) ((a2)) ((x21_4) - (x42_5))) by assumption)
              · refine Ew_of (pcₚ := 78) (fun _ => x_aload_n rfl l42_0) ?_
                refine Ew_of (pcₚ := 79) (fun _ => x_iconst rfl) ?_
                refine Ew_of (pcₚ := 80) (fun _ => x_iconst rfl) ?_
                refine Ew_of (pcₚ := 82) (fun _ => x_iload rfl l42_5) ?_
                refine Ew_of (pcₚ := 83) (fun _ => x_iconst rfl) ?_
                refine w_isub rfl ?_
                refine Ew_of (pcₚ := 86) (fun _ => x_bipush (z := 8) rfl (by decide)) ?_
                refine Ew_of (pcₚ := 87) (fun _ => x_iload_n rfl l42_2) ?_
                refine Ew_of (pcₚ := 90) (fun _ => x_sipush (z := 256) rfl (by decide)) ?_
                refine w_idiv rfl (show inr (a2) ∧ 0 ≤ a2 from q_913 h1 h3) (show inr (256) ∧ 0 < 256 from q_457) ?_
                refine w_imul rfl ?_
                refine w_iadd rfl ?_
                refine w_imul rfl ?_
                refine w_iadd rfl ?_
                refine w_inv H (o := 4) rfl rfl rfl (H.perm 4 rfl) rfl rfl (by rfl) (M320 H (y21_4_2) ((((((hS90 4 2 rfl).trans (hS83 4 2 rfl)).trans (hS78 4 2 rfl)).trans (hS_42 4 2 rfl)).trans (ey21_4_2))) (w21_23) ((funext (hA91 23 rfl)).trans ((funext (hA84 23 rfl)).trans ((funext (hA79 23 rfl)).trans ((funext (hA_42 23 rfl)).trans (ew21_23))))) (show inr ((1 + (4 * ((x42_5 - 4) + (8 * (a2 / 256)))))) from q_914 h3 j42_1) (show 0 ≤ (y21_4_2) ∧ (y21_4_2) ≤ 100000000 from q_923 b16 h2 h4 j21_2 r15) (fun σ F114 A115 H hS116 hA117 y119 ey120 wv121 ewv122 pz118_0 pz118_1 pz118_2 => ⟨rfl, ?_⟩))
                have r123 : (-2147483648 : Int) ≤ y119 ∧ y119 ≤ 2147483647 := rngE (show (-2147483648 : Int) ≤ F114 4 2 ∧ F114 4 2 ≤ 2147483647 from H.frng 4 2) (show F114 4 2 = y119 from (ey120))
                have hw1 := pz118_1
                refine Ew_of (pcₚ := 99) (fun _ => x_aload_n rfl l42_0) ?_
                refine Ew_of (pcₚ := 100) (fun _ => x_iload_n rfl l42_2) ?_
                refine w_inv H (o := 4) rfl rfl rfl (H.perm 4 rfl) rfl rfl (by rfl) (M320 H (y119) ((ey120)) (wv121) (ewv122) (show inr (a2) from h1) (show 0 ≤ (y119) ∧ (y119) ≤ 100000000 from q_925 b16 h2 h4 j21_2 pz118_0 r123) (fun σ F124 A125 H hS126 hA127 y129 ey130 wv131 ewv132 pz128_0 pz128_1 pz128_2 => ⟨rfl, ?_⟩))
                have r133 : (-2147483648 : Int) ≤ y129 ∧ y129 ≤ 2147483647 := rngE (show (-2147483648 : Int) ≤ F124 4 2 ∧ F124 4 2 ≤ 2147483647 from H.frng 4 2) (show F124 4 2 = y129 from (ey130))
                refine Ew_of (pcₚ := 124) (fun _ => x_goto rfl rfl) ?_
                have : QTO 70000 ((w23)) ((u4_2)) ((wv131)) ((y129)) (tgc (ner ((a2))) ((a2)) ((a1))) (tgc (ner ((a2))) ((a2)) ((x21_4) - (x42_5))) := by exact QTO_s j21_q (tgc_s (by omega) hfc rfl) (by have h := QAP_trans hw1 pz128_1; rw [tgp_s (nr := ner ((a2))) (n := (x42_5)) (by omega) (by omega) rfl] at h; exact h)
                exact hc124  _ σ _ _  (l42_0) (l42_2) (l42_3) (l42_4) (l42_5) H (SF_trans (SF_trans (SF_trans (SF_refl) hS90 (any_sub rfl)) hS116 (any_sub rfl)) hS126 (any_sub rfl)) (SA_trans (SA_trans (SA_trans (SA_refl) hA91 (any_subA rfl)) hA117 (any_subA rfl)) hA127 (any_subA rfl)) (y129) ((ey130)) (wv131) (ewv132) (show (y21_4_2) ≤ (y129) ∧ (y129) ≤ (y21_4_2) + 3 from q_916 pz118_0 pz128_0) (show QTO 70000 ((w23)) ((u4_2)) ((wv131)) ((y129)) (tgc (ner ((a2))) ((a2)) ((a1))) (tgc (ner ((a2))) ((a2)) ((x21_4) - (x42_5))) by assumption)
            · have hf61 : fcn ((tc17_0)) ((x21_4)) ((x42_5) : Int).toNat = fcn ((tc17_0)) ((x21_4)) ((x42_5) + (-1) : Int).toNat := by rcases (show (tc17_0) = 1 ∨ (tc17_0) = 0 by omega) with z | z <;> rw [z] <;> exact fcn_n (by omega) (by omega) (by omega)
              have : fcl ((tc17_0)) ((x21_4)) = fcn ((tc17_0)) ((x21_4)) ((x42_5) + (-1) : Int).toNat := j42_f.trans hf61
              refine Ew_of (pcₚ := 64) (fun _ => x_iinc (len := 3) rfl (l42_5)) ?_
              refine Ew_of (pcₚ := 42) (fun _ => x_goto rfl rfl) ?_
              have : (tc17_0) = 1 → KX bN ((wv10)) ((x21_4)) (((x42_5 + (-1)))) := fun e => KX_less (j42_2 e) (by omega) (by omega)
              have : (tc17_0) = 0 → KX bF ((wv12)) ((x21_4)) (((x42_5 + (-1)))) := fun e => KX_less (j42_3 e) (by omega) (by omega)
              have kp1 : (tc17_0) = 1 → 1 ≤ ((x42_5 + (-1))) := fun e => KX_pos (KX_less (f2 := ((x42_5 + (-1)))) (j42_2 e) (by omega) (by omega))
              have kp2 : (tc17_0) = 0 → 1 ≤ ((x42_5 + (-1))) := fun e => KX_pos (KX_less (f2 := ((x42_5 + (-1)))) (j42_3 e) (by omega) (by omega))
              exact ih42 _ (msE hm42 q_276 (q_918 j42_1)) _ σ _ _ ((x42_5 + (-1))) (rk_o (l42_0) rfl rfl) (rk_o (l42_2) rfl rfl) (rk_o (l42_3) rfl rfl) (rk_o (l42_4) rfl rfl) (rk_s) H (SF_trans (SF_trans (hS_42) hS78 (any_sub rfl)) hS83 (any_sub rfl)) (SA_trans (SA_trans (hA_42) hA79 (any_subA rfl)) hA84 (any_subA rfl))   (show inr ((x42_5 + (-1))) from q_917 j42_1) (show 1 ≤ ((x42_5 + (-1))) ∧ ((x42_5 + (-1))) ≤ 64 ∧ ((x42_5 + (-1))) ≤ (x21_4) by omega) (show (tc17_0) = 1 → KX bN ((wv10)) ((x21_4)) (((x42_5 + (-1)))) by assumption) (show (tc17_0) = 0 → KX bF ((wv12)) ((x21_4)) (((x42_5 + (-1)))) by assumption) (show fcl ((tc17_0)) ((x21_4)) = fcn ((tc17_0)) ((x21_4)) (((x42_5 + (-1))) : Int).toNat by assumption) rfl
  refine Ew_of (pcₚ := 6) (fun _ => x_iload_n rfl rfl) ?_
  refine Ew_of (pcₚ := 9) (fun _ => x_sipush (z := 2048) rfl (by decide)) ?_
  refine w_icmpge (t := 16) rfl rfl (show inr (a2) from h1) (show inr (2048) from q_926) (fun b134 => ?_) (fun b134 => ?_)
  · refine Ew_of (pcₚ := 17) (fun _ => x_iconst rfl) ?_
    exact hc17 (0) _ σ _ _  (rfl) (rfl) (rfl) H (SF_refl) (SA_refl)   (show inr (0) from q_2) (show (0) = 1 ∧ (a2) < 2048 ∨ (0) = 0 ∧ 2048 ≤ (a2) from q_927 b134)
  · refine Ew_of (pcₚ := 13) (fun _ => x_iconst rfl) ?_
    refine Ew_of (pcₚ := 17) (fun _ => x_goto rfl rfl) ?_
    exact hc17 (1) _ σ _ _  (rfl) (rfl) (rfl) H (SF_refl) (SA_refl)   (show inr (1) from q_135) (show (1) = 1 ∧ (a2) < 2048 ∨ (1) = 0 ∧ 2048 ≤ (a2) from q_928 b134)

