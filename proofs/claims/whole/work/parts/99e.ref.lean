/-- Writer.take -/
theorem M388_5p {σ0 σ : rS} {D N : Nat → Nat} {F : hF} {A : hA} {d c s : Nat} {Q : wQ} (H : HS σ0 σ D N F A)  (u5_2 : Int) (eu5_2 : F 5 2 = u5_2) (u5_3 : Int) (eu5_3 : F 5 3 = u5_3) (u5_4 : Int) (eu5_4 : F 5 4 = u5_4) (w26 : Int → Int) (ew26 : A 26 = w26) (w27 : Int → Int) (ew27 : A 27 = w27) (w28 : Int → Int) (ew28 : A 28 = w28) (w29 : Int → Int) (ew29 : A 29 = w29) (w30 : Int → Int) (ew30 : A 30 = w30) (h0 : DI ((u5_4)) ((w27)) ((w28)) ((w29)) ((w30))) (k : ∀ σ F' A', HS σ0 σ D N F' A' → SF [(6, 4), (6, 5), (6, 6)] F F' → SA [48, 49, 50, 51, 52] A A' → ∀ y6_4 : Int, F' 6 4 = y6_4 → ∀ y6_5 : Int, F' 6 5 = y6_5 → ∀ y6_6 : Int, F' 6 6 = y6_6 → ∀ v48 : Int → Int, A' 48 = v48 → ∀ v49 : Int → Int, A' 49 = v49 → ∀ v50 : Int → Int, A' 50 = v50 → ∀ v51 : Int → Int, A' 51 = v51 → ∀ v52 : Int → Int, A' 52 = v52 → (DW ((y6_6)) ((v49)) ((v50)) ((v51))) → ((y6_4) = (u5_2)) → (WEQ ((y6_6)) ((y6_5)) ((y6_4)) ((v48)) ((v49)) ((v50)) ((v51)) ((v52)) ((u5_4)) ((u5_3)) ((u5_2)) ((w26)) ((w27)) ((w28)) ((w29)) ((w30))) → Q none σ c s) : Ew 388 (d + 0) 0 (rargs 0 [.ref (D 6), .ref (D 5)]) [] σ c s Q := by
  have r1 : (0 : Int) ≤ u5_2 ∧ u5_2 ≤ 65536 := by have h1 : (0 : Int) ≤ F 5 2 ∧ F 5 2 ≤ 65536 := H.frng 5 2; rw [show F 5 2 = u5_2 from (eu5_2)] at h1; exact h1
  have r2 : (-2147483648 : Int) ≤ u5_3 ∧ u5_3 ≤ 2147483647 := by have h1 : (-2147483648 : Int) ≤ F 5 3 ∧ F 5 3 ≤ 2147483647 := H.frng 5 3; rw [show F 5 3 = u5_3 from (eu5_3)] at h1; exact h1
  have r3 : (0 : Int) ≤ u5_4 ∧ u5_4 ≤ 1 := by have h1 : (0 : Int) ≤ F 5 4 ∧ F 5 4 ≤ 1 := H.frng 5 4; rw [show F 5 4 = u5_4 from (eu5_4)] at h1; exact h1
  refine Ew_of (pc' := 1) (fun _ => x_aload_n rfl rfl) ?_
  refine Ew_of (pc' := 2) (fun _ => x_aload_n rfl rfl) ?_
  refine w_gI H (o := 5) (w := u5_2) rfl (H.perm 5 rfl) rfl rfl rfl (fun _ => rfl) (eu5_2) ?_
  refine w_pI H (o := 6) rfl rfl (H.perm 6 rfl) rfl rfl rfl (fun _ => rfl) rfl (show (0 : Int) ≤ u5_2 ∧ u5_2 ≤ 65536 by omega) (fun σ H => ?_)
  refine Ew_of (pc' := 9) (fun _ => x_aload_n rfl rfl) ?_
  refine Ew_of (pc' := 10) (fun _ => x_aload_n rfl rfl) ?_
  refine w_gI H (o := 5) (w := u5_3) rfl (H.perm 5 rfl) rfl rfl rfl (fun _ => rfl) (eu5_3) ?_
  refine w_pI H (o := 6) rfl rfl (H.perm 6 rfl) rfl rfl rfl (fun _ => rfl) rfl (show (-2147483648 : Int) ≤ u5_3 ∧ u5_3 ≤ 2147483647 by omega) (fun σ H => ?_)
  refine Ew_of (pc' := 17) (fun _ => x_aload_n rfl rfl) ?_
  refine Ew_of (pc' := 18) (fun _ => x_aload_n rfl rfl) ?_
  refine w_gI H (o := 5) (w := u5_4) rfl (H.perm 5 rfl) rfl rfl rfl (fun _ => rfl) (eu5_4) ?_
  refine w_pI H (o := 6) rfl rfl (H.perm 6 rfl) rfl rfl rfl (fun _ => rfl) (rfit_b (by omega)) (show (0 : Int) ≤ u5_4 ∧ u5_4 ≤ 1 by omega) (fun σ H => ?_)
  refine Ew_of (pc' := 25) (fun _ => x_iconst rfl) ?_
  refine Ew_of (pc' := 26) (fun _ => x_istore_n rfl) ?_
  have : ∀ i, 0 ≤ i → i < 0 → ((A 48)) i = ((w26)) i := fun i a b => absurd b (by omega)
  suffices hl26 : ∀ (m : Nat), ∀ (ls : rO) (σ : rS) (F_26 : hF) (A_26 : hA) (x26_2 : Int), rlook ls 0 = some (.ref (D 6)) → rlook ls 1 = some (.ref (D 5)) → rlook ls 2 = some (I (x26_2)) → HS σ0 σ D N F_26 A_26 → SF [] (updF (updF (updF F 6 4 (u5_2)) 6 5 (u5_3)) 6 6 (u5_4)) F_26 → SA [48] A A_26 → ∀ w26_48 : Int → Int, A_26 48 = w26_48 → (inr (x26_2)) → ((0) ≤ (x26_2)) → ((x26_2) ≤ (0) ∨ (x26_2) ≤ ((u5_2))) → (∀ i, 0 ≤ i → i < (x26_2) → ((w26_48)) i = ((w26)) i) → (((u5_2)) - (x26_2)).toNat = m → Ew 388 (d + 0) 26 ls [] σ c s Q from
    hl26 _ _ σ _ _ (0) (rk_o (rfl) rfl rfl) (rk_o (rfl) rfl rfl) (rk_s) H (SF_refl) (SA_refl)  (A 48) (rfl) (show inr (0) by omega) (show (0) ≤ (0) by omega) (show (0) ≤ (0) ∨ (0) ≤ ((u5_2)) by omega) (show ∀ i, 0 ≤ i → i < (0) → ((A 48)) i = ((w26)) i by assumption) rfl
  as_aux_lemma =>
  intro m
  induction m using Nat.strongRecOn with
  | _ m ih26 =>
    intro ls σ F_26 A_26 x26_2 l26_0 l26_1 l26_2 H hS_26 hA_26  w26_48 ew26_48 j26_0 j26_1 j26_2 j26_3 hm26
    have j26_d : ∀ i, 0 ≤ i → i < (x26_2) → ((w26_48)) i = ((w26)) i := by assumption
    refine Ew_of (pc' := 27) (fun _ => x_iload_n rfl l26_2) ?_
    refine Ew_of (pc' := 28) (fun _ => x_aload_n rfl l26_0) ?_
    refine w_gI H (o := 6) (w := u5_2) rfl (H.perm 6 rfl) rfl rfl rfl (fun _ => rfl) (hS_26 6 4 rfl) ?_
    refine w_icmpge (t := 52) rfl rfl (show inr (x26_2) by omega) (show inr (u5_2) by omega) (fun b4 => ?_) (fun b4 => ?_)
    · have k26 : ∀ i, 0 ≤ i → i < (u5_2) → ((w26_48)) i = ((w26)) i := fun i a b => j26_d i a (by omega)
      refine Ew_of (pc' := 53) (fun _ => x_iconst rfl) ?_
      refine Ew_of (pc' := 54) (fun _ => x_istore_n rfl) ?_
      have : ∀ i, (0 : Int) ≤ i → i < 0 → ((A 49)) i = ((w27)) i := fun i a b => absurd b (by omega)
      suffices hl54 : ∀ (m : Nat), ∀ (ls : rO) (σ : rS) (F_54 : hF) (A_54 : hA) (x54_2 : Int), rlook ls 0 = some (.ref (D 6)) → rlook ls 1 = some (.ref (D 5)) → rlook ls 2 = some (I (x54_2)) → HS σ0 σ D N F_54 A_54 → SF [] F_26 F_54 → SA [49] A_26 A_54 → ∀ w54_49 : Int → Int, A_54 49 = w54_49 → (inr (x54_2)) → ((0) ≤ (x54_2)) → ((x54_2) ≤ (0) ∨ (x54_2) ≤ ((256))) → (∀ i, 0 ≤ i → i < (x54_2) → ((w54_49)) i = ((w27)) i) → (((256)) - (x54_2)).toNat = m → Ew 388 (d + 0) 54 ls [] σ c s Q from
        hl54 _ _ σ _ _ (0) (rk_o (l26_0) rfl rfl) (rk_o (l26_1) rfl rfl) (rk_s) H (SF_refl) (SA_refl)  (A 49) (funext (hA_26 49 rfl)) (show inr (0) by omega) (show (0) ≤ (0) by omega) (show (0) ≤ (0) ∨ (0) ≤ ((256)) by omega) (show ∀ i, 0 ≤ i → i < (0) → ((A 49)) i = ((w27)) i by assumption) rfl
      as_aux_lemma =>
      intro m
      induction m using Nat.strongRecOn with
      | _ m ih54 =>
        intro ls σ F_54 A_54 x54_2 l54_0 l54_1 l54_2 H hS_54 hA_54  w54_49 ew54_49 j54_0 j54_1 j54_2 j54_3 hm54
        refine Ew_of (pc' := 55) (fun _ => x_iload_n rfl l54_2) ?_
        refine Ew_of (pc' := 58) (fun _ => x_sipush (z := 256) rfl (by decide)) ?_
        refine w_icmpge (t := 79) rfl rfl (show inr (x54_2) by omega) (show inr (256) by omega) (fun b5 => ?_) (fun b5 => ?_)
        · have k54 : ∀ i, 0 ≤ i → i < 256 → ((w54_49)) i = ((w27)) i := fun i a b => j54_3 i a (by omega)
          refine Ew_of (pc' := 80) (fun _ => x_iconst rfl) ?_
          refine Ew_of (pc' := 81) (fun _ => x_istore_n rfl) ?_
          have : ∀ i, (0 : Int) ≤ i → i < 0 → ((A 50)) i = ((w28)) i := fun i a b => absurd b (by omega)
          suffices hl81 : ∀ (m : Nat), ∀ (ls : rO) (σ : rS) (F_81 : hF) (A_81 : hA) (x81_2 : Int), rlook ls 0 = some (.ref (D 6)) → rlook ls 1 = some (.ref (D 5)) → rlook ls 2 = some (I (x81_2)) → HS σ0 σ D N F_81 A_81 → SF [] F_54 F_81 → SA [50] A_54 A_81 → ∀ w81_50 : Int → Int, A_81 50 = w81_50 → (inr (x81_2)) → ((0) ≤ (x81_2)) → ((x81_2) ≤ (0) ∨ (x81_2) ≤ ((192))) → (∀ i, 0 ≤ i → i < (x81_2) → ((w81_50)) i = ((w28)) i) → (((192)) - (x81_2)).toNat = m → Ew 388 (d + 0) 81 ls [] σ c s Q from
            hl81 _ _ σ _ _ (0) (rk_o (l54_0) rfl rfl) (rk_o (l54_1) rfl rfl) (rk_s) H (SF_refl) (SA_refl)  (A 50) ((funext (hA_54 50 rfl)).trans (funext (hA_26 50 rfl))) (show inr (0) by omega) (show (0) ≤ (0) by omega) (show (0) ≤ (0) ∨ (0) ≤ ((192)) by omega) (show ∀ i, 0 ≤ i → i < (0) → ((A 50)) i = ((w28)) i by assumption) rfl
          as_aux_lemma =>
          intro m
          induction m using Nat.strongRecOn with
          | _ m ih81 =>
            intro ls σ F_81 A_81 x81_2 l81_0 l81_1 l81_2 H hS_81 hA_81  w81_50 ew81_50 j81_0 j81_1 j81_2 j81_3 hm81
            refine Ew_of (pc' := 82) (fun _ => x_iload_n rfl l81_2) ?_
            refine Ew_of (pc' := 85) (fun _ => x_sipush (z := 192) rfl (by decide)) ?_
            refine w_icmpge (t := 106) rfl rfl (show inr (x81_2) by omega) (show inr (192) by omega) (fun b6 => ?_) (fun b6 => ?_)
            · have k81 : ∀ i, 0 ≤ i → i < 192 → ((w81_50)) i = ((w28)) i := fun i a b => j81_3 i a (by omega)
              refine Ew_of (pc' := 107) (fun _ => x_iconst rfl) ?_
              refine Ew_of (pc' := 108) (fun _ => x_istore_n rfl) ?_
              have : ∀ i, (0 : Int) ≤ i → i < 0 → ((A 51)) i = ((w29)) i := fun i a b => absurd b (by omega)
              have : ∀ i, 0 ≤ i → i < 0 → ((A 52)) i = w32 (((w30)) i) := fun i a b => absurd b (by omega)
              suffices hl108 : ∀ (m : Nat), ∀ (ls : rO) (σ : rS) (F_108 : hF) (A_108 : hA) (x108_2 : Int), rlook ls 0 = some (.ref (D 6)) → rlook ls 1 = some (.ref (D 5)) → rlook ls 2 = some (I (x108_2)) → HS σ0 σ D N F_108 A_108 → SF [] F_81 F_108 → SA [51, 52] A_81 A_108 → ∀ w108_51 : Int → Int, A_108 51 = w108_51 → ∀ w108_52 : Int → Int, A_108 52 = w108_52 → (inr (x108_2)) → ((0) ≤ (x108_2)) → ((x108_2) ≤ (0) ∨ (x108_2) ≤ (3)) → (∀ i, 0 ≤ i → i < (x108_2) → ((w108_51)) i = ((w29)) i) → (∀ i, 0 ≤ i → i < (x108_2) → ((w108_52)) i = w32 (((w30)) i)) → ((3) - (x108_2)).toNat = m → Ew 388 (d + 0) 108 ls [] σ c s Q from
                hl108 _ _ σ _ _ (0) (rk_o (l81_0) rfl rfl) (rk_o (l81_1) rfl rfl) (rk_s) H (SF_refl) (SA_refl)  (A 51) ((funext (hA_81 51 rfl)).trans ((funext (hA_54 51 rfl)).trans (funext (hA_26 51 rfl)))) (A 52) ((funext (hA_81 52 rfl)).trans ((funext (hA_54 52 rfl)).trans (funext (hA_26 52 rfl)))) (show inr (0) by omega) (show (0) ≤ (0) by omega) (show (0) ≤ (0) ∨ (0) ≤ (3) by omega) (show ∀ i, 0 ≤ i → i < (0) → ((A 51)) i = ((w29)) i by assumption) (show ∀ i, 0 ≤ i → i < (0) → ((A 52)) i = w32 (((w30)) i) by assumption) rfl
              as_aux_lemma =>
              intro m
              induction m using Nat.strongRecOn with
              | _ m ih108 =>
                intro ls σ F_108 A_108 x108_2 l108_0 l108_1 l108_2 H hS_108 hA_108  w108_51 ew108_51 w108_52 ew108_52 j108_0 j108_1 j108_2 j108_3 j108_4 hm108
                have j108_l : ∀ i, 0 ≤ i → i < (x108_2) → ((w108_52)) i = w32 (((w30)) i) := by assumption
                refine Ew_of (pc' := 109) (fun _ => x_iload_n rfl l108_2) ?_
                refine Ew_of (pc' := 110) (fun _ => x_iconst rfl) ?_
                refine w_icmpge (t := 144) rfl rfl (show inr (x108_2) by omega) (show inr (3) by omega) (fun b7 => ?_) (fun b7 => ?_)
                · have hdi : DI ((u5_4)) ((w27)) ((w28)) ((w29)) ((w30)) := by assumption
                  have : DW ((u5_4)) ((w54_49)) ((w81_50)) ((w108_51)) := fun q => ⟨by obtain ⟨T, hT⟩ := (hdi q).1; exact ⟨T, CI_congr hT (fun i a b => j54_3 i a (by omega))⟩, fun t a b => PS_congr ((hdi q).2.1 t a b) ⟨a, b⟩ (fun i c e => j81_3 i c (by omega)) (j108_3 t a (by omega))⟩
                  have : WEQ ((u5_4)) ((u5_3)) ((u5_2)) ((w26_48)) ((w54_49)) ((w81_50)) ((w108_51)) ((w108_52)) ((u5_4)) ((u5_3)) ((u5_2)) ((w26)) ((w27)) ((w28)) ((w29)) ((w30)) := ⟨by omega, by omega, by omega, k26, k54, k81, fun i a b => j108_3 i a (by omega), fun i a b => j108_l i a (by omega)⟩
                  exact w_ret rfl (k σ _ _ H (SF_trans (SF_trans (SF_trans (SF_trans (SF_upd (SF_upd (SF_upd (SF_refl) rfl) rfl) rfl) hS_26 (any_sub rfl)) hS_54 (any_sub rfl)) hS_81 (any_sub rfl)) hS_108 (any_sub rfl)) (SA_trans (SA_trans (SA_trans (SA_trans (SA_refl) hA_26 (any_subA rfl)) hA_54 (any_subA rfl)) hA_81 (any_subA rfl)) hA_108 (any_subA rfl)) (u5_2) (((((hS_108 6 4 rfl).trans (hS_81 6 4 rfl)).trans (hS_54 6 4 rfl)).trans (hS_26 6 4 rfl))) (u5_3) (((((hS_108 6 5 rfl).trans (hS_81 6 5 rfl)).trans (hS_54 6 5 rfl)).trans (hS_26 6 5 rfl))) (u5_4) (((((hS_108 6 6 rfl).trans (hS_81 6 6 rfl)).trans (hS_54 6 6 rfl)).trans (hS_26 6 6 rfl))) (w26_48) ((funext (hA_108 48 rfl)).trans ((funext (hA_81 48 rfl)).trans ((funext (hA_54 48 rfl)).trans (ew26_48)))) (w54_49) ((funext (hA_108 49 rfl)).trans ((funext (hA_81 49 rfl)).trans (ew54_49))) (w81_50) ((funext (hA_108 50 rfl)).trans (ew81_50)) (w108_51) (ew108_51) (w108_52) (ew108_52) (show DW ((u5_4)) ((w54_49)) ((w81_50)) ((w108_51)) by assumption) (show (u5_2) = (u5_2) by omega) (show WEQ ((u5_4)) ((u5_3)) ((u5_2)) ((w26_48)) ((w54_49)) ((w81_50)) ((w108_51)) ((w108_52)) ((u5_4)) ((u5_3)) ((u5_2)) ((w26)) ((w27)) ((w28)) ((w29)) ((w30)) by assumption))
                · refine Ew_of (pc' := 114) (fun _ => x_aload_n rfl l108_0) ?_
                  refine w_gT H (o := 6) (t := 51) rfl (H.perm 6 rfl) rfl rfl rfl rfl rfl rfl ?_
                  refine Ew_of (pc' := 118) (fun _ => x_iload_n rfl l108_2) ?_
                  refine Ew_of (pc' := 119) (fun _ => x_aload_n rfl l108_1) ?_
                  refine w_gT H (o := 5) (t := 29) rfl (H.perm 5 rfl) rfl rfl rfl rfl rfl rfl ?_
                  refine Ew_of (pc' := 123) (fun _ => x_iload_n rfl l108_2) ?_
                  refine w_lI H (o := 29) (n := 3) rfl (H.perm 29 rfl) rfl rfl (H.fix 29 rfl rfl) (show 0 ≤ x108_2 ∧ x108_2 < ((3 : Nat) : Int) by omega) (by decide) (fun v8 ev8 qv8 => ?_)
                  have qv8 : (-1 : Int) ≤ v8 ∧ v8 ≤ 9 := qv8
                  have ev8 : (w29) (x108_2) = v8 := (congrFun ((funext (hA_108 29 rfl)).trans ((funext (hA_81 29 rfl)).trans ((funext (hA_54 29 rfl)).trans ((funext (hA_26 29 rfl)).trans (ew29))))) (x108_2)).symm.trans ev8
                  refine w_sI H (o := 51) (n := 3) rfl (H.perm 51 rfl) rfl rfl (H.fix 51 rfl rfl) (show 0 ≤ x108_2 ∧ x108_2 < ((3 : Nat) : Int) by omega) (by decide) (show (-1 : Int) ≤ v8 ∧ v8 ≤ 9 by omega) (fun σ H => ?_)
                  refine Ew_of (pc' := 126) (fun _ => x_aload_n rfl l108_0) ?_
                  refine w_gT H (o := 6) (t := 52) rfl (H.perm 6 rfl) rfl rfl rfl rfl rfl rfl ?_
                  refine Ew_of (pc' := 130) (fun _ => x_iload_n rfl l108_2) ?_
                  refine Ew_of (pc' := 131) (fun _ => x_aload_n rfl l108_1) ?_
                  refine w_gT H (o := 5) (t := 30) rfl (H.perm 5 rfl) rfl rfl rfl rfl rfl rfl ?_
                  refine Ew_of (pc' := 135) (fun _ => x_iload_n rfl l108_2) ?_
                  refine w_lJ H (o := 30) (n := 3) rfl (H.perm 30 rfl) rfl rfl (H.fix 30 rfl rfl) (show 0 ≤ x108_2 ∧ x108_2 < ((3 : Nat) : Int) by omega) (by decide) (fun v9 ev9 qv9 => ?_)
                  have qv9 : (-9223372036854775808 : Int) ≤ v9 ∧ v9 ≤ 9223372036854775807 := qv9
                  have ev9 : (w30) (x108_2) = v9 := (congrFun ((funext (hA_108 30 rfl)).trans ((funext (hA_81 30 rfl)).trans ((funext (hA_54 30 rfl)).trans ((funext (hA_26 30 rfl)).trans (ew30))))) (x108_2)).symm.trans ev9
                  have hv136 := ev9
                  refine w_l2iW rfl ?_
                  have g10 : inr (w32 (v9)) := w32_r _
                  obtain ⟨qy, hqy⟩ : ∃ q : Int, q = ((w32 (v9))) := ⟨_, rfl⟩
                  rw [← hqy]
                  have gqy : inr qy := by rw [hqy]; first | assumption | omega
                  replace hqy : IMP True (qy = ((w32 (v9)))) := fun _ => hqy
                  refine w_sI H (o := 52) (n := 3) rfl (H.perm 52 rfl) rfl rfl (H.fix 52 rfl rfl) (show 0 ≤ x108_2 ∧ x108_2 < ((3 : Nat) : Int) by omega) (by decide) (show (-2147483648 : Int) ≤ qy ∧ qy ≤ 2147483647 by omega) (fun σ H => ?_)
                  refine Ew_of (pc' := 141) (fun _ => x_iinc (len := 3) rfl (l108_2)) ?_
                  refine Ew_of (pc' := 108) (fun _ => x_goto rfl rfl) ?_
                  have : ∀ i, (0 : Int) ≤ i → i < ((x108_2 + 1)) → ((upd1 (w108_51) (x108_2) (v8))) i = ((w29)) i := pt_copy j108_3 (by omega)
                  have : ∀ i, 0 ≤ i → i < ((x108_2 + 1)) → ((upd1 (w108_52) (x108_2) (qy))) i = w32 (((w30)) i) := fun i a b => by by_cases e : i = x108_2; (rw [e, upd1_s, hv136]; exact hqy trivial); (rw [upd1_o e]; exact j108_l i a (by omega))
                  exact ih108 _ (by omega) _ σ _ _ ((x108_2 + 1)) (rk_o (l108_0) rfl rfl) (rk_o (l108_1) rfl rfl) (rk_s) H (hS_108) (SA_upd (SA_upd (hA_108) rfl) rfl)  (upd1 (w108_51) (x108_2) (v8)) (congrArg (fun q => upd1 q (x108_2) (v8)) (ew108_51)) (upd1 (w108_52) (x108_2) (qy)) (congrArg (fun q => upd1 q (x108_2) (qy)) (ew108_52)) (show inr ((x108_2 + 1)) by omega) (show (0) ≤ ((x108_2 + 1)) by omega) (show ((x108_2 + 1)) ≤ (0) ∨ ((x108_2 + 1)) ≤ (3) by omega) (show ∀ i, 0 ≤ i → i < ((x108_2 + 1)) → ((upd1 (w108_51) (x108_2) (v8))) i = ((w29)) i by assumption) (show ∀ i, 0 ≤ i → i < ((x108_2 + 1)) → ((upd1 (w108_52) (x108_2) (qy))) i = w32 (((w30)) i) by assumption) rfl
            · refine Ew_of (pc' := 89) (fun _ => x_aload_n rfl l81_0) ?_
              refine w_gT H (o := 6) (t := 50) rfl (H.perm 6 rfl) rfl rfl rfl rfl rfl rfl ?_
              refine Ew_of (pc' := 93) (fun _ => x_iload_n rfl l81_2) ?_
              refine Ew_of (pc' := 94) (fun _ => x_aload_n rfl l81_1) ?_
              refine w_gT H (o := 5) (t := 28) rfl (H.perm 5 rfl) rfl rfl rfl rfl rfl rfl ?_
              refine Ew_of (pc' := 98) (fun _ => x_iload_n rfl l81_2) ?_
              refine w_lI H (o := 28) (n := 192) rfl (H.perm 28 rfl) rfl rfl (H.fix 28 rfl rfl) (show 0 ≤ x81_2 ∧ x81_2 < ((192 : Nat) : Int) by omega) (by decide) (fun v11 ev11 qv11 => ?_)
              have qv11 : (-1 : Int) ≤ v11 ∧ v11 ≤ 512 := qv11
              have ev11 : (w28) (x81_2) = v11 := (congrFun ((funext (hA_81 28 rfl)).trans ((funext (hA_54 28 rfl)).trans ((funext (hA_26 28 rfl)).trans (ew28)))) (x81_2)).symm.trans ev11
              refine w_sI H (o := 50) (n := 192) rfl (H.perm 50 rfl) rfl rfl (H.fix 50 rfl rfl) (show 0 ≤ x81_2 ∧ x81_2 < ((192 : Nat) : Int) by omega) (by decide) (show (-1 : Int) ≤ v11 ∧ v11 ≤ 512 by omega) (fun σ H => ?_)
              refine Ew_of (pc' := 103) (fun _ => x_iinc (len := 3) rfl (l81_2)) ?_
              refine Ew_of (pc' := 81) (fun _ => x_goto rfl rfl) ?_
              have : ∀ i, (0 : Int) ≤ i → i < ((x81_2 + 1)) → ((upd1 (w81_50) (x81_2) (v11))) i = ((w28)) i := pt_copy j81_3 (by omega)
              exact ih81 _ (by omega) _ σ _ _ ((x81_2 + 1)) (rk_o (l81_0) rfl rfl) (rk_o (l81_1) rfl rfl) (rk_s) H (hS_81) (SA_upd (hA_81) rfl)  (upd1 (w81_50) (x81_2) (v11)) (congrArg (fun q => upd1 q (x81_2) (v11)) (ew81_50)) (show inr ((x81_2 + 1)) by omega) (show (0) ≤ ((x81_2 + 1)) by omega) (show ((x81_2 + 1)) ≤ (0) ∨ ((x81_2 + 1)) ≤ ((192)) by omega) (show ∀ i, 0 ≤ i → i < ((x81_2 + 1)) → ((upd1 (w81_50) (x81_2) (v11))) i = ((w28)) i by assumption) rfl
        · refine Ew_of (pc' := 62) (fun _ => x_aload_n rfl l54_0) ?_
          refine w_gT H (o := 6) (t := 49) rfl (H.perm 6 rfl) rfl rfl rfl rfl rfl rfl ?_
          refine Ew_of (pc' := 66) (fun _ => x_iload_n rfl l54_2) ?_
          refine Ew_of (pc' := 67) (fun _ => x_aload_n rfl l54_1) ?_
          refine w_gT H (o := 5) (t := 27) rfl (H.perm 5 rfl) rfl rfl rfl rfl rfl rfl ?_
          refine Ew_of (pc' := 71) (fun _ => x_iload_n rfl l54_2) ?_
          refine w_lI H (o := 27) (n := 256) rfl (H.perm 27 rfl) rfl rfl (H.fix 27 rfl rfl) (show 0 ≤ x54_2 ∧ x54_2 < ((256 : Nat) : Int) by omega) (by decide) (fun v12 ev12 qv12 => ?_)
          have qv12 : (0 : Int) ≤ v12 ∧ v12 ≤ 11 := qv12
          have ev12 : (w27) (x54_2) = v12 := (congrFun ((funext (hA_54 27 rfl)).trans ((funext (hA_26 27 rfl)).trans (ew27))) (x54_2)).symm.trans ev12
          refine w_sI H (o := 49) (n := 256) rfl (H.perm 49 rfl) rfl rfl (H.fix 49 rfl rfl) (show 0 ≤ x54_2 ∧ x54_2 < ((256 : Nat) : Int) by omega) (by decide) (show (0 : Int) ≤ v12 ∧ v12 ≤ 11 by omega) (fun σ H => ?_)
          refine Ew_of (pc' := 76) (fun _ => x_iinc (len := 3) rfl (l54_2)) ?_
          refine Ew_of (pc' := 54) (fun _ => x_goto rfl rfl) ?_
          have : ∀ i, (0 : Int) ≤ i → i < ((x54_2 + 1)) → ((upd1 (w54_49) (x54_2) (v12))) i = ((w27)) i := pt_copy j54_3 (by omega)
          exact ih54 _ (by omega) _ σ _ _ ((x54_2 + 1)) (rk_o (l54_0) rfl rfl) (rk_o (l54_1) rfl rfl) (rk_s) H (hS_54) (SA_upd (hA_54) rfl)  (upd1 (w54_49) (x54_2) (v12)) (congrArg (fun q => upd1 q (x54_2) (v12)) (ew54_49)) (show inr ((x54_2 + 1)) by omega) (show (0) ≤ ((x54_2 + 1)) by omega) (show ((x54_2 + 1)) ≤ (0) ∨ ((x54_2 + 1)) ≤ ((256)) by omega) (show ∀ i, 0 ≤ i → i < ((x54_2 + 1)) → ((upd1 (w54_49) (x54_2) (v12))) i = ((w27)) i by assumption) rfl
    · refine Ew_of (pc' := 35) (fun _ => x_aload_n rfl l26_0) ?_
      refine w_gT H (o := 6) (t := 48) rfl (H.perm 6 rfl) rfl rfl rfl rfl rfl rfl ?_
      refine Ew_of (pc' := 39) (fun _ => x_iload_n rfl l26_2) ?_
      refine Ew_of (pc' := 40) (fun _ => x_aload_n rfl l26_1) ?_
      refine w_gT H (o := 5) (t := 26) rfl (H.perm 5 rfl) rfl rfl rfl rfl rfl rfl ?_
      refine Ew_of (pc' := 44) (fun _ => x_iload_n rfl l26_2) ?_
      refine w_lI H (o := 26) (n := 65536) rfl (H.perm 26 rfl) rfl rfl (H.fix 26 rfl rfl) (show 0 ≤ x26_2 ∧ x26_2 < ((65536 : Nat) : Int) by omega) (by decide) (fun v13 ev13 qv13 => ?_)
      have qv13 : (0 : Int) ≤ v13 ∧ v13 ≤ 255 := qv13
      have ev13 : (w26) (x26_2) = v13 := (congrFun ((funext (hA_26 26 rfl)).trans (ew26)) (x26_2)).symm.trans ev13
      have hv45 := ev13
      refine w_sI H (o := 48) (n := 65536) rfl (H.perm 48 rfl) rfl rfl (H.fix 48 rfl rfl) (show 0 ≤ x26_2 ∧ x26_2 < ((65536 : Nat) : Int) by omega) (by decide) (show (0 : Int) ≤ v13 ∧ v13 ≤ 255 by omega) (fun σ H => ?_)
      refine Ew_of (pc' := 49) (fun _ => x_iinc (len := 3) rfl (l26_2)) ?_
      refine Ew_of (pc' := 26) (fun _ => x_goto rfl rfl) ?_
      have : ∀ i, 0 ≤ i → i < ((x26_2 + 1)) → ((upd1 (w26_48) (x26_2) (v13))) i = ((w26)) i := fun i a b => by by_cases e : i = x26_2; (rw [e, upd1_s]; exact hv45.symm); (rw [upd1_o e]; exact j26_d i a (by omega))
      exact ih26 _ (by omega) _ σ _ _ ((x26_2 + 1)) (rk_o (l26_0) rfl rfl) (rk_o (l26_1) rfl rfl) (rk_s) H (hS_26) (SA_upd (hA_26) rfl)  (upd1 (w26_48) (x26_2) (v13)) (congrArg (fun q => upd1 q (x26_2) (v13)) (ew26_48)) (show inr ((x26_2 + 1)) by omega) (show (0) ≤ ((x26_2 + 1)) by omega) (show ((x26_2 + 1)) ≤ (0) ∨ ((x26_2 + 1)) ≤ ((u5_2)) by omega) (show ∀ i, 0 ≤ i → i < ((x26_2 + 1)) → ((upd1 (w26_48) (x26_2) (v13))) i = ((w26)) i by assumption) rfl
/-- Model.learn -/
theorem M77p {σ0 σ : rS} {D N : Nat → Nat} {F : hF} {A : hA} {d c s : Nat} {Q : wQ} (H : HS σ0 σ D N F A) {a1 : Int} (u5_2 : Int) (eu5_2 : F 5 2 = u5_2) (u5_3 : Int) (eu5_3 : F 5 3 = u5_3) (u5_4 : Int) (eu5_4 : F 5 4 = u5_4) (u6_4 : Int) (eu6_4 : F 6 4 = u6_4) (u6_5 : Int) (eu6_5 : F 6 5 = u6_5) (u6_6 : Int) (eu6_6 : F 6 6 = u6_6) (w10 : Int → Int) (ew10 : A 10 = w10) (w11 : Int → Int) (ew11 : A 11 = w11) (w26 : Int → Int) (ew26 : A 26 = w26) (w27 : Int → Int) (ew27 : A 27 = w27) (w28 : Int → Int) (ew28 : A 28 = w28) (w29 : Int → Int) (ew29 : A 29 = w29) (w30 : Int → Int) (ew30 : A 30 = w30) (w34 : Int → Int) (ew34 : A 34 = w34) (w35 : Int → Int) (ew35 : A 35 = w35) (w36 : Int → Int) (ew36 : A 36 = w36) (w37 : Int → Int) (ew37 : A 37 = w37) (w48 : Int → Int) (ew48 : A 48 = w48) (w49 : Int → Int) (ew49 : A 49 = w49) (w50 : Int → Int) (ew50 : A 50 = w50) (w51 : Int → Int) (ew51 : A 51 = w51) (w52 : Int → Int) (ew52 : A 52 = w52) (Dc : DcS) (h0 : inr (a1)) (h1 : RT ((w35)) ((w36)) ((w37)) ((w34))) (h2 : DI ((u5_4)) ((w27)) ((w28)) ((w29)) ((w30))) (h3 : DW ((u6_6)) ((w49)) ((w50)) ((w51))) (h4 : RDI Dc ((u5_4)) ((u5_3)) ((w26)) ((u5_2)) ((w27)) ((w28)) ((w29)) ((w30))) (h5 : WEQ ((u6_6)) ((u6_5)) ((u6_4)) ((w48)) ((w49)) ((w50)) ((w51)) ((w52)) ((u5_4)) ((u5_3)) ((u5_2)) ((w26)) ((w27)) ((w28)) ((w29)) ((w30))) (k : ∀ (z : Int) σ F' A', HS σ0 σ D N F' A' → SF [(1, 1), (5, 2), (5, 3), (5, 4), (5, 10), (5, 19), (5, 44), (5, 45), (6, 4), (6, 5), (6, 6)] F F' → SA [14, 26, 27, 28, 29, 30, 31, 32, 33, 34, 35, 36, 37, 38, 39, 40, 41, 42, 43, 44, 48, 49, 50, 51, 52] A A' → ∀ y5_2 : Int, F' 5 2 = y5_2 → ∀ y5_3 : Int, F' 5 3 = y5_3 → ∀ y5_4 : Int, F' 5 4 = y5_4 → ∀ y6_4 : Int, F' 6 4 = y6_4 → ∀ y6_5 : Int, F' 6 5 = y6_5 → ∀ y6_6 : Int, F' 6 6 = y6_6 → ∀ v26 : Int → Int, A' 26 = v26 → ∀ v27 : Int → Int, A' 27 = v27 → ∀ v28 : Int → Int, A' 28 = v28 → ∀ v29 : Int → Int, A' 29 = v29 → ∀ v30 : Int → Int, A' 30 = v30 → ∀ v34 : Int → Int, A' 34 = v34 → ∀ v35 : Int → Int, A' 35 = v35 → ∀ v36 : Int → Int, A' 36 = v36 → ∀ v37 : Int → Int, A' 37 = v37 → ∀ v48 : Int → Int, A' 48 = v48 → ∀ v49 : Int → Int, A' 49 = v49 → ∀ v50 : Int → Int, A' 50 = v50 → ∀ v51 : Int → Int, A' 51 = v51 → ∀ v52 : Int → Int, A' 52 = v52 → (inr (z)) → (RT ((v35)) ((v36)) ((v37)) ((v34))) → (DI ((y5_4)) ((v27)) ((v28)) ((v29)) ((v30))) → (DW ((y6_6)) ((v49)) ((v50)) ((v51))) → (LNZ ((rwR ((w10)) ((w11)))) ((a1)) Dc ((z)) ((y5_4)) ((y5_3)) ((v26)) ((y5_2)) ((v27)) ((v28)) ((v29)) ((v30))) → (WEQ ((y6_6)) ((y6_5)) ((y6_4)) ((v48)) ((v49)) ((v50)) ((v51)) ((v52)) ((y5_4)) ((y5_3)) ((y5_2)) ((v26)) ((v27)) ((v28)) ((v29)) ((v30))) → Q (some (I z)) σ c s) : Ew 77 (d + 5) 0 (rargs 0 [.ref (D 0), I a1]) [] σ c s Q := by
  have r1 : (0 : Int) ≤ u5_2 ∧ u5_2 ≤ 65536 := by have h1 : (0 : Int) ≤ F 5 2 ∧ F 5 2 ≤ 65536 := H.frng 5 2; rw [show F 5 2 = u5_2 from (eu5_2)] at h1; exact h1
  have r2 : (-2147483648 : Int) ≤ u5_3 ∧ u5_3 ≤ 2147483647 := by have h1 : (-2147483648 : Int) ≤ F 5 3 ∧ F 5 3 ≤ 2147483647 := H.frng 5 3; rw [show F 5 3 = u5_3 from (eu5_3)] at h1; exact h1
  have r3 : (0 : Int) ≤ u5_4 ∧ u5_4 ≤ 1 := by have h1 : (0 : Int) ≤ F 5 4 ∧ F 5 4 ≤ 1 := H.frng 5 4; rw [show F 5 4 = u5_4 from (eu5_4)] at h1; exact h1
  have r4 : (0 : Int) ≤ u6_4 ∧ u6_4 ≤ 65536 := by have h1 : (0 : Int) ≤ F 6 4 ∧ F 6 4 ≤ 65536 := H.frng 6 4; rw [show F 6 4 = u6_4 from (eu6_4)] at h1; exact h1
  have r5 : (-2147483648 : Int) ≤ u6_5 ∧ u6_5 ≤ 2147483647 := by have h1 : (-2147483648 : Int) ≤ F 6 5 ∧ F 6 5 ≤ 2147483647 := H.frng 6 5; rw [show F 6 5 = u6_5 from (eu6_5)] at h1; exact h1
  have r6 : (0 : Int) ≤ u6_6 ∧ u6_6 ≤ 1 := by have h1 : (0 : Int) ≤ F 6 6 ∧ F 6 6 ≤ 1 := H.frng 6 6; rw [show F 6 6 = u6_6 from (eu6_6)] at h1; exact h1
  have hSz : ∀ i, (0 : Int) ≤ (w11) i ∧ (w11) i ≤ 65536 := fun i => by have h1 : (0 : Int) ≤ A 11 i ∧ A 11 i ≤ 65536 := H.arng 11 i; rw [show A 11 = w11 from ew11] at h1; exact h1
  have hIn0 : ∀ i, (0 : Int) ≤ (A 14) i ∧ (A 14) i ≤ 255 := fun i => by have h1 : (0 : Int) ≤ A 14 i ∧ A 14 i ≤ 255 := H.arng 14 i; rw [show A 14 = A 14 from rfl] at h1; exact h1
  have hs1 := hSz ((a1))
  have hrd : RDI Dc ((u5_4)) ((u5_3)) ((w26)) ((u5_2)) ((w27)) ((w28)) ((w29)) ((w30)) := by assumption
  have hwe : WEQ ((u6_6)) ((u6_5)) ((u6_4)) ((w48)) ((w49)) ((w50)) ((w51)) ((w52)) ((u5_4)) ((u5_3)) ((u5_2)) ((w26)) ((w27)) ((w28)) ((w29)) ((w30)) := by assumption
  refine Ew_of (pc' := 1) (fun _ => x_iload_n rfl rfl) ?_
  refine w_stat24 rfl rfl (by rfl) (M56p H (show inr (a1) by omega) (fun z11 σ F7 A8 H hS9 hA10 pz11_0 pz11_1 => ⟨rretB rfl pz11_0, ?_⟩))
  refine w_ifne (t := 10) rfl rfl (show inr (z11) by omega) (fun b12 => ?_) (fun b12 => ?_)
  · refine Ew_of (pc' := 11) (fun _ => x_aload_n rfl rfl) ?_
    refine Ew_of (pc' := 12) (fun _ => x_iload_n rfl rfl) ?_
    refine w_inv H (o := 0) rfl rfl rfl (H.perm 0 rfl) rfl rfl (by rfl) (M74p H (w10) ((funext (hA10 10 rfl)).trans (ew10)) (w11) ((funext (hA10 11 rfl)).trans (ew11)) (show inr (a1) by omega) (show 0 ≤ (a1) ∧ (a1) ≤ 3 by omega) (fun σ F13 A14 H hS15 hA16 y18 ey19 wq20 ewq21 pz17_0 pz17_1 => ⟨rfl, ?_⟩))
    have r22 : (0 : Int) ≤ y18 ∧ y18 ≤ 65536 := by have h1 : (0 : Int) ≤ F13 1 1 ∧ F13 1 1 ≤ 65536 := H.frng 1 1; rw [show F13 1 1 = y18 from (ey19)] at h1; exact h1
    have hld := pz17_1
    have hIn : ∀ i, (0 : Int) ≤ (wq20) i ∧ (wq20) i ≤ 255 := fun i => by have h1 : (0 : Int) ≤ A14 14 i ∧ A14 14 i ≤ 255 := H.arng 14 i; rw [show A14 14 = wq20 from ewq21] at h1; exact h1
    refine Ew_of (pc' := 16) (fun _ => x_aload_n rfl rfl) ?_
    refine w_gT H (o := 0) (t := 5) rfl (H.perm 0 rfl) rfl rfl rfl rfl rfl rfl ?_
    refine w_inv H (o := 5) rfl rfl rfl (H.perm 5 rfl) rfl rfl (by rfl) (M275 H (y18) ((ey19)) (u5_2) ((((hS15 5 2 rfl).trans (hS9 5 2 rfl)).trans (eu5_2))) (u5_3) ((((hS15 5 3 rfl).trans (hS9 5 3 rfl)).trans (eu5_3))) (u5_4) ((((hS15 5 4 rfl).trans (hS9 5 4 rfl)).trans (eu5_4))) (wq20) (ewq21) (w26) ((funext (hA16 26 rfl)).trans ((funext (hA10 26 rfl)).trans (ew26))) (w27) ((funext (hA16 27 rfl)).trans ((funext (hA10 27 rfl)).trans (ew27))) (w28) ((funext (hA16 28 rfl)).trans ((funext (hA10 28 rfl)).trans (ew28))) (w29) ((funext (hA16 29 rfl)).trans ((funext (hA10 29 rfl)).trans (ew29))) (w30) ((funext (hA16 30 rfl)).trans ((funext (hA10 30 rfl)).trans (ew30))) (w34) ((funext (hA16 34 rfl)).trans ((funext (hA10 34 rfl)).trans (ew34))) (w35) ((funext (hA16 35 rfl)).trans ((funext (hA10 35 rfl)).trans (ew35))) (w36) ((funext (hA16 36 rfl)).trans ((funext (hA10 36 rfl)).trans (ew36))) (w37) ((funext (hA16 37 rfl)).trans ((funext (hA10 37 rfl)).trans (ew37))) (Dc) (show RT ((w35)) ((w36)) ((w37)) ((w34)) by assumption) (show DI ((u5_4)) ((w27)) ((w28)) ((w29)) ((w30)) by assumption) (show RDI (Dc) ((u5_4)) ((u5_3)) ((w26)) ((u5_2)) ((w27)) ((w28)) ((w29)) ((w30)) by assumption) (fun z27 σ F23 A24 H hS25 hA26 y28 ey29 y30 ey31 y32 ey33 wq34 ewq35 wq36 ewq37 wq38 ewq39 wq40 ewq41 wq42 ewq43 wq44 ewq45 wq46 ewq47 wq48 ewq49 wq50 ewq51 pz27_0 pz27_1 pz27_2 pz27_3 pz27_4 pz27_5 => ⟨rfl, ?_⟩))
    have r52 : (0 : Int) ≤ y28 ∧ y28 ≤ 65536 := by have h1 : (0 : Int) ≤ F23 5 2 ∧ F23 5 2 ≤ 65536 := H.frng 5 2; rw [show F23 5 2 = y28 from (ey29)] at h1; exact h1
    have r53 : (-2147483648 : Int) ≤ y30 ∧ y30 ≤ 2147483647 := by have h1 : (-2147483648 : Int) ≤ F23 5 3 ∧ F23 5 3 ≤ 2147483647 := H.frng 5 3; rw [show F23 5 3 = y30 from (ey31)] at h1; exact h1
    have r54 : (0 : Int) ≤ y32 ∧ y32 ≤ 1 := by have h1 : (0 : Int) ≤ F23 5 4 ∧ F23 5 4 ≤ 1 := H.frng 5 4; rw [show F23 5 4 = y32 from (ey33)] at h1; exact h1
    have hln := pz27_4
    have hlz : LNZ ((rwR ((w10)) ((w11)))) ((a1)) Dc ((z27)) ((y32)) ((y30)) ((wq34)) ((y28)) ((wq36)) ((wq38)) ((wq40)) ((wq42)) := LNZ_y ⟨by omega, by omega⟩ hld (by omega) hIn hln
    refine Ew_of (pc' := 23) (fun _ => x_istore_n rfl) ?_
    refine Ew_of (pc' := 24) (fun _ => x_iload_n rfl rk_s) ?_
    refine w_iflt (t := 38) rfl rfl (show inr (z27) by omega) (fun b55 => ?_) (fun b55 => ?_)
    · refine Ew_of (pc' := 39) (fun _ => x_iload_n rfl rk_s) ?_
      have : LNZ ((rwR ((w10)) ((w11)))) ((a1)) Dc ((z27)) ((y32)) ((y30)) ((wq34)) ((y28)) ((wq36)) ((wq38)) ((wq40)) ((wq42)) := hlz
      have : WEQ ((u6_6)) ((u6_5)) ((u6_4)) ((w48)) ((w49)) ((w50)) ((w51)) ((w52)) ((y32)) ((y30)) ((y28)) ((wq34)) ((wq36)) ((wq38)) ((wq40)) ((wq42)) := by first | exact pzMISS_2 | exact WEQ_t (pz27_5 (by omega)) hwe
      exact w_ireturn rfl (k (z27) σ _ _ H (SF_trans (SF_trans (SF_trans (SF_refl) hS9 (any_sub rfl)) hS15 (any_sub rfl)) hS25 (any_sub rfl)) (SA_trans (SA_trans (SA_trans (SA_refl) hA10 (any_subA rfl)) hA16 (any_subA rfl)) hA26 (any_subA rfl)) (y28) ((ey29)) (y30) ((ey31)) (y32) ((ey33)) (u6_4) (((((hS25 6 4 rfl).trans (hS15 6 4 rfl)).trans (hS9 6 4 rfl)).trans (eu6_4))) (u6_5) (((((hS25 6 5 rfl).trans (hS15 6 5 rfl)).trans (hS9 6 5 rfl)).trans (eu6_5))) (u6_6) (((((hS25 6 6 rfl).trans (hS15 6 6 rfl)).trans (hS9 6 6 rfl)).trans (eu6_6))) (wq34) (ewq35) (wq36) (ewq37) (wq38) (ewq39) (wq40) (ewq41) (wq42) (ewq43) (wq44) (ewq45) (wq46) (ewq47) (wq48) (ewq49) (wq50) (ewq51) (w48) ((funext (hA26 48 rfl)).trans ((funext (hA16 48 rfl)).trans ((funext (hA10 48 rfl)).trans (ew48)))) (w49) ((funext (hA26 49 rfl)).trans ((funext (hA16 49 rfl)).trans ((funext (hA10 49 rfl)).trans (ew49)))) (w50) ((funext (hA26 50 rfl)).trans ((funext (hA16 50 rfl)).trans ((funext (hA10 50 rfl)).trans (ew50)))) (w51) ((funext (hA26 51 rfl)).trans ((funext (hA16 51 rfl)).trans ((funext (hA10 51 rfl)).trans (ew51)))) (w52) ((funext (hA26 52 rfl)).trans ((funext (hA16 52 rfl)).trans ((funext (hA10 52 rfl)).trans (ew52)))) (show inr (z27) by omega) (show RT ((wq46)) ((wq48)) ((wq50)) ((wq44)) by assumption) (show DI ((y32)) ((wq36)) ((wq38)) ((wq40)) ((wq42)) by assumption) (show DW ((u6_6)) ((w49)) ((w50)) ((w51)) by assumption) (show LNZ ((rwR ((w10)) ((w11)))) (a1) Dc ((z27)) ((y32)) ((y30)) ((wq34)) ((y28)) ((wq36)) ((wq38)) ((wq40)) ((wq42)) by assumption) (show WEQ ((u6_6)) ((u6_5)) ((u6_4)) ((w48)) ((w49)) ((w50)) ((w51)) ((w52)) ((y32)) ((y30)) ((y28)) ((wq34)) ((wq36)) ((wq38)) ((wq40)) ((wq42)) by assumption))
    · refine Ew_of (pc' := 28) (fun _ => x_aload_n rfl (rk_o (rfl) rfl rfl)) ?_
      refine w_gT H (o := 0) (t := 6) rfl (H.perm 0 rfl) rfl rfl rfl rfl rfl rfl ?_
      refine Ew_of (pc' := 32) (fun _ => x_aload_n rfl (rk_o (rfl) rfl rfl)) ?_
      refine w_gT H (o := 0) (t := 5) rfl (H.perm 0 rfl) rfl rfl rfl rfl rfl rfl ?_
      refine w_inv H (o := 6) rfl rfl rfl (H.perm 6 rfl) rfl rfl (by rfl) (M388_5p H (y28) ((ey29)) (y30) ((ey31)) (y32) ((ey33)) (wq34) (ewq35) (wq36) (ewq37) (wq38) (ewq39) (wq40) (ewq41) (wq42) (ewq43) (show DI ((y32)) ((wq36)) ((wq38)) ((wq40)) ((wq42)) by assumption) (fun σ F56 A57 H hS58 hA59 y61 ey62 y63 ey64 y65 ey66 wq67 ewq68 wq69 ewq70 wq71 ewq72 wq73 ewq74 wq75 ewq76 pz60_0 pz60_1 pz60_2 => ⟨rfl, ?_⟩))
      have r77 : (0 : Int) ≤ y61 ∧ y61 ≤ 65536 := by have h1 : (0 : Int) ≤ F56 6 4 ∧ F56 6 4 ≤ 65536 := H.frng 6 4; rw [show F56 6 4 = y61 from (ey62)] at h1; exact h1
      have r78 : (-2147483648 : Int) ≤ y63 ∧ y63 ≤ 2147483647 := by have h1 : (-2147483648 : Int) ≤ F56 6 5 ∧ F56 6 5 ≤ 2147483647 := H.frng 6 5; rw [show F56 6 5 = y63 from (ey64)] at h1; exact h1
      have r79 : (0 : Int) ≤ y65 ∧ y65 ≤ 1 := by have h1 : (0 : Int) ≤ F56 6 6 ∧ F56 6 6 ≤ 1 := H.frng 6 6; rw [show F56 6 6 = y65 from (ey66)] at h1; exact h1
      refine Ew_of (pc' := 39) (fun _ => x_iload_n rfl rk_s) ?_
      have : LNZ ((rwR ((w10)) ((w11)))) ((a1)) Dc ((z27)) ((y32)) ((y30)) ((wq34)) ((y28)) ((wq36)) ((wq38)) ((wq40)) ((wq42)) := hlz
      have : WEQ ((y65)) ((y63)) ((y61)) ((wq67)) ((wq69)) ((wq71)) ((wq73)) ((wq75)) ((y32)) ((y30)) ((y28)) ((wq34)) ((wq36)) ((wq38)) ((wq40)) ((wq42)) := by first | exact pz60_2 | exact WEQ_t (pz27_5 (by omega)) hwe
      exact w_ireturn rfl (k (z27) σ _ _ H (SF_trans (SF_trans (SF_trans (SF_trans (SF_refl) hS9 (any_sub rfl)) hS15 (any_sub rfl)) hS25 (any_sub rfl)) hS58 (any_sub rfl)) (SA_trans (SA_trans (SA_trans (SA_trans (SA_refl) hA10 (any_subA rfl)) hA16 (any_subA rfl)) hA26 (any_subA rfl)) hA59 (any_subA rfl)) (y28) (((hS58 5 2 rfl).trans (ey29))) (y30) (((hS58 5 3 rfl).trans (ey31))) (y32) (((hS58 5 4 rfl).trans (ey33))) (y61) ((ey62)) (y63) ((ey64)) (y65) ((ey66)) (wq34) ((funext (hA59 26 rfl)).trans (ewq35)) (wq36) ((funext (hA59 27 rfl)).trans (ewq37)) (wq38) ((funext (hA59 28 rfl)).trans (ewq39)) (wq40) ((funext (hA59 29 rfl)).trans (ewq41)) (wq42) ((funext (hA59 30 rfl)).trans (ewq43)) (wq44) ((funext (hA59 34 rfl)).trans (ewq45)) (wq46) ((funext (hA59 35 rfl)).trans (ewq47)) (wq48) ((funext (hA59 36 rfl)).trans (ewq49)) (wq50) ((funext (hA59 37 rfl)).trans (ewq51)) (wq67) (ewq68) (wq69) (ewq70) (wq71) (ewq72) (wq73) (ewq74) (wq75) (ewq76) (show inr (z27) by omega) (show RT ((wq46)) ((wq48)) ((wq50)) ((wq44)) by assumption) (show DI ((y32)) ((wq36)) ((wq38)) ((wq40)) ((wq42)) by assumption) (show DW ((y65)) ((wq69)) ((wq71)) ((wq73)) by assumption) (show LNZ ((rwR ((w10)) ((w11)))) (a1) Dc ((z27)) ((y32)) ((y30)) ((wq34)) ((y28)) ((wq36)) ((wq38)) ((wq40)) ((wq42)) by assumption) (show WEQ ((y65)) ((y63)) ((y61)) ((wq67)) ((wq69)) ((wq71)) ((wq73)) ((wq75)) ((y32)) ((y30)) ((y28)) ((wq34)) ((wq36)) ((wq38)) ((wq40)) ((wq42)) by assumption))
  · refine Ew_of (pc' := 9) (fun _ => x_bipush (z := -5) rfl (by decide)) ?_
    have : LNZ ((rwR ((w10)) ((w11)))) ((a1)) Dc (-5) ((u5_4)) ((u5_3)) ((w26)) ((u5_2)) ((w27)) ((w28)) ((w29)) ((w30)) := .inl ⟨fun q => by unfold okd at q; omega, rfl, hrd⟩
    have : WEQ ((u6_6)) ((u6_5)) ((u6_4)) ((w48)) ((w49)) ((w50)) ((w51)) ((w52)) ((u5_4)) ((u5_3)) ((u5_2)) ((w26)) ((w27)) ((w28)) ((w29)) ((w30)) := hwe
    exact w_ireturn rfl (k ((-5)) σ _ _ H (SF_trans (SF_refl) hS9 (any_sub rfl)) (SA_trans (SA_refl) hA10 (any_subA rfl)) (u5_2) (((hS9 5 2 rfl).trans (eu5_2))) (u5_3) (((hS9 5 3 rfl).trans (eu5_3))) (u5_4) (((hS9 5 4 rfl).trans (eu5_4))) (u6_4) (((hS9 6 4 rfl).trans (eu6_4))) (u6_5) (((hS9 6 5 rfl).trans (eu6_5))) (u6_6) (((hS9 6 6 rfl).trans (eu6_6))) (w26) ((funext (hA10 26 rfl)).trans (ew26)) (w27) ((funext (hA10 27 rfl)).trans (ew27)) (w28) ((funext (hA10 28 rfl)).trans (ew28)) (w29) ((funext (hA10 29 rfl)).trans (ew29)) (w30) ((funext (hA10 30 rfl)).trans (ew30)) (w34) ((funext (hA10 34 rfl)).trans (ew34)) (w35) ((funext (hA10 35 rfl)).trans (ew35)) (w36) ((funext (hA10 36 rfl)).trans (ew36)) (w37) ((funext (hA10 37 rfl)).trans (ew37)) (w48) ((funext (hA10 48 rfl)).trans (ew48)) (w49) ((funext (hA10 49 rfl)).trans (ew49)) (w50) ((funext (hA10 50 rfl)).trans (ew50)) (w51) ((funext (hA10 51 rfl)).trans (ew51)) (w52) ((funext (hA10 52 rfl)).trans (ew52)) (show inr ((-5)) by omega) (show RT ((w35)) ((w36)) ((w37)) ((w34)) by assumption) (show DI ((u5_4)) ((w27)) ((w28)) ((w29)) ((w30)) by assumption) (show DW ((u6_6)) ((w49)) ((w50)) ((w51)) by assumption) (show LNZ ((rwR ((w10)) ((w11)))) (a1) Dc (((-5))) ((u5_4)) ((u5_3)) ((w26)) ((u5_2)) ((w27)) ((w28)) ((w29)) ((w30)) by assumption) (show WEQ ((u6_6)) ((u6_5)) ((u6_4)) ((w48)) ((w49)) ((w50)) ((w51)) ((w52)) ((u5_4)) ((u5_3)) ((u5_2)) ((w26)) ((w27)) ((w28)) ((w29)) ((w30)) by assumption))
