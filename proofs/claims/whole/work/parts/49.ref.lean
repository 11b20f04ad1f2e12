/-- Writer.take -/
theorem M388_5 {σ0 σ : rS} {D N : Nat → Nat} {F : hF} {A : hA} {d c s : Nat} {Q : wQ} (H : HS σ0 σ D N F A)  (u5_2 : Int) (eu5_2 : F 5 2 = u5_2) (u5_4 : Int) (eu5_4 : F 5 4 = u5_4) (w27 : Int → Int) (ew27 : A 27 = w27) (w28 : Int → Int) (ew28 : A 28 = w28) (w29 : Int → Int) (ew29 : A 29 = w29) (w30 : Int → Int) (ew30 : A 30 = w30) (h0 : DI ((u5_4)) ((w27)) ((w28)) ((w29)) ((w30))) (k : ∀ σ F' A', HS σ0 σ D N F' A' → SF [(6, 4), (6, 5), (6, 6)] F F' → SA [48, 49, 50, 51, 52] A A' → ∀ y6_4 : Int, F' 6 4 = y6_4 → ∀ y6_6 : Int, F' 6 6 = y6_6 → ∀ v49 : Int → Int, A' 49 = v49 → ∀ v50 : Int → Int, A' 50 = v50 → ∀ v51 : Int → Int, A' 51 = v51 → (DW ((y6_6)) ((v49)) ((v50)) ((v51))) → ((y6_4) = (u5_2)) → Q none σ c s) : Ew 388 (d + 0) 0 (rargs 0 [.ref (D 6), .ref (D 5)]) [] σ c s Q := by
  have r1 : (0 : Int) ≤ u5_2 ∧ u5_2 ≤ 65536 := by have h1 : (0 : Int) ≤ F 5 2 ∧ F 5 2 ≤ 65536 := H.frng 5 2; rw [show F 5 2 = u5_2 from (eu5_2)] at h1; exact h1
  have r2 : (0 : Int) ≤ u5_4 ∧ u5_4 ≤ 1 := by have h1 : (0 : Int) ≤ F 5 4 ∧ F 5 4 ≤ 1 := H.frng 5 4; rw [show F 5 4 = u5_4 from (eu5_4)] at h1; exact h1
  refine Ew_of (pc' := 1) (fun _ => x_aload_n rfl rfl) ?_
  refine Ew_of (pc' := 2) (fun _ => x_aload_n rfl rfl) ?_
  refine w_gI H (o := 5) (w := u5_2) rfl (H.perm 5 rfl) rfl rfl rfl (fun _ => rfl) (eu5_2) ?_
  refine w_pI H (o := 6) rfl rfl (H.perm 6 rfl) rfl rfl rfl (fun _ => rfl) rfl (show (0 : Int) ≤ u5_2 ∧ u5_2 ≤ 65536 by omega) (fun σ H => ?_)
  refine Ew_of (pc' := 9) (fun _ => x_aload_n rfl rfl) ?_
  refine Ew_of (pc' := 10) (fun _ => x_aload_n rfl rfl) ?_
  have r3 : (-2147483648 : Int) ≤ F 5 3 ∧ F 5 3 ≤ 2147483647 := by have h1 : (-2147483648 : Int) ≤ (updF F 6 4 (u5_2)) 5 3 ∧ (updF F 6 4 (u5_2)) 5 3 ≤ 2147483647 := H.frng 5 3; rw [show (updF F 6 4 (u5_2)) 5 3 = F 5 3 from rfl] at h1; exact h1
  refine w_gI H (o := 5) (w := F 5 3) rfl (H.perm 5 rfl) rfl rfl rfl (fun _ => rfl) rfl ?_
  refine w_pI H (o := 6) rfl rfl (H.perm 6 rfl) rfl rfl rfl (fun _ => rfl) rfl (show (-2147483648 : Int) ≤ F 5 3 ∧ F 5 3 ≤ 2147483647 by omega) (fun σ H => ?_)
  refine Ew_of (pc' := 17) (fun _ => x_aload_n rfl rfl) ?_
  refine Ew_of (pc' := 18) (fun _ => x_aload_n rfl rfl) ?_
  refine w_gI H (o := 5) (w := u5_4) rfl (H.perm 5 rfl) rfl rfl rfl (fun _ => rfl) (eu5_4) ?_
  refine w_pI H (o := 6) rfl rfl (H.perm 6 rfl) rfl rfl rfl (fun _ => rfl) (rfit_b (by omega)) (show (0 : Int) ≤ u5_4 ∧ u5_4 ≤ 1 by omega) (fun σ H => ?_)
  refine Ew_of (pc' := 25) (fun _ => x_iconst rfl) ?_
  refine Ew_of (pc' := 26) (fun _ => x_istore_n rfl) ?_
  suffices hl26 : ∀ (m : Nat), ∀ (ls : rO) (σ : rS) (F_26 : hF) (A_26 : hA) (x26_2 : Int), rlook ls 0 = some (.ref (D 6)) → rlook ls 1 = some (.ref (D 5)) → rlook ls 2 = some (I (x26_2)) → HS σ0 σ D N F_26 A_26 → SF [] (updF (updF (updF F 6 4 (u5_2)) 6 5 (F 5 3)) 6 6 (u5_4)) F_26 → SA [48] A A_26 → (inr (x26_2)) → ((0) ≤ (x26_2)) → ((x26_2) ≤ (0) ∨ (x26_2) ≤ ((u5_2))) → (((u5_2)) - (x26_2)).toNat = m → Ew 388 (d + 0) 26 ls [] σ c s Q from
    hl26 _ _ σ _ _ (0) (rk_o (rfl) rfl rfl) (rk_o (rfl) rfl rfl) (rk_s) H (SF_refl) (SA_refl)   (show inr (0) by omega) (show (0) ≤ (0) by omega) (show (0) ≤ (0) ∨ (0) ≤ ((u5_2)) by omega) rfl
  as_aux_lemma =>
  intro m
  induction m using Nat.strongRecOn with
  | _ m ih26 =>
    intro ls σ F_26 A_26 x26_2 l26_0 l26_1 l26_2 H hS_26 hA_26   j26_0 j26_1 j26_2 hm26
    refine Ew_of (pc' := 27) (fun _ => x_iload_n rfl l26_2) ?_
    refine Ew_of (pc' := 28) (fun _ => x_aload_n rfl l26_0) ?_
    refine w_gI H (o := 6) (w := u5_2) rfl (H.perm 6 rfl) rfl rfl rfl (fun _ => rfl) (hS_26 6 4 rfl) ?_
    refine w_icmpge (t := 52) rfl rfl (show inr (x26_2) by omega) (show inr (u5_2) by omega) (fun b4 => ?_) (fun b4 => ?_)
    · refine Ew_of (pc' := 53) (fun _ => x_iconst rfl) ?_
      refine Ew_of (pc' := 54) (fun _ => x_istore_n rfl) ?_
      have : ∀ i, (0 : Int) ≤ i → i < 0 → ((A 49)) i = ((w27)) i := fun i a b => absurd b (by omega)
      suffices hl54 : ∀ (m : Nat), ∀ (ls : rO) (σ : rS) (F_54 : hF) (A_54 : hA) (x54_2 : Int), rlook ls 0 = some (.ref (D 6)) → rlook ls 1 = some (.ref (D 5)) → rlook ls 2 = some (I (x54_2)) → HS σ0 σ D N F_54 A_54 → SF [] F_26 F_54 → SA [49] A_26 A_54 → ∀ w54_49 : Int → Int, A_54 49 = w54_49 → (inr (x54_2)) → ((0) ≤ (x54_2)) → ((x54_2) ≤ (0) ∨ (x54_2) ≤ ((256))) → (∀ i, 0 ≤ i → i < (x54_2) → ((w54_49)) i = ((w27)) i) → (((256)) - (x54_2)).toNat = m → Ew 388 (d + 0) 54 ls [] σ c s Q from
        hl54 _ _ σ _ _ (0) (rk_o (l26_0) rfl rfl) (rk_o (l26_1) rfl rfl) (rk_s) H (SF_refl) (SA_refl)  (A 49) (funext (hA_26 49 rfl)) (show inr (0) by omega) (show (0) ≤ (0) by omega) (show (0) ≤ (0) ∨ (0) ≤ ((256)) by omega) (show ∀ i, 0 ≤ i → i < (0) → ((A 49)) i = ((w27)) i by assumption) rfl
      as_aux_lemma =>
      intro m
      induction m using Nat.strongRecOn with
      | _ m ih54 =>
        intro ls σ F_54 A_54 x54_2 l54_0 l54_1 l54_2 H hS_54 hA_54  w54_49 ew54_49 j54_0 j54_1 j54_2 j54_3 hm54
        refine Ew_of (pc' := 55) (fun _ => x_iload_n rfl l54_2) ?_
        refine Ew_of (pc' := 58) (fun _ => x_sipush (z := 256) rfl (by decide)) ?_
        refine w_icmpge (t := 79) rfl rfl (show inr (x54_2) by omega) (show inr (256) by omega) (fun b5 => ?_) (fun b5 => ?_)
        · refine Ew_of (pc' := 80) (fun _ => x_iconst rfl) ?_
          refine Ew_of (pc' := 81) (fun _ => x_istore_n rfl) ?_
          have : ∀ i, (0 : Int) ≤ i → i < 0 → ((A 50)) i = ((w28)) i := fun i a b => absurd b (by omega)
          suffices hl81 : ∀ (m : Nat), ∀ (ls : rO) (σ : rS) (F_81 : hF) (A_81 : hA) (x81_2 : Int), rlook ls 0 = some (.ref (D 6)) → rlook ls 1 = some (.ref (D 5)) → rlook ls 2 = some (I (x81_2)) → HS σ0 σ D N F_81 A_81 → SF [] F_54 F_81 → SA [50] A_54 A_81 → ∀ w81_50 : Int → Int, A_81 50 = w81_50 → (inr (x81_2)) → ((0) ≤ (x81_2)) → ((x81_2) ≤ (0) ∨ (x81_2) ≤ ((192))) → (∀ i, 0 ≤ i → i < (x81_2) → ((w81_50)) i = ((w28)) i) → (((192)) - (x81_2)).toNat = m → Ew 388 (d + 0) 81 ls [] σ c s Q from
            hl81 _ _ σ _ _ (0) (rk_o (l54_0) rfl rfl) (rk_o (l54_1) rfl rfl) (rk_s) H (SF_refl) (SA_refl)  (A 50) ((funext (hA_54 50 rfl)).trans (funext (hA_26 50 rfl))) (show inr (0) by omega) (show (0) ≤ (0) by omega) (show (0) ≤ (0) ∨ (0) ≤ ((192)) by omega) (show ∀ i, 0 ≤ i → i < (0) → ((A 50)) i = ((w28)) i by assumption) rfl
          as_aux_lemma =>
          intro m
          induction m using Nat.strongRecOn with
          | _ m ih81 =>
            intro ls σ F_81 A_81 x81_2 l81_0 l81_1 l81_2 H hS_81 hA_81  w81_50 ew81_50 j81_0 j81_1 j81_2 j81_3 hm81
            refine Ew_of (pc' := 82) (fun _ => x_iload_n rfl l81_2) ?_
            refine Ew_of (pc' := 85) (fun _ => x_sipush (z := 192) rfl (by decide)) ?_
            refine w_icmpge (t := 106) rfl rfl (show inr (x81_2) by omega) (show inr (192) by omega) (fun b6 => ?_) (fun b6 => ?_)
            · refine Ew_of (pc' := 107) (fun _ => x_iconst rfl) ?_
              refine Ew_of (pc' := 108) (fun _ => x_istore_n rfl) ?_
              have : ∀ i, (0 : Int) ≤ i → i < 0 → ((A 51)) i = ((w29)) i := fun i a b => absurd b (by omega)
              suffices hl108 : ∀ (m : Nat), ∀ (ls : rO) (σ : rS) (F_108 : hF) (A_108 : hA) (x108_2 : Int), rlook ls 0 = some (.ref (D 6)) → rlook ls 1 = some (.ref (D 5)) → rlook ls 2 = some (I (x108_2)) → HS σ0 σ D N F_108 A_108 → SF [] F_81 F_108 → SA [51, 52] A_81 A_108 → ∀ w108_51 : Int → Int, A_108 51 = w108_51 → (inr (x108_2)) → ((0) ≤ (x108_2)) → ((x108_2) ≤ (0) ∨ (x108_2) ≤ (3)) → (∀ i, 0 ≤ i → i < (x108_2) → ((w108_51)) i = ((w29)) i) → ((3) - (x108_2)).toNat = m → Ew 388 (d + 0) 108 ls [] σ c s Q from
                hl108 _ _ σ _ _ (0) (rk_o (l81_0) rfl rfl) (rk_o (l81_1) rfl rfl) (rk_s) H (SF_refl) (SA_refl)  (A 51) ((funext (hA_81 51 rfl)).trans ((funext (hA_54 51 rfl)).trans (funext (hA_26 51 rfl)))) (show inr (0) by omega) (show (0) ≤ (0) by omega) (show (0) ≤ (0) ∨ (0) ≤ (3) by omega) (show ∀ i, 0 ≤ i → i < (0) → ((A 51)) i = ((w29)) i by assumption) rfl
              as_aux_lemma =>
              intro m
              induction m using Nat.strongRecOn with
              | _ m ih108 =>
                intro ls σ F_108 A_108 x108_2 l108_0 l108_1 l108_2 H hS_108 hA_108  w108_51 ew108_51 j108_0 j108_1 j108_2 j108_3 hm108
                refine Ew_of (pc' := 109) (fun _ => x_iload_n rfl l108_2) ?_
                refine Ew_of (pc' := 110) (fun _ => x_iconst rfl) ?_
                refine w_icmpge (t := 144) rfl rfl (show inr (x108_2) by omega) (show inr (3) by omega) (fun b7 => ?_) (fun b7 => ?_)
                · have hdi : DI ((u5_4)) ((w27)) ((w28)) ((w29)) ((w30)) := by assumption
                  have : DW ((u5_4)) ((w54_49)) ((w81_50)) ((w108_51)) := fun q => ⟨by obtain ⟨T, hT⟩ := (hdi q).1; exact ⟨T, CI_congr hT (fun i a b => j54_3 i a (by omega))⟩, fun t a b => PS_congr ((hdi q).2.1 t a b) ⟨a, b⟩ (fun i c e => j81_3 i c (by omega)) (j108_3 t a (by omega))⟩
                  exact w_ret rfl (k σ _ _ H (SF_trans (SF_trans (SF_trans (SF_trans (SF_upd (SF_upd (SF_upd (SF_refl) rfl) rfl) rfl) hS_26 (any_sub rfl)) hS_54 (any_sub rfl)) hS_81 (any_sub rfl)) hS_108 (any_sub rfl)) (SA_trans (SA_trans (SA_trans (SA_trans (SA_refl) hA_26 (any_subA rfl)) hA_54 (any_subA rfl)) hA_81 (any_subA rfl)) hA_108 (any_subA rfl)) (u5_2) (((((hS_108 6 4 rfl).trans (hS_81 6 4 rfl)).trans (hS_54 6 4 rfl)).trans (hS_26 6 4 rfl))) (u5_4) (((((hS_108 6 6 rfl).trans (hS_81 6 6 rfl)).trans (hS_54 6 6 rfl)).trans (hS_26 6 6 rfl))) (w54_49) ((funext (hA_108 49 rfl)).trans ((funext (hA_81 49 rfl)).trans (ew54_49))) (w81_50) ((funext (hA_108 50 rfl)).trans (ew81_50)) (w108_51) (ew108_51) (show DW ((u5_4)) ((w54_49)) ((w81_50)) ((w108_51)) by assumption) (show (u5_2) = (u5_2) by omega))
                · refine Ew_of (pc' := 114) (fun _ => x_aload_n rfl l108_0) ?_
                  refine w_gT H (o := 6) (t := 51) rfl (H.perm 6 rfl) rfl rfl rfl rfl rfl rfl ?_
                  refine Ew_of (pc' := 118) (fun _ => x_iload_n rfl l108_2) ?_
                  refine Ew_of (pc' := 119) (fun _ => x_aload_n rfl l108_1) ?_
                  refine w_gT H (o := 5) (t := 29) rfl (H.perm 5 rfl) rfl rfl rfl rfl rfl rfl ?_
                  refine Ew_of (pc' := 123) (fun _ => x_iload_n rfl l108_2) ?_
                  refine w_lI H (o := 29) (n := 3) rfl (H.perm 29 rfl) rfl rfl (H.fix 29 rfl rfl) (show 0 ≤ x108_2 ∧ x108_2 < ((3 : Nat) : Int) by omega) (by decide) (fun v8 ev8 qv8 => ?_)
                  have qv8 : (-1 : Int) ≤ v8 ∧ v8 ≤ 9 := qv8
                  have ev8 : (w29) (x108_2) = v8 := (congrFun ((funext (hA_108 29 rfl)).trans ((funext (hA_81 29 rfl)).trans ((funext (hA_54 29 rfl)).trans ((funext (hA_26 29 rfl)).trans (ew29))))) (x108_2)).symm.trans ev8
                  refine w_sI H (o := 51) (n := 3) rfl (H.perm 51 rfl) rfl rfl (H.fix 51 rfl rfl) (show 0 ≤ x108_2 ∧ x108_2 < ((3 : Nat) : Int) by omega) (by decide) (show (-1 : Int) ≤ v8 ∧ v8 ≤ 9 by omega) (fun σ H => ?_)
                  refine Ew_of (pc' := 126) (fun _ => x_aload_n rfl l108_0) ?_
                  refine w_gT H (o := 6) (t := 52) rfl (H.perm 6 rfl) rfl rfl rfl rfl rfl rfl ?_
                  refine Ew_of (pc' := 130) (fun _ => x_iload_n rfl l108_2) ?_
                  refine Ew_of (pc' := 131) (fun _ => x_aload_n rfl l108_1) ?_
                  refine w_gT H (o := 5) (t := 30) rfl (H.perm 5 rfl) rfl rfl rfl rfl rfl rfl ?_
                  refine Ew_of (pc' := 135) (fun _ => x_iload_n rfl l108_2) ?_
                  refine w_lJ H (o := 30) (n := 3) rfl (H.perm 30 rfl) rfl rfl (H.fix 30 rfl rfl) (show 0 ≤ x108_2 ∧ x108_2 < ((3 : Nat) : Int) by omega) (by decide) (fun v9 ev9 qv9 => ?_)
                  have qv9 : (-9223372036854775808 : Int) ≤ v9 ∧ v9 ≤ 9223372036854775807 := qv9
                  have ev9 : (w30) (x108_2) = v9 := (congrFun ((funext (hA_108 30 rfl)).trans ((funext (hA_81 30 rfl)).trans ((funext (hA_54 30 rfl)).trans ((funext (hA_26 30 rfl)).trans (ew30))))) (x108_2)).symm.trans ev9
                  refine w_l2iA rfl (fun z10 gz10 => ?_)
                  refine w_sI H (o := 52) (n := 3) rfl (H.perm 52 rfl) rfl rfl (H.fix 52 rfl rfl) (show 0 ≤ x108_2 ∧ x108_2 < ((3 : Nat) : Int) by omega) (by decide) (show (-2147483648 : Int) ≤ z10 ∧ z10 ≤ 2147483647 by omega) (fun σ H => ?_)
                  refine Ew_of (pc' := 141) (fun _ => x_iinc (len := 3) rfl (l108_2)) ?_
                  refine Ew_of (pc' := 108) (fun _ => x_goto rfl rfl) ?_
                  have : ∀ i, (0 : Int) ≤ i → i < ((x108_2 + 1)) → ((upd1 (w108_51) (x108_2) (v8))) i = ((w29)) i := pt_copy j108_3 (by omega)
                  exact ih108 _ (by omega) _ σ _ _ ((x108_2 + 1)) (rk_o (l108_0) rfl rfl) (rk_o (l108_1) rfl rfl) (rk_s) H (hS_108) (SA_upd (SA_upd (hA_108) rfl) rfl)  (upd1 (w108_51) (x108_2) (v8)) (congrArg (fun q => upd1 q (x108_2) (v8)) (ew108_51)) (show inr ((x108_2 + 1)) by omega) (show (0) ≤ ((x108_2 + 1)) by omega) (show ((x108_2 + 1)) ≤ (0) ∨ ((x108_2 + 1)) ≤ (3) by omega) (show ∀ i, 0 ≤ i → i < ((x108_2 + 1)) → ((upd1 (w108_51) (x108_2) (v8))) i = ((w29)) i by assumption) rfl
            · refine Ew_of (pc' := 89) (fun _ => x_aload_n rfl l81_0) ?_
              refine w_gT H (o := 6) (t := 50) rfl (H.perm 6 rfl) rfl rfl rfl rfl rfl rfl ?_
              refine Ew_of (pc' := 93) (fun _ => x_iload_n rfl l81_2) ?_
              refine Ew_of (pc' := 94) (fun _ => x_aload_n rfl l81_1) ?_
              refine w_gT H (o := 5) (t := 28) rfl (H.perm 5 rfl) rfl rfl rfl rfl rfl rfl ?_
              refine Ew_of (pc' := 98) (fun _ => x_iload_n rfl l81_2) ?_
              refine w_lI H (o := 28) (n := 192) rfl (H.perm 28 rfl) rfl rfl (H.fix 28 rfl rfl) (show 0 ≤ x81_2 ∧ x81_2 < ((192 : Nat) : Int) by omega) (by decide) (fun v11 ev11 qv11 => ?_)
              have qv11 : (-1 : Int) ≤ v11 ∧ v11 ≤ 512 := qv11
              have ev11 : (w28) (x81_2) = v11 := (congrFun ((funext (hA_81 28 rfl)).trans ((funext (hA_54 28 rfl)).trans ((funext (hA_26 28 rfl)).trans (ew28)))) (x81_2)).symm.trans ev11
              refine w_sI H (o := 50) (n := 192) rfl (H.perm 50 rfl) rfl rfl (H.fix 50 rfl rfl) (show 0 ≤ x81_2 ∧ x81_2 < ((192 : Nat) : Int) by omega) (by decide) (show (-1 : Int) ≤ v11 ∧ v11 ≤ 512 by omega) (fun σ H => ?_)
              refine Ew_of (pc' := 103) (fun _ => x_iinc (len := 3) rfl (l81_2)) ?_
              refine Ew_of (pc' := 81) (fun _ => x_goto rfl rfl) ?_
              have : ∀ i, (0 : Int) ≤ i → i < ((x81_2 + 1)) → ((upd1 (w81_50) (x81_2) (v11))) i = ((w28)) i := pt_copy j81_3 (by omega)
              exact ih81 _ (by omega) _ σ _ _ ((x81_2 + 1)) (rk_o (l81_0) rfl rfl) (rk_o (l81_1) rfl rfl) (rk_s) H (hS_81) (SA_upd (hA_81) rfl)  (upd1 (w81_50) (x81_2) (v11)) (congrArg (fun q => upd1 q (x81_2) (v11)) (ew81_50)) (show inr ((x81_2 + 1)) by omega) (show (0) ≤ ((x81_2 + 1)) by omega) (show ((x81_2 + 1)) ≤ (0) ∨ ((x81_2 + 1)) ≤ ((192)) by omega) (show ∀ i, 0 ≤ i → i < ((x81_2 + 1)) → ((upd1 (w81_50) (x81_2) (v11))) i = ((w28)) i by assumption) rfl
        · refine Ew_of (pc' := 62) (fun _ => x_aload_n rfl l54_0) ?_
          refine w_gT H (o := 6) (t := 49) rfl (H.perm 6 rfl) rfl rfl rfl rfl rfl rfl ?_
          refine Ew_of (pc' := 66) (fun _ => x_iload_n rfl l54_2) ?_
          refine Ew_of (pc' := 67) (fun _ => x_aload_n rfl l54_1) ?_
          refine w_gT H (o := 5) (t := 27) rfl (H.perm 5 rfl) rfl rfl rfl rfl rfl rfl ?_
          refine Ew_of (pc' := 71) (fun _ => x_iload_n rfl l54_2) ?_
          refine w_lI H (o := 27) (n := 256) rfl (H.perm 27 rfl) rfl rfl (H.fix 27 rfl rfl) (show 0 ≤ x54_2 ∧ x54_2 < ((256 : Nat) : Int) by omega) (by decide) (fun v12 ev12 qv12 => ?_)
          have qv12 : (0 : Int) ≤ v12 ∧ v12 ≤ 11 := qv12
          have ev12 : (w27) (x54_2) = v12 := (congrFun ((funext (hA_54 27 rfl)).trans ((funext (hA_26 27 rfl)).trans (ew27))) (x54_2)).symm.trans ev12
          refine w_sI H (o := 49) (n := 256) rfl (H.perm 49 rfl) rfl rfl (H.fix 49 rfl rfl) (show 0 ≤ x54_2 ∧ x54_2 < ((256 : Nat) : Int) by omega) (by decide) (show (0 : Int) ≤ v12 ∧ v12 ≤ 11 by omega) (fun σ H => ?_)
          refine Ew_of (pc' := 76) (fun _ => x_iinc (len := 3) rfl (l54_2)) ?_
          refine Ew_of (pc' := 54) (fun _ => x_goto rfl rfl) ?_
          have : ∀ i, (0 : Int) ≤ i → i < ((x54_2 + 1)) → ((upd1 (w54_49) (x54_2) (v12))) i = ((w27)) i := pt_copy j54_3 (by omega)
          exact ih54 _ (by omega) _ σ _ _ ((x54_2 + 1)) (rk_o (l54_0) rfl rfl) (rk_o (l54_1) rfl rfl) (rk_s) H (hS_54) (SA_upd (hA_54) rfl)  (upd1 (w54_49) (x54_2) (v12)) (congrArg (fun q => upd1 q (x54_2) (v12)) (ew54_49)) (show inr ((x54_2 + 1)) by omega) (show (0) ≤ ((x54_2 + 1)) by omega) (show ((x54_2 + 1)) ≤ (0) ∨ ((x54_2 + 1)) ≤ ((256)) by omega) (show ∀ i, 0 ≤ i → i < ((x54_2 + 1)) → ((upd1 (w54_49) (x54_2) (v12))) i = ((w27)) i by assumption) rfl
    · refine Ew_of (pc' := 35) (fun _ => x_aload_n rfl l26_0) ?_
      refine w_gT H (o := 6) (t := 48) rfl (H.perm 6 rfl) rfl rfl rfl rfl rfl rfl ?_
      refine Ew_of (pc' := 39) (fun _ => x_iload_n rfl l26_2) ?_
      refine Ew_of (pc' := 40) (fun _ => x_aload_n rfl l26_1) ?_
      refine w_gT H (o := 5) (t := 26) rfl (H.perm 5 rfl) rfl rfl rfl rfl rfl rfl ?_
      refine Ew_of (pc' := 44) (fun _ => x_iload_n rfl l26_2) ?_
      refine w_lI H (o := 26) (n := 65536) rfl (H.perm 26 rfl) rfl rfl (H.fix 26 rfl rfl) (show 0 ≤ x26_2 ∧ x26_2 < ((65536 : Nat) : Int) by omega) (by decide) (fun v13 ev13 qv13 => ?_)
      have qv13 : (0 : Int) ≤ v13 ∧ v13 ≤ 255 := qv13
      have ev13 : (A 26) (x26_2) = v13 := (congrFun (funext (hA_26 26 rfl)) (x26_2)).symm.trans ev13
      refine w_sI H (o := 48) (n := 65536) rfl (H.perm 48 rfl) rfl rfl (H.fix 48 rfl rfl) (show 0 ≤ x26_2 ∧ x26_2 < ((65536 : Nat) : Int) by omega) (by decide) (show (0 : Int) ≤ v13 ∧ v13 ≤ 255 by omega) (fun σ H => ?_)
      refine Ew_of (pc' := 49) (fun _ => x_iinc (len := 3) rfl (l26_2)) ?_
      refine Ew_of (pc' := 26) (fun _ => x_goto rfl rfl) ?_
      exact ih26 _ (by omega) _ σ _ _ ((x26_2 + 1)) (rk_o (l26_0) rfl rfl) (rk_o (l26_1) rfl rfl) (rk_s) H (hS_26) (SA_upd (hA_26) rfl)   (show inr ((x26_2 + 1)) by omega) (show (0) ≤ ((x26_2 + 1)) by omega) (show ((x26_2 + 1)) ≤ (0) ∨ ((x26_2 + 1)) ≤ ((u5_2)) by omega) rfl
/-- Writer.run -/
theorem M416 {σ0 σ : rS} {D N : Nat → Nat} {F : hF} {A : hA} {d c s : Nat} {Q : wQ} (H : HS σ0 σ D N F A) {a1 a2 a3 : Int} (w75 : Int → Int) (ew75 : A 75 = w75) (h0 : inr (a1)) (h1 : inr (a2)) (h2 : inr (a3)) (h3 : 0 ≤ (a1) ∧ 0 ≤ (a2) ∧ (a1) + (a2) ≤ 64) (k : ∀ (z : Int) σ F' A', HS σ0 σ D N F' A' → SF [] F F' → SA [75] A A' → ∀ v75 : Int → Int, A' 75 = v75 → (inr (z)) → ((z) = (a1) + (a2)) → ((v75) = rns ((w75)) ((a1)) ((a2)) ((a3))) → Q (some (I z)) σ c s) : Ew 416 (d + 0) 0 (rargs 0 [.ref (D 6), I a1, I a2, I a3]) [] σ c s Q := by
  refine Ew_of (pc' := 1) (fun _ => x_iconst rfl) ?_
  refine Ew_of (pc' := 3) (fun _ => x_istore rfl) ?_
  have : (w75) = rns ((w75)) ((a1)) 0 ((a3)) := rns_0.symm
  suffices hl3 : ∀ (m : Nat), ∀ (ls : rO) (σ : rS) (F_3 : hF) (A_3 : hA) (x3_4 : Int), rlook ls 0 = some (.ref (D 6)) → rlook ls 1 = some (I (a1)) → rlook ls 2 = some (I (a2)) → rlook ls 3 = some (I (a3)) → rlook ls 4 = some (I (x3_4)) → HS σ0 σ D N F_3 A_3 → SF [] F F_3 → SA [75] A A_3 → ∀ w3_75 : Int → Int, A_3 75 = w3_75 → (inr (x3_4)) → ((0) ≤ (x3_4)) → ((x3_4) ≤ (0) ∨ (x3_4) ≤ ((a2))) → ((w3_75) = rns ((w75)) ((a1)) ((x3_4)) ((a3))) → (((a2)) - (x3_4)).toNat = m → Ew 416 (d + 0) 3 ls [] σ c s Q from
    hl3 _ _ σ _ _ (0) (rk_o (rfl) rfl rfl) (rk_o (rfl) rfl rfl) (rk_o (rfl) rfl rfl) (rk_o (rfl) rfl rfl) (rk_s) H (SF_refl) (SA_refl)  (w75) (ew75) (show inr (0) by omega) (show (0) ≤ (0) by omega) (show (0) ≤ (0) ∨ (0) ≤ ((a2)) by omega) (show (w75) = rns ((w75)) ((a1)) ((0)) ((a3)) by assumption) rfl
  as_aux_lemma =>
  intro m
  induction m using Nat.strongRecOn with
  | _ m ih3 =>
    intro ls σ F_3 A_3 x3_4 l3_0 l3_1 l3_2 l3_3 l3_4 H hS_3 hA_3  w3_75 ew3_75 j3_0 j3_1 j3_2 j3_3 hm3
    refine Ew_of (pc' := 5) (fun _ => x_iload rfl l3_4) ?_
    refine Ew_of (pc' := 6) (fun _ => x_iload_n rfl l3_2) ?_
    refine w_icmpge (t := 25) rfl rfl (show inr (x3_4) by omega) (show inr (a2) by omega) (fun b1 => ?_) (fun b1 => ?_)
    · have : (w3_75) = rns ((w75)) ((a1)) ((a2)) ((a3)) := by rw [j3_3, show (x3_4) = (a2) by omega]
      refine Ew_of (pc' := 26) (fun _ => x_iload_n rfl l3_1) ?_
      refine Ew_of (pc' := 27) (fun _ => x_iload_n rfl l3_2) ?_
      refine w_iadd rfl ?_
      exact w_ireturn rfl (k ((a1 + a2)) σ _ _ H (SF_trans (SF_refl) hS_3 (any_sub rfl)) (SA_trans (SA_refl) hA_3 (any_subA rfl)) (w3_75) (ew3_75) (show inr ((a1 + a2)) by omega) (show ((a1 + a2)) = a1 + a2 by omega) (show (w3_75) = rns ((w75)) (a1) (a2) (a3) by assumption))
    · refine Ew_of (pc' := 10) (fun _ => x_aload_n rfl l3_0) ?_
      refine w_gT H (o := 6) (t := 75) rfl (H.perm 6 rfl) rfl rfl rfl rfl rfl rfl ?_
      refine Ew_of (pc' := 14) (fun _ => x_iload_n rfl l3_1) ?_
      refine Ew_of (pc' := 16) (fun _ => x_iload rfl l3_4) ?_
      refine w_iadd rfl ?_
      refine Ew_of (pc' := 18) (fun _ => x_iload_n rfl l3_3) ?_
      refine w_sI H (o := 75) (n := 64) rfl (H.perm 75 rfl) rfl rfl (H.fix 75 rfl rfl) (show 0 ≤ (a1 + x3_4) ∧ (a1 + x3_4) < ((64 : Nat) : Int) by omega) (by decide) (show (-2147483648 : Int) ≤ a3 ∧ a3 ≤ 2147483647 by omega) (fun σ H => ?_)
      refine Ew_of (pc' := 22) (fun _ => x_iinc (len := 3) rfl (l3_4)) ?_
      refine Ew_of (pc' := 3) (fun _ => x_goto rfl rfl) ?_
      have : (upd1 (w3_75) ((a1 + x3_4)) (a3)) = rns ((w75)) ((a1)) (((x3_4 + 1))) ((a3)) := by rw [j3_3]; exact rns_s (by omega)
      exact ih3 _ (by omega) _ σ _ _ ((x3_4 + 1)) (rk_o (l3_0) rfl rfl) (rk_o (l3_1) rfl rfl) (rk_o (l3_2) rfl rfl) (rk_o (l3_3) rfl rfl) (rk_s) H (hS_3) (SA_upd (hA_3) rfl)  (upd1 (w3_75) ((a1 + x3_4)) (a3)) (congrArg (fun q => upd1 q ((a1 + x3_4)) (a3)) (ew3_75)) (show inr ((x3_4 + 1)) by omega) (show (0) ≤ ((x3_4 + 1)) by omega) (show ((x3_4 + 1)) ≤ (0) ∨ ((x3_4 + 1)) ≤ ((a2)) by omega) (show (upd1 (w3_75) ((a1 + x3_4)) (a3)) = rns ((w75)) ((a1)) (((x3_4 + 1))) ((a3)) by assumption) rfl
/-- Writer.know -/
theorem M417 {σ0 σ : rS} {D N : Nat → Nat} {F : hF} {A : hA} {d c s : Nat} {Q : wQ} (H : HS σ0 σ D N F A) {a1 : Int} (h0 : inr (a1)) (h1 : 0 ≤ (a1) ∧ (a1) ≤ 2) (k : ∀ (z : Int) σ F' A', HS σ0 σ D N F' A' → SF [] F F' → SA [75] A A' → ∀ v75 : Int → Int, A' 75 = v75 → (inr (z)) → (5 ≤ (z) ∧ (z) ≤ 6) → ((a1) = 1 ∧ (z) = 5 ∨ (a1) ≠ 1 ∧ (z) = 6) → (SH ((v75)) 0 64 ((z)) (lastOf ((a1)))) → (∀ i, (0 : Int) ≤ i → i < 64 → ((v75)) i = KK ((a1)) i) → Q (some (I z)) σ c s) : Ew 417 (d + 1) 0 (rargs 0 [.ref (D 6), I a1]) [] σ c s Q := by
  refine Ew_of (pc' := 1) (fun _ => x_aload_n rfl rfl) ?_
  refine Ew_of (pc' := 2) (fun _ => x_iconst rfl) ?_
  refine Ew_of (pc' := 4) (fun _ => x_bipush (z := 64) rfl (by decide)) ?_
  refine Ew_of (pc' := 5) (fun _ => x_iconst rfl) ?_
  refine w_inv H (o := 6) rfl rfl rfl (H.perm 6 rfl) rfl rfl (by rfl) (M416 H (A 75) (rfl) (show inr (0) by omega) (show inr (64) by omega) (show inr (0) by omega) (show 0 ≤ (0) ∧ 0 ≤ (64) ∧ (0) + (64) ≤ 64 by omega) (fun z5 σ F1 A2 H hS3 hA4 wq6 ewq7 pz5_0 pz5_1 pz5_2 => ⟨rfl, ?_⟩))
  refine Ew_of (pc' := 9) (fun _ => x_istore_n rfl) ?_
  refine Ew_of (pc' := 10) (fun _ => x_iload_n rfl (rk_o (rfl) rfl rfl)) ?_
  refine w_ifne (t := 76) rfl rfl (show inr (a1) by omega) (fun b8 => ?_) (fun b8 => ?_)
  · refine Ew_of (pc' := 77) (fun _ => x_iload_n rfl (rk_o (rfl) rfl rfl)) ?_
    refine Ew_of (pc' := 78) (fun _ => x_iconst rfl) ?_
    refine w_icmpne (t := 111) rfl rfl (show inr (a1) by omega) (show inr (1) by omega) (fun b9 => ?_) (fun b9 => ?_)
    · refine Ew_of (pc' := 112) (fun _ => x_aload_n rfl (rk_o (rfl) rfl rfl)) ?_
      refine Ew_of (pc' := 113) (fun _ => x_aload_n rfl (rk_o (rfl) rfl rfl)) ?_
      refine Ew_of (pc' := 114) (fun _ => x_aload_n rfl (rk_o (rfl) rfl rfl)) ?_
      refine Ew_of (pc' := 115) (fun _ => x_aload_n rfl (rk_o (rfl) rfl rfl)) ?_
      refine Ew_of (pc' := 116) (fun _ => x_aload_n rfl (rk_o (rfl) rfl rfl)) ?_
      refine Ew_of (pc' := 117) (fun _ => x_aload_n rfl (rk_o (rfl) rfl rfl)) ?_
      refine Ew_of (pc' := 118) (fun _ => x_iconst rfl) ?_
      refine Ew_of (pc' := 119) (fun _ => x_iconst rfl) ?_
      refine Ew_of (pc' := 120) (fun _ => x_iconst rfl) ?_
      refine w_inv H (o := 6) rfl rfl rfl (H.perm 6 rfl) rfl rfl (by rfl) (M416 H (wq6) (ewq7) (show inr (0) by omega) (show inr (1) by omega) (show inr (1) by omega) (show 0 ≤ (0) ∧ 0 ≤ (1) ∧ (0) + (1) ≤ 64 by omega) (fun z14 σ F10 A11 H hS12 hA13 wq15 ewq16 pz14_0 pz14_1 pz14_2 => ⟨rfl, ?_⟩))
      refine Ew_of (pc' := 124) (fun _ => x_iconst rfl) ?_
      refine Ew_of (pc' := 125) (fun _ => x_iconst rfl) ?_
      refine w_inv H (o := 6) rfl rfl rfl (H.perm 6 rfl) rfl rfl (by rfl) (M416 H (wq15) (ewq16) (show inr (z14) by omega) (show inr (1) by omega) (show inr (4) by omega) (show 0 ≤ (z14) ∧ 0 ≤ (1) ∧ (z14) + (1) ≤ 64 by omega) (fun z21 σ F17 A18 H hS19 hA20 wq22 ewq23 pz21_0 pz21_1 pz21_2 => ⟨rfl, ?_⟩))
      refine Ew_of (pc' := 129) (fun _ => x_iconst rfl) ?_
      refine Ew_of (pc' := 130) (fun _ => x_iconst rfl) ?_
      refine w_inv H (o := 6) rfl rfl rfl (H.perm 6 rfl) rfl rfl (by rfl) (M416 H (wq22) (ewq23) (show inr (z21) by omega) (show inr (1) by omega) (show inr (3) by omega) (show 0 ≤ (z21) ∧ 0 ≤ (1) ∧ (z21) + (1) ≤ 64 by omega) (fun z28 σ F24 A25 H hS26 hA27 wq29 ewq30 pz28_0 pz28_1 pz28_2 => ⟨rfl, ?_⟩))
      refine Ew_of (pc' := 135) (fun _ => x_bipush (z := 6) rfl (by decide)) ?_
      refine Ew_of (pc' := 136) (fun _ => x_iconst rfl) ?_
      refine w_inv H (o := 6) rfl rfl rfl (H.perm 6 rfl) rfl rfl (by rfl) (M416 H (wq29) (ewq30) (show inr (z28) by omega) (show inr (6) by omega) (show inr (2) by omega) (show 0 ≤ (z28) ∧ 0 ≤ (6) ∧ (z28) + (6) ≤ 64 by omega) (fun z35 σ F31 A32 H hS33 hA34 wq36 ewq37 pz35_0 pz35_1 pz35_2 => ⟨rfl, ?_⟩))
      refine Ew_of (pc' := 141) (fun _ => x_bipush (z := 37) rfl (by decide)) ?_
      refine Ew_of (pc' := 142) (fun _ => x_iconst rfl) ?_
      refine w_inv H (o := 6) rfl rfl rfl (H.perm 6 rfl) rfl rfl (by rfl) (M416 H (wq36) (ewq37) (show inr (z35) by omega) (show inr (37) by omega) (show inr (1) by omega) (show 0 ≤ (z35) ∧ 0 ≤ (37) ∧ (z35) + (37) ≤ 64 by omega) (fun z42 σ F38 A39 H hS40 hA41 wq43 ewq44 pz42_0 pz42_1 pz42_2 => ⟨rfl, ?_⟩))
      refine Ew_of (pc' := 147) (fun _ => x_bipush (z := 7) rfl (by decide)) ?_
      refine Ew_of (pc' := 148) (fun _ => x_iconst rfl) ?_
      refine w_inv H (o := 6) rfl rfl rfl (H.perm 6 rfl) rfl rfl (by rfl) (M416 H (wq43) (ewq44) (show inr (z42) by omega) (show inr (7) by omega) (show inr ((-1)) by omega) (show 0 ≤ (z42) ∧ 0 ≤ (7) ∧ (z42) + (7) ≤ 64 by omega) (fun z49 σ F45 A46 H hS47 hA48 wq50 ewq51 pz49_0 pz49_1 pz49_2 => ⟨rfl, ?_⟩))
      have hkn : ∀ i, (0 : Int) ≤ i → i < 64 → ((wq50)) (0 + i) = K2 i := by intro i h0 h1; rw [pz49_2, pz42_2, pz35_2, pz28_2, pz21_2, pz14_2, pz5_2]; simp only [rns, K2]; omega
      have : SH ((wq50)) 0 64 6 (lastOf ((a1))) := by rw [show lastOf ((a1)) = 52 by have := lastOf_eq ((a1)); omega]; exact SH_K2 hkn
      have : ∀ i, (0 : Int) ≤ i → i < 64 → ((wq50)) i = KK ((a1)) i := fun i a b => by have := hkn i a b; rw [Int.zero_add] at this; rw [this]; unfold KK; simp [show (a1) = 2 by omega]
      refine Ew_of (pc' := 152) (fun _ => x_istore_n rfl) ?_
      refine Ew_of (pc' := 154) (fun _ => x_bipush (z := 6) rfl (by decide)) ?_
      exact w_ireturn rfl (k (6) σ _ _ H (SF_trans (SF_trans (SF_trans (SF_trans (SF_trans (SF_trans (SF_trans (SF_refl) hS3 (any_sub rfl)) hS12 (any_sub rfl)) hS19 (any_sub rfl)) hS26 (any_sub rfl)) hS33 (any_sub rfl)) hS40 (any_sub rfl)) hS47 (any_sub rfl)) (SA_trans (SA_trans (SA_trans (SA_trans (SA_trans (SA_trans (SA_trans (SA_refl) hA4 (any_subA rfl)) hA13 (any_subA rfl)) hA20 (any_subA rfl)) hA27 (any_subA rfl)) hA34 (any_subA rfl)) hA41 (any_subA rfl)) hA48 (any_subA rfl)) (wq50) (ewq51) (show inr (6) by omega) (show 5 ≤ (6) ∧ (6) ≤ 6 by omega) (show a1 = 1 ∧ (6) = 5 ∨ a1 ≠ 1 ∧ (6) = 6 by omega) (show SH ((wq50)) 0 64 ((6)) (lastOf (a1)) by assumption) (show ∀ i, (0 : Int) ≤ i → i < 64 → ((wq50)) i = KK (a1) i by assumption))
    · refine Ew_of (pc' := 82) (fun _ => x_aload_n rfl (rk_o (rfl) rfl rfl)) ?_
      refine Ew_of (pc' := 83) (fun _ => x_aload_n rfl (rk_o (rfl) rfl rfl)) ?_
      refine Ew_of (pc' := 84) (fun _ => x_aload_n rfl (rk_o (rfl) rfl rfl)) ?_
      refine Ew_of (pc' := 85) (fun _ => x_aload_n rfl (rk_o (rfl) rfl rfl)) ?_
      refine Ew_of (pc' := 86) (fun _ => x_iconst rfl) ?_
      refine Ew_of (pc' := 88) (fun _ => x_bipush (z := 6) rfl (by decide)) ?_
      refine Ew_of (pc' := 89) (fun _ => x_iconst rfl) ?_
      refine w_inv H (o := 6) rfl rfl rfl (H.perm 6 rfl) rfl rfl (by rfl) (M416 H (wq6) (ewq7) (show inr (0) by omega) (show inr (6) by omega) (show inr (1) by omega) (show 0 ≤ (0) ∧ 0 ≤ (6) ∧ (0) + (6) ≤ 64 by omega) (fun z56 σ F52 A53 H hS54 hA55 wq57 ewq58 pz56_0 pz56_1 pz56_2 => ⟨rfl, ?_⟩))
      refine Ew_of (pc' := 93) (fun _ => x_iconst rfl) ?_
      refine Ew_of (pc' := 94) (fun _ => x_iconst rfl) ?_
      refine w_inv H (o := 6) rfl rfl rfl (H.perm 6 rfl) rfl rfl (by rfl) (M416 H (wq57) (ewq58) (show inr (z56) by omega) (show inr (3) by omega) (show inr (2) by omega) (show 0 ≤ (z56) ∧ 0 ≤ (3) ∧ (z56) + (3) ≤ 64 by omega) (fun z63 σ F59 A60 H hS61 hA62 wq64 ewq65 pz63_0 pz63_1 pz63_2 => ⟨rfl, ?_⟩))
      refine Ew_of (pc' := 99) (fun _ => x_bipush (z := 15) rfl (by decide)) ?_
      refine Ew_of (pc' := 100) (fun _ => x_iconst rfl) ?_
      refine w_inv H (o := 6) rfl rfl rfl (H.perm 6 rfl) rfl rfl (by rfl) (M416 H (wq64) (ewq65) (show inr (z63) by omega) (show inr (15) by omega) (show inr (1) by omega) (show 0 ≤ (z63) ∧ 0 ≤ (15) ∧ (z63) + (15) ≤ 64 by omega) (fun z70 σ F66 A67 H hS68 hA69 wq71 ewq72 pz70_0 pz70_1 pz70_2 => ⟨rfl, ?_⟩))
      refine Ew_of (pc' := 104) (fun _ => x_iconst rfl) ?_
      refine Ew_of (pc' := 105) (fun _ => x_iconst rfl) ?_
      refine w_inv H (o := 6) rfl rfl rfl (H.perm 6 rfl) rfl rfl (by rfl) (M416 H (wq71) (ewq72) (show inr (z70) by omega) (show inr (5) by omega) (show inr ((-1)) by omega) (show 0 ≤ (z70) ∧ 0 ≤ (5) ∧ (z70) + (5) ≤ 64 by omega) (fun z77 σ F73 A74 H hS75 hA76 wq78 ewq79 pz77_0 pz77_1 pz77_2 => ⟨rfl, ?_⟩))
      have hkn : ∀ i, (0 : Int) ≤ i → i < 64 → ((wq78)) (0 + i) = K1 i := by intro i h0 h1; rw [pz77_2, pz70_2, pz63_2, pz56_2, pz5_2]; simp only [rns, K1]; omega
      have : SH ((wq78)) 0 64 5 (lastOf ((a1))) := by rw [show lastOf ((a1)) = 31 by have := lastOf_eq ((a1)); omega]; exact SH_K1 hkn
      have : ∀ i, (0 : Int) ≤ i → i < 64 → ((wq78)) i = KK ((a1)) i := fun i a b => by have := hkn i a b; rw [Int.zero_add] at this; rw [this]; unfold KK; simp [show (a1) = 1 by omega]
      refine Ew_of (pc' := 109) (fun _ => x_istore_n rfl) ?_
      refine Ew_of (pc' := 110) (fun _ => x_iconst rfl) ?_
      exact w_ireturn rfl (k (5) σ _ _ H (SF_trans (SF_trans (SF_trans (SF_trans (SF_trans (SF_refl) hS3 (any_sub rfl)) hS54 (any_sub rfl)) hS61 (any_sub rfl)) hS68 (any_sub rfl)) hS75 (any_sub rfl)) (SA_trans (SA_trans (SA_trans (SA_trans (SA_trans (SA_refl) hA4 (any_subA rfl)) hA55 (any_subA rfl)) hA62 (any_subA rfl)) hA69 (any_subA rfl)) hA76 (any_subA rfl)) (wq78) (ewq79) (show inr (5) by omega) (show 5 ≤ (5) ∧ (5) ≤ 6 by omega) (show a1 = 1 ∧ (5) = 5 ∨ a1 ≠ 1 ∧ (5) = 6 by omega) (show SH ((wq78)) 0 64 ((5)) (lastOf (a1)) by assumption) (show ∀ i, (0 : Int) ≤ i → i < 64 → ((wq78)) i = KK (a1) i by assumption))
  · refine Ew_of (pc' := 14) (fun _ => x_aload_n rfl (rk_o (rfl) rfl rfl)) ?_
    refine Ew_of (pc' := 15) (fun _ => x_aload_n rfl (rk_o (rfl) rfl rfl)) ?_
    refine Ew_of (pc' := 16) (fun _ => x_aload_n rfl (rk_o (rfl) rfl rfl)) ?_
    refine Ew_of (pc' := 17) (fun _ => x_aload_n rfl (rk_o (rfl) rfl rfl)) ?_
    refine Ew_of (pc' := 18) (fun _ => x_iconst rfl) ?_
    refine Ew_of (pc' := 19) (fun _ => x_iconst rfl) ?_
    refine Ew_of (pc' := 20) (fun _ => x_iconst rfl) ?_
    refine w_inv H (o := 6) rfl rfl rfl (H.perm 6 rfl) rfl rfl (by rfl) (M416 H (wq6) (ewq7) (show inr (0) by omega) (show inr (1) by omega) (show inr (4) by omega) (show 0 ≤ (0) ∧ 0 ≤ (1) ∧ (0) + (1) ≤ 64 by omega) (fun z84 σ F80 A81 H hS82 hA83 wq85 ewq86 pz84_0 pz84_1 pz84_2 => ⟨rfl, ?_⟩))
    refine Ew_of (pc' := 24) (fun _ => x_iconst rfl) ?_
    refine Ew_of (pc' := 25) (fun _ => x_iconst rfl) ?_
    refine w_inv H (o := 6) rfl rfl rfl (H.perm 6 rfl) rfl rfl (by rfl) (M416 H (wq85) (ewq86) (show inr (z84) by omega) (show inr (1) by omega) (show inr (3) by omega) (show 0 ≤ (z84) ∧ 0 ≤ (1) ∧ (z84) + (1) ≤ 64 by omega) (fun z91 σ F87 A88 H hS89 hA90 wq92 ewq93 pz91_0 pz91_1 pz91_2 => ⟨rfl, ?_⟩))
    refine Ew_of (pc' := 30) (fun _ => x_bipush (z := 11) rfl (by decide)) ?_
    refine Ew_of (pc' := 31) (fun _ => x_iconst rfl) ?_
    refine w_inv H (o := 6) rfl rfl rfl (H.perm 6 rfl) rfl rfl (by rfl) (M416 H (wq92) (ewq93) (show inr (z91) by omega) (show inr (11) by omega) (show inr (2) by omega) (show 0 ≤ (z91) ∧ 0 ≤ (11) ∧ (z91) + (11) ≤ 64 by omega) (fun z98 σ F94 A95 H hS96 hA97 wq99 ewq100 pz98_0 pz98_1 pz98_2 => ⟨rfl, ?_⟩))
    refine Ew_of (pc' := 35) (fun _ => x_iconst rfl) ?_
    refine Ew_of (pc' := 36) (fun _ => x_iconst rfl) ?_
    refine w_inv H (o := 6) rfl rfl rfl (H.perm 6 rfl) rfl rfl (by rfl) (M416 H (wq99) (ewq100) (show inr (z98) by omega) (show inr (3) by omega) (show inr (1) by omega) (show 0 ≤ (z98) ∧ 0 ≤ (3) ∧ (z98) + (3) ≤ 64 by omega) (fun z105 σ F101 A102 H hS103 hA104 wq106 ewq107 pz105_0 pz105_1 pz105_2 => ⟨rfl, ?_⟩))
    refine Ew_of (pc' := 40) (fun _ => x_istore_n rfl) ?_
    refine Ew_of (pc' := 41) (fun _ => x_aload_n rfl (rk_o (rk_o (rfl) rfl rfl) rfl rfl)) ?_
    refine Ew_of (pc' := 42) (fun _ => x_aload_n rfl (rk_o (rk_o (rfl) rfl rfl) rfl rfl)) ?_
    refine Ew_of (pc' := 43) (fun _ => x_aload_n rfl (rk_o (rk_o (rfl) rfl rfl) rfl rfl)) ?_
    refine Ew_of (pc' := 44) (fun _ => x_aload_n rfl (rk_o (rk_o (rfl) rfl rfl) rfl rfl)) ?_
    refine Ew_of (pc' := 45) (fun _ => x_aload_n rfl (rk_o (rk_o (rfl) rfl rfl) rfl rfl)) ?_
    refine Ew_of (pc' := 46) (fun _ => x_iload_n rfl rk_s) ?_
    refine Ew_of (pc' := 48) (fun _ => x_bipush (z := 9) rfl (by decide)) ?_
    refine Ew_of (pc' := 49) (fun _ => x_iconst rfl) ?_
    refine w_inv H (o := 6) rfl rfl rfl (H.perm 6 rfl) rfl rfl (by rfl) (M416 H (wq106) (ewq107) (show inr (z105) by omega) (show inr (9) by omega) (show inr (2) by omega) (show 0 ≤ (z105) ∧ 0 ≤ (9) ∧ (z105) + (9) ≤ 64 by omega) (fun z112 σ F108 A109 H hS110 hA111 wq113 ewq114 pz112_0 pz112_1 pz112_2 => ⟨rfl, ?_⟩))
    refine Ew_of (pc' := 53) (fun _ => x_iconst rfl) ?_
    refine Ew_of (pc' := 54) (fun _ => x_iconst rfl) ?_
    refine w_inv H (o := 6) rfl rfl rfl (H.perm 6 rfl) rfl rfl (by rfl) (M416 H (wq113) (ewq114) (show inr (z112) by omega) (show inr (1) by omega) (show inr (3) by omega) (show 0 ≤ (z112) ∧ 0 ≤ (1) ∧ (z112) + (1) ≤ 64 by omega) (fun z119 σ F115 A116 H hS117 hA118 wq120 ewq121 pz119_0 pz119_1 pz119_2 => ⟨rfl, ?_⟩))
    refine Ew_of (pc' := 58) (fun _ => x_iconst rfl) ?_
    refine Ew_of (pc' := 59) (fun _ => x_iconst rfl) ?_
    refine w_inv H (o := 6) rfl rfl rfl (H.perm 6 rfl) rfl rfl (by rfl) (M416 H (wq120) (ewq121) (show inr (z119) by omega) (show inr (1) by omega) (show inr (2) by omega) (show 0 ≤ (z119) ∧ 0 ≤ (1) ∧ (z119) + (1) ≤ 64 by omega) (fun z126 σ F122 A123 H hS124 hA125 wq127 ewq128 pz126_0 pz126_1 pz126_2 => ⟨rfl, ?_⟩))
    refine Ew_of (pc' := 63) (fun _ => x_iconst rfl) ?_
    refine Ew_of (pc' := 64) (fun _ => x_iconst rfl) ?_
    refine w_inv H (o := 6) rfl rfl rfl (H.perm 6 rfl) rfl rfl (by rfl) (M416 H (wq127) (ewq128) (show inr (z126) by omega) (show inr (5) by omega) (show inr (1) by omega) (show 0 ≤ (z126) ∧ 0 ≤ (5) ∧ (z126) + (5) ≤ 64 by omega) (fun z133 σ F129 A130 H hS131 hA132 wq134 ewq135 pz133_0 pz133_1 pz133_2 => ⟨rfl, ?_⟩))
    refine Ew_of (pc' := 68) (fun _ => x_iconst rfl) ?_
    refine Ew_of (pc' := 69) (fun _ => x_iconst rfl) ?_
    refine w_inv H (o := 6) rfl rfl rfl (H.perm 6 rfl) rfl rfl (by rfl) (M416 H (wq134) (ewq135) (show inr (z133) by omega) (show inr (4) by omega) (show inr ((-1)) by omega) (show 0 ≤ (z133) ∧ 0 ≤ (4) ∧ (z133) + (4) ≤ 64 by omega) (fun z140 σ F136 A137 H hS138 hA139 wq141 ewq142 pz140_0 pz140_1 pz140_2 => ⟨rfl, ?_⟩))
    have hkn : ∀ i, (0 : Int) ≤ i → i < 64 → ((wq141)) (0 + i) = K0 i := by intro i h0 h1; rw [pz140_2, pz133_2, pz126_2, pz119_2, pz112_2, pz105_2, pz98_2, pz91_2, pz84_2, pz5_2]; simp only [rns, K0]; omega
    have : SH ((wq141)) 0 64 6 (lastOf ((a1))) := by rw [show lastOf ((a1)) = 35 by have := lastOf_eq ((a1)); omega]; exact SH_K0 hkn
    have : ∀ i, (0 : Int) ≤ i → i < 64 → ((wq141)) i = KK ((a1)) i := fun i a b => by have := hkn i a b; rw [Int.zero_add] at this; rw [this]; unfold KK; simp [show (a1) = 0 by omega]
    refine Ew_of (pc' := 73) (fun _ => x_istore_n rfl) ?_
    refine Ew_of (pc' := 75) (fun _ => x_bipush (z := 6) rfl (by decide)) ?_
    exact w_ireturn rfl (k (6) σ _ _ H (SF_trans (SF_trans (SF_trans (SF_trans (SF_trans (SF_trans (SF_trans (SF_trans (SF_trans (SF_trans (SF_refl) hS3 (any_sub rfl)) hS82 (any_sub rfl)) hS89 (any_sub rfl)) hS96 (any_sub rfl)) hS103 (any_sub rfl)) hS110 (any_sub rfl)) hS117 (any_sub rfl)) hS124 (any_sub rfl)) hS131 (any_sub rfl)) hS138 (any_sub rfl)) (SA_trans (SA_trans (SA_trans (SA_trans (SA_trans (SA_trans (SA_trans (SA_trans (SA_trans (SA_trans (SA_refl) hA4 (any_subA rfl)) hA83 (any_subA rfl)) hA90 (any_subA rfl)) hA97 (any_subA rfl)) hA104 (any_subA rfl)) hA111 (any_subA rfl)) hA118 (any_subA rfl)) hA125 (any_subA rfl)) hA132 (any_subA rfl)) hA139 (any_subA rfl)) (wq141) (ewq142) (show inr (6) by omega) (show 5 ≤ (6) ∧ (6) ≤ 6 by omega) (show a1 = 1 ∧ (6) = 5 ∨ a1 ≠ 1 ∧ (6) = 6 by omega) (show SH ((wq141)) 0 64 ((6)) (lastOf (a1)) by assumption) (show ∀ i, (0 : Int) ≤ i → i < 64 → ((wq141)) i = KK (a1) i by assumption))
/-- Writer.weighing -/
theorem M421 {σ0 σ : rS} {D N : Nat → Nat} {F : hF} {A : hA} {d c s : Nat} {Q : wQ} (H : HS σ0 σ D N F A) {a1 a2 : Int} (w82 : Int → Int) (ew82 : A 82 = w82) (h0 : inr (a1)) (h1 : inr (a2)) (h2 : 0 ≤ (a1) ∧ (a1) ≤ 255) (h3 : 0 ≤ (a2) ∧ (a2) ≤ 11) (h4 : BD ((w82))) (k : ∀ (z : Int) σ F' A', HS σ0 σ D N F' A' → SF [] F F' → SA [] A A' → (inr (z)) → (((w82)) ((a1)) = 0 ∧ (z) = 0 ∨ ((w82)) ((a1)) ≠ 0 ∧ (z) = (a2) + 1 - ((w82)) ((a1))) → Q (some (I z)) σ c s) : Ew 421 (d + 0) 0 (rargs 0 [.ref (D 6), I a1, I a2]) [] σ c s Q := by
  have hbd := (show BD ((w82)) from by assumption) ((a1)) (by omega) (by omega)
  refine Ew_of (pc' := 1) (fun _ => x_aload_n rfl rfl) ?_
  refine w_gT H (o := 6) (t := 82) rfl (H.perm 6 rfl) rfl rfl rfl rfl rfl rfl ?_
  refine Ew_of (pc' := 5) (fun _ => x_iload_n rfl rfl) ?_
  refine w_lI H (o := 82) (n := 256) rfl (H.perm 82 rfl) rfl rfl (H.fix 82 rfl rfl) (show 0 ≤ a1 ∧ a1 < ((256 : Nat) : Int) by omega) (by decide) (fun v1 ev1 qv1 => ?_)
  have qv1 : (-2147483648 : Int) ≤ v1 ∧ v1 ≤ 2147483647 := qv1
  have ev1 : (w82) (a1) = v1 := (congrFun (ew82) (a1)).symm.trans ev1
  refine w_ifne (t := 13) rfl rfl (show inr (v1) by omega) (fun b2 => ?_) (fun b2 => ?_)
  · refine Ew_of (pc' := 14) (fun _ => x_iload_n rfl rfl) ?_
    refine Ew_of (pc' := 15) (fun _ => x_iconst rfl) ?_
    refine w_iadd rfl ?_
    refine Ew_of (pc' := 17) (fun _ => x_aload_n rfl rfl) ?_
    refine w_gT H (o := 6) (t := 82) rfl (H.perm 6 rfl) rfl rfl rfl rfl rfl rfl ?_
    refine Ew_of (pc' := 21) (fun _ => x_iload_n rfl rfl) ?_
    refine w_lI H (o := 82) (n := 256) rfl (H.perm 82 rfl) rfl rfl (H.fix 82 rfl rfl) (show 0 ≤ a1 ∧ a1 < ((256 : Nat) : Int) by omega) (by decide) (fun v3 ev3 qv3 => ?_)
    have qv3 : (-2147483648 : Int) ≤ v3 ∧ v3 ≤ 2147483647 := qv3
    have ev3 : (w82) (a1) = v3 := (congrFun (ew82) (a1)).symm.trans ev3
    refine w_isub rfl ?_
    exact w_ireturn rfl (k (((a2 + 1) - v3)) σ _ _ H (SF_refl) (SA_refl) (show inr (((a2 + 1) - v3)) by omega) (show ((w82)) (a1) = 0 ∧ (((a2 + 1) - v3)) = 0 ∨ ((w82)) (a1) ≠ 0 ∧ (((a2 + 1) - v3)) = a2 + 1 - ((w82)) (a1) by omega))
  · refine Ew_of (pc' := 10) (fun _ => x_iconst rfl) ?_
    refine Ew_of (pc' := 23) (fun _ => x_goto rfl rfl) ?_
    exact w_ireturn rfl (k (0) σ _ _ H (SF_refl) (SA_refl) (show inr (0) by omega) (show ((w82)) (a1) = 0 ∧ (0) = 0 ∨ ((w82)) (a1) ≠ 0 ∧ (0) = a2 + 1 - ((w82)) (a1) by omega))
/-- Writer.streamBytes -/
theorem M424_53 {σ0 σ : rS} {D N : Nat → Nat} {F : hF} {A : hA} {d c s : Nat} {Q : wQ} (H : HS σ0 σ D N F A) {a2 a3 : Int} (w53 : Int → Int) (ew53 : A 53 = w53) (w65 : Int → Int) (ew65 : A 65 = w65) (h0 : inr (a2)) (h1 : inr (a3)) (h2 : 0 ≤ (a2) ∧ (a2) ≤ (a3) ∧ (a3) ≤ 16385) (h3 : BD ((w53))) (k : ∀ (z : Int) σ F' A', HS σ0 σ D N F' A' → SF [] F F' → SA [] A A' → (inr (z)) → (0 ≤ (z) ∧ (z) ≤ 2 * ((a3) - (a2)) + 2) → ((z) = (1 + szF ((w53)) ((w65)) ((a2)) ((a3) - (a2) : Int).toNat + 7) / 8) → Q (some (I z)) σ c s) : Ew 424 (d + 0) 0 (rargs 0 [.ref (D 6), .ref (D 53), I a2, I a3]) [] σ c s Q := by
  refine Ew_of (pc' := 1) (fun _ => x_iconst rfl) ?_
  refine Ew_of (pc' := 3) (fun _ => x_istore rfl) ?_
  refine Ew_of (pc' := 4) (fun _ => x_iload_n rfl (rk_o (rfl) rfl rfl)) ?_
  refine Ew_of (pc' := 6) (fun _ => x_istore rfl) ?_
  have : (1 : Int) = 1 + szF ((w53)) ((w65)) ((a2)) ((a2) - (a2) : Int).toNat := by rw [szF_0 (by omega)]; rfl
  suffices hl6 : ∀ (m : Nat), ∀ (ls : rO) (σ : rS) (F_6 : hF) (A_6 : hA) (x6_4 : Int) (x6_5 : Int), rlook ls 0 = some (.ref (D 6)) → rlook ls 1 = some (.ref (D 53)) → rlook ls 3 = some (I (a3)) → rlook ls 4 = some (I (x6_4)) → rlook ls 5 = some (I (x6_5)) → HS σ0 σ D N F_6 A_6 → SF [] F F_6 → SA [] A A_6 → (inr (x6_4)) → (inr (x6_5)) → ((a2) ≤ (x6_5)) → ((x6_5) ≤ (a2) ∨ (x6_5) ≤ ((a3))) → (1 ≤ (x6_4) ∧ (x6_4) ≤ 1 + 11 * ((x6_5) - (a2))) → ((x6_4) = 1 + szF ((w53)) ((w65)) ((a2)) ((x6_5) - (a2) : Int).toNat) → (((a3)) - (x6_5)).toNat = m → Ew 424 (d + 0) 6 ls [] σ c s Q from
    hl6 _ _ σ _ _ (1) (a2) (rk_o (rk_o (rfl) rfl rfl) rfl rfl) (rk_o (rk_o (rfl) rfl rfl) rfl rfl) (rk_o (rk_o (rfl) rfl rfl) rfl rfl) (rk_o (rk_s) rfl rfl) (rk_s) H (SF_refl) (SA_refl)   (show inr (1) by omega) (show inr (a2) by omega) (show (a2) ≤ (a2) by omega) (show (a2) ≤ (a2) ∨ (a2) ≤ ((a3)) by omega) (show 1 ≤ (1) ∧ (1) ≤ 1 + 11 * ((a2) - (a2)) by omega) (show (1) = 1 + szF ((w53)) ((w65)) ((a2)) ((a2) - (a2) : Int).toNat by assumption) rfl
  as_aux_lemma =>
  intro m
  induction m using Nat.strongRecOn with
  | _ m ih6 =>
    intro ls σ F_6 A_6 x6_4 x6_5 l6_0 l6_1 l6_3 l6_4 l6_5 H hS_6 hA_6   j6_0 j6_1 j6_2 j6_3 j6_4 j6_5 hm6
    have j6_s : (x6_4) = 1 + szF ((w53)) ((w65)) ((a2)) ((x6_5) - (a2) : Int).toNat := by assumption
    refine Ew_of (pc' := 8) (fun _ => x_iload rfl l6_5) ?_
    refine Ew_of (pc' := 9) (fun _ => x_iload_n rfl l6_3) ?_
    refine w_icmpge (t := 32) rfl rfl (show inr (x6_5) by omega) (show inr (a3) by omega) (fun b1 => ?_) (fun b1 => ?_)
    · refine Ew_of (pc' := 34) (fun _ => x_iload rfl l6_4) ?_
      refine Ew_of (pc' := 36) (fun _ => x_bipush (z := 7) rfl (by decide)) ?_
      refine w_iadd rfl ?_
      refine Ew_of (pc' := 39) (fun _ => x_bipush (z := 8) rfl (by decide)) ?_
      refine w_idiv rfl (show inr ((x6_4 + 7)) ∧ 0 ≤ (x6_4 + 7) by omega) (show inr (8) ∧ 0 < 8 by omega) ?_
      have : (((x6_4 + 7) / 8)) = (1 + szF ((w53)) ((w65)) ((a2)) ((a3) - (a2) : Int).toNat + 7) / 8 := by rw [show ((a3) : Int) = (x6_5) by omega, ← j6_s]
      exact w_ireturn rfl (k (((x6_4 + 7) / 8)) σ _ _ H (SF_trans (SF_refl) hS_6 (any_sub rfl)) (SA_trans (SA_refl) hA_6 (any_subA rfl)) (show inr (((x6_4 + 7) / 8)) by omega) (show 0 ≤ (((x6_4 + 7) / 8)) ∧ (((x6_4 + 7) / 8)) ≤ 2 * (a3 - a2) + 2 by omega) (show (((x6_4 + 7) / 8)) = (1 + szF ((w53)) ((w65)) (a2) (a3 - a2 : Int).toNat + 7) / 8 by assumption))
    · obtain ⟨ql5, hql5⟩ : ∃ q : Int, q = (x6_5) := ⟨_, rfl⟩
      refine Ew_of (pc' := 14) (fun _ => x_iload rfl l6_4) ?_
      refine Ew_of (pc' := 15) (fun _ => x_aload_n rfl l6_1) ?_
      refine Ew_of (pc' := 16) (fun _ => x_aload_n rfl l6_0) ?_
      refine w_gT H (o := 6) (t := 65) rfl (H.perm 6 rfl) rfl rfl rfl rfl rfl rfl ?_
      refine Ew_of (pc' := 21) (fun _ => x_iload rfl l6_5) ?_
      refine w_lI H (o := 65) (n := 16385) rfl (H.perm 65 rfl) rfl rfl (H.fix 65 rfl rfl) (show 0 ≤ x6_5 ∧ x6_5 < ((16385 : Nat) : Int) by omega) (by decide) (fun v2 ev2 qv2 => ?_)
      have qv2 : (0 : Int) ≤ v2 ∧ v2 ≤ 255 := qv2
      have ev2 : (w65) (x6_5) = v2 := (congrFun ((funext (hA_6 65 rfl)).trans (ew65)) (x6_5)).symm.trans ev2
      have he22 : ((w65)) ql5 = (v2) := by rw [hql5]; exact ev2
      have hbd := (show BD ((w53)) from by assumption) ((v2)) (by omega) (by omega)
      refine w_lI H (o := 53) (n := 256) rfl (H.perm 53 rfl) rfl rfl (H.fix 53 rfl rfl) (show 0 ≤ v2 ∧ v2 < ((256 : Nat) : Int) by omega) (by decide) (fun v3 ev3 qv3 => ?_)
      have qv3 : (0 : Int) ≤ v3 ∧ v3 ≤ 11 := qv3
      have ev3 : (w53) (v2) = v3 := (congrFun ((funext (hA_6 53 rfl)).trans (ew53)) (v2)).symm.trans ev3
      have hv23 : ((w53)) (((w65)) ql5) = (v3) := by rw [he22]; exact ev3
      refine w_iadd rfl ?_
      refine Ew_of (pc' := 26) (fun _ => x_istore rfl) ?_
      refine Ew_of (pc' := 29) (fun _ => x_iinc (len := 3) rfl (rk_o (l6_5) rfl rfl)) ?_
      refine Ew_of (pc' := 6) (fun _ => x_goto rfl rfl) ?_
      have : ((x6_4 + v3)) = 1 + szF ((w53)) ((w65)) ((a2)) (((x6_5 + 1)) - (a2) : Int).toNat := by rw [szF_s (n := ql5 - (a2)) (i := ql5) (by omega) (by omega) (by omega) hv23, hql5]; omega
      exact ih6 _ (by omega) _ σ _ _ ((x6_4 + v3)) ((x6_5 + 1)) (rk_o (rk_o (l6_0) rfl rfl) rfl rfl) (rk_o (rk_o (l6_1) rfl rfl) rfl rfl) (rk_o (rk_o (l6_3) rfl rfl) rfl rfl) (rk_o (rk_s) rfl rfl) (rk_s) H (hS_6) (hA_6)   (show inr ((x6_4 + v3)) by omega) (show inr ((x6_5 + 1)) by omega) (show (a2) ≤ ((x6_5 + 1)) by omega) (show ((x6_5 + 1)) ≤ (a2) ∨ ((x6_5 + 1)) ≤ ((a3)) by omega) (show 1 ≤ ((x6_4 + v3)) ∧ ((x6_4 + v3)) ≤ 1 + 11 * (((x6_5 + 1)) - (a2)) by omega) (show ((x6_4 + v3)) = 1 + szF ((w53)) ((w65)) ((a2)) (((x6_5 + 1)) - (a2) : Int).toNat by assumption) rfl
/-- Writer.fourBytes -/
theorem M425_53 {σ0 σ : rS} {D N : Nat → Nat} {F : hF} {A : hA} {d c s : Nat} {Q : wQ} (H : HS σ0 σ D N F A)  (u6_30 : Int) (eu6_30 : F 6 30 = u6_30) (w53 : Int → Int) (ew53 : A 53 = w53) (w65 : Int → Int) (ew65 : A 65 = w65) (h0 : BD ((w53))) (h1 : 1024 ≤ (u6_30)) (k : ∀ (z : Int) σ F' A', HS σ0 σ D N F' A' → SF [] F F' → SA [] A A' → (inr (z)) → (0 ≤ (z) ∧ (z) ≤ 40000) → ((z) = STZ ((w53)) ((w65)) ((u6_30))) → Q (some (I z)) σ c s) : Ew 425 (d + 1) 0 (rargs 0 [.ref (D 6), .ref (D 53)]) [] σ c s Q := by
  have r1 : (0 : Int) ≤ u6_30 ∧ u6_30 ≤ 16385 := by have h1 : (0 : Int) ≤ F 6 30 ∧ F 6 30 ≤ 16385 := H.frng 6 30; rw [show F 6 30 = u6_30 from (eu6_30)] at h1; exact h1
  refine Ew_of (pc' := 1) (fun _ => x_aload_n rfl rfl) ?_
  refine w_gI H (o := 6) (w := u6_30) rfl (H.perm 6 rfl) rfl rfl rfl (fun _ => rfl) (eu6_30) ?_
  refine Ew_of (pc' := 5) (fun _ => x_iconst rfl) ?_
  refine w_iadd rfl ?_
  refine Ew_of (pc' := 7) (fun _ => x_iconst rfl) ?_
  refine w_idiv rfl (show inr ((u6_30 + 3)) ∧ 0 ≤ (u6_30 + 3) by omega) (show inr (4) ∧ 0 < 4 by omega) ?_
  refine Ew_of (pc' := 9) (fun _ => x_istore_n rfl) ?_
  refine Ew_of (pc' := 11) (fun _ => x_bipush (z := 6) rfl (by decide)) ?_
  refine Ew_of (pc' := 12) (fun _ => x_aload_n rfl (rk_o (rfl) rfl rfl)) ?_
  refine Ew_of (pc' := 13) (fun _ => x_aload_n rfl (rk_o (rfl) rfl rfl)) ?_
  refine Ew_of (pc' := 14) (fun _ => x_iconst rfl) ?_
  refine Ew_of (pc' := 15) (fun _ => x_iload_n rfl rk_s) ?_
  refine w_inv H (o := 6) rfl rfl rfl (H.perm 6 rfl) rfl rfl (by rfl) (M424_53 H (w53) (ew53) (w65) (ew65) (show inr (0) by omega) (show inr (((u6_30 + 3) / 4)) by omega) (show 0 ≤ (0) ∧ (0) ≤ (((u6_30 + 3) / 4)) ∧ (((u6_30 + 3) / 4)) ≤ 16385 by omega) (show BD ((w53)) by assumption) (fun z6 σ F2 A3 H hS4 hA5 pz6_0 pz6_1 pz6_2 => ⟨rfl, ?_⟩))
  have e15 : z6 = z1F ((w53)) ((w65)) 0 ((((u6_30 + 3) / 4))) := pz6_2
  refine w_iadd rfl ?_
  refine Ew_of (pc' := 20) (fun _ => x_aload_n rfl (rk_o (rfl) rfl rfl)) ?_
  refine Ew_of (pc' := 21) (fun _ => x_aload_n rfl (rk_o (rfl) rfl rfl)) ?_
  refine Ew_of (pc' := 22) (fun _ => x_iload_n rfl rk_s) ?_
  refine Ew_of (pc' := 23) (fun _ => x_iconst rfl) ?_
  refine Ew_of (pc' := 24) (fun _ => x_iload_n rfl rk_s) ?_
  refine w_imul rfl ?_
  refine w_inv H (o := 6) rfl rfl rfl (H.perm 6 rfl) rfl rfl (by rfl) (M424_53 H (w53) ((funext (hA5 53 rfl)).trans (ew53)) (w65) ((funext (hA5 65 rfl)).trans (ew65)) (show inr (((u6_30 + 3) / 4)) by omega) (show inr ((2 * ((u6_30 + 3) / 4))) by omega) (show 0 ≤ (((u6_30 + 3) / 4)) ∧ (((u6_30 + 3) / 4)) ≤ ((2 * ((u6_30 + 3) / 4))) ∧ ((2 * ((u6_30 + 3) / 4))) ≤ 16385 by omega) (show BD ((w53)) by assumption) (fun z11 σ F7 A8 H hS9 hA10 pz11_0 pz11_1 pz11_2 => ⟨rfl, ?_⟩))
  have e25 : z11 = z1F ((w53)) ((w65)) ((((u6_30 + 3) / 4))) (2 * (((u6_30 + 3) / 4))) := pz11_2
  refine w_iadd rfl ?_
  refine Ew_of (pc' := 30) (fun _ => x_aload_n rfl (rk_o (rfl) rfl rfl)) ?_
  refine Ew_of (pc' := 31) (fun _ => x_aload_n rfl (rk_o (rfl) rfl rfl)) ?_
  refine Ew_of (pc' := 32) (fun _ => x_iconst rfl) ?_
  refine Ew_of (pc' := 33) (fun _ => x_iload_n rfl rk_s) ?_
  refine w_imul rfl ?_
  refine Ew_of (pc' := 35) (fun _ => x_iconst rfl) ?_
  refine Ew_of (pc' := 36) (fun _ => x_iload_n rfl rk_s) ?_
  refine w_imul rfl ?_
  refine w_inv H (o := 6) rfl rfl rfl (H.perm 6 rfl) rfl rfl (by rfl) (M424_53 H (w53) ((funext (hA10 53 rfl)).trans ((funext (hA5 53 rfl)).trans (ew53))) (w65) ((funext (hA10 65 rfl)).trans ((funext (hA5 65 rfl)).trans (ew65))) (show inr ((2 * ((u6_30 + 3) / 4))) by omega) (show inr ((3 * ((u6_30 + 3) / 4))) by omega) (show 0 ≤ ((2 * ((u6_30 + 3) / 4))) ∧ ((2 * ((u6_30 + 3) / 4))) ≤ ((3 * ((u6_30 + 3) / 4))) ∧ ((3 * ((u6_30 + 3) / 4))) ≤ 16385 by omega) (show BD ((w53)) by assumption) (fun z16 σ F12 A13 H hS14 hA15 pz16_0 pz16_1 pz16_2 => ⟨rfl, ?_⟩))
  have e37 : z16 = z1F ((w53)) ((w65)) (2 * (((u6_30 + 3) / 4))) (3 * (((u6_30 + 3) / 4))) := pz16_2
  refine w_iadd rfl ?_
  refine Ew_of (pc' := 42) (fun _ => x_aload_n rfl (rk_o (rfl) rfl rfl)) ?_
  refine Ew_of (pc' := 43) (fun _ => x_aload_n rfl (rk_o (rfl) rfl rfl)) ?_
  refine Ew_of (pc' := 44) (fun _ => x_iconst rfl) ?_
  refine Ew_of (pc' := 45) (fun _ => x_iload_n rfl rk_s) ?_
  refine w_imul rfl ?_
  refine Ew_of (pc' := 47) (fun _ => x_aload_n rfl (rk_o (rfl) rfl rfl)) ?_
  refine w_gI H (o := 6) (w := u6_30) rfl (H.perm 6 rfl) rfl rfl rfl (fun _ => rfl) ((((hS14 6 30 rfl).trans (hS9 6 30 rfl)).trans (hS4 6 30 rfl)).trans (eu6_30)) ?_
  refine w_inv H (o := 6) rfl rfl rfl (H.perm 6 rfl) rfl rfl (by rfl) (M424_53 H (w53) ((funext (hA15 53 rfl)).trans ((funext (hA10 53 rfl)).trans ((funext (hA5 53 rfl)).trans (ew53)))) (w65) ((funext (hA15 65 rfl)).trans ((funext (hA10 65 rfl)).trans ((funext (hA5 65 rfl)).trans (ew65)))) (show inr ((3 * ((u6_30 + 3) / 4))) by omega) (show inr (u6_30) by omega) (show 0 ≤ ((3 * ((u6_30 + 3) / 4))) ∧ ((3 * ((u6_30 + 3) / 4))) ≤ (u6_30) ∧ (u6_30) ≤ 16385 by omega) (show BD ((w53)) by assumption) (fun z21 σ F17 A18 H hS19 hA20 pz21_0 pz21_1 pz21_2 => ⟨rfl, ?_⟩))
  have e50 : z21 = z1F ((w53)) ((w65)) (3 * (((u6_30 + 3) / 4))) ((u6_30)) := pz21_2
  refine w_iadd rfl ?_
  have : (((((6 + z6) + z11) + z16) + z21)) = STZ ((w53)) ((w65)) ((u6_30)) := by rw [STZ_4 (by omega)]; omega
  exact w_ireturn rfl (k (((((6 + z6) + z11) + z16) + z21)) σ _ _ H (SF_trans (SF_trans (SF_trans (SF_trans (SF_refl) hS4 (any_sub rfl)) hS9 (any_sub rfl)) hS14 (any_sub rfl)) hS19 (any_sub rfl)) (SA_trans (SA_trans (SA_trans (SA_trans (SA_refl) hA5 (any_subA rfl)) hA10 (any_subA rfl)) hA15 (any_subA rfl)) hA20 (any_subA rfl)) (show inr (((((6 + z6) + z11) + z16) + z21)) by omega) (show 0 ≤ (((((6 + z6) + z11) + z16) + z21)) ∧ (((((6 + z6) + z11) + z16) + z21)) ≤ 40000 by omega) (show (((((6 + z6) + z11) + z16) + z21)) = STZ ((w53)) ((w65)) ((u6_30)) by assumption))
/-- Writer.bytesTold -/
theorem M426_53 {σ0 σ : rS} {D N : Nat → Nat} {F : hF} {A : hA} {d c s : Nat} {Q : wQ} (H : HS σ0 σ D N F A) {a2 : Int} (u6_30 : Int) (eu6_30 : F 6 30 = u6_30) (w53 : Int → Int) (ew53 : A 53 = w53) (w65 : Int → Int) (ew65 : A 65 = w65) (h0 : inr (a2)) (h1 : BD ((w53))) (h2 : -2 ≤ (a2) ∧ (a2) ≤ 20000) (k : ∀ (z : Int) σ F' A', HS σ0 σ D N F' A' → SF [] F F' → SA [] A A' → (inr (z)) → ((a2) ≤ (z) ∧ (z) ≤ 70000) → ((z) = (a2) + STZ ((w53)) ((w65)) ((u6_30))) → Q (some (I z)) σ c s) : Ew 426 (d + 2) 0 (rargs 0 [.ref (D 6), .ref (D 53), I a2]) [] σ c s Q := by
  have r1 : (0 : Int) ≤ u6_30 ∧ u6_30 ≤ 16385 := by have h1 : (0 : Int) ≤ F 6 30 ∧ F 6 30 ≤ 16385 := H.frng 6 30; rw [show F 6 30 = u6_30 from (eu6_30)] at h1; exact h1
  refine Ew_of (pc' := 1) (fun _ => x_iload_n rfl rfl) ?_
  refine Ew_of (pc' := 2) (fun _ => x_aload_n rfl rfl) ?_
  refine w_gI H (o := 6) (w := u6_30) rfl (H.perm 6 rfl) rfl rfl rfl (fun _ => rfl) (eu6_30) ?_
  refine Ew_of (pc' := 8) (fun _ => x_sipush (z := 1024) rfl (by decide)) ?_
  refine w_icmpge (t := 24) rfl rfl (show inr (u6_30) by omega) (show inr (1024) by omega) (fun b2 => ?_) (fun b2 => ?_)
  · refine Ew_of (pc' := 25) (fun _ => x_aload_n rfl rfl) ?_
    refine Ew_of (pc' := 26) (fun _ => x_aload_n rfl rfl) ?_
    refine w_inv H (o := 6) rfl rfl rfl (H.perm 6 rfl) rfl rfl (by rfl) (M425_53 H (u6_30) ((eu6_30)) (w53) (ew53) (w65) (ew65) (show BD ((w53)) by assumption) (show 1024 ≤ (u6_30) by omega) (fun z7 σ F3 A4 H hS5 hA6 pz7_0 pz7_1 pz7_2 => ⟨rfl, ?_⟩))
    refine w_iadd rfl ?_
    have : ((a2 + z7)) = (a2) + STZ ((w53)) ((w65)) ((u6_30)) := by first | (have e : zMISS = z1F ((w53)) ((w65)) 0 ((u6_30)) := pzMISS_2; rw [STZ_1 (by omega)]; omega) | (have e := pz7_2; omega)
    exact w_ireturn rfl (k ((a2 + z7)) σ _ _ H (SF_trans (SF_refl) hS5 (any_sub rfl)) (SA_trans (SA_refl) hA6 (any_subA rfl)) (show inr ((a2 + z7)) by omega) (show a2 ≤ ((a2 + z7)) ∧ ((a2 + z7)) ≤ 70000 by omega) (show ((a2 + z7)) = a2 + STZ ((w53)) ((w65)) ((u6_30)) by assumption))
  · refine Ew_of (pc' := 12) (fun _ => x_aload_n rfl rfl) ?_
    refine Ew_of (pc' := 13) (fun _ => x_aload_n rfl rfl) ?_
    refine Ew_of (pc' := 14) (fun _ => x_iconst rfl) ?_
    refine Ew_of (pc' := 15) (fun _ => x_aload_n rfl rfl) ?_
    refine w_gI H (o := 6) (w := u6_30) rfl (H.perm 6 rfl) rfl rfl rfl (fun _ => rfl) (eu6_30) ?_
    refine w_inv H (o := 6) rfl rfl rfl (H.perm 6 rfl) rfl rfl (by rfl) (M424_53 H (w53) (ew53) (w65) (ew65) (show inr (0) by omega) (show inr (u6_30) by omega) (show 0 ≤ (0) ∧ (0) ≤ (u6_30) ∧ (u6_30) ≤ 16385 by omega) (show BD ((w53)) by assumption) (fun z12 σ F8 A9 H hS10 hA11 pz12_0 pz12_1 pz12_2 => ⟨rfl, ?_⟩))
    refine Ew_of (pc' := 29) (fun _ => x_goto rfl rfl) ?_
    refine w_iadd rfl ?_
    have : ((a2 + z12)) = (a2) + STZ ((w53)) ((w65)) ((u6_30)) := by first | (have e : z12 = z1F ((w53)) ((w65)) 0 ((u6_30)) := pz12_2; rw [STZ_1 (by omega)]; omega) | (have e := pz7_2; omega)
    exact w_ireturn rfl (k ((a2 + z12)) σ _ _ H (SF_trans (SF_refl) hS10 (any_sub rfl)) (SA_trans (SA_refl) hA11 (any_subA rfl)) (show inr ((a2 + z12)) by omega) (show a2 ≤ ((a2 + z12)) ∧ ((a2 + z12)) ≤ 70000 by omega) (show ((a2 + z12)) = a2 + STZ ((w53)) ((w65)) ((u6_30)) by assumption))
/-- Writer.streamBytes -/
theorem M424_82 {σ0 σ : rS} {D N : Nat → Nat} {F : hF} {A : hA} {d c s : Nat} {Q : wQ} (H : HS σ0 σ D N F A) {a2 a3 : Int} (w65 : Int → Int) (ew65 : A 65 = w65) (w82 : Int → Int) (ew82 : A 82 = w82) (h0 : inr (a2)) (h1 : inr (a3)) (h2 : 0 ≤ (a2) ∧ (a2) ≤ (a3) ∧ (a3) ≤ 16385) (h3 : BD ((w82))) (k : ∀ (z : Int) σ F' A', HS σ0 σ D N F' A' → SF [] F F' → SA [] A A' → (inr (z)) → (0 ≤ (z) ∧ (z) ≤ 2 * ((a3) - (a2)) + 2) → ((z) = (1 + szF ((w82)) ((w65)) ((a2)) ((a3) - (a2) : Int).toNat + 7) / 8) → Q (some (I z)) σ c s) : Ew 424 (d + 0) 0 (rargs 0 [.ref (D 6), .ref (D 82), I a2, I a3]) [] σ c s Q := by
  refine Ew_of (pc' := 1) (fun _ => x_iconst rfl) ?_
  refine Ew_of (pc' := 3) (fun _ => x_istore rfl) ?_
  refine Ew_of (pc' := 4) (fun _ => x_iload_n rfl (rk_o (rfl) rfl rfl)) ?_
  refine Ew_of (pc' := 6) (fun _ => x_istore rfl) ?_
  have : (1 : Int) = 1 + szF ((w82)) ((w65)) ((a2)) ((a2) - (a2) : Int).toNat := by rw [szF_0 (by omega)]; rfl
  suffices hl6 : ∀ (m : Nat), ∀ (ls : rO) (σ : rS) (F_6 : hF) (A_6 : hA) (x6_4 : Int) (x6_5 : Int), rlook ls 0 = some (.ref (D 6)) → rlook ls 1 = some (.ref (D 82)) → rlook ls 3 = some (I (a3)) → rlook ls 4 = some (I (x6_4)) → rlook ls 5 = some (I (x6_5)) → HS σ0 σ D N F_6 A_6 → SF [] F F_6 → SA [] A A_6 → (inr (x6_4)) → (inr (x6_5)) → ((a2) ≤ (x6_5)) → ((x6_5) ≤ (a2) ∨ (x6_5) ≤ ((a3))) → (1 ≤ (x6_4) ∧ (x6_4) ≤ 1 + 11 * ((x6_5) - (a2))) → ((x6_4) = 1 + szF ((w82)) ((w65)) ((a2)) ((x6_5) - (a2) : Int).toNat) → (((a3)) - (x6_5)).toNat = m → Ew 424 (d + 0) 6 ls [] σ c s Q from
    hl6 _ _ σ _ _ (1) (a2) (rk_o (rk_o (rfl) rfl rfl) rfl rfl) (rk_o (rk_o (rfl) rfl rfl) rfl rfl) (rk_o (rk_o (rfl) rfl rfl) rfl rfl) (rk_o (rk_s) rfl rfl) (rk_s) H (SF_refl) (SA_refl)   (show inr (1) by omega) (show inr (a2) by omega) (show (a2) ≤ (a2) by omega) (show (a2) ≤ (a2) ∨ (a2) ≤ ((a3)) by omega) (show 1 ≤ (1) ∧ (1) ≤ 1 + 11 * ((a2) - (a2)) by omega) (show (1) = 1 + szF ((w82)) ((w65)) ((a2)) ((a2) - (a2) : Int).toNat by assumption) rfl
  as_aux_lemma =>
  intro m
  induction m using Nat.strongRecOn with
  | _ m ih6 =>
    intro ls σ F_6 A_6 x6_4 x6_5 l6_0 l6_1 l6_3 l6_4 l6_5 H hS_6 hA_6   j6_0 j6_1 j6_2 j6_3 j6_4 j6_5 hm6
    have j6_s : (x6_4) = 1 + szF ((w82)) ((w65)) ((a2)) ((x6_5) - (a2) : Int).toNat := by assumption
    refine Ew_of (pc' := 8) (fun _ => x_iload rfl l6_5) ?_
    refine Ew_of (pc' := 9) (fun _ => x_iload_n rfl l6_3) ?_
    refine w_icmpge (t := 32) rfl rfl (show inr (x6_5) by omega) (show inr (a3) by omega) (fun b1 => ?_) (fun b1 => ?_)
    · refine Ew_of (pc' := 34) (fun _ => x_iload rfl l6_4) ?_
      refine Ew_of (pc' := 36) (fun _ => x_bipush (z := 7) rfl (by decide)) ?_
      refine w_iadd rfl ?_
      refine Ew_of (pc' := 39) (fun _ => x_bipush (z := 8) rfl (by decide)) ?_
      refine w_idiv rfl (show inr ((x6_4 + 7)) ∧ 0 ≤ (x6_4 + 7) by omega) (show inr (8) ∧ 0 < 8 by omega) ?_
      have : (((x6_4 + 7) / 8)) = (1 + szF ((w82)) ((w65)) ((a2)) ((a3) - (a2) : Int).toNat + 7) / 8 := by rw [show ((a3) : Int) = (x6_5) by omega, ← j6_s]
      exact w_ireturn rfl (k (((x6_4 + 7) / 8)) σ _ _ H (SF_trans (SF_refl) hS_6 (any_sub rfl)) (SA_trans (SA_refl) hA_6 (any_subA rfl)) (show inr (((x6_4 + 7) / 8)) by omega) (show 0 ≤ (((x6_4 + 7) / 8)) ∧ (((x6_4 + 7) / 8)) ≤ 2 * (a3 - a2) + 2 by omega) (show (((x6_4 + 7) / 8)) = (1 + szF ((w82)) ((w65)) (a2) (a3 - a2 : Int).toNat + 7) / 8 by assumption))
    · obtain ⟨ql5, hql5⟩ : ∃ q : Int, q = (x6_5) := ⟨_, rfl⟩
      refine Ew_of (pc' := 14) (fun _ => x_iload rfl l6_4) ?_
      refine Ew_of (pc' := 15) (fun _ => x_aload_n rfl l6_1) ?_
      refine Ew_of (pc' := 16) (fun _ => x_aload_n rfl l6_0) ?_
      refine w_gT H (o := 6) (t := 65) rfl (H.perm 6 rfl) rfl rfl rfl rfl rfl rfl ?_
      refine Ew_of (pc' := 21) (fun _ => x_iload rfl l6_5) ?_
      refine w_lI H (o := 65) (n := 16385) rfl (H.perm 65 rfl) rfl rfl (H.fix 65 rfl rfl) (show 0 ≤ x6_5 ∧ x6_5 < ((16385 : Nat) : Int) by omega) (by decide) (fun v2 ev2 qv2 => ?_)
      have qv2 : (0 : Int) ≤ v2 ∧ v2 ≤ 255 := qv2
      have ev2 : (w65) (x6_5) = v2 := (congrFun ((funext (hA_6 65 rfl)).trans (ew65)) (x6_5)).symm.trans ev2
      have he22 : ((w65)) ql5 = (v2) := by rw [hql5]; exact ev2
      have hbd := (show BD ((w82)) from by assumption) ((v2)) (by omega) (by omega)
      refine w_lI H (o := 82) (n := 256) rfl (H.perm 82 rfl) rfl rfl (H.fix 82 rfl rfl) (show 0 ≤ v2 ∧ v2 < ((256 : Nat) : Int) by omega) (by decide) (fun v3 ev3 qv3 => ?_)
      have qv3 : (-2147483648 : Int) ≤ v3 ∧ v3 ≤ 2147483647 := qv3
      have ev3 : (w82) (v2) = v3 := (congrFun ((funext (hA_6 82 rfl)).trans (ew82)) (v2)).symm.trans ev3
      have hv23 : ((w82)) (((w65)) ql5) = (v3) := by rw [he22]; exact ev3
      refine w_iadd rfl ?_
      refine Ew_of (pc' := 26) (fun _ => x_istore rfl) ?_
      refine Ew_of (pc' := 29) (fun _ => x_iinc (len := 3) rfl (rk_o (l6_5) rfl rfl)) ?_
      refine Ew_of (pc' := 6) (fun _ => x_goto rfl rfl) ?_
      have : ((x6_4 + v3)) = 1 + szF ((w82)) ((w65)) ((a2)) (((x6_5 + 1)) - (a2) : Int).toNat := by rw [szF_s (n := ql5 - (a2)) (i := ql5) (by omega) (by omega) (by omega) hv23, hql5]; omega
      exact ih6 _ (by omega) _ σ _ _ ((x6_4 + v3)) ((x6_5 + 1)) (rk_o (rk_o (l6_0) rfl rfl) rfl rfl) (rk_o (rk_o (l6_1) rfl rfl) rfl rfl) (rk_o (rk_o (l6_3) rfl rfl) rfl rfl) (rk_o (rk_s) rfl rfl) (rk_s) H (hS_6) (hA_6)   (show inr ((x6_4 + v3)) by omega) (show inr ((x6_5 + 1)) by omega) (show (a2) ≤ ((x6_5 + 1)) by omega) (show ((x6_5 + 1)) ≤ (a2) ∨ ((x6_5 + 1)) ≤ ((a3)) by omega) (show 1 ≤ ((x6_4 + v3)) ∧ ((x6_4 + v3)) ≤ 1 + 11 * (((x6_5 + 1)) - (a2)) by omega) (show ((x6_4 + v3)) = 1 + szF ((w82)) ((w65)) ((a2)) (((x6_5 + 1)) - (a2) : Int).toNat by assumption) rfl
/-- Writer.fourBytes -/
theorem M425_82 {σ0 σ : rS} {D N : Nat → Nat} {F : hF} {A : hA} {d c s : Nat} {Q : wQ} (H : HS σ0 σ D N F A)  (u6_30 : Int) (eu6_30 : F 6 30 = u6_30) (w65 : Int → Int) (ew65 : A 65 = w65) (w82 : Int → Int) (ew82 : A 82 = w82) (h0 : BD ((w82))) (h1 : 1024 ≤ (u6_30)) (k : ∀ (z : Int) σ F' A', HS σ0 σ D N F' A' → SF [] F F' → SA [] A A' → (inr (z)) → (0 ≤ (z) ∧ (z) ≤ 40000) → ((z) = STZ ((w82)) ((w65)) ((u6_30))) → Q (some (I z)) σ c s) : Ew 425 (d + 1) 0 (rargs 0 [.ref (D 6), .ref (D 82)]) [] σ c s Q := by
  have r1 : (0 : Int) ≤ u6_30 ∧ u6_30 ≤ 16385 := by have h1 : (0 : Int) ≤ F 6 30 ∧ F 6 30 ≤ 16385 := H.frng 6 30; rw [show F 6 30 = u6_30 from (eu6_30)] at h1; exact h1
  refine Ew_of (pc' := 1) (fun _ => x_aload_n rfl rfl) ?_
  refine w_gI H (o := 6) (w := u6_30) rfl (H.perm 6 rfl) rfl rfl rfl (fun _ => rfl) (eu6_30) ?_
  refine Ew_of (pc' := 5) (fun _ => x_iconst rfl) ?_
  refine w_iadd rfl ?_
  refine Ew_of (pc' := 7) (fun _ => x_iconst rfl) ?_
  refine w_idiv rfl (show inr ((u6_30 + 3)) ∧ 0 ≤ (u6_30 + 3) by omega) (show inr (4) ∧ 0 < 4 by omega) ?_
  refine Ew_of (pc' := 9) (fun _ => x_istore_n rfl) ?_
  refine Ew_of (pc' := 11) (fun _ => x_bipush (z := 6) rfl (by decide)) ?_
  refine Ew_of (pc' := 12) (fun _ => x_aload_n rfl (rk_o (rfl) rfl rfl)) ?_
  refine Ew_of (pc' := 13) (fun _ => x_aload_n rfl (rk_o (rfl) rfl rfl)) ?_
  refine Ew_of (pc' := 14) (fun _ => x_iconst rfl) ?_
  refine Ew_of (pc' := 15) (fun _ => x_iload_n rfl rk_s) ?_
  refine w_inv H (o := 6) rfl rfl rfl (H.perm 6 rfl) rfl rfl (by rfl) (M424_82 H (w65) (ew65) (w82) (ew82) (show inr (0) by omega) (show inr (((u6_30 + 3) / 4)) by omega) (show 0 ≤ (0) ∧ (0) ≤ (((u6_30 + 3) / 4)) ∧ (((u6_30 + 3) / 4)) ≤ 16385 by omega) (show BD ((w82)) by assumption) (fun z6 σ F2 A3 H hS4 hA5 pz6_0 pz6_1 pz6_2 => ⟨rfl, ?_⟩))
  have e15 : z6 = z1F ((w82)) ((w65)) 0 ((((u6_30 + 3) / 4))) := pz6_2
  refine w_iadd rfl ?_
  refine Ew_of (pc' := 20) (fun _ => x_aload_n rfl (rk_o (rfl) rfl rfl)) ?_
  refine Ew_of (pc' := 21) (fun _ => x_aload_n rfl (rk_o (rfl) rfl rfl)) ?_
  refine Ew_of (pc' := 22) (fun _ => x_iload_n rfl rk_s) ?_
  refine Ew_of (pc' := 23) (fun _ => x_iconst rfl) ?_
  refine Ew_of (pc' := 24) (fun _ => x_iload_n rfl rk_s) ?_
  refine w_imul rfl ?_
  refine w_inv H (o := 6) rfl rfl rfl (H.perm 6 rfl) rfl rfl (by rfl) (M424_82 H (w65) ((funext (hA5 65 rfl)).trans (ew65)) (w82) ((funext (hA5 82 rfl)).trans (ew82)) (show inr (((u6_30 + 3) / 4)) by omega) (show inr ((2 * ((u6_30 + 3) / 4))) by omega) (show 0 ≤ (((u6_30 + 3) / 4)) ∧ (((u6_30 + 3) / 4)) ≤ ((2 * ((u6_30 + 3) / 4))) ∧ ((2 * ((u6_30 + 3) / 4))) ≤ 16385 by omega) (show BD ((w82)) by assumption) (fun z11 σ F7 A8 H hS9 hA10 pz11_0 pz11_1 pz11_2 => ⟨rfl, ?_⟩))
  have e25 : z11 = z1F ((w82)) ((w65)) ((((u6_30 + 3) / 4))) (2 * (((u6_30 + 3) / 4))) := pz11_2
  refine w_iadd rfl ?_
  refine Ew_of (pc' := 30) (fun _ => x_aload_n rfl (rk_o (rfl) rfl rfl)) ?_
  refine Ew_of (pc' := 31) (fun _ => x_aload_n rfl (rk_o (rfl) rfl rfl)) ?_
  refine Ew_of (pc' := 32) (fun _ => x_iconst rfl) ?_
  refine Ew_of (pc' := 33) (fun _ => x_iload_n rfl rk_s) ?_
  refine w_imul rfl ?_
  refine Ew_of (pc' := 35) (fun _ => x_iconst rfl) ?_
  refine Ew_of (pc' := 36) (fun _ => x_iload_n rfl rk_s) ?_
  refine w_imul rfl ?_
  refine w_inv H (o := 6) rfl rfl rfl (H.perm 6 rfl) rfl rfl (by rfl) (M424_82 H (w65) ((funext (hA10 65 rfl)).trans ((funext (hA5 65 rfl)).trans (ew65))) (w82) ((funext (hA10 82 rfl)).trans ((funext (hA5 82 rfl)).trans (ew82))) (show inr ((2 * ((u6_30 + 3) / 4))) by omega) (show inr ((3 * ((u6_30 + 3) / 4))) by omega) (show 0 ≤ ((2 * ((u6_30 + 3) / 4))) ∧ ((2 * ((u6_30 + 3) / 4))) ≤ ((3 * ((u6_30 + 3) / 4))) ∧ ((3 * ((u6_30 + 3) / 4))) ≤ 16385 by omega) (show BD ((w82)) by assumption) (fun z16 σ F12 A13 H hS14 hA15 pz16_0 pz16_1 pz16_2 => ⟨rfl, ?_⟩))
  have e37 : z16 = z1F ((w82)) ((w65)) (2 * (((u6_30 + 3) / 4))) (3 * (((u6_30 + 3) / 4))) := pz16_2
  refine w_iadd rfl ?_
  refine Ew_of (pc' := 42) (fun _ => x_aload_n rfl (rk_o (rfl) rfl rfl)) ?_
  refine Ew_of (pc' := 43) (fun _ => x_aload_n rfl (rk_o (rfl) rfl rfl)) ?_
  refine Ew_of (pc' := 44) (fun _ => x_iconst rfl) ?_
  refine Ew_of (pc' := 45) (fun _ => x_iload_n rfl rk_s) ?_
  refine w_imul rfl ?_
  refine Ew_of (pc' := 47) (fun _ => x_aload_n rfl (rk_o (rfl) rfl rfl)) ?_
  refine w_gI H (o := 6) (w := u6_30) rfl (H.perm 6 rfl) rfl rfl rfl (fun _ => rfl) ((((hS14 6 30 rfl).trans (hS9 6 30 rfl)).trans (hS4 6 30 rfl)).trans (eu6_30)) ?_
  refine w_inv H (o := 6) rfl rfl rfl (H.perm 6 rfl) rfl rfl (by rfl) (M424_82 H (w65) ((funext (hA15 65 rfl)).trans ((funext (hA10 65 rfl)).trans ((funext (hA5 65 rfl)).trans (ew65)))) (w82) ((funext (hA15 82 rfl)).trans ((funext (hA10 82 rfl)).trans ((funext (hA5 82 rfl)).trans (ew82)))) (show inr ((3 * ((u6_30 + 3) / 4))) by omega) (show inr (u6_30) by omega) (show 0 ≤ ((3 * ((u6_30 + 3) / 4))) ∧ ((3 * ((u6_30 + 3) / 4))) ≤ (u6_30) ∧ (u6_30) ≤ 16385 by omega) (show BD ((w82)) by assumption) (fun z21 σ F17 A18 H hS19 hA20 pz21_0 pz21_1 pz21_2 => ⟨rfl, ?_⟩))
  have e50 : z21 = z1F ((w82)) ((w65)) (3 * (((u6_30 + 3) / 4))) ((u6_30)) := pz21_2
  refine w_iadd rfl ?_
  have : (((((6 + z6) + z11) + z16) + z21)) = STZ ((w82)) ((w65)) ((u6_30)) := by rw [STZ_4 (by omega)]; omega
  exact w_ireturn rfl (k (((((6 + z6) + z11) + z16) + z21)) σ _ _ H (SF_trans (SF_trans (SF_trans (SF_trans (SF_refl) hS4 (any_sub rfl)) hS9 (any_sub rfl)) hS14 (any_sub rfl)) hS19 (any_sub rfl)) (SA_trans (SA_trans (SA_trans (SA_trans (SA_refl) hA5 (any_subA rfl)) hA10 (any_subA rfl)) hA15 (any_subA rfl)) hA20 (any_subA rfl)) (show inr (((((6 + z6) + z11) + z16) + z21)) by omega) (show 0 ≤ (((((6 + z6) + z11) + z16) + z21)) ∧ (((((6 + z6) + z11) + z16) + z21)) ≤ 40000 by omega) (show (((((6 + z6) + z11) + z16) + z21)) = STZ ((w82)) ((w65)) ((u6_30)) by assumption))
/-- Writer.bytesTold -/
theorem M426_82 {σ0 σ : rS} {D N : Nat → Nat} {F : hF} {A : hA} {d c s : Nat} {Q : wQ} (H : HS σ0 σ D N F A) {a2 : Int} (u6_30 : Int) (eu6_30 : F 6 30 = u6_30) (w65 : Int → Int) (ew65 : A 65 = w65) (w82 : Int → Int) (ew82 : A 82 = w82) (h0 : inr (a2)) (h1 : BD ((w82))) (h2 : -2 ≤ (a2) ∧ (a2) ≤ 20000) (k : ∀ (z : Int) σ F' A', HS σ0 σ D N F' A' → SF [] F F' → SA [] A A' → (inr (z)) → ((a2) ≤ (z) ∧ (z) ≤ 70000) → ((z) = (a2) + STZ ((w82)) ((w65)) ((u6_30))) → Q (some (I z)) σ c s) : Ew 426 (d + 2) 0 (rargs 0 [.ref (D 6), .ref (D 82), I a2]) [] σ c s Q := by
  have r1 : (0 : Int) ≤ u6_30 ∧ u6_30 ≤ 16385 := by have h1 : (0 : Int) ≤ F 6 30 ∧ F 6 30 ≤ 16385 := H.frng 6 30; rw [show F 6 30 = u6_30 from (eu6_30)] at h1; exact h1
  refine Ew_of (pc' := 1) (fun _ => x_iload_n rfl rfl) ?_
  refine Ew_of (pc' := 2) (fun _ => x_aload_n rfl rfl) ?_
  refine w_gI H (o := 6) (w := u6_30) rfl (H.perm 6 rfl) rfl rfl rfl (fun _ => rfl) (eu6_30) ?_
  refine Ew_of (pc' := 8) (fun _ => x_sipush (z := 1024) rfl (by decide)) ?_
  refine w_icmpge (t := 24) rfl rfl (show inr (u6_30) by omega) (show inr (1024) by omega) (fun b2 => ?_) (fun b2 => ?_)
  · refine Ew_of (pc' := 25) (fun _ => x_aload_n rfl rfl) ?_
    refine Ew_of (pc' := 26) (fun _ => x_aload_n rfl rfl) ?_
    refine w_inv H (o := 6) rfl rfl rfl (H.perm 6 rfl) rfl rfl (by rfl) (M425_82 H (u6_30) ((eu6_30)) (w65) (ew65) (w82) (ew82) (show BD ((w82)) by assumption) (show 1024 ≤ (u6_30) by omega) (fun z7 σ F3 A4 H hS5 hA6 pz7_0 pz7_1 pz7_2 => ⟨rfl, ?_⟩))
    refine w_iadd rfl ?_
    have : ((a2 + z7)) = (a2) + STZ ((w82)) ((w65)) ((u6_30)) := by first | (have e : zMISS = z1F ((w82)) ((w65)) 0 ((u6_30)) := pzMISS_2; rw [STZ_1 (by omega)]; omega) | (have e := pz7_2; omega)
    exact w_ireturn rfl (k ((a2 + z7)) σ _ _ H (SF_trans (SF_refl) hS5 (any_sub rfl)) (SA_trans (SA_refl) hA6 (any_subA rfl)) (show inr ((a2 + z7)) by omega) (show a2 ≤ ((a2 + z7)) ∧ ((a2 + z7)) ≤ 70000 by omega) (show ((a2 + z7)) = a2 + STZ ((w82)) ((w65)) ((u6_30)) by assumption))
  · refine Ew_of (pc' := 12) (fun _ => x_aload_n rfl rfl) ?_
    refine Ew_of (pc' := 13) (fun _ => x_aload_n rfl rfl) ?_
    refine Ew_of (pc' := 14) (fun _ => x_iconst rfl) ?_
    refine Ew_of (pc' := 15) (fun _ => x_aload_n rfl rfl) ?_
    refine w_gI H (o := 6) (w := u6_30) rfl (H.perm 6 rfl) rfl rfl rfl (fun _ => rfl) (eu6_30) ?_
    refine w_inv H (o := 6) rfl rfl rfl (H.perm 6 rfl) rfl rfl (by rfl) (M424_82 H (w65) (ew65) (w82) (ew82) (show inr (0) by omega) (show inr (u6_30) by omega) (show 0 ≤ (0) ∧ (0) ≤ (u6_30) ∧ (u6_30) ≤ 16385 by omega) (show BD ((w82)) by assumption) (fun z12 σ F8 A9 H hS10 hA11 pz12_0 pz12_1 pz12_2 => ⟨rfl, ?_⟩))
    refine Ew_of (pc' := 29) (fun _ => x_goto rfl rfl) ?_
    refine w_iadd rfl ?_
    have : ((a2 + z12)) = (a2) + STZ ((w82)) ((w65)) ((u6_30)) := by first | (have e : z12 = z1F ((w82)) ((w65)) 0 ((u6_30)) := pz12_2; rw [STZ_1 (by omega)]; omega) | (have e := pz7_2; omega)
    exact w_ireturn rfl (k ((a2 + z12)) σ _ _ H (SF_trans (SF_refl) hS10 (any_sub rfl)) (SA_trans (SA_refl) hA11 (any_subA rfl)) (show inr ((a2 + z12)) by omega) (show a2 ≤ ((a2 + z12)) ∧ ((a2 + z12)) ≤ 70000 by omega) (show ((a2 + z12)) = a2 + STZ ((w82)) ((w65)) ((u6_30)) by assumption))
/-- Writer.width -/
theorem M427 {σ0 σ : rS} {D N : Nat → Nat} {F : hF} {A : hA} {d c s : Nat} {Q : wQ} (H : HS σ0 σ D N F A) {a1 : Int} (h0 : inr (a1)) (k : ∀ (z : Int) σ F' A', HS σ0 σ D N F' A' → SF [] F F' → SA [] A A' → (inr (z)) → (10 ≤ (z) ∧ (z) ≤ 18) → ((a1) < 2 ∧ (z) = 10 ∨ (a1) = 2 ∧ (z) = 14 ∨ 2 < (a1) ∧ (z) = 18) → Q (some (I z)) σ c s) : Ew 427 (d + 0) 0 (rargs 0 [I a1]) [] σ c s Q := by
  refine Ew_of (pc' := 1) (fun _ => x_iload_n rfl rfl) ?_
  refine Ew_of (pc' := 2) (fun _ => x_iconst rfl) ?_
  refine w_icmpge (t := 10) rfl rfl (show inr (a1) by omega) (show inr (2) by omega) (fun b1 => ?_) (fun b1 => ?_)
  · refine Ew_of (pc' := 11) (fun _ => x_iload_n rfl rfl) ?_
    refine Ew_of (pc' := 12) (fun _ => x_iconst rfl) ?_
    refine w_icmpne (t := 20) rfl rfl (show inr (a1) by omega) (show inr (2) by omega) (fun b2 => ?_) (fun b2 => ?_)
    · refine Ew_of (pc' := 22) (fun _ => x_bipush (z := 18) rfl (by decide)) ?_
      exact w_ireturn rfl (k (18) σ _ _ H (SF_refl) (SA_refl) (show inr (18) by omega) (show 10 ≤ (18) ∧ (18) ≤ 18 by omega) (show a1 < 2 ∧ (18) = 10 ∨ a1 = 2 ∧ (18) = 14 ∨ 2 < a1 ∧ (18) = 18 by omega))
    · refine Ew_of (pc' := 17) (fun _ => x_bipush (z := 14) rfl (by decide)) ?_
      refine Ew_of (pc' := 22) (fun _ => x_goto rfl rfl) ?_
      exact w_ireturn rfl (k (14) σ _ _ H (SF_refl) (SA_refl) (show inr (14) by omega) (show 10 ≤ (14) ∧ (14) ≤ 18 by omega) (show a1 < 2 ∧ (14) = 10 ∨ a1 = 2 ∧ (14) = 14 ∨ 2 < a1 ∧ (14) = 18 by omega))
  · refine Ew_of (pc' := 7) (fun _ => x_bipush (z := 10) rfl (by decide)) ?_
    refine Ew_of (pc' := 22) (fun _ => x_goto rfl rfl) ?_
    exact w_ireturn rfl (k (10) σ _ _ H (SF_refl) (SA_refl) (show inr (10) by omega) (show 10 ≤ (10) ∧ (10) ≤ 18 by omega) (show a1 < 2 ∧ (10) = 10 ∨ a1 = 2 ∧ (10) = 14 ∨ 2 < a1 ∧ (10) = 18 by omega))
/-- Writer.headBytes -/
theorem M428 {σ0 σ : rS} {D N : Nat → Nat} {F : hF} {A : hA} {d c s : Nat} {Q : wQ} (H : HS σ0 σ D N F A) {a1 : Int} (h0 : inr (a1)) (k : ∀ (z : Int) σ F' A', HS σ0 σ D N F' A' → SF [] F F' → SA [] A A' → (inr (z)) → (3 ≤ (z) ∧ (z) ≤ 5) → ((a1) < 2 ∧ (z) = 3 ∨ (a1) = 2 ∧ (z) = 4 ∨ 2 < (a1) ∧ (z) = 5) → Q (some (I z)) σ c s) : Ew 428 (d + 0) 0 (rargs 0 [I a1]) [] σ c s Q := by
  refine Ew_of (pc' := 1) (fun _ => x_iload_n rfl rfl) ?_
  refine Ew_of (pc' := 2) (fun _ => x_iconst rfl) ?_
  refine w_icmpge (t := 9) rfl rfl (show inr (a1) by omega) (show inr (2) by omega) (fun b1 => ?_) (fun b1 => ?_)
  · refine Ew_of (pc' := 10) (fun _ => x_iload_n rfl rfl) ?_
    refine Ew_of (pc' := 11) (fun _ => x_iconst rfl) ?_
    refine w_icmpne (t := 18) rfl rfl (show inr (a1) by omega) (show inr (2) by omega) (fun b2 => ?_) (fun b2 => ?_)
    · refine Ew_of (pc' := 19) (fun _ => x_iconst rfl) ?_
      exact w_ireturn rfl (k (5) σ _ _ H (SF_refl) (SA_refl) (show inr (5) by omega) (show 3 ≤ (5) ∧ (5) ≤ 5 by omega) (show a1 < 2 ∧ (5) = 3 ∨ a1 = 2 ∧ (5) = 4 ∨ 2 < a1 ∧ (5) = 5 by omega))
    · refine Ew_of (pc' := 15) (fun _ => x_iconst rfl) ?_
      refine Ew_of (pc' := 19) (fun _ => x_goto rfl rfl) ?_
      exact w_ireturn rfl (k (4) σ _ _ H (SF_refl) (SA_refl) (show inr (4) by omega) (show 3 ≤ (4) ∧ (4) ≤ 5 by omega) (show a1 < 2 ∧ (4) = 3 ∨ a1 = 2 ∧ (4) = 4 ∨ 2 < a1 ∧ (4) = 5 by omega))
  · refine Ew_of (pc' := 6) (fun _ => x_iconst rfl) ?_
    refine Ew_of (pc' := 19) (fun _ => x_goto rfl rfl) ?_
    exact w_ireturn rfl (k (3) σ _ _ H (SF_refl) (SA_refl) (show inr (3) by omega) (show 3 ≤ (3) ∧ (3) ≤ 5 by omega) (show a1 < 2 ∧ (3) = 3 ∨ a1 = 2 ∧ (3) = 4 ∨ 2 < a1 ∧ (3) = 5 by omega))
/-- Writer.headOf -/
theorem M429 {σ0 σ : rS} {D N : Nat → Nat} {F : hF} {A : hA} {d c s : Nat} {Q : wQ} (H : HS σ0 σ D N F A) {a1 : Int} (u6_30 : Int) (eu6_30 : F 6 30 = u6_30) (h0 : inr (a1)) (k : ∀ (z : Int) σ F' A', HS σ0 σ D N F' A' → SF [] F F' → SA [] A A' → (inr (z)) → (-1 ≤ (z) ∧ (z) ≤ 3) → ((z) = 0 ∧ (u6_30) < 1024 ∧ (a1) < 1024 ∨ (z) = -1 ∧ (u6_30) < 1024 ∧ 1024 ≤ (a1) ∨ (z) = 2 ∧ 1024 ≤ (u6_30) ∧ (u6_30) < 16384 ∧ (a1) < 16384 ∨ (z) = 3 ∧ 1024 ≤ (u6_30) ∧ (16384 ≤ (u6_30) ∨ 16384 ≤ (a1)) ∧ (a1) < 262144 ∨ (z) = -1 ∧ 1024 ≤ (u6_30) ∧ 262144 ≤ (a1)) → Q (some (I z)) σ c s) : Ew 429 (d + 1) 0 (rargs 0 [.ref (D 6), I a1]) [] σ c s Q := by
  have r1 : (0 : Int) ≤ u6_30 ∧ u6_30 ≤ 16385 := by have h1 : (0 : Int) ≤ F 6 30 ∧ F 6 30 ≤ 16385 := H.frng 6 30; rw [show F 6 30 = u6_30 from (eu6_30)] at h1; exact h1
  refine Ew_of (pc' := 1) (fun _ => x_aload_n rfl rfl) ?_
  refine w_gI H (o := 6) (w := u6_30) rfl (H.perm 6 rfl) rfl rfl rfl (fun _ => rfl) (eu6_30) ?_
  refine Ew_of (pc' := 7) (fun _ => x_sipush (z := 1024) rfl (by decide)) ?_
  refine w_icmpge (t := 23) rfl rfl (show inr (u6_30) by omega) (show inr (1024) by omega) (fun b2 => ?_) (fun b2 => ?_)
  · refine Ew_of (pc' := 24) (fun _ => x_iconst rfl) ?_
    refine Ew_of (pc' := 25) (fun _ => x_istore_n rfl) ?_
    suffices hl25 : ∀ (m : Nat), ∀ (ls : rO) (σ : rS) (F_25 : hF) (A_25 : hA) (x25_2 : Int), rlook ls 0 = some (.ref (D 6)) → rlook ls 1 = some (I (a1)) → rlook ls 2 = some (I (x25_2)) → HS σ0 σ D N F_25 A_25 → SF [] F F_25 → SA [] A A_25 → (inr (x25_2)) → (1 ≤ (x25_2) ∧ (x25_2) ≤ 4) → (1024 ≤ (u6_30)) → ((x25_2) ≤ 2 ∨ 16384 ≤ (u6_30) ∨ 16384 ≤ (a1)) → ((x25_2) ≤ 3 ∨ 262144 ≤ (a1)) → (4 - (x25_2)).toNat = m → Ew 429 (d + 1) 25 ls [] σ c s Q from
      hl25 _ _ σ _ _ (1) (rk_o (rfl) rfl rfl) (rk_o (rfl) rfl rfl) (rk_s) H (SF_refl) (SA_refl)   (show inr (1) by omega) (show 1 ≤ (1) ∧ (1) ≤ 4 by omega) (show 1024 ≤ (u6_30) by omega) (show (1) ≤ 2 ∨ 16384 ≤ (u6_30) ∨ 16384 ≤ (a1) by omega) (show (1) ≤ 3 ∨ 262144 ≤ (a1) by omega) rfl
    as_aux_lemma =>
    intro m
    induction m using Nat.strongRecOn with
    | _ m ih25 =>
      intro ls σ F_25 A_25 x25_2 l25_0 l25_1 l25_2 H hS_25 hA_25   j25_0 j25_1 j25_2 j25_3 j25_4 hm25
      refine Ew_of (pc' := 26) (fun _ => x_iload_n rfl l25_2) ?_
      refine Ew_of (pc' := 27) (fun _ => x_iconst rfl) ?_
      refine w_icmpge (t := 61) rfl rfl (show inr (x25_2) by omega) (show inr (4) by omega) (fun b3 => ?_) (fun b3 => ?_)
      · refine Ew_of (pc' := 62) (fun _ => x_iconst rfl) ?_
        exact w_ireturn rfl (k ((-1)) σ _ _ H (SF_trans (SF_refl) hS_25 (any_sub rfl)) (SA_trans (SA_refl) hA_25 (any_subA rfl)) (show inr ((-1)) by omega) (show -1 ≤ ((-1)) ∧ ((-1)) ≤ 3 by omega) (show ((-1)) = 0 ∧ (u6_30) < 1024 ∧ a1 < 1024 ∨ ((-1)) = -1 ∧ (u6_30) < 1024 ∧ 1024 ≤ a1 ∨ ((-1)) = 2 ∧ 1024 ≤ (u6_30) ∧ (u6_30) < 16384 ∧ a1 < 16384 ∨ ((-1)) = 3 ∧ 1024 ≤ (u6_30) ∧ (16384 ≤ (u6_30) ∨ 16384 ≤ a1) ∧ a1 < 262144 ∨ ((-1)) = -1 ∧ 1024 ≤ (u6_30) ∧ 262144 ≤ a1 by omega))
      · refine Ew_of (pc' := 31) (fun _ => x_aload_n rfl l25_0) ?_
        refine w_gI H (o := 6) (w := u6_30) rfl (H.perm 6 rfl) rfl rfl rfl (fun _ => rfl) ((hS_25 6 30 rfl).trans (eu6_30)) ?_
        refine Ew_of (pc' := 35) (fun _ => x_iconst rfl) ?_
        refine Ew_of (pc' := 36) (fun _ => x_iload_n rfl l25_2) ?_
        refine w_stat24 rfl rfl (by rfl) (M427 H (show inr (x25_2) by omega) (fun z8 σ F4 A5 H hS6 hA7 pz8_0 pz8_1 pz8_2 => ⟨rfl, ?_⟩))
        have : p2 ((z8)) ≤ p2 18 := p2_mono (by omega)
        have : p2 18 = 262144 := by decide
        have := p2_pos ((z8))
        have hpw1 : ((z8) = 10 → p2 ((z8)) = 1024) ∧ ((z8) = 14 → p2 ((z8)) = 16384) ∧ ((z8) = 18 → p2 ((z8)) = 262144) := ⟨fun q => by rw [q]; decide, fun q => by rw [q]; decide, fun q => by rw [q]; decide⟩
        refine w_ishl1 rfl (show 0 ≤ z8 ∧ z8 ≤ 31 by omega) ?_
        refine w_icmpge (t := 55) rfl rfl (show inr (u6_30) by omega) (show inr (p2 (z8)) by omega) (fun b10 => ?_) (fun b10 => ?_)
        · refine Ew_of (pc' := 58) (fun _ => x_iinc (len := 3) rfl (l25_2)) ?_
          refine Ew_of (pc' := 25) (fun _ => x_goto rfl rfl) ?_
          exact ih25 _ (by omega) _ σ _ _ ((x25_2 + 1)) (rk_o (l25_0) rfl rfl) (rk_o (l25_1) rfl rfl) (rk_s) H (SF_trans (hS_25) hS6 (any_sub rfl)) (SA_trans (hA_25) hA7 (any_subA rfl))   (show inr ((x25_2 + 1)) by omega) (show 1 ≤ ((x25_2 + 1)) ∧ ((x25_2 + 1)) ≤ 4 by omega) (show 1024 ≤ (u6_30) by omega) (show ((x25_2 + 1)) ≤ 2 ∨ 16384 ≤ (u6_30) ∨ 16384 ≤ (a1) by omega) (show ((x25_2 + 1)) ≤ 3 ∨ 262144 ≤ (a1) by omega) rfl
        · refine Ew_of (pc' := 44) (fun _ => x_iload_n rfl l25_1) ?_
          refine Ew_of (pc' := 45) (fun _ => x_iconst rfl) ?_
          refine Ew_of (pc' := 46) (fun _ => x_iload_n rfl l25_2) ?_
          refine w_stat24 rfl rfl (by rfl) (M427 H (show inr (x25_2) by omega) (fun z15 σ F11 A12 H hS13 hA14 pz15_0 pz15_1 pz15_2 => ⟨rfl, ?_⟩))
          have : p2 ((z15)) ≤ p2 18 := p2_mono (by omega)
          have : p2 18 = 262144 := by decide
          have := p2_pos ((z15))
          have hpw2 : ((z15) = 10 → p2 ((z15)) = 1024) ∧ ((z15) = 14 → p2 ((z15)) = 16384) ∧ ((z15) = 18 → p2 ((z15)) = 262144) := ⟨fun q => by rw [q]; decide, fun q => by rw [q]; decide, fun q => by rw [q]; decide⟩
          refine w_ishl1 rfl (show 0 ≤ z15 ∧ z15 ≤ 31 by omega) ?_
          refine w_icmpge (t := 55) rfl rfl (show inr (a1) by omega) (show inr (p2 (z15)) by omega) (fun b17 => ?_) (fun b17 => ?_)
          · refine Ew_of (pc' := 58) (fun _ => x_iinc (len := 3) rfl (l25_2)) ?_
            refine Ew_of (pc' := 25) (fun _ => x_goto rfl rfl) ?_
            exact ih25 _ (by omega) _ σ _ _ ((x25_2 + 1)) (rk_o (l25_0) rfl rfl) (rk_o (l25_1) rfl rfl) (rk_s) H (SF_trans (SF_trans (hS_25) hS6 (any_sub rfl)) hS13 (any_sub rfl)) (SA_trans (SA_trans (hA_25) hA7 (any_subA rfl)) hA14 (any_subA rfl))   (show inr ((x25_2 + 1)) by omega) (show 1 ≤ ((x25_2 + 1)) ∧ ((x25_2 + 1)) ≤ 4 by omega) (show 1024 ≤ (u6_30) by omega) (show ((x25_2 + 1)) ≤ 2 ∨ 16384 ≤ (u6_30) ∨ 16384 ≤ (a1) by omega) (show ((x25_2 + 1)) ≤ 3 ∨ 262144 ≤ (a1) by omega) rfl
          · refine Ew_of (pc' := 54) (fun _ => x_iload_n rfl l25_2) ?_
            exact w_ireturn rfl (k (x25_2) σ _ _ H (SF_trans (SF_trans (SF_trans (SF_refl) hS_25 (any_sub rfl)) hS6 (any_sub rfl)) hS13 (any_sub rfl)) (SA_trans (SA_trans (SA_trans (SA_refl) hA_25 (any_subA rfl)) hA7 (any_subA rfl)) hA14 (any_subA rfl)) (show inr (x25_2) by omega) (show -1 ≤ (x25_2) ∧ (x25_2) ≤ 3 by omega) (show (x25_2) = 0 ∧ (u6_30) < 1024 ∧ a1 < 1024 ∨ (x25_2) = -1 ∧ (u6_30) < 1024 ∧ 1024 ≤ a1 ∨ (x25_2) = 2 ∧ 1024 ≤ (u6_30) ∧ (u6_30) < 16384 ∧ a1 < 16384 ∨ (x25_2) = 3 ∧ 1024 ≤ (u6_30) ∧ (16384 ≤ (u6_30) ∨ 16384 ≤ a1) ∧ a1 < 262144 ∨ (x25_2) = -1 ∧ 1024 ≤ (u6_30) ∧ 262144 ≤ a1 by omega))
  · refine Ew_of (pc' := 11) (fun _ => x_iload_n rfl rfl) ?_
    refine Ew_of (pc' := 14) (fun _ => x_sipush (z := 1024) rfl (by decide)) ?_
    refine w_icmpge (t := 21) rfl rfl (show inr (a1) by omega) (show inr (1024) by omega) (fun b18 => ?_) (fun b18 => ?_)
    · refine Ew_of (pc' := 22) (fun _ => x_iconst rfl) ?_
      exact w_ireturn rfl (k ((-1)) σ _ _ H (SF_refl) (SA_refl) (show inr ((-1)) by omega) (show -1 ≤ ((-1)) ∧ ((-1)) ≤ 3 by omega) (show ((-1)) = 0 ∧ (u6_30) < 1024 ∧ a1 < 1024 ∨ ((-1)) = -1 ∧ (u6_30) < 1024 ∧ 1024 ≤ a1 ∨ ((-1)) = 2 ∧ 1024 ≤ (u6_30) ∧ (u6_30) < 16384 ∧ a1 < 16384 ∨ ((-1)) = 3 ∧ 1024 ≤ (u6_30) ∧ (16384 ≤ (u6_30) ∨ 16384 ≤ a1) ∧ a1 < 262144 ∨ ((-1)) = -1 ∧ 1024 ≤ (u6_30) ∧ 262144 ≤ a1 by omega))
    · refine Ew_of (pc' := 18) (fun _ => x_iconst rfl) ?_
      refine Ew_of (pc' := 22) (fun _ => x_goto rfl rfl) ?_
      exact w_ireturn rfl (k (0) σ _ _ H (SF_refl) (SA_refl) (show inr (0) by omega) (show -1 ≤ (0) ∧ (0) ≤ 3 by omega) (show (0) = 0 ∧ (u6_30) < 1024 ∧ a1 < 1024 ∨ (0) = -1 ∧ (u6_30) < 1024 ∧ 1024 ≤ a1 ∨ (0) = 2 ∧ 1024 ≤ (u6_30) ∧ (u6_30) < 16384 ∧ a1 < 16384 ∨ (0) = 3 ∧ 1024 ≤ (u6_30) ∧ (16384 ≤ (u6_30) ∨ 16384 ≤ a1) ∧ a1 < 262144 ∨ (0) = -1 ∧ 1024 ≤ (u6_30) ∧ 262144 ≤ a1 by omega))
/-- Writer.allAlike -/
theorem M432 {σ0 σ : rS} {D N : Nat → Nat} {F : hF} {A : hA} {d c s : Nat} {Q : wQ} (H : HS σ0 σ D N F A)  (u6_30 : Int) (eu6_30 : F 6 30 = u6_30) (w65 : Int → Int) (ew65 : A 65 = w65) (k : ∀ (z : Int) σ F' A', HS σ0 σ D N F' A' → SF [] F F' → SA [] A A' → ((z) = 0 ∨ (z) = 1) → ((z) = 1 → 1 ≤ (u6_30)) → ((z) = 0 → (u6_30) ≤ 0 ∨ DIFF ((w65)) ((u6_30))) → ((z) = 1 → ALK ((w65)) ((u6_30))) → Q (some (I z)) σ c s) : Ew 432 (d + 0) 0 (rargs 0 [.ref (D 6)]) [] σ c s Q := by
  have r1 : (0 : Int) ≤ u6_30 ∧ u6_30 ≤ 16385 := by have h1 : (0 : Int) ≤ F 6 30 ∧ F 6 30 ≤ 16385 := H.frng 6 30; rw [show F 6 30 = u6_30 from (eu6_30)] at h1; exact h1
  refine Ew_of (pc' := 1) (fun _ => x_iconst rfl) ?_
  refine Ew_of (pc' := 2) (fun _ => x_istore_n rfl) ?_
  have : ∀ k, 0 ≤ k → k < 1 → ((w65)) k = ((w65)) 0 := fun k a b => by rw [show k = 0 by omega]
  suffices hl2 : ∀ (m : Nat), ∀ (ls : rO) (σ : rS) (F_2 : hF) (A_2 : hA) (x2_1 : Int), rlook ls 0 = some (.ref (D 6)) → rlook ls 1 = some (I (x2_1)) → HS σ0 σ D N F_2 A_2 → SF [] F F_2 → SA [] A A_2 → (inr (x2_1)) → (1 ≤ (x2_1)) → (∀ k, 0 ≤ k → k < (x2_1) → ((w65)) k = ((w65)) 0) → (0 ≤ 0 + ((u6_30) + 1 - (x2_1)) ∨ True) → ((u6_30) + 1 - (x2_1)).toNat = m → Ew 432 (d + 0) 2 ls [] σ c s Q from
    hl2 _ _ σ _ _ (1) (rk_o (rfl) rfl rfl) (rk_s) H (SF_refl) (SA_refl)   (show inr (1) by omega) (show 1 ≤ (1) by omega) (show ∀ k, 0 ≤ k → k < (1) → ((w65)) k = ((w65)) 0 by assumption) (show 0 ≤ 0 + ((u6_30) + 1 - (1)) ∨ True by omega) rfl
  as_aux_lemma =>
  intro m
  induction m using Nat.strongRecOn with
  | _ m ih2 =>
    intro ls σ F_2 A_2 x2_1 l2_0 l2_1 H hS_2 hA_2   j2_0 j2_1 j2_2 j2_3 hm2
    have j2_a : ∀ k, 0 ≤ k → k < (x2_1) → ((w65)) k = ((w65)) 0 := by assumption
    obtain ⟨ql1, hql1⟩ : ∃ q : Int, q = (x2_1) := ⟨_, rfl⟩
    refine Ew_of (pc' := 3) (fun _ => x_iload_n rfl l2_1) ?_
    refine Ew_of (pc' := 4) (fun _ => x_aload_n rfl l2_0) ?_
    refine w_gI H (o := 6) (w := u6_30) rfl (H.perm 6 rfl) rfl rfl rfl (fun _ => rfl) ((hS_2 6 30 rfl).trans (eu6_30)) ?_
    refine w_icmpge (t := 33) rfl rfl (show inr (x2_1) by omega) (show inr (u6_30) by omega) (fun b2 => ?_) (fun b2 => ?_)
    · refine Ew_of (pc' := 34) (fun _ => x_aload_n rfl l2_0) ?_
      refine w_gI H (o := 6) (w := u6_30) rfl (H.perm 6 rfl) rfl rfl rfl (fun _ => rfl) ((hS_2 6 30 rfl).trans (eu6_30)) ?_
      refine w_ifle (t := 44) rfl rfl (show inr (u6_30) by omega) (fun b3 => ?_) (fun b3 => ?_)
      · have : (0 : Int) = 0 → (u6_30) ≤ 0 ∨ DIFF ((w65)) ((u6_30)) := fun _ => .inl (by omega)
        refine Ew_of (pc' := 45) (fun _ => x_iconst rfl) ?_
        exact w_ireturn rfl (k (0) σ _ _ H (SF_trans (SF_refl) hS_2 (any_sub rfl)) (SA_trans (SA_refl) hA_2 (any_subA rfl)) (show (0) = 0 ∨ (0) = 1 by omega) (show (0) = 1 → 1 ≤ (u6_30) by omega) (show (0) = 0 → (u6_30) ≤ 0 ∨ DIFF ((w65)) ((u6_30)) by first | assumption | exact fun h => absurd rfl h | exact fun h => absurd h (by decide) | omega) (show (0) = 1 → ALK ((w65)) ((u6_30)) by first | assumption | exact fun h => absurd rfl h | exact fun h => absurd h (by decide) | omega))
      · have : (1 : Int) = 1 → ALK ((w65)) ((u6_30)) := fun _ => ⟨by omega, fun k a b => j2_a k a (by omega)⟩
        refine Ew_of (pc' := 41) (fun _ => x_iconst rfl) ?_
        refine Ew_of (pc' := 45) (fun _ => x_goto rfl rfl) ?_
        exact w_ireturn rfl (k (1) σ _ _ H (SF_trans (SF_refl) hS_2 (any_sub rfl)) (SA_trans (SA_refl) hA_2 (any_subA rfl)) (show (1) = 0 ∨ (1) = 1 by omega) (show (1) = 1 → 1 ≤ (u6_30) by omega) (show (1) = 0 → (u6_30) ≤ 0 ∨ DIFF ((w65)) ((u6_30)) by first | assumption | exact fun h => absurd rfl h | exact fun h => absurd h (by decide) | omega) (show (1) = 1 → ALK ((w65)) ((u6_30)) by first | assumption | exact fun h => absurd rfl h | exact fun h => absurd h (by decide) | omega))
    · refine Ew_of (pc' := 11) (fun _ => x_aload_n rfl l2_0) ?_
      refine w_gT H (o := 6) (t := 65) rfl (H.perm 6 rfl) rfl rfl rfl rfl rfl rfl ?_
      refine Ew_of (pc' := 15) (fun _ => x_iload_n rfl l2_1) ?_
      refine w_lI H (o := 65) (n := 16385) rfl (H.perm 65 rfl) rfl rfl (H.fix 65 rfl rfl) (show 0 ≤ x2_1 ∧ x2_1 < ((16385 : Nat) : Int) by omega) (by decide) (fun v4 ev4 qv4 => ?_)
      have qv4 : (0 : Int) ≤ v4 ∧ v4 ≤ 255 := qv4
      have ev4 : (w65) (x2_1) = v4 := (congrFun ((funext (hA_2 65 rfl)).trans (ew65)) (x2_1)).symm.trans ev4
      refine Ew_of (pc' := 17) (fun _ => x_aload_n rfl l2_0) ?_
      refine w_gT H (o := 6) (t := 65) rfl (H.perm 6 rfl) rfl rfl rfl rfl rfl rfl ?_
      refine Ew_of (pc' := 21) (fun _ => x_iconst rfl) ?_
      refine w_lI H (o := 65) (n := 16385) rfl (H.perm 65 rfl) rfl rfl (H.fix 65 rfl rfl) (show 0 ≤ 0 ∧ 0 < ((16385 : Nat) : Int) by omega) (by decide) (fun v5 ev5 qv5 => ?_)
      have qv5 : (0 : Int) ≤ v5 ∧ v5 ≤ 255 := qv5
      have ev5 : (w65) (0) = v5 := (congrFun ((funext (hA_2 65 rfl)).trans (ew65)) (0)).symm.trans ev5
      have hd1 := ev4
      have hd0 := ev5
      refine w_icmpeq (t := 27) rfl rfl (show inr (v4) by omega) (show inr (v5) by omega) (fun b6 => ?_) (fun b6 => ?_)
      · refine Ew_of (pc' := 30) (fun _ => x_iinc (len := 3) rfl (l2_1)) ?_
        refine Ew_of (pc' := 2) (fun _ => x_goto rfl rfl) ?_
        have : ∀ k, 0 ≤ k → k < ((x2_1 + 1)) → ((w65)) k = ((w65)) 0 := fun k a b => by by_cases e : k = ql1; (rw [e, hql1, hd1, hd0]; omega); exact j2_a k a (by omega)
        exact ih2 _ (by omega) _ σ _ _ ((x2_1 + 1)) (rk_o (l2_0) rfl rfl) (rk_s) H (hS_2) (hA_2)   (show inr ((x2_1 + 1)) by omega) (show 1 ≤ ((x2_1 + 1)) by omega) (show ∀ k, 0 ≤ k → k < ((x2_1 + 1)) → ((w65)) k = ((w65)) 0 by assumption) (show 0 ≤ 0 + ((u6_30) + 1 - ((x2_1 + 1))) ∨ True by omega) rfl
      · have : (0 : Int) = 0 → (u6_30) ≤ 0 ∨ DIFF ((w65)) ((u6_30)) := fun _ => .inr ⟨(x2_1), by omega, by omega, by rw [hd1, hd0]; omega⟩
        refine Ew_of (pc' := 26) (fun _ => x_iconst rfl) ?_
        exact w_ireturn rfl (k (0) σ _ _ H (SF_trans (SF_refl) hS_2 (any_sub rfl)) (SA_trans (SA_refl) hA_2 (any_subA rfl)) (show (0) = 0 ∨ (0) = 1 by omega) (show (0) = 1 → 1 ≤ (u6_30) by omega) (show (0) = 0 → (u6_30) ≤ 0 ∨ DIFF ((w65)) ((u6_30)) by first | assumption | exact fun h => absurd rfl h | exact fun h => absurd h (by decide) | omega) (show (0) = 1 → ALK ((w65)) ((u6_30)) by first | assumption | exact fun h => absurd rfl h | exact fun h => absurd h (by decide) | omega))
/-- Writer.allCoded -/
theorem M433 {σ0 σ : rS} {D N : Nat → Nat} {F : hF} {A : hA} {d c s : Nat} {Q : wQ} (H : HS σ0 σ D N F A)  (u6_12 : Int) (eu6_12 : F 6 12 = u6_12) (u6_30 : Int) (eu6_30 : F 6 30 = u6_30) (w53 : Int → Int) (ew53 : A 53 = w53) (w65 : Int → Int) (ew65 : A 65 = w65) (k : ∀ (z : Int) σ F' A', HS σ0 σ D N F' A' → SF [] F F' → SA [] A A' → ((z) = 0 ∨ (z) = 1) → ((z) = 1 → 1 ≤ (u6_12)) → ((z) = 1 → ∀ k, 0 ≤ k → k < (u6_30) → ((w53)) (((w65)) k) ≠ 0) → ((z) = 0 → NCD ((u6_12)) ((w53)) ((w65)) ((u6_30))) → Q (some (I z)) σ c s) : Ew 433 (d + 0) 0 (rargs 0 [.ref (D 6)]) [] σ c s Q := by
  have r1 : (0 : Int) ≤ u6_12 ∧ u6_12 ≤ 11 := by have h1 : (0 : Int) ≤ F 6 12 ∧ F 6 12 ≤ 11 := H.frng 6 12; rw [show F 6 12 = u6_12 from (eu6_12)] at h1; exact h1
  have r2 : (0 : Int) ≤ u6_30 ∧ u6_30 ≤ 16385 := by have h1 : (0 : Int) ≤ F 6 30 ∧ F 6 30 ≤ 16385 := H.frng 6 30; rw [show F 6 30 = u6_30 from (eu6_30)] at h1; exact h1
  refine Ew_of (pc' := 1) (fun _ => x_iconst rfl) ?_
  refine Ew_of (pc' := 2) (fun _ => x_istore_n rfl) ?_
  have : ∀ k, (0 : Int) ≤ k → k < 0 → ((w53)) (((w65)) k) ≠ 0 := fun k a b => absurd b (by omega)
  suffices hl2 : ∀ (m : Nat), ∀ (ls : rO) (σ : rS) (F_2 : hF) (A_2 : hA) (x2_1 : Int), rlook ls 0 = some (.ref (D 6)) → rlook ls 1 = some (I (x2_1)) → HS σ0 σ D N F_2 A_2 → SF [] F F_2 → SA [] A A_2 → (inr (x2_1)) → ((0) ≤ (x2_1)) → ((x2_1) ≤ (0) ∨ (x2_1) ≤ ((u6_30))) → (∀ k, 0 ≤ k → k < (x2_1) → ((w53)) (((w65)) k) ≠ 0) → (((u6_30)) - (x2_1)).toNat = m → Ew 433 (d + 0) 2 ls [] σ c s Q from
    hl2 _ _ σ _ _ (0) (rk_o (rfl) rfl rfl) (rk_s) H (SF_refl) (SA_refl)   (show inr (0) by omega) (show (0) ≤ (0) by omega) (show (0) ≤ (0) ∨ (0) ≤ ((u6_30)) by omega) (show ∀ k, 0 ≤ k → k < (0) → ((w53)) (((w65)) k) ≠ 0 by assumption) rfl
  as_aux_lemma =>
  intro m
  induction m using Nat.strongRecOn with
  | _ m ih2 =>
    intro ls σ F_2 A_2 x2_1 l2_0 l2_1 H hS_2 hA_2   j2_0 j2_1 j2_2 j2_3 hm2
    refine Ew_of (pc' := 3) (fun _ => x_iload_n rfl l2_1) ?_
    refine Ew_of (pc' := 4) (fun _ => x_aload_n rfl l2_0) ?_
    refine w_gI H (o := 6) (w := u6_30) rfl (H.perm 6 rfl) rfl rfl rfl (fun _ => rfl) ((hS_2 6 30 rfl).trans (eu6_30)) ?_
    refine w_icmpge (t := 32) rfl rfl (show inr (x2_1) by omega) (show inr (u6_30) by omega) (fun b3 => ?_) (fun b3 => ?_)
    · refine Ew_of (pc' := 33) (fun _ => x_aload_n rfl l2_0) ?_
      refine w_gI H (o := 6) (w := u6_12) rfl (H.perm 6 rfl) rfl rfl rfl (fun _ => rfl) ((hS_2 6 12 rfl).trans (eu6_12)) ?_
      refine w_ifle (t := 43) rfl rfl (show inr (u6_12) by omega) (fun b4 => ?_) (fun b4 => ?_)
      · have : (0 : Int) = 0 → NCD ((u6_12)) ((w53)) ((w65)) ((u6_30)) := fun _ => .inl (by omega)
        refine Ew_of (pc' := 44) (fun _ => x_iconst rfl) ?_
        exact w_ireturn rfl (k (0) σ _ _ H (SF_trans (SF_refl) hS_2 (any_sub rfl)) (SA_trans (SA_refl) hA_2 (any_subA rfl)) (show (0) = 0 ∨ (0) = 1 by omega) (show (0) = 1 → 1 ≤ (u6_12) by omega) (show (0) = 1 → ∀ k, 0 ≤ k → k < (u6_30) → ((w53)) (((w65)) k) ≠ 0 by first | assumption | exact fun h => absurd rfl h | exact fun h => absurd h (by decide) | omega) (show (0) = 0 → NCD ((u6_12)) ((w53)) ((w65)) ((u6_30)) by first | assumption | exact fun h => absurd rfl h | exact fun h => absurd h (by decide) | omega))
      · refine Ew_of (pc' := 40) (fun _ => x_iconst rfl) ?_
        have : (1 : Int) = 1 → ∀ k, 0 ≤ k → k < (u6_30) → ((w53)) (((w65)) k) ≠ 0 := fun _ k a b => j2_3 k a (by omega)
        refine Ew_of (pc' := 44) (fun _ => x_goto rfl rfl) ?_
        exact w_ireturn rfl (k (1) σ _ _ H (SF_trans (SF_refl) hS_2 (any_sub rfl)) (SA_trans (SA_refl) hA_2 (any_subA rfl)) (show (1) = 0 ∨ (1) = 1 by omega) (show (1) = 1 → 1 ≤ (u6_12) by omega) (show (1) = 1 → ∀ k, 0 ≤ k → k < (u6_30) → ((w53)) (((w65)) k) ≠ 0 by first | assumption | exact fun h => absurd rfl h | exact fun h => absurd h (by decide) | omega) (show (1) = 0 → NCD ((u6_12)) ((w53)) ((w65)) ((u6_30)) by first | assumption | exact fun h => absurd rfl h | exact fun h => absurd h (by decide) | omega))
    · refine Ew_of (pc' := 11) (fun _ => x_aload_n rfl l2_0) ?_
      refine w_gT H (o := 6) (t := 53) rfl (H.perm 6 rfl) rfl rfl rfl rfl rfl rfl ?_
      refine Ew_of (pc' := 15) (fun _ => x_aload_n rfl l2_0) ?_
      refine w_gT H (o := 6) (t := 65) rfl (H.perm 6 rfl) rfl rfl rfl rfl rfl rfl ?_
      refine Ew_of (pc' := 19) (fun _ => x_iload_n rfl l2_1) ?_
      refine w_lI H (o := 65) (n := 16385) rfl (H.perm 65 rfl) rfl rfl (H.fix 65 rfl rfl) (show 0 ≤ x2_1 ∧ x2_1 < ((16385 : Nat) : Int) by omega) (by decide) (fun v5 ev5 qv5 => ?_)
      have qv5 : (0 : Int) ≤ v5 ∧ v5 ≤ 255 := qv5
      have ev5 : (w65) (x2_1) = v5 := (congrFun ((funext (hA_2 65 rfl)).trans (ew65)) (x2_1)).symm.trans ev5
      have hq := ev5
      refine w_lI H (o := 53) (n := 256) rfl (H.perm 53 rfl) rfl rfl (H.fix 53 rfl rfl) (show 0 ≤ v5 ∧ v5 < ((256 : Nat) : Int) by omega) (by decide) (fun v6 ev6 qv6 => ?_)
      have qv6 : (0 : Int) ≤ v6 ∧ v6 ≤ 11 := qv6
      have ev6 : (w53) (v5) = v6 := (congrFun ((funext (hA_2 53 rfl)).trans (ew53)) (v5)).symm.trans ev6
      have hq2 := ev6
      rw [← hq] at hq2
      refine w_ifne (t := 26) rfl rfl (show inr (v6) by omega) (fun b7 => ?_) (fun b7 => ?_)
      · have : ∀ k, 0 ≤ k → k < (x2_1) + 1 → ((w53)) (((w65)) k) ≠ 0 := fun k a b => by by_cases e : k = (x2_1); rw [e, hq2]; omega; exact j2_3 k a (by omega)
        refine Ew_of (pc' := 29) (fun _ => x_iinc (len := 3) rfl (l2_1)) ?_
        refine Ew_of (pc' := 2) (fun _ => x_goto rfl rfl) ?_
        exact ih2 _ (by omega) _ σ _ _ ((x2_1 + 1)) (rk_o (l2_0) rfl rfl) (rk_s) H (hS_2) (hA_2)   (show inr ((x2_1 + 1)) by omega) (show (0) ≤ ((x2_1 + 1)) by omega) (show ((x2_1 + 1)) ≤ (0) ∨ ((x2_1 + 1)) ≤ ((u6_30)) by omega) (show ∀ k, 0 ≤ k → k < ((x2_1 + 1)) → ((w53)) (((w65)) k) ≠ 0 by assumption) rfl
      · have : (0 : Int) = 0 → NCD ((u6_12)) ((w53)) ((w65)) ((u6_30)) := fun _ => .inr ⟨(x2_1), by omega, by omega, by rw [hq2]; omega⟩
        refine Ew_of (pc' := 25) (fun _ => x_iconst rfl) ?_
        exact w_ireturn rfl (k (0) σ _ _ H (SF_trans (SF_refl) hS_2 (any_sub rfl)) (SA_trans (SA_refl) hA_2 (any_subA rfl)) (show (0) = 0 ∨ (0) = 1 by omega) (show (0) = 1 → 1 ≤ (u6_12) by omega) (show (0) = 1 → ∀ k, 0 ≤ k → k < (u6_30) → ((w53)) (((w65)) k) ≠ 0 by first | assumption | exact fun h => absurd rfl h | exact fun h => absurd h (by decide) | omega) (show (0) = 0 → NCD ((u6_12)) ((w53)) ((w65)) ((u6_30)) by first | assumption | exact fun h => absurd rfl h | exact fun h => absurd h (by decide) | omega))
/-- Writer.sayHead -/
theorem M435 {σ0 σ : rS} {D N : Nat → Nat} {F : hF} {A : hA} {d c s : Nat} {Q : wQ} (H : HS σ0 σ D N F A) {a1 a2 a3 : Int} (u6_37 : Int) (eu6_37 : F 6 37 = u6_37) (h0 : inr (a1)) (h1 : inr (a2)) (h2 : inr (a3)) (h3 : 0 ≤ (a2) ∧ (a2) ≤ 3) (h4 : 0 ≤ (u6_37) ∧ (u6_37) ≤ 80000000) (k : ∀ σ F' A', HS σ0 σ D N F' A' → SF [(6, 37)] F F' → SA [70] A A' → ∀ y6_37 : Int, F' 6 37 = y6_37 → ((u6_37) ≤ (y6_37) ∧ (y6_37) ≤ (u6_37) + 5) → Q none σ c s) : Ew 435 (d + 2) 0 (rargs 0 [.ref (D 6), I a1, I a2, I a3]) [] σ c s Q := by
  have r1 : (0 : Int) ≤ u6_37 ∧ u6_37 ≤ 100000000 := by have h1 : (0 : Int) ≤ F 6 37 ∧ F 6 37 ≤ 100000000 := H.frng 6 37; rw [show F 6 37 = u6_37 from (eu6_37)] at h1; exact h1
  refine Ew_of (pc' := 1) (fun _ => x_aload_n rfl rfl) ?_
  refine Ew_of (pc' := 2) (fun _ => x_iload_n rfl rfl) ?_
  refine w_i2l rfl (show inr (a1) by omega) ?_
  refine Ew_of (pc' := 4) (fun _ => x_iload_n rfl rfl) ?_
  refine w_i2l rfl (show inr (a2) by omega) ?_
  refine Ew_of (pc' := 6) (fun _ => x_iconst rfl) ?_
  refine w_lshlA rfl (fun z2 gz2 => ?_)
  refine w_lorA rfl (fun z3 gz3 => ?_)
  refine Ew_of (pc' := 9) (fun _ => x_aload_n rfl rfl) ?_
  have r4 : (0 : Int) ≤ F 6 30 ∧ F 6 30 ≤ 16385 := by have h1 : (0 : Int) ≤ F 6 30 ∧ F 6 30 ≤ 16385 := H.frng 6 30; rw [show F 6 30 = F 6 30 from rfl] at h1; exact h1
  refine w_gI H (o := 6) (w := F 6 30) rfl (H.perm 6 rfl) rfl rfl rfl (fun _ => rfl) rfl ?_
  refine w_i2l rfl (show inr (F 6 30) by omega) ?_
  refine Ew_of (pc' := 14) (fun _ => x_iconst rfl) ?_
  refine w_lshlA rfl (fun z5 gz5 => ?_)
  refine w_lorA rfl (fun z6 gz6 => ?_)
  refine Ew_of (pc' := 17) (fun _ => x_iload_n rfl rfl) ?_
  refine w_i2l rfl (show inr (a3) by omega) ?_
  refine Ew_of (pc' := 19) (fun _ => x_iconst rfl) ?_
  refine Ew_of (pc' := 20) (fun _ => x_iload_n rfl rfl) ?_
  refine w_stat24 rfl rfl (by rfl) (M427 H (show inr (a2) by omega) (fun z11 σ F7 A8 H hS9 hA10 pz11_0 pz11_1 pz11_2 => ⟨rfl, ?_⟩))
  refine w_iadd rfl ?_
  refine w_lshlA rfl (fun z12 gz12 => ?_)
  refine w_lorA rfl (fun z13 gz13 => ?_)
  refine Ew_of (pc' := 27) (fun _ => x_iload_n rfl rfl) ?_
  refine w_stat24 rfl rfl (by rfl) (M428 H (show inr (a2) by omega) (fun z18 σ F14 A15 H hS16 hA17 pz18_0 pz18_1 pz18_2 => ⟨rfl, ?_⟩))
  refine w_inv H (o := 6) rfl rfl rfl (H.perm 6 rfl) rfl rfl (by rfl) (M393 H (u6_37) ((((hS16 6 37 rfl).trans (hS9 6 37 rfl)).trans (eu6_37))) (A 70) ((funext (hA17 70 rfl)).trans (funext (hA10 70 rfl))) (show inrJ (z13) by omega) (show inr (z18) by omega) (show 0 ≤ (z18) ∧ (z18) ≤ 8 by omega) (show 0 ≤ (u6_37) ∧ (u6_37) ≤ 90000000 by omega) (fun σ F19 A20 H hS21 hA22 y24 ey25 wq26 ewq27 pz23_0 pz23_1 => ⟨rfl, ?_⟩))
  have r28 : (0 : Int) ≤ y24 ∧ y24 ≤ 100000000 := by have h1 : (0 : Int) ≤ F19 6 37 ∧ F19 6 37 ≤ 100000000 := H.frng 6 37; rw [show F19 6 37 = y24 from (ey25)] at h1; exact h1
  exact w_ret rfl (k σ _ _ H (SF_trans (SF_trans (SF_trans (SF_refl) hS9 (any_sub rfl)) hS16 (any_sub rfl)) hS21 (any_sub rfl)) (SA_trans (SA_trans (SA_trans (SA_refl) hA10 (any_subA rfl)) hA17 (any_subA rfl)) hA22 (any_subA rfl)) (y24) ((ey25)) (show (u6_37) ≤ (y24) ∧ (y24) ≤ (u6_37) + 5 by omega))
