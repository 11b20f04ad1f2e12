/-- Reader.tables -/
theorem M293 {σ0 σ : rS} {D N : Nat → Nat} {F : hF} {A : hA} {d c s : Nat} {Q : wQ} (H : HS σ0 σ D N F A) {a1 : Int} (u1_1 : Int) (eu1_1 : F 1 1 = u1_1) (u5_25 : Int) (eu5_25 : F 5 25 = u5_25) (w34 : Int → Int) (ew34 : A 34 = w34) (w35 : Int → Int) (ew35 : A 35 = w35) (w36 : Int → Int) (ew36 : A 36 = w36) (w37 : Int → Int) (ew37 : A 37 = w37) (h0 : inr (a1)) (h1 : 0 ≤ (u5_25) ∧ (u5_25) ≤ (a1) ∧ (a1) ≤ (u1_1)) (h2 : RT ((w35)) ((w36)) ((w37)) ((w34))) (k : ∀ (z : Int) σ F' A', HS σ0 σ D N F' A' → SF [(5, 19), (5, 25), (5, 30), (5, 31)] F F' → SA [33, 34, 35, 36, 37, 39, 41] A A' → ∀ y5_25 : Int, F' 5 25 = y5_25 → ∀ v34 : Int → Int, A' 34 = v34 → ∀ v35 : Int → Int, A' 35 = v35 → ∀ v36 : Int → Int, A' 36 = v36 → ∀ v37 : Int → Int, A' 37 = v37 → ((z) = 0 ∨ (z) = 1) → ((z) = 1 → (u5_25) ≤ (y5_25) ∧ (y5_25) ≤ (a1)) → (RT ((v35)) ((v36)) ((v37)) ((v34))) → ((z) = 1 → ∀ t, 0 ≤ t → t < 3 → 0 ≤ ((v34)) t) → Q (some (I z)) σ c s) : Ew 293 (d + 4) 0 (rargs 0 [.ref (D 5), I a1]) [] σ c s Q := by
  have r1 : (0 : Int) ≤ u1_1 ∧ u1_1 ≤ 65536 := by have h1 : (0 : Int) ≤ F 1 1 ∧ F 1 1 ≤ 65536 := H.frng 1 1; rw [show F 1 1 = u1_1 from (eu1_1)] at h1; exact h1
  have r2 : (0 : Int) ≤ u5_25 ∧ u5_25 ≤ 65536 := by have h1 : (0 : Int) ≤ F 5 25 ∧ F 5 25 ≤ 65536 := H.frng 5 25; rw [show F 5 25 = u5_25 from (eu5_25)] at h1; exact h1
  refine Ew_of (pc' := 1) (fun _ => x_aload_n rfl rfl) ?_
  refine w_gI H (o := 5) (w := u5_25) rfl (H.perm 5 rfl) rfl rfl rfl (fun _ => rfl) (eu5_25) ?_
  refine Ew_of (pc' := 5) (fun _ => x_istore_n rfl) ?_
  refine Ew_of (pc' := 6) (fun _ => x_aload_n rfl (rk_o (rfl) rfl rfl)) ?_
  refine w_gI H (o := 5) (w := u5_25) rfl (H.perm 5 rfl) rfl rfl rfl (fun _ => rfl) (eu5_25) ?_
  refine Ew_of (pc' := 10) (fun _ => x_iload_n rfl (rk_o (rfl) rfl rfl)) ?_
  refine w_icmplt (t := 21) rfl rfl (show inr (u5_25) by omega) (show inr (a1) by omega) (fun b3 => ?_) (fun b3 => ?_)
  · refine Ew_of (pc' := 22) (fun _ => x_aload_n rfl (rk_o (rfl) rfl rfl)) ?_
    refine w_gT H (o := 5) (t := 1) rfl (H.perm 5 rfl) rfl rfl rfl rfl rfl rfl ?_
    refine w_gT H (o := 1) (t := 14) rfl (H.perm 1 rfl) rfl rfl rfl rfl rfl rfl ?_
    refine Ew_of (pc' := 29) (fun _ => x_aload_n rfl (rk_o (rfl) rfl rfl)) ?_
    refine w_gI H (o := 5) (w := u5_25) rfl (H.perm 5 rfl) rfl rfl rfl (fun _ => rfl) (eu5_25) ?_
    refine w_lI H (o := 14) (n := 65536) rfl (H.perm 14 rfl) rfl rfl (H.fix 14 rfl rfl) (show 0 ≤ u5_25 ∧ u5_25 < ((65536 : Nat) : Int) by omega) (by decide) (fun v4 ev4 qv4 => ?_)
    have qv4 : (0 : Int) ≤ v4 ∧ v4 ≤ 255 := qv4
    have ev4 : (A 14) (u5_25) = v4 := (congrFun (rfl : A 14 = A 14) (u5_25)).symm.trans ev4
    refine Ew_of (pc' := 34) (fun _ => x_istore_n rfl) ?_
    refine Ew_of (pc' := 35) (fun _ => x_aload_n rfl (rk_o (rk_o (rfl) rfl rfl) rfl rfl)) ?_
    refine Ew_of (pc' := 36) (fun _ => x_dup rfl rfl) ?_
    refine w_gI H (o := 5) (w := u5_25) rfl (H.perm 5 rfl) rfl rfl rfl (fun _ => rfl) (eu5_25) ?_
    refine Ew_of (pc' := 40) (fun _ => x_iconst rfl) ?_
    refine w_iadd rfl ?_
    refine w_pI H (o := 5) rfl rfl (H.perm 5 rfl) rfl rfl rfl (fun _ => rfl) rfl (show (0 : Int) ≤ (u5_25 + 1) ∧ (u5_25 + 1) ≤ 65536 by omega) (fun σ H => ?_)
    refine Ew_of (pc' := 45) (fun _ => x_iload_n rfl rk_s) ?_
    refine Ew_of (pc' := 46) (fun _ => x_iconst rfl) ?_
    refine w_irem rfl (show inr (v4) ∧ 0 ≤ v4 by omega) (show inr (4) ∧ 0 < 4 by omega) ?_
    refine w_ifle (t := 58) rfl rfl (show inr ((v4 % 4)) by omega) (fun b5 => ?_) (fun b5 => ?_)
    · refine Ew_of (pc' := 59) (fun _ => x_iconst rfl) ?_
      refine Ew_of (pc' := 61) (fun _ => x_istore rfl) ?_
      have : ∀ t, (0 : Int) ≤ t → t < 0 → 0 ≤ ((w34)) t := fun t a b => absurd b (by omega)
      suffices hl61 : ∀ (m : Nat), ∀ (ls : rO) (σ : rS) (F_61 : hF) (A_61 : hA) (x61_4 : Int), rlook ls 0 = some (.ref (D 5)) → rlook ls 1 = some (I (a1)) → rlook ls 2 = some (I (u5_25)) → rlook ls 3 = some (I (v4)) → rlook ls 4 = some (I (x61_4)) → HS σ0 σ D N F_61 A_61 → SF [(5, 19), (5, 25)] (updF F 5 25 ((u5_25 + 1))) F_61 → SA [33, 34, 35, 36, 37, 39, 41] A A_61 → ∀ y61_5_25 : Int, F_61 5 25 = y61_5_25 → ∀ w61_34 : Int → Int, A_61 34 = w61_34 → ∀ w61_35 : Int → Int, A_61 35 = w61_35 → ∀ w61_36 : Int → Int, A_61 36 = w61_36 → ∀ w61_37 : Int → Int, A_61 37 = w61_37 → (inr (x61_4)) → (0 ≤ (x61_4) ∧ (x61_4) ≤ 3) → (((u5_25 + 1)) ≤ (y61_5_25) ∧ (y61_5_25) ≤ (a1)) → (RT ((w61_35)) ((w61_36)) ((w61_37)) ((w61_34))) → (∀ t, 0 ≤ t → t < (x61_4) → 0 ≤ ((w61_34)) t) → (3 - (x61_4)).toNat = m → Ew 293 (d + 4) 61 ls [] σ c s Q from
        hl61 _ _ σ _ _ (0) (rk_o (rk_o (rk_o (rfl) rfl rfl) rfl rfl) rfl rfl) (rk_o (rk_o (rk_o (rfl) rfl rfl) rfl rfl) rfl rfl) (rk_o (rk_o (rk_s) rfl rfl) rfl rfl) (rk_o (rk_s) rfl rfl) (rk_s) H (SF_refl) (SA_refl) ((u5_25 + 1)) (rfl) (w34) (ew34) (w35) (ew35) (w36) (ew36) (w37) (ew37) (show inr (0) by omega) (show 0 ≤ (0) ∧ (0) ≤ 3 by omega) (show ((u5_25 + 1)) ≤ ((u5_25 + 1)) ∧ ((u5_25 + 1)) ≤ (a1) by omega) (show RT ((w35)) ((w36)) ((w37)) ((w34)) by assumption) (show ∀ t, 0 ≤ t → t < (0) → 0 ≤ ((w34)) t by assumption) rfl
      as_aux_lemma =>
      intro m
      induction m using Nat.strongRecOn with
      | _ m ih61 =>
        intro ls σ F_61 A_61 x61_4 l61_0 l61_1 l61_2 l61_3 l61_4 H hS_61 hA_61 y61_5_25 ey61_5_25 w61_34 ew61_34 w61_35 ew61_35 w61_36 ew61_36 w61_37 ew61_37 j61_0 j61_1 j61_2 j61_3 j61_4 hm61
        have r6 : (0 : Int) ≤ y61_5_25 ∧ y61_5_25 ≤ 65536 := by have h1 : (0 : Int) ≤ F_61 5 25 ∧ F_61 5 25 ≤ 65536 := H.frng 5 25; rw [show F_61 5 25 = y61_5_25 from (ey61_5_25)] at h1; exact h1
        have j61_on : ∀ t, 0 ≤ t → t < (x61_4) → 0 ≤ ((w61_34)) t := by assumption
        refine Ew_of (pc' := 63) (fun _ => x_iload rfl l61_4) ?_
        refine Ew_of (pc' := 64) (fun _ => x_iconst rfl) ?_
        refine w_icmpge (t := 334) rfl rfl (show inr (x61_4) by omega) (show inr (3) by omega) (fun b7 => ?_) (fun b7 => ?_)
        · have : (1 : Int) = 1 → ∀ t, 0 ≤ t → t < 3 → 0 ≤ ((w61_34)) t := fun _ t a b => j61_on t a (by omega)
          refine Ew_of (pc' := 335) (fun _ => x_iconst rfl) ?_
          exact w_ireturn rfl (k (1) σ _ _ H (SF_trans (SF_upd (SF_refl) rfl) hS_61 (any_sub rfl)) (SA_trans (SA_refl) hA_61 (any_subA rfl)) (y61_5_25) ((ey61_5_25)) (w61_34) (ew61_34) (w61_35) (ew61_35) (w61_36) (ew61_36) (w61_37) (ew61_37) (show (1) = 0 ∨ (1) = 1 by omega) (show (1) = 1 → (u5_25) ≤ (y61_5_25) ∧ (y61_5_25) ≤ a1 by omega) (show RT ((w61_35)) ((w61_36)) ((w61_37)) ((w61_34)) by assumption) (show (1) = 1 → ∀ t, 0 ≤ t → t < 3 → 0 ≤ ((w61_34)) t by first | assumption | exact fun h => absurd rfl h | exact fun h => absurd h (by decide) | omega))
        · refine Ew_of (pc' := 68) (fun _ => x_iload_n rfl l61_3) ?_
          refine Ew_of (pc' := 70) (fun _ => x_bipush (z := 6) rfl (by decide)) ?_
          refine Ew_of (pc' := 71) (fun _ => x_iconst rfl) ?_
          refine Ew_of (pc' := 73) (fun _ => x_iload rfl l61_4) ?_
          refine w_imul rfl ?_
          refine w_isub rfl ?_
          refine w_ishrA rfl (fun z8 gz8 => ?_)
          refine Ew_of (pc' := 77) (fun _ => x_iconst rfl) ?_
          refine w_iand rfl (show inr (z8) by omega) (show inr (3) by omega) (fun z9 gz9 gaz9 gbz9 => ?_)
          refine Ew_of (pc' := 80) (fun _ => x_istore rfl) ?_
          have hc328 : ∀ (ls : rO) (σ : rS) (F_c328 : hF) (A_c328 : hA) , rlook ls 0 = some (.ref (D 5)) → rlook ls 1 = some (I (a1)) → rlook ls 2 = some (I (u5_25)) → rlook ls 3 = some (I (v4)) → rlook ls 4 = some (I (x61_4)) → HS σ0 σ D N F_c328 A_c328 → SF [(5, 19), (5, 25)] F_61 F_c328 → SA [33, 34, 35, 36, 37, 39, 41] A_61 A_c328 → ∀ yc328_5_25 : Int, F_c328 5 25 = yc328_5_25 → ∀ wc328_34 : Int → Int, A_c328 34 = wc328_34 → ∀ wc328_35 : Int → Int, A_c328 35 = wc328_35 → ∀ wc328_36 : Int → Int, A_c328 36 = wc328_36 → ∀ wc328_37 : Int → Int, A_c328 37 = wc328_37 → ((y61_5_25) ≤ (yc328_5_25) ∧ (yc328_5_25) ≤ (a1)) → (RT ((wc328_35)) ((wc328_36)) ((wc328_37)) ((wc328_34))) → (∀ t, 0 ≤ t → t < (x61_4) + 1 → 0 ≤ ((wc328_34)) t) → Ew 293 (d + 4) 328 ls [] σ c s Q := by
           as_aux_lemma =>
            intro  ls σ F_c328 A_c328  lc328_0 lc328_1 lc328_2 lc328_3 lc328_4 H hS_c328 hA_c328 yc328_5_25 eyc328_5_25 wc328_34 ewc328_34 wc328_35 ewc328_35 wc328_36 ewc328_36 wc328_37 ewc328_37 jc328_0 jc328_1 jc328_2
            have r10 : (0 : Int) ≤ yc328_5_25 ∧ yc328_5_25 ≤ 65536 := by have h1 : (0 : Int) ≤ F_c328 5 25 ∧ F_c328 5 25 ≤ 65536 := H.frng 5 25; rw [show F_c328 5 25 = yc328_5_25 from (eyc328_5_25)] at h1; exact h1
            refine Ew_of (pc' := 331) (fun _ => x_iinc (len := 3) rfl (lc328_4)) ?_
            refine Ew_of (pc' := 61) (fun _ => x_goto rfl rfl) ?_
            exact ih61 _ (by omega) _ σ _ _ ((x61_4 + 1)) (rk_o (lc328_0) rfl rfl) (rk_o (lc328_1) rfl rfl) (rk_o (lc328_2) rfl rfl) (rk_o (lc328_3) rfl rfl) (rk_s) H (SF_trans (hS_61) hS_c328 (any_sub rfl)) (SA_trans (hA_61) hA_c328 (any_subA rfl)) (yc328_5_25) ((eyc328_5_25)) (wc328_34) (ewc328_34) (wc328_35) (ewc328_35) (wc328_36) (ewc328_36) (wc328_37) (ewc328_37) (show inr ((x61_4 + 1)) by omega) (show 0 ≤ ((x61_4 + 1)) ∧ ((x61_4 + 1)) ≤ 3 by omega) (show ((u5_25 + 1)) ≤ (yc328_5_25) ∧ (yc328_5_25) ≤ (a1) by omega) (show RT ((wc328_35)) ((wc328_36)) ((wc328_37)) ((wc328_34)) by assumption) (show ∀ t, 0 ≤ t → t < ((x61_4 + 1)) → 0 ≤ ((wc328_34)) t by assumption) rfl
          have hlo := lastOf_eq ((x61_4))
          refine Ew_of (pc' := 82) (fun _ => x_iload rfl rk_s) ?_
          refine w_ifne (t := 94) rfl rfl (show inr (z9) by omega) (fun b11 => ?_) (fun b11 => ?_)
          · refine Ew_of (pc' := 96) (fun _ => x_iload rfl rk_s) ?_
            refine Ew_of (pc' := 97) (fun _ => x_iconst rfl) ?_
            refine w_icmpne (t := 247) rfl rfl (show inr (z9) by omega) (show inr (1) by omega) (fun b12 => ?_) (fun b12 => ?_)
            · refine Ew_of (pc' := 249) (fun _ => x_iload rfl rk_s) ?_
              refine Ew_of (pc' := 250) (fun _ => x_iconst rfl) ?_
              refine w_icmpne (t := 310) rfl rfl (show inr (z9) by omega) (show inr (2) by omega) (fun b13 => ?_) (fun b13 => ?_)
              · refine Ew_of (pc' := 311) (fun _ => x_aload_n rfl (rk_o (l61_0) rfl rfl)) ?_
                refine w_gT H (o := 5) (t := 34) rfl (H.perm 5 rfl) rfl rfl rfl rfl rfl rfl ?_
                refine Ew_of (pc' := 316) (fun _ => x_iload rfl (rk_o (l61_4) rfl rfl)) ?_
                refine w_lI H (o := 34) (n := 3) rfl (H.perm 34 rfl) rfl rfl (H.fix 34 rfl rfl) (show 0 ≤ x61_4 ∧ x61_4 < ((3 : Nat) : Int) by omega) (by decide) (fun v14 ev14 qv14 => ?_)
                have qv14 : (-1 : Int) ≤ v14 ∧ v14 ≤ 9 := qv14
                have ev14 : (w61_34) (x61_4) = v14 := (congrFun (ew61_34) (x61_4)).symm.trans ev14
                have hv := ev14
                refine w_ifge (t := 328) rfl rfl (show inr (v14) by omega) (fun b15 => ?_) (fun b15 => ?_)
                · have : ∀ t, 0 ≤ t → t < (x61_4) + 1 → 0 ≤ ((w61_34)) t := by first | assumption | exact (fun t a b => by by_cases e : t = (x61_4); rw [e]; omega; exact j61_on t a (by omega))
                  exact hc328  _ σ _ _  (rk_o (l61_0) rfl rfl) (rk_o (l61_1) rfl rfl) (rk_o (l61_2) rfl rfl) (rk_o (l61_3) rfl rfl) (rk_o (l61_4) rfl rfl) H (SF_refl) (SA_refl) (y61_5_25) ((ey61_5_25)) (w61_34) (ew61_34) (w61_35) (ew61_35) (w61_36) (ew61_36) (w61_37) (ew61_37) (show (y61_5_25) ≤ (y61_5_25) ∧ (y61_5_25) ≤ (a1) by omega) (show RT ((w61_35)) ((w61_36)) ((w61_37)) ((w61_34)) by assumption) (show ∀ t, 0 ≤ t → t < (x61_4) + 1 → 0 ≤ ((w61_34)) t by assumption)
                · refine Ew_of (pc' := 321) (fun _ => x_aload_n rfl (rk_o (l61_0) rfl rfl)) ?_
                  refine Ew_of (pc' := 323) (fun _ => x_bipush (z := 16) rfl (by decide)) ?_
                  refine Ew_of (pc' := 324) (fun _ => x_iload_n rfl (rk_o (l61_2) rfl rfl)) ?_
                  refine w_inv H (o := 5) rfl rfl rfl (H.perm 5 rfl) rfl rfl (by rfl) (M282 H (show inr (16) by omega) (show inr (u5_25) by omega) (show 0 ≤ (16) ∧ (16) ≤ 20 by omega) (show 0 ≤ (u5_25) ∧ (u5_25) ≤ 65536 by omega) (fun z20 σ F16 A17 H hS18 hA19 pz20_0 pz20_1 => ⟨rretB rfl pz20_0, ?_⟩))
                  exact w_ireturn rfl (k (z20) σ _ _ H (SF_trans (SF_trans (SF_upd (SF_refl) rfl) hS_61 (any_sub rfl)) hS18 (any_sub rfl)) (SA_trans (SA_trans (SA_refl) hA_61 (any_subA rfl)) hA19 (any_subA rfl)) (y61_5_25) (((hS18 5 25 rfl).trans (ey61_5_25))) (w61_34) ((funext (hA19 34 rfl)).trans (ew61_34)) (w61_35) ((funext (hA19 35 rfl)).trans (ew61_35)) (w61_36) ((funext (hA19 36 rfl)).trans (ew61_36)) (w61_37) ((funext (hA19 37 rfl)).trans (ew61_37)) (show (z20) = 0 ∨ (z20) = 1 by omega) (show (z20) = 1 → (u5_25) ≤ (y61_5_25) ∧ (y61_5_25) ≤ a1 by omega) (show RT ((w61_35)) ((w61_36)) ((w61_37)) ((w61_34)) by assumption) (show (z20) = 1 → ∀ t, 0 ≤ t → t < 3 → 0 ≤ ((w61_34)) t by first | assumption | exact fun h => absurd rfl h | exact fun h => absurd h (by decide) | omega))
              · refine Ew_of (pc' := 254) (fun _ => x_aload_n rfl (rk_o (l61_0) rfl rfl)) ?_
                refine Ew_of (pc' := 255) (fun _ => x_aload_n rfl (rk_o (l61_0) rfl rfl)) ?_
                refine w_gI H (o := 5) (w := y61_5_25) rfl (H.perm 5 rfl) rfl rfl rfl (fun _ => rfl) (ey61_5_25) ?_
                refine Ew_of (pc' := 259) (fun _ => x_iload_n rfl (rk_o (l61_1) rfl rfl)) ?_
                refine Ew_of (pc' := 261) (fun _ => x_iload rfl (rk_o (l61_4) rfl rfl)) ?_
                refine Ew_of (pc' := 262) (fun _ => x_iconst rfl) ?_
                have hc272 : ∀ (tc272_0 : Int), ∀ (ls : rO) (σ : rS) (F_c272 : hF) (A_c272 : hA) , rlook ls 0 = some (.ref (D 5)) → rlook ls 1 = some (I (a1)) → rlook ls 2 = some (I (u5_25)) → rlook ls 3 = some (I (v4)) → rlook ls 4 = some (I (x61_4)) → HS σ0 σ D N F_c272 A_c272 → SF [] F_61 F_c272 → SA [] A_61 A_c272 → (inr (tc272_0)) → (((x61_4) ≠ (1) ∧ (tc272_0) = (9)) ∨ ((x61_4) = (1) ∧ (tc272_0) = (8))) → Ew 293 (d + 4) 272 ls [I (tc272_0), I (a1), I (y61_5_25), .ref (D 5)] σ c s Q := by
                 as_aux_lemma =>
                  intro tc272_0 ls σ F_c272 A_c272  lc272_0 lc272_1 lc272_2 lc272_3 lc272_4 H hS_c272 hA_c272   jc272_0 jc272_1
                  refine Ew_of (pc' := 274) (fun _ => x_iload rfl lc272_4) ?_
                  refine w_stat24 rfl rfl (by rfl) (M276 H (show inr (x61_4) by omega) (show 0 ≤ (x61_4) ∧ (x61_4) ≤ 2 by omega) (fun z25 σ F21 A22 H hS23 hA24 pz25_0 pz25_1 pz25_2 => ⟨rfl, ?_⟩))
                  refine w_inv H (o := 5) rfl rfl rfl (H.perm 5 rfl) rfl rfl (by rfl) (M261 H (show inr (y61_5_25) by omega) (show inr (a1) by omega) (show inr (tc272_0) by omega) (show inr (z25) by omega) (show 0 ≤ (y61_5_25) ∧ (y61_5_25) ≤ 65536 ∧ (a1) ≤ 65536 ∧ 0 ≤ (a1) by omega) (show 6 ≤ (tc272_0) ∧ (tc272_0) ≤ 9 ∧ 0 ≤ (z25) ∧ (z25) ≤ 63 by omega) (fun z30 σ F26 A27 H hS28 hA29 y31 ey32 wq33 ewq34 pz30_0 pz30_1 pz30_2 => ⟨rfl, ?_⟩))
                  have r35 : (0 : Int) ≤ y31 ∧ y31 ≤ 20 := by have h1 : (0 : Int) ≤ F26 5 19 ∧ F26 5 19 ≤ 20 := H.frng 5 19; rw [show F26 5 19 = y31 from (ey32)] at h1; exact h1
                  refine Ew_of (pc' := 282) (fun _ => x_istore rfl) ?_
                  refine Ew_of (pc' := 284) (fun _ => x_iload rfl rk_s) ?_
                  refine w_ifge (t := 295) rfl rfl (show inr (z30) by omega) (fun b36 => ?_) (fun b36 => ?_)
                  · have hsh := pz30_2 (by omega)
                    rw [pz25_1] at hsh
                    refine Ew_of (pc' := 296) (fun _ => x_aload_n rfl (rk_o (lc272_0) rfl rfl)) ?_
                    refine Ew_of (pc' := 298) (fun _ => x_iload rfl (rk_o (lc272_4) rfl rfl)) ?_
                    refine w_inv H (o := 5) rfl rfl rfl (H.perm 5 rfl) rfl rfl (by rfl) (M264 H (y31) ((ey32)) (A_61 33) ((funext (hA29 33 rfl)).trans ((funext (hA24 33 rfl)).trans (funext (hA_c272 33 rfl)))) (w61_34) ((funext (hA29 34 rfl)).trans ((funext (hA24 34 rfl)).trans ((funext (hA_c272 34 rfl)).trans (ew61_34)))) (w61_35) ((funext (hA29 35 rfl)).trans ((funext (hA24 35 rfl)).trans ((funext (hA_c272 35 rfl)).trans (ew61_35)))) (w61_36) ((funext (hA29 36 rfl)).trans ((funext (hA24 36 rfl)).trans ((funext (hA_c272 36 rfl)).trans (ew61_36)))) (w61_37) ((funext (hA29 37 rfl)).trans ((funext (hA24 37 rfl)).trans ((funext (hA_c272 37 rfl)).trans (ew61_37)))) (wq33) (ewq34) (show inr (x61_4) by omega) (show 0 ≤ (x61_4) ∧ (x61_4) ≤ 2 by omega) (show SH ((wq33)) 0 64 ((y31)) (lastOf ((x61_4))) by assumption) (show RT ((w61_35)) ((w61_36)) ((w61_37)) ((w61_34)) by assumption) (fun σ F37 A38 H hS39 hA40 wq42 ewq43 wq44 ewq45 wq46 ewq47 wq48 ewq49 wq50 ewq51 pz41_0 pz41_1 pz41_2 pz41_3 => ⟨rfl, ?_⟩))
                    have : ∀ t, 0 ≤ t → t < (x61_4) + 1 → 0 ≤ ((wq44)) t := fun t a b => by by_cases e : t = (x61_4); rw [e]; have := PS_ord pz41_1; omega; rw [pz41_3 t (by omega)]; exact j61_on t a (by omega)
                    refine Ew_of (pc' := 302) (fun _ => x_aload_n rfl (rk_o (lc272_0) rfl rfl)) ?_
                    refine Ew_of (pc' := 304) (fun _ => x_iload rfl rk_s) ?_
                    refine w_pI H (o := 5) rfl rfl (H.perm 5 rfl) rfl rfl rfl (fun _ => rfl) rfl (show (0 : Int) ≤ z30 ∧ z30 ≤ 65536 by omega) (fun σ H => ?_)
                    refine Ew_of (pc' := 328) (fun _ => x_goto rfl rfl) ?_
                    have : ∀ t, 0 ≤ t → t < (x61_4) + 1 → 0 ≤ ((wq44)) t := by first | assumption | exact (fun t a b => by by_cases e : t = (x61_4); rw [e]; omega; exact j61_on t a (by omega))
                    exact hc328  _ σ _ _  (rk_o (lc272_0) rfl rfl) (rk_o (lc272_1) rfl rfl) (rk_o (lc272_2) rfl rfl) (rk_o (lc272_3) rfl rfl) (rk_o (lc272_4) rfl rfl) H (SF_upd (SF_trans (SF_trans (SF_trans (SF_trans (SF_refl) hS_c272 (any_sub rfl)) hS23 (any_sub rfl)) hS28 (any_sub rfl)) hS39 (any_sub rfl)) rfl) (SA_trans (SA_trans (SA_trans (SA_trans (SA_refl) hA_c272 (any_subA rfl)) hA24 (any_subA rfl)) hA29 (any_subA rfl)) hA40 (any_subA rfl)) (z30) (rfl) (wq44) (ewq45) (wq46) (ewq47) (wq48) (ewq49) (wq50) (ewq51) (show (y61_5_25) ≤ (z30) ∧ (z30) ≤ (a1) by omega) (show RT ((wq46)) ((wq48)) ((wq50)) ((wq44)) by assumption) (show ∀ t, 0 ≤ t → t < (x61_4) + 1 → 0 ≤ ((wq44)) t by assumption)
                  · refine Ew_of (pc' := 288) (fun _ => x_aload_n rfl (rk_o (lc272_0) rfl rfl)) ?_
                    refine Ew_of (pc' := 290) (fun _ => x_bipush (z := 16) rfl (by decide)) ?_
                    refine Ew_of (pc' := 291) (fun _ => x_iload_n rfl (rk_o (lc272_2) rfl rfl)) ?_
                    refine w_inv H (o := 5) rfl rfl rfl (H.perm 5 rfl) rfl rfl (by rfl) (M282 H (show inr (16) by omega) (show inr (u5_25) by omega) (show 0 ≤ (16) ∧ (16) ≤ 20 by omega) (show 0 ≤ (u5_25) ∧ (u5_25) ≤ 65536 by omega) (fun z56 σ F52 A53 H hS54 hA55 pz56_0 pz56_1 => ⟨rretB rfl pz56_0, ?_⟩))
                    exact w_ireturn rfl (k (z56) σ _ _ H (SF_trans (SF_trans (SF_trans (SF_trans (SF_trans (SF_upd (SF_refl) rfl) hS_61 (any_sub rfl)) hS_c272 (any_sub rfl)) hS23 (any_sub rfl)) hS28 (any_sub rfl)) hS54 (any_sub rfl)) (SA_trans (SA_trans (SA_trans (SA_trans (SA_trans (SA_refl) hA_61 (any_subA rfl)) hA_c272 (any_subA rfl)) hA24 (any_subA rfl)) hA29 (any_subA rfl)) hA55 (any_subA rfl)) (y61_5_25) ((((((hS54 5 25 rfl).trans (hS28 5 25 rfl)).trans (hS23 5 25 rfl)).trans (hS_c272 5 25 rfl)).trans (ey61_5_25))) (w61_34) ((funext (hA55 34 rfl)).trans ((funext (hA29 34 rfl)).trans ((funext (hA24 34 rfl)).trans ((funext (hA_c272 34 rfl)).trans (ew61_34))))) (w61_35) ((funext (hA55 35 rfl)).trans ((funext (hA29 35 rfl)).trans ((funext (hA24 35 rfl)).trans ((funext (hA_c272 35 rfl)).trans (ew61_35))))) (w61_36) ((funext (hA55 36 rfl)).trans ((funext (hA29 36 rfl)).trans ((funext (hA24 36 rfl)).trans ((funext (hA_c272 36 rfl)).trans (ew61_36))))) (w61_37) ((funext (hA55 37 rfl)).trans ((funext (hA29 37 rfl)).trans ((funext (hA24 37 rfl)).trans ((funext (hA_c272 37 rfl)).trans (ew61_37))))) (show (z56) = 0 ∨ (z56) = 1 by omega) (show (z56) = 1 → (u5_25) ≤ (y61_5_25) ∧ (y61_5_25) ≤ a1 by omega) (show RT ((w61_35)) ((w61_36)) ((w61_37)) ((w61_34)) by assumption) (show (z56) = 1 → ∀ t, 0 ≤ t → t < 3 → 0 ≤ ((w61_34)) t by first | assumption | exact fun h => absurd rfl h | exact fun h => absurd h (by decide) | omega))
                refine w_icmpne (t := 270) rfl rfl (show inr (x61_4) by omega) (show inr (1) by omega) (fun b57 => ?_) (fun b57 => ?_)
                · refine Ew_of (pc' := 272) (fun _ => x_bipush (z := 9) rfl (by decide)) ?_
                  exact hc272 (9) _ σ _ _  (rk_o (l61_0) rfl rfl) (rk_o (l61_1) rfl rfl) (rk_o (l61_2) rfl rfl) (rk_o (l61_3) rfl rfl) (rk_o (l61_4) rfl rfl) H (SF_refl) (SA_refl)   (show inr (9) by omega) (show ((x61_4) ≠ (1) ∧ (9) = (9)) ∨ ((x61_4) = (1) ∧ (9) = (8)) by omega)
                · refine Ew_of (pc' := 267) (fun _ => x_bipush (z := 8) rfl (by decide)) ?_
                  refine Ew_of (pc' := 272) (fun _ => x_goto rfl rfl) ?_
                  exact hc272 (8) _ σ _ _  (rk_o (l61_0) rfl rfl) (rk_o (l61_1) rfl rfl) (rk_o (l61_2) rfl rfl) (rk_o (l61_3) rfl rfl) (rk_o (l61_4) rfl rfl) H (SF_refl) (SA_refl)   (show inr (8) by omega) (show ((x61_4) ≠ (1) ∧ (8) = (9)) ∨ ((x61_4) = (1) ∧ (8) = (8)) by omega)
            · refine Ew_of (pc' := 101) (fun _ => x_aload_n rfl (rk_o (l61_0) rfl rfl)) ?_
              refine w_gI H (o := 5) (w := y61_5_25) rfl (H.perm 5 rfl) rfl rfl rfl (fun _ => rfl) (ey61_5_25) ?_
              refine Ew_of (pc' := 105) (fun _ => x_iload_n rfl (rk_o (l61_1) rfl rfl)) ?_
              refine w_icmplt (t := 116) rfl rfl (show inr (y61_5_25) by omega) (show inr (a1) by omega) (fun b58 => ?_) (fun b58 => ?_)
              · refine Ew_of (pc' := 117) (fun _ => x_aload_n rfl (rk_o (l61_0) rfl rfl)) ?_
                refine w_gT H (o := 5) (t := 1) rfl (H.perm 5 rfl) rfl rfl rfl rfl rfl rfl ?_
                refine w_gT H (o := 1) (t := 14) rfl (H.perm 1 rfl) rfl rfl rfl rfl rfl rfl ?_
                refine Ew_of (pc' := 124) (fun _ => x_aload_n rfl (rk_o (l61_0) rfl rfl)) ?_
                refine w_gI H (o := 5) (w := y61_5_25) rfl (H.perm 5 rfl) rfl rfl rfl (fun _ => rfl) (ey61_5_25) ?_
                refine w_lI H (o := 14) (n := 65536) rfl (H.perm 14 rfl) rfl rfl (H.fix 14 rfl rfl) (show 0 ≤ y61_5_25 ∧ y61_5_25 < ((65536 : Nat) : Int) by omega) (by decide) (fun v59 ev59 qv59 => ?_)
                have qv59 : (0 : Int) ≤ v59 ∧ v59 ≤ 255 := qv59
                have ev59 : (A 14) (y61_5_25) = v59 := (congrFun (funext (hA_61 14 rfl)) (y61_5_25)).symm.trans ev59
                refine Ew_of (pc' := 130) (fun _ => x_istore rfl) ?_
                refine Ew_of (pc' := 131) (fun _ => x_aload_n rfl (rk_o (rk_o (l61_0) rfl rfl) rfl rfl)) ?_
                refine Ew_of (pc' := 132) (fun _ => x_dup rfl rfl) ?_
                refine w_gI H (o := 5) (w := y61_5_25) rfl (H.perm 5 rfl) rfl rfl rfl (fun _ => rfl) (ey61_5_25) ?_
                refine Ew_of (pc' := 136) (fun _ => x_iconst rfl) ?_
                refine w_iadd rfl ?_
                refine w_pI H (o := 5) rfl rfl (H.perm 5 rfl) rfl rfl rfl (fun _ => rfl) rfl (show (0 : Int) ≤ (y61_5_25 + 1) ∧ (y61_5_25 + 1) ≤ 65536 by omega) (fun σ H => ?_)
                refine Ew_of (pc' := 142) (fun _ => x_iload rfl rk_s) ?_
                refine Ew_of (pc' := 144) (fun _ => x_iload rfl (rk_o (rk_o (l61_4) rfl rfl) rfl rfl)) ?_
                refine w_stat24 rfl rfl (by rfl) (M276 H (show inr (x61_4) by omega) (show 0 ≤ (x61_4) ∧ (x61_4) ≤ 2 by omega) (fun z64 σ F60 A61 H hS62 hA63 pz64_0 pz64_1 pz64_2 => ⟨rfl, ?_⟩))
                refine w_icmple (t := 158) rfl rfl (show inr (v59) by omega) (show inr (z64) by omega) (fun b65 => ?_) (fun b65 => ?_)
                · have : RT (upd1 ((w61_35)) (512 * (x61_4)) ((v59))) (upd1 ((w61_36)) (512 * (x61_4)) 0) (upd1 ((w61_37)) (512 * (x61_4)) 0) (upd1 ((w61_34)) ((x61_4)) 0) := RT_one (by assumption) (by omega) (by omega)
                  have : ∀ t, 0 ≤ t → t < (x61_4) + 1 → 0 ≤ (upd1 ((w61_34)) ((x61_4)) 0) t := fun t a b => by by_cases e : t = (x61_4); rw [e, upd1_s]; omega; rw [upd1_o e]; exact j61_on t a (by omega)
                  refine Ew_of (pc' := 159) (fun _ => x_aload_n rfl (rk_o (rk_o (l61_0) rfl rfl) rfl rfl)) ?_
                  refine w_gT H (o := 5) (t := 34) rfl (H.perm 5 rfl) rfl rfl rfl rfl rfl rfl ?_
                  refine Ew_of (pc' := 164) (fun _ => x_iload rfl (rk_o (rk_o (l61_4) rfl rfl) rfl rfl)) ?_
                  refine Ew_of (pc' := 165) (fun _ => x_iconst rfl) ?_
                  refine w_sI H (o := 34) (n := 3) rfl (H.perm 34 rfl) rfl rfl (H.fix 34 rfl rfl) (show 0 ≤ x61_4 ∧ x61_4 < ((3 : Nat) : Int) by omega) (by decide) (show (-1 : Int) ≤ 0 ∧ 0 ≤ 9 by omega) (fun σ H => ?_)
                  refine Ew_of (pc' := 167) (fun _ => x_iconst rfl) ?_
                  refine Ew_of (pc' := 169) (fun _ => x_istore rfl) ?_
                  suffices hl169 : ∀ (m : Nat), ∀ (ls : rO) (σ : rS) (F_169 : hF) (A_169 : hA) (x169_7 : Int), rlook ls 0 = some (.ref (D 5)) → rlook ls 1 = some (I (a1)) → rlook ls 2 = some (I (u5_25)) → rlook ls 3 = some (I (v4)) → rlook ls 4 = some (I (x61_4)) → rlook ls 6 = some (I (v59)) → rlook ls 7 = some (I (x169_7)) → HS σ0 σ D N F_169 A_169 → SF [] F60 F_169 → SA [33] (updA A61 34 (x61_4) (0)) A_169 → (inr (x169_7)) → ((0) ≤ (x169_7)) → ((x169_7) ≤ (0) ∨ (x169_7) ≤ ((64))) → (((64)) - (x169_7)).toNat = m → Ew 293 (d + 4) 169 ls [] σ c s Q from
                    hl169 _ _ σ _ _ (0) (rk_o (rk_o (rk_o (l61_0) rfl rfl) rfl rfl) rfl rfl) (rk_o (rk_o (rk_o (l61_1) rfl rfl) rfl rfl) rfl rfl) (rk_o (rk_o (rk_o (l61_2) rfl rfl) rfl rfl) rfl rfl) (rk_o (rk_o (rk_o (l61_3) rfl rfl) rfl rfl) rfl rfl) (rk_o (rk_o (rk_o (l61_4) rfl rfl) rfl rfl) rfl rfl) (rk_o (rk_s) rfl rfl) (rk_s) H (SF_refl) (SA_refl)   (show inr (0) by omega) (show (0) ≤ (0) by omega) (show (0) ≤ (0) ∨ (0) ≤ ((64)) by omega) rfl
                  as_aux_lemma =>
                  intro m
                  induction m using Nat.strongRecOn with
                  | _ m ih169 =>
                    intro ls σ F_169 A_169 x169_7 l169_0 l169_1 l169_2 l169_3 l169_4 l169_6 l169_7 H hS_169 hA_169   j169_0 j169_1 j169_2 hm169
                    refine Ew_of (pc' := 171) (fun _ => x_iload rfl l169_7) ?_
                    refine Ew_of (pc' := 173) (fun _ => x_bipush (z := 64) rfl (by decide)) ?_
                    refine w_icmpge (t := 207) rfl rfl (show inr (x169_7) by omega) (show inr (64) by omega) (fun b66 => ?_) (fun b66 => ?_)
                    · refine Ew_of (pc' := 208) (fun _ => x_aload_n rfl l169_0) ?_
                      refine w_gT H (o := 5) (t := 35) rfl (H.perm 5 rfl) rfl rfl rfl rfl rfl rfl ?_
                      refine Ew_of (pc' := 214) (fun _ => x_sipush (z := 512) rfl (by decide)) ?_
                      refine Ew_of (pc' := 216) (fun _ => x_iload rfl l169_4) ?_
                      refine w_imul rfl ?_
                      refine Ew_of (pc' := 219) (fun _ => x_iload rfl l169_6) ?_
                      refine w_sI H (o := 35) (n := 1536) rfl (H.perm 35 rfl) rfl rfl (H.fix 35 rfl rfl) (show 0 ≤ (512 * x61_4) ∧ (512 * x61_4) < ((1536 : Nat) : Int) by omega) (by decide) (show (-1 : Int) ≤ v59 ∧ v59 ≤ 63 by omega) (fun σ H => ?_)
                      refine Ew_of (pc' := 221) (fun _ => x_aload_n rfl l169_0) ?_
                      refine w_gT H (o := 5) (t := 36) rfl (H.perm 5 rfl) rfl rfl rfl rfl rfl rfl ?_
                      refine Ew_of (pc' := 227) (fun _ => x_sipush (z := 512) rfl (by decide)) ?_
                      refine Ew_of (pc' := 229) (fun _ => x_iload rfl l169_4) ?_
                      refine w_imul rfl ?_
                      refine Ew_of (pc' := 231) (fun _ => x_iconst rfl) ?_
                      refine w_sI H (o := 36) (n := 1536) rfl (H.perm 36 rfl) rfl rfl (H.fix 36 rfl rfl) (show 0 ≤ (512 * x61_4) ∧ (512 * x61_4) < ((1536 : Nat) : Int) by omega) (by decide) (show (0 : Int) ≤ 0 ∧ 0 ≤ 9 by omega) (fun σ H => ?_)
                      refine Ew_of (pc' := 233) (fun _ => x_aload_n rfl l169_0) ?_
                      refine w_gT H (o := 5) (t := 37) rfl (H.perm 5 rfl) rfl rfl rfl rfl rfl rfl ?_
                      refine Ew_of (pc' := 239) (fun _ => x_sipush (z := 512) rfl (by decide)) ?_
                      refine Ew_of (pc' := 241) (fun _ => x_iload rfl l169_4) ?_
                      refine w_imul rfl ?_
                      refine Ew_of (pc' := 243) (fun _ => x_iconst rfl) ?_
                      refine w_sI H (o := 37) (n := 1536) rfl (H.perm 37 rfl) rfl rfl (H.fix 37 rfl rfl) (show 0 ≤ (512 * x61_4) ∧ (512 * x61_4) < ((1536 : Nat) : Int) by omega) (by decide) (show (0 : Int) ≤ 0 ∧ 0 ≤ 511 by omega) (fun σ H => ?_)
                      refine Ew_of (pc' := 328) (fun _ => x_goto rfl rfl) ?_
                      have : ∀ t, 0 ≤ t → t < (x61_4) + 1 → 0 ≤ ((upd1 (w61_34) (x61_4) (0))) t := by first | assumption | exact (fun t a b => by by_cases e : t = (x61_4); rw [e]; omega; exact j61_on t a (by omega))
                      exact hc328  _ σ _ _  (l169_0) (l169_1) (l169_2) (l169_3) (l169_4) H (SF_trans (SF_trans (SF_upd (SF_refl) rfl) hS62 (any_sub rfl)) hS_169 (any_sub rfl)) (SA_upd (SA_upd (SA_upd (SA_trans (SA_upd (SA_trans (SA_refl) hA63 (any_subA rfl)) rfl) hA_169 (any_subA rfl)) rfl) rfl) rfl) ((y61_5_25 + 1)) (((hS_169 5 25 rfl).trans (hS62 5 25 rfl))) (upd1 (w61_34) (x61_4) (0)) ((funext (hA_169 34 rfl)).trans (congrArg (fun q => upd1 q (x61_4) (0)) ((funext (hA63 34 rfl)).trans (ew61_34)))) (upd1 (w61_35) ((512 * x61_4)) (v59)) (congrArg (fun q => upd1 q ((512 * x61_4)) (v59)) ((funext (hA_169 35 rfl)).trans ((funext (hA63 35 rfl)).trans (ew61_35)))) (upd1 (w61_36) ((512 * x61_4)) (0)) (congrArg (fun q => upd1 q ((512 * x61_4)) (0)) ((funext (hA_169 36 rfl)).trans ((funext (hA63 36 rfl)).trans (ew61_36)))) (upd1 (w61_37) ((512 * x61_4)) (0)) (congrArg (fun q => upd1 q ((512 * x61_4)) (0)) ((funext (hA_169 37 rfl)).trans ((funext (hA63 37 rfl)).trans (ew61_37)))) (show (y61_5_25) ≤ ((y61_5_25 + 1)) ∧ ((y61_5_25 + 1)) ≤ (a1) by omega) (show RT ((upd1 (w61_35) ((512 * x61_4)) (v59))) ((upd1 (w61_36) ((512 * x61_4)) (0))) ((upd1 (w61_37) ((512 * x61_4)) (0))) ((upd1 (w61_34) (x61_4) (0))) by assumption) (show ∀ t, 0 ≤ t → t < (x61_4) + 1 → 0 ≤ ((upd1 (w61_34) (x61_4) (0))) t by assumption)
                    · refine Ew_of (pc' := 177) (fun _ => x_aload_n rfl l169_0) ?_
                      refine w_gT H (o := 5) (t := 33) rfl (H.perm 5 rfl) rfl rfl rfl rfl rfl rfl ?_
                      refine Ew_of (pc' := 182) (fun _ => x_bipush (z := 64) rfl (by decide)) ?_
                      refine Ew_of (pc' := 184) (fun _ => x_iload rfl l169_4) ?_
                      refine w_imul rfl ?_
                      refine Ew_of (pc' := 187) (fun _ => x_iload rfl l169_7) ?_
                      refine w_iadd rfl ?_
                      refine Ew_of (pc' := 190) (fun _ => x_iload rfl l169_7) ?_
                      refine Ew_of (pc' := 192) (fun _ => x_iload rfl l169_6) ?_
                      refine w_icmpne (t := 199) rfl rfl (show inr (x169_7) by omega) (show inr (v59) by omega) (fun b67 => ?_) (fun b67 => ?_)
                      · refine Ew_of (pc' := 200) (fun _ => x_iconst rfl) ?_
                        refine w_sI H (o := 33) (n := 192) rfl (H.perm 33 rfl) rfl rfl (H.fix 33 rfl rfl) (show 0 ≤ ((64 * x61_4) + x169_7) ∧ ((64 * x61_4) + x169_7) < ((192 : Nat) : Int) by omega) (by decide) (show (-1 : Int) ≤ 0 ∧ 0 ≤ 512 by omega) (fun σ H => ?_)
                        refine Ew_of (pc' := 204) (fun _ => x_iinc (len := 3) rfl (l169_7)) ?_
                        refine Ew_of (pc' := 169) (fun _ => x_goto rfl rfl) ?_
                        exact ih169 _ (by omega) _ σ _ _ ((x169_7 + 1)) (rk_o (l169_0) rfl rfl) (rk_o (l169_1) rfl rfl) (rk_o (l169_2) rfl rfl) (rk_o (l169_3) rfl rfl) (rk_o (l169_4) rfl rfl) (rk_o (l169_6) rfl rfl) (rk_s) H (hS_169) (SA_upd (hA_169) rfl)   (show inr ((x169_7 + 1)) by omega) (show (0) ≤ ((x169_7 + 1)) by omega) (show ((x169_7 + 1)) ≤ (0) ∨ ((x169_7 + 1)) ≤ ((64)) by omega) rfl
                      · refine Ew_of (pc' := 196) (fun _ => x_iconst rfl) ?_
                        refine Ew_of (pc' := 200) (fun _ => x_goto rfl rfl) ?_
                        refine w_sI H (o := 33) (n := 192) rfl (H.perm 33 rfl) rfl rfl (H.fix 33 rfl rfl) (show 0 ≤ ((64 * x61_4) + x169_7) ∧ ((64 * x61_4) + x169_7) < ((192 : Nat) : Int) by omega) (by decide) (show (-1 : Int) ≤ 1 ∧ 1 ≤ 512 by omega) (fun σ H => ?_)
                        refine Ew_of (pc' := 204) (fun _ => x_iinc (len := 3) rfl (l169_7)) ?_
                        refine Ew_of (pc' := 169) (fun _ => x_goto rfl rfl) ?_
                        exact ih169 _ (by omega) _ σ _ _ ((x169_7 + 1)) (rk_o (l169_0) rfl rfl) (rk_o (l169_1) rfl rfl) (rk_o (l169_2) rfl rfl) (rk_o (l169_3) rfl rfl) (rk_o (l169_4) rfl rfl) (rk_o (l169_6) rfl rfl) (rk_s) H (hS_169) (SA_upd (hA_169) rfl)   (show inr ((x169_7 + 1)) by omega) (show (0) ≤ ((x169_7 + 1)) by omega) (show ((x169_7 + 1)) ≤ (0) ∨ ((x169_7 + 1)) ≤ ((64)) by omega) rfl
                · refine Ew_of (pc' := 151) (fun _ => x_aload_n rfl (rk_o (rk_o (l61_0) rfl rfl) rfl rfl)) ?_
                  refine Ew_of (pc' := 153) (fun _ => x_bipush (z := 16) rfl (by decide)) ?_
                  refine Ew_of (pc' := 154) (fun _ => x_iload_n rfl (rk_o (rk_o (l61_2) rfl rfl) rfl rfl)) ?_
                  refine w_inv H (o := 5) rfl rfl rfl (H.perm 5 rfl) rfl rfl (by rfl) (M282 H (show inr (16) by omega) (show inr (u5_25) by omega) (show 0 ≤ (16) ∧ (16) ≤ 20 by omega) (show 0 ≤ (u5_25) ∧ (u5_25) ≤ 65536 by omega) (fun z72 σ F68 A69 H hS70 hA71 pz72_0 pz72_1 => ⟨rretB rfl pz72_0, ?_⟩))
                  exact w_ireturn rfl (k (z72) σ _ _ H (SF_trans (SF_trans (SF_upd (SF_trans (SF_upd (SF_refl) rfl) hS_61 (any_sub rfl)) rfl) hS62 (any_sub rfl)) hS70 (any_sub rfl)) (SA_trans (SA_trans (SA_trans (SA_refl) hA_61 (any_subA rfl)) hA63 (any_subA rfl)) hA71 (any_subA rfl)) ((y61_5_25 + 1)) (((hS70 5 25 rfl).trans (hS62 5 25 rfl))) (w61_34) ((funext (hA71 34 rfl)).trans ((funext (hA63 34 rfl)).trans (ew61_34))) (w61_35) ((funext (hA71 35 rfl)).trans ((funext (hA63 35 rfl)).trans (ew61_35))) (w61_36) ((funext (hA71 36 rfl)).trans ((funext (hA63 36 rfl)).trans (ew61_36))) (w61_37) ((funext (hA71 37 rfl)).trans ((funext (hA63 37 rfl)).trans (ew61_37))) (show (z72) = 0 ∨ (z72) = 1 by omega) (show (z72) = 1 → (u5_25) ≤ ((y61_5_25 + 1)) ∧ ((y61_5_25 + 1)) ≤ a1 by omega) (show RT ((w61_35)) ((w61_36)) ((w61_37)) ((w61_34)) by assumption) (show (z72) = 1 → ∀ t, 0 ≤ t → t < 3 → 0 ≤ ((w61_34)) t by first | assumption | exact fun h => absurd rfl h | exact fun h => absurd h (by decide) | omega))
              · refine Ew_of (pc' := 109) (fun _ => x_aload_n rfl (rk_o (l61_0) rfl rfl)) ?_
                refine Ew_of (pc' := 111) (fun _ => x_bipush (z := 10) rfl (by decide)) ?_
                refine Ew_of (pc' := 112) (fun _ => x_iload_n rfl (rk_o (l61_1) rfl rfl)) ?_
                refine w_inv H (o := 5) rfl rfl rfl (H.perm 5 rfl) rfl rfl (by rfl) (M282 H (show inr (10) by omega) (show inr (a1) by omega) (show 0 ≤ (10) ∧ (10) ≤ 20 by omega) (show 0 ≤ (a1) ∧ (a1) ≤ 65536 by omega) (fun z77 σ F73 A74 H hS75 hA76 pz77_0 pz77_1 => ⟨rretB rfl pz77_0, ?_⟩))
                exact w_ireturn rfl (k (z77) σ _ _ H (SF_trans (SF_trans (SF_upd (SF_refl) rfl) hS_61 (any_sub rfl)) hS75 (any_sub rfl)) (SA_trans (SA_trans (SA_refl) hA_61 (any_subA rfl)) hA76 (any_subA rfl)) (y61_5_25) (((hS75 5 25 rfl).trans (ey61_5_25))) (w61_34) ((funext (hA76 34 rfl)).trans (ew61_34)) (w61_35) ((funext (hA76 35 rfl)).trans (ew61_35)) (w61_36) ((funext (hA76 36 rfl)).trans (ew61_36)) (w61_37) ((funext (hA76 37 rfl)).trans (ew61_37)) (show (z77) = 0 ∨ (z77) = 1 by omega) (show (z77) = 1 → (u5_25) ≤ (y61_5_25) ∧ (y61_5_25) ≤ a1 by omega) (show RT ((w61_35)) ((w61_36)) ((w61_37)) ((w61_34)) by assumption) (show (z77) = 1 → ∀ t, 0 ≤ t → t < 3 → 0 ≤ ((w61_34)) t by first | assumption | exact fun h => absurd rfl h | exact fun h => absurd h (by decide) | omega))
          · refine Ew_of (pc' := 86) (fun _ => x_aload_n rfl (rk_o (l61_0) rfl rfl)) ?_
            refine Ew_of (pc' := 88) (fun _ => x_iload rfl (rk_o (l61_4) rfl rfl)) ?_
            refine w_inv H (o := 5) rfl rfl rfl (H.perm 5 rfl) rfl rfl (by rfl) (M266 H (w61_34) (ew61_34) (w61_35) (ew61_35) (w61_36) (ew61_36) (w61_37) (ew61_37) (show inr (x61_4) by omega) (show 0 ≤ (x61_4) ∧ (x61_4) ≤ 2 by omega) (show RT ((w61_35)) ((w61_36)) ((w61_37)) ((w61_34)) by assumption) (fun σ F78 A79 H hS80 hA81 wq83 ewq84 wq85 ewq86 wq87 ewq88 wq89 ewq90 pz82_0 pz82_1 pz82_2 => ⟨rfl, ?_⟩))
            have : ∀ t, 0 ≤ t → t < (x61_4) + 1 → 0 ≤ ((wq83)) t := fun t a b => by by_cases e : t = (x61_4); rw [e]; exact pz82_2; rw [pz82_1 t (by omega)]; exact j61_on t a (by omega)
            refine Ew_of (pc' := 328) (fun _ => x_goto rfl rfl) ?_
            have : ∀ t, 0 ≤ t → t < (x61_4) + 1 → 0 ≤ ((wq83)) t := by first | assumption | exact (fun t a b => by by_cases e : t = (x61_4); rw [e]; omega; exact j61_on t a (by omega))
            exact hc328  _ σ _ _  (rk_o (l61_0) rfl rfl) (rk_o (l61_1) rfl rfl) (rk_o (l61_2) rfl rfl) (rk_o (l61_3) rfl rfl) (rk_o (l61_4) rfl rfl) H (SF_trans (SF_refl) hS80 (any_sub rfl)) (SA_trans (SA_refl) hA81 (any_subA rfl)) (y61_5_25) (((hS80 5 25 rfl).trans (ey61_5_25))) (wq83) (ewq84) (wq85) (ewq86) (wq87) (ewq88) (wq89) (ewq90) (show (y61_5_25) ≤ (y61_5_25) ∧ (y61_5_25) ≤ (a1) by omega) (show RT ((wq85)) ((wq87)) ((wq89)) ((wq83)) by assumption) (show ∀ t, 0 ≤ t → t < (x61_4) + 1 → 0 ≤ ((wq83)) t by assumption)
    · refine Ew_of (pc' := 51) (fun _ => x_aload_n rfl (rk_o (rk_o (rfl) rfl rfl) rfl rfl)) ?_
      refine Ew_of (pc' := 53) (fun _ => x_bipush (z := 15) rfl (by decide)) ?_
      refine Ew_of (pc' := 54) (fun _ => x_iload_n rfl (rk_o (rk_s) rfl rfl)) ?_
      refine w_inv H (o := 5) rfl rfl rfl (H.perm 5 rfl) rfl rfl (by rfl) (M282 H (show inr (15) by omega) (show inr (u5_25) by omega) (show 0 ≤ (15) ∧ (15) ≤ 20 by omega) (show 0 ≤ (u5_25) ∧ (u5_25) ≤ 65536 by omega) (fun z95 σ F91 A92 H hS93 hA94 pz95_0 pz95_1 => ⟨rretB rfl pz95_0, ?_⟩))
      exact w_ireturn rfl (k (z95) σ _ _ H (SF_trans (SF_upd (SF_refl) rfl) hS93 (any_sub rfl)) (SA_trans (SA_refl) hA94 (any_subA rfl)) ((u5_25 + 1)) ((hS93 5 25 rfl)) (w34) ((funext (hA94 34 rfl)).trans (ew34)) (w35) ((funext (hA94 35 rfl)).trans (ew35)) (w36) ((funext (hA94 36 rfl)).trans (ew36)) (w37) ((funext (hA94 37 rfl)).trans (ew37)) (show (z95) = 0 ∨ (z95) = 1 by omega) (show (z95) = 1 → (u5_25) ≤ ((u5_25 + 1)) ∧ ((u5_25 + 1)) ≤ a1 by omega) (show RT ((w35)) ((w36)) ((w37)) ((w34)) by assumption) (show (z95) = 1 → ∀ t, 0 ≤ t → t < 3 → 0 ≤ ((w34)) t by first | assumption | exact fun h => absurd rfl h | exact fun h => absurd h (by decide) | omega))
  · refine Ew_of (pc' := 14) (fun _ => x_aload_n rfl (rk_o (rfl) rfl rfl)) ?_
    refine Ew_of (pc' := 16) (fun _ => x_bipush (z := 10) rfl (by decide)) ?_
    refine Ew_of (pc' := 17) (fun _ => x_iload_n rfl (rk_o (rfl) rfl rfl)) ?_
    refine w_inv H (o := 5) rfl rfl rfl (H.perm 5 rfl) rfl rfl (by rfl) (M282 H (show inr (10) by omega) (show inr (a1) by omega) (show 0 ≤ (10) ∧ (10) ≤ 20 by omega) (show 0 ≤ (a1) ∧ (a1) ≤ 65536 by omega) (fun z100 σ F96 A97 H hS98 hA99 pz100_0 pz100_1 => ⟨rretB rfl pz100_0, ?_⟩))
    exact w_ireturn rfl (k (z100) σ _ _ H (SF_trans (SF_refl) hS98 (any_sub rfl)) (SA_trans (SA_refl) hA99 (any_subA rfl)) (u5_25) (((hS98 5 25 rfl).trans (eu5_25))) (w34) ((funext (hA99 34 rfl)).trans (ew34)) (w35) ((funext (hA99 35 rfl)).trans (ew35)) (w36) ((funext (hA99 36 rfl)).trans (ew36)) (w37) ((funext (hA99 37 rfl)).trans (ew37)) (show (z100) = 0 ∨ (z100) = 1 by omega) (show (z100) = 1 → (u5_25) ≤ (u5_25) ∧ (u5_25) ≤ a1 by omega) (show RT ((w35)) ((w36)) ((w37)) ((w34)) by assumption) (show (z100) = 1 → ∀ t, 0 ≤ t → t < 3 → 0 ≤ ((w34)) t by first | assumption | exact fun h => absurd rfl h | exact fun h => absurd h (by decide) | omega))
