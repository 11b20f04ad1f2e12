/-- Reader.tables -/
theorem M293 {σ0 σ : rS} {D N : Nat → Nat} {F : hF} {A : hA} {d c s : Nat} {Q : wQ} (H : HS σ0 σ D N F A) {a1 : Int} (u1_1 : Int) (eu1_1 : F 1 1 = u1_1) (u5_25 : Int) (eu5_25 : F 5 25 = u5_25) (w14 : Int → Int) (ew14 : A 14 = w14) (w34 : Int → Int) (ew34 : A 34 = w34) (w35 : Int → Int) (ew35 : A 35 = w35) (w36 : Int → Int) (ew36 : A 36 = w36) (w37 : Int → Int) (ew37 : A 37 = w37) (tb : Int → Tb) (h0 : inr (a1)) (h1 : 0 ≤ (u5_25) ∧ (u5_25) ≤ (a1) ∧ (a1) ≤ (u1_1)) (h2 : RT ((w35)) ((w36)) ((w37)) ((w34))) (h3 : RTA ((w35)) ((w36)) ((w37)) ((w34)) tb) (k : ∀ (z : Int) σ F' A', HS σ0 σ D N F' A' → SF [(5, 19), (5, 25), (5, 30), (5, 31)] F F' → SA [33, 34, 35, 36, 37, 39, 41] A A' → ∀ y5_25 : Int, F' 5 25 = y5_25 → ∀ y5_30 : Int, F' 5 30 = y5_30 → ∀ y5_31 : Int, F' 5 31 = y5_31 → ∀ v34 : Int → Int, A' 34 = v34 → ∀ v35 : Int → Int, A' 35 = v35 → ∀ v36 : Int → Int, A' 36 = v36 → ∀ v37 : Int → Int, A' 37 = v37 → ((z) = 0 ∨ (z) = 1) → ((z) = 1 → (u5_25) ≤ (y5_25) ∧ (y5_25) ≤ (a1)) → (RT ((v35)) ((v36)) ((v37)) ((v34))) → ((z) = 1 → ∀ t, 0 ≤ t → t < 3 → 0 ≤ ((v34)) t) → (T3A (T3F ((w14)) ((u5_25)) ((a1)) tb) ((z)) ((y5_30)) ((y5_31)) ((y5_25)) ((v35)) ((v36)) ((v37)) ((v34))) → Q (some (I z)) σ c s) : Ew 293 (d + 4) 0 (rargs 0 [.ref (D 5), I a1]) [] σ c s Q := by
  have r1 : (0 : Int) ≤ u1_1 ∧ u1_1 ≤ 65536 := by have h1 : (0 : Int) ≤ F 1 1 ∧ F 1 1 ≤ 65536 := H.frng 1 1; rw [show F 1 1 = u1_1 from (eu1_1)] at h1; exact h1
  have r2 : (0 : Int) ≤ u5_25 ∧ u5_25 ≤ 65536 := by have h1 : (0 : Int) ≤ F 5 25 ∧ F 5 25 ≤ 65536 := H.frng 5 25; rw [show F 5 25 = u5_25 from (eu5_25)] at h1; exact h1
  refine Ew_of (pc' := 1) (fun _ => x_aload_n rfl rfl) ?_
  refine w_gI H (o := 5) (w := u5_25) rfl (H.perm 5 rfl) rfl rfl rfl (fun _ => rfl) (eu5_25) ?_
  refine Ew_of (pc' := 5) (fun _ => x_istore_n rfl) ?_
  refine Ew_of (pc' := 6) (fun _ => x_aload_n rfl (rk_o (rfl) rfl rfl)) ?_
  refine w_gI H (o := 5) (w := u5_25) rfl (H.perm 5 rfl) rfl rfl rfl (fun _ => rfl) (eu5_25) ?_
  refine Ew_of (pc' := 10) (fun _ => x_iload_n rfl (rk_o (rfl) rfl rfl)) ?_
  refine w_icmplt (t := 21) rfl rfl (show inr (u5_25) by omega) (show inr (a1) by omega) (fun b3 => ?_) (fun b3 => ?_)
  · refine Ew_of (pc' := 22) (fun _ => x_aload_n rfl (rk_o (rfl) rfl rfl)) ?_
    refine w_gT H (o := 5) (t := 1) rfl (H.perm 5 rfl) rfl rfl rfl rfl rfl rfl ?_
    refine w_gT H (o := 1) (t := 14) rfl (H.perm 1 rfl) rfl rfl rfl rfl rfl rfl ?_
    refine Ew_of (pc' := 29) (fun _ => x_aload_n rfl (rk_o (rfl) rfl rfl)) ?_
    refine w_gI H (o := 5) (w := u5_25) rfl (H.perm 5 rfl) rfl rfl rfl (fun _ => rfl) (eu5_25) ?_
    refine w_lI H (o := 14) (n := 65536) rfl (H.perm 14 rfl) rfl rfl (H.fix 14 rfl rfl) (show 0 ≤ u5_25 ∧ u5_25 < ((65536 : Nat) : Int) by omega) (by decide) (fun v4 ev4 qv4 => ?_)
    have qv4 : (0 : Int) ≤ v4 ∧ v4 ≤ 255 := qv4
    have ev4 : (w14) (u5_25) = v4 := (congrFun (ew14) (u5_25)).symm.trans ev4
    have hm_ := ev4
    refine Ew_of (pc' := 34) (fun _ => x_istore_n rfl) ?_
    refine Ew_of (pc' := 35) (fun _ => x_aload_n rfl (rk_o (rk_o (rfl) rfl rfl) rfl rfl)) ?_
    refine Ew_of (pc' := 36) (fun _ => x_dup rfl rfl) ?_
    refine w_gI H (o := 5) (w := u5_25) rfl (H.perm 5 rfl) rfl rfl rfl (fun _ => rfl) (eu5_25) ?_
    refine Ew_of (pc' := 40) (fun _ => x_iconst rfl) ?_
    refine w_iadd rfl ?_
    refine w_pI H (o := 5) rfl rfl (H.perm 5 rfl) rfl rfl rfl (fun _ => rfl) rfl (show (0 : Int) ≤ (u5_25 + 1) ∧ (u5_25 + 1) ≤ 65536 by omega) (fun σ H => ?_)
    refine Ew_of (pc' := 45) (fun _ => x_iload_n rfl rk_s) ?_
    refine Ew_of (pc' := 46) (fun _ => x_iconst rfl) ?_
    refine w_irem rfl (show inr (v4) ∧ 0 ≤ v4 by omega) (show inr (4) ∧ 0 < 4 by omega) ?_
    refine w_ifle (t := 58) rfl rfl (show inr ((v4 % 4)) by omega) (fun b5 => ?_) (fun b5 => ?_)
    · refine Ew_of (pc' := 59) (fun _ => x_iconst rfl) ?_
      refine Ew_of (pc' := 61) (fun _ => x_istore rfl) ?_
      have : ∀ t, (0 : Int) ≤ t → t < 0 → 0 ≤ ((w34)) t := fun t a b => absurd b (by omega)
      have : T3I (T3F ((w14)) ((u5_25)) ((a1)) tb) ((w14)) ((a1)) ((u5_25)) ((v4)) (0) (((u5_25 + 1))) ((w35)) ((w36)) ((w37)) ((w34)) := T3I_0 (by assumption) (by omega) hm_ (by omega) (by omega)
      suffices hl61 : ∀ (m : Nat), ∀ (ls : rO) (σ : rS) (F_61 : hF) (A_61 : hA) (x61_4 : Int), rlook ls 0 = some (.ref (D 5)) → rlook ls 1 = some (I (a1)) → rlook ls 2 = some (I (u5_25)) → rlook ls 3 = some (I (v4)) → rlook ls 4 = some (I (x61_4)) → HS σ0 σ D N F_61 A_61 → SF [(5, 19), (5, 25)] (updF F 5 25 ((u5_25 + 1))) F_61 → SA [33, 34, 35, 36, 37, 39, 41] A A_61 → ∀ y61_5_25 : Int, F_61 5 25 = y61_5_25 → ∀ w61_34 : Int → Int, A_61 34 = w61_34 → ∀ w61_35 : Int → Int, A_61 35 = w61_35 → ∀ w61_36 : Int → Int, A_61 36 = w61_36 → ∀ w61_37 : Int → Int, A_61 37 = w61_37 → (inr (x61_4)) → (0 ≤ (x61_4) ∧ (x61_4) ≤ 3) → (((u5_25 + 1)) ≤ (y61_5_25) ∧ (y61_5_25) ≤ (a1)) → (RT ((w61_35)) ((w61_36)) ((w61_37)) ((w61_34))) → (∀ t, 0 ≤ t → t < (x61_4) → 0 ≤ ((w61_34)) t) → (T3I (T3F ((w14)) ((u5_25)) ((a1)) tb) ((w14)) ((a1)) ((u5_25)) ((v4)) ((x61_4)) ((y61_5_25)) ((w61_35)) ((w61_36)) ((w61_37)) ((w61_34))) → (3 - (x61_4)).toNat = m → Ew 293 (d + 4) 61 ls [] σ c s Q from
        hl61 _ _ σ _ _ (0) (rk_o (rk_o (rk_o (rfl) rfl rfl) rfl rfl) rfl rfl) (rk_o (rk_o (rk_o (rfl) rfl rfl) rfl rfl) rfl rfl) (rk_o (rk_o (rk_s) rfl rfl) rfl rfl) (rk_o (rk_s) rfl rfl) (rk_s) H (SF_refl) (SA_refl) ((u5_25 + 1)) (rfl) (w34) (ew34) (w35) (ew35) (w36) (ew36) (w37) (ew37) (show inr (0) by omega) (show 0 ≤ (0) ∧ (0) ≤ 3 by omega) (show ((u5_25 + 1)) ≤ ((u5_25 + 1)) ∧ ((u5_25 + 1)) ≤ (a1) by omega) (show RT ((w35)) ((w36)) ((w37)) ((w34)) by assumption) (show ∀ t, 0 ≤ t → t < (0) → 0 ≤ ((w34)) t by assumption) (show T3I (T3F ((w14)) ((u5_25)) ((a1)) tb) ((w14)) ((a1)) ((u5_25)) ((v4)) ((0)) (((u5_25 + 1))) ((w35)) ((w36)) ((w37)) ((w34)) by assumption) rfl
      as_aux_lemma =>
      intro m
      induction m using Nat.strongRecOn with
      | _ m ih61 =>
        intro ls σ F_61 A_61 x61_4 l61_0 l61_1 l61_2 l61_3 l61_4 H hS_61 hA_61 y61_5_25 ey61_5_25 w61_34 ew61_34 w61_35 ew61_35 w61_36 ew61_36 w61_37 ew61_37 j61_0 j61_1 j61_2 j61_3 j61_4 j61_5 hm61
        have r6 : (0 : Int) ≤ y61_5_25 ∧ y61_5_25 ≤ 65536 := by have h1 : (0 : Int) ≤ F_61 5 25 ∧ F_61 5 25 ≤ 65536 := H.frng 5 25; rw [show F_61 5 25 = y61_5_25 from (ey61_5_25)] at h1; exact h1
        have j61_on : ∀ t, 0 ≤ t → t < (x61_4) → 0 ≤ ((w61_34)) t := by assumption
        have j61_t : T3I (T3F ((w14)) ((u5_25)) ((a1)) tb) ((w14)) ((a1)) ((u5_25)) ((v4)) ((x61_4)) ((y61_5_25)) ((w61_35)) ((w61_36)) ((w61_37)) ((w61_34)) := by assumption
        refine Ew_of (pc' := 63) (fun _ => x_iload rfl l61_4) ?_
        refine Ew_of (pc' := 64) (fun _ => x_iconst rfl) ?_
        refine w_icmpge (t := 334) rfl rfl (show inr (x61_4) by omega) (show inr (3) by omega) (fun b7 => ?_) (fun b7 => ?_)
        · have : (1 : Int) = 1 → ∀ t, 0 ≤ t → t < 3 → 0 ≤ ((w61_34)) t := fun _ t a b => j61_on t a (by omega)
          refine Ew_of (pc' := 335) (fun _ => x_iconst rfl) ?_
          have r8 : (0 : Int) ≤ F 5 30 ∧ F 5 30 ≤ 20 := by have h1 : (0 : Int) ≤ F_61 5 30 ∧ F_61 5 30 ≤ 20 := H.frng 5 30; rw [show F_61 5 30 = F 5 30 from (hS_61 5 30 rfl)] at h1; exact h1
          have r9 : (0 : Int) ≤ F 5 31 ∧ F 5 31 ≤ 65536 := by have h1 : (0 : Int) ≤ F_61 5 31 ∧ F_61 5 31 ≤ 65536 := H.frng 5 31; rw [show F_61 5 31 = F 5 31 from (hS_61 5 31 rfl)] at h1; exact h1
          have : T3A (T3F ((w14)) ((u5_25)) ((a1)) tb) ((1)) ((F 5 30)) ((F 5 31)) ((y61_5_25)) ((w61_35)) ((w61_36)) ((w61_37)) ((w61_34)) := T3I_e j61_t (by omega) (by omega)
          exact w_ireturn rfl (k (1) σ _ _ H (SF_trans (SF_upd (SF_refl) rfl) hS_61 (any_sub rfl)) (SA_trans (SA_refl) hA_61 (any_subA rfl)) (y61_5_25) ((ey61_5_25)) (F 5 30) ((hS_61 5 30 rfl)) (F 5 31) ((hS_61 5 31 rfl)) (w61_34) (ew61_34) (w61_35) (ew61_35) (w61_36) (ew61_36) (w61_37) (ew61_37) (show (1) = 0 ∨ (1) = 1 by omega) (show (1) = 1 → (u5_25) ≤ (y61_5_25) ∧ (y61_5_25) ≤ a1 by omega) (show RT ((w61_35)) ((w61_36)) ((w61_37)) ((w61_34)) by assumption) (show (1) = 1 → ∀ t, 0 ≤ t → t < 3 → 0 ≤ ((w61_34)) t by first | assumption | exact fun h => absurd rfl h | exact fun h => absurd h (by decide) | omega) (show T3A (T3F ((w14)) ((u5_25)) (a1) tb) ((1)) ((F 5 30)) ((F 5 31)) ((y61_5_25)) ((w61_35)) ((w61_36)) ((w61_37)) ((w61_34)) by assumption))
        · refine Ew_of (pc' := 68) (fun _ => x_iload_n rfl l61_3) ?_
          refine Ew_of (pc' := 70) (fun _ => x_bipush (z := 6) rfl (by decide)) ?_
          refine Ew_of (pc' := 71) (fun _ => x_iconst rfl) ?_
          refine Ew_of (pc' := 73) (fun _ => x_iload rfl l61_4) ?_
          refine w_imul rfl ?_
          refine w_isub rfl ?_
          refine w_ishrG rfl ?_
          have g10 : inr (srI (v4) ((6 - (2 * x61_4)))) := toI_inr _
          refine Ew_of (pc' := 77) (fun _ => x_iconst rfl) ?_
          refine w_iandG rfl ?_
          have g11 : inr (andI ((srI (v4) ((6 - (2 * x61_4))))) (3)) := toI_inr _
          obtain ⟨q5, hq5⟩ : ∃ q : Int, q = ((andI ((srI (v4) ((6 - (2 * x61_4))))) (3))) := ⟨_, rfl⟩
          rw [← hq5]
          have gq5 : inr q5 := by rw [hq5]; omega
          have hmd : q5 = mdF ((v4)) ((x61_4)) := by rw [hq5]; unfold mdF; rw [andI_3, srI_d (by omega) (by omega)]
          have hm5 : 0 ≤ q5 ∧ q5 ≤ 3 := by rw [hq5, andI_3]; omega
          refine Ew_of (pc' := 80) (fun _ => x_istore rfl) ?_
          have hc328 : ∀ (ls : rO) (σ : rS) (F_c328 : hF) (A_c328 : hA) , rlook ls 0 = some (.ref (D 5)) → rlook ls 1 = some (I (a1)) → rlook ls 2 = some (I (u5_25)) → rlook ls 3 = some (I (v4)) → rlook ls 4 = some (I (x61_4)) → HS σ0 σ D N F_c328 A_c328 → SF [(5, 19), (5, 25)] F_61 F_c328 → SA [33, 34, 35, 36, 37, 39, 41] A_61 A_c328 → ∀ yc328_5_25 : Int, F_c328 5 25 = yc328_5_25 → ∀ wc328_34 : Int → Int, A_c328 34 = wc328_34 → ∀ wc328_35 : Int → Int, A_c328 35 = wc328_35 → ∀ wc328_36 : Int → Int, A_c328 36 = wc328_36 → ∀ wc328_37 : Int → Int, A_c328 37 = wc328_37 → ((y61_5_25) ≤ (yc328_5_25) ∧ (yc328_5_25) ≤ (a1)) → (RT ((wc328_35)) ((wc328_36)) ((wc328_37)) ((wc328_34))) → (∀ t, 0 ≤ t → t < (x61_4) + 1 → 0 ≤ ((wc328_34)) t) → (T3I (T3F ((w14)) ((u5_25)) ((a1)) tb) ((w14)) ((a1)) ((u5_25)) ((v4)) ((x61_4) + 1) ((yc328_5_25)) ((wc328_35)) ((wc328_36)) ((wc328_37)) ((wc328_34))) → Ew 293 (d + 4) 328 ls [] σ c s Q := by
           as_aux_lemma =>
            intro  ls σ F_c328 A_c328  lc328_0 lc328_1 lc328_2 lc328_3 lc328_4 H hS_c328 hA_c328 yc328_5_25 eyc328_5_25 wc328_34 ewc328_34 wc328_35 ewc328_35 wc328_36 ewc328_36 wc328_37 ewc328_37 jc328_0 jc328_1 jc328_2 jc328_3
            have r12 : (0 : Int) ≤ yc328_5_25 ∧ yc328_5_25 ≤ 65536 := by have h1 : (0 : Int) ≤ F_c328 5 25 ∧ F_c328 5 25 ≤ 65536 := H.frng 5 25; rw [show F_c328 5 25 = yc328_5_25 from (eyc328_5_25)] at h1; exact h1
            refine Ew_of (pc' := 331) (fun _ => x_iinc (len := 3) rfl (lc328_4)) ?_
            refine Ew_of (pc' := 61) (fun _ => x_goto rfl rfl) ?_
            exact ih61 _ (by omega) _ σ _ _ ((x61_4 + 1)) (rk_o (lc328_0) rfl rfl) (rk_o (lc328_1) rfl rfl) (rk_o (lc328_2) rfl rfl) (rk_o (lc328_3) rfl rfl) (rk_s) H (SF_trans (hS_61) hS_c328 (any_sub rfl)) (SA_trans (hA_61) hA_c328 (any_subA rfl)) (yc328_5_25) ((eyc328_5_25)) (wc328_34) (ewc328_34) (wc328_35) (ewc328_35) (wc328_36) (ewc328_36) (wc328_37) (ewc328_37) (show inr ((x61_4 + 1)) by omega) (show 0 ≤ ((x61_4 + 1)) ∧ ((x61_4 + 1)) ≤ 3 by omega) (show ((u5_25 + 1)) ≤ (yc328_5_25) ∧ (yc328_5_25) ≤ (a1) by omega) (show RT ((wc328_35)) ((wc328_36)) ((wc328_37)) ((wc328_34)) by assumption) (show ∀ t, 0 ≤ t → t < ((x61_4 + 1)) → 0 ≤ ((wc328_34)) t by assumption) (show T3I (T3F ((w14)) ((u5_25)) ((a1)) tb) ((w14)) ((a1)) ((u5_25)) ((v4)) (((x61_4 + 1))) ((yc328_5_25)) ((wc328_35)) ((wc328_36)) ((wc328_37)) ((wc328_34)) by assumption) rfl
          have hlo := lastOf_eq ((x61_4))
          refine Ew_of (pc' := 82) (fun _ => x_iload rfl rk_s) ?_
          refine w_ifne (t := 94) rfl rfl (show inr (q5) by omega) (fun b13 => ?_) (fun b13 => ?_)
          · refine Ew_of (pc' := 96) (fun _ => x_iload rfl rk_s) ?_
            refine Ew_of (pc' := 97) (fun _ => x_iconst rfl) ?_
            refine w_icmpne (t := 247) rfl rfl (show inr (q5) by omega) (show inr (1) by omega) (fun b14 => ?_) (fun b14 => ?_)
            · refine Ew_of (pc' := 249) (fun _ => x_iload rfl rk_s) ?_
              refine Ew_of (pc' := 250) (fun _ => x_iconst rfl) ?_
              refine w_icmpne (t := 310) rfl rfl (show inr (q5) by omega) (show inr (2) by omega) (fun b15 => ?_) (fun b15 => ?_)
              · refine Ew_of (pc' := 311) (fun _ => x_aload_n rfl (rk_o (l61_0) rfl rfl)) ?_
                refine w_gT H (o := 5) (t := 34) rfl (H.perm 5 rfl) rfl rfl rfl rfl rfl rfl ?_
                refine Ew_of (pc' := 316) (fun _ => x_iload rfl (rk_o (l61_4) rfl rfl)) ?_
                refine w_lI H (o := 34) (n := 3) rfl (H.perm 34 rfl) rfl rfl (H.fix 34 rfl rfl) (show 0 ≤ x61_4 ∧ x61_4 < ((3 : Nat) : Int) by omega) (by decide) (fun v16 ev16 qv16 => ?_)
                have qv16 : (-1 : Int) ≤ v16 ∧ v16 ≤ 9 := qv16
                have ev16 : (w61_34) (x61_4) = v16 := (congrFun (ew61_34) (x61_4)).symm.trans ev16
                have hv := ev16
                refine w_ifge (t := 328) rfl rfl (show inr (v16) by omega) (fun b17 => ?_) (fun b17 => ?_)
                · have : ∀ t, 0 ≤ t → t < (x61_4) + 1 → 0 ≤ ((w61_34)) t := by first | assumption | exact (fun t a b => by by_cases e : t = (x61_4); rw [e]; omega; exact j61_on t a (by omega))
                  have : T3I (T3F ((w14)) ((u5_25)) ((a1)) tb) ((w14)) ((a1)) ((u5_25)) ((v4)) ((x61_4) + 1) ((y61_5_25)) ((w61_35)) ((w61_36)) ((w61_37)) ((w61_34)) := by first | assumption | exact T3I_3 j61_t (by omega) hmd (by omega) (by rw [hv]; omega) rfl
                  exact hc328  _ σ _ _  (rk_o (l61_0) rfl rfl) (rk_o (l61_1) rfl rfl) (rk_o (l61_2) rfl rfl) (rk_o (l61_3) rfl rfl) (rk_o (l61_4) rfl rfl) H (SF_refl) (SA_refl) (y61_5_25) ((ey61_5_25)) (w61_34) (ew61_34) (w61_35) (ew61_35) (w61_36) (ew61_36) (w61_37) (ew61_37) (show (y61_5_25) ≤ (y61_5_25) ∧ (y61_5_25) ≤ (a1) by omega) (show RT ((w61_35)) ((w61_36)) ((w61_37)) ((w61_34)) by assumption) (show ∀ t, 0 ≤ t → t < (x61_4) + 1 → 0 ≤ ((w61_34)) t by assumption) (show T3I (T3F ((w14)) ((u5_25)) ((a1)) tb) ((w14)) ((a1)) ((u5_25)) ((v4)) ((x61_4) + 1) ((y61_5_25)) ((w61_35)) ((w61_36)) ((w61_37)) ((w61_34)) by assumption)
                · refine Ew_of (pc' := 321) (fun _ => x_aload_n rfl (rk_o (l61_0) rfl rfl)) ?_
                  refine Ew_of (pc' := 323) (fun _ => x_bipush (z := 16) rfl (by decide)) ?_
                  refine Ew_of (pc' := 324) (fun _ => x_iload_n rfl (rk_o (l61_2) rfl rfl)) ?_
                  refine w_inv H (o := 5) rfl rfl rfl (H.perm 5 rfl) rfl rfl (by rfl) (M282 H (show inr (16) by omega) (show inr (u5_25) by omega) (show 0 ≤ (16) ∧ (16) ≤ 20 by omega) (show 0 ≤ (u5_25) ∧ (u5_25) ≤ 65536 by omega) (fun z22 σ F18 A19 H hS20 hA21 y23 ey24 y25 ey26 pz22_0 pz22_1 pz22_2 pz22_3 => ⟨rretB rfl pz22_0, ?_⟩))
                  have r27 : (0 : Int) ≤ y23 ∧ y23 ≤ 20 := by have h1 : (0 : Int) ≤ F18 5 30 ∧ F18 5 30 ≤ 20 := H.frng 5 30; rw [show F18 5 30 = y23 from (ey24)] at h1; exact h1
                  have r28 : (0 : Int) ≤ y25 ∧ y25 ≤ 65536 := by have h1 : (0 : Int) ≤ F18 5 31 ∧ F18 5 31 ≤ 65536 := H.frng 5 31; rw [show F18 5 31 = y25 from (ey26)] at h1; exact h1
                  have : T3A (T3F ((w14)) ((u5_25)) ((a1)) tb) ((z22)) ((y23)) ((y25)) ((y61_5_25)) ((w61_35)) ((w61_36)) ((w61_37)) ((w61_34)) := T3I_3f j61_t (by omega) hmd (by omega) (by rw [hv]; omega) (by omega) (by omega) (by omega)
                  exact w_ireturn rfl (k (z22) σ _ _ H (SF_trans (SF_trans (SF_upd (SF_refl) rfl) hS_61 (any_sub rfl)) hS20 (any_sub rfl)) (SA_trans (SA_trans (SA_refl) hA_61 (any_subA rfl)) hA21 (any_subA rfl)) (y61_5_25) (((hS20 5 25 rfl).trans (ey61_5_25))) (y23) ((ey24)) (y25) ((ey26)) (w61_34) ((funext (hA21 34 rfl)).trans (ew61_34)) (w61_35) ((funext (hA21 35 rfl)).trans (ew61_35)) (w61_36) ((funext (hA21 36 rfl)).trans (ew61_36)) (w61_37) ((funext (hA21 37 rfl)).trans (ew61_37)) (show (z22) = 0 ∨ (z22) = 1 by omega) (show (z22) = 1 → (u5_25) ≤ (y61_5_25) ∧ (y61_5_25) ≤ a1 by omega) (show RT ((w61_35)) ((w61_36)) ((w61_37)) ((w61_34)) by assumption) (show (z22) = 1 → ∀ t, 0 ≤ t → t < 3 → 0 ≤ ((w61_34)) t by first | assumption | exact fun h => absurd rfl h | exact fun h => absurd h (by decide) | omega) (show T3A (T3F ((w14)) ((u5_25)) (a1) tb) ((z22)) ((y23)) ((y25)) ((y61_5_25)) ((w61_35)) ((w61_36)) ((w61_37)) ((w61_34)) by assumption))
              · refine Ew_of (pc' := 254) (fun _ => x_aload_n rfl (rk_o (l61_0) rfl rfl)) ?_
                refine Ew_of (pc' := 255) (fun _ => x_aload_n rfl (rk_o (l61_0) rfl rfl)) ?_
                refine w_gI H (o := 5) (w := y61_5_25) rfl (H.perm 5 rfl) rfl rfl rfl (fun _ => rfl) (ey61_5_25) ?_
                refine Ew_of (pc' := 259) (fun _ => x_iload_n rfl (rk_o (l61_1) rfl rfl)) ?_
                refine Ew_of (pc' := 261) (fun _ => x_iload rfl (rk_o (l61_4) rfl rfl)) ?_
                refine Ew_of (pc' := 262) (fun _ => x_iconst rfl) ?_
                have hc272 : ∀ (tc272_0 : Int), ∀ (ls : rO) (σ : rS) (F_c272 : hF) (A_c272 : hA) , rlook ls 0 = some (.ref (D 5)) → rlook ls 1 = some (I (a1)) → rlook ls 2 = some (I (u5_25)) → rlook ls 3 = some (I (v4)) → rlook ls 4 = some (I (x61_4)) → HS σ0 σ D N F_c272 A_c272 → SF [] F_61 F_c272 → SA [] A_61 A_c272 → (inr (tc272_0)) → (((x61_4) ≠ (1) ∧ (tc272_0) = (9)) ∨ ((x61_4) = (1) ∧ (tc272_0) = (8))) → Ew 293 (d + 4) 272 ls [I (tc272_0), I (a1), I (y61_5_25), .ref (D 5)] σ c s Q := by
                 as_aux_lemma =>
                  intro tc272_0 ls σ F_c272 A_c272  lc272_0 lc272_1 lc272_2 lc272_3 lc272_4 H hS_c272 hA_c272   jc272_0 jc272_1
                  refine Ew_of (pc' := 274) (fun _ => x_iload rfl lc272_4) ?_
                  refine w_stat24 rfl rfl (by rfl) (M276 H (show inr (x61_4) by omega) (show 0 ≤ (x61_4) ∧ (x61_4) ≤ 2 by omega) (fun z33 σ F29 A30 H hS31 hA32 pz33_0 pz33_1 pz33_2 => ⟨rfl, ?_⟩))
                  refine w_inv H (o := 5) rfl rfl rfl (H.perm 5 rfl) rfl rfl (by rfl) (M261 H (w14) ((funext (hA32 14 rfl)).trans ((funext (hA_c272 14 rfl)).trans ((funext (hA_61 14 rfl)).trans (ew14)))) (show inr (y61_5_25) by omega) (show inr (a1) by omega) (show inr (tc272_0) by omega) (show inr (z33) by omega) (show 0 ≤ (y61_5_25) ∧ (y61_5_25) ≤ 65536 ∧ (a1) ≤ 65536 ∧ 0 ≤ (a1) by omega) (show 6 ≤ (tc272_0) ∧ (tc272_0) ≤ 9 ∧ 0 ≤ (z33) ∧ (z33) ≤ 63 by omega) (fun z38 σ F34 A35 H hS36 hA37 y39 ey40 wq41 ewq42 pz38_0 pz38_1 pz38_2 pz38_3 => ⟨rfl, ?_⟩))
                  have r43 : (0 : Int) ≤ y39 ∧ y39 ≤ 20 := by have h1 : (0 : Int) ≤ F34 5 19 ∧ F34 5 19 ≤ 20 := H.frng 5 19; rw [show F34 5 19 = y39 from (ey40)] at h1; exact h1
                  refine Ew_of (pc' := 282) (fun _ => x_istore rfl) ?_
                  refine Ew_of (pc' := 284) (fun _ => x_iload rfl rk_s) ?_
                  refine w_ifge (t := 295) rfl rfl (show inr (z38) by omega) (fun b44 => ?_) (fun b44 => ?_)
                  · have hsh := pz38_2 (by omega)
                    rw [pz33_1] at hsh
                    have hsf := SHA_F pz38_3
                    rw [pz33_1] at hsf
                    have hsf1 := hsf.resolve_left (fun q => by omega)
                    refine Ew_of (pc' := 296) (fun _ => x_aload_n rfl (rk_o (lc272_0) rfl rfl)) ?_
                    refine Ew_of (pc' := 298) (fun _ => x_iload rfl (rk_o (lc272_4) rfl rfl)) ?_
                    refine w_inv H (o := 5) rfl rfl rfl (H.perm 5 rfl) rfl rfl (by rfl) (M264 H (y39) ((ey40)) (A_61 33) ((funext (hA37 33 rfl)).trans ((funext (hA32 33 rfl)).trans (funext (hA_c272 33 rfl)))) (w61_34) ((funext (hA37 34 rfl)).trans ((funext (hA32 34 rfl)).trans ((funext (hA_c272 34 rfl)).trans (ew61_34)))) (w61_35) ((funext (hA37 35 rfl)).trans ((funext (hA32 35 rfl)).trans ((funext (hA_c272 35 rfl)).trans (ew61_35)))) (w61_36) ((funext (hA37 36 rfl)).trans ((funext (hA32 36 rfl)).trans ((funext (hA_c272 36 rfl)).trans (ew61_36)))) (w61_37) ((funext (hA37 37 rfl)).trans ((funext (hA32 37 rfl)).trans ((funext (hA_c272 37 rfl)).trans (ew61_37)))) (wq41) (ewq42) (show inr (x61_4) by omega) (show 0 ≤ (x61_4) ∧ (x61_4) ≤ 2 by omega) (show SH ((wq41)) 0 64 ((y39)) (lastOf ((x61_4))) by assumption) (show RT ((w61_35)) ((w61_36)) ((w61_37)) ((w61_34)) by assumption) (fun σ F45 A46 H hS47 hA48 wq50 ewq51 wq52 ewq53 wq54 ewq55 wq56 ewq57 wq58 ewq59 pz49_0 pz49_1 pz49_2 pz49_3 pz49_4 pz49_5 pz49_6 pz49_7 pz49_8 pz49_9 => ⟨rfl, ?_⟩))
                    have : ∀ t, 0 ≤ t → t < (x61_4) + 1 → 0 ≤ ((wq52)) t := fun t a b => by by_cases e : t = (x61_4); rw [e]; have := PS_ord pz49_1; omega; rw [pz49_3 t (by omega)]; exact j61_on t a (by omega)
                    refine Ew_of (pc' := 302) (fun _ => x_aload_n rfl (rk_o (lc272_0) rfl rfl)) ?_
                    refine Ew_of (pc' := 304) (fun _ => x_iload rfl rk_s) ?_
                    refine w_pI H (o := 5) rfl rfl (H.perm 5 rfl) rfl rfl rfl (fun _ => rfl) rfl (show (0 : Int) ≤ z38 ∧ z38 ≤ 65536 by omega) (fun σ H => ?_)
                    have : T3I (T3F ((w14)) ((u5_25)) ((a1)) tb) ((w14)) ((a1)) ((u5_25)) ((v4)) ((x61_4) + 1) ((z38)) ((wq54)) ((wq56)) ((wq58)) ((wq52)) := T3I_s j61_t (by omega) hmd (fun Z => by rw [T1_2y (by omega) (by split <;> omega) hsf1.2.1, ← hsf1.2.2.1]) (RTL_S pz49_4 hsh pz49_5 pz49_6 hsf1.2.2.2.2 hsf1.2.2.2.1) pz49_7 pz49_8 pz49_9 pz49_3 rfl
                    refine Ew_of (pc' := 328) (fun _ => x_goto rfl rfl) ?_
                    have : ∀ t, 0 ≤ t → t < (x61_4) + 1 → 0 ≤ ((wq52)) t := by first | assumption | exact (fun t a b => by by_cases e : t = (x61_4); rw [e]; omega; exact j61_on t a (by omega))
                    have : T3I (T3F ((w14)) ((u5_25)) ((a1)) tb) ((w14)) ((a1)) ((u5_25)) ((v4)) ((x61_4) + 1) ((z38)) ((wq54)) ((wq56)) ((wq58)) ((wq52)) := by first | assumption | exact T3I_3 j61_t (by omega) hmd (by omega) (by rw [hv]; omega) rfl
                    exact hc328  _ σ _ _  (rk_o (lc272_0) rfl rfl) (rk_o (lc272_1) rfl rfl) (rk_o (lc272_2) rfl rfl) (rk_o (lc272_3) rfl rfl) (rk_o (lc272_4) rfl rfl) H (SF_upd (SF_trans (SF_trans (SF_trans (SF_trans (SF_refl) hS_c272 (any_sub rfl)) hS31 (any_sub rfl)) hS36 (any_sub rfl)) hS47 (any_sub rfl)) rfl) (SA_trans (SA_trans (SA_trans (SA_trans (SA_refl) hA_c272 (any_subA rfl)) hA32 (any_subA rfl)) hA37 (any_subA rfl)) hA48 (any_subA rfl)) (z38) (rfl) (wq52) (ewq53) (wq54) (ewq55) (wq56) (ewq57) (wq58) (ewq59) (show (y61_5_25) ≤ (z38) ∧ (z38) ≤ (a1) by omega) (show RT ((wq54)) ((wq56)) ((wq58)) ((wq52)) by assumption) (show ∀ t, 0 ≤ t → t < (x61_4) + 1 → 0 ≤ ((wq52)) t by assumption) (show T3I (T3F ((w14)) ((u5_25)) ((a1)) tb) ((w14)) ((a1)) ((u5_25)) ((v4)) ((x61_4) + 1) ((z38)) ((wq54)) ((wq56)) ((wq58)) ((wq52)) by assumption)
                  · refine Ew_of (pc' := 288) (fun _ => x_aload_n rfl (rk_o (lc272_0) rfl rfl)) ?_
                    refine Ew_of (pc' := 290) (fun _ => x_bipush (z := 16) rfl (by decide)) ?_
                    refine Ew_of (pc' := 291) (fun _ => x_iload_n rfl (rk_o (lc272_2) rfl rfl)) ?_
                    refine w_inv H (o := 5) rfl rfl rfl (H.perm 5 rfl) rfl rfl (by rfl) (M282 H (show inr (16) by omega) (show inr (u5_25) by omega) (show 0 ≤ (16) ∧ (16) ≤ 20 by omega) (show 0 ≤ (u5_25) ∧ (u5_25) ≤ 65536 by omega) (fun z64 σ F60 A61 H hS62 hA63 y65 ey66 y67 ey68 pz64_0 pz64_1 pz64_2 pz64_3 => ⟨rretB rfl pz64_0, ?_⟩))
                    have r69 : (0 : Int) ≤ y65 ∧ y65 ≤ 20 := by have h1 : (0 : Int) ≤ F60 5 30 ∧ F60 5 30 ≤ 20 := H.frng 5 30; rw [show F60 5 30 = y65 from (ey66)] at h1; exact h1
                    have r70 : (0 : Int) ≤ y67 ∧ y67 ≤ 65536 := by have h1 : (0 : Int) ≤ F60 5 31 ∧ F60 5 31 ≤ 65536 := H.frng 5 31; rw [show F60 5 31 = y67 from (ey68)] at h1; exact h1
                    have hsg := SHA_F pz38_3
                    rw [pz33_1] at hsg
                    have hsg1 := hsg.resolve_right (fun q => by omega)
                    have : T3A (T3F ((w14)) ((u5_25)) ((a1)) tb) ((z64)) ((y65)) ((y67)) ((y61_5_25)) ((w61_35)) ((w61_36)) ((w61_37)) ((w61_34)) := T3I_f j61_t (by omega) hmd (fun Z => T1_2n (by omega) (by split <;> omega) hsg1.2) (by decide) (by omega) (by omega) (by omega)
                    exact w_ireturn rfl (k (z64) σ _ _ H (SF_trans (SF_trans (SF_trans (SF_trans (SF_trans (SF_upd (SF_refl) rfl) hS_61 (any_sub rfl)) hS_c272 (any_sub rfl)) hS31 (any_sub rfl)) hS36 (any_sub rfl)) hS62 (any_sub rfl)) (SA_trans (SA_trans (SA_trans (SA_trans (SA_trans (SA_refl) hA_61 (any_subA rfl)) hA_c272 (any_subA rfl)) hA32 (any_subA rfl)) hA37 (any_subA rfl)) hA63 (any_subA rfl)) (y61_5_25) ((((((hS62 5 25 rfl).trans (hS36 5 25 rfl)).trans (hS31 5 25 rfl)).trans (hS_c272 5 25 rfl)).trans (ey61_5_25))) (y65) ((ey66)) (y67) ((ey68)) (w61_34) ((funext (hA63 34 rfl)).trans ((funext (hA37 34 rfl)).trans ((funext (hA32 34 rfl)).trans ((funext (hA_c272 34 rfl)).trans (ew61_34))))) (w61_35) ((funext (hA63 35 rfl)).trans ((funext (hA37 35 rfl)).trans ((funext (hA32 35 rfl)).trans ((funext (hA_c272 35 rfl)).trans (ew61_35))))) (w61_36) ((funext (hA63 36 rfl)).trans ((funext (hA37 36 rfl)).trans ((funext (hA32 36 rfl)).trans ((funext (hA_c272 36 rfl)).trans (ew61_36))))) (w61_37) ((funext (hA63 37 rfl)).trans ((funext (hA37 37 rfl)).trans ((funext (hA32 37 rfl)).trans ((funext (hA_c272 37 rfl)).trans (ew61_37))))) (show (z64) = 0 ∨ (z64) = 1 by omega) (show (z64) = 1 → (u5_25) ≤ (y61_5_25) ∧ (y61_5_25) ≤ a1 by omega) (show RT ((w61_35)) ((w61_36)) ((w61_37)) ((w61_34)) by assumption) (show (z64) = 1 → ∀ t, 0 ≤ t → t < 3 → 0 ≤ ((w61_34)) t by first | assumption | exact fun h => absurd rfl h | exact fun h => absurd h (by decide) | omega) (show T3A (T3F ((w14)) ((u5_25)) (a1) tb) ((z64)) ((y65)) ((y67)) ((y61_5_25)) ((w61_35)) ((w61_36)) ((w61_37)) ((w61_34)) by assumption))
                refine w_icmpne (t := 270) rfl rfl (show inr (x61_4) by omega) (show inr (1) by omega) (fun b71 => ?_) (fun b71 => ?_)
                · refine Ew_of (pc' := 272) (fun _ => x_bipush (z := 9) rfl (by decide)) ?_
                  exact hc272 (9) _ σ _ _  (rk_o (l61_0) rfl rfl) (rk_o (l61_1) rfl rfl) (rk_o (l61_2) rfl rfl) (rk_o (l61_3) rfl rfl) (rk_o (l61_4) rfl rfl) H (SF_refl) (SA_refl)   (show inr (9) by omega) (show ((x61_4) ≠ (1) ∧ (9) = (9)) ∨ ((x61_4) = (1) ∧ (9) = (8)) by omega)
                · refine Ew_of (pc' := 267) (fun _ => x_bipush (z := 8) rfl (by decide)) ?_
                  refine Ew_of (pc' := 272) (fun _ => x_goto rfl rfl) ?_
                  exact hc272 (8) _ σ _ _  (rk_o (l61_0) rfl rfl) (rk_o (l61_1) rfl rfl) (rk_o (l61_2) rfl rfl) (rk_o (l61_3) rfl rfl) (rk_o (l61_4) rfl rfl) H (SF_refl) (SA_refl)   (show inr (8) by omega) (show ((x61_4) ≠ (1) ∧ (8) = (9)) ∨ ((x61_4) = (1) ∧ (8) = (8)) by omega)
            · refine Ew_of (pc' := 101) (fun _ => x_aload_n rfl (rk_o (l61_0) rfl rfl)) ?_
              refine w_gI H (o := 5) (w := y61_5_25) rfl (H.perm 5 rfl) rfl rfl rfl (fun _ => rfl) (ey61_5_25) ?_
              refine Ew_of (pc' := 105) (fun _ => x_iload_n rfl (rk_o (l61_1) rfl rfl)) ?_
              refine w_icmplt (t := 116) rfl rfl (show inr (y61_5_25) by omega) (show inr (a1) by omega) (fun b72 => ?_) (fun b72 => ?_)
              · refine Ew_of (pc' := 117) (fun _ => x_aload_n rfl (rk_o (l61_0) rfl rfl)) ?_
                refine w_gT H (o := 5) (t := 1) rfl (H.perm 5 rfl) rfl rfl rfl rfl rfl rfl ?_
                refine w_gT H (o := 1) (t := 14) rfl (H.perm 1 rfl) rfl rfl rfl rfl rfl rfl ?_
                refine Ew_of (pc' := 124) (fun _ => x_aload_n rfl (rk_o (l61_0) rfl rfl)) ?_
                refine w_gI H (o := 5) (w := y61_5_25) rfl (H.perm 5 rfl) rfl rfl rfl (fun _ => rfl) (ey61_5_25) ?_
                refine w_lI H (o := 14) (n := 65536) rfl (H.perm 14 rfl) rfl rfl (H.fix 14 rfl rfl) (show 0 ≤ y61_5_25 ∧ y61_5_25 < ((65536 : Nat) : Int) by omega) (by decide) (fun v73 ev73 qv73 => ?_)
                have qv73 : (0 : Int) ≤ v73 ∧ v73 ≤ 255 := qv73
                have ev73 : (w14) (y61_5_25) = v73 := (congrFun ((funext (hA_61 14 rfl)).trans (ew14)) (y61_5_25)).symm.trans ev73
                have hs6 := ev73
                refine Ew_of (pc' := 130) (fun _ => x_istore rfl) ?_
                refine Ew_of (pc' := 131) (fun _ => x_aload_n rfl (rk_o (rk_o (l61_0) rfl rfl) rfl rfl)) ?_
                refine Ew_of (pc' := 132) (fun _ => x_dup rfl rfl) ?_
                refine w_gI H (o := 5) (w := y61_5_25) rfl (H.perm 5 rfl) rfl rfl rfl (fun _ => rfl) (ey61_5_25) ?_
                refine Ew_of (pc' := 136) (fun _ => x_iconst rfl) ?_
                refine w_iadd rfl ?_
                refine w_pI H (o := 5) rfl rfl (H.perm 5 rfl) rfl rfl rfl (fun _ => rfl) rfl (show (0 : Int) ≤ (y61_5_25 + 1) ∧ (y61_5_25 + 1) ≤ 65536 by omega) (fun σ H => ?_)
                refine Ew_of (pc' := 142) (fun _ => x_iload rfl rk_s) ?_
                refine Ew_of (pc' := 144) (fun _ => x_iload rfl (rk_o (rk_o (l61_4) rfl rfl) rfl rfl)) ?_
                refine w_stat24 rfl rfl (by rfl) (M276 H (show inr (x61_4) by omega) (show 0 ≤ (x61_4) ∧ (x61_4) ≤ 2 by omega) (fun z78 σ F74 A75 H hS76 hA77 pz78_0 pz78_1 pz78_2 => ⟨rfl, ?_⟩))
                refine w_icmple (t := 158) rfl rfl (show inr (v73) by omega) (show inr (z78) by omega) (fun b79 => ?_) (fun b79 => ?_)
                · have : RT (upd1 ((w61_35)) (512 * (x61_4)) ((v73))) (upd1 ((w61_36)) (512 * (x61_4)) 0) (upd1 ((w61_37)) (512 * (x61_4)) 0) (upd1 ((w61_34)) ((x61_4)) 0) := RT_one (by assumption) (by omega) (by omega)
                  have : ∀ t, 0 ≤ t → t < (x61_4) + 1 → 0 ≤ (upd1 ((w61_34)) ((x61_4)) 0) t := fun t a b => by by_cases e : t = (x61_4); rw [e, upd1_s]; omega; rw [upd1_o e]; exact j61_on t a (by omega)
                  refine Ew_of (pc' := 159) (fun _ => x_aload_n rfl (rk_o (rk_o (l61_0) rfl rfl) rfl rfl)) ?_
                  refine w_gT H (o := 5) (t := 34) rfl (H.perm 5 rfl) rfl rfl rfl rfl rfl rfl ?_
                  refine Ew_of (pc' := 164) (fun _ => x_iload rfl (rk_o (rk_o (l61_4) rfl rfl) rfl rfl)) ?_
                  refine Ew_of (pc' := 165) (fun _ => x_iconst rfl) ?_
                  refine w_sI H (o := 34) (n := 3) rfl (H.perm 34 rfl) rfl rfl (H.fix 34 rfl rfl) (show 0 ≤ x61_4 ∧ x61_4 < ((3 : Nat) : Int) by omega) (by decide) (show (-1 : Int) ≤ 0 ∧ 0 ≤ 9 by omega) (fun σ H => ?_)
                  refine Ew_of (pc' := 167) (fun _ => x_iconst rfl) ?_
                  refine Ew_of (pc' := 169) (fun _ => x_istore rfl) ?_
                  suffices hl169 : ∀ (m : Nat), ∀ (ls : rO) (σ : rS) (F_169 : hF) (A_169 : hA) (x169_7 : Int), rlook ls 0 = some (.ref (D 5)) → rlook ls 1 = some (I (a1)) → rlook ls 2 = some (I (u5_25)) → rlook ls 3 = some (I (v4)) → rlook ls 4 = some (I (x61_4)) → rlook ls 6 = some (I (v73)) → rlook ls 7 = some (I (x169_7)) → HS σ0 σ D N F_169 A_169 → SF [] F74 F_169 → SA [33] (updA A75 34 (x61_4) (0)) A_169 → (inr (x169_7)) → ((0) ≤ (x169_7)) → ((x169_7) ≤ (0) ∨ (x169_7) ≤ ((64))) → (((64)) - (x169_7)).toNat = m → Ew 293 (d + 4) 169 ls [] σ c s Q from
                    hl169 _ _ σ _ _ (0) (rk_o (rk_o (rk_o (l61_0) rfl rfl) rfl rfl) rfl rfl) (rk_o (rk_o (rk_o (l61_1) rfl rfl) rfl rfl) rfl rfl) (rk_o (rk_o (rk_o (l61_2) rfl rfl) rfl rfl) rfl rfl) (rk_o (rk_o (rk_o (l61_3) rfl rfl) rfl rfl) rfl rfl) (rk_o (rk_o (rk_o (l61_4) rfl rfl) rfl rfl) rfl rfl) (rk_o (rk_s) rfl rfl) (rk_s) H (SF_refl) (SA_refl)   (show inr (0) by omega) (show (0) ≤ (0) by omega) (show (0) ≤ (0) ∨ (0) ≤ ((64)) by omega) rfl
                  as_aux_lemma =>
                  intro m
                  induction m using Nat.strongRecOn with
                  | _ m ih169 =>
                    intro ls σ F_169 A_169 x169_7 l169_0 l169_1 l169_2 l169_3 l169_4 l169_6 l169_7 H hS_169 hA_169   j169_0 j169_1 j169_2 hm169
                    refine Ew_of (pc' := 171) (fun _ => x_iload rfl l169_7) ?_
                    refine Ew_of (pc' := 173) (fun _ => x_bipush (z := 64) rfl (by decide)) ?_
                    refine w_icmpge (t := 207) rfl rfl (show inr (x169_7) by omega) (show inr (64) by omega) (fun b80 => ?_) (fun b80 => ?_)
                    · refine Ew_of (pc' := 208) (fun _ => x_aload_n rfl l169_0) ?_
                      refine w_gT H (o := 5) (t := 35) rfl (H.perm 5 rfl) rfl rfl rfl rfl rfl rfl ?_
                      refine Ew_of (pc' := 214) (fun _ => x_sipush (z := 512) rfl (by decide)) ?_
                      refine Ew_of (pc' := 216) (fun _ => x_iload rfl l169_4) ?_
                      refine w_imul rfl ?_
                      refine Ew_of (pc' := 219) (fun _ => x_iload rfl l169_6) ?_
                      refine w_sI H (o := 35) (n := 1536) rfl (H.perm 35 rfl) rfl rfl (H.fix 35 rfl rfl) (show 0 ≤ (512 * x61_4) ∧ (512 * x61_4) < ((1536 : Nat) : Int) by omega) (by decide) (show (-1 : Int) ≤ v73 ∧ v73 ≤ 63 by omega) (fun σ H => ?_)
                      refine Ew_of (pc' := 221) (fun _ => x_aload_n rfl l169_0) ?_
                      refine w_gT H (o := 5) (t := 36) rfl (H.perm 5 rfl) rfl rfl rfl rfl rfl rfl ?_
                      refine Ew_of (pc' := 227) (fun _ => x_sipush (z := 512) rfl (by decide)) ?_
                      refine Ew_of (pc' := 229) (fun _ => x_iload rfl l169_4) ?_
                      refine w_imul rfl ?_
                      refine Ew_of (pc' := 231) (fun _ => x_iconst rfl) ?_
                      refine w_sI H (o := 36) (n := 1536) rfl (H.perm 36 rfl) rfl rfl (H.fix 36 rfl rfl) (show 0 ≤ (512 * x61_4) ∧ (512 * x61_4) < ((1536 : Nat) : Int) by omega) (by decide) (show (0 : Int) ≤ 0 ∧ 0 ≤ 9 by omega) (fun σ H => ?_)
                      refine Ew_of (pc' := 233) (fun _ => x_aload_n rfl l169_0) ?_
                      refine w_gT H (o := 5) (t := 37) rfl (H.perm 5 rfl) rfl rfl rfl rfl rfl rfl ?_
                      refine Ew_of (pc' := 239) (fun _ => x_sipush (z := 512) rfl (by decide)) ?_
                      refine Ew_of (pc' := 241) (fun _ => x_iload rfl l169_4) ?_
                      refine w_imul rfl ?_
                      refine Ew_of (pc' := 243) (fun _ => x_iconst rfl) ?_
                      refine w_sI H (o := 37) (n := 1536) rfl (H.perm 37 rfl) rfl rfl (H.fix 37 rfl rfl) (show 0 ≤ (512 * x61_4) ∧ (512 * x61_4) < ((1536 : Nat) : Int) by omega) (by decide) (show (0 : Int) ≤ 0 ∧ 0 ≤ 511 by omega) (fun σ H => ?_)
                      have : T3I (T3F ((w14)) ((u5_25)) ((a1)) tb) ((w14)) ((a1)) ((u5_25)) ((v4)) ((x61_4) + 1) (((y61_5_25 + 1))) ((upd1 (w61_35) ((512 * x61_4)) (v73))) ((upd1 (w61_36) ((512 * x61_4)) (0))) ((upd1 (w61_37) ((512 * x61_4)) (0))) ((upd1 (w61_34) (x61_4) (0))) := T3I_s j61_t (by omega) hmd (fun Z => T1_1y (by omega) (by omega) hs6 (by omega)) (RTL_1 (by omega) upd1_s upd1_s upd1_s upd1_s) (FRM_upd FRM_refl (by omega) (by omega)) (FRM_upd FRM_refl (by omega) (by omega)) (FRM_upd FRM_refl (by omega) (by omega)) (FRM_upd FRM_refl (by omega) (by omega)) rfl
                      refine Ew_of (pc' := 328) (fun _ => x_goto rfl rfl) ?_
                      have : ∀ t, 0 ≤ t → t < (x61_4) + 1 → 0 ≤ ((upd1 (w61_34) (x61_4) (0))) t := by first | assumption | exact (fun t a b => by by_cases e : t = (x61_4); rw [e]; omega; exact j61_on t a (by omega))
                      have : T3I (T3F ((w14)) ((u5_25)) ((a1)) tb) ((w14)) ((a1)) ((u5_25)) ((v4)) ((x61_4) + 1) (((y61_5_25 + 1))) ((upd1 (w61_35) ((512 * x61_4)) (v73))) ((upd1 (w61_36) ((512 * x61_4)) (0))) ((upd1 (w61_37) ((512 * x61_4)) (0))) ((upd1 (w61_34) (x61_4) (0))) := by first | assumption | exact T3I_3 j61_t (by omega) hmd (by omega) (by rw [hv]; omega) rfl
                      exact hc328  _ σ _ _  (l169_0) (l169_1) (l169_2) (l169_3) (l169_4) H (SF_trans (SF_trans (SF_upd (SF_refl) rfl) hS76 (any_sub rfl)) hS_169 (any_sub rfl)) (SA_upd (SA_upd (SA_upd (SA_trans (SA_upd (SA_trans (SA_refl) hA77 (any_subA rfl)) rfl) hA_169 (any_subA rfl)) rfl) rfl) rfl) ((y61_5_25 + 1)) (((hS_169 5 25 rfl).trans (hS76 5 25 rfl))) (upd1 (w61_34) (x61_4) (0)) ((funext (hA_169 34 rfl)).trans (congrArg (fun q => upd1 q (x61_4) (0)) ((funext (hA77 34 rfl)).trans (ew61_34)))) (upd1 (w61_35) ((512 * x61_4)) (v73)) (congrArg (fun q => upd1 q ((512 * x61_4)) (v73)) ((funext (hA_169 35 rfl)).trans ((funext (hA77 35 rfl)).trans (ew61_35)))) (upd1 (w61_36) ((512 * x61_4)) (0)) (congrArg (fun q => upd1 q ((512 * x61_4)) (0)) ((funext (hA_169 36 rfl)).trans ((funext (hA77 36 rfl)).trans (ew61_36)))) (upd1 (w61_37) ((512 * x61_4)) (0)) (congrArg (fun q => upd1 q ((512 * x61_4)) (0)) ((funext (hA_169 37 rfl)).trans ((funext (hA77 37 rfl)).trans (ew61_37)))) (show (y61_5_25) ≤ ((y61_5_25 + 1)) ∧ ((y61_5_25 + 1)) ≤ (a1) by omega) (show RT ((upd1 (w61_35) ((512 * x61_4)) (v73))) ((upd1 (w61_36) ((512 * x61_4)) (0))) ((upd1 (w61_37) ((512 * x61_4)) (0))) ((upd1 (w61_34) (x61_4) (0))) by assumption) (show ∀ t, 0 ≤ t → t < (x61_4) + 1 → 0 ≤ ((upd1 (w61_34) (x61_4) (0))) t by assumption) (show T3I (T3F ((w14)) ((u5_25)) ((a1)) tb) ((w14)) ((a1)) ((u5_25)) ((v4)) ((x61_4) + 1) (((y61_5_25 + 1))) ((upd1 (w61_35) ((512 * x61_4)) (v73))) ((upd1 (w61_36) ((512 * x61_4)) (0))) ((upd1 (w61_37) ((512 * x61_4)) (0))) ((upd1 (w61_34) (x61_4) (0))) by assumption)
                    · refine Ew_of (pc' := 177) (fun _ => x_aload_n rfl l169_0) ?_
                      refine w_gT H (o := 5) (t := 33) rfl (H.perm 5 rfl) rfl rfl rfl rfl rfl rfl ?_
                      refine Ew_of (pc' := 182) (fun _ => x_bipush (z := 64) rfl (by decide)) ?_
                      refine Ew_of (pc' := 184) (fun _ => x_iload rfl l169_4) ?_
                      refine w_imul rfl ?_
                      refine Ew_of (pc' := 187) (fun _ => x_iload rfl l169_7) ?_
                      refine w_iadd rfl ?_
                      refine Ew_of (pc' := 190) (fun _ => x_iload rfl l169_7) ?_
                      refine Ew_of (pc' := 192) (fun _ => x_iload rfl l169_6) ?_
                      refine w_icmpne (t := 199) rfl rfl (show inr (x169_7) by omega) (show inr (v73) by omega) (fun b81 => ?_) (fun b81 => ?_)
                      · refine Ew_of (pc' := 200) (fun _ => x_iconst rfl) ?_
                        refine w_sI H (o := 33) (n := 192) rfl (H.perm 33 rfl) rfl rfl (H.fix 33 rfl rfl) (show 0 ≤ ((64 * x61_4) + x169_7) ∧ ((64 * x61_4) + x169_7) < ((192 : Nat) : Int) by omega) (by decide) (show (-1 : Int) ≤ 0 ∧ 0 ≤ 512 by omega) (fun σ H => ?_)
                        refine Ew_of (pc' := 204) (fun _ => x_iinc (len := 3) rfl (l169_7)) ?_
                        refine Ew_of (pc' := 169) (fun _ => x_goto rfl rfl) ?_
                        exact ih169 _ (by omega) _ σ _ _ ((x169_7 + 1)) (rk_o (l169_0) rfl rfl) (rk_o (l169_1) rfl rfl) (rk_o (l169_2) rfl rfl) (rk_o (l169_3) rfl rfl) (rk_o (l169_4) rfl rfl) (rk_o (l169_6) rfl rfl) (rk_s) H (hS_169) (SA_upd (hA_169) rfl)   (show inr ((x169_7 + 1)) by omega) (show (0) ≤ ((x169_7 + 1)) by omega) (show ((x169_7 + 1)) ≤ (0) ∨ ((x169_7 + 1)) ≤ ((64)) by omega) rfl
                      · refine Ew_of (pc' := 196) (fun _ => x_iconst rfl) ?_
                        refine Ew_of (pc' := 200) (fun _ => x_goto rfl rfl) ?_
                        refine w_sI H (o := 33) (n := 192) rfl (H.perm 33 rfl) rfl rfl (H.fix 33 rfl rfl) (show 0 ≤ ((64 * x61_4) + x169_7) ∧ ((64 * x61_4) + x169_7) < ((192 : Nat) : Int) by omega) (by decide) (show (-1 : Int) ≤ 1 ∧ 1 ≤ 512 by omega) (fun σ H => ?_)
                        refine Ew_of (pc' := 204) (fun _ => x_iinc (len := 3) rfl (l169_7)) ?_
                        refine Ew_of (pc' := 169) (fun _ => x_goto rfl rfl) ?_
                        exact ih169 _ (by omega) _ σ _ _ ((x169_7 + 1)) (rk_o (l169_0) rfl rfl) (rk_o (l169_1) rfl rfl) (rk_o (l169_2) rfl rfl) (rk_o (l169_3) rfl rfl) (rk_o (l169_4) rfl rfl) (rk_o (l169_6) rfl rfl) (rk_s) H (hS_169) (SA_upd (hA_169) rfl)   (show inr ((x169_7 + 1)) by omega) (show (0) ≤ ((x169_7 + 1)) by omega) (show ((x169_7 + 1)) ≤ (0) ∨ ((x169_7 + 1)) ≤ ((64)) by omega) rfl
                · refine Ew_of (pc' := 151) (fun _ => x_aload_n rfl (rk_o (rk_o (l61_0) rfl rfl) rfl rfl)) ?_
                  refine Ew_of (pc' := 153) (fun _ => x_bipush (z := 16) rfl (by decide)) ?_
                  refine Ew_of (pc' := 154) (fun _ => x_iload_n rfl (rk_o (rk_o (l61_2) rfl rfl) rfl rfl)) ?_
                  refine w_inv H (o := 5) rfl rfl rfl (H.perm 5 rfl) rfl rfl (by rfl) (M282 H (show inr (16) by omega) (show inr (u5_25) by omega) (show 0 ≤ (16) ∧ (16) ≤ 20 by omega) (show 0 ≤ (u5_25) ∧ (u5_25) ≤ 65536 by omega) (fun z86 σ F82 A83 H hS84 hA85 y87 ey88 y89 ey90 pz86_0 pz86_1 pz86_2 pz86_3 => ⟨rretB rfl pz86_0, ?_⟩))
                  have r91 : (0 : Int) ≤ y87 ∧ y87 ≤ 20 := by have h1 : (0 : Int) ≤ F82 5 30 ∧ F82 5 30 ≤ 20 := H.frng 5 30; rw [show F82 5 30 = y87 from (ey88)] at h1; exact h1
                  have r92 : (0 : Int) ≤ y89 ∧ y89 ≤ 65536 := by have h1 : (0 : Int) ≤ F82 5 31 ∧ F82 5 31 ≤ 65536 := H.frng 5 31; rw [show F82 5 31 = y89 from (ey90)] at h1; exact h1
                  have : T3A (T3F ((w14)) ((u5_25)) ((a1)) tb) ((z86)) ((y87)) ((y89)) (((y61_5_25 + 1))) ((w61_35)) ((w61_36)) ((w61_37)) ((w61_34)) := T3I_f j61_t (by omega) hmd (fun Z => T1_1s (by omega) (by omega) hs6 (by omega)) (by decide) (by omega) (by omega) (by omega)
                  exact w_ireturn rfl (k (z86) σ _ _ H (SF_trans (SF_trans (SF_upd (SF_trans (SF_upd (SF_refl) rfl) hS_61 (any_sub rfl)) rfl) hS76 (any_sub rfl)) hS84 (any_sub rfl)) (SA_trans (SA_trans (SA_trans (SA_refl) hA_61 (any_subA rfl)) hA77 (any_subA rfl)) hA85 (any_subA rfl)) ((y61_5_25 + 1)) (((hS84 5 25 rfl).trans (hS76 5 25 rfl))) (y87) ((ey88)) (y89) ((ey90)) (w61_34) ((funext (hA85 34 rfl)).trans ((funext (hA77 34 rfl)).trans (ew61_34))) (w61_35) ((funext (hA85 35 rfl)).trans ((funext (hA77 35 rfl)).trans (ew61_35))) (w61_36) ((funext (hA85 36 rfl)).trans ((funext (hA77 36 rfl)).trans (ew61_36))) (w61_37) ((funext (hA85 37 rfl)).trans ((funext (hA77 37 rfl)).trans (ew61_37))) (show (z86) = 0 ∨ (z86) = 1 by omega) (show (z86) = 1 → (u5_25) ≤ ((y61_5_25 + 1)) ∧ ((y61_5_25 + 1)) ≤ a1 by omega) (show RT ((w61_35)) ((w61_36)) ((w61_37)) ((w61_34)) by assumption) (show (z86) = 1 → ∀ t, 0 ≤ t → t < 3 → 0 ≤ ((w61_34)) t by first | assumption | exact fun h => absurd rfl h | exact fun h => absurd h (by decide) | omega) (show T3A (T3F ((w14)) ((u5_25)) (a1) tb) ((z86)) ((y87)) ((y89)) (((y61_5_25 + 1))) ((w61_35)) ((w61_36)) ((w61_37)) ((w61_34)) by assumption))
              · refine Ew_of (pc' := 109) (fun _ => x_aload_n rfl (rk_o (l61_0) rfl rfl)) ?_
                refine Ew_of (pc' := 111) (fun _ => x_bipush (z := 10) rfl (by decide)) ?_
                refine Ew_of (pc' := 112) (fun _ => x_iload_n rfl (rk_o (l61_1) rfl rfl)) ?_
                refine w_inv H (o := 5) rfl rfl rfl (H.perm 5 rfl) rfl rfl (by rfl) (M282 H (show inr (10) by omega) (show inr (a1) by omega) (show 0 ≤ (10) ∧ (10) ≤ 20 by omega) (show 0 ≤ (a1) ∧ (a1) ≤ 65536 by omega) (fun z97 σ F93 A94 H hS95 hA96 y98 ey99 y100 ey101 pz97_0 pz97_1 pz97_2 pz97_3 => ⟨rretB rfl pz97_0, ?_⟩))
                have r102 : (0 : Int) ≤ y98 ∧ y98 ≤ 20 := by have h1 : (0 : Int) ≤ F93 5 30 ∧ F93 5 30 ≤ 20 := H.frng 5 30; rw [show F93 5 30 = y98 from (ey99)] at h1; exact h1
                have r103 : (0 : Int) ≤ y100 ∧ y100 ≤ 65536 := by have h1 : (0 : Int) ≤ F93 5 31 ∧ F93 5 31 ≤ 65536 := H.frng 5 31; rw [show F93 5 31 = y100 from (ey101)] at h1; exact h1
                have : T3A (T3F ((w14)) ((u5_25)) ((a1)) tb) ((z97)) ((y98)) ((y100)) ((y61_5_25)) ((w61_35)) ((w61_36)) ((w61_37)) ((w61_34)) := T3I_f j61_t (by omega) hmd (fun Z => T1_1e (by omega) (by omega)) (by decide) (by omega) (by omega) (by omega)
                exact w_ireturn rfl (k (z97) σ _ _ H (SF_trans (SF_trans (SF_upd (SF_refl) rfl) hS_61 (any_sub rfl)) hS95 (any_sub rfl)) (SA_trans (SA_trans (SA_refl) hA_61 (any_subA rfl)) hA96 (any_subA rfl)) (y61_5_25) (((hS95 5 25 rfl).trans (ey61_5_25))) (y98) ((ey99)) (y100) ((ey101)) (w61_34) ((funext (hA96 34 rfl)).trans (ew61_34)) (w61_35) ((funext (hA96 35 rfl)).trans (ew61_35)) (w61_36) ((funext (hA96 36 rfl)).trans (ew61_36)) (w61_37) ((funext (hA96 37 rfl)).trans (ew61_37)) (show (z97) = 0 ∨ (z97) = 1 by omega) (show (z97) = 1 → (u5_25) ≤ (y61_5_25) ∧ (y61_5_25) ≤ a1 by omega) (show RT ((w61_35)) ((w61_36)) ((w61_37)) ((w61_34)) by assumption) (show (z97) = 1 → ∀ t, 0 ≤ t → t < 3 → 0 ≤ ((w61_34)) t by first | assumption | exact fun h => absurd rfl h | exact fun h => absurd h (by decide) | omega) (show T3A (T3F ((w14)) ((u5_25)) (a1) tb) ((z97)) ((y98)) ((y100)) ((y61_5_25)) ((w61_35)) ((w61_36)) ((w61_37)) ((w61_34)) by assumption))
          · refine Ew_of (pc' := 86) (fun _ => x_aload_n rfl (rk_o (l61_0) rfl rfl)) ?_
            refine Ew_of (pc' := 88) (fun _ => x_iload rfl (rk_o (l61_4) rfl rfl)) ?_
            refine w_inv H (o := 5) rfl rfl rfl (H.perm 5 rfl) rfl rfl (by rfl) (M266 H (w61_34) (ew61_34) (w61_35) (ew61_35) (w61_36) (ew61_36) (w61_37) (ew61_37) (show inr (x61_4) by omega) (show 0 ≤ (x61_4) ∧ (x61_4) ≤ 2 by omega) (show RT ((w61_35)) ((w61_36)) ((w61_37)) ((w61_34)) by assumption) (fun σ F104 A105 H hS106 hA107 wq109 ewq110 wq111 ewq112 wq113 ewq114 wq115 ewq116 wq117 ewq118 pz108_0 pz108_1 pz108_2 pz108_3 pz108_4 pz108_5 pz108_6 pz108_7 pz108_8 => ⟨rfl, ?_⟩))
            have : ∀ t, 0 ≤ t → t < (x61_4) + 1 → 0 ≤ ((wq111)) t := fun t a b => by by_cases e : t = (x61_4); rw [e]; exact pz108_2; rw [pz108_1 t (by omega)]; exact j61_on t a (by omega)
            have : T3I (T3F ((w14)) ((u5_25)) ((a1)) tb) ((w14)) ((a1)) ((u5_25)) ((v4)) ((x61_4) + 1) ((y61_5_25)) ((wq113)) ((wq115)) ((wq117)) ((wq111)) := T3I_s j61_t (by omega) hmd (fun Z => T1_0 (by omega)) (RTL_K pz108_3 (by omega) rfl pz108_5 pz108_4) pz108_6 pz108_7 pz108_8 pz108_1 rfl
            refine Ew_of (pc' := 328) (fun _ => x_goto rfl rfl) ?_
            have : ∀ t, 0 ≤ t → t < (x61_4) + 1 → 0 ≤ ((wq111)) t := by first | assumption | exact (fun t a b => by by_cases e : t = (x61_4); rw [e]; omega; exact j61_on t a (by omega))
            have : T3I (T3F ((w14)) ((u5_25)) ((a1)) tb) ((w14)) ((a1)) ((u5_25)) ((v4)) ((x61_4) + 1) ((y61_5_25)) ((wq113)) ((wq115)) ((wq117)) ((wq111)) := by first | assumption | exact T3I_3 j61_t (by omega) hmd (by omega) (by rw [hv]; omega) rfl
            exact hc328  _ σ _ _  (rk_o (l61_0) rfl rfl) (rk_o (l61_1) rfl rfl) (rk_o (l61_2) rfl rfl) (rk_o (l61_3) rfl rfl) (rk_o (l61_4) rfl rfl) H (SF_trans (SF_refl) hS106 (any_sub rfl)) (SA_trans (SA_refl) hA107 (any_subA rfl)) (y61_5_25) (((hS106 5 25 rfl).trans (ey61_5_25))) (wq111) (ewq112) (wq113) (ewq114) (wq115) (ewq116) (wq117) (ewq118) (show (y61_5_25) ≤ (y61_5_25) ∧ (y61_5_25) ≤ (a1) by omega) (show RT ((wq113)) ((wq115)) ((wq117)) ((wq111)) by assumption) (show ∀ t, 0 ≤ t → t < (x61_4) + 1 → 0 ≤ ((wq111)) t by assumption) (show T3I (T3F ((w14)) ((u5_25)) ((a1)) tb) ((w14)) ((a1)) ((u5_25)) ((v4)) ((x61_4) + 1) ((y61_5_25)) ((wq113)) ((wq115)) ((wq117)) ((wq111)) by assumption)
    · refine Ew_of (pc' := 51) (fun _ => x_aload_n rfl (rk_o (rk_o (rfl) rfl rfl) rfl rfl)) ?_
      refine Ew_of (pc' := 53) (fun _ => x_bipush (z := 15) rfl (by decide)) ?_
      refine Ew_of (pc' := 54) (fun _ => x_iload_n rfl (rk_o (rk_s) rfl rfl)) ?_
      refine w_inv H (o := 5) rfl rfl rfl (H.perm 5 rfl) rfl rfl (by rfl) (M282 H (show inr (15) by omega) (show inr (u5_25) by omega) (show 0 ≤ (15) ∧ (15) ≤ 20 by omega) (show 0 ≤ (u5_25) ∧ (u5_25) ≤ 65536 by omega) (fun z123 σ F119 A120 H hS121 hA122 y124 ey125 y126 ey127 pz123_0 pz123_1 pz123_2 pz123_3 => ⟨rretB rfl pz123_0, ?_⟩))
      have r128 : (0 : Int) ≤ y124 ∧ y124 ≤ 20 := by have h1 : (0 : Int) ≤ F119 5 30 ∧ F119 5 30 ≤ 20 := H.frng 5 30; rw [show F119 5 30 = y124 from (ey125)] at h1; exact h1
      have r129 : (0 : Int) ≤ y126 ∧ y126 ≤ 65536 := by have h1 : (0 : Int) ≤ F119 5 31 ∧ F119 5 31 ≤ 65536 := H.frng 5 31; rw [show F119 5 31 = y126 from (ey127)] at h1; exact h1
      have : T3A (T3F ((w14)) ((u5_25)) ((a1)) tb) ((z123)) ((y124)) ((y126)) (((u5_25 + 1))) ((w35)) ((w36)) ((w37)) ((w34)) := T3A_f (T3_m (by omega) (by rw [hm_]; omega)) (by decide) (by omega) (by omega) (by omega)
      exact w_ireturn rfl (k (z123) σ _ _ H (SF_trans (SF_upd (SF_refl) rfl) hS121 (any_sub rfl)) (SA_trans (SA_refl) hA122 (any_subA rfl)) ((u5_25 + 1)) ((hS121 5 25 rfl)) (y124) ((ey125)) (y126) ((ey127)) (w34) ((funext (hA122 34 rfl)).trans (ew34)) (w35) ((funext (hA122 35 rfl)).trans (ew35)) (w36) ((funext (hA122 36 rfl)).trans (ew36)) (w37) ((funext (hA122 37 rfl)).trans (ew37)) (show (z123) = 0 ∨ (z123) = 1 by omega) (show (z123) = 1 → (u5_25) ≤ ((u5_25 + 1)) ∧ ((u5_25 + 1)) ≤ a1 by omega) (show RT ((w35)) ((w36)) ((w37)) ((w34)) by assumption) (show (z123) = 1 → ∀ t, 0 ≤ t → t < 3 → 0 ≤ ((w34)) t by first | assumption | exact fun h => absurd rfl h | exact fun h => absurd h (by decide) | omega) (show T3A (T3F ((w14)) ((u5_25)) (a1) tb) ((z123)) ((y124)) ((y126)) (((u5_25 + 1))) ((w35)) ((w36)) ((w37)) ((w34)) by assumption))
  · refine Ew_of (pc' := 14) (fun _ => x_aload_n rfl (rk_o (rfl) rfl rfl)) ?_
    refine Ew_of (pc' := 16) (fun _ => x_bipush (z := 10) rfl (by decide)) ?_
    refine Ew_of (pc' := 17) (fun _ => x_iload_n rfl (rk_o (rfl) rfl rfl)) ?_
    refine w_inv H (o := 5) rfl rfl rfl (H.perm 5 rfl) rfl rfl (by rfl) (M282 H (show inr (10) by omega) (show inr (a1) by omega) (show 0 ≤ (10) ∧ (10) ≤ 20 by omega) (show 0 ≤ (a1) ∧ (a1) ≤ 65536 by omega) (fun z134 σ F130 A131 H hS132 hA133 y135 ey136 y137 ey138 pz134_0 pz134_1 pz134_2 pz134_3 => ⟨rretB rfl pz134_0, ?_⟩))
    have r139 : (0 : Int) ≤ y135 ∧ y135 ≤ 20 := by have h1 : (0 : Int) ≤ F130 5 30 ∧ F130 5 30 ≤ 20 := H.frng 5 30; rw [show F130 5 30 = y135 from (ey136)] at h1; exact h1
    have r140 : (0 : Int) ≤ y137 ∧ y137 ≤ 65536 := by have h1 : (0 : Int) ≤ F130 5 31 ∧ F130 5 31 ≤ 65536 := H.frng 5 31; rw [show F130 5 31 = y137 from (ey138)] at h1; exact h1
    have : T3A (T3F ((w14)) ((u5_25)) ((a1)) tb) ((z134)) ((y135)) ((y137)) ((u5_25)) ((w35)) ((w36)) ((w37)) ((w34)) := T3A_f (T3_e (by omega)) (by decide) (by omega) (by omega) (by omega)
    exact w_ireturn rfl (k (z134) σ _ _ H (SF_trans (SF_refl) hS132 (any_sub rfl)) (SA_trans (SA_refl) hA133 (any_subA rfl)) (u5_25) (((hS132 5 25 rfl).trans (eu5_25))) (y135) ((ey136)) (y137) ((ey138)) (w34) ((funext (hA133 34 rfl)).trans (ew34)) (w35) ((funext (hA133 35 rfl)).trans (ew35)) (w36) ((funext (hA133 36 rfl)).trans (ew36)) (w37) ((funext (hA133 37 rfl)).trans (ew37)) (show (z134) = 0 ∨ (z134) = 1 by omega) (show (z134) = 1 → (u5_25) ≤ (u5_25) ∧ (u5_25) ≤ a1 by omega) (show RT ((w35)) ((w36)) ((w37)) ((w34)) by assumption) (show (z134) = 1 → ∀ t, 0 ≤ t → t < 3 → 0 ≤ ((w34)) t by first | assumption | exact fun h => absurd rfl h | exact fun h => absurd h (by decide) | omega) (show T3A (T3F ((w14)) ((u5_25)) (a1) tb) ((z134)) ((y135)) ((y137)) ((u5_25)) ((w35)) ((w36)) ((w37)) ((w34)) by assumption))
