theorem M293 {σ0 σ : rS} {D N : Nat → Nat} {F : hF} {A : hA} {d c s : Nat} {Q : wQ} (H : HS σ0 σ D N F A) {a1 : Int} (u1_1 : Int) (eu1_1 : F 1 1 = u1_1) (u5_25 : Int) (eu5_25 : F 5 25 = u5_25) (w14 : Int → Int) (ew14 : A 14 = w14) (w34 : Int → Int) (ew34 : A 34 = w34) (w35 : Int → Int) (ew35 : A 35 = w35) (w36 : Int → Int) (ew36 : A 36 = w36) (w37 : Int → Int) (ew37 : A 37 = w37) (tb : Int → Tb) (h0 : inr (a1)) (h1 : 0 ≤ (u5_25) ∧ (u5_25) ≤ (a1) ∧ (a1) ≤ (u1_1)) (h2 : RT ((w35)) ((w36)) ((w37)) ((w34))) (h3 : RTA ((w35)) ((w36)) ((w37)) ((w34)) tb) (k : ∀ (z : Int) σ Fₚ Aₚ, HS σ0 σ D N Fₚ Aₚ → SF [(5, 19), (5, 25), (5, 30), (5, 31)] F Fₚ → SA [33, 34, 35, 36, 37, 39, 41] A Aₚ → ∀ y5_25 : Int, Fₚ 5 25 = y5_25 → ∀ y5_30 : Int, Fₚ 5 30 = y5_30 → ∀ y5_31 : Int, Fₚ 5 31 = y5_31 → ∀ v34 : Int → Int, Aₚ 34 = v34 → ∀ v35 : Int → Int, Aₚ 35 = v35 → ∀ v36 : Int → Int, Aₚ 36 = v36 → ∀ v37 : Int → Int, Aₚ 37 = v37 → ((z) = 0 ∨ (z) = 1) → ((z) = 1 → (u5_25) ≤ (y5_25) ∧ (y5_25) ≤ (a1)) → (RT ((v35)) ((v36)) ((v37)) ((v34))) → ((z) = 1 → ∀ t, 0 ≤ t → t < 3 → 0 ≤ ((v34)) t) → (T3A (T3F ((w14)) ((u5_25)) ((a1)) tb) ((z)) ((y5_30)) ((y5_31)) ((y5_25)) ((v35)) ((v36)) ((v37)) ((v34))) → Q (some (I z)) σ c s) : Ew 293 (d + 4) 0 (rargs 0 [.ref (D 5), I a1]) [] σ c s Q := by
  have r1 : (0 : Int) ≤ u1_1 ∧ u1_1 ≤ 65536 := rngE (show (0 : Int) ≤ F 1 1 ∧ F 1 1 ≤ 65536 from H.frng 1 1) (show F 1 1 = u1_1 from (eu1_1))
  have r2 : (0 : Int) ≤ u5_25 ∧ u5_25 ≤ 65536 := rngE (show (0 : Int) ≤ F 5 25 ∧ F 5 25 ≤ 65536 from H.frng 5 25) (show F 5 25 = u5_25 from (eu5_25))
  refine Ew_of (pcₚ := 1) (fun _ => x_aload_n rfl rfl) ?_
  refine w_gI H (o := 5) (w := u5_25) rfl (H.perm 5 rfl) rfl rfl rfl (fun _ => rfl) (eu5_25) ?_
  refine Ew_of (pcₚ := 5) (fun _ => x_istore_n rfl) ?_
  refine Ew_of (pcₚ := 6) (fun _ => x_aload_n rfl (rk_o (rfl) rfl rfl)) ?_
  refine w_gI H (o := 5) (w := u5_25) rfl (H.perm 5 rfl) rfl rfl rfl (fun _ => rfl) (eu5_25) ?_
  refine Ew_of (pcₚ := 10) (fun _ => x_iload_n rfl (rk_o (rfl) rfl rfl)) ?_
  refine w_icmplt (t := 21) rfl rfl (show inr (u5_25) from q_286 r2) (show inr (a1) from h0) (fun b3 => ?_) (fun b3 => ?_)
  · refine Ew_of (pcₚ := 22) (fun _ => x_aload_n rfl (rk_o (rfl) rfl rfl)) ?_
    refine w_gT H (o := 5) (t := 1) rfl (H.perm 5 rfl) rfl rfl rfl rfl rfl rfl ?_
    refine w_gT H (o := 1) (t := 14) rfl (H.perm 1 rfl) rfl rfl rfl rfl rfl rfl ?_
    refine Ew_of (pcₚ := 29) (fun _ => x_aload_n rfl (rk_o (rfl) rfl rfl)) ?_
    refine w_gI H (o := 5) (w := u5_25) rfl (H.perm 5 rfl) rfl rfl rfl (fun _ => rfl) (eu5_25) ?_
    refine w_lI H (o := 14) (n := 65536) rfl (H.perm 14 rfl) rfl rfl (H.fix 14 rfl rfl) (show 0 ≤ u5_25 ∧ u5_25 < ((65536 : Nat) : Int) from q_1612 b3 h1 r1 r2) (by decide) (fun v4 ev4 qv4 => ?_)
    have qv4 : (0 : Int) ≤ v4 ∧ v4 ≤ 255 := qv4
    have ev4 : (w14) (u5_25) = v4 := (congrFun (ew14) (u5_25)).symm.trans ev4
    have hm_ := ev4
    refine Ew_of (pcₚ := 34) (fun _ => x_istore_n rfl) ?_
    refine Ew_of (pcₚ := 35) (fun _ => x_aload_n rfl (rk_o (rk_o (rfl) rfl rfl) rfl rfl)) ?_
    refine Ew_of (pcₚ := 36) (fun _ => x_dup rfl rfl) ?_
    refine w_gI H (o := 5) (w := u5_25) rfl (H.perm 5 rfl) rfl rfl rfl (fun _ => rfl) (eu5_25) ?_
    refine Ew_of (pcₚ := 40) (fun _ => x_iconst rfl) ?_
    refine w_iadd rfl ?_
    refine w_pI H (o := 5) rfl rfl (H.perm 5 rfl) rfl rfl rfl (fun _ => rfl) rfl (show (0 : Int) ≤ (u5_25 + 1) ∧ (u5_25 + 1) ≤ 65536 from q_1668 b3 h1 r1 r2) (fun σ H => ?_)
    refine Ew_of (pcₚ := 45) (fun _ => x_iload_n rfl rk_s) ?_
    refine Ew_of (pcₚ := 46) (fun _ => x_iconst rfl) ?_
    refine w_irem rfl (show inr (v4) ∧ 0 ≤ v4 from q_515 qv4) (show inr (4) ∧ 0 < 4 from q_1074) ?_
    refine w_ifle (t := 58) rfl rfl (show inr ((v4 % 4)) from q_1075) (fun b5 => ?_) (fun b5 => ?_)
    · refine Ew_of (pcₚ := 59) (fun _ => x_iconst rfl) ?_
      refine Ew_of (pcₚ := 61) (fun _ => x_istore rfl) ?_
      have : ∀ t, (0 : Int) ≤ t → t < 0 → 0 ≤ ((w34)) t := fun t a b => absurd b (by omega)
      have : T3I (T3F ((w14)) ((u5_25)) ((a1)) tb) ((w14)) ((a1)) ((u5_25)) ((v4)) (0) (((u5_25 + 1))) ((w35)) ((w36)) ((w37)) ((w34)) := T3I_0 (by assumption) (by omega) hm_ (by omega) (by omega)
      suffices hl61 : ∀ (m : Nat), ∀ (ls : rO) (σ : rS) (F_61 : hF) (A_61 : hA) (x61_4 : Int), rlook ls 0 = some (.ref (D 5)) → rlook ls 1 = some (I (a1)) → rlook ls 2 = some (I (u5_25)) → rlook ls 3 = some (I (v4)) → rlook ls 4 = some (I (x61_4)) → HS σ0 σ D N F_61 A_61 → SF [(5, 19), (5, 25)] (updF F 5 25 ((u5_25 + 1))) F_61 → SA [33, 34, 35, 36, 37, 39, 41] A A_61 → ∀ y61_5_25 : Int, F_61 5 25 = y61_5_25 → ∀ w61_34 : Int → Int, A_61 34 = w61_34 → ∀ w61_35 : Int → Int, A_61 35 = w61_35 → ∀ w61_36 : Int → Int, A_61 36 = w61_36 → ∀ w61_37 : Int → Int, A_61 37 = w61_37 → (inr (x61_4)) → (0 ≤ (x61_4) ∧ (x61_4) ≤ 3) → (((u5_25 + 1)) ≤ (y61_5_25) ∧ (y61_5_25) ≤ (a1)) → (RT ((w61_35)) ((w61_36)) ((w61_37)) ((w61_34))) → (∀ t, 0 ≤ t → t < (x61_4) → 0 ≤ ((w61_34)) t) → (T3I (T3F ((w14)) ((u5_25)) ((a1)) tb) ((w14)) ((a1)) ((u5_25)) ((v4)) ((x61_4)) ((y61_5_25)) ((w61_35)) ((w61_36)) ((w61_37)) ((w61_34))) → (3 - (x61_4)).toNat = m → Ew 293 (d + 4) 61 ls [] σ c s Q from
        hl61 _ _ σ _ _ (0) (rk_o (rk_o (rk_o (rfl) rfl rfl) rfl rfl) rfl rfl) (rk_o (rk_o (rk_o (rfl) rfl rfl) rfl rfl) rfl rfl) (rk_o (rk_o (rk_s) rfl rfl) rfl rfl) (rk_o (rk_s) rfl rfl) (rk_s) H (SF_refl) (SA_refl) ((u5_25 + 1)) (rfl) (w34) (ew34) (w35) (ew35) (w36) (ew36) (w37) (ew37) (show inr (0) from q_2) (show 0 ≤ (0) ∧ (0) ≤ 3 from q_548) (show ((u5_25 + 1)) ≤ ((u5_25 + 1)) ∧ ((u5_25 + 1)) ≤ (a1) from q_1669 b3) (h2) (show ∀ t, 0 ≤ t → t < (0) → 0 ≤ ((w34)) t by assumption) (show T3I (T3F ((w14)) ((u5_25)) ((a1)) tb) ((w14)) ((a1)) ((u5_25)) ((v4)) ((0)) (((u5_25 + 1))) ((w35)) ((w36)) ((w37)) ((w34)) by assumption) rfl
      as_aux_lemma =>
      intro m
      induction m using Nat.strongRecOn with
      | _ m ih61 =>
        intro ls σ F_61 A_61 x61_4 l61_0 l61_1 l61_2 l61_3 l61_4 H hS_61 hA_61 y61_5_25 ey61_5_25 w61_34 ew61_34 w61_35 ew61_35 w61_36 ew61_36 w61_37 ew61_37 j61_0 j61_1 j61_2 j61_3 j61_4 j61_5 hm61
        have r6 : (0 : Int) ≤ y61_5_25 ∧ y61_5_25 ≤ 65536 := rngE (show (0 : Int) ≤ F_61 5 25 ∧ F_61 5 25 ≤ 65536 from H.frng 5 25) (show F_61 5 25 = y61_5_25 from (ey61_5_25))
        have j61_on : ∀ t, 0 ≤ t → t < (x61_4) → 0 ≤ ((w61_34)) t := by assumption
        have j61_t : T3I (T3F ((w14)) ((u5_25)) ((a1)) tb) ((w14)) ((a1)) ((u5_25)) ((v4)) ((x61_4)) ((y61_5_25)) ((w61_35)) ((w61_36)) ((w61_37)) ((w61_34)) := j61_5
        refine Ew_of (pcₚ := 63) (fun _ => x_iload rfl l61_4) ?_
        refine Ew_of (pcₚ := 64) (fun _ => x_iconst rfl) ?_
        refine w_icmpge (t := 334) rfl rfl (show inr (x61_4) from j61_0) (show inr (3) from q_246) (fun b7 => ?_) (fun b7 => ?_)
        · have : (1 : Int) = 1 → ∀ t, 0 ≤ t → t < 3 → 0 ≤ ((w61_34)) t := fun _ t a b => j61_on t a (by omega)
          refine Ew_of (pcₚ := 335) (fun _ => x_iconst rfl) ?_
          have r8 : (0 : Int) ≤ F 5 30 ∧ F 5 30 ≤ 20 := rngE (show (0 : Int) ≤ F_61 5 30 ∧ F_61 5 30 ≤ 20 from H.frng 5 30) (show F_61 5 30 = F 5 30 from (hS_61 5 30 rfl))
          have r9 : (0 : Int) ≤ F 5 31 ∧ F 5 31 ≤ 65536 := rngE (show (0 : Int) ≤ F_61 5 31 ∧ F_61 5 31 ≤ 65536 from H.frng 5 31) (show F_61 5 31 = F 5 31 from (hS_61 5 31 rfl))
          have : T3A (T3F ((w14)) ((u5_25)) ((a1)) tb) ((1)) ((F 5 30)) ((F 5 31)) ((y61_5_25)) ((w61_35)) ((w61_36)) ((w61_37)) ((w61_34)) := T3I_e j61_t (by omega) (by omega)
          exact w_ireturn rfl (k (1) σ _ _ H (SF_trans (SF_upd (SF_refl) rfl) hS_61 (any_sub rfl)) (SA_trans (SA_refl) hA_61 (any_subA rfl)) (y61_5_25) ((ey61_5_25)) (F 5 30) ((hS_61 5 30 rfl)) (F 5 31) ((hS_61 5 31 rfl)) (w61_34) (ew61_34) (w61_35) (ew61_35) (w61_36) (ew61_36) (w61_37) (ew61_37) (show (1) = 0 ∨ (1) = 1 by first | exact q_49 | omega) (show (1) = 1 → (u5_25) ≤ (y61_5_25) ∧ (y61_5_25) ≤ a1 by first | exact q_1670 j61_2 | omega) (j61_3) (show (1) = 1 → ∀ t, 0 ≤ t → t < 3 → 0 ≤ ((w61_34)) t by first | assumption | exact fun h => absurd rfl h | exact fun h => absurd h (by decide) | omega) (show T3A (T3F ((w14)) ((u5_25)) (a1) tb) ((1)) ((F 5 30)) ((F 5 31)) ((y61_5_25)) ((w61_35)) ((w61_36)) ((w61_37)) ((w61_34)) by assumption))
        · refine Ew_of (pcₚ := 68) (fun _ => x_iload_n rfl l61_3) ?_
          refine Ew_of (pcₚ := 70) (fun _ => x_bipush (z := 6) rfl (by decide)) ?_
          refine Ew_of (pcₚ := 71) (fun _ => x_iconst rfl) ?_
          refine Ew_of (pcₚ := 73) (fun _ => x_iload rfl l61_4) ?_
          refine w_imul rfl ?_
          refine w_isub rfl ?_
          refine w_ishrG rfl ?_
          have g10 : inr (srI (v4) ((6 - (2 * x61_4)))) := toI_inr _
          refine Ew_of (pcₚ := 77) (fun _ => x_iconst rfl) ?_
          refine w_iandG rfl ?_
          have g11 : inr (andI ((srI (v4) ((6 - (2 * x61_4))))) (3)) := toI_inr _
          obtain ⟨q5, hq5⟩ : ∃ q : Int, q = ((andI ((srI (v4) ((6 - (2 * x61_4))))) (3))) := ⟨_, rfl⟩
          rw [← hq5]
          have gq5 : inr q5 := by rw [hq5]; omega
          have hmd : q5 = mdF ((v4)) ((x61_4)) := by rw [hq5]; unfold mdF; rw [andI_3, srI_d (by omega) (by omega)]
          have hm5 : 0 ≤ q5 ∧ q5 ≤ 3 := by rw [hq5, andI_3]; omega
          refine Ew_of (pcₚ := 80) (fun _ => x_istore rfl) ?_
          have hc328 : ∀ (ls : rO) (σ : rS) (F_c328 : hF) (A_c328 : hA) , rlook ls 0 = some (.ref (D 5)) → rlook ls 1 = some (I (a1)) → rlook ls 2 = some (I (u5_25)) → rlook ls 3 = some (I (v4)) → rlook ls 4 = some (I (x61_4)) → HS σ0 σ D N F_c328 A_c328 → SF [(5, 19), (5, 25)] F_61 F_c328 → SA [33, 34, 35, 36, 37, 39, 41] A_61 A_c328 → ∀ yc328_5_25 : Int, F_c328 5 25 = yc328_5_25 → ∀ wc328_34 : Int → Int, A_c328 34 = wc328_34 → ∀ wc328_35 : Int → Int, A_c328 35 = wc328_35 → ∀ wc328_36 : Int → Int, A_c328 36 = wc328_36 → ∀ wc328_37 : Int → Int, A_c328 37 = wc328_37 → ((y61_5_25) ≤ (yc328_5_25) ∧ (yc328_5_25) ≤ (a1)) → (RT ((wc328_35)) ((wc328_36)) ((wc328_37)) ((wc328_34))) → (∀ t, 0 ≤ t → t < (x61_4) + 1 → 0 ≤ ((wc328_34)) t) → (T3I (T3F ((w14)) ((u5_25)) ((a1)) tb) ((w14)) ((a1)) ((u5_25)) ((v4)) ((x61_4) + 1) ((yc328_5_25)) ((wc328_35)) ((wc328_36)) ((wc328_37)) ((wc328_34))) → Ew 293 (d + 4) 328 ls [] σ c s Q := by
           as_aux_lemma =>
            intro  ls σ F_c328 A_c328  lc328_0 lc328_1 lc328_2 lc328_3 lc328_4 H hS_c328 hA_c328 yc328_5_25 eyc328_5_25 wc328_34 ewc328_34 wc328_35 ewc328_35 wc328_36 ewc328_36 wc328_37 ewc328_37 jc328_0 jc328_1 jc328_2 jc328_3
            have r12 : (0 : Int) ≤ yc328_5_25 ∧ yc328_5_25 ≤ 65536 := rngE (show (0 : Int) ≤ F_c328 5 25 ∧ F_c328 5 25 ≤ 65536 from H.frng 5 25) (show F_c328 5 25 = yc328_5_25 from (eyc328_5_25))
            refine Ew_of (pcₚ := 331) (fun _ => x_iinc (len := 3) rfl (lc328_4)) ?_
            refine Ew_of (pcₚ := 61) (fun _ => x_goto rfl rfl) ?_
            exact ih61 _ (msE hm61 q_813 (q_814 b7)) _ σ _ _ ((x61_4 + 1)) (rk_o (lc328_0) rfl rfl) (rk_o (lc328_1) rfl rfl) (rk_o (lc328_2) rfl rfl) (rk_o (lc328_3) rfl rfl) (rk_s) H (SF_trans (hS_61) hS_c328 (any_sub rfl)) (SA_trans (hA_61) hA_c328 (any_subA rfl)) (yc328_5_25) ((eyc328_5_25)) (wc328_34) (ewc328_34) (wc328_35) (ewc328_35) (wc328_36) (ewc328_36) (wc328_37) (ewc328_37) (show inr ((x61_4 + 1)) from q_812 b7 j61_1) (show 0 ≤ ((x61_4 + 1)) ∧ ((x61_4 + 1)) ≤ 3 from q_811 b7 j61_1) (show ((u5_25 + 1)) ≤ (yc328_5_25) ∧ (yc328_5_25) ≤ (a1) from q_1671 j61_2 jc328_0) (jc328_1) (jc328_2) (jc328_3) rfl
          have hlo := lastOf_eq ((x61_4))
          refine Ew_of (pcₚ := 82) (fun _ => x_iload rfl rk_s) ?_
          refine w_ifne (t := 94) rfl rfl (show inr (q5) from gq5) (fun b13 => ?_) (fun b13 => ?_)
          · refine Ew_of (pcₚ := 96) (fun _ => x_iload rfl rk_s) ?_
            refine Ew_of (pcₚ := 97) (fun _ => x_iconst rfl) ?_
            refine w_icmpne (t := 247) rfl rfl (show inr (q5) from gq5) (show inr (1) from q_135) (fun b14 => ?_) (fun b14 => ?_)
            · refine Ew_of (pcₚ := 249) (fun _ => x_iload rfl rk_s) ?_
              refine Ew_of (pcₚ := 250) (fun _ => x_iconst rfl) ?_
              refine w_icmpne (t := 310) rfl rfl (show inr (q5) from gq5) (show inr (2) from q_122) (fun b15 => ?_) (fun b15 => ?_)
              · refine Ew_of (pcₚ := 311) (fun _ => x_aload_n rfl (rk_o (l61_0) rfl rfl)) ?_
                refine w_gT H (o := 5) (t := 34) rfl (H.perm 5 rfl) rfl rfl rfl rfl rfl rfl ?_
                refine Ew_of (pcₚ := 316) (fun _ => x_iload rfl (rk_o (l61_4) rfl rfl)) ?_
                refine w_lI H (o := 34) (n := 3) rfl (H.perm 34 rfl) rfl rfl (H.fix 34 rfl rfl) (show 0 ≤ x61_4 ∧ x61_4 < ((3 : Nat) : Int) from q_1672 b7 j61_1) (by decide) (fun v16 ev16 qv16 => ?_)
                have qv16 : (-1 : Int) ≤ v16 ∧ v16 ≤ 9 := qv16
                have ev16 : (w61_34) (x61_4) = v16 := (congrFun (ew61_34) (x61_4)).symm.trans ev16
                have hv := ev16
                refine w_ifge (t := 328) rfl rfl (show inr (v16) from q_1337 qv16) (fun b17 => ?_) (fun b17 => ?_)
                · have : ∀ t, 0 ≤ t → t < (x61_4) + 1 → 0 ≤ ((w61_34)) t := by first | assumption | exact (fun t a b => by by_cases e : t = (x61_4); rw [e]; omega; exact j61_on t a (by omega))
                  have : T3I (T3F ((w14)) ((u5_25)) ((a1)) tb) ((w14)) ((a1)) ((u5_25)) ((v4)) ((x61_4) + 1) ((y61_5_25)) ((w61_35)) ((w61_36)) ((w61_37)) ((w61_34)) := by first | assumption | exact T3I_3 j61_t (by omega) hmd (by omega) (by rw [hv]; omega) rfl
                  exact hc328  _ σ _ _  (rk_o (l61_0) rfl rfl) (rk_o (l61_1) rfl rfl) (rk_o (l61_2) rfl rfl) (rk_o (l61_3) rfl rfl) (rk_o (l61_4) rfl rfl) H (SF_refl) (SA_refl) (y61_5_25) ((ey61_5_25)) (w61_34) (ew61_34) (w61_35) (ew61_35) (w61_36) (ew61_36) (w61_37) (ew61_37) (show (y61_5_25) ≤ (y61_5_25) ∧ (y61_5_25) ≤ (a1) from q_519 j61_2) (j61_3) (show ∀ t, 0 ≤ t → t < (x61_4) + 1 → 0 ≤ ((w61_34)) t by assumption) (show T3I (T3F ((w14)) ((u5_25)) ((a1)) tb) ((w14)) ((a1)) ((u5_25)) ((v4)) ((x61_4) + 1) ((y61_5_25)) ((w61_35)) ((w61_36)) ((w61_37)) ((w61_34)) by assumption)
                · refine Ew_of (pcₚ := 321) (fun _ => x_aload_n rfl (rk_o (l61_0) rfl rfl)) ?_
                  refine Ew_of (pcₚ := 323) (fun _ => x_bipush (z := 16) rfl (by decide)) ?_
                  refine Ew_of (pcₚ := 324) (fun _ => x_iload_n rfl (rk_o (l61_2) rfl rfl)) ?_
                  refine w_inv H (o := 5) rfl rfl rfl (H.perm 5 rfl) rfl rfl (by rfl) (M282 H (show inr (16) from q_345) (show inr (u5_25) from q_286 r2) (show 0 ≤ (16) ∧ (16) ≤ 20 from q_1673) (show 0 ≤ (u5_25) ∧ (u5_25) ≤ 65536 from r2) (fun z22 σ F18 A19 H hS20 hA21 y23 ey24 y25 ey26 pz22_0 pz22_1 pz22_2 pz22_3 => ⟨rretB rfl pz22_0, ?_⟩))
                  have r27 : (0 : Int) ≤ y23 ∧ y23 ≤ 20 := rngE (show (0 : Int) ≤ F18 5 30 ∧ F18 5 30 ≤ 20 from H.frng 5 30) (show F18 5 30 = y23 from (ey24))
                  have r28 : (0 : Int) ≤ y25 ∧ y25 ≤ 65536 := rngE (show (0 : Int) ≤ F18 5 31 ∧ F18 5 31 ≤ 65536 from H.frng 5 31) (show F18 5 31 = y25 from (ey26))
                  have : T3A (T3F ((w14)) ((u5_25)) ((a1)) tb) ((z22)) ((y23)) ((y25)) ((y61_5_25)) ((w61_35)) ((w61_36)) ((w61_37)) ((w61_34)) := T3I_3f j61_t (by omega) hmd (by omega) (by rw [hv]; omega) (by omega) (by omega) (by omega)
                  exact w_ireturn rfl (k (z22) σ _ _ H (SF_trans (SF_trans (SF_upd (SF_refl) rfl) hS_61 (any_sub rfl)) hS20 (any_sub rfl)) (SA_trans (SA_trans (SA_refl) hA_61 (any_subA rfl)) hA21 (any_subA rfl)) (y61_5_25) (((hS20 5 25 rfl).trans (ey61_5_25))) (y23) ((ey24)) (y25) ((ey26)) (w61_34) ((funext (hA21 34 rfl)).trans (ew61_34)) (w61_35) ((funext (hA21 35 rfl)).trans (ew61_35)) (w61_36) ((funext (hA21 36 rfl)).trans (ew61_36)) (w61_37) ((funext (hA21 37 rfl)).trans (ew61_37)) (show (z22) = 0 ∨ (z22) = 1 from pz22_0) (show (z22) = 1 → (u5_25) ≤ (y61_5_25) ∧ (y61_5_25) ≤ a1 from q_1674 j61_2) (j61_3) (show (z22) = 1 → ∀ t, 0 ≤ t → t < 3 → 0 ≤ ((w61_34)) t by first | assumption | exact fun h => absurd rfl h | exact fun h => absurd h (by decide) | omega) (show T3A (T3F ((w14)) ((u5_25)) (a1) tb) ((z22)) ((y23)) ((y25)) ((y61_5_25)) ((w61_35)) ((w61_36)) ((w61_37)) ((w61_34)) by assumption))
              · refine Ew_of (pcₚ := 254) (fun _ => x_aload_n rfl (rk_o (l61_0) rfl rfl)) ?_
                refine Ew_of (pcₚ := 255) (fun _ => x_aload_n rfl (rk_o (l61_0) rfl rfl)) ?_
                refine w_gI H (o := 5) (w := y61_5_25) rfl (H.perm 5 rfl) rfl rfl rfl (fun _ => rfl) (ey61_5_25) ?_
                refine Ew_of (pcₚ := 259) (fun _ => x_iload_n rfl (rk_o (l61_1) rfl rfl)) ?_
                refine Ew_of (pcₚ := 261) (fun _ => x_iload rfl (rk_o (l61_4) rfl rfl)) ?_
                refine Ew_of (pcₚ := 262) (fun _ => x_iconst rfl) ?_
                have hc272 : ∀ (tc272_0 : Int), ∀ (ls : rO) (σ : rS) (F_c272 : hF) (A_c272 : hA) , rlook ls 0 = some (.ref (D 5)) → rlook ls 1 = some (I (a1)) → rlook ls 2 = some (I (u5_25)) → rlook ls 3 = some (I (v4)) → rlook ls 4 = some (I (x61_4)) → HS σ0 σ D N F_c272 A_c272 → SF [] F_61 F_c272 → SA [] A_61 A_c272 → (inr (tc272_0)) → (((x61_4) ≠ (1) ∧ (tc272_0) = (9)) ∨ ((x61_4) = (1) ∧ (tc272_0) = (8))) → Ew 293 (d + 4) 272 ls [I (tc272_0), I (a1), I (y61_5_25), .ref (D 5)] σ c s Q := by
                 as_aux_lemma =>
                  intro tc272_0 ls σ F_c272 A_c272  lc272_0 lc272_1 lc272_2 lc272_3 lc272_4 H hS_c272 hA_c272   jc272_0 jc272_1
                  refine Ew_of (pcₚ := 274) (fun _ => x_iload rfl lc272_4) ?_
                  refine w_stat24 rfl rfl (by rfl) (M276 H (show inr (x61_4) from j61_0) (show 0 ≤ (x61_4) ∧ (x61_4) ≤ 2 from q_443 b7 j61_1) (fun z33 σ F29 A30 H hS31 hA32 pz33_0 pz33_1 pz33_2 => ⟨rfl, ?_⟩))
                  refine w_inv H (o := 5) rfl rfl rfl (H.perm 5 rfl) rfl rfl (by rfl) (M261 H (w14) ((funext (hA32 14 rfl)).trans ((funext (hA_c272 14 rfl)).trans ((funext (hA_61 14 rfl)).trans (ew14)))) (show inr (y61_5_25) from q_286 r6) (show inr (a1) from h0) (show inr (tc272_0) from jc272_0) (show inr (z33) from pz33_0) (show 0 ≤ (y61_5_25) ∧ (y61_5_25) ≤ 65536 ∧ (a1) ≤ 65536 ∧ 0 ≤ (a1) from q_1676 b3 h1 r1 r6) (show 6 ≤ (tc272_0) ∧ (tc272_0) ≤ 9 ∧ 0 ≤ (z33) ∧ (z33) ≤ 63 from q_1675 jc272_1 pz33_2) (fun z38 σ F34 A35 H hS36 hA37 y39 ey40 wq41 ewq42 pz38_0 pz38_1 pz38_2 pz38_3 => ⟨rfl, ?_⟩))
                  have r43 : (0 : Int) ≤ y39 ∧ y39 ≤ 20 := rngE (show (0 : Int) ≤ F34 5 19 ∧ F34 5 19 ≤ 20 from H.frng 5 19) (show F34 5 19 = y39 from (ey40))
                  refine Ew_of (pcₚ := 282) (fun _ => x_istore rfl) ?_
                  refine Ew_of (pcₚ := 284) (fun _ => x_iload rfl rk_s) ?_
                  refine w_ifge (t := 295) rfl rfl (show inr (z38) from pz38_0) (fun b44 => ?_) (fun b44 => ?_)
                  · have hsh := pz38_2 (by omega)
                    rw [pz33_1] at hsh
                    have hsf := SHA_F pz38_3
                    rw [pz33_1] at hsf
                    have hsf1 := hsf.resolve_left (fun q => by omega)
                    refine Ew_of (pcₚ := 296) (fun _ => x_aload_n rfl (rk_o (lc272_0) rfl rfl)) ?_
                    refine Ew_of (pcₚ := 298) (fun _ => x_iload rfl (rk_o (lc272_4) rfl rfl)) ?_
                    refine w_inv H (o := 5) rfl rfl rfl (H.perm 5 rfl) rfl rfl (by rfl) (M264 H (y39) ((ey40)) (A_61 33) ((funext (hA37 33 rfl)).trans ((funext (hA32 33 rfl)).trans (funext (hA_c272 33 rfl)))) (w61_34) ((funext (hA37 34 rfl)).trans ((funext (hA32 34 rfl)).trans ((funext (hA_c272 34 rfl)).trans (ew61_34)))) (w61_35) ((funext (hA37 35 rfl)).trans ((funext (hA32 35 rfl)).trans ((funext (hA_c272 35 rfl)).trans (ew61_35)))) (w61_36) ((funext (hA37 36 rfl)).trans ((funext (hA32 36 rfl)).trans ((funext (hA_c272 36 rfl)).trans (ew61_36)))) (w61_37) ((funext (hA37 37 rfl)).trans ((funext (hA32 37 rfl)).trans ((funext (hA_c272 37 rfl)).trans (ew61_37)))) (wq41) (ewq42) (show inr (x61_4) from j61_0) (show 0 ≤ (x61_4) ∧ (x61_4) ≤ 2 from q_443 b7 j61_1) (show SH ((wq41)) 0 64 ((y39)) (lastOf ((x61_4))) by assumption) (j61_3) (fun σ F45 A46 H hS47 hA48 wq50 ewq51 wq52 ewq53 wq54 ewq55 wq56 ewq57 wq58 ewq59 pz49_0 pz49_1 pz49_2 pz49_3 pz49_4 pz49_5 pz49_6 pz49_7 pz49_8 pz49_9 => ⟨rfl, ?_⟩))
                    have : ∀ t, 0 ≤ t → t < (x61_4) + 1 → 0 ≤ ((wq52)) t := fun t a b => by by_cases e : t = (x61_4); rw [e]; have := PS_ord pz49_1; omega; rw [pz49_3 t (by omega)]; exact j61_on t a (by omega)
                    refine Ew_of (pcₚ := 302) (fun _ => x_aload_n rfl (rk_o (lc272_0) rfl rfl)) ?_
                    refine Ew_of (pcₚ := 304) (fun _ => x_iload rfl rk_s) ?_
                    refine w_pI H (o := 5) rfl rfl (H.perm 5 rfl) rfl rfl rfl (fun _ => rfl) rfl (show (0 : Int) ≤ z38 ∧ z38 ≤ 65536 from q_1677 b44 h1 pz38_1 pz38_2 r1) (fun σ H => ?_)
                    have : T3I (T3F ((w14)) ((u5_25)) ((a1)) tb) ((w14)) ((a1)) ((u5_25)) ((v4)) ((x61_4) + 1) ((z38)) ((wq54)) ((wq56)) ((wq58)) ((wq52)) := T3I_s j61_t (by omega) hmd (fun Z => by rw [T1_2y (by omega) (by split <;> omega) hsf1.2.1, ← hsf1.2.2.1]) (RTL_S pz49_4 hsh pz49_5 pz49_6 hsf1.2.2.2.2 hsf1.2.2.2.1) pz49_7 pz49_8 pz49_9 pz49_3 rfl
                    refine Ew_of (pcₚ := 328) (fun _ => x_goto rfl rfl) ?_
                    have : ∀ t, 0 ≤ t → t < (x61_4) + 1 → 0 ≤ ((wq52)) t := by first | assumption | exact (fun t a b => by by_cases e : t = (x61_4); rw [e]; omega; exact j61_on t a (by omega))
                    have : T3I (T3F ((w14)) ((u5_25)) ((a1)) tb) ((w14)) ((a1)) ((u5_25)) ((v4)) ((x61_4) + 1) ((z38)) ((wq54)) ((wq56)) ((wq58)) ((wq52)) := by first | assumption | exact T3I_3 j61_t (by omega) hmd (by omega) (by rw [hv]; omega) rfl
                    exact hc328  _ σ _ _  (rk_o (lc272_0) rfl rfl) (rk_o (lc272_1) rfl rfl) (rk_o (lc272_2) rfl rfl) (rk_o (lc272_3) rfl rfl) (rk_o (lc272_4) rfl rfl) H (SF_upd (SF_trans (SF_trans (SF_trans (SF_trans (SF_refl) hS_c272 (any_sub rfl)) hS31 (any_sub rfl)) hS36 (any_sub rfl)) hS47 (any_sub rfl)) rfl) (SA_trans (SA_trans (SA_trans (SA_trans (SA_refl) hA_c272 (any_subA rfl)) hA32 (any_subA rfl)) hA37 (any_subA rfl)) hA48 (any_subA rfl)) (z38) (rfl) (wq52) (ewq53) (wq54) (ewq55) (wq56) (ewq57) (wq58) (ewq59) (show (y61_5_25) ≤ (z38) ∧ (z38) ≤ (a1) from q_1678 b3 b44 h1 pz38_1 pz38_2 r6) (pz49_0) (show ∀ t, 0 ≤ t → t < (x61_4) + 1 → 0 ≤ ((wq52)) t by assumption) (show T3I (T3F ((w14)) ((u5_25)) ((a1)) tb) ((w14)) ((a1)) ((u5_25)) ((v4)) ((x61_4) + 1) ((z38)) ((wq54)) ((wq56)) ((wq58)) ((wq52)) by assumption)
                  · refine Ew_of (pcₚ := 288) (fun _ => x_aload_n rfl (rk_o (lc272_0) rfl rfl)) ?_
                    refine Ew_of (pcₚ := 290) (fun _ => x_bipush (z := 16) rfl (by decide)) ?_
                    refine Ew_of (pcₚ := 291) (fun _ => x_iload_n rfl (rk_o (lc272_2) rfl rfl)) ?_
                    refine w_inv H (o := 5) rfl rfl rfl (H.perm 5 rfl) rfl rfl (by rfl) (M282 H (show inr (16) from q_345) (show inr (u5_25) from q_286 r2) (show 0 ≤ (16) ∧ (16) ≤ 20 from q_1673) (show 0 ≤ (u5_25) ∧ (u5_25) ≤ 65536 from r2) (fun z64 σ F60 A61 H hS62 hA63 y65 ey66 y67 ey68 pz64_0 pz64_1 pz64_2 pz64_3 => ⟨rretB rfl pz64_0, ?_⟩))
                    have r69 : (0 : Int) ≤ y65 ∧ y65 ≤ 20 := rngE (show (0 : Int) ≤ F60 5 30 ∧ F60 5 30 ≤ 20 from H.frng 5 30) (show F60 5 30 = y65 from (ey66))
                    have r70 : (0 : Int) ≤ y67 ∧ y67 ≤ 65536 := rngE (show (0 : Int) ≤ F60 5 31 ∧ F60 5 31 ≤ 65536 from H.frng 5 31) (show F60 5 31 = y67 from (ey68))
                    have hsg := SHA_F pz38_3
                    rw [pz33_1] at hsg
                    have hsg1 := hsg.resolve_right (fun q => by omega)
                    have : T3A (T3F ((w14)) ((u5_25)) ((a1)) tb) ((z64)) ((y65)) ((y67)) ((y61_5_25)) ((w61_35)) ((w61_36)) ((w61_37)) ((w61_34)) := T3I_f j61_t (by omega) hmd (fun Z => T1_2n (by omega) (by split <;> omega) hsg1.2) (by decide) (by omega) (by omega) (by omega)
                    exact w_ireturn rfl (k (z64) σ _ _ H (SF_trans (SF_trans (SF_trans (SF_trans (SF_trans (SF_upd (SF_refl) rfl) hS_61 (any_sub rfl)) hS_c272 (any_sub rfl)) hS31 (any_sub rfl)) hS36 (any_sub rfl)) hS62 (any_sub rfl)) (SA_trans (SA_trans (SA_trans (SA_trans (SA_trans (SA_refl) hA_61 (any_subA rfl)) hA_c272 (any_subA rfl)) hA32 (any_subA rfl)) hA37 (any_subA rfl)) hA63 (any_subA rfl)) (y61_5_25) ((((((hS62 5 25 rfl).trans (hS36 5 25 rfl)).trans (hS31 5 25 rfl)).trans (hS_c272 5 25 rfl)).trans (ey61_5_25))) (y65) ((ey66)) (y67) ((ey68)) (w61_34) ((funext (hA63 34 rfl)).trans ((funext (hA37 34 rfl)).trans ((funext (hA32 34 rfl)).trans ((funext (hA_c272 34 rfl)).trans (ew61_34))))) (w61_35) ((funext (hA63 35 rfl)).trans ((funext (hA37 35 rfl)).trans ((funext (hA32 35 rfl)).trans ((funext (hA_c272 35 rfl)).trans (ew61_35))))) (w61_36) ((funext (hA63 36 rfl)).trans ((funext (hA37 36 rfl)).trans ((funext (hA32 36 rfl)).trans ((funext (hA_c272 36 rfl)).trans (ew61_36))))) (w61_37) ((funext (hA63 37 rfl)).trans ((funext (hA37 37 rfl)).trans ((funext (hA32 37 rfl)).trans ((funext (hA_c272 37 rfl)).trans (ew61_37))))) (show (z64) = 0 ∨ (z64) = 1 from pz64_0) (show (z64) = 1 → (u5_25) ≤ (y61_5_25) ∧ (y61_5_25) ≤ a1 from q_1674 j61_2) (j61_3) (show (z64) = 1 → ∀ t, 0 ≤ t → t < 3 → 0 ≤ ((w61_34)) t by first | assumption | exact fun h => absurd rfl h | exact fun h => absurd h (by decide) | omega) (show T3A (T3F ((w14)) ((u5_25)) (a1) tb) ((z64)) ((y65)) ((y67)) ((y61_5_25)) ((w61_35)) ((w61_36)) ((w61_37)) ((w61_34)) by assumption))
                refine w_icmpne (t := 270) rfl rfl (show inr (x61_4) from j61_0) (show inr (1) from q_135) (fun b71 => ?_) (fun b71 => ?_)
                · refine Ew_of (pcₚ := 272) (fun _ => x_bipush (z := 9) rfl (by decide)) ?_
                  exact hc272 (9) _ σ _ _  (rk_o (l61_0) rfl rfl) (rk_o (l61_1) rfl rfl) (rk_o (l61_2) rfl rfl) (rk_o (l61_3) rfl rfl) (rk_o (l61_4) rfl rfl) H (SF_refl) (SA_refl)   (show inr (9) from q_291) (show ((x61_4) ≠ (1) ∧ (9) = (9)) ∨ ((x61_4) = (1) ∧ (9) = (8)) from q_1679 b71)
                · refine Ew_of (pcₚ := 267) (fun _ => x_bipush (z := 8) rfl (by decide)) ?_
                  refine Ew_of (pcₚ := 272) (fun _ => x_goto rfl rfl) ?_
                  exact hc272 (8) _ σ _ _  (rk_o (l61_0) rfl rfl) (rk_o (l61_1) rfl rfl) (rk_o (l61_2) rfl rfl) (rk_o (l61_3) rfl rfl) (rk_o (l61_4) rfl rfl) H (SF_refl) (SA_refl)   (show inr (8) from q_141) (show ((x61_4) ≠ (1) ∧ (8) = (9)) ∨ ((x61_4) = (1) ∧ (8) = (8)) from q_1680 b71)
            · refine Ew_of (pcₚ := 101) (fun _ => x_aload_n rfl (rk_o (l61_0) rfl rfl)) ?_
              refine w_gI H (o := 5) (w := y61_5_25) rfl (H.perm 5 rfl) rfl rfl rfl (fun _ => rfl) (ey61_5_25) ?_
              refine Ew_of (pcₚ := 105) (fun _ => x_iload_n rfl (rk_o (l61_1) rfl rfl)) ?_
              refine w_icmplt (t := 116) rfl rfl (show inr (y61_5_25) from q_286 r6) (show inr (a1) from h0) (fun b72 => ?_) (fun b72 => ?_)
              · refine Ew_of (pcₚ := 117) (fun _ => x_aload_n rfl (rk_o (l61_0) rfl rfl)) ?_
                refine w_gT H (o := 5) (t := 1) rfl (H.perm 5 rfl) rfl rfl rfl rfl rfl rfl ?_
                refine w_gT H (o := 1) (t := 14) rfl (H.perm 1 rfl) rfl rfl rfl rfl rfl rfl ?_
                refine Ew_of (pcₚ := 124) (fun _ => x_aload_n rfl (rk_o (l61_0) rfl rfl)) ?_
                refine w_gI H (o := 5) (w := y61_5_25) rfl (H.perm 5 rfl) rfl rfl rfl (fun _ => rfl) (ey61_5_25) ?_
                refine w_lI H (o := 14) (n := 65536) rfl (H.perm 14 rfl) rfl rfl (H.fix 14 rfl rfl) (show 0 ≤ y61_5_25 ∧ y61_5_25 < ((65536 : Nat) : Int) from q_1681 b72 h1 r1 r6) (by decide) (fun v73 ev73 qv73 => ?_)
                have qv73 : (0 : Int) ≤ v73 ∧ v73 ≤ 255 := qv73
                have ev73 : (w14) (y61_5_25) = v73 := (congrFun ((funext (hA_61 14 rfl)).trans (ew14)) (y61_5_25)).symm.trans ev73
                have hs6 := ev73
                refine Ew_of (pcₚ := 130) (fun _ => x_istore rfl) ?_
                refine Ew_of (pcₚ := 131) (fun _ => x_aload_n rfl (rk_o (rk_o (l61_0) rfl rfl) rfl rfl)) ?_
                refine Ew_of (pcₚ := 132) (fun _ => x_dup rfl rfl) ?_
                refine w_gI H (o := 5) (w := y61_5_25) rfl (H.perm 5 rfl) rfl rfl rfl (fun _ => rfl) (ey61_5_25) ?_
                refine Ew_of (pcₚ := 136) (fun _ => x_iconst rfl) ?_
                refine w_iadd rfl ?_
                refine w_pI H (o := 5) rfl rfl (H.perm 5 rfl) rfl rfl rfl (fun _ => rfl) rfl (show (0 : Int) ≤ (y61_5_25 + 1) ∧ (y61_5_25 + 1) ≤ 65536 from q_1682 b72 h1 r1 r6) (fun σ H => ?_)
                refine Ew_of (pcₚ := 142) (fun _ => x_iload rfl rk_s) ?_
                refine Ew_of (pcₚ := 144) (fun _ => x_iload rfl (rk_o (rk_o (l61_4) rfl rfl) rfl rfl)) ?_
                refine w_stat24 rfl rfl (by rfl) (M276 H (show inr (x61_4) from j61_0) (show 0 ≤ (x61_4) ∧ (x61_4) ≤ 2 from q_443 b7 j61_1) (fun z78 σ F74 A75 H hS76 hA77 pz78_0 pz78_1 pz78_2 => ⟨rfl, ?_⟩))
                refine w_icmple (t := 158) rfl rfl (show inr (v73) from q_299 qv73) (show inr (z78) from pz78_0) (fun b79 => ?_) (fun b79 => ?_)
                · have : RT (upd1 ((w61_35)) (512 * (x61_4)) ((v73))) (upd1 ((w61_36)) (512 * (x61_4)) 0) (upd1 ((w61_37)) (512 * (x61_4)) 0) (upd1 ((w61_34)) ((x61_4)) 0) := RT_one (by assumption) (by omega) (by omega)
                  have : ∀ t, 0 ≤ t → t < (x61_4) + 1 → 0 ≤ (upd1 ((w61_34)) ((x61_4)) 0) t := fun t a b => by by_cases e : t = (x61_4); rw [e, upd1_s]; omega; rw [upd1_o e]; exact j61_on t a (by omega)
                  refine Ew_of (pcₚ := 159) (fun _ => x_aload_n rfl (rk_o (rk_o (l61_0) rfl rfl) rfl rfl)) ?_
                  refine w_gT H (o := 5) (t := 34) rfl (H.perm 5 rfl) rfl rfl rfl rfl rfl rfl ?_
                  refine Ew_of (pcₚ := 164) (fun _ => x_iload rfl (rk_o (rk_o (l61_4) rfl rfl) rfl rfl)) ?_
                  refine Ew_of (pcₚ := 165) (fun _ => x_iconst rfl) ?_
                  refine w_sI H (o := 34) (n := 3) rfl (H.perm 34 rfl) rfl rfl (H.fix 34 rfl rfl) (show 0 ≤ x61_4 ∧ x61_4 < ((3 : Nat) : Int) from q_1672 b7 j61_1) (by decide) (show (-1 : Int) ≤ 0 ∧ 0 ≤ 9 from q_1683) (fun σ H => ?_)
                  refine Ew_of (pcₚ := 167) (fun _ => x_iconst rfl) ?_
                  refine Ew_of (pcₚ := 169) (fun _ => x_istore rfl) ?_
                  suffices hl169 : ∀ (m : Nat), ∀ (ls : rO) (σ : rS) (F_169 : hF) (A_169 : hA) (x169_7 : Int), rlook ls 0 = some (.ref (D 5)) → rlook ls 1 = some (I (a1)) → rlook ls 2 = some (I (u5_25)) → rlook ls 3 = some (I (v4)) → rlook ls 4 = some (I (x61_4)) → rlook ls 6 = some (I (v73)) → rlook ls 7 = some (I (x169_7)) → HS σ0 σ D N F_169 A_169 → SF [] F74 F_169 → SA [33] (updA A75 34 (x61_4) (0)) A_169 → (inr (x169_7)) → ((0) ≤ (x169_7)) → ((x169_7) ≤ (0) ∨ (x169_7) ≤ ((64))) → (((64)) - (x169_7)).toNat = m → Ew 293 (d + 4) 169 ls [] σ c s Q from
                    hl169 _ _ σ _ _ (0) (rk_o (rk_o (rk_o (l61_0) rfl rfl) rfl rfl) rfl rfl) (rk_o (rk_o (rk_o (l61_1) rfl rfl) rfl rfl) rfl rfl) (rk_o (rk_o (rk_o (l61_2) rfl rfl) rfl rfl) rfl rfl) (rk_o (rk_o (rk_o (l61_3) rfl rfl) rfl rfl) rfl rfl) (rk_o (rk_o (rk_o (l61_4) rfl rfl) rfl rfl) rfl rfl) (rk_o (rk_s) rfl rfl) (rk_s) H (SF_refl) (SA_refl)   (show inr (0) from q_2) (show (0) ≤ (0) from q_1) (show (0) ≤ (0) ∨ (0) ≤ ((64)) from q_1339) rfl
                  as_aux_lemma =>
                  intro m
                  induction m using Nat.strongRecOn with
                  | _ m ih169 =>
                    intro ls σ F_169 A_169 x169_7 l169_0 l169_1 l169_2 l169_3 l169_4 l169_6 l169_7 H hS_169 hA_169   j169_0 j169_1 j169_2 hm169
                    refine Ew_of (pcₚ := 171) (fun _ => x_iload rfl l169_7) ?_
                    refine Ew_of (pcₚ := 173) (fun _ => x_bipush (z := 64) rfl (by decide)) ?_
                    refine w_icmpge (t := 207) rfl rfl (show inr (x169_7) from j169_0) (show inr (64) from q_151) (fun b80 => ?_) (fun b80 => ?_)
                    · refine Ew_of (pcₚ := 208) (fun _ => x_aload_n rfl l169_0) ?_
                      refine w_gT H (o := 5) (t := 35) rfl (H.perm 5 rfl) rfl rfl rfl rfl rfl rfl ?_
                      refine Ew_of (pcₚ := 214) (fun _ => x_sipush (z := 512) rfl (by decide)) ?_
                      refine Ew_of (pcₚ := 216) (fun _ => x_iload rfl l169_4) ?_
                      refine w_imul rfl ?_
                      refine Ew_of (pcₚ := 219) (fun _ => x_iload rfl l169_6) ?_
                      refine w_sI H (o := 35) (n := 1536) rfl (H.perm 35 rfl) rfl rfl (H.fix 35 rfl rfl) (show 0 ≤ (512 * x61_4) ∧ (512 * x61_4) < ((1536 : Nat) : Int) from q_1685 b7 j61_1) (by decide) (show (-1 : Int) ≤ v73 ∧ v73 ≤ 63 from q_1684 b79 pz78_2 qv73) (fun σ H => ?_)
                      refine Ew_of (pcₚ := 221) (fun _ => x_aload_n rfl l169_0) ?_
                      refine w_gT H (o := 5) (t := 36) rfl (H.perm 5 rfl) rfl rfl rfl rfl rfl rfl ?_
                      refine Ew_of (pcₚ := 227) (fun _ => x_sipush (z := 512) rfl (by decide)) ?_
                      refine Ew_of (pcₚ := 229) (fun _ => x_iload rfl l169_4) ?_
                      refine w_imul rfl ?_
                      refine Ew_of (pcₚ := 231) (fun _ => x_iconst rfl) ?_
                      refine w_sI H (o := 36) (n := 1536) rfl (H.perm 36 rfl) rfl rfl (H.fix 36 rfl rfl) (show 0 ≤ (512 * x61_4) ∧ (512 * x61_4) < ((1536 : Nat) : Int) from q_1685 b7 j61_1) (by decide) (show (0 : Int) ≤ 0 ∧ 0 ≤ 9 from q_1686) (fun σ H => ?_)
                      refine Ew_of (pcₚ := 233) (fun _ => x_aload_n rfl l169_0) ?_
                      refine w_gT H (o := 5) (t := 37) rfl (H.perm 5 rfl) rfl rfl rfl rfl rfl rfl ?_
                      refine Ew_of (pcₚ := 239) (fun _ => x_sipush (z := 512) rfl (by decide)) ?_
                      refine Ew_of (pcₚ := 241) (fun _ => x_iload rfl l169_4) ?_
                      refine w_imul rfl ?_
                      refine Ew_of (pcₚ := 243) (fun _ => x_iconst rfl) ?_
                      refine w_sI H (o := 37) (n := 1536) rfl (H.perm 37 rfl) rfl rfl (H.fix 37 rfl rfl) (show 0 ≤ (512 * x61_4) ∧ (512 * x61_4) < ((1536 : Nat) : Int) from q_1685 b7 j61_1) (by decide) (show (0 : Int) ≤ 0 ∧ 0 ≤ 511 from q_1687) (fun σ H => ?_)
                      have : T3I (T3F ((w14)) ((u5_25)) ((a1)) tb) ((w14)) ((a1)) ((u5_25)) ((v4)) ((x61_4) + 1) (((y61_5_25 + 1))) ((upd1 (w61_35) ((512 * x61_4)) (v73))) ((upd1 (w61_36) ((512 * x61_4)) (0))) ((upd1 (w61_37) ((512 * x61_4)) (0))) ((upd1 (w61_34) (x61_4) (0))) := T3I_s j61_t (by omega) hmd (fun Z => T1_1y (by omega) (by omega) hs6 (by omega)) (RTL_1 (by omega) upd1_s upd1_s upd1_s upd1_s) (FRM_upd FRM_refl (by omega) (by omega)) (FRM_upd FRM_refl (by omega) (by omega)) (FRM_upd FRM_refl (by omega) (by omega)) (FRM_upd FRM_refl (by omega) (by omega)) rfl
                      refine Ew_of (pcₚ := 328) (fun _ => x_goto rfl rfl) ?_
                      have : ∀ t, 0 ≤ t → t < (x61_4) + 1 → 0 ≤ ((upd1 (w61_34) (x61_4) (0))) t := by first | assumption | exact (fun t a b => by by_cases e : t = (x61_4); rw [e]; omega; exact j61_on t a (by omega))
                      have : T3I (T3F ((w14)) ((u5_25)) ((a1)) tb) ((w14)) ((a1)) ((u5_25)) ((v4)) ((x61_4) + 1) (((y61_5_25 + 1))) ((upd1 (w61_35) ((512 * x61_4)) (v73))) ((upd1 (w61_36) ((512 * x61_4)) (0))) ((upd1 (w61_37) ((512 * x61_4)) (0))) ((upd1 (w61_34) (x61_4) (0))) := by first | assumption | exact T3I_3 j61_t (by omega) hmd (by omega) (by rw [hv]; omega) rfl
                      exact hc328  _ σ _ _  (l169_0) (l169_1) (l169_2) (l169_3) (l169_4) H (SF_trans (SF_trans (SF_upd (SF_refl) rfl) hS76 (any_sub rfl)) hS_169 (any_sub rfl)) (SA_upd (SA_upd (SA_upd (SA_trans (SA_upd (SA_trans (SA_refl) hA77 (any_subA rfl)) rfl) hA_169 (any_subA rfl)) rfl) rfl) rfl) ((y61_5_25 + 1)) (((hS_169 5 25 rfl).trans (hS76 5 25 rfl))) (upd1 (w61_34) (x61_4) (0)) ((funext (hA_169 34 rfl)).trans (congrArg (fun q => upd1 q (x61_4) (0)) ((funext (hA77 34 rfl)).trans (ew61_34)))) (upd1 (w61_35) ((512 * x61_4)) (v73)) (congrArg (fun q => upd1 q ((512 * x61_4)) (v73)) ((funext (hA_169 35 rfl)).trans ((funext (hA77 35 rfl)).trans (ew61_35)))) (upd1 (w61_36) ((512 * x61_4)) (0)) (congrArg (fun q => upd1 q ((512 * x61_4)) (0)) ((funext (hA_169 36 rfl)).trans ((funext (hA77 36 rfl)).trans (ew61_36)))) (upd1 (w61_37) ((512 * x61_4)) (0)) (congrArg (fun q => upd1 q ((512 * x61_4)) (0)) ((funext (hA_169 37 rfl)).trans ((funext (hA77 37 rfl)).trans (ew61_37)))) (show (y61_5_25) ≤ ((y61_5_25 + 1)) ∧ ((y61_5_25 + 1)) ≤ (a1) from q_1688 b72) (show RT ((upd1 (w61_35) ((512 * x61_4)) (v73))) ((upd1 (w61_36) ((512 * x61_4)) (0))) ((upd1 (w61_37) ((512 * x61_4)) (0))) ((upd1 (w61_34) (x61_4) (0))) by assumption) (show ∀ t, 0 ≤ t → t < (x61_4) + 1 → 0 ≤ ((upd1 (w61_34) (x61_4) (0))) t by assumption) (show T3I (T3F ((w14)) ((u5_25)) ((a1)) tb) ((w14)) ((a1)) ((u5_25)) ((v4)) ((x61_4) + 1) (((y61_5_25 + 1))) ((upd1 (w61_35) ((512 * x61_4)) (v73))) ((upd1 (w61_36) ((512 * x61_4)) (0))) ((upd1 (w61_37) ((512 * x61_4)) (0))) ((upd1 (w61_34) (x61_4) (0))) by assumption)
                    · refine Ew_of (pcₚ := 177) (fun _ => x_aload_n rfl l169_0) ?_
                      refine w_gT H (o := 5) (t := 33) rfl (H.perm 5 rfl) rfl rfl rfl rfl rfl rfl ?_
                      refine Ew_of (pcₚ := 182) (fun _ => x_bipush (z := 64) rfl (by decide)) ?_
                      refine Ew_of (pcₚ := 184) (fun _ => x_iload rfl l169_4) ?_
                      refine w_imul rfl ?_
                      refine Ew_of (pcₚ := 187) (fun _ => x_iload rfl l169_7) ?_
                      refine w_iadd rfl ?_
                      refine Ew_of (pcₚ := 190) (fun _ => x_iload rfl l169_7) ?_
                      refine Ew_of (pcₚ := 192) (fun _ => x_iload rfl l169_6) ?_
                      refine w_icmpne (t := 199) rfl rfl (show inr (x169_7) from j169_0) (show inr (v73) from q_299 qv73) (fun b81 => ?_) (fun b81 => ?_)
                      · refine Ew_of (pcₚ := 200) (fun _ => x_iconst rfl) ?_
                        refine w_sI H (o := 33) (n := 192) rfl (H.perm 33 rfl) rfl rfl (H.fix 33 rfl rfl) (show 0 ≤ ((64 * x61_4) + x169_7) ∧ ((64 * x61_4) + x169_7) < ((192 : Nat) : Int) from q_1690 b7 b80 j169_1 j61_1) (by decide) (show (-1 : Int) ≤ 0 ∧ 0 ≤ 512 from q_1689) (fun σ H => ?_)
                        refine Ew_of (pcₚ := 204) (fun _ => x_iinc (len := 3) rfl (l169_7)) ?_
                        refine Ew_of (pcₚ := 169) (fun _ => x_goto rfl rfl) ?_
                        exact ih169 _ (msE hm169 q_1344 (q_1345 b80)) _ σ _ _ ((x169_7 + 1)) (rk_o (l169_0) rfl rfl) (rk_o (l169_1) rfl rfl) (rk_o (l169_2) rfl rfl) (rk_o (l169_3) rfl rfl) (rk_o (l169_4) rfl rfl) (rk_o (l169_6) rfl rfl) (rk_s) H (hS_169) (SA_upd (hA_169) rfl)   (show inr ((x169_7 + 1)) from q_1343 b80 j169_1) (show (0) ≤ ((x169_7 + 1)) from q_14 j169_1) (show ((x169_7 + 1)) ≤ (0) ∨ ((x169_7 + 1)) ≤ ((64)) from q_1342 b80) rfl
                      · refine Ew_of (pcₚ := 196) (fun _ => x_iconst rfl) ?_
                        refine Ew_of (pcₚ := 200) (fun _ => x_goto rfl rfl) ?_
                        refine w_sI H (o := 33) (n := 192) rfl (H.perm 33 rfl) rfl rfl (H.fix 33 rfl rfl) (show 0 ≤ ((64 * x61_4) + x169_7) ∧ ((64 * x61_4) + x169_7) < ((192 : Nat) : Int) from q_1690 b7 b80 j169_1 j61_1) (by decide) (show (-1 : Int) ≤ 1 ∧ 1 ≤ 512 from q_1691) (fun σ H => ?_)
                        refine Ew_of (pcₚ := 204) (fun _ => x_iinc (len := 3) rfl (l169_7)) ?_
                        refine Ew_of (pcₚ := 169) (fun _ => x_goto rfl rfl) ?_
                        exact ih169 _ (msE hm169 q_1344 (q_1345 b80)) _ σ _ _ ((x169_7 + 1)) (rk_o (l169_0) rfl rfl) (rk_o (l169_1) rfl rfl) (rk_o (l169_2) rfl rfl) (rk_o (l169_3) rfl rfl) (rk_o (l169_4) rfl rfl) (rk_o (l169_6) rfl rfl) (rk_s) H (hS_169) (SA_upd (hA_169) rfl)   (show inr ((x169_7 + 1)) from q_1343 b80 j169_1) (show (0) ≤ ((x169_7 + 1)) from q_14 j169_1) (show ((x169_7 + 1)) ≤ (0) ∨ ((x169_7 + 1)) ≤ ((64)) from q_1342 b80) rfl
                · refine Ew_of (pcₚ := 151) (fun _ => x_aload_n rfl (rk_o (rk_o (l61_0) rfl rfl) rfl rfl)) ?_
                  refine Ew_of (pcₚ := 153) (fun _ => x_bipush (z := 16) rfl (by decide)) ?_
                  refine Ew_of (pcₚ := 154) (fun _ => x_iload_n rfl (rk_o (rk_o (l61_2) rfl rfl) rfl rfl)) ?_
                  refine w_inv H (o := 5) rfl rfl rfl (H.perm 5 rfl) rfl rfl (by rfl) (M282 H (show inr (16) from q_345) (show inr (u5_25) from q_286 r2) (show 0 ≤ (16) ∧ (16) ≤ 20 from q_1673) (show 0 ≤ (u5_25) ∧ (u5_25) ≤ 65536 from r2) (fun z86 σ F82 A83 H hS84 hA85 y87 ey88 y89 ey90 pz86_0 pz86_1 pz86_2 pz86_3 => ⟨rretB rfl pz86_0, ?_⟩))
                  have r91 : (0 : Int) ≤ y87 ∧ y87 ≤ 20 := rngE (show (0 : Int) ≤ F82 5 30 ∧ F82 5 30 ≤ 20 from H.frng 5 30) (show F82 5 30 = y87 from (ey88))
                  have r92 : (0 : Int) ≤ y89 ∧ y89 ≤ 65536 := rngE (show (0 : Int) ≤ F82 5 31 ∧ F82 5 31 ≤ 65536 from H.frng 5 31) (show F82 5 31 = y89 from (ey90))
                  have : T3A (T3F ((w14)) ((u5_25)) ((a1)) tb) ((z86)) ((y87)) ((y89)) (((y61_5_25 + 1))) ((w61_35)) ((w61_36)) ((w61_37)) ((w61_34)) := T3I_f j61_t (by omega) hmd (fun Z => T1_1s (by omega) (by omega) hs6 (by omega)) (by decide) (by omega) (by omega) (by omega)
                  exact w_ireturn rfl (k (z86) σ _ _ H (SF_trans (SF_trans (SF_upd (SF_trans (SF_upd (SF_refl) rfl) hS_61 (any_sub rfl)) rfl) hS76 (any_sub rfl)) hS84 (any_sub rfl)) (SA_trans (SA_trans (SA_trans (SA_refl) hA_61 (any_subA rfl)) hA77 (any_subA rfl)) hA85 (any_subA rfl)) ((y61_5_25 + 1)) (((hS84 5 25 rfl).trans (hS76 5 25 rfl))) (y87) ((ey88)) (y89) ((ey90)) (w61_34) ((funext (hA85 34 rfl)).trans ((funext (hA77 34 rfl)).trans (ew61_34))) (w61_35) ((funext (hA85 35 rfl)).trans ((funext (hA77 35 rfl)).trans (ew61_35))) (w61_36) ((funext (hA85 36 rfl)).trans ((funext (hA77 36 rfl)).trans (ew61_36))) (w61_37) ((funext (hA85 37 rfl)).trans ((funext (hA77 37 rfl)).trans (ew61_37))) (show (z86) = 0 ∨ (z86) = 1 from pz86_0) (show (z86) = 1 → (u5_25) ≤ ((y61_5_25 + 1)) ∧ ((y61_5_25 + 1)) ≤ a1 from q_1692 b72 j61_2) (j61_3) (show (z86) = 1 → ∀ t, 0 ≤ t → t < 3 → 0 ≤ ((w61_34)) t by first | assumption | exact fun h => absurd rfl h | exact fun h => absurd h (by decide) | omega) (show T3A (T3F ((w14)) ((u5_25)) (a1) tb) ((z86)) ((y87)) ((y89)) (((y61_5_25 + 1))) ((w61_35)) ((w61_36)) ((w61_37)) ((w61_34)) by assumption))
              · refine Ew_of (pcₚ := 109) (fun _ => x_aload_n rfl (rk_o (l61_0) rfl rfl)) ?_
                refine Ew_of (pcₚ := 111) (fun _ => x_bipush (z := 10) rfl (by decide)) ?_
                refine Ew_of (pcₚ := 112) (fun _ => x_iload_n rfl (rk_o (l61_1) rfl rfl)) ?_
                refine w_inv H (o := 5) rfl rfl rfl (H.perm 5 rfl) rfl rfl (by rfl) (M282 H (show inr (10) from q_746) (show inr (a1) from h0) (show 0 ≤ (10) ∧ (10) ≤ 20 from q_1633) (show 0 ≤ (a1) ∧ (a1) ≤ 65536 from q_1693 b3 b72 h1 r6) (fun z97 σ F93 A94 H hS95 hA96 y98 ey99 y100 ey101 pz97_0 pz97_1 pz97_2 pz97_3 => ⟨rretB rfl pz97_0, ?_⟩))
                have r102 : (0 : Int) ≤ y98 ∧ y98 ≤ 20 := rngE (show (0 : Int) ≤ F93 5 30 ∧ F93 5 30 ≤ 20 from H.frng 5 30) (show F93 5 30 = y98 from (ey99))
                have r103 : (0 : Int) ≤ y100 ∧ y100 ≤ 65536 := rngE (show (0 : Int) ≤ F93 5 31 ∧ F93 5 31 ≤ 65536 from H.frng 5 31) (show F93 5 31 = y100 from (ey101))
                have : T3A (T3F ((w14)) ((u5_25)) ((a1)) tb) ((z97)) ((y98)) ((y100)) ((y61_5_25)) ((w61_35)) ((w61_36)) ((w61_37)) ((w61_34)) := T3I_f j61_t (by omega) hmd (fun Z => T1_1e (by omega) (by omega)) (by decide) (by omega) (by omega) (by omega)
                exact w_ireturn rfl (k (z97) σ _ _ H (SF_trans (SF_trans (SF_upd (SF_refl) rfl) hS_61 (any_sub rfl)) hS95 (any_sub rfl)) (SA_trans (SA_trans (SA_refl) hA_61 (any_subA rfl)) hA96 (any_subA rfl)) (y61_5_25) (((hS95 5 25 rfl).trans (ey61_5_25))) (y98) ((ey99)) (y100) ((ey101)) (w61_34) ((funext (hA96 34 rfl)).trans (ew61_34)) (w61_35) ((funext (hA96 35 rfl)).trans (ew61_35)) (w61_36) ((funext (hA96 36 rfl)).trans (ew61_36)) (w61_37) ((funext (hA96 37 rfl)).trans (ew61_37)) (show (z97) = 0 ∨ (z97) = 1 from pz97_0) (show (z97) = 1 → (u5_25) ≤ (y61_5_25) ∧ (y61_5_25) ≤ a1 from q_1674 j61_2) (j61_3) (show (z97) = 1 → ∀ t, 0 ≤ t → t < 3 → 0 ≤ ((w61_34)) t by first | assumption | exact fun h => absurd rfl h | exact fun h => absurd h (by decide) | omega) (show T3A (T3F ((w14)) ((u5_25)) (a1) tb) ((z97)) ((y98)) ((y100)) ((y61_5_25)) ((w61_35)) ((w61_36)) ((w61_37)) ((w61_34)) by assumption))
          · refine Ew_of (pcₚ := 86) (fun _ => x_aload_n rfl (rk_o (l61_0) rfl rfl)) ?_
            refine Ew_of (pcₚ := 88) (fun _ => x_iload rfl (rk_o (l61_4) rfl rfl)) ?_
            refine w_inv H (o := 5) rfl rfl rfl (H.perm 5 rfl) rfl rfl (by rfl) (M266 H (w61_34) (ew61_34) (w61_35) (ew61_35) (w61_36) (ew61_36) (w61_37) (ew61_37) (show inr (x61_4) from j61_0) (show 0 ≤ (x61_4) ∧ (x61_4) ≤ 2 from q_443 b7 j61_1) (j61_3) (fun σ F104 A105 H hS106 hA107 wq109 ewq110 wq111 ewq112 wq113 ewq114 wq115 ewq116 wq117 ewq118 pz108_0 pz108_1 pz108_2 pz108_3 pz108_4 pz108_5 pz108_6 pz108_7 pz108_8 => ⟨rfl, ?_⟩))
            have : ∀ t, 0 ≤ t → t < (x61_4) + 1 → 0 ≤ ((wq111)) t := fun t a b => by by_cases e : t = (x61_4); rw [e]; exact pz108_2; rw [pz108_1 t (by omega)]; exact j61_on t a (by omega)
            have : T3I (T3F ((w14)) ((u5_25)) ((a1)) tb) ((w14)) ((a1)) ((u5_25)) ((v4)) ((x61_4) + 1) ((y61_5_25)) ((wq113)) ((wq115)) ((wq117)) ((wq111)) := T3I_s j61_t (by omega) hmd (fun Z => T1_0 (by omega)) (RTL_K pz108_3 (by omega) rfl pz108_5 pz108_4) pz108_6 pz108_7 pz108_8 pz108_1 rfl
            refine Ew_of (pcₚ := 328) (fun _ => x_goto rfl rfl) ?_
            have : ∀ t, 0 ≤ t → t < (x61_4) + 1 → 0 ≤ ((wq111)) t := by first | assumption | exact (fun t a b => by by_cases e : t = (x61_4); rw [e]; omega; exact j61_on t a (by omega))
            have : T3I (T3F ((w14)) ((u5_25)) ((a1)) tb) ((w14)) ((a1)) ((u5_25)) ((v4)) ((x61_4) + 1) ((y61_5_25)) ((wq113)) ((wq115)) ((wq117)) ((wq111)) := by first | assumption | exact T3I_3 j61_t (by omega) hmd (by omega) (by rw [hv]; omega) rfl
            exact hc328  _ σ _ _  (rk_o (l61_0) rfl rfl) (rk_o (l61_1) rfl rfl) (rk_o (l61_2) rfl rfl) (rk_o (l61_3) rfl rfl) (rk_o (l61_4) rfl rfl) H (SF_trans (SF_refl) hS106 (any_sub rfl)) (SA_trans (SA_refl) hA107 (any_subA rfl)) (y61_5_25) (((hS106 5 25 rfl).trans (ey61_5_25))) (wq111) (ewq112) (wq113) (ewq114) (wq115) (ewq116) (wq117) (ewq118) (show (y61_5_25) ≤ (y61_5_25) ∧ (y61_5_25) ≤ (a1) from q_519 j61_2) (pz108_0) (show ∀ t, 0 ≤ t → t < (x61_4) + 1 → 0 ≤ ((wq111)) t by assumption) (show T3I (T3F ((w14)) ((u5_25)) ((a1)) tb) ((w14)) ((a1)) ((u5_25)) ((v4)) ((x61_4) + 1) ((y61_5_25)) ((wq113)) ((wq115)) ((wq117)) ((wq111)) by assumption)
    · refine Ew_of (pcₚ := 51) (fun _ => x_aload_n rfl (rk_o (rk_o (rfl) rfl rfl) rfl rfl)) ?_
      refine Ew_of (pcₚ := 53) (fun _ => x_bipush (z := 15) rfl (by decide)) ?_
      refine Ew_of (pcₚ := 54) (fun _ => x_iload_n rfl (rk_o (rk_s) rfl rfl)) ?_
      refine w_inv H (o := 5) rfl rfl rfl (H.perm 5 rfl) rfl rfl (by rfl) (M282 H (show inr (15) from q_399) (show inr (u5_25) from q_286 r2) (show 0 ≤ (15) ∧ (15) ≤ 20 from q_1694) (show 0 ≤ (u5_25) ∧ (u5_25) ≤ 65536 from r2) (fun z123 σ F119 A120 H hS121 hA122 y124 ey125 y126 ey127 pz123_0 pz123_1 pz123_2 pz123_3 => ⟨rretB rfl pz123_0, ?_⟩))
      have r128 : (0 : Int) ≤ y124 ∧ y124 ≤ 20 := rngE (show (0 : Int) ≤ F119 5 30 ∧ F119 5 30 ≤ 20 from H.frng 5 30) (show F119 5 30 = y124 from (ey125))
      have r129 : (0 : Int) ≤ y126 ∧ y126 ≤ 65536 := rngE (show (0 : Int) ≤ F119 5 31 ∧ F119 5 31 ≤ 65536 from H.frng 5 31) (show F119 5 31 = y126 from (ey127))
      have : T3A (T3F ((w14)) ((u5_25)) ((a1)) tb) ((z123)) ((y124)) ((y126)) (((u5_25 + 1))) ((w35)) ((w36)) ((w37)) ((w34)) := T3A_f (T3_m (by omega) (by rw [hm_]; omega)) (by decide) (by omega) (by omega) (by omega)
      exact w_ireturn rfl (k (z123) σ _ _ H (SF_trans (SF_upd (SF_refl) rfl) hS121 (any_sub rfl)) (SA_trans (SA_refl) hA122 (any_subA rfl)) ((u5_25 + 1)) ((hS121 5 25 rfl)) (y124) ((ey125)) (y126) ((ey127)) (w34) ((funext (hA122 34 rfl)).trans (ew34)) (w35) ((funext (hA122 35 rfl)).trans (ew35)) (w36) ((funext (hA122 36 rfl)).trans (ew36)) (w37) ((funext (hA122 37 rfl)).trans (ew37)) (show (z123) = 0 ∨ (z123) = 1 from pz123_0) (show (z123) = 1 → (u5_25) ≤ ((u5_25 + 1)) ∧ ((u5_25 + 1)) ≤ a1 from q_1695 b3) (h2) (show (z123) = 1 → ∀ t, 0 ≤ t → t < 3 → 0 ≤ ((w34)) t by first | assumption | exact fun h => absurd rfl h | exact fun h => absurd h (by decide) | omega) (show T3A (T3F ((w14)) ((u5_25)) (a1) tb) ((z123)) ((y124)) ((y126)) (((u5_25 + 1))) ((w35)) ((w36)) ((w37)) ((w34)) by assumption))
  · refine Ew_of (pcₚ := 14) (fun _ => x_aload_n rfl (rk_o (rfl) rfl rfl)) ?_
    refine Ew_of (pcₚ := 16) (fun _ => x_bipush (z := 10) rfl (by decide)) ?_
    refine Ew_of (pcₚ := 17) (fun _ => x_iload_n rfl (rk_o (rfl) rfl rfl)) ?_
    refine w_inv H (o := 5) rfl rfl rfl (H.perm 5 rfl) rfl rfl (by rfl) (M282 H (show inr (10) from q_746) (show inr (a1) from h0) (show 0 ≤ (10) ∧ (10) ≤ 20 from q_1633) (show 0 ≤ (a1) ∧ (a1) ≤ 65536 from q_1667 b3 h1 r2) (fun z134 σ F130 A131 H hS132 hA133 y135 ey136 y137 ey138 pz134_0 pz134_1 pz134_2 pz134_3 => ⟨rretB rfl pz134_0, ?_⟩))
    have r139 : (0 : Int) ≤ y135 ∧ y135 ≤ 20 := rngE (show (0 : Int) ≤ F130 5 30 ∧ F130 5 30 ≤ 20 from H.frng 5 30) (show F130 5 30 = y135 from (ey136))
    have r140 : (0 : Int) ≤ y137 ∧ y137 ≤ 65536 := rngE (show (0 : Int) ≤ F130 5 31 ∧ F130 5 31 ≤ 65536 from H.frng 5 31) (show F130 5 31 = y137 from (ey138))
    have : T3A (T3F ((w14)) ((u5_25)) ((a1)) tb) ((z134)) ((y135)) ((y137)) ((u5_25)) ((w35)) ((w36)) ((w37)) ((w34)) := T3A_f (T3_e (by omega)) (by decide) (by omega) (by omega) (by omega)
    exact w_ireturn rfl (k (z134) σ _ _ H (SF_trans (SF_refl) hS132 (any_sub rfl)) (SA_trans (SA_refl) hA133 (any_subA rfl)) (u5_25) (((hS132 5 25 rfl).trans (eu5_25))) (y135) ((ey136)) (y137) ((ey138)) (w34) ((funext (hA133 34 rfl)).trans (ew34)) (w35) ((funext (hA133 35 rfl)).trans (ew35)) (w36) ((funext (hA133 36 rfl)).trans (ew36)) (w37) ((funext (hA133 37 rfl)).trans (ew37)) (show (z134) = 0 ∨ (z134) = 1 from pz134_0) (show (z134) = 1 → (u5_25) ≤ (u5_25) ∧ (u5_25) ≤ a1 from q_1639 h1) (h2) (show (z134) = 1 → ∀ t, 0 ≤ t → t < 3 → 0 ≤ ((w34)) t by first | assumption | exact fun h => absurd rfl h | exact fun h => absurd h (by decide) | omega) (show T3A (T3F ((w14)) ((u5_25)) (a1) tb) ((z134)) ((y135)) ((y137)) ((u5_25)) ((w35)) ((w36)) ((w37)) ((w34)) by assumption))

