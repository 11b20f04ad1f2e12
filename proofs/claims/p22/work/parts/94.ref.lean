/-- Reader.learn -/
theorem M275b {σ0 σ : rS} {D N : Nat → Nat} {F : hF} {A : hA} {d c s : Nat} {Q : wQ} (H : HS σ0 σ D N F A)  (u5_2 : Int) (eu5_2 : F 5 2 = u5_2) (u5_4 : Int) (eu5_4 : F 5 4 = u5_4) (w27 : Int → Int) (ew27 : A 27 = w27) (w28 : Int → Int) (ew28 : A 28 = w28) (w29 : Int → Int) (ew29 : A 29 = w29) (w30 : Int → Int) (ew30 : A 30 = w30) (w34 : Int → Int) (ew34 : A 34 = w34) (w35 : Int → Int) (ew35 : A 35 = w35) (w36 : Int → Int) (ew36 : A 36 = w36) (w37 : Int → Int) (ew37 : A 37 = w37) (h0 : RT ((w35)) ((w36)) ((w37)) ((w34))) (h1 : DI ((u5_4)) ((w27)) ((w28)) ((w29)) ((w30))) (k : ∀ (z : Int) σ Fₚ Aₚ, HS σ0 σ D N Fₚ Aₚ → SF [(5, 2), (5, 3), (5, 4), (5, 10), (5, 19), (5, 44), (5, 45)] F Fₚ → SA [26, 27, 28, 29, 30, 31, 32, 33, 34, 35, 36, 37, 38, 39, 40, 41, 42, 43, 44] A Aₚ → ∀ y5_2 : Int, Fₚ 5 2 = y5_2 → ∀ y5_4 : Int, Fₚ 5 4 = y5_4 → ∀ v27 : Int → Int, Aₚ 27 = v27 → ∀ v28 : Int → Int, Aₚ 28 = v28 → ∀ v29 : Int → Int, Aₚ 29 = v29 → ∀ v30 : Int → Int, Aₚ 30 = v30 → ∀ v34 : Int → Int, Aₚ 34 = v34 → ∀ v35 : Int → Int, Aₚ 35 = v35 → ∀ v36 : Int → Int, Aₚ 36 = v36 → ∀ v37 : Int → Int, Aₚ 37 = v37 → (inr (z)) → (RT ((v35)) ((v36)) ((v37)) ((v34))) → (DI ((y5_4)) ((v27)) ((v28)) ((v29)) ((v30))) → (0 ≤ (y5_4) ∧ (y5_4) ≤ 1) → ((z) < 0 → (y5_2) = (u5_2)) → Q (some (I z)) σ c s) : Ew 275 (d + 4) 0 (rargs 0 [.ref (D 5)]) [] σ c s Q := by
  have r1 : (0 : Int) ≤ u5_2 ∧ u5_2 ≤ 65536 := rngE (show (0 : Int) ≤ F 5 2 ∧ F 5 2 ≤ 65536 from H.frng 5 2) (show F 5 2 = u5_2 from (eu5_2))
  have r2 : (0 : Int) ≤ u5_4 ∧ u5_4 ≤ 1 := rngE (show (0 : Int) ≤ F 5 4 ∧ F 5 4 ≤ 1 from H.frng 5 4) (show F 5 4 = u5_4 from (eu5_4))
  refine Ew_of (pcₚ := 1) (fun _ => x_iconst rfl) ?_
  refine Ew_of (pcₚ := 2) (fun _ => x_istore_n rfl) ?_
  have r3 : (0 : Int) ≤ F 1 1 ∧ F 1 1 ≤ 65536 := H.frng 1 1
  have hc36 : ∀ (tc36_0 : Int), ∀ (ls : rO) (σ : rS) (F_c36 : hF) (A_c36 : hA) , rlook ls 0 = some (.ref (D 5)) → rlook ls 1 = some (I (0)) → HS σ0 σ D N F_c36 A_c36 → SF [] F F_c36 → SA [] A A_c36 → (inr (tc36_0)) → ((tc36_0) = 0 ∨ (tc36_0) = 1 ∧ 4 ≤ (F 1 1)) → Ew 275 (d + 4) 36 ls [I (tc36_0)] σ c s Q := by
   as_aux_lemma =>
    intro tc36_0 ls σ F_c36 A_c36  lc36_0 lc36_1 H hS_c36 hA_c36   jc36_0 jc36_1
    refine Ew_of (pcₚ := 37) (fun _ => x_istore_n rfl) ?_
    have r4 : (0 : Int) ≤ F 5 10 ∧ F 5 10 ≤ 11 := rngE (show (0 : Int) ≤ F_c36 5 10 ∧ F_c36 5 10 ≤ 11 from H.frng 5 10) (show F_c36 5 10 = F 5 10 from (hS_c36 5 10 rfl))
    have hc247 : ∀ (ls : rO) (σ : rS) (F_c247 : hF) (A_c247 : hA) (xc247_1 : Int), rlook ls 0 = some (.ref (D 5)) → rlook ls 1 = some (I (xc247_1)) → rlook ls 2 = some (I (tc36_0)) → HS σ0 σ D N F_c247 A_c247 → SF [(5, 10), (5, 19), (5, 44), (5, 45)] F_c36 F_c247 → SA [31, 32, 33, 34, 35, 36, 37, 38, 39, 40, 41, 42, 43, 44] A_c36 A_c247 → ∀ yc247_5_10 : Int, F_c247 5 10 = yc247_5_10 → ∀ wc247_31 : Int → Int, A_c247 31 = wc247_31 → ∀ wc247_33 : Int → Int, A_c247 33 = wc247_33 → ∀ wc247_34 : Int → Int, A_c247 34 = wc247_34 → ∀ wc247_35 : Int → Int, A_c247 35 = wc247_35 → ∀ wc247_36 : Int → Int, A_c247 36 = wc247_36 → ∀ wc247_37 : Int → Int, A_c247 37 = wc247_37 → ∀ wc247_38 : Int → Int, A_c247 38 = wc247_38 → (inr (xc247_1)) → (0 ≤ (xc247_1) ∧ (xc247_1) ≤ (F 1 1)) → ((tc36_0) = 1 → 8 ≤ (F 1 1)) → (RT ((wc247_35)) ((wc247_36)) ((wc247_37)) ((wc247_34))) → ((tc36_0) = 1 → CI ((wc247_31)) ((yc247_5_10))) → ((tc36_0) = 1 → PS ((wc247_33)) ((wc247_34)) 0) → ((tc36_0) = 1 → PS ((wc247_33)) ((wc247_34)) 1) → ((tc36_0) = 1 → PS ((wc247_33)) ((wc247_34)) 2) → ((tc36_0) = 1 → 1 ≤ ((wc247_38)) 0 ∧ 1 ≤ ((wc247_38)) 1 ∧ 1 ≤ ((wc247_38)) 2) → Ew 275 (d + 4) 247 ls [] σ c s Q := by
     as_aux_lemma =>
      intro  ls σ F_c247 A_c247 xc247_1 lc247_0 lc247_1 lc247_2 H hS_c247 hA_c247 yc247_5_10 eyc247_5_10 wc247_31 ewc247_31 wc247_33 ewc247_33 wc247_34 ewc247_34 wc247_35 ewc247_35 wc247_36 ewc247_36 wc247_37 ewc247_37 wc247_38 ewc247_38 jc247_0 jc247_1 jc247_2 jc247_3 jc247_4 jc247_5 jc247_6 jc247_7 jc247_8
      have r5 : (0 : Int) ≤ yc247_5_10 ∧ yc247_5_10 ≤ 11 := rngE (show (0 : Int) ≤ F_c247 5 10 ∧ F_c247 5 10 ≤ 11 from H.frng 5 10) (show F_c247 5 10 = yc247_5_10 from (eyc247_5_10))
      have jc247_CI : (tc36_0) = 1 → CI ((wc247_31)) ((yc247_5_10)) := jc247_4
      have jc247_0 : (tc36_0) = 1 → PS ((wc247_33)) ((wc247_34)) 0 := jc247_5
      have jc247_1 : (tc36_0) = 1 → PS ((wc247_33)) ((wc247_34)) 1 := jc247_6
      have jc247_2 : (tc36_0) = 1 → PS ((wc247_33)) ((wc247_34)) 2 := jc247_7
      refine Ew_of (pcₚ := 248) (fun _ => x_aload_n rfl lc247_0) ?_
      refine Ew_of (pcₚ := 249) (fun _ => x_iload_n rfl lc247_2) ?_
      refine w_pI H (o := 5) rfl rfl (H.perm 5 rfl) rfl rfl rfl (fun _ => rfl) (rfit_b (by omega)) (show (0 : Int) ≤ tc36_0 ∧ tc36_0 ≤ 1 from q_1654 jc36_1) (fun σ H => ?_)
      refine Ew_of (pcₚ := 253) (fun _ => x_aload_n rfl lc247_0) ?_
      have hc268 : ∀ (tc268_0 : Int), ∀ (ls : rO) (σ : rS) (F_c268 : hF) (A_c268 : hA) , rlook ls 0 = some (.ref (D 5)) → rlook ls 1 = some (I (xc247_1)) → HS σ0 σ D N F_c268 A_c268 → SF [] (updF F_c247 5 4 (tc36_0)) F_c268 → SA [] A_c247 A_c268 → (inr (tc268_0)) → Ew 275 (d + 4) 268 ls [I (tc268_0), .ref (D 5)] σ c s Q := by
       as_aux_lemma =>
        intro tc268_0 ls σ F_c268 A_c268  lc268_0 lc268_1 H hS_c268 hA_c268   jc268_0
        refine w_pI H (o := 5) rfl rfl (H.perm 5 rfl) rfl rfl rfl (fun _ => rfl) rfl (show (-2147483648 : Int) ≤ tc268_0 ∧ tc268_0 ≤ 2147483647 from q_61 jc268_0) (fun σ H => ?_)
        refine Ew_of (pcₚ := 272) (fun _ => x_aload_n rfl lc268_0) ?_
        refine Ew_of (pcₚ := 273) (fun _ => x_aload_n rfl lc268_0) ?_
        refine w_gT H (o := 5) (t := 1) rfl (H.perm 5 rfl) rfl rfl rfl rfl rfl rfl ?_
        refine w_gI H (o := 1) (w := F 1 1) rfl (H.perm 1 rfl) rfl rfl rfl (fun _ => rfl) (((hS_c268 1 1 rfl).trans (hS_c247 1 1 rfl)).trans (hS_c36 1 1 rfl)) ?_
        refine Ew_of (pcₚ := 280) (fun _ => x_iload_n rfl lc268_1) ?_
        refine w_isub rfl ?_
        refine w_pI H (o := 5) rfl rfl (H.perm 5 rfl) rfl rfl rfl (fun _ => rfl) rfl (show (0 : Int) ≤ (F 1 1 - xc247_1) ∧ (F 1 1 - xc247_1) ≤ 65536 by omega) (fun σ H => ?_)
        refine Ew_of (pcₚ := 285) (fun _ => x_iconst rfl) ?_
        refine Ew_of (pcₚ := 286) (fun _ => x_istore_n rfl) ?_
        suffices hl286 : ∀ (m : Nat), ∀ (ls : rO) (σ : rS) (F_286 : hF) (A_286 : hA) (x286_3 : Int), rlook ls 0 = some (.ref (D 5)) → rlook ls 1 = some (I (xc247_1)) → rlook ls 3 = some (I (x286_3)) → HS σ0 σ D N F_286 A_286 → SF [] (updF (updF F_c268 5 3 (tc268_0)) 5 2 ((F 1 1 - xc247_1))) F_286 → SA [26] A_c268 A_286 → (inr (x286_3)) → ((0) ≤ (x286_3)) → ((x286_3) ≤ (0) ∨ (x286_3) ≤ (((F 1 1 - xc247_1)))) → ((((F 1 1 - xc247_1))) - (x286_3)).toNat = m → Ew 275 (d + 4) 286 ls [] σ c s Q from
          hl286 _ _ σ _ _ (0) (rk_o (lc268_0) rfl rfl) (rk_o (lc268_1) rfl rfl) (rk_s) H (SF_refl) (SA_refl)   (show inr (0) from q_20) (show (0) ≤ (0) from q_25) (show (0) ≤ (0) ∨ (0) ≤ (((F 1 1 - xc247_1))) from q_322) rfl
        as_aux_lemma =>
        intro m
        induction m using Nat.strongRecOn with
        | _ m ih286 =>
          intro ls σ F_286 A_286 x286_3 l286_0 l286_1 l286_3 H hS_286 hA_286   j286_0 j286_1 j286_2 hm286
          refine Ew_of (pcₚ := 287) (fun _ => x_iload_n rfl l286_3) ?_
          refine Ew_of (pcₚ := 288) (fun _ => x_aload_n rfl l286_0) ?_
          refine w_gI H (o := 5) (w := (F 1 1 - xc247_1)) rfl (H.perm 5 rfl) rfl rfl rfl (fun _ => rfl) (hS_286 5 2 rfl) ?_
          refine w_icmpge (t := 317) rfl rfl (show inr (x286_3) from j286_0) (show inr ((F 1 1 - xc247_1)) by omega) (fun b6 => ?_) (fun b6 => ?_)
          · refine Ew_of (pcₚ := 318) (fun _ => x_iconst rfl) ?_
            refine Ew_of (pcₚ := 319) (fun _ => x_istore_n rfl) ?_
            have : ∀ i, (0 : Int) ≤ i → i < 0 → ((w27)) i = ((wc247_31)) i := fun i a b => absurd b (by omega)
            suffices hl319 : ∀ (m : Nat), ∀ (ls : rO) (σ : rS) (F_319 : hF) (A_319 : hA) (x319_3 : Int), rlook ls 0 = some (.ref (D 5)) → rlook ls 3 = some (I (x319_3)) → HS σ0 σ D N F_319 A_319 → SF [] F_286 F_319 → SA [27] A_286 A_319 → ∀ w319_27 : Int → Int, A_319 27 = w319_27 → (inr (x319_3)) → ((0) ≤ (x319_3)) → ((x319_3) ≤ (0) ∨ (x319_3) ≤ ((256))) → (∀ i, 0 ≤ i → i < (x319_3) → ((w319_27)) i = ((wc247_31)) i) → (((256)) - (x319_3)).toNat = m → Ew 275 (d + 4) 319 ls [] σ c s Q from
              hl319 _ _ σ _ _ (0) (rk_o (l286_0) rfl rfl) (rk_s) H (SF_refl) (SA_refl)  (w27) ((funext (hA_286 27 rfl)).trans ((funext (hA_c268 27 rfl)).trans ((funext (hA_c247 27 rfl)).trans ((funext (hA_c36 27 rfl)).trans (ew27))))) (show inr (0) from q_20) (show (0) ≤ (0) from q_25) (show (0) ≤ (0) ∨ (0) ≤ ((256)) from q_976) (show ∀ i, 0 ≤ i → i < (0) → ((w27)) i = ((wc247_31)) i by assumption) rfl
            as_aux_lemma =>
            intro m
            induction m using Nat.strongRecOn with
            | _ m ih319 =>
              intro ls σ F_319 A_319 x319_3 l319_0 l319_3 H hS_319 hA_319  w319_27 ew319_27 j319_0 j319_1 j319_2 j319_3 hm319
              refine Ew_of (pcₚ := 320) (fun _ => x_iload_n rfl l319_3) ?_
              refine Ew_of (pcₚ := 323) (fun _ => x_sipush (z := 256) rfl (by decide)) ?_
              refine w_icmpge (t := 344) rfl rfl (show inr (x319_3) from j319_0) (show inr (256) from q_716) (fun b7 => ?_) (fun b7 => ?_)
              · refine Ew_of (pcₚ := 345) (fun _ => x_iconst rfl) ?_
                refine Ew_of (pcₚ := 346) (fun _ => x_istore_n rfl) ?_
                have : ∀ i, (0 : Int) ≤ i → i < 0 → ((w28)) i = ((wc247_33)) i := fun i a b => absurd b (by omega)
                suffices hl346 : ∀ (m : Nat), ∀ (ls : rO) (σ : rS) (F_346 : hF) (A_346 : hA) (x346_3 : Int), rlook ls 0 = some (.ref (D 5)) → rlook ls 3 = some (I (x346_3)) → HS σ0 σ D N F_346 A_346 → SF [] F_319 F_346 → SA [28] A_319 A_346 → ∀ w346_28 : Int → Int, A_346 28 = w346_28 → (inr (x346_3)) → ((0) ≤ (x346_3)) → ((x346_3) ≤ (0) ∨ (x346_3) ≤ ((192))) → (∀ i, 0 ≤ i → i < (x346_3) → ((w346_28)) i = ((wc247_33)) i) → (((192)) - (x346_3)).toNat = m → Ew 275 (d + 4) 346 ls [] σ c s Q from
                  hl346 _ _ σ _ _ (0) (rk_o (l319_0) rfl rfl) (rk_s) H (SF_refl) (SA_refl)  (w28) ((funext (hA_319 28 rfl)).trans ((funext (hA_286 28 rfl)).trans ((funext (hA_c268 28 rfl)).trans ((funext (hA_c247 28 rfl)).trans ((funext (hA_c36 28 rfl)).trans (ew28)))))) (show inr (0) from q_20) (show (0) ≤ (0) from q_25) (show (0) ≤ (0) ∨ (0) ≤ ((192)) from q_1536) (show ∀ i, 0 ≤ i → i < (0) → ((w28)) i = ((wc247_33)) i by assumption) rfl
                as_aux_lemma =>
                intro m
                induction m using Nat.strongRecOn with
                | _ m ih346 =>
                  intro ls σ F_346 A_346 x346_3 l346_0 l346_3 H hS_346 hA_346  w346_28 ew346_28 j346_0 j346_1 j346_2 j346_3 hm346
                  refine Ew_of (pcₚ := 347) (fun _ => x_iload_n rfl l346_3) ?_
                  refine Ew_of (pcₚ := 350) (fun _ => x_sipush (z := 192) rfl (by decide)) ?_
                  refine w_icmpge (t := 371) rfl rfl (show inr (x346_3) from j346_0) (show inr (192) from q_1537) (fun b8 => ?_) (fun b8 => ?_)
                  · refine Ew_of (pcₚ := 372) (fun _ => x_iconst rfl) ?_
                    refine Ew_of (pcₚ := 373) (fun _ => x_istore_n rfl) ?_
                    have : ∀ i, (0 : Int) ≤ i → i < 0 → ((w29)) i = ((wc247_34)) i := fun i a b => absurd b (by omega)
                    suffices hl373 : ∀ (m : Nat), ∀ (ls : rO) (σ : rS) (F_373 : hF) (A_373 : hA) (x373_3 : Int), rlook ls 0 = some (.ref (D 5)) → rlook ls 3 = some (I (x373_3)) → HS σ0 σ D N F_373 A_373 → SF [] F_346 F_373 → SA [29, 30] A_346 A_373 → ∀ w373_29 : Int → Int, A_373 29 = w373_29 → ∀ w373_30 : Int → Int, A_373 30 = w373_30 → (inr (x373_3)) → ((0) ≤ (x373_3)) → ((x373_3) ≤ (0) ∨ (x373_3) ≤ (3)) → (∀ i, 0 ≤ i → i < (x373_3) → ((w373_29)) i = ((wc247_34)) i) → (0 < (x373_3) → ((w373_30)) 0 = ((wc247_38)) 0) → (1 < (x373_3) → ((w373_30)) 1 = ((wc247_38)) 1) → (2 < (x373_3) → ((w373_30)) 2 = ((wc247_38)) 2) → ((3) - (x373_3)).toNat = m → Ew 275 (d + 4) 373 ls [] σ c s Q from
                      hl373 _ _ σ _ _ (0) (rk_o (l346_0) rfl rfl) (rk_s) H (SF_refl) (SA_refl)  (w29) ((funext (hA_346 29 rfl)).trans ((funext (hA_319 29 rfl)).trans ((funext (hA_286 29 rfl)).trans ((funext (hA_c268 29 rfl)).trans ((funext (hA_c247 29 rfl)).trans ((funext (hA_c36 29 rfl)).trans (ew29))))))) (w30) ((funext (hA_346 30 rfl)).trans ((funext (hA_319 30 rfl)).trans ((funext (hA_286 30 rfl)).trans ((funext (hA_c268 30 rfl)).trans ((funext (hA_c247 30 rfl)).trans ((funext (hA_c36 30 rfl)).trans (ew30))))))) (show inr (0) from q_20) (show (0) ≤ (0) from q_25) (show (0) ≤ (0) ∨ (0) ≤ (3) from q_1534) (show ∀ i, 0 ≤ i → i < (0) → ((w29)) i = ((wc247_34)) i by assumption) (show 0 < (0) → ((w30)) 0 = ((wc247_38)) 0 from q_1657) (show 1 < (0) → ((w30)) 1 = ((wc247_38)) 1 from q_1656) (show 2 < (0) → ((w30)) 2 = ((wc247_38)) 2 from q_1655) rfl
                    as_aux_lemma =>
                    intro m
                    induction m using Nat.strongRecOn with
                    | _ m ih373 =>
                      intro ls σ F_373 A_373 x373_3 l373_0 l373_3 H hS_373 hA_373  w373_29 ew373_29 w373_30 ew373_30 j373_0 j373_1 j373_2 j373_3 j373_4 j373_5 j373_6 hm373
                      refine Ew_of (pcₚ := 374) (fun _ => x_iload_n rfl l373_3) ?_
                      refine Ew_of (pcₚ := 375) (fun _ => x_iconst rfl) ?_
                      refine w_icmpge (t := 408) rfl rfl (show inr (x373_3) from j373_0) (show inr (3) from q_66) (fun b9 => ?_) (fun b9 => ?_)
                      · have : DI ((tc36_0)) ((w319_27)) ((w346_28)) ((w373_29)) ((w373_30)) := fun q => ⟨⟨_, CI_congr (jc247_CI (by omega)) (fun i a b => j319_3 i a (by omega))⟩, fun t a b => PS_congr (by rcases (show t = 0 ∨ t = 1 ∨ t = 2 by omega) with e | e | e <;> rw [e]; exact jc247_0 (by omega); exact jc247_1 (by omega); exact jc247_2 (by omega)) (by omega) (fun i a b => j346_3 i a (by omega)) (j373_3 t a (by omega)), by omega, by omega, by omega⟩
                        refine Ew_of (pcₚ := 409) (fun _ => x_aload_n rfl l373_0) ?_
                        refine w_gI H (o := 5) (w := (F 1 1 - xc247_1)) rfl (H.perm 5 rfl) rfl rfl rfl (fun _ => rfl) ((((hS_373 5 2 rfl).trans (hS_346 5 2 rfl)).trans (hS_319 5 2 rfl)).trans (hS_286 5 2 rfl)) ?_
                        exact w_ireturn rfl (k ((F 1 1 - xc247_1)) σ _ _ H (SF_trans (SF_trans (SF_trans (SF_trans (SF_upd (SF_upd (SF_trans (SF_upd (SF_trans (SF_trans (SF_refl) hS_c36 (any_sub rfl)) hS_c247 (any_sub rfl)) rfl) hS_c268 (any_sub rfl)) rfl) rfl) hS_286 (any_sub rfl)) hS_319 (any_sub rfl)) hS_346 (any_sub rfl)) hS_373 (any_sub rfl)) (SA_trans (SA_trans (SA_trans (SA_trans (SA_trans (SA_trans (SA_trans (SA_refl) hA_c36 (any_subA rfl)) hA_c247 (any_subA rfl)) hA_c268 (any_subA rfl)) hA_286 (any_subA rfl)) hA_319 (any_subA rfl)) hA_346 (any_subA rfl)) hA_373 (any_subA rfl)) ((F 1 1 - xc247_1)) (((((hS_373 5 2 rfl).trans (hS_346 5 2 rfl)).trans (hS_319 5 2 rfl)).trans (hS_286 5 2 rfl))) (tc36_0) ((((((hS_373 5 4 rfl).trans (hS_346 5 4 rfl)).trans (hS_319 5 4 rfl)).trans (hS_286 5 4 rfl)).trans (hS_c268 5 4 rfl))) (w319_27) ((funext (hA_373 27 rfl)).trans ((funext (hA_346 27 rfl)).trans (ew319_27))) (w346_28) ((funext (hA_373 28 rfl)).trans (ew346_28)) (w373_29) (ew373_29) (w373_30) (ew373_30) (wc247_34) ((funext (hA_373 34 rfl)).trans ((funext (hA_346 34 rfl)).trans ((funext (hA_319 34 rfl)).trans ((funext (hA_286 34 rfl)).trans ((funext (hA_c268 34 rfl)).trans (ewc247_34)))))) (wc247_35) ((funext (hA_373 35 rfl)).trans ((funext (hA_346 35 rfl)).trans ((funext (hA_319 35 rfl)).trans ((funext (hA_286 35 rfl)).trans ((funext (hA_c268 35 rfl)).trans (ewc247_35)))))) (wc247_36) ((funext (hA_373 36 rfl)).trans ((funext (hA_346 36 rfl)).trans ((funext (hA_319 36 rfl)).trans ((funext (hA_286 36 rfl)).trans ((funext (hA_c268 36 rfl)).trans (ewc247_36)))))) (wc247_37) ((funext (hA_373 37 rfl)).trans ((funext (hA_346 37 rfl)).trans ((funext (hA_319 37 rfl)).trans ((funext (hA_286 37 rfl)).trans ((funext (hA_c268 37 rfl)).trans (ewc247_37)))))) (show inr ((F 1 1 - xc247_1)) by omega) (show RT ((wc247_35)) ((wc247_36)) ((wc247_37)) ((wc247_34)) from jc247_3) (show DI ((tc36_0)) ((w319_27)) ((w346_28)) ((w373_29)) ((w373_30)) by assumption) (show 0 ≤ (tc36_0) ∧ (tc36_0) ≤ 1 from q_1654 jc36_1) (show ((F 1 1 - xc247_1)) < 0 → ((F 1 1 - xc247_1)) = (u5_2) by omega))
                      · have hx0 : (x373_3) = 0 → ((wc247_38)) ((x373_3)) = ((wc247_38)) 0 := fun e => by rw [e]
                        have hx1 : (x373_3) = 1 → ((wc247_38)) ((x373_3)) = ((wc247_38)) 1 := fun e => by rw [e]
                        have hx2 : (x373_3) = 2 → ((wc247_38)) ((x373_3)) = ((wc247_38)) 2 := fun e => by rw [e]
                        refine Ew_of (pcₚ := 379) (fun _ => x_aload_n rfl l373_0) ?_
                        refine w_gT H (o := 5) (t := 29) rfl (H.perm 5 rfl) rfl rfl rfl rfl rfl rfl ?_
                        refine Ew_of (pcₚ := 383) (fun _ => x_iload_n rfl l373_3) ?_
                        refine Ew_of (pcₚ := 384) (fun _ => x_aload_n rfl l373_0) ?_
                        refine w_gT H (o := 5) (t := 34) rfl (H.perm 5 rfl) rfl rfl rfl rfl rfl rfl ?_
                        refine Ew_of (pcₚ := 388) (fun _ => x_iload_n rfl l373_3) ?_
                        refine w_lI H (o := 34) (n := 3) rfl (H.perm 34 rfl) rfl rfl (H.fix 34 rfl rfl) (show 0 ≤ x373_3 ∧ x373_3 < ((3 : Nat) : Int) from q_1539 b9 j373_1) (by decide) (fun v10 ev10 qv10 => ?_)
                        have qv10 : (-1 : Int) ≤ v10 ∧ v10 ≤ 9 := qv10
                        have ev10 : (wc247_34) (x373_3) = v10 := (congrFun ((funext (hA_373 34 rfl)).trans ((funext (hA_346 34 rfl)).trans ((funext (hA_319 34 rfl)).trans ((funext (hA_286 34 rfl)).trans ((funext (hA_c268 34 rfl)).trans (ewc247_34)))))) (x373_3)).symm.trans ev10
                        refine w_sI H (o := 29) (n := 3) rfl (H.perm 29 rfl) rfl rfl (H.fix 29 rfl rfl) (show 0 ≤ x373_3 ∧ x373_3 < ((3 : Nat) : Int) from q_1539 b9 j373_1) (by decide) (show (-1 : Int) ≤ v10 ∧ v10 ≤ 9 from qv10) (fun σ H => ?_)
                        refine Ew_of (pcₚ := 391) (fun _ => x_aload_n rfl l373_0) ?_
                        refine w_gT H (o := 5) (t := 30) rfl (H.perm 5 rfl) rfl rfl rfl rfl rfl rfl ?_
                        refine Ew_of (pcₚ := 395) (fun _ => x_iload_n rfl l373_3) ?_
                        refine Ew_of (pcₚ := 396) (fun _ => x_aload_n rfl l373_0) ?_
                        refine w_gT H (o := 5) (t := 38) rfl (H.perm 5 rfl) rfl rfl rfl rfl rfl rfl ?_
                        refine Ew_of (pcₚ := 400) (fun _ => x_iload_n rfl l373_3) ?_
                        refine w_lJ H (o := 38) (n := 3) rfl (H.perm 38 rfl) rfl rfl (H.fix 38 rfl rfl) (show 0 ≤ x373_3 ∧ x373_3 < ((3 : Nat) : Int) from q_1539 b9 j373_1) (by decide) (fun v11 ev11 qv11 => ?_)
                        have qv11 : (-9223372036854775808 : Int) ≤ v11 ∧ v11 ≤ 9223372036854775807 := qv11
                        have ev11 : (wc247_38) (x373_3) = v11 := (congrFun ((funext (hA_373 38 rfl)).trans ((funext (hA_346 38 rfl)).trans ((funext (hA_319 38 rfl)).trans ((funext (hA_286 38 rfl)).trans ((funext (hA_c268 38 rfl)).trans (ewc247_38)))))) (x373_3)).symm.trans ev11
                        refine w_sJ H (o := 30) (n := 3) rfl (H.perm 30 rfl) rfl rfl (H.fix 30 rfl rfl) (show 0 ≤ x373_3 ∧ x373_3 < ((3 : Nat) : Int) from q_1539 b9 j373_1) (by decide) (show (-9223372036854775808 : Int) ≤ v11 ∧ v11 ≤ 9223372036854775807 from qv11) (fun σ H => ?_)
                        refine Ew_of (pcₚ := 405) (fun _ => x_iinc (len := 3) rfl (l373_3)) ?_
                        refine Ew_of (pcₚ := 373) (fun _ => x_goto rfl rfl) ?_
                        have : ∀ i, (0 : Int) ≤ i → i < ((x373_3 + 1)) → ((upd1 (w373_29) (x373_3) (v10))) i = ((wc247_34)) i := pt_copy j373_3 (by omega)
                        have hu0 : 0 < ((x373_3 + 1)) → ((upd1 (w373_30) (x373_3) (v11))) 0 = ((wc247_38)) 0 := by simp only [upd1]; omega
                        have hu1 : 1 < ((x373_3 + 1)) → ((upd1 (w373_30) (x373_3) (v11))) 1 = ((wc247_38)) 1 := by simp only [upd1]; omega
                        have hu2 : 2 < ((x373_3 + 1)) → ((upd1 (w373_30) (x373_3) (v11))) 2 = ((wc247_38)) 2 := by simp only [upd1]; omega
                        exact ih373 _ (msE hm373 q_595 (q_596 b9)) _ σ _ _ ((x373_3 + 1)) (rk_o (l373_0) rfl rfl) (rk_s) H (hS_373) (SA_upd (SA_upd (hA_373) rfl) rfl)  (upd1 (w373_29) (x373_3) (v10)) (congrArg (fun q => upd1 q (x373_3) (v10)) (ew373_29)) (upd1 (w373_30) (x373_3) (v11)) (congrArg (fun q => upd1 q (x373_3) (v11)) (ew373_30)) (show inr ((x373_3 + 1)) from q_1542 b9 j373_1) (show (0) ≤ ((x373_3 + 1)) from q_29 j373_1) (show ((x373_3 + 1)) ≤ (0) ∨ ((x373_3 + 1)) ≤ (3) from q_1541 b9) (show ∀ i, 0 ≤ i → i < ((x373_3 + 1)) → ((upd1 (w373_29) (x373_3) (v10))) i = ((wc247_34)) i by assumption) (show 0 < ((x373_3 + 1)) → ((upd1 (w373_30) (x373_3) (v11))) 0 = ((wc247_38)) 0 from hu0) (show 1 < ((x373_3 + 1)) → ((upd1 (w373_30) (x373_3) (v11))) 1 = ((wc247_38)) 1 from hu1) (show 2 < ((x373_3 + 1)) → ((upd1 (w373_30) (x373_3) (v11))) 2 = ((wc247_38)) 2 from hu2) rfl
                  · refine Ew_of (pcₚ := 354) (fun _ => x_aload_n rfl l346_0) ?_
                    refine w_gT H (o := 5) (t := 28) rfl (H.perm 5 rfl) rfl rfl rfl rfl rfl rfl ?_
                    refine Ew_of (pcₚ := 358) (fun _ => x_iload_n rfl l346_3) ?_
                    refine Ew_of (pcₚ := 359) (fun _ => x_aload_n rfl l346_0) ?_
                    refine w_gT H (o := 5) (t := 33) rfl (H.perm 5 rfl) rfl rfl rfl rfl rfl rfl ?_
                    refine Ew_of (pcₚ := 363) (fun _ => x_iload_n rfl l346_3) ?_
                    refine w_lI H (o := 33) (n := 192) rfl (H.perm 33 rfl) rfl rfl (H.fix 33 rfl rfl) (show 0 ≤ x346_3 ∧ x346_3 < ((192 : Nat) : Int) from q_1543 b8 j346_1) (by decide) (fun v12 ev12 qv12 => ?_)
                    have qv12 : (-1 : Int) ≤ v12 ∧ v12 ≤ 512 := qv12
                    have ev12 : (wc247_33) (x346_3) = v12 := (congrFun ((funext (hA_346 33 rfl)).trans ((funext (hA_319 33 rfl)).trans ((funext (hA_286 33 rfl)).trans ((funext (hA_c268 33 rfl)).trans (ewc247_33))))) (x346_3)).symm.trans ev12
                    refine w_sI H (o := 28) (n := 192) rfl (H.perm 28 rfl) rfl rfl (H.fix 28 rfl rfl) (show 0 ≤ x346_3 ∧ x346_3 < ((192 : Nat) : Int) from q_1543 b8 j346_1) (by decide) (show (-1 : Int) ≤ v12 ∧ v12 ≤ 512 from qv12) (fun σ H => ?_)
                    refine Ew_of (pcₚ := 368) (fun _ => x_iinc (len := 3) rfl (l346_3)) ?_
                    refine Ew_of (pcₚ := 346) (fun _ => x_goto rfl rfl) ?_
                    have : ∀ i, (0 : Int) ≤ i → i < ((x346_3 + 1)) → ((upd1 (w346_28) (x346_3) (v12))) i = ((wc247_33)) i := pt_copy j346_3 (by omega)
                    exact ih346 _ (msE hm346 q_1546 (q_1547 b8)) _ σ _ _ ((x346_3 + 1)) (rk_o (l346_0) rfl rfl) (rk_s) H (hS_346) (SA_upd (hA_346) rfl)  (upd1 (w346_28) (x346_3) (v12)) (congrArg (fun q => upd1 q (x346_3) (v12)) (ew346_28)) (show inr ((x346_3 + 1)) from q_1545 b8 j346_1) (show (0) ≤ ((x346_3 + 1)) from q_29 j346_1) (show ((x346_3 + 1)) ≤ (0) ∨ ((x346_3 + 1)) ≤ ((192)) from q_1544 b8) (show ∀ i, 0 ≤ i → i < ((x346_3 + 1)) → ((upd1 (w346_28) (x346_3) (v12))) i = ((wc247_33)) i by assumption) rfl
              · refine Ew_of (pcₚ := 327) (fun _ => x_aload_n rfl l319_0) ?_
                refine w_gT H (o := 5) (t := 27) rfl (H.perm 5 rfl) rfl rfl rfl rfl rfl rfl ?_
                refine Ew_of (pcₚ := 331) (fun _ => x_iload_n rfl l319_3) ?_
                refine Ew_of (pcₚ := 332) (fun _ => x_aload_n rfl l319_0) ?_
                refine w_gT H (o := 5) (t := 31) rfl (H.perm 5 rfl) rfl rfl rfl rfl rfl rfl ?_
                refine Ew_of (pcₚ := 336) (fun _ => x_iload_n rfl l319_3) ?_
                refine w_lI H (o := 31) (n := 256) rfl (H.perm 31 rfl) rfl rfl (H.fix 31 rfl rfl) (show 0 ≤ x319_3 ∧ x319_3 < ((256 : Nat) : Int) from q_1030 b7 j319_1) (by decide) (fun v13 ev13 qv13 => ?_)
                have qv13 : (0 : Int) ≤ v13 ∧ v13 ≤ 11 := qv13
                have ev13 : (wc247_31) (x319_3) = v13 := (congrFun ((funext (hA_319 31 rfl)).trans ((funext (hA_286 31 rfl)).trans ((funext (hA_c268 31 rfl)).trans (ewc247_31)))) (x319_3)).symm.trans ev13
                refine w_sI H (o := 27) (n := 256) rfl (H.perm 27 rfl) rfl rfl (H.fix 27 rfl rfl) (show 0 ≤ x319_3 ∧ x319_3 < ((256 : Nat) : Int) from q_1030 b7 j319_1) (by decide) (show (0 : Int) ≤ v13 ∧ v13 ≤ 11 from qv13) (fun σ H => ?_)
                refine Ew_of (pcₚ := 341) (fun _ => x_iinc (len := 3) rfl (l319_3)) ?_
                refine Ew_of (pcₚ := 319) (fun _ => x_goto rfl rfl) ?_
                have : ∀ i, (0 : Int) ≤ i → i < ((x319_3 + 1)) → ((upd1 (w319_27) (x319_3) (v13))) i = ((wc247_31)) i := pt_copy j319_3 (by omega)
                exact ih319 _ (msE hm319 q_1033 (q_1034 b7)) _ σ _ _ ((x319_3 + 1)) (rk_o (l319_0) rfl rfl) (rk_s) H (hS_319) (SA_upd (hA_319) rfl)  (upd1 (w319_27) (x319_3) (v13)) (congrArg (fun q => upd1 q (x319_3) (v13)) (ew319_27)) (show inr ((x319_3 + 1)) from q_1032 b7 j319_1) (show (0) ≤ ((x319_3 + 1)) from q_29 j319_1) (show ((x319_3 + 1)) ≤ (0) ∨ ((x319_3 + 1)) ≤ ((256)) from q_1031 b7) (show ∀ i, 0 ≤ i → i < ((x319_3 + 1)) → ((upd1 (w319_27) (x319_3) (v13))) i = ((wc247_31)) i by assumption) rfl
          · refine Ew_of (pcₚ := 295) (fun _ => x_aload_n rfl l286_0) ?_
            refine w_gT H (o := 5) (t := 26) rfl (H.perm 5 rfl) rfl rfl rfl rfl rfl rfl ?_
            refine Ew_of (pcₚ := 299) (fun _ => x_iload_n rfl l286_3) ?_
            refine Ew_of (pcₚ := 300) (fun _ => x_aload_n rfl l286_0) ?_
            refine w_gT H (o := 5) (t := 1) rfl (H.perm 5 rfl) rfl rfl rfl rfl rfl rfl ?_
            refine w_gT H (o := 1) (t := 14) rfl (H.perm 1 rfl) rfl rfl rfl rfl rfl rfl ?_
            refine Ew_of (pcₚ := 307) (fun _ => x_iload_n rfl l286_1) ?_
            refine Ew_of (pcₚ := 308) (fun _ => x_iload_n rfl l286_3) ?_
            refine w_iadd rfl ?_
            refine w_lI H (o := 14) (n := 65536) rfl (H.perm 14 rfl) rfl rfl (H.fix 14 rfl rfl) (show 0 ≤ (xc247_1 + x286_3) ∧ (xc247_1 + x286_3) < ((65536 : Nat) : Int) by omega) (by decide) (fun v14 ev14 qv14 => ?_)
            have qv14 : (0 : Int) ≤ v14 ∧ v14 ≤ 255 := qv14
            have ev14 : (A 14) ((xc247_1 + x286_3)) = v14 := (congrFun ((funext (hA_286 14 rfl)).trans ((funext (hA_c268 14 rfl)).trans ((funext (hA_c247 14 rfl)).trans (funext (hA_c36 14 rfl))))) ((xc247_1 + x286_3))).symm.trans ev14
            refine w_sI H (o := 26) (n := 65536) rfl (H.perm 26 rfl) rfl rfl (H.fix 26 rfl rfl) (show 0 ≤ x286_3 ∧ x286_3 < ((65536 : Nat) : Int) by omega) (by decide) (show (0 : Int) ≤ v14 ∧ v14 ≤ 255 from qv14) (fun σ H => ?_)
            refine Ew_of (pcₚ := 314) (fun _ => x_iinc (len := 3) rfl (l286_3)) ?_
            refine Ew_of (pcₚ := 286) (fun _ => x_goto rfl rfl) ?_
            exact ih286 _ (msE hm286 q_328 (q_329 b6)) _ σ _ _ ((x286_3 + 1)) (rk_o (l286_0) rfl rfl) (rk_o (l286_1) rfl rfl) (rk_s) H (hS_286) (SA_upd (hA_286) rfl)   (show inr ((x286_3 + 1)) by omega) (show (0) ≤ ((x286_3 + 1)) from q_29 j286_1) (show ((x286_3 + 1)) ≤ (0) ∨ ((x286_3 + 1)) ≤ (((F 1 1 - xc247_1))) from q_326 b6) rfl
      refine Ew_of (pcₚ := 254) (fun _ => x_iload_n rfl lc247_2) ?_
      refine w_ifeq (t := 267) rfl rfl (show inr (tc36_0) from jc36_0) (fun b15 => ?_) (fun b15 => ?_)
      · refine Ew_of (pcₚ := 268) (fun _ => x_iconst rfl) ?_
        exact hc268 (0) _ σ _ _  (lc247_0) (lc247_1) H (SF_refl) (SA_refl)   (show inr (0) from q_20)
      · refine Ew_of (pcₚ := 258) (fun _ => x_aload_n rfl lc247_0) ?_
        refine Ew_of (pcₚ := 259) (fun _ => x_iconst rfl) ?_
        refine Ew_of (pcₚ := 260) (fun _ => x_iconst rfl) ?_
        refine w_inv H (o := 5) rfl rfl rfl (H.perm 5 rfl) rfl rfl (by rfl) (M257 H (A 14) ((funext (hA_c247 14 rfl)).trans (funext (hA_c36 14 rfl))) (show inr (4) from q_2) (show inr (4) from q_2) (show 0 ≤ (4) ∧ 0 ≤ (4) ∧ (4) ≤ 8 ∧ (4) + (4) ≤ 65536 from q_1658) (fun z20 σ F16 A17 H hS18 hA19 pz20_0 pz20_1 pz20_2 pz20_3 pz20_4 pz20_5 pz20_6 pz20_7 pz20_8 => ⟨rfl, ?_⟩))
        replace pz20_1 := pz20_1.resolve_left (by decide)
        replace pz20_2 := pz20_2.resolve_right (by decide)
        replace pz20_3 := pz20_3 (by decide)
        clear pz20_4
        clear pz20_5
        clear pz20_6
        clear pz20_7
        replace pz20_8 := pz20_8 (by decide)
        refine w_l2iA rfl (fun z21 gz21 => ?_)
        refine Ew_of (pcₚ := 268) (fun _ => x_goto rfl rfl) ?_
        exact hc268 (z21) _ σ _ _  (lc247_0) (lc247_1) H (SF_trans (SF_refl) hS18 (any_sub rfl)) (SA_trans (SA_refl) hA19 (any_subA rfl))   (show inr (z21) from gz21)
    refine Ew_of (pcₚ := 38) (fun _ => x_iload_n rfl rk_s) ?_
    refine w_ifeq (t := 247) rfl rfl (show inr (tc36_0) from jc36_0) (fun b22 => ?_) (fun b22 => ?_)
    · have : (tc36_0) = 1 → CI ((A 31)) ((F 5 10)) := by first | exact (fun q => absurd q (by omega)) | exact (fun _ => by first | exact hci | assumption)
      have : (tc36_0) = 1 → PS ((A 33)) ((w34)) 0 := by first | exact (fun q => absurd q (by omega)) | exact (fun _ => j79_7 (by omega))
      have : (tc36_0) = 1 → PS ((A 33)) ((w34)) 1 := by first | exact (fun q => absurd q (by omega)) | exact (fun _ => j79_5 (by omega))
      have : (tc36_0) = 1 → PS ((A 33)) ((w34)) 2 := by first | exact (fun q => absurd q (by omega)) | exact (fun _ => j79_6 (by omega))
      exact hc247  _ σ _ _ (0) (rk_o (lc36_0) rfl rfl) (rk_o (lc36_1) rfl rfl) (rk_s) H (SF_refl) (SA_refl) (F 5 10) ((hS_c36 5 10 rfl)) (A 31) (funext (hA_c36 31 rfl)) (A 33) (funext (hA_c36 33 rfl)) (w34) ((funext (hA_c36 34 rfl)).trans (ew34)) (w35) ((funext (hA_c36 35 rfl)).trans (ew35)) (w36) ((funext (hA_c36 36 rfl)).trans (ew36)) (w37) ((funext (hA_c36 37 rfl)).trans (ew37)) (A 38) (funext (hA_c36 38 rfl)) (show inr (0) from q_20) (show 0 ≤ (0) ∧ (0) ≤ (F 1 1) from q_912 r3) (show (tc36_0) = 1 → 8 ≤ (F 1 1) from q_1659 b22 r3) (show RT ((w35)) ((w36)) ((w37)) ((w34)) from h0) (show (tc36_0) = 1 → CI ((A 31)) ((F 5 10)) by first | assumption | exact fun h => absurd rfl h | exact fun h => absurd h (by decide) | omega) (show (tc36_0) = 1 → PS ((A 33)) ((w34)) 0 by first | assumption | exact fun h => absurd rfl h | exact fun h => absurd h (by decide) | omega) (show (tc36_0) = 1 → PS ((A 33)) ((w34)) 1 by first | assumption | exact fun h => absurd rfl h | exact fun h => absurd h (by decide) | omega) (show (tc36_0) = 1 → PS ((A 33)) ((w34)) 2 by first | assumption | exact fun h => absurd rfl h | exact fun h => absurd h (by decide) | omega) (show (tc36_0) = 1 → 1 ≤ ((A 38)) 0 ∧ 1 ≤ ((A 38)) 1 ∧ 1 ≤ ((A 38)) 2 from q_1474 b22)
    · refine Ew_of (pcₚ := 42) (fun _ => x_aload_n rfl (rk_o (lc36_0) rfl rfl)) ?_
      refine w_gT H (o := 5) (t := 1) rfl (H.perm 5 rfl) rfl rfl rfl rfl rfl rfl ?_
      refine w_gI H (o := 1) (w := F 1 1) rfl (H.perm 1 rfl) rfl rfl rfl (fun _ => rfl) (hS_c36 1 1 rfl) ?_
      refine Ew_of (pcₚ := 50) (fun _ => x_bipush (z := 8) rfl (by decide)) ?_
      refine w_icmpge (t := 55) rfl rfl (show inr (F 1 1) from q_12 r3) (show inr (8) from q_96) (fun b23 => ?_) (fun b23 => ?_)
      · refine Ew_of (pcₚ := 56) (fun _ => x_aload_n rfl (rk_o (lc36_0) rfl rfl)) ?_
        refine Ew_of (pcₚ := 58) (fun _ => x_bipush (z := 8) rfl (by decide)) ?_
        refine Ew_of (pcₚ := 59) (fun _ => x_aload_n rfl (rk_o (lc36_0) rfl rfl)) ?_
        refine w_gT H (o := 5) (t := 1) rfl (H.perm 5 rfl) rfl rfl rfl rfl rfl rfl ?_
        refine w_gI H (o := 1) (w := F 1 1) rfl (H.perm 1 rfl) rfl rfl rfl (fun _ => rfl) (hS_c36 1 1 rfl) ?_
        refine w_inv H (o := 5) rfl rfl rfl (H.perm 5 rfl) rfl rfl (by rfl) (M271 H (show inr (8) from q_96) (show inr (F 1 1) from q_1661 b23 r3) (show 0 ≤ (8) ∧ (8) ≤ 65536 ∧ 0 ≤ (F 1 1) ∧ (F 1 1) ≤ 65536 from q_1660 r3) (fun z28 σ F24 A25 H hS26 hA27 y29 ey30 wq31 ewq32 pz28_0 pz28_1 pz28_2 => ⟨rfl, ?_⟩))
        have r33 : (0 : Int) ≤ y29 ∧ y29 ≤ 11 := rngE (show (0 : Int) ≤ F24 5 10 ∧ F24 5 10 ≤ 11 from H.frng 5 10) (show F24 5 10 = y29 from (ey30))
        refine Ew_of (pcₚ := 69) (fun _ => x_istore_n rfl) ?_
        refine Ew_of (pcₚ := 70) (fun _ => x_iload_n rfl rk_s) ?_
        refine w_ifge (t := 76) rfl rfl (show inr (z28) from pz28_0) (fun b34 => ?_) (fun b34 => ?_)
        · have hci : CI ((wq31)) ((y29)) := pz28_2 (by omega)
          refine Ew_of (pcₚ := 77) (fun _ => x_iconst rfl) ?_
          refine Ew_of (pcₚ := 79) (fun _ => x_istore rfl) ?_
          have : (0 : Int) < 0 → PS ((A 33)) ((w34)) 1 := fun q => absurd q (by decide)
          have : (1 : Int) < 0 → PS ((A 33)) ((w34)) 2 := fun q => absurd q (by decide)
          have : (2 : Int) < 0 → PS ((A 33)) ((w34)) 0 := fun q => absurd q (by decide)
          suffices hl79 : ∀ (m : Nat), ∀ (ls : rO) (σ : rS) (F_79 : hF) (A_79 : hA) (x79_3 : Int) (x79_4 : Int), rlook ls 0 = some (.ref (D 5)) → rlook ls 2 = some (I (tc36_0)) → rlook ls 3 = some (I (x79_3)) → rlook ls 4 = some (I (x79_4)) → HS σ0 σ D N F_79 A_79 → SF [(5, 19)] F24 F_79 → SA [33, 34, 35, 36, 37, 39, 41] A25 A_79 → ∀ w79_33 : Int → Int, A_79 33 = w79_33 → ∀ w79_34 : Int → Int, A_79 34 = w79_34 → ∀ w79_35 : Int → Int, A_79 35 = w79_35 → ∀ w79_36 : Int → Int, A_79 36 = w79_36 → ∀ w79_37 : Int → Int, A_79 37 = w79_37 → (inr (x79_3)) → (inr (x79_4)) → (0 ≤ (x79_4) ∧ (x79_4) ≤ 3) → (8 ≤ (x79_3) ∧ (x79_3) ≤ (F 1 1)) → (RT ((w79_35)) ((w79_36)) ((w79_37)) ((w79_34))) → (0 < (x79_4) → PS ((w79_33)) ((w79_34)) 1) → (1 < (x79_4) → PS ((w79_33)) ((w79_34)) 2) → (2 < (x79_4) → PS ((w79_33)) ((w79_34)) 0) → (3 - (x79_4)).toNat = m → Ew 275 (d + 4) 79 ls [] σ c s Q from
            hl79 _ _ σ _ _ (z28) (0) (rk_o (rk_o (rk_o (lc36_0) rfl rfl) rfl rfl) rfl rfl) (rk_o (rk_o (rk_s) rfl rfl) rfl rfl) (rk_o (rk_s) rfl rfl) (rk_s) H (SF_refl) (SA_refl)  (A 33) ((funext (hA27 33 rfl)).trans (funext (hA_c36 33 rfl))) (w34) ((funext (hA27 34 rfl)).trans ((funext (hA_c36 34 rfl)).trans (ew34))) (w35) ((funext (hA27 35 rfl)).trans ((funext (hA_c36 35 rfl)).trans (ew35))) (w36) ((funext (hA27 36 rfl)).trans ((funext (hA_c36 36 rfl)).trans (ew36))) (w37) ((funext (hA27 37 rfl)).trans ((funext (hA_c36 37 rfl)).trans (ew37))) (show inr (z28) from pz28_0) (show inr (0) from q_20) (show 0 ≤ (0) ∧ (0) ≤ 3 from q_309) (show 8 ≤ (z28) ∧ (z28) ≤ (F 1 1) from q_1662 b23 b34 pz28_1 pz28_2) (show RT ((w35)) ((w36)) ((w37)) ((w34)) from h0) (show 0 < (0) → PS ((A 33)) ((w34)) 1 by assumption) (show 1 < (0) → PS ((A 33)) ((w34)) 2 by assumption) (show 2 < (0) → PS ((A 33)) ((w34)) 0 by assumption) rfl
          as_aux_lemma =>
          intro m
          induction m using Nat.strongRecOn with
          | _ m ih79 =>
            intro ls σ F_79 A_79 x79_3 x79_4 l79_0 l79_2 l79_3 l79_4 H hS_79 hA_79  w79_33 ew79_33 w79_34 ew79_34 w79_35 ew79_35 w79_36 ew79_36 w79_37 ew79_37 j79_0 j79_1 j79_2 j79_3 j79_4 j79_5 j79_6 j79_7 hm79
            refine Ew_of (pcₚ := 81) (fun _ => x_iload rfl l79_4) ?_
            refine Ew_of (pcₚ := 82) (fun _ => x_iconst rfl) ?_
            refine w_icmpge (t := 157) rfl rfl (show inr (x79_4) from j79_1) (show inr (3) from q_66) (fun b35 => ?_) (fun b35 => ?_)
            · refine Ew_of (pcₚ := 158) (fun _ => x_aload_n rfl l79_0) ?_
              refine w_gT H (o := 5) (t := 1) rfl (H.perm 5 rfl) rfl rfl rfl rfl rfl rfl ?_
              refine w_gI H (o := 1) (w := F 1 1) rfl (H.perm 1 rfl) rfl rfl rfl (fun _ => rfl) (((hS_79 1 1 rfl).trans (hS26 1 1 rfl)).trans (hS_c36 1 1 rfl)) ?_
              refine Ew_of (pcₚ := 165) (fun _ => x_iload_n rfl l79_3) ?_
              refine Ew_of (pcₚ := 167) (fun _ => x_bipush (z := 12) rfl (by decide)) ?_
              refine w_iadd rfl ?_
              refine w_icmpge (t := 173) rfl rfl (show inr (F 1 1) from q_1661 b23 r3) (show inr ((x79_3 + 12)) from q_1663 j79_3 r3) (fun b36 => ?_) (fun b36 => ?_)
              · refine Ew_of (pcₚ := 174) (fun _ => x_iload_n rfl l79_3) ?_
                refine Ew_of (pcₚ := 176) (fun _ => x_bipush (z := 12) rfl (by decide)) ?_
                refine w_iadd rfl ?_
                refine Ew_of (pcₚ := 178) (fun _ => x_istore_n rfl) ?_
                refine Ew_of (pcₚ := 179) (fun _ => x_iconst rfl) ?_
                refine Ew_of (pcₚ := 181) (fun _ => x_istore rfl) ?_
                suffices hl181 : ∀ (m : Nat), ∀ (ls : rO) (σ : rS) (F_181 : hF) (A_181 : hA) (x181_4 : Int), rlook ls 0 = some (.ref (D 5)) → rlook ls 1 = some (I ((x79_3 + 12))) → rlook ls 2 = some (I (tc36_0)) → rlook ls 3 = some (I (x79_3)) → rlook ls 4 = some (I (x181_4)) → HS σ0 σ D N F_181 A_181 → SF [] F_79 F_181 → SA [38] A_79 A_181 → ∀ w181_38 : Int → Int, A_181 38 = w181_38 → (inr (x181_4)) → (0 ≤ (x181_4) ∧ (x181_4) ≤ 3) → (0 < (x181_4) → 1 ≤ ((w181_38)) 0) → (1 < (x181_4) → 1 ≤ ((w181_38)) 1) → (2 < (x181_4) → 1 ≤ ((w181_38)) 2) → (3 - (x181_4)).toNat = m → Ew 275 (d + 4) 181 ls [] σ c s Q from
                  hl181 _ _ σ _ _ (0) (rk_o (rk_o (l79_0) rfl rfl) rfl rfl) (rk_o (rk_s) rfl rfl) (rk_o (rk_o (l79_2) rfl rfl) rfl rfl) (rk_o (rk_o (l79_3) rfl rfl) rfl rfl) (rk_s) H (SF_refl) (SA_refl)  (A 38) ((funext (hA_79 38 rfl)).trans ((funext (hA27 38 rfl)).trans (funext (hA_c36 38 rfl)))) (show inr (0) from q_20) (show 0 ≤ (0) ∧ (0) ≤ 3 from q_309) (show 0 < (0) → 1 ≤ ((A 38)) 0 from q_1533) (show 1 < (0) → 1 ≤ ((A 38)) 1 from q_1532) (show 2 < (0) → 1 ≤ ((A 38)) 2 from q_1531) rfl
                as_aux_lemma =>
                intro m
                induction m using Nat.strongRecOn with
                | _ m ih181 =>
                  intro ls σ F_181 A_181 x181_4 l181_0 l181_1 l181_2 l181_3 l181_4 H hS_181 hA_181  w181_38 ew181_38 j181_0 j181_1 j181_2 j181_3 j181_4 hm181
                  refine Ew_of (pcₚ := 183) (fun _ => x_iload rfl l181_4) ?_
                  refine Ew_of (pcₚ := 184) (fun _ => x_iconst rfl) ?_
                  refine w_icmpge (t := 247) rfl rfl (show inr (x181_4) from j181_0) (show inr (3) from q_66) (fun b37 => ?_) (fun b37 => ?_)
                  · have : (tc36_0) = 1 → CI ((wq31)) ((y29)) := by first | exact (fun q => absurd q (by omega)) | exact (fun _ => by first | exact hci | assumption)
                    have : (tc36_0) = 1 → PS ((w79_33)) ((w79_34)) 0 := by first | exact (fun q => absurd q (by omega)) | exact (fun _ => j79_7 (by omega))
                    have : (tc36_0) = 1 → PS ((w79_33)) ((w79_34)) 1 := by first | exact (fun q => absurd q (by omega)) | exact (fun _ => j79_5 (by omega))
                    have : (tc36_0) = 1 → PS ((w79_33)) ((w79_34)) 2 := by first | exact (fun q => absurd q (by omega)) | exact (fun _ => j79_6 (by omega))
                    exact hc247  _ σ _ _ ((x79_3 + 12)) (l181_0) (l181_1) (l181_2) H (SF_trans (SF_trans (SF_trans (SF_refl) hS26 (any_sub rfl)) hS_79 (any_sub rfl)) hS_181 (any_sub rfl)) (SA_trans (SA_trans (SA_trans (SA_refl) hA27 (any_subA rfl)) hA_79 (any_subA rfl)) hA_181 (any_subA rfl)) (y29) ((((hS_181 5 10 rfl).trans (hS_79 5 10 rfl)).trans (ey30))) (wq31) ((funext (hA_181 31 rfl)).trans ((funext (hA_79 31 rfl)).trans (ewq32))) (w79_33) ((funext (hA_181 33 rfl)).trans (ew79_33)) (w79_34) ((funext (hA_181 34 rfl)).trans (ew79_34)) (w79_35) ((funext (hA_181 35 rfl)).trans (ew79_35)) (w79_36) ((funext (hA_181 36 rfl)).trans (ew79_36)) (w79_37) ((funext (hA_181 37 rfl)).trans (ew79_37)) (w181_38) (ew181_38) (show inr ((x79_3 + 12)) from q_1667 b36 j79_3 r3) (show 0 ≤ ((x79_3 + 12)) ∧ ((x79_3 + 12)) ≤ (F 1 1) from q_1666 b36 j79_3) (show (tc36_0) = 1 → 8 ≤ (F 1 1) from q_1665 b23) (show RT ((w79_35)) ((w79_36)) ((w79_37)) ((w79_34)) from j79_4) (show (tc36_0) = 1 → CI ((wq31)) ((y29)) by first | assumption | exact fun h => absurd rfl h | exact fun h => absurd h (by decide) | omega) (show (tc36_0) = 1 → PS ((w79_33)) ((w79_34)) 0 by first | assumption | exact fun h => absurd rfl h | exact fun h => absurd h (by decide) | omega) (show (tc36_0) = 1 → PS ((w79_33)) ((w79_34)) 1 by first | assumption | exact fun h => absurd rfl h | exact fun h => absurd h (by decide) | omega) (show (tc36_0) = 1 → PS ((w79_33)) ((w79_34)) 2 by first | assumption | exact fun h => absurd rfl h | exact fun h => absurd h (by decide) | omega) (show (tc36_0) = 1 → 1 ≤ ((w181_38)) 0 ∧ 1 ≤ ((w181_38)) 1 ∧ 1 ≤ ((w181_38)) 2 from q_1664 b37 j181_2 j181_3 j181_4)
                  · refine Ew_of (pcₚ := 188) (fun _ => x_aload_n rfl l181_0) ?_
                    refine w_gT H (o := 5) (t := 38) rfl (H.perm 5 rfl) rfl rfl rfl rfl rfl rfl ?_
                    refine Ew_of (pcₚ := 193) (fun _ => x_iload rfl l181_4) ?_
                    refine Ew_of (pcₚ := 194) (fun _ => x_aload_n rfl l181_0) ?_
                    refine Ew_of (pcₚ := 195) (fun _ => x_iload_n rfl l181_3) ?_
                    refine Ew_of (pcₚ := 196) (fun _ => x_iconst rfl) ?_
                    refine Ew_of (pcₚ := 198) (fun _ => x_iload rfl l181_4) ?_
                    refine w_imul rfl ?_
                    refine w_iadd rfl ?_
                    refine Ew_of (pcₚ := 201) (fun _ => x_iconst rfl) ?_
                    refine w_inv H (o := 5) rfl rfl rfl (H.perm 5 rfl) rfl rfl (by rfl) (M257 H (A 14) ((funext (hA_181 14 rfl)).trans ((funext (hA_79 14 rfl)).trans ((funext (hA27 14 rfl)).trans (funext (hA_c36 14 rfl))))) (show inr ((x79_3 + (4 * x181_4))) from q_1669 b36 b37 j181_1 j79_3 r3) (show inr (4) from q_2) (show 0 ≤ ((x79_3 + (4 * x181_4))) ∧ 0 ≤ (4) ∧ (4) ≤ 8 ∧ ((x79_3 + (4 * x181_4))) + (4) ≤ 65536 from q_1668 b36 b37 j181_1 j79_3 r3) (fun z42 σ F38 A39 H hS40 hA41 pz42_0 pz42_1 pz42_2 pz42_3 pz42_4 pz42_5 pz42_6 pz42_7 pz42_8 => ⟨rfl, ?_⟩))
                    replace pz42_1 := pz42_1.resolve_left (by decide)
                    replace pz42_2 := pz42_2.resolve_right (by decide)
                    replace pz42_3 := pz42_3 (by decide)
                    clear pz42_4
                    clear pz42_5
                    clear pz42_6
                    clear pz42_7
                    replace pz42_8 := pz42_8 (by decide)
                    refine w_sJ H (o := 38) (n := 3) rfl (H.perm 38 rfl) rfl rfl (H.fix 38 rfl rfl) (show 0 ≤ x181_4 ∧ x181_4 < ((3 : Nat) : Int) from q_1422 b37 j181_1) (by decide) (show (-9223372036854775808 : Int) ≤ z42 ∧ z42 ≤ 9223372036854775807 by omega) (fun σ H => ?_)
                    refine Ew_of (pcₚ := 206) (fun _ => x_aload_n rfl l181_0) ?_
                    refine w_gT H (o := 5) (t := 38) rfl (H.perm 5 rfl) rfl rfl rfl rfl rfl rfl ?_
                    refine Ew_of (pcₚ := 211) (fun _ => x_iload rfl l181_4) ?_
                    refine w_lJ H (o := 38) (n := 3) rfl (H.perm 38 rfl) rfl rfl (H.fix 38 rfl rfl) (show 0 ≤ x181_4 ∧ x181_4 < ((3 : Nat) : Int) from q_1422 b37 j181_1) (by decide) (fun v43 ev43 qv43 => ?_)
                    have qv43 : (-9223372036854775808 : Int) ≤ v43 ∧ v43 ≤ 9223372036854775807 := qv43
                    have ev43 : (upd1 (w181_38) (x181_4) (z42)) (x181_4) = v43 := (congrFun (congrArg (fun q => upd1 q (x181_4) (z42)) ((funext (hA41 38 rfl)).trans (ew181_38))) (x181_4)).symm.trans ev43
                    have hq := ev43
                    rw [upd1_s] at hq
                    refine Ew_of (pcₚ := 213) (fun _ => x_lconst (z := 0) rfl (by decide)) ?_
                    refine w_lcmp rfl (show inrJ (v43) by omega) (show inrJ (0) from q_81) (fun z44 gz44 gaz44 gbz44 => ?_)
                    refine w_ifeq (t := 238) rfl rfl (show inr (z44) from gz44) (fun b45 => ?_) (fun b45 => ?_)
                    · refine Ew_of (pcₚ := 240) (fun _ => x_bipush (z := -4) rfl (by decide)) ?_
                      exact w_ireturn rfl (k ((-4)) σ _ _ H (SF_trans (SF_trans (SF_trans (SF_trans (SF_trans (SF_refl) hS_c36 (any_sub rfl)) hS26 (any_sub rfl)) hS_79 (any_sub rfl)) hS_181 (any_sub rfl)) hS40 (any_sub rfl)) (SA_upd (SA_trans (SA_trans (SA_trans (SA_trans (SA_trans (SA_refl) hA_c36 (any_subA rfl)) hA27 (any_subA rfl)) hA_79 (any_subA rfl)) hA_181 (any_subA rfl)) hA41 (any_subA rfl)) rfl) (u5_2) (((((((hS40 5 2 rfl).trans (hS_181 5 2 rfl)).trans (hS_79 5 2 rfl)).trans (hS26 5 2 rfl)).trans (hS_c36 5 2 rfl)).trans (eu5_2))) (u5_4) (((((((hS40 5 4 rfl).trans (hS_181 5 4 rfl)).trans (hS_79 5 4 rfl)).trans (hS26 5 4 rfl)).trans (hS_c36 5 4 rfl)).trans (eu5_4))) (w27) ((funext (hA41 27 rfl)).trans ((funext (hA_181 27 rfl)).trans ((funext (hA_79 27 rfl)).trans ((funext (hA27 27 rfl)).trans ((funext (hA_c36 27 rfl)).trans (ew27)))))) (w28) ((funext (hA41 28 rfl)).trans ((funext (hA_181 28 rfl)).trans ((funext (hA_79 28 rfl)).trans ((funext (hA27 28 rfl)).trans ((funext (hA_c36 28 rfl)).trans (ew28)))))) (w29) ((funext (hA41 29 rfl)).trans ((funext (hA_181 29 rfl)).trans ((funext (hA_79 29 rfl)).trans ((funext (hA27 29 rfl)).trans ((funext (hA_c36 29 rfl)).trans (ew29)))))) (w30) ((funext (hA41 30 rfl)).trans ((funext (hA_181 30 rfl)).trans ((funext (hA_79 30 rfl)).trans ((funext (hA27 30 rfl)).trans ((funext (hA_c36 30 rfl)).trans (ew30)))))) (w79_34) ((funext (hA41 34 rfl)).trans ((funext (hA_181 34 rfl)).trans (ew79_34))) (w79_35) ((funext (hA41 35 rfl)).trans ((funext (hA_181 35 rfl)).trans (ew79_35))) (w79_36) ((funext (hA41 36 rfl)).trans ((funext (hA_181 36 rfl)).trans (ew79_36))) (w79_37) ((funext (hA41 37 rfl)).trans ((funext (hA_181 37 rfl)).trans (ew79_37))) (show inr ((-4)) from q_318) (show RT ((w79_35)) ((w79_36)) ((w79_37)) ((w79_34)) from j79_4) (show DI ((u5_4)) ((w27)) ((w28)) ((w29)) ((w30)) from h1) (show 0 ≤ (u5_4) ∧ (u5_4) ≤ 1 from r2) (show ((-4)) < 0 → (u5_2) = (u5_2) by first | exact q_2487 | omega))
                    · refine Ew_of (pcₚ := 218) (fun _ => x_aload_n rfl l181_0) ?_
                      refine w_gT H (o := 5) (t := 38) rfl (H.perm 5 rfl) rfl rfl rfl rfl rfl rfl ?_
                      refine Ew_of (pcₚ := 223) (fun _ => x_iload rfl l181_4) ?_
                      refine w_lJ H (o := 38) (n := 3) rfl (H.perm 38 rfl) rfl rfl (H.fix 38 rfl rfl) (show 0 ≤ x181_4 ∧ x181_4 < ((3 : Nat) : Int) from q_1422 b37 j181_1) (by decide) (fun v46 ev46 qv46 => ?_)
                      have qv46 : (-9223372036854775808 : Int) ≤ v46 ∧ v46 ≤ 9223372036854775807 := qv46
                      have ev46 : (upd1 (w181_38) (x181_4) (z42)) (x181_4) = v46 := (congrFun (congrArg (fun q => upd1 q (x181_4) (z42)) ((funext (hA41 38 rfl)).trans (ew181_38))) (x181_4)).symm.trans ev46
                      refine Ew_of (pcₚ := 225) (fun _ => x_aload_n rfl l181_0) ?_
                      refine w_gT H (o := 5) (t := 1) rfl (H.perm 5 rfl) rfl rfl rfl rfl rfl rfl ?_
                      refine w_gI H (o := 1) (w := F 1 1) rfl (H.perm 1 rfl) rfl rfl rfl (fun _ => rfl) (((((hS40 1 1 rfl).trans (hS_181 1 1 rfl)).trans (hS_79 1 1 rfl)).trans (hS26 1 1 rfl)).trans (hS_c36 1 1 rfl)) ?_
                      refine Ew_of (pcₚ := 232) (fun _ => x_iload_n rfl l181_1) ?_
                      refine w_isub rfl ?_
                      refine w_i2l rfl (show inr ((F 1 1 - (x79_3 + 12))) from q_1670 b36 j79_3 r3) ?_
                      have hq2 := ev46
                      rw [upd1_s] at hq2
                      refine w_lcmp rfl (show inrJ (v46) by omega) (show inrJ ((F 1 1 - (x79_3 + 12))) from q_1671 b36 j79_3 r3) (fun z47 gz47 gaz47 gbz47 => ?_)
                      refine w_ifle (t := 241) rfl rfl (show inr (z47) from gz47) (fun b48 => ?_) (fun b48 => ?_)
                      · refine Ew_of (pcₚ := 244) (fun _ => x_iinc (len := 3) rfl (l181_4)) ?_
                        refine Ew_of (pcₚ := 181) (fun _ => x_goto rfl rfl) ?_
                        have hu0 : 0 < ((x181_4 + 1)) → 1 ≤ ((upd1 (w181_38) (x181_4) (z42))) 0 := by simp only [upd1]; omega
                        have hu1 : 1 < ((x181_4 + 1)) → 1 ≤ ((upd1 (w181_38) (x181_4) (z42))) 1 := by simp only [upd1]; omega
                        have hu2 : 2 < ((x181_4 + 1)) → 1 ≤ ((upd1 (w181_38) (x181_4) (z42))) 2 := by simp only [upd1]; omega
                        exact ih181 _ (msE hm181 q_595 (q_596 b37)) _ σ _ _ ((x181_4 + 1)) (rk_o (l181_0) rfl rfl) (rk_o (l181_1) rfl rfl) (rk_o (l181_2) rfl rfl) (rk_o (l181_3) rfl rfl) (rk_s) H (SF_trans (hS_181) hS40 (any_sub rfl)) (SA_upd (SA_trans (hA_181) hA41 (any_subA rfl)) rfl)  (upd1 (w181_38) (x181_4) (z42)) (congrArg (fun q => upd1 q (x181_4) (z42)) ((funext (hA41 38 rfl)).trans (ew181_38))) (show inr ((x181_4 + 1)) from q_594 b37 j181_1) (show 0 ≤ ((x181_4 + 1)) ∧ ((x181_4 + 1)) ≤ 3 from q_593 b37 j181_1) (show 0 < ((x181_4 + 1)) → 1 ≤ ((upd1 (w181_38) (x181_4) (z42))) 0 from hu0) (show 1 < ((x181_4 + 1)) → 1 ≤ ((upd1 (w181_38) (x181_4) (z42))) 1 from hu1) (show 2 < ((x181_4 + 1)) → 1 ≤ ((upd1 (w181_38) (x181_4) (z42))) 2 from hu2) rfl
                      · refine Ew_of (pcₚ := 240) (fun _ => x_bipush (z := -4) rfl (by decide)) ?_
                        exact w_ireturn rfl (k ((-4)) σ _ _ H (SF_trans (SF_trans (SF_trans (SF_trans (SF_trans (SF_refl) hS_c36 (any_sub rfl)) hS26 (any_sub rfl)) hS_79 (any_sub rfl)) hS_181 (any_sub rfl)) hS40 (any_sub rfl)) (SA_upd (SA_trans (SA_trans (SA_trans (SA_trans (SA_trans (SA_refl) hA_c36 (any_subA rfl)) hA27 (any_subA rfl)) hA_79 (any_subA rfl)) hA_181 (any_subA rfl)) hA41 (any_subA rfl)) rfl) (u5_2) (((((((hS40 5 2 rfl).trans (hS_181 5 2 rfl)).trans (hS_79 5 2 rfl)).trans (hS26 5 2 rfl)).trans (hS_c36 5 2 rfl)).trans (eu5_2))) (u5_4) (((((((hS40 5 4 rfl).trans (hS_181 5 4 rfl)).trans (hS_79 5 4 rfl)).trans (hS26 5 4 rfl)).trans (hS_c36 5 4 rfl)).trans (eu5_4))) (w27) ((funext (hA41 27 rfl)).trans ((funext (hA_181 27 rfl)).trans ((funext (hA_79 27 rfl)).trans ((funext (hA27 27 rfl)).trans ((funext (hA_c36 27 rfl)).trans (ew27)))))) (w28) ((funext (hA41 28 rfl)).trans ((funext (hA_181 28 rfl)).trans ((funext (hA_79 28 rfl)).trans ((funext (hA27 28 rfl)).trans ((funext (hA_c36 28 rfl)).trans (ew28)))))) (w29) ((funext (hA41 29 rfl)).trans ((funext (hA_181 29 rfl)).trans ((funext (hA_79 29 rfl)).trans ((funext (hA27 29 rfl)).trans ((funext (hA_c36 29 rfl)).trans (ew29)))))) (w30) ((funext (hA41 30 rfl)).trans ((funext (hA_181 30 rfl)).trans ((funext (hA_79 30 rfl)).trans ((funext (hA27 30 rfl)).trans ((funext (hA_c36 30 rfl)).trans (ew30)))))) (w79_34) ((funext (hA41 34 rfl)).trans ((funext (hA_181 34 rfl)).trans (ew79_34))) (w79_35) ((funext (hA41 35 rfl)).trans ((funext (hA_181 35 rfl)).trans (ew79_35))) (w79_36) ((funext (hA41 36 rfl)).trans ((funext (hA_181 36 rfl)).trans (ew79_36))) (w79_37) ((funext (hA41 37 rfl)).trans ((funext (hA_181 37 rfl)).trans (ew79_37))) (show inr ((-4)) from q_318) (show RT ((w79_35)) ((w79_36)) ((w79_37)) ((w79_34)) from j79_4) (show DI ((u5_4)) ((w27)) ((w28)) ((w29)) ((w30)) from h1) (show 0 ≤ (u5_4) ∧ (u5_4) ≤ 1 from r2) (show ((-4)) < 0 → (u5_2) = (u5_2) by first | exact q_2487 | omega))
              · refine Ew_of (pcₚ := 172) (fun _ => x_iconst rfl) ?_
                exact w_ireturn rfl (k ((-1)) σ _ _ H (SF_trans (SF_trans (SF_trans (SF_refl) hS_c36 (any_sub rfl)) hS26 (any_sub rfl)) hS_79 (any_sub rfl)) (SA_trans (SA_trans (SA_trans (SA_refl) hA_c36 (any_subA rfl)) hA27 (any_subA rfl)) hA_79 (any_subA rfl)) (u5_2) (((((hS_79 5 2 rfl).trans (hS26 5 2 rfl)).trans (hS_c36 5 2 rfl)).trans (eu5_2))) (u5_4) (((((hS_79 5 4 rfl).trans (hS26 5 4 rfl)).trans (hS_c36 5 4 rfl)).trans (eu5_4))) (w27) ((funext (hA_79 27 rfl)).trans ((funext (hA27 27 rfl)).trans ((funext (hA_c36 27 rfl)).trans (ew27)))) (w28) ((funext (hA_79 28 rfl)).trans ((funext (hA27 28 rfl)).trans ((funext (hA_c36 28 rfl)).trans (ew28)))) (w29) ((funext (hA_79 29 rfl)).trans ((funext (hA27 29 rfl)).trans ((funext (hA_c36 29 rfl)).trans (ew29)))) (w30) ((funext (hA_79 30 rfl)).trans ((funext (hA27 30 rfl)).trans ((funext (hA_c36 30 rfl)).trans (ew30)))) (w79_34) (ew79_34) (w79_35) (ew79_35) (w79_36) (ew79_36) (w79_37) (ew79_37) (show inr ((-1)) from q_16) (show RT ((w79_35)) ((w79_36)) ((w79_37)) ((w79_34)) from j79_4) (show DI ((u5_4)) ((w27)) ((w28)) ((w29)) ((w30)) from h1) (show 0 ≤ (u5_4) ∧ (u5_4) ≤ 1 from r2) (show ((-1)) < 0 → (u5_2) = (u5_2) by first | exact q_2488 | omega))
            · refine Ew_of (pcₚ := 87) (fun _ => x_iload rfl l79_4) ?_
              have hc105 : ∀ (tc105_0 : Int), ∀ (ls : rO) (σ : rS) (F_c105 : hF) (A_c105 : hA) , rlook ls 0 = some (.ref (D 5)) → rlook ls 2 = some (I (tc36_0)) → rlook ls 3 = some (I (x79_3)) → rlook ls 4 = some (I (x79_4)) → HS σ0 σ D N F_c105 A_c105 → SF [] F_79 F_c105 → SA [] A_79 A_c105 → (inr (tc105_0)) → (((x79_4) ≠ (0) ∧ (x79_4) ≠ (1) ∧ (tc105_0) = (0)) ∨ ((x79_4) ≠ (0) ∧ (x79_4) = (1) ∧ (tc105_0) = (2)) ∨ ((x79_4) = (0) ∧ (tc105_0) = (1))) → Ew 275 (d + 4) 105 ls [I (tc105_0)] σ c s Q := by
               as_aux_lemma =>
                intro tc105_0 ls σ F_c105 A_c105  lc105_0 lc105_2 lc105_3 lc105_4 H hS_c105 hA_c105   jc105_0 jc105_1
                refine Ew_of (pcₚ := 107) (fun _ => x_istore rfl) ?_
                refine Ew_of (pcₚ := 108) (fun _ => x_aload_n rfl (rk_o (lc105_0) rfl rfl)) ?_
                refine Ew_of (pcₚ := 109) (fun _ => x_iload_n rfl (rk_o (lc105_3) rfl rfl)) ?_
                refine Ew_of (pcₚ := 110) (fun _ => x_aload_n rfl (rk_o (lc105_0) rfl rfl)) ?_
                refine w_gT H (o := 5) (t := 1) rfl (H.perm 5 rfl) rfl rfl rfl rfl rfl rfl ?_
                refine w_gI H (o := 1) (w := F 1 1) rfl (H.perm 1 rfl) rfl rfl rfl (fun _ => rfl) ((((hS_c105 1 1 rfl).trans (hS_79 1 1 rfl)).trans (hS26 1 1 rfl)).trans (hS_c36 1 1 rfl)) ?_
                refine Ew_of (pcₚ := 118) (fun _ => x_iload rfl rk_s) ?_
                refine Ew_of (pcₚ := 119) (fun _ => x_iconst rfl) ?_
                have hc129 : ∀ (tc129_0 : Int), ∀ (ls : rO) (σ : rS) (F_c129 : hF) (A_c129 : hA) , rlook ls 0 = some (.ref (D 5)) → rlook ls 2 = some (I (tc36_0)) → rlook ls 4 = some (I (x79_4)) → rlook ls 5 = some (I (tc105_0)) → HS σ0 σ D N F_c129 A_c129 → SF [] F_c105 F_c129 → SA [] A_c105 A_c129 → (inr (tc129_0)) → (((tc105_0) ≠ (1) ∧ (tc129_0) = (9)) ∨ ((tc105_0) = (1) ∧ (tc129_0) = (8))) → Ew 275 (d + 4) 129 ls [I (tc129_0), I (F 1 1), I (x79_3), .ref (D 5)] σ c s Q := by
                 as_aux_lemma =>
                  intro tc129_0 ls σ F_c129 A_c129  lc129_0 lc129_2 lc129_4 lc129_5 H hS_c129 hA_c129   jc129_0 jc129_1
                  refine Ew_of (pcₚ := 131) (fun _ => x_iload rfl lc129_5) ?_
                  refine w_stat24 rfl rfl (by rfl) (M276 H (show inr (tc105_0) from jc105_0) (show 0 ≤ (tc105_0) ∧ (tc105_0) ≤ 2 from q_1672 jc105_1) (fun z53 σ F49 A50 H hS51 hA52 pz53_0 pz53_1 pz53_2 => ⟨rfl, ?_⟩))
                  refine w_inv H (o := 5) rfl rfl rfl (H.perm 5 rfl) rfl rfl (by rfl) (M261 H (show inr (x79_3) from j79_0) (show inr (F 1 1) from q_1661 b23 r3) (show inr (tc129_0) from jc129_0) (show inr (z53) from pz53_0) (show 0 ≤ (x79_3) ∧ (x79_3) ≤ 65536 ∧ (F 1 1) ≤ 65536 ∧ 0 ≤ (F 1 1) from q_1673 j79_3 r3) (show 6 ≤ (tc129_0) ∧ (tc129_0) ≤ 9 ∧ 0 ≤ (z53) ∧ (z53) ≤ 63 from q_1426 jc129_1 pz53_2) (fun z58 σ F54 A55 H hS56 hA57 y59 ey60 wq61 ewq62 pz58_0 pz58_1 pz58_2 => ⟨rfl, ?_⟩))
                  have r63 : (0 : Int) ≤ y59 ∧ y59 ≤ 20 := rngE (show (0 : Int) ≤ F54 5 19 ∧ F54 5 19 ≤ 20 from H.frng 5 19) (show F54 5 19 = y59 from (ey60))
                  refine Ew_of (pcₚ := 138) (fun _ => x_istore_n rfl) ?_
                  refine Ew_of (pcₚ := 139) (fun _ => x_iload_n rfl rk_s) ?_
                  refine w_ifge (t := 145) rfl rfl (show inr (z58) from pz58_0) (fun b64 => ?_) (fun b64 => ?_)
                  · have hsh := pz58_2 (by omega)
                    rw [pz53_1] at hsh
                    refine Ew_of (pcₚ := 146) (fun _ => x_aload_n rfl (rk_o (lc129_0) rfl rfl)) ?_
                    refine Ew_of (pcₚ := 148) (fun _ => x_iload rfl (rk_o (lc129_5) rfl rfl)) ?_
                    refine w_inv H (o := 5) rfl rfl rfl (H.perm 5 rfl) rfl rfl (by rfl) (M264 H (y59) ((ey60)) (w79_33) ((funext (hA57 33 rfl)).trans ((funext (hA52 33 rfl)).trans ((funext (hA_c129 33 rfl)).trans ((funext (hA_c105 33 rfl)).trans (ew79_33))))) (w79_34) ((funext (hA57 34 rfl)).trans ((funext (hA52 34 rfl)).trans ((funext (hA_c129 34 rfl)).trans ((funext (hA_c105 34 rfl)).trans (ew79_34))))) (w79_35) ((funext (hA57 35 rfl)).trans ((funext (hA52 35 rfl)).trans ((funext (hA_c129 35 rfl)).trans ((funext (hA_c105 35 rfl)).trans (ew79_35))))) (w79_36) ((funext (hA57 36 rfl)).trans ((funext (hA52 36 rfl)).trans ((funext (hA_c129 36 rfl)).trans ((funext (hA_c105 36 rfl)).trans (ew79_36))))) (w79_37) ((funext (hA57 37 rfl)).trans ((funext (hA52 37 rfl)).trans ((funext (hA_c129 37 rfl)).trans ((funext (hA_c105 37 rfl)).trans (ew79_37))))) (wq61) (ewq62) (show inr (tc105_0) from jc105_0) (show 0 ≤ (tc105_0) ∧ (tc105_0) ≤ 2 from q_1672 jc105_1) (show SH ((wq61)) 0 64 ((y59)) (lastOf ((tc105_0))) by assumption) (show RT ((w79_35)) ((w79_36)) ((w79_37)) ((w79_34)) from j79_4) (fun σ F65 A66 H hS67 hA68 wq70 ewq71 wq72 ewq73 wq74 ewq75 wq76 ewq77 wq78 ewq79 pz69_0 pz69_1 pz69_2 pz69_3 => ⟨rfl, ?_⟩))
                    refine Ew_of (pcₚ := 154) (fun _ => x_iinc (len := 3) rfl (rk_o (lc129_4) rfl rfl)) ?_
                    refine Ew_of (pcₚ := 79) (fun _ => x_goto rfl rfl) ?_
                    have hl5 : ((x79_4 + 1)) - 1 = 0 ∧ (tc105_0) = 1 ∨ ((x79_4 + 1)) - 1 = 1 ∧ (tc105_0) = 2 ∨ ((x79_4 + 1)) - 1 = 2 ∧ (tc105_0) = 0 := by omega
                    have : 0 < ((x79_4 + 1)) → PS ((wq70)) ((wq72)) 1 := fun q => by by_cases e : (tc105_0) = 1; rw [← e]; exact pz69_1; exact PS_frm (j79_5 (by omega)) pz69_2 pz69_3 (by omega)
                    have : 1 < ((x79_4 + 1)) → PS ((wq70)) ((wq72)) 2 := fun q => by by_cases e : (tc105_0) = 2; rw [← e]; exact pz69_1; exact PS_frm (j79_6 (by omega)) pz69_2 pz69_3 (by omega)
                    have : 2 < ((x79_4 + 1)) → PS ((wq70)) ((wq72)) 0 := fun q => by by_cases e : (tc105_0) = 0; rw [← e]; exact pz69_1; exact PS_frm (j79_7 (by omega)) pz69_2 pz69_3 (by omega)
                    exact ih79 _ (msE hm79 q_595 (q_596 b35)) _ σ _ _ (z58) ((x79_4 + 1)) (rk_o (rk_o (lc129_0) rfl rfl) rfl rfl) (rk_o (rk_o (lc129_2) rfl rfl) rfl rfl) (rk_o (rk_s) rfl rfl) (rk_s) H (SF_trans (SF_trans (SF_trans (SF_trans (SF_trans (hS_79) hS_c105 (any_sub rfl)) hS_c129 (any_sub rfl)) hS51 (any_sub rfl)) hS56 (any_sub rfl)) hS67 (any_sub rfl)) (SA_trans (SA_trans (SA_trans (SA_trans (SA_trans (hA_79) hA_c105 (any_subA rfl)) hA_c129 (any_subA rfl)) hA52 (any_subA rfl)) hA57 (any_subA rfl)) hA68 (any_subA rfl))  (wq70) (ewq71) (wq72) (ewq73) (wq74) (ewq75) (wq76) (ewq77) (wq78) (ewq79) (show inr (z58) from pz58_0) (show inr ((x79_4 + 1)) from q_594 b35 j79_2) (show 0 ≤ ((x79_4 + 1)) ∧ ((x79_4 + 1)) ≤ 3 from q_593 b35 j79_2) (show 8 ≤ (z58) ∧ (z58) ≤ (F 1 1) from q_1674 b23 b64 j79_3 pz58_1 pz58_2) (show RT ((wq74)) ((wq76)) ((wq78)) ((wq72)) from pz69_0) (show 0 < ((x79_4 + 1)) → PS ((wq70)) ((wq72)) 1 by assumption) (show 1 < ((x79_4 + 1)) → PS ((wq70)) ((wq72)) 2 by assumption) (show 2 < ((x79_4 + 1)) → PS ((wq70)) ((wq72)) 0 by assumption) rfl
                  · refine Ew_of (pcₚ := 144) (fun _ => x_bipush (z := -3) rfl (by decide)) ?_
                    exact w_ireturn rfl (k ((-3)) σ _ _ H (SF_trans (SF_trans (SF_trans (SF_trans (SF_trans (SF_trans (SF_trans (SF_refl) hS_c36 (any_sub rfl)) hS26 (any_sub rfl)) hS_79 (any_sub rfl)) hS_c105 (any_sub rfl)) hS_c129 (any_sub rfl)) hS51 (any_sub rfl)) hS56 (any_sub rfl)) (SA_trans (SA_trans (SA_trans (SA_trans (SA_trans (SA_trans (SA_trans (SA_refl) hA_c36 (any_subA rfl)) hA27 (any_subA rfl)) hA_79 (any_subA rfl)) hA_c105 (any_subA rfl)) hA_c129 (any_subA rfl)) hA52 (any_subA rfl)) hA57 (any_subA rfl)) (u5_2) (((((((((hS56 5 2 rfl).trans (hS51 5 2 rfl)).trans (hS_c129 5 2 rfl)).trans (hS_c105 5 2 rfl)).trans (hS_79 5 2 rfl)).trans (hS26 5 2 rfl)).trans (hS_c36 5 2 rfl)).trans (eu5_2))) (u5_4) (((((((((hS56 5 4 rfl).trans (hS51 5 4 rfl)).trans (hS_c129 5 4 rfl)).trans (hS_c105 5 4 rfl)).trans (hS_79 5 4 rfl)).trans (hS26 5 4 rfl)).trans (hS_c36 5 4 rfl)).trans (eu5_4))) (w27) ((funext (hA57 27 rfl)).trans ((funext (hA52 27 rfl)).trans ((funext (hA_c129 27 rfl)).trans ((funext (hA_c105 27 rfl)).trans ((funext (hA_79 27 rfl)).trans ((funext (hA27 27 rfl)).trans ((funext (hA_c36 27 rfl)).trans (ew27)))))))) (w28) ((funext (hA57 28 rfl)).trans ((funext (hA52 28 rfl)).trans ((funext (hA_c129 28 rfl)).trans ((funext (hA_c105 28 rfl)).trans ((funext (hA_79 28 rfl)).trans ((funext (hA27 28 rfl)).trans ((funext (hA_c36 28 rfl)).trans (ew28)))))))) (w29) ((funext (hA57 29 rfl)).trans ((funext (hA52 29 rfl)).trans ((funext (hA_c129 29 rfl)).trans ((funext (hA_c105 29 rfl)).trans ((funext (hA_79 29 rfl)).trans ((funext (hA27 29 rfl)).trans ((funext (hA_c36 29 rfl)).trans (ew29)))))))) (w30) ((funext (hA57 30 rfl)).trans ((funext (hA52 30 rfl)).trans ((funext (hA_c129 30 rfl)).trans ((funext (hA_c105 30 rfl)).trans ((funext (hA_79 30 rfl)).trans ((funext (hA27 30 rfl)).trans ((funext (hA_c36 30 rfl)).trans (ew30)))))))) (w79_34) ((funext (hA57 34 rfl)).trans ((funext (hA52 34 rfl)).trans ((funext (hA_c129 34 rfl)).trans ((funext (hA_c105 34 rfl)).trans (ew79_34))))) (w79_35) ((funext (hA57 35 rfl)).trans ((funext (hA52 35 rfl)).trans ((funext (hA_c129 35 rfl)).trans ((funext (hA_c105 35 rfl)).trans (ew79_35))))) (w79_36) ((funext (hA57 36 rfl)).trans ((funext (hA52 36 rfl)).trans ((funext (hA_c129 36 rfl)).trans ((funext (hA_c105 36 rfl)).trans (ew79_36))))) (w79_37) ((funext (hA57 37 rfl)).trans ((funext (hA52 37 rfl)).trans ((funext (hA_c129 37 rfl)).trans ((funext (hA_c105 37 rfl)).trans (ew79_37))))) (show inr ((-3)) from q_1675) (show RT ((w79_35)) ((w79_36)) ((w79_37)) ((w79_34)) from j79_4) (show DI ((u5_4)) ((w27)) ((w28)) ((w29)) ((w30)) from h1) (show 0 ≤ (u5_4) ∧ (u5_4) ≤ 1 from r2) (show ((-3)) < 0 → (u5_2) = (u5_2) by first | exact q_2489 | omega))
                refine w_icmpne (t := 127) rfl rfl (show inr (tc105_0) from jc105_0) (show inr (1) from q_23) (fun b80 => ?_) (fun b80 => ?_)
                · refine Ew_of (pcₚ := 129) (fun _ => x_bipush (z := 9) rfl (by decide)) ?_
                  exact hc129 (9) _ σ _ _  (rk_o (lc105_0) rfl rfl) (rk_o (lc105_2) rfl rfl) (rk_o (lc105_4) rfl rfl) (rk_s) H (SF_refl) (SA_refl)   (show inr (9) from q_19) (show ((tc105_0) ≠ (1) ∧ (9) = (9)) ∨ ((tc105_0) = (1) ∧ (9) = (8)) from q_1430 b80)
                · refine Ew_of (pcₚ := 124) (fun _ => x_bipush (z := 8) rfl (by decide)) ?_
                  refine Ew_of (pcₚ := 129) (fun _ => x_goto rfl rfl) ?_
                  exact hc129 (8) _ σ _ _  (rk_o (lc105_0) rfl rfl) (rk_o (lc105_2) rfl rfl) (rk_o (lc105_4) rfl rfl) (rk_s) H (SF_refl) (SA_refl)   (show inr (8) from q_96) (show ((tc105_0) ≠ (1) ∧ (8) = (9)) ∨ ((tc105_0) = (1) ∧ (8) = (8)) from q_1431 b80)
              refine w_ifne (t := 94) rfl rfl (show inr (x79_4) from j79_1) (fun b81 => ?_) (fun b81 => ?_)
              · refine Ew_of (pcₚ := 96) (fun _ => x_iload rfl l79_4) ?_
                refine Ew_of (pcₚ := 97) (fun _ => x_iconst rfl) ?_
                refine w_icmpne (t := 104) rfl rfl (show inr (x79_4) from j79_1) (show inr (1) from q_23) (fun b82 => ?_) (fun b82 => ?_)
                · refine Ew_of (pcₚ := 105) (fun _ => x_iconst rfl) ?_
                  exact hc105 (0) _ σ _ _  (l79_0) (l79_2) (l79_3) (l79_4) H (SF_refl) (SA_refl)   (show inr (0) from q_20) (show ((x79_4) ≠ (0) ∧ (x79_4) ≠ (1) ∧ (0) = (0)) ∨ ((x79_4) ≠ (0) ∧ (x79_4) = (1) ∧ (0) = (2)) ∨ ((x79_4) = (0) ∧ (0) = (1)) from q_1676 b81 b82)
                · refine Ew_of (pcₚ := 101) (fun _ => x_iconst rfl) ?_
                  refine Ew_of (pcₚ := 105) (fun _ => x_goto rfl rfl) ?_
                  exact hc105 (2) _ σ _ _  (l79_0) (l79_2) (l79_3) (l79_4) H (SF_refl) (SA_refl)   (show inr (2) from q_55) (show ((x79_4) ≠ (0) ∧ (x79_4) ≠ (1) ∧ (2) = (0)) ∨ ((x79_4) ≠ (0) ∧ (x79_4) = (1) ∧ (2) = (2)) ∨ ((x79_4) = (0) ∧ (2) = (1)) from q_1677 b81 b82)
              · refine Ew_of (pcₚ := 91) (fun _ => x_iconst rfl) ?_
                refine Ew_of (pcₚ := 105) (fun _ => x_goto rfl rfl) ?_
                exact hc105 (1) _ σ _ _  (l79_0) (l79_2) (l79_3) (l79_4) H (SF_refl) (SA_refl)   (show inr (1) from q_23) (show ((x79_4) ≠ (0) ∧ (x79_4) ≠ (1) ∧ (1) = (0)) ∨ ((x79_4) ≠ (0) ∧ (x79_4) = (1) ∧ (1) = (2)) ∨ ((x79_4) = (0) ∧ (1) = (1)) from q_1678 b81)
        · refine Ew_of (pcₚ := 75) (fun _ => x_bipush (z := -2) rfl (by decide)) ?_
          exact w_ireturn rfl (k ((-2)) σ _ _ H (SF_trans (SF_trans (SF_refl) hS_c36 (any_sub rfl)) hS26 (any_sub rfl)) (SA_trans (SA_trans (SA_refl) hA_c36 (any_subA rfl)) hA27 (any_subA rfl)) (u5_2) ((((hS26 5 2 rfl).trans (hS_c36 5 2 rfl)).trans (eu5_2))) (u5_4) ((((hS26 5 4 rfl).trans (hS_c36 5 4 rfl)).trans (eu5_4))) (w27) ((funext (hA27 27 rfl)).trans ((funext (hA_c36 27 rfl)).trans (ew27))) (w28) ((funext (hA27 28 rfl)).trans ((funext (hA_c36 28 rfl)).trans (ew28))) (w29) ((funext (hA27 29 rfl)).trans ((funext (hA_c36 29 rfl)).trans (ew29))) (w30) ((funext (hA27 30 rfl)).trans ((funext (hA_c36 30 rfl)).trans (ew30))) (w34) ((funext (hA27 34 rfl)).trans ((funext (hA_c36 34 rfl)).trans (ew34))) (w35) ((funext (hA27 35 rfl)).trans ((funext (hA_c36 35 rfl)).trans (ew35))) (w36) ((funext (hA27 36 rfl)).trans ((funext (hA_c36 36 rfl)).trans (ew36))) (w37) ((funext (hA27 37 rfl)).trans ((funext (hA_c36 37 rfl)).trans (ew37))) (show inr ((-2)) from q_107) (show RT ((w35)) ((w36)) ((w37)) ((w34)) from h0) (show DI ((u5_4)) ((w27)) ((w28)) ((w29)) ((w30)) from h1) (show 0 ≤ (u5_4) ∧ (u5_4) ≤ 1 from r2) (show ((-2)) < 0 → (u5_2) = (u5_2) by first | exact q_2490 | omega))
      · refine Ew_of (pcₚ := 54) (fun _ => x_iconst rfl) ?_
        exact w_ireturn rfl (k ((-1)) σ _ _ H (SF_trans (SF_refl) hS_c36 (any_sub rfl)) (SA_trans (SA_refl) hA_c36 (any_subA rfl)) (u5_2) (((hS_c36 5 2 rfl).trans (eu5_2))) (u5_4) (((hS_c36 5 4 rfl).trans (eu5_4))) (w27) ((funext (hA_c36 27 rfl)).trans (ew27)) (w28) ((funext (hA_c36 28 rfl)).trans (ew28)) (w29) ((funext (hA_c36 29 rfl)).trans (ew29)) (w30) ((funext (hA_c36 30 rfl)).trans (ew30)) (w34) ((funext (hA_c36 34 rfl)).trans (ew34)) (w35) ((funext (hA_c36 35 rfl)).trans (ew35)) (w36) ((funext (hA_c36 36 rfl)).trans (ew36)) (w37) ((funext (hA_c36 37 rfl)).trans (ew37)) (show inr ((-1)) from q_16) (show RT ((w35)) ((w36)) ((w37)) ((w34)) from h0) (show DI ((u5_4)) ((w27)) ((w28)) ((w29)) ((w30)) from h1) (show 0 ≤ (u5_4) ∧ (u5_4) ≤ 1 from r2) (show ((-1)) < 0 → (u5_2) = (u5_2) by first | exact q_2488 | omega))
  refine Ew_of (pcₚ := 3) (fun _ => x_aload_n rfl (rk_o (rfl) rfl rfl)) ?_
  refine w_gT H (o := 5) (t := 1) rfl (H.perm 5 rfl) rfl rfl rfl rfl rfl rfl ?_
  refine w_gI H (o := 1) (w := F 1 1) rfl (H.perm 1 rfl) rfl rfl rfl (fun _ => rfl) rfl ?_
  refine Ew_of (pcₚ := 10) (fun _ => x_iconst rfl) ?_
  refine w_icmplt (t := 35) rfl rfl (show inr (F 1 1) from q_12 r3) (show inr (4) from q_2) (fun b83 => ?_) (fun b83 => ?_)
  · refine Ew_of (pcₚ := 36) (fun _ => x_iconst rfl) ?_
    exact hc36 (0) _ σ _ _  (rk_o (rfl) rfl rfl) (rk_s) H (SF_refl) (SA_refl)   (show inr (0) from q_20) (show (0) = 0 ∨ (0) = 1 ∧ 4 ≤ (F 1 1) from q_1679)
  · refine Ew_of (pcₚ := 14) (fun _ => x_aload_n rfl (rk_o (rfl) rfl rfl)) ?_
    refine Ew_of (pcₚ := 15) (fun _ => x_iconst rfl) ?_
    refine Ew_of (pcₚ := 17) (fun _ => x_bipush (z := 55) rfl (by decide)) ?_
    refine Ew_of (pcₚ := 20) (fun _ => x_sipush (z := 164) rfl (by decide)) ?_
    refine Ew_of (pcₚ := 22) (fun _ => x_bipush (z := 48) rfl (by decide)) ?_
    refine Ew_of (pcₚ := 25) (fun _ => x_sipush (z := 236) rfl (by decide)) ?_
    refine w_inv H (o := 5) rfl rfl rfl (H.perm 5 rfl) rfl rfl (by rfl) (M258 H (show inr (0) from q_20) (show inr (55) from q_1683) (show inr (164) from q_1682) (show inr (48) from q_1264) (show inr (236) from q_1681) (show 0 ≤ (0) ∧ (0) ≤ 65532 from q_1680) (fun z88 σ F84 A85 H hS86 hA87 pz88_0 => ⟨rretB rfl pz88_0, ?_⟩))
    refine w_ifeq (t := 35) rfl rfl (show inr (z88) from q_15 pz88_0) (fun b89 => ?_) (fun b89 => ?_)
    · refine Ew_of (pcₚ := 36) (fun _ => x_iconst rfl) ?_
      exact hc36 (0) _ σ _ _  (rk_o (rfl) rfl rfl) (rk_s) H (SF_trans (SF_refl) hS86 (any_sub rfl)) (SA_trans (SA_refl) hA87 (any_subA rfl))   (show inr (0) from q_20) (show (0) = 0 ∨ (0) = 1 ∧ 4 ≤ (F 1 1) from q_1679)
    · refine Ew_of (pcₚ := 32) (fun _ => x_iconst rfl) ?_
      refine Ew_of (pcₚ := 36) (fun _ => x_goto rfl rfl) ?_
      exact hc36 (1) _ σ _ _  (rk_o (rfl) rfl rfl) (rk_s) H (SF_trans (SF_refl) hS86 (any_sub rfl)) (SA_trans (SA_refl) hA87 (any_subA rfl))   (show inr (1) from q_23) (show (1) = 0 ∨ (1) = 1 ∧ 4 ≤ (F 1 1) from q_1684 b83)
/-- Model.learn -/
theorem M77b {σ0 σ : rS} {D N : Nat → Nat} {F : hF} {A : hA} {d c s : Nat} {Q : wQ} (H : HS σ0 σ D N F A) {a1 : Int} (u5_2 : Int) (eu5_2 : F 5 2 = u5_2) (u5_4 : Int) (eu5_4 : F 5 4 = u5_4) (u6_4 : Int) (eu6_4 : F 6 4 = u6_4) (u6_6 : Int) (eu6_6 : F 6 6 = u6_6) (w27 : Int → Int) (ew27 : A 27 = w27) (w28 : Int → Int) (ew28 : A 28 = w28) (w29 : Int → Int) (ew29 : A 29 = w29) (w30 : Int → Int) (ew30 : A 30 = w30) (w34 : Int → Int) (ew34 : A 34 = w34) (w35 : Int → Int) (ew35 : A 35 = w35) (w36 : Int → Int) (ew36 : A 36 = w36) (w37 : Int → Int) (ew37 : A 37 = w37) (w49 : Int → Int) (ew49 : A 49 = w49) (w50 : Int → Int) (ew50 : A 50 = w50) (w51 : Int → Int) (ew51 : A 51 = w51) (h0 : inr (a1)) (h1 : RT ((w35)) ((w36)) ((w37)) ((w34))) (h2 : DI ((u5_4)) ((w27)) ((w28)) ((w29)) ((w30))) (h3 : DW ((u6_6)) ((w49)) ((w50)) ((w51))) (h4 : (u6_4) = (u5_2)) (k : ∀ (z : Int) σ Fₚ Aₚ, HS σ0 σ D N Fₚ Aₚ → SF [(1, 1), (5, 2), (5, 3), (5, 4), (5, 10), (5, 19), (5, 44), (5, 45), (6, 4), (6, 5), (6, 6)] F Fₚ → SA [14, 26, 27, 28, 29, 30, 31, 32, 33, 34, 35, 36, 37, 38, 39, 40, 41, 42, 43, 44, 48, 49, 50, 51, 52] A Aₚ → ∀ y5_2 : Int, Fₚ 5 2 = y5_2 → ∀ y5_4 : Int, Fₚ 5 4 = y5_4 → ∀ y6_4 : Int, Fₚ 6 4 = y6_4 → ∀ y6_6 : Int, Fₚ 6 6 = y6_6 → ∀ v27 : Int → Int, Aₚ 27 = v27 → ∀ v28 : Int → Int, Aₚ 28 = v28 → ∀ v29 : Int → Int, Aₚ 29 = v29 → ∀ v30 : Int → Int, Aₚ 30 = v30 → ∀ v34 : Int → Int, Aₚ 34 = v34 → ∀ v35 : Int → Int, Aₚ 35 = v35 → ∀ v36 : Int → Int, Aₚ 36 = v36 → ∀ v37 : Int → Int, Aₚ 37 = v37 → ∀ v49 : Int → Int, Aₚ 49 = v49 → ∀ v50 : Int → Int, Aₚ 50 = v50 → ∀ v51 : Int → Int, Aₚ 51 = v51 → (inr (z)) → (RT ((v35)) ((v36)) ((v37)) ((v34))) → (DI ((y5_4)) ((v27)) ((v28)) ((v29)) ((v30))) → (DW ((y6_6)) ((v49)) ((v50)) ((v51))) → ((y6_4) = (y5_2)) → Q (some (I z)) σ c s) : Ew 77 (d + 5) 0 (rargs 0 [.ref (D 0), I a1]) [] σ c s Q := by
  have r1 : (0 : Int) ≤ u5_2 ∧ u5_2 ≤ 65536 := rngE (show (0 : Int) ≤ F 5 2 ∧ F 5 2 ≤ 65536 from H.frng 5 2) (show F 5 2 = u5_2 from (eu5_2))
  have r2 : (0 : Int) ≤ u5_4 ∧ u5_4 ≤ 1 := rngE (show (0 : Int) ≤ F 5 4 ∧ F 5 4 ≤ 1 from H.frng 5 4) (show F 5 4 = u5_4 from (eu5_4))
  have r3 : (0 : Int) ≤ u6_4 ∧ u6_4 ≤ 65536 := rngE (show (0 : Int) ≤ F 6 4 ∧ F 6 4 ≤ 65536 from H.frng 6 4) (show F 6 4 = u6_4 from (eu6_4))
  have r4 : (0 : Int) ≤ u6_6 ∧ u6_6 ≤ 1 := rngE (show (0 : Int) ≤ F 6 6 ∧ F 6 6 ≤ 1 from H.frng 6 6) (show F 6 6 = u6_6 from (eu6_6))
  refine Ew_of (pcₚ := 1) (fun _ => x_iload_n rfl rfl) ?_
  refine w_stat24 rfl rfl (by rfl) (M56 H (show inr (a1) from h0) (fun z9 σ F5 A6 H hS7 hA8 pz9_0 pz9_1 => ⟨rretB rfl pz9_0, ?_⟩))
  refine w_ifne (t := 10) rfl rfl (show inr (z9) from q_15 pz9_0) (fun b10 => ?_) (fun b10 => ?_)
  · refine Ew_of (pcₚ := 11) (fun _ => x_aload_n rfl rfl) ?_
    refine Ew_of (pcₚ := 12) (fun _ => x_iload_n rfl rfl) ?_
    refine w_inv H (o := 0) rfl rfl rfl (H.perm 0 rfl) rfl rfl (by rfl) (M74 H (show inr (a1) from h0) (show 0 ≤ (a1) ∧ (a1) ≤ 3 from q_40 b10 pz9_0 pz9_1) (fun σ F11 A12 H hS13 hA14 => ⟨rfl, ?_⟩))
    refine Ew_of (pcₚ := 16) (fun _ => x_aload_n rfl rfl) ?_
    refine w_gT H (o := 0) (t := 5) rfl (H.perm 0 rfl) rfl rfl rfl rfl rfl rfl ?_
    refine w_inv H (o := 5) rfl rfl rfl (H.perm 5 rfl) rfl rfl (by rfl) (M275b H (u5_2) ((((hS13 5 2 rfl).trans (hS7 5 2 rfl)).trans (eu5_2))) (u5_4) ((((hS13 5 4 rfl).trans (hS7 5 4 rfl)).trans (eu5_4))) (w27) ((funext (hA14 27 rfl)).trans ((funext (hA8 27 rfl)).trans (ew27))) (w28) ((funext (hA14 28 rfl)).trans ((funext (hA8 28 rfl)).trans (ew28))) (w29) ((funext (hA14 29 rfl)).trans ((funext (hA8 29 rfl)).trans (ew29))) (w30) ((funext (hA14 30 rfl)).trans ((funext (hA8 30 rfl)).trans (ew30))) (w34) ((funext (hA14 34 rfl)).trans ((funext (hA8 34 rfl)).trans (ew34))) (w35) ((funext (hA14 35 rfl)).trans ((funext (hA8 35 rfl)).trans (ew35))) (w36) ((funext (hA14 36 rfl)).trans ((funext (hA8 36 rfl)).trans (ew36))) (w37) ((funext (hA14 37 rfl)).trans ((funext (hA8 37 rfl)).trans (ew37))) (show RT ((w35)) ((w36)) ((w37)) ((w34)) from h1) (show DI ((u5_4)) ((w27)) ((w28)) ((w29)) ((w30)) from h2) (fun z20 σ F16 A17 H hS18 hA19 y21 ey22 y23 ey24 wq25 ewq26 wq27 ewq28 wq29 ewq30 wq31 ewq32 wq33 ewq34 wq35 ewq36 wq37 ewq38 wq39 ewq40 pz20_0 pz20_1 pz20_2 pz20_3 pz20_4 => ⟨rfl, ?_⟩))
    have r41 : (0 : Int) ≤ y21 ∧ y21 ≤ 65536 := rngE (show (0 : Int) ≤ F16 5 2 ∧ F16 5 2 ≤ 65536 from H.frng 5 2) (show F16 5 2 = y21 from (ey22))
    have r42 : (0 : Int) ≤ y23 ∧ y23 ≤ 1 := rngE (show (0 : Int) ≤ F16 5 4 ∧ F16 5 4 ≤ 1 from H.frng 5 4) (show F16 5 4 = y23 from (ey24))
    refine Ew_of (pcₚ := 23) (fun _ => x_istore_n rfl) ?_
    refine Ew_of (pcₚ := 24) (fun _ => x_iload_n rfl rk_s) ?_
    refine w_iflt (t := 38) rfl rfl (show inr (z20) from pz20_0) (fun b43 => ?_) (fun b43 => ?_)
    · refine Ew_of (pcₚ := 39) (fun _ => x_iload_n rfl rk_s) ?_
      exact w_ireturn rfl (k (z20) σ _ _ H (SF_trans (SF_trans (SF_trans (SF_refl) hS7 (any_sub rfl)) hS13 (any_sub rfl)) hS18 (any_sub rfl)) (SA_trans (SA_trans (SA_trans (SA_refl) hA8 (any_subA rfl)) hA14 (any_subA rfl)) hA19 (any_subA rfl)) (y21) ((ey22)) (y23) ((ey24)) (u6_4) (((((hS18 6 4 rfl).trans (hS13 6 4 rfl)).trans (hS7 6 4 rfl)).trans (eu6_4))) (u6_6) (((((hS18 6 6 rfl).trans (hS13 6 6 rfl)).trans (hS7 6 6 rfl)).trans (eu6_6))) (wq25) (ewq26) (wq27) (ewq28) (wq29) (ewq30) (wq31) (ewq32) (wq33) (ewq34) (wq35) (ewq36) (wq37) (ewq38) (wq39) (ewq40) (w49) ((funext (hA19 49 rfl)).trans ((funext (hA14 49 rfl)).trans ((funext (hA8 49 rfl)).trans (ew49)))) (w50) ((funext (hA19 50 rfl)).trans ((funext (hA14 50 rfl)).trans ((funext (hA8 50 rfl)).trans (ew50)))) (w51) ((funext (hA19 51 rfl)).trans ((funext (hA14 51 rfl)).trans ((funext (hA8 51 rfl)).trans (ew51)))) (show inr (z20) from pz20_0) (show RT ((wq35)) ((wq37)) ((wq39)) ((wq33)) from pz20_1) (show DI ((y23)) ((wq25)) ((wq27)) ((wq29)) ((wq31)) from pz20_2) (show DW ((u6_6)) ((w49)) ((w50)) ((w51)) from h3) (show (u6_4) = (y21) from q_2491 b43 h4 pz20_4))
    · refine Ew_of (pcₚ := 28) (fun _ => x_aload_n rfl (rk_o (rfl) rfl rfl)) ?_
      refine w_gT H (o := 0) (t := 6) rfl (H.perm 0 rfl) rfl rfl rfl rfl rfl rfl ?_
      refine Ew_of (pcₚ := 32) (fun _ => x_aload_n rfl (rk_o (rfl) rfl rfl)) ?_
      refine w_gT H (o := 0) (t := 5) rfl (H.perm 0 rfl) rfl rfl rfl rfl rfl rfl ?_
      refine w_inv H (o := 6) rfl rfl rfl (H.perm 6 rfl) rfl rfl (by rfl) (M388_5 H (y21) ((ey22)) (y23) ((ey24)) (wq25) (ewq26) (wq27) (ewq28) (wq29) (ewq30) (wq31) (ewq32) (show DI ((y23)) ((wq25)) ((wq27)) ((wq29)) ((wq31)) from pz20_2) (fun σ F44 A45 H hS46 hA47 y49 ey50 y51 ey52 wq53 ewq54 wq55 ewq56 wq57 ewq58 pz48_0 pz48_1 => ⟨rfl, ?_⟩))
      have r59 : (0 : Int) ≤ y49 ∧ y49 ≤ 65536 := rngE (show (0 : Int) ≤ F44 6 4 ∧ F44 6 4 ≤ 65536 from H.frng 6 4) (show F44 6 4 = y49 from (ey50))
      have r60 : (0 : Int) ≤ y51 ∧ y51 ≤ 1 := rngE (show (0 : Int) ≤ F44 6 6 ∧ F44 6 6 ≤ 1 from H.frng 6 6) (show F44 6 6 = y51 from (ey52))
      refine Ew_of (pcₚ := 39) (fun _ => x_iload_n rfl rk_s) ?_
      exact w_ireturn rfl (k (z20) σ _ _ H (SF_trans (SF_trans (SF_trans (SF_trans (SF_refl) hS7 (any_sub rfl)) hS13 (any_sub rfl)) hS18 (any_sub rfl)) hS46 (any_sub rfl)) (SA_trans (SA_trans (SA_trans (SA_trans (SA_refl) hA8 (any_subA rfl)) hA14 (any_subA rfl)) hA19 (any_subA rfl)) hA47 (any_subA rfl)) (y21) (((hS46 5 2 rfl).trans (ey22))) (y23) (((hS46 5 4 rfl).trans (ey24))) (y49) ((ey50)) (y51) ((ey52)) (wq25) ((funext (hA47 27 rfl)).trans (ewq26)) (wq27) ((funext (hA47 28 rfl)).trans (ewq28)) (wq29) ((funext (hA47 29 rfl)).trans (ewq30)) (wq31) ((funext (hA47 30 rfl)).trans (ewq32)) (wq33) ((funext (hA47 34 rfl)).trans (ewq34)) (wq35) ((funext (hA47 35 rfl)).trans (ewq36)) (wq37) ((funext (hA47 36 rfl)).trans (ewq38)) (wq39) ((funext (hA47 37 rfl)).trans (ewq40)) (wq53) (ewq54) (wq55) (ewq56) (wq57) (ewq58) (show inr (z20) from pz20_0) (show RT ((wq35)) ((wq37)) ((wq39)) ((wq33)) from pz20_1) (show DI ((y23)) ((wq25)) ((wq27)) ((wq29)) ((wq31)) from pz20_2) (show DW ((y51)) ((wq53)) ((wq55)) ((wq57)) from pz48_0) (show (y49) = (y21) from pz48_1))
  · refine Ew_of (pcₚ := 9) (fun _ => x_bipush (z := -5) rfl (by decide)) ?_
    exact w_ireturn rfl (k ((-5)) σ _ _ H (SF_trans (SF_refl) hS7 (any_sub rfl)) (SA_trans (SA_refl) hA8 (any_subA rfl)) (u5_2) (((hS7 5 2 rfl).trans (eu5_2))) (u5_4) (((hS7 5 4 rfl).trans (eu5_4))) (u6_4) (((hS7 6 4 rfl).trans (eu6_4))) (u6_6) (((hS7 6 6 rfl).trans (eu6_6))) (w27) ((funext (hA8 27 rfl)).trans (ew27)) (w28) ((funext (hA8 28 rfl)).trans (ew28)) (w29) ((funext (hA8 29 rfl)).trans (ew29)) (w30) ((funext (hA8 30 rfl)).trans (ew30)) (w34) ((funext (hA8 34 rfl)).trans (ew34)) (w35) ((funext (hA8 35 rfl)).trans (ew35)) (w36) ((funext (hA8 36 rfl)).trans (ew36)) (w37) ((funext (hA8 37 rfl)).trans (ew37)) (w49) ((funext (hA8 49 rfl)).trans (ew49)) (w50) ((funext (hA8 50 rfl)).trans (ew50)) (w51) ((funext (hA8 51 rfl)).trans (ew51)) (show inr ((-5)) from q_2007) (show RT ((w35)) ((w36)) ((w37)) ((w34)) from h1) (show DI ((u5_4)) ((w27)) ((w28)) ((w29)) ((w30)) from h2) (show DW ((u6_6)) ((w49)) ((w50)) ((w51)) from h3) (show (u6_4) = (u5_2) from h4))
/-- Model.forget -/
theorem M78b {σ0 σ : rS} {D N : Nat → Nat} {F : hF} {A : hA} {d c s : Nat} {Q : wQ} (H : HS σ0 σ D N F A) {a1 : Int} (u5_2 : Int) (eu5_2 : F 5 2 = u5_2) (u5_4 : Int) (eu5_4 : F 5 4 = u5_4) (u6_4 : Int) (eu6_4 : F 6 4 = u6_4) (u6_6 : Int) (eu6_6 : F 6 6 = u6_6) (w27 : Int → Int) (ew27 : A 27 = w27) (w28 : Int → Int) (ew28 : A 28 = w28) (w29 : Int → Int) (ew29 : A 29 = w29) (w30 : Int → Int) (ew30 : A 30 = w30) (w49 : Int → Int) (ew49 : A 49 = w49) (w50 : Int → Int) (ew50 : A 50 = w50) (w51 : Int → Int) (ew51 : A 51 = w51) (h0 : inr (a1)) (h1 : DI ((u5_4)) ((w27)) ((w28)) ((w29)) ((w30))) (h2 : DW ((u6_6)) ((w49)) ((w50)) ((w51))) (h3 : (u6_4) = (u5_2)) (k : ∀ (z : Int) σ Fₚ Aₚ, HS σ0 σ D N Fₚ Aₚ → SF [(3, 2), (5, 2), (5, 3), (5, 4), (6, 4), (6, 5), (6, 6)] F Fₚ → SA [48, 49, 50, 51, 52] A Aₚ → ∀ y5_2 : Int, Fₚ 5 2 = y5_2 → ∀ y5_4 : Int, Fₚ 5 4 = y5_4 → ∀ y6_4 : Int, Fₚ 6 4 = y6_4 → ∀ y6_6 : Int, Fₚ 6 6 = y6_6 → ∀ v27 : Int → Int, Aₚ 27 = v27 → ∀ v28 : Int → Int, Aₚ 28 = v28 → ∀ v29 : Int → Int, Aₚ 29 = v29 → ∀ v30 : Int → Int, Aₚ 30 = v30 → ∀ v49 : Int → Int, Aₚ 49 = v49 → ∀ v50 : Int → Int, Aₚ 50 = v50 → ∀ v51 : Int → Int, Aₚ 51 = v51 → ((z) = 0 ∨ (z) = 1) → (DI ((y5_4)) ((v27)) ((v28)) ((v29)) ((v30))) → (DW ((y6_6)) ((v49)) ((v50)) ((v51))) → ((y6_4) = (y5_2)) → Q (some (I z)) σ c s) : Ew 78 (d + 1) 0 (rargs 0 [.ref (D 0), I a1]) [] σ c s Q := by
  have r1 : (0 : Int) ≤ u5_2 ∧ u5_2 ≤ 65536 := rngE (show (0 : Int) ≤ F 5 2 ∧ F 5 2 ≤ 65536 from H.frng 5 2) (show F 5 2 = u5_2 from (eu5_2))
  have r2 : (0 : Int) ≤ u5_4 ∧ u5_4 ≤ 1 := rngE (show (0 : Int) ≤ F 5 4 ∧ F 5 4 ≤ 1 from H.frng 5 4) (show F 5 4 = u5_4 from (eu5_4))
  have r3 : (0 : Int) ≤ u6_4 ∧ u6_4 ≤ 65536 := rngE (show (0 : Int) ≤ F 6 4 ∧ F 6 4 ≤ 65536 from H.frng 6 4) (show F 6 4 = u6_4 from (eu6_4))
  have r4 : (0 : Int) ≤ u6_6 ∧ u6_6 ≤ 1 := rngE (show (0 : Int) ≤ F 6 6 ∧ F 6 6 ≤ 1 from H.frng 6 6) (show F 6 6 = u6_6 from (eu6_6))
  refine Ew_of (pcₚ := 1) (fun _ => x_iload_n rfl rfl) ?_
  refine w_ifne (t := 11) rfl rfl (show inr (a1) from h0) (fun b5 => ?_) (fun b5 => ?_)
  · have hc34 : ∀ (ls : rO) (σ : rS) (F_c34 : hF) (A_c34 : hA) , rlook ls 1 = some (I (a1)) → HS σ0 σ D N F_c34 A_c34 → SF [(5, 2), (5, 3), (5, 4), (6, 4), (6, 5), (6, 6)] F F_c34 → SA [48, 49, 50, 51, 52] A A_c34 → ∀ yc34_5_2 : Int, F_c34 5 2 = yc34_5_2 → ∀ yc34_5_4 : Int, F_c34 5 4 = yc34_5_4 → ∀ yc34_6_4 : Int, F_c34 6 4 = yc34_6_4 → ∀ yc34_6_6 : Int, F_c34 6 6 = yc34_6_6 → ∀ wc34_49 : Int → Int, A_c34 49 = wc34_49 → ∀ wc34_50 : Int → Int, A_c34 50 = wc34_50 → ∀ wc34_51 : Int → Int, A_c34 51 = wc34_51 → (DI ((yc34_5_4)) ((w27)) ((w28)) ((w29)) ((w30))) → (DW ((yc34_6_6)) ((wc34_49)) ((wc34_50)) ((wc34_51))) → ((yc34_6_4) = (yc34_5_2)) → Ew 78 (d + 1) 34 ls [] σ c s Q := by
     as_aux_lemma =>
      intro  ls σ F_c34 A_c34  lc34_1 H hS_c34 hA_c34 yc34_5_2 eyc34_5_2 yc34_5_4 eyc34_5_4 yc34_6_4 eyc34_6_4 yc34_6_6 eyc34_6_6 wc34_49 ewc34_49 wc34_50 ewc34_50 wc34_51 ewc34_51 jc34_0 jc34_1 jc34_2
      have r6 : (0 : Int) ≤ yc34_5_2 ∧ yc34_5_2 ≤ 65536 := rngE (show (0 : Int) ≤ F_c34 5 2 ∧ F_c34 5 2 ≤ 65536 from H.frng 5 2) (show F_c34 5 2 = yc34_5_2 from (eyc34_5_2))
      have r7 : (0 : Int) ≤ yc34_5_4 ∧ yc34_5_4 ≤ 1 := rngE (show (0 : Int) ≤ F_c34 5 4 ∧ F_c34 5 4 ≤ 1 from H.frng 5 4) (show F_c34 5 4 = yc34_5_4 from (eyc34_5_4))
      have r8 : (0 : Int) ≤ yc34_6_4 ∧ yc34_6_4 ≤ 65536 := rngE (show (0 : Int) ≤ F_c34 6 4 ∧ F_c34 6 4 ≤ 65536 from H.frng 6 4) (show F_c34 6 4 = yc34_6_4 from (eyc34_6_4))
      have r9 : (0 : Int) ≤ yc34_6_6 ∧ yc34_6_6 ≤ 1 := rngE (show (0 : Int) ≤ F_c34 6 6 ∧ F_c34 6 6 ≤ 1 from H.frng 6 6) (show F_c34 6 6 = yc34_6_6 from (eyc34_6_6))
      refine Ew_of (pcₚ := 35) (fun _ => x_iload_n rfl lc34_1) ?_
      refine w_ifeq (t := 43) rfl rfl (show inr (a1) from h0) (fun b10 => ?_) (fun b10 => ?_)
      · refine Ew_of (pcₚ := 44) (fun _ => x_iconst rfl) ?_
        refine Ew_of (pcₚ := 48) (fun _ => x_goto rfl rfl) ?_
        exact w_ireturn rfl (k (1) σ _ _ H (SF_trans (SF_refl) hS_c34 (any_sub rfl)) (SA_trans (SA_refl) hA_c34 (any_subA rfl)) (yc34_5_2) ((eyc34_5_2)) (yc34_5_4) ((eyc34_5_4)) (yc34_6_4) ((eyc34_6_4)) (yc34_6_6) ((eyc34_6_6)) (w27) ((funext (hA_c34 27 rfl)).trans (ew27)) (w28) ((funext (hA_c34 28 rfl)).trans (ew28)) (w29) ((funext (hA_c34 29 rfl)).trans (ew29)) (w30) ((funext (hA_c34 30 rfl)).trans (ew30)) (wc34_49) (ewc34_49) (wc34_50) (ewc34_50) (wc34_51) (ewc34_51) (show (1) = 0 ∨ (1) = 1 by first | exact q_5 | omega) (show DI ((yc34_5_4)) ((w27)) ((w28)) ((w29)) ((w30)) from jc34_0) (show DW ((yc34_6_6)) ((wc34_49)) ((wc34_50)) ((wc34_51)) from jc34_1) (show (yc34_6_4) = (yc34_5_2) from jc34_2))
      · refine Ew_of (pcₚ := 39) (fun _ => x_iload_n rfl lc34_1) ?_
        refine Ew_of (pcₚ := 40) (fun _ => x_iconst rfl) ?_
        refine w_icmpne (t := 47) rfl rfl (show inr (a1) from h0) (show inr (1) from q_23) (fun b11 => ?_) (fun b11 => ?_)
        · refine Ew_of (pcₚ := 48) (fun _ => x_iconst rfl) ?_
          exact w_ireturn rfl (k (0) σ _ _ H (SF_trans (SF_refl) hS_c34 (any_sub rfl)) (SA_trans (SA_refl) hA_c34 (any_subA rfl)) (yc34_5_2) ((eyc34_5_2)) (yc34_5_4) ((eyc34_5_4)) (yc34_6_4) ((eyc34_6_4)) (yc34_6_6) ((eyc34_6_6)) (w27) ((funext (hA_c34 27 rfl)).trans (ew27)) (w28) ((funext (hA_c34 28 rfl)).trans (ew28)) (w29) ((funext (hA_c34 29 rfl)).trans (ew29)) (w30) ((funext (hA_c34 30 rfl)).trans (ew30)) (wc34_49) (ewc34_49) (wc34_50) (ewc34_50) (wc34_51) (ewc34_51) (show (0) = 0 ∨ (0) = 1 by first | exact q_1 | omega) (show DI ((yc34_5_4)) ((w27)) ((w28)) ((w29)) ((w30)) from jc34_0) (show DW ((yc34_6_6)) ((wc34_49)) ((wc34_50)) ((wc34_51)) from jc34_1) (show (yc34_6_4) = (yc34_5_2) from jc34_2))
        · refine Ew_of (pcₚ := 44) (fun _ => x_iconst rfl) ?_
          refine Ew_of (pcₚ := 48) (fun _ => x_goto rfl rfl) ?_
          exact w_ireturn rfl (k (1) σ _ _ H (SF_trans (SF_refl) hS_c34 (any_sub rfl)) (SA_trans (SA_refl) hA_c34 (any_subA rfl)) (yc34_5_2) ((eyc34_5_2)) (yc34_5_4) ((eyc34_5_4)) (yc34_6_4) ((eyc34_6_4)) (yc34_6_6) ((eyc34_6_6)) (w27) ((funext (hA_c34 27 rfl)).trans (ew27)) (w28) ((funext (hA_c34 28 rfl)).trans (ew28)) (w29) ((funext (hA_c34 29 rfl)).trans (ew29)) (w30) ((funext (hA_c34 30 rfl)).trans (ew30)) (wc34_49) (ewc34_49) (wc34_50) (ewc34_50) (wc34_51) (ewc34_51) (show (1) = 0 ∨ (1) = 1 by first | exact q_5 | omega) (show DI ((yc34_5_4)) ((w27)) ((w28)) ((w29)) ((w30)) from jc34_0) (show DW ((yc34_6_6)) ((wc34_49)) ((wc34_50)) ((wc34_51)) from jc34_1) (show (yc34_6_4) = (yc34_5_2) from jc34_2))
    refine Ew_of (pcₚ := 12) (fun _ => x_iload_n rfl rfl) ?_
    refine Ew_of (pcₚ := 13) (fun _ => x_iconst rfl) ?_
    refine w_icmpne (t := 34) rfl rfl (show inr (a1) from h0) (show inr (1) from q_23) (fun b12 => ?_) (fun b12 => ?_)
    · exact hc34  _ σ _ _  (rfl) H (SF_refl) (SA_refl) (u5_2) ((eu5_2)) (u5_4) ((eu5_4)) (u6_4) ((eu6_4)) (u6_6) ((eu6_6)) (w49) (ew49) (w50) (ew50) (w51) (ew51) (show DI ((u5_4)) ((w27)) ((w28)) ((w29)) ((w30)) from h1) (show DW ((u6_6)) ((w49)) ((w50)) ((w51)) from h2) (show (u6_4) = (u5_2) from h3)
    · refine Ew_of (pcₚ := 17) (fun _ => x_aload_n rfl rfl) ?_
      refine w_gT H (o := 0) (t := 5) rfl (H.perm 0 rfl) rfl rfl rfl rfl rfl rfl ?_
      refine w_inv H (o := 5) rfl rfl rfl (H.perm 5 rfl) rfl rfl (by rfl) (M274 H  (fun σ F13 A14 H hS15 hA16 y18 ey19 y20 ey21 pz17_0 pz17_1 => ⟨rfl, ?_⟩))
      have r22 : (0 : Int) ≤ y18 ∧ y18 ≤ 65536 := rngE (show (0 : Int) ≤ F13 5 2 ∧ F13 5 2 ≤ 65536 from H.frng 5 2) (show F13 5 2 = y18 from (ey19))
      have r23 : (0 : Int) ≤ y20 ∧ y20 ≤ 1 := rngE (show (0 : Int) ≤ F13 5 4 ∧ F13 5 4 ≤ 1 from H.frng 5 4) (show F13 5 4 = y20 from (ey21))
      have : DI ((y20)) ((w27)) ((w28)) ((w29)) ((w30)) := fun q => absurd q (by omega)
      refine Ew_of (pcₚ := 24) (fun _ => x_aload_n rfl rfl) ?_
      refine w_gT H (o := 0) (t := 6) rfl (H.perm 0 rfl) rfl rfl rfl rfl rfl rfl ?_
      refine Ew_of (pcₚ := 28) (fun _ => x_aload_n rfl rfl) ?_
      refine w_gT H (o := 0) (t := 5) rfl (H.perm 0 rfl) rfl rfl rfl rfl rfl rfl ?_
      refine w_inv H (o := 6) rfl rfl rfl (H.perm 6 rfl) rfl rfl (by rfl) (M388_5 H (y18) ((ey19)) (y20) ((ey21)) (w27) ((funext (hA16 27 rfl)).trans (ew27)) (w28) ((funext (hA16 28 rfl)).trans (ew28)) (w29) ((funext (hA16 29 rfl)).trans (ew29)) (w30) ((funext (hA16 30 rfl)).trans (ew30)) (show DI ((y20)) ((w27)) ((w28)) ((w29)) ((w30)) by assumption) (fun σ F24 A25 H hS26 hA27 y29 ey30 y31 ey32 wq33 ewq34 wq35 ewq36 wq37 ewq38 pz28_0 pz28_1 => ⟨rfl, ?_⟩))
      have r39 : (0 : Int) ≤ y29 ∧ y29 ≤ 65536 := rngE (show (0 : Int) ≤ F24 6 4 ∧ F24 6 4 ≤ 65536 from H.frng 6 4) (show F24 6 4 = y29 from (ey30))
      have r40 : (0 : Int) ≤ y31 ∧ y31 ≤ 1 := rngE (show (0 : Int) ≤ F24 6 6 ∧ F24 6 6 ≤ 1 from H.frng 6 6) (show F24 6 6 = y31 from (ey32))
      exact hc34  _ σ _ _  (rfl) H (SF_trans (SF_trans (SF_refl) hS15 (any_sub rfl)) hS26 (any_sub rfl)) (SA_trans (SA_trans (SA_refl) hA16 (any_subA rfl)) hA27 (any_subA rfl)) (y18) (((hS26 5 2 rfl).trans (ey19))) (y20) (((hS26 5 4 rfl).trans (ey21))) (y29) ((ey30)) (y31) ((ey32)) (wq33) (ewq34) (wq35) (ewq36) (wq37) (ewq38) (show DI ((y20)) ((w27)) ((w28)) ((w29)) ((w30)) by assumption) (show DW ((y31)) ((wq33)) ((wq35)) ((wq37)) from pz28_0) (show (y29) = (y18) from pz28_1)
  · refine Ew_of (pcₚ := 5) (fun _ => x_aload_n rfl rfl) ?_
    refine w_gT H (o := 0) (t := 3) rfl (H.perm 0 rfl) rfl rfl rfl rfl rfl rfl ?_
    refine w_inv H (o := 3) rfl rfl rfl (H.perm 3 rfl) rfl rfl (by rfl) (M355 H  (fun σ F41 A42 H hS43 hA44 => ⟨rfl, ?_⟩))
    have hc34 : ∀ (ls : rO) (σ : rS) (F_c34 : hF) (A_c34 : hA) , rlook ls 1 = some (I (a1)) → HS σ0 σ D N F_c34 A_c34 → SF [(5, 2), (5, 3), (5, 4), (6, 4), (6, 5), (6, 6)] F41 F_c34 → SA [48, 49, 50, 51, 52] A42 A_c34 → ∀ yc34_5_2 : Int, F_c34 5 2 = yc34_5_2 → ∀ yc34_5_4 : Int, F_c34 5 4 = yc34_5_4 → ∀ yc34_6_4 : Int, F_c34 6 4 = yc34_6_4 → ∀ yc34_6_6 : Int, F_c34 6 6 = yc34_6_6 → ∀ wc34_49 : Int → Int, A_c34 49 = wc34_49 → ∀ wc34_50 : Int → Int, A_c34 50 = wc34_50 → ∀ wc34_51 : Int → Int, A_c34 51 = wc34_51 → (DI ((yc34_5_4)) ((w27)) ((w28)) ((w29)) ((w30))) → (DW ((yc34_6_6)) ((wc34_49)) ((wc34_50)) ((wc34_51))) → ((yc34_6_4) = (yc34_5_2)) → Ew 78 (d + 1) 34 ls [] σ c s Q := by
     as_aux_lemma =>
      intro  ls σ F_c34 A_c34  lc34_1 H hS_c34 hA_c34 yc34_5_2 eyc34_5_2 yc34_5_4 eyc34_5_4 yc34_6_4 eyc34_6_4 yc34_6_6 eyc34_6_6 wc34_49 ewc34_49 wc34_50 ewc34_50 wc34_51 ewc34_51 jc34_0 jc34_1 jc34_2
      have r46 : (0 : Int) ≤ yc34_5_2 ∧ yc34_5_2 ≤ 65536 := rngE (show (0 : Int) ≤ F_c34 5 2 ∧ F_c34 5 2 ≤ 65536 from H.frng 5 2) (show F_c34 5 2 = yc34_5_2 from (eyc34_5_2))
      have r47 : (0 : Int) ≤ yc34_5_4 ∧ yc34_5_4 ≤ 1 := rngE (show (0 : Int) ≤ F_c34 5 4 ∧ F_c34 5 4 ≤ 1 from H.frng 5 4) (show F_c34 5 4 = yc34_5_4 from (eyc34_5_4))
      have r48 : (0 : Int) ≤ yc34_6_4 ∧ yc34_6_4 ≤ 65536 := rngE (show (0 : Int) ≤ F_c34 6 4 ∧ F_c34 6 4 ≤ 65536 from H.frng 6 4) (show F_c34 6 4 = yc34_6_4 from (eyc34_6_4))
      have r49 : (0 : Int) ≤ yc34_6_6 ∧ yc34_6_6 ≤ 1 := rngE (show (0 : Int) ≤ F_c34 6 6 ∧ F_c34 6 6 ≤ 1 from H.frng 6 6) (show F_c34 6 6 = yc34_6_6 from (eyc34_6_6))
      refine Ew_of (pcₚ := 35) (fun _ => x_iload_n rfl lc34_1) ?_
      refine w_ifeq (t := 43) rfl rfl (show inr (a1) from h0) (fun b50 => ?_) (fun b50 => ?_)
      · refine Ew_of (pcₚ := 44) (fun _ => x_iconst rfl) ?_
        refine Ew_of (pcₚ := 48) (fun _ => x_goto rfl rfl) ?_
        exact w_ireturn rfl (k (1) σ _ _ H (SF_trans (SF_trans (SF_refl) hS43 (any_sub rfl)) hS_c34 (any_sub rfl)) (SA_trans (SA_trans (SA_refl) hA44 (any_subA rfl)) hA_c34 (any_subA rfl)) (yc34_5_2) ((eyc34_5_2)) (yc34_5_4) ((eyc34_5_4)) (yc34_6_4) ((eyc34_6_4)) (yc34_6_6) ((eyc34_6_6)) (w27) ((funext (hA_c34 27 rfl)).trans ((funext (hA44 27 rfl)).trans (ew27))) (w28) ((funext (hA_c34 28 rfl)).trans ((funext (hA44 28 rfl)).trans (ew28))) (w29) ((funext (hA_c34 29 rfl)).trans ((funext (hA44 29 rfl)).trans (ew29))) (w30) ((funext (hA_c34 30 rfl)).trans ((funext (hA44 30 rfl)).trans (ew30))) (wc34_49) (ewc34_49) (wc34_50) (ewc34_50) (wc34_51) (ewc34_51) (show (1) = 0 ∨ (1) = 1 by first | exact q_5 | omega) (show DI ((yc34_5_4)) ((w27)) ((w28)) ((w29)) ((w30)) from jc34_0) (show DW ((yc34_6_6)) ((wc34_49)) ((wc34_50)) ((wc34_51)) from jc34_1) (show (yc34_6_4) = (yc34_5_2) from jc34_2))
      · refine Ew_of (pcₚ := 39) (fun _ => x_iload_n rfl lc34_1) ?_
        refine Ew_of (pcₚ := 40) (fun _ => x_iconst rfl) ?_
        refine w_icmpne (t := 47) rfl rfl (show inr (a1) from h0) (show inr (1) from q_23) (fun b51 => ?_) (fun b51 => ?_)
        · refine Ew_of (pcₚ := 48) (fun _ => x_iconst rfl) ?_
          exact w_ireturn rfl (k (0) σ _ _ H (SF_trans (SF_trans (SF_refl) hS43 (any_sub rfl)) hS_c34 (any_sub rfl)) (SA_trans (SA_trans (SA_refl) hA44 (any_subA rfl)) hA_c34 (any_subA rfl)) (yc34_5_2) ((eyc34_5_2)) (yc34_5_4) ((eyc34_5_4)) (yc34_6_4) ((eyc34_6_4)) (yc34_6_6) ((eyc34_6_6)) (w27) ((funext (hA_c34 27 rfl)).trans ((funext (hA44 27 rfl)).trans (ew27))) (w28) ((funext (hA_c34 28 rfl)).trans ((funext (hA44 28 rfl)).trans (ew28))) (w29) ((funext (hA_c34 29 rfl)).trans ((funext (hA44 29 rfl)).trans (ew29))) (w30) ((funext (hA_c34 30 rfl)).trans ((funext (hA44 30 rfl)).trans (ew30))) (wc34_49) (ewc34_49) (wc34_50) (ewc34_50) (wc34_51) (ewc34_51) (show (0) = 0 ∨ (0) = 1 by first | exact q_1 | omega) (show DI ((yc34_5_4)) ((w27)) ((w28)) ((w29)) ((w30)) from jc34_0) (show DW ((yc34_6_6)) ((wc34_49)) ((wc34_50)) ((wc34_51)) from jc34_1) (show (yc34_6_4) = (yc34_5_2) from jc34_2))
        · refine Ew_of (pcₚ := 44) (fun _ => x_iconst rfl) ?_
          refine Ew_of (pcₚ := 48) (fun _ => x_goto rfl rfl) ?_
          exact w_ireturn rfl (k (1) σ _ _ H (SF_trans (SF_trans (SF_refl) hS43 (any_sub rfl)) hS_c34 (any_sub rfl)) (SA_trans (SA_trans (SA_refl) hA44 (any_subA rfl)) hA_c34 (any_subA rfl)) (yc34_5_2) ((eyc34_5_2)) (yc34_5_4) ((eyc34_5_4)) (yc34_6_4) ((eyc34_6_4)) (yc34_6_6) ((eyc34_6_6)) (w27) ((funext (hA_c34 27 rfl)).trans ((funext (hA44 27 rfl)).trans (ew27))) (w28) ((funext (hA_c34 28 rfl)).trans ((funext (hA44 28 rfl)).trans (ew28))) (w29) ((funext (hA_c34 29 rfl)).trans ((funext (hA44 29 rfl)).trans (ew29))) (w30) ((funext (hA_c34 30 rfl)).trans ((funext (hA44 30 rfl)).trans (ew30))) (wc34_49) (ewc34_49) (wc34_50) (ewc34_50) (wc34_51) (ewc34_51) (show (1) = 0 ∨ (1) = 1 by first | exact q_5 | omega) (show DI ((yc34_5_4)) ((w27)) ((w28)) ((w29)) ((w30)) from jc34_0) (show DW ((yc34_6_6)) ((wc34_49)) ((wc34_50)) ((wc34_51)) from jc34_1) (show (yc34_6_4) = (yc34_5_2) from jc34_2))
    refine Ew_of (pcₚ := 12) (fun _ => x_iload_n rfl rfl) ?_
    refine Ew_of (pcₚ := 13) (fun _ => x_iconst rfl) ?_
    refine w_icmpne (t := 34) rfl rfl (show inr (a1) from h0) (show inr (1) from q_23) (fun b52 => ?_) (fun b52 => ?_)
    · exact hc34  _ σ _ _  (rfl) H (SF_refl) (SA_refl) (u5_2) (((hS43 5 2 rfl).trans (eu5_2))) (u5_4) (((hS43 5 4 rfl).trans (eu5_4))) (u6_4) (((hS43 6 4 rfl).trans (eu6_4))) (u6_6) (((hS43 6 6 rfl).trans (eu6_6))) (w49) ((funext (hA44 49 rfl)).trans (ew49)) (w50) ((funext (hA44 50 rfl)).trans (ew50)) (w51) ((funext (hA44 51 rfl)).trans (ew51)) (show DI ((u5_4)) ((w27)) ((w28)) ((w29)) ((w30)) from h1) (show DW ((u6_6)) ((w49)) ((w50)) ((w51)) from h2) (show (u6_4) = (u5_2) from h3)
    · refine Ew_of (pcₚ := 17) (fun _ => x_aload_n rfl rfl) ?_
      refine w_gT H (o := 0) (t := 5) rfl (H.perm 0 rfl) rfl rfl rfl rfl rfl rfl ?_
      refine w_inv H (o := 5) rfl rfl rfl (H.perm 5 rfl) rfl rfl (by rfl) (M274 H  (fun σ F53 A54 H hS55 hA56 y58 ey59 y60 ey61 pz57_0 pz57_1 => ⟨rfl, ?_⟩))
      have r62 : (0 : Int) ≤ y58 ∧ y58 ≤ 65536 := rngE (show (0 : Int) ≤ F53 5 2 ∧ F53 5 2 ≤ 65536 from H.frng 5 2) (show F53 5 2 = y58 from (ey59))
      have r63 : (0 : Int) ≤ y60 ∧ y60 ≤ 1 := rngE (show (0 : Int) ≤ F53 5 4 ∧ F53 5 4 ≤ 1 from H.frng 5 4) (show F53 5 4 = y60 from (ey61))
      have : DI ((y60)) ((w27)) ((w28)) ((w29)) ((w30)) := fun q => absurd q (by omega)
      refine Ew_of (pcₚ := 24) (fun _ => x_aload_n rfl rfl) ?_
      refine w_gT H (o := 0) (t := 6) rfl (H.perm 0 rfl) rfl rfl rfl rfl rfl rfl ?_
      refine Ew_of (pcₚ := 28) (fun _ => x_aload_n rfl rfl) ?_
      refine w_gT H (o := 0) (t := 5) rfl (H.perm 0 rfl) rfl rfl rfl rfl rfl rfl ?_
      refine w_inv H (o := 6) rfl rfl rfl (H.perm 6 rfl) rfl rfl (by rfl) (M388_5 H (y58) ((ey59)) (y60) ((ey61)) (w27) ((funext (hA56 27 rfl)).trans ((funext (hA44 27 rfl)).trans (ew27))) (w28) ((funext (hA56 28 rfl)).trans ((funext (hA44 28 rfl)).trans (ew28))) (w29) ((funext (hA56 29 rfl)).trans ((funext (hA44 29 rfl)).trans (ew29))) (w30) ((funext (hA56 30 rfl)).trans ((funext (hA44 30 rfl)).trans (ew30))) (show DI ((y60)) ((w27)) ((w28)) ((w29)) ((w30)) by assumption) (fun σ F64 A65 H hS66 hA67 y69 ey70 y71 ey72 wq73 ewq74 wq75 ewq76 wq77 ewq78 pz68_0 pz68_1 => ⟨rfl, ?_⟩))
      have r79 : (0 : Int) ≤ y69 ∧ y69 ≤ 65536 := rngE (show (0 : Int) ≤ F64 6 4 ∧ F64 6 4 ≤ 65536 from H.frng 6 4) (show F64 6 4 = y69 from (ey70))
      have r80 : (0 : Int) ≤ y71 ∧ y71 ≤ 1 := rngE (show (0 : Int) ≤ F64 6 6 ∧ F64 6 6 ≤ 1 from H.frng 6 6) (show F64 6 6 = y71 from (ey72))
      exact hc34  _ σ _ _  (rfl) H (SF_trans (SF_trans (SF_refl) hS55 (any_sub rfl)) hS66 (any_sub rfl)) (SA_trans (SA_trans (SA_refl) hA56 (any_subA rfl)) hA67 (any_subA rfl)) (y58) (((hS66 5 2 rfl).trans (ey59))) (y60) (((hS66 5 4 rfl).trans (ey61))) (y69) ((ey70)) (y71) ((ey72)) (wq73) (ewq74) (wq75) (ewq76) (wq77) (ewq78) (show DI ((y60)) ((w27)) ((w28)) ((w29)) ((w30)) by assumption) (show DW ((y71)) ((wq73)) ((wq75)) ((wq77)) from pz68_0) (show (y69) = (y58) from pz68_1)
/-- Model.load -/
theorem M74b {σ0 σ : rS} {D N : Nat → Nat} {F : hF} {A : hA} {d c s : Nat} {Q : wQ} (H : HS σ0 σ D N F A) {a1 : Int} (w11 : Int → Int) (ew11 : A 11 = w11) (h0 : inr (a1)) (h1 : 0 ≤ (a1) ∧ (a1) ≤ 3) (k : ∀ σ Fₚ Aₚ, HS σ0 σ D N Fₚ Aₚ → SF [(1, 1)] F Fₚ → SA [14] A Aₚ → ∀ y1_1 : Int, Fₚ 1 1 = y1_1 → ((y1_1) = ((w11)) ((a1))) → Q none σ c s) : Ew 74 (d + 0) 0 (rargs 0 [.ref (D 0), I a1]) [] σ c s Q := by
  refine Ew_of (pcₚ := 1) (fun _ => x_iconst rfl) ?_
  refine Ew_of (pcₚ := 2) (fun _ => x_istore_n rfl) ?_
  suffices hl2 : ∀ (m : Nat), ∀ (ls : rO) (σ : rS) (F_2 : hF) (A_2 : hA) (x2_2 : Int), rlook ls 0 = some (.ref (D 0)) → rlook ls 1 = some (I (a1)) → rlook ls 2 = some (I (x2_2)) → HS σ0 σ D N F_2 A_2 → SF [] F F_2 → SA [14] A A_2 → (inr (x2_2)) → ((0) ≤ (x2_2)) → ((x2_2) ≤ (0) ∨ (x2_2) ≤ ((w11) ((a1)))) → (((w11) ((a1))) - (x2_2)).toNat = m → Ew 74 (d + 0) 2 ls [] σ c s Q from
    hl2 _ _ σ _ _ (0) (rk_o (rfl) rfl rfl) (rk_o (rfl) rfl rfl) (rk_s) H (SF_refl) (SA_refl)   (show inr (0) from q_20) (show (0) ≤ (0) from q_25) (show (0) ≤ (0) ∨ (0) ≤ ((w11) ((a1))) from q_24) rfl
  as_aux_lemma =>
  intro m
  induction m using Nat.strongRecOn with
  | _ m ih2 =>
    intro ls σ F_2 A_2 x2_2 l2_0 l2_1 l2_2 H hS_2 hA_2   j2_0 j2_1 j2_2 hm2
    refine Ew_of (pcₚ := 3) (fun _ => x_iload_n rfl l2_2) ?_
    refine Ew_of (pcₚ := 4) (fun _ => x_aload_n rfl l2_0) ?_
    refine w_gT H (o := 0) (t := 11) rfl (H.perm 0 rfl) rfl rfl rfl rfl rfl rfl ?_
    refine Ew_of (pcₚ := 8) (fun _ => x_iload_n rfl l2_1) ?_
    refine w_lI H (o := 11) (n := 4) rfl (H.perm 11 rfl) rfl rfl (H.fix 11 rfl rfl) (show 0 ≤ a1 ∧ a1 < ((4 : Nat) : Int) from q_11 h1) (by decide) (fun v1 ev1 qv1 => ?_)
    have qv1 : (0 : Int) ≤ v1 ∧ v1 ≤ 65536 := qv1
    have ev1 : (w11) (a1) = v1 := (congrFun ((funext (hA_2 11 rfl)).trans (ew11)) (a1)).symm.trans ev1
    refine w_icmpge (t := 38) rfl rfl (show inr (x2_2) from j2_0) (show inr (v1) from q_12 qv1) (fun b2 => ?_) (fun b2 => ?_)
    · refine Ew_of (pcₚ := 39) (fun _ => x_aload_n rfl l2_0) ?_
      refine w_gT H (o := 0) (t := 1) rfl (H.perm 0 rfl) rfl rfl rfl rfl rfl rfl ?_
      refine Ew_of (pcₚ := 43) (fun _ => x_aload_n rfl l2_0) ?_
      refine w_gT H (o := 0) (t := 11) rfl (H.perm 0 rfl) rfl rfl rfl rfl rfl rfl ?_
      refine Ew_of (pcₚ := 47) (fun _ => x_iload_n rfl l2_1) ?_
      refine w_lI H (o := 11) (n := 4) rfl (H.perm 11 rfl) rfl rfl (H.fix 11 rfl rfl) (show 0 ≤ a1 ∧ a1 < ((4 : Nat) : Int) from q_11 h1) (by decide) (fun v3 ev3 qv3 => ?_)
      have qv3 : (0 : Int) ≤ v3 ∧ v3 ≤ 65536 := qv3
      have ev3 : (w11) (a1) = v3 := (congrFun ((funext (hA_2 11 rfl)).trans (ew11)) (a1)).symm.trans ev3
      refine w_pI H (o := 1) rfl rfl (H.perm 1 rfl) rfl rfl rfl (fun _ => rfl) rfl (show (0 : Int) ≤ v3 ∧ v3 ≤ 65536 from qv3) (fun σ H => ?_)
      exact w_ret rfl (k σ _ _ H (SF_upd (SF_trans (SF_refl) hS_2 (any_sub rfl)) rfl) (SA_trans (SA_refl) hA_2 (any_subA rfl)) (v3) (rfl) (show (v3) = ((w11)) (a1) from q_2492 ev3))
    · refine Ew_of (pcₚ := 13) (fun _ => x_aload_n rfl l2_0) ?_
      refine w_gT H (o := 0) (t := 1) rfl (H.perm 0 rfl) rfl rfl rfl rfl rfl rfl ?_
      refine w_gT H (o := 1) (t := 14) rfl (H.perm 1 rfl) rfl rfl rfl rfl rfl rfl ?_
      refine Ew_of (pcₚ := 20) (fun _ => x_iload_n rfl l2_2) ?_
      refine Ew_of (pcₚ := 21) (fun _ => x_aload_n rfl l2_0) ?_
      refine w_gT H (o := 0) (t := 10) rfl (H.perm 0 rfl) rfl rfl rfl rfl rfl rfl ?_
      refine Ew_of (pcₚ := 26) (fun _ => x_ldc (z := 65536) rfl (by decide)) ?_
      refine Ew_of (pcₚ := 27) (fun _ => x_iload_n rfl l2_1) ?_
      refine w_imul rfl ?_
      refine Ew_of (pcₚ := 29) (fun _ => x_iload_n rfl l2_2) ?_
      refine w_iadd rfl ?_
      refine w_lI H (o := 10) (n := 262144) rfl (H.perm 10 rfl) rfl rfl (H.fix 10 rfl rfl) (show 0 ≤ ((65536 * a1) + x2_2) ∧ ((65536 * a1) + x2_2) < ((262144 : Nat) : Int) from q_26 b2 h1 j2_1 qv1) (by decide) (fun v4 ev4 qv4 => ?_)
      have qv4 : (0 : Int) ≤ v4 ∧ v4 ≤ 255 := qv4
      have ev4 : (A 10) (((65536 * a1) + x2_2)) = v4 := (congrFun (funext (hA_2 10 rfl)) (((65536 * a1) + x2_2))).symm.trans ev4
      refine w_sI H (o := 14) (n := 65536) rfl (H.perm 14 rfl) rfl rfl (H.fix 14 rfl rfl) (show 0 ≤ x2_2 ∧ x2_2 < ((65536 : Nat) : Int) from q_27 b2 j2_1 qv1) (by decide) (show (0 : Int) ≤ v4 ∧ v4 ≤ 255 from qv4) (fun σ H => ?_)
      refine Ew_of (pcₚ := 35) (fun _ => x_iinc (len := 3) rfl (l2_2)) ?_
      refine Ew_of (pcₚ := 2) (fun _ => x_goto rfl rfl) ?_
      exact ih2 _ (msE hm2 q_31 (q_32 b2 ev1)) _ σ _ _ ((x2_2 + 1)) (rk_o (l2_0) rfl rfl) (rk_o (l2_1) rfl rfl) (rk_s) H (hS_2) (SA_upd (hA_2) rfl)   (show inr ((x2_2 + 1)) from q_30 b2 j2_1 qv1) (show (0) ≤ ((x2_2 + 1)) from q_29 j2_1) (show ((x2_2 + 1)) ≤ (0) ∨ ((x2_2 + 1)) ≤ ((w11) ((a1))) from q_28 b2 ev1) rfl
