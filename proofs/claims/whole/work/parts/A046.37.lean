theorem M276 {σ0 σ : rS} {D N : Nat → Nat} {F : hF} {A : hA} {d c s : Nat} {Q : wQ} (H : HS σ0 σ D N F A) {a1 : Int} (h0 : inr (a1)) (h1 : 0 ≤ (a1) ∧ (a1) ≤ 2) (k : ∀ (z : Int) σ Fₚ Aₚ, HS σ0 σ D N Fₚ Aₚ → SF [] F Fₚ → SA [] A Aₚ → (inr (z)) → ((z) = lastOf ((a1))) → (0 ≤ (z) ∧ (z) ≤ 52) → Q (some (I z)) σ c s) : Ew 276 (d + 0) 0 (rargs 0 [I a1]) [] σ c s Q := by
  have := lastOf_eq ((a1))
  refine Ew_of (pcₚ := 1) (fun _ => x_iload_n rfl rfl) ?_
  refine w_ifne (t := 9) rfl rfl (show inr (a1) from h0) (fun b1 => ?_) (fun b1 => ?_)
  · refine Ew_of (pcₚ := 10) (fun _ => x_iload_n rfl rfl) ?_
    refine Ew_of (pcₚ := 11) (fun _ => x_iconst rfl) ?_
    refine w_icmpne (t := 19) rfl rfl (show inr (a1) from h0) (show inr (1) from q_135) (fun b2 => ?_) (fun b2 => ?_)
    · refine Ew_of (pcₚ := 21) (fun _ => x_bipush (z := 52) rfl (by decide)) ?_
      exact w_ireturn rfl (k (52) σ _ _ H (SF_refl) (SA_refl) (show inr (52) from q_1487) (show (52) = lastOf (a1) by omega) (show 0 ≤ (52) ∧ (52) ≤ 52 by first | exact q_1486 | omega))
    · refine Ew_of (pcₚ := 16) (fun _ => x_bipush (z := 31) rfl (by decide)) ?_
      refine Ew_of (pcₚ := 21) (fun _ => x_goto rfl rfl) ?_
      exact w_ireturn rfl (k (31) σ _ _ H (SF_refl) (SA_refl) (show inr (31) from q_323) (show (31) = lastOf (a1) by omega) (show 0 ≤ (31) ∧ (31) ≤ 52 by first | exact q_1488 | omega))
  · refine Ew_of (pcₚ := 6) (fun _ => x_bipush (z := 35) rfl (by decide)) ?_
    refine Ew_of (pcₚ := 21) (fun _ => x_goto rfl rfl) ?_
    exact w_ireturn rfl (k (35) σ _ _ H (SF_refl) (SA_refl) (show inr (35) from q_1490) (show (35) = lastOf (a1) by omega) (show 0 ≤ (35) ∧ (35) ≤ 52 by first | exact q_1489 | omega))

theorem M282 {σ0 σ : rS} {D N : Nat → Nat} {F : hF} {A : hA} {d c s : Nat} {Q : wQ} (H : HS σ0 σ D N F A) {a1 a2 : Int} (h0 : inr (a1)) (h1 : inr (a2)) (h2 : 0 ≤ (a1) ∧ (a1) ≤ 20) (h3 : 0 ≤ (a2) ∧ (a2) ≤ 65536) (k : ∀ (z : Int) σ Fₚ Aₚ, HS σ0 σ D N Fₚ Aₚ → SF [(5, 30), (5, 31)] F Fₚ → SA [] A Aₚ → ∀ y5_30 : Int, Fₚ 5 30 = y5_30 → ∀ y5_31 : Int, Fₚ 5 31 = y5_31 → ((z) = 0 ∨ (z) = 1) → ((z) = 0) → ((y5_30) = (a1)) → ((y5_31) = (a2)) → Q (some (I z)) σ c s) : Ew 282 (d + 0) 0 (rargs 0 [.ref (D 5), I a1, I a2]) [] σ c s Q := by
  refine Ew_of (pcₚ := 1) (fun _ => x_aload_n rfl rfl) ?_
  refine Ew_of (pcₚ := 2) (fun _ => x_iload_n rfl rfl) ?_
  refine w_pI H (o := 5) rfl rfl (H.perm 5 rfl) rfl rfl rfl (fun _ => rfl) rfl (show (0 : Int) ≤ a1 ∧ a1 ≤ 20 from h2) (fun σ H => ?_)
  refine Ew_of (pcₚ := 6) (fun _ => x_aload_n rfl rfl) ?_
  refine Ew_of (pcₚ := 7) (fun _ => x_iload_n rfl rfl) ?_
  refine w_pI H (o := 5) rfl rfl (H.perm 5 rfl) rfl rfl rfl (fun _ => rfl) rfl (show (0 : Int) ≤ a2 ∧ a2 ≤ 65536 from h3) (fun σ H => ?_)
  refine Ew_of (pcₚ := 11) (fun _ => x_iconst rfl) ?_
  exact w_ireturn rfl (k (0) σ _ _ H (SF_upd (SF_upd (SF_refl) rfl) rfl) (SA_refl) (a1) (rfl) (a2) (rfl) (show (0) = 0 ∨ (0) = 1 by first | exact q_45 | omega) (show (0) = 0 by first | exact q_34 | omega) (show (a1) = a1 from q_303) (show (a2) = a2 from q_303))

theorem M283 {σ0 σ : rS} {D N : Nat → Nat} {F : hF} {A : hA} {d c s : Nat} {Q : wQ} (H : HS σ0 σ D N F A) {a1 : Int} (u1_1 : Int) (eu1_1 : F 1 1 = u1_1) (u5_25 : Int) (eu5_25 : F 5 25 = u5_25) (h0 : inr (a1)) (h1 : 0 ≤ (a1) ∧ (a1) ≤ 1000000) (k : ∀ (z : Int) σ Fₚ Aₚ, HS σ0 σ D N Fₚ Aₚ → SF [(5, 30), (5, 31)] F Fₚ → SA [] A Aₚ → ∀ y5_30 : Int, Fₚ 5 30 = y5_30 → ∀ y5_31 : Int, Fₚ 5 31 = y5_31 → ((z) = 0 ∨ (z) = 1) → ((z) = 1 → (u5_25) + (a1) ≤ (u1_1)) → ((z) = 1 ∨ (u1_1) < (u5_25) + (a1) ∧ (y5_30) = 1 ∧ (y5_31) = (u1_1)) → Q (some (I z)) σ c s) : Ew 283 (d + 1) 0 (rargs 0 [.ref (D 5), I a1]) [] σ c s Q := by
  have r1 : (0 : Int) ≤ u1_1 ∧ u1_1 ≤ 65536 := rngE (show (0 : Int) ≤ F 1 1 ∧ F 1 1 ≤ 65536 from H.frng 1 1) (show F 1 1 = u1_1 from (eu1_1))
  have r2 : (0 : Int) ≤ u5_25 ∧ u5_25 ≤ 65536 := rngE (show (0 : Int) ≤ F 5 25 ∧ F 5 25 ≤ 65536 from H.frng 5 25) (show F 5 25 = u5_25 from (eu5_25))
  refine Ew_of (pcₚ := 1) (fun _ => x_aload_n rfl rfl) ?_
  refine w_gT H (o := 5) (t := 1) rfl (H.perm 5 rfl) rfl rfl rfl rfl rfl rfl ?_
  refine w_gI H (o := 1) (w := u1_1) rfl (H.perm 1 rfl) rfl rfl rfl (fun _ => rfl) (eu1_1) ?_
  refine Ew_of (pcₚ := 8) (fun _ => x_aload_n rfl rfl) ?_
  refine w_gI H (o := 5) (w := u5_25) rfl (H.perm 5 rfl) rfl rfl rfl (fun _ => rfl) (eu5_25) ?_
  refine w_isub rfl ?_
  refine Ew_of (pcₚ := 13) (fun _ => x_iload_n rfl rfl) ?_
  refine w_icmpge (t := 31) rfl rfl (show inr ((u1_1 - u5_25)) from q_1491 r1 r2) (show inr (a1) from h0) (fun b3 => ?_) (fun b3 => ?_)
  · refine Ew_of (pcₚ := 32) (fun _ => x_iconst rfl) ?_
    refine Ew_of (pcₚ := 36) (fun _ => x_goto rfl rfl) ?_
    have r4 : (0 : Int) ≤ F 5 30 ∧ F 5 30 ≤ 20 := H.frng 5 30
    have r5 : (0 : Int) ≤ F 5 31 ∧ F 5 31 ≤ 65536 := H.frng 5 31
    exact w_ireturn rfl (k (1) σ _ _ H (SF_refl) (SA_refl) (F 5 30) (rfl) (F 5 31) (rfl) (show (1) = 0 ∨ (1) = 1 by first | exact q_49 | omega) (show (1) = 1 → (u5_25) + a1 ≤ (u1_1) by first | exact q_1493 b3 | omega) (show (1) = 1 ∨ (u1_1) < (u5_25) + a1 ∧ (F 5 30) = 1 ∧ (F 5 31) = (u1_1) by first | exact q_1492 | omega))
  · refine Ew_of (pcₚ := 17) (fun _ => x_aload_n rfl rfl) ?_
    refine Ew_of (pcₚ := 18) (fun _ => x_iconst rfl) ?_
    refine Ew_of (pcₚ := 19) (fun _ => x_aload_n rfl rfl) ?_
    refine w_gT H (o := 5) (t := 1) rfl (H.perm 5 rfl) rfl rfl rfl rfl rfl rfl ?_
    refine w_gI H (o := 1) (w := u1_1) rfl (H.perm 1 rfl) rfl rfl rfl (fun _ => rfl) (eu1_1) ?_
    refine w_inv H (o := 5) rfl rfl rfl (H.perm 5 rfl) rfl rfl (by rfl) (M282 H (show inr (1) from q_135) (show inr (u1_1) from q_286 r1) (show 0 ≤ (1) ∧ (1) ≤ 20 from q_1494) (show 0 ≤ (u1_1) ∧ (u1_1) ≤ 65536 from r1) (fun z10 σ F6 A7 H hS8 hA9 y11 ey12 y13 ey14 pz10_0 pz10_1 pz10_2 pz10_3 => ⟨rretB rfl pz10_0, ?_⟩))
    have r15 : (0 : Int) ≤ y11 ∧ y11 ≤ 20 := rngE (show (0 : Int) ≤ F6 5 30 ∧ F6 5 30 ≤ 20 from H.frng 5 30) (show F6 5 30 = y11 from (ey12))
    have r16 : (0 : Int) ≤ y13 ∧ y13 ≤ 65536 := rngE (show (0 : Int) ≤ F6 5 31 ∧ F6 5 31 ≤ 65536 from H.frng 5 31) (show F6 5 31 = y13 from (ey14))
    refine w_ifeq (t := 35) rfl rfl (show inr (z10) from q_123 pz10_1) (fun b17 => ?_) (fun b17 => ?_)
    · refine Ew_of (pcₚ := 36) (fun _ => x_iconst rfl) ?_
      exact w_ireturn rfl (k (0) σ _ _ H (SF_trans (SF_refl) hS8 (any_sub rfl)) (SA_trans (SA_refl) hA9 (any_subA rfl)) (y11) ((ey12)) (y13) ((ey14)) (show (0) = 0 ∨ (0) = 1 by first | exact q_45 | omega) (show (0) = 1 → (u5_25) + a1 ≤ (u1_1) by first | exact q_1496 h1 r1 r2 | omega) (show (0) = 1 ∨ (u1_1) < (u5_25) + a1 ∧ (y11) = 1 ∧ (y13) = (u1_1) by first | exact q_1495 b3 pz10_2 pz10_3 | omega))
    · refine Ew_of (pcₚ := 32) (fun _ => x_iconst rfl) ?_
      refine Ew_of (pcₚ := 36) (fun _ => x_goto rfl rfl) ?_
      exact w_ireturn rfl (k (1) σ _ _ H (SF_trans (SF_refl) hS8 (any_sub rfl)) (SA_trans (SA_refl) hA9 (any_subA rfl)) (y11) ((ey12)) (y13) ((ey14)) (show (1) = 0 ∨ (1) = 1 by first | exact q_49 | omega) (show (1) = 1 → (u5_25) + a1 ≤ (u1_1) by omega) (show (1) = 1 ∨ (u1_1) < (u5_25) + a1 ∧ (y11) = 1 ∧ (y13) = (u1_1) by first | exact q_1492 | omega))

theorem M287 {σ0 σ : rS} {D N : Nat → Nat} {F : hF} {A : hA} {d c s : Nat} {Q : wQ} (H : HS σ0 σ D N F A)  (u5_35 : Int) (eu5_35 : F 5 35 = u5_35) (k : ∀ σ Fₚ Aₚ, HS σ0 σ D N Fₚ Aₚ → SF [(5, 36)] F Fₚ → SA [] A Aₚ → ∀ y5_36 : Int, Fₚ 5 36 = y5_36 → ((y5_36) = tdF (wnF ((u5_35)))) → Q none σ c s) : Ew 287 (d + 0) 0 (rargs 0 [.ref (D 5)]) [] σ c s Q := by
  have r1 : (-9223372036854775808 : Int) ≤ u5_35 ∧ u5_35 ≤ 9223372036854775807 := rngE (show (-9223372036854775808 : Int) ≤ F 5 35 ∧ F 5 35 ≤ 9223372036854775807 from H.frng 5 35) (show F 5 35 = u5_35 from (eu5_35))
  have hwn := wnF_eq ((u5_35))
  have htd := tdF_eq (wnF ((u5_35)))
  refine Ew_of (pcₚ := 1) (fun _ => x_aload_n rfl rfl) ?_
  refine Ew_of (pcₚ := 2) (fun _ => x_aload_n rfl rfl) ?_
  refine w_gJ H (o := 5) (w := u5_35) rfl (H.perm 5 rfl) rfl rfl rfl (fun _ => rfl) (eu5_35) ?_
  refine Ew_of (pcₚ := 6) (fun _ => x_lconst (z := 0) rfl (by decide)) ?_
  refine w_lcmp rfl (show inrJ (u5_35) by omega) (show inrJ (0) from q_340) (fun z2 gz2 gaz2 gbz2 => ?_)
  refine w_iflt (t := 21) rfl rfl (show inr (z2) from gz2) (fun b3 => ?_) (fun b3 => ?_)
  · refine Ew_of (pcₚ := 24) (fun _ => x_ldc_w (z := 2147483647) rfl (by decide)) ?_
    refine Ew_of (pcₚ := 32) (fun _ => x_goto rfl rfl) ?_
    refine w_pI H (o := 5) rfl rfl (H.perm 5 rfl) rfl rfl rfl (fun _ => rfl) rfl (show (-2147483648 : Int) ≤ 2147483647 ∧ 2147483647 ≤ 2147483647 from q_1497) (fun σ H => ?_)
    have : (2147483647) = tdF (wnF ((u5_35))) := by omega
    exact w_ret rfl (k σ _ _ H (SF_upd (SF_refl) rfl) (SA_refl) (2147483647) (rfl) (show (2147483647) = tdF (wnF ((u5_35))) by assumption))
  · refine Ew_of (pcₚ := 11) (fun _ => x_aload_n rfl rfl) ?_
    refine w_gJ H (o := 5) (w := u5_35) rfl (H.perm 5 rfl) rfl rfl rfl (fun _ => rfl) (eu5_35) ?_
    refine Ew_of (pcₚ := 17) (fun _ => x_ldc2 (z := 2147483647) rfl (by decide)) ?_
    refine w_lcmp rfl (show inrJ (u5_35) by omega) (show inrJ (2147483647) from q_1498) (fun z4 gz4 gaz4 gbz4 => ?_)
    refine w_ifle (t := 27) rfl rfl (show inr (z4) from gz4) (fun b5 => ?_) (fun b5 => ?_)
    · refine Ew_of (pcₚ := 28) (fun _ => x_aload_n rfl rfl) ?_
      refine w_gJ H (o := 5) (w := u5_35) rfl (H.perm 5 rfl) rfl rfl rfl (fun _ => rfl) (eu5_35) ?_
      refine w_l2i rfl ?_
      refine w_pI H (o := 5) rfl rfl (H.perm 5 rfl) rfl rfl rfl (fun _ => rfl) rfl (show (-2147483648 : Int) ≤ u5_35 ∧ u5_35 ≤ 2147483647 by omega) (fun σ H => ?_)
      have : (u5_35) = tdF (wnF ((u5_35))) := by omega
      exact w_ret rfl (k σ _ _ H (SF_upd (SF_refl) rfl) (SA_refl) (u5_35) (rfl) (show (u5_35) = tdF (wnF ((u5_35))) by assumption))
    · refine Ew_of (pcₚ := 24) (fun _ => x_ldc_w (z := 2147483647) rfl (by decide)) ?_
      refine Ew_of (pcₚ := 32) (fun _ => x_goto rfl rfl) ?_
      refine w_pI H (o := 5) rfl rfl (H.perm 5 rfl) rfl rfl rfl (fun _ => rfl) rfl (show (-2147483648 : Int) ≤ 2147483647 ∧ 2147483647 ≤ 2147483647 from q_1497) (fun σ H => ?_)
      have : (2147483647) = tdF (wnF ((u5_35))) := by omega
      exact w_ret rfl (k σ _ _ H (SF_upd (SF_refl) rfl) (SA_refl) (2147483647) (rfl) (show (2147483647) = tdF (wnF ((u5_35))) by assumption))

theorem M274 {σ0 σ : rS} {D N : Nat → Nat} {F : hF} {A : hA} {d c s : Nat} {Q : wQ} (H : HS σ0 σ D N F A)  (k : ∀ σ Fₚ Aₚ, HS σ0 σ D N Fₚ Aₚ → SF [(5, 2), (5, 3), (5, 4)] F Fₚ → SA [] A Aₚ → ∀ y5_2 : Int, Fₚ 5 2 = y5_2 → ∀ y5_3 : Int, Fₚ 5 3 = y5_3 → ∀ y5_4 : Int, Fₚ 5 4 = y5_4 → ((y5_4) = 0) → ((y5_2) = 0) → ((y5_3) = 0) → Q none σ c s) : Ew 274 (d + 0) 0 (rargs 0 [.ref (D 5)]) [] σ c s Q := by
  refine Ew_of (pcₚ := 1) (fun _ => x_aload_n rfl rfl) ?_
  refine Ew_of (pcₚ := 2) (fun _ => x_iconst rfl) ?_
  refine w_pI H (o := 5) rfl rfl (H.perm 5 rfl) rfl rfl rfl (fun _ => rfl) rfl (show (0 : Int) ≤ 0 ∧ 0 ≤ 65536 from q_300) (fun σ H => ?_)
  refine Ew_of (pcₚ := 6) (fun _ => x_aload_n rfl rfl) ?_
  refine Ew_of (pcₚ := 7) (fun _ => x_iconst rfl) ?_
  refine w_pI H (o := 5) rfl rfl (H.perm 5 rfl) rfl rfl rfl (fun _ => rfl) rfl (show (-2147483648 : Int) ≤ 0 ∧ 0 ≤ 2147483647 from q_22) (fun σ H => ?_)
  refine Ew_of (pcₚ := 11) (fun _ => x_aload_n rfl rfl) ?_
  refine Ew_of (pcₚ := 12) (fun _ => x_iconst rfl) ?_
  refine w_pI H (o := 5) rfl rfl (H.perm 5 rfl) rfl rfl rfl (fun _ => rfl) (rfit_b (by omega)) (show (0 : Int) ≤ 0 ∧ 0 ≤ 1 from q_32) (fun σ H => ?_)
  exact w_ret rfl (k σ _ _ H (SF_upd (SF_upd (SF_upd (SF_refl) rfl) rfl) rfl) (SA_refl) (0) (rfl) (0) (rfl) (0) (rfl) (show (0) = 0 by first | exact q_34 | omega) (show (0) = 0 by first | exact q_34 | omega) (show (0) = 0 by first | exact q_34 | omega))

theorem M278 {σ0 σ : rS} {D N : Nat → Nat} {F : hF} {A : hA} {d c s : Nat} {Q : wQ} (H : HS σ0 σ D N F A) {a1 a2 : Int} (h0 : inrJ (a1)) (h1 : inr (a2)) (h2 : 0 ≤ (a2) ∧ (a2) ≤ 64) (k : ∀ (z : Int) σ Fₚ Aₚ, HS σ0 σ D N Fₚ Aₚ → SF [] F Fₚ → SA [] A Aₚ → (inrJ (z)) → ((z) = rtJ ((a1)) ((a2))) → Q (some (J z)) σ c s) : Ew 278 (d + 0) 0 (rargs 0 [J a1, I a2]) [] σ c s Q := by
  refine Ew_of (pcₚ := 1) (fun _ => x_lload_n rfl rfl) ?_
  refine Ew_of (pcₚ := 2) (fun _ => x_iload_n rfl rfl) ?_
  refine w_lshlE rfl ?_
  have g1 : inrJ (shlJ (a1) (a2)) := toJ_inr _
  refine Ew_of (pcₚ := 4) (fun _ => x_lload_n rfl rfl) ?_
  refine Ew_of (pcₚ := 6) (fun _ => x_bipush (z := 64) rfl (by decide)) ?_
  refine Ew_of (pcₚ := 7) (fun _ => x_iload_n rfl rfl) ?_
  refine w_isub rfl ?_
  refine w_lushrE rfl ?_
  have g2 : inrJ (usJ (a1) ((64 - a2))) := toJ_inr _
  refine w_lorE rfl ?_
  have g3 : inrJ (orJ ((shlJ (a1) (a2))) ((usJ (a1) ((64 - a2))))) := toJ_inr _
  have : ((orJ ((shlJ (a1) (a2))) ((usJ (a1) ((64 - a2)))))) = rtJ ((a1)) ((a2)) := rfl
  exact w_lreturn rfl (k ((orJ ((shlJ (a1) (a2))) ((usJ (a1) ((64 - a2)))))) σ _ _ H (SF_refl) (SA_refl) (show inrJ ((orJ ((shlJ (a1) (a2))) ((usJ (a1) ((64 - a2)))))) from g3) (show ((orJ ((shlJ (a1) (a2))) ((usJ (a1) ((64 - a2)))))) = rtJ (a1) (a2) by assumption))

theorem M279 {σ0 σ : rS} {D N : Nat → Nat} {F : hF} {A : hA} {d c s : Nat} {Q : wQ} (H : HS σ0 σ D N F A) {a1 : Int} (w45 : Int → Int) (ew45 : A 45 = w45) (h0 : inr (a1)) (h1 : 0 ≤ (a1) ∧ (a1) < 65536) (k : ∀ (z : Int) σ Fₚ Aₚ, HS σ0 σ D N Fₚ Aₚ → SF [] F Fₚ → SA [] A Aₚ → (inrJ (z)) → (0 ≤ (z) ∧ (z) ≤ 255) → (((w45)) ((a1)) = (z)) → Q (some (J z)) σ c s) : Ew 279 (d + 0) 0 (rargs 0 [.ref (D 5), I a1]) [] σ c s Q := by
  refine Ew_of (pcₚ := 1) (fun _ => x_aload_n rfl rfl) ?_
  refine w_gT H (o := 5) (t := 45) rfl (H.perm 5 rfl) rfl rfl rfl rfl rfl rfl ?_
  refine Ew_of (pcₚ := 5) (fun _ => x_iload_n rfl rfl) ?_
  refine w_lI H (o := 45) (n := 65536) rfl (H.perm 45 rfl) rfl rfl (H.fix 45 rfl rfl) (show 0 ≤ a1 ∧ a1 < ((65536 : Nat) : Int) from q_871 h1) (by decide) (fun v1 ev1 qv1 => ?_)
  have qv1 : (0 : Int) ≤ v1 ∧ v1 ≤ 255 := qv1
  have ev1 : (w45) (a1) = v1 := (congrFun (ew45) (a1)).symm.trans ev1
  refine w_i2l rfl (show inr (v1) from q_299 qv1) ?_
  have : ((w45)) ((a1)) = (v1) := ev1
  exact w_lreturn rfl (k (v1) σ _ _ H (SF_refl) (SA_refl) (show inrJ (v1) from q_576 qv1) (show 0 ≤ (v1) ∧ (v1) ≤ 255 from qv1) (ev1))

theorem M280 {σ0 σ : rS} {D N : Nat → Nat} {F : hF} {A : hA} {d c s : Nat} {Q : wQ} (H : HS σ0 σ D N F A) {a1 a2 : Int} (w45 : Int → Int) (ew45 : A 45 = w45) (h0 : inr (a1)) (h1 : inr (a2)) (h2 : 0 ≤ (a1) ∧ 0 ≤ (a2) ∧ (a2) ≤ 8 ∧ (a1) + (a2) ≤ 65536) (k : ∀ (z : Int) σ Fₚ Aₚ, HS σ0 σ D N Fₚ Aₚ → SF [] F Fₚ → SA [] A Aₚ → (inrJ (z)) → ((z) = nmb ((w45)) ((a1)) ((a2)) ((a2) : Int).toNat) → Q (some (J z)) σ c s) : Ew 280 (d + 1) 0 (rargs 0 [.ref (D 5), I a1, I a2]) [] σ c s Q := by
  refine Ew_of (pcₚ := 1) (fun _ => x_lconst (z := 0) rfl (by decide)) ?_
  refine Ew_of (pcₚ := 2) (fun _ => x_lstore_n rfl) ?_
  refine Ew_of (pcₚ := 3) (fun _ => x_iload_n rfl (rk2_o (rfl) rfl rfl)) ?_
  refine Ew_of (pcₚ := 4) (fun _ => x_iconst rfl) ?_
  refine w_isub rfl ?_
  refine Ew_of (pcₚ := 7) (fun _ => x_istore rfl) ?_
  have : (0 : Int) = nmb ((w45)) ((a1)) ((a2)) ((a2) - 1 - ((a2) - 1) : Int).toNat := by rw [show ((a2) - 1 - ((a2) - 1) : Int).toNat = 0 by omega]; rfl
  suffices hl7 : ∀ (m : Nat), ∀ (ls : rO) (σ : rS) (F_7 : hF) (A_7 : hA) (x7_3 : Int) (x7_5 : Int), rlook ls 0 = some (.ref (D 5)) → rlook ls 1 = some (I (a1)) → rlook ls 3 = some (J (x7_3)) → rlook ls 5 = some (I (x7_5)) → HS σ0 σ D N F_7 A_7 → SF [] F F_7 → SA [] A A_7 → (inrJ (x7_3)) → (inr (x7_5)) → ((x7_5) ≤ ((a2 - 1))) → (((a2 - 1)) ≤ (x7_5) ∨ ((-1)) ≤ (x7_5)) → ((x7_3) = nmb ((w45)) ((a1)) ((a2)) ((a2) - 1 - (x7_5) : Int).toNat) → ((x7_5) - ((-1))).toNat = m → Ew 280 (d + 1) 7 ls [] σ c s Q from
    hl7 _ _ σ _ _ (0) ((a2 - 1)) (rk_o (rk2_o (rfl) rfl rfl) rfl rfl) (rk_o (rk2_o (rfl) rfl rfl) rfl rfl) (rk_o (rk2_s) rfl rfl) (rk_s) H (SF_refl) (SA_refl)   (show inrJ (0) from q_340) (show inr ((a2 - 1)) from q_444 h2) (show ((a2 - 1)) ≤ ((a2 - 1)) from q_419) (show ((a2 - 1)) ≤ ((a2 - 1)) ∨ ((-1)) ≤ ((a2 - 1)) from q_418) (show (0) = nmb ((w45)) ((a1)) ((a2)) ((a2) - 1 - ((a2 - 1)) : Int).toNat by assumption) rfl
  as_aux_lemma =>
  intro m
  induction m using Nat.strongRecOn with
  | _ m ih7 =>
    intro ls σ F_7 A_7 x7_3 x7_5 l7_0 l7_1 l7_3 l7_5 H hS_7 hA_7   j7_0 j7_1 j7_2 j7_3 j7_4 hm7
    have j7_q : (x7_3) = nmb ((w45)) ((a1)) ((a2)) ((a2) - 1 - (x7_5) : Int).toNat := by assumption
    refine Ew_of (pcₚ := 9) (fun _ => x_iload rfl l7_5) ?_
    refine w_iflt (t := 32) rfl rfl (show inr (x7_5) from j7_1) (fun b1 => ?_) (fun b1 => ?_)
    · refine Ew_of (pcₚ := 33) (fun _ => x_lload_n rfl l7_3) ?_
      have : (x7_3) = nmb ((w45)) ((a1)) ((a2)) ((a2) : Int).toNat := by have h := j7_q; rw [show (a2) - 1 - (x7_5) = (a2) by omega] at h; exact h
      exact w_lreturn rfl (k (x7_3) σ _ _ H (SF_trans (SF_refl) hS_7 (any_sub rfl)) (SA_trans (SA_refl) hA_7 (any_subA rfl)) (show inrJ (x7_3) from j7_0) (show (x7_3) = nmb ((w45)) (a1) (a2) (a2 : Int).toNat by assumption))
    · refine Ew_of (pcₚ := 13) (fun _ => x_lload_n rfl l7_3) ?_
      refine Ew_of (pcₚ := 15) (fun _ => x_bipush (z := 8) rfl (by decide)) ?_
      refine w_lshlE rfl ?_
      have g2 : inrJ (shlJ (x7_3) (8)) := toJ_inr _
      refine Ew_of (pcₚ := 17) (fun _ => x_aload_n rfl l7_0) ?_
      refine Ew_of (pcₚ := 18) (fun _ => x_iload_n rfl l7_1) ?_
      refine Ew_of (pcₚ := 20) (fun _ => x_iload rfl l7_5) ?_
      refine w_iadd rfl ?_
      refine w_inv H (o := 5) rfl rfl rfl (H.perm 5 rfl) rfl rfl (by rfl) (M279 H (w45) ((funext (hA_7 45 rfl)).trans (ew45)) (show inr ((a1 + x7_5)) from q_1500 b1 h2 j7_2) (show 0 ≤ ((a1 + x7_5)) ∧ ((a1 + x7_5)) < 65536 from q_1499 b1 h2 j7_2) (fun z7 σ F3 A4 H hS5 hA6 pz7_0 pz7_1 pz7_2 => ⟨rfl, ?_⟩))
      have hby := pz7_2
      have hbr := pz7_1
      refine w_lorE rfl ?_
      have g8 : inrJ (orJ ((shlJ (x7_3) (8))) (z7)) := toJ_inr _
      have hnf : (((orJ ((shlJ (x7_3) (8))) (z7))) : Int) = nmb ((w45)) ((a1)) ((a2)) ((a2) - 1 - ((x7_5) + (-1)) : Int).toNat := nmb_s (i := (x7_5)) (by omega) (by omega) (by omega) j7_q rfl (by rw [hby]; omega) rfl
      refine Ew_of (pcₚ := 26) (fun _ => x_lstore_n rfl) ?_
      refine Ew_of (pcₚ := 29) (fun _ => x_iinc (len := 3) rfl (rk2_o (l7_5) rfl rfl)) ?_
      refine Ew_of (pcₚ := 7) (fun _ => x_goto rfl rfl) ?_
      exact ih7 _ (msE hm7 q_432 (q_433 b1)) _ σ _ _ ((orJ ((shlJ (x7_3) (8))) (z7))) ((x7_5 + (-1))) (rk_o (rk2_o (l7_0) rfl rfl) rfl rfl) (rk_o (rk2_o (l7_1) rfl rfl) rfl rfl) (rk_o (rk2_s) rfl rfl) (rk_s) H (SF_trans (hS_7) hS5 (any_sub rfl)) (SA_trans (hA_7) hA6 (any_subA rfl))   (show inrJ ((orJ ((shlJ (x7_3) (8))) (z7))) from g8) (show inr ((x7_5 + (-1))) from q_431 b1 j7_1) (show ((x7_5 + (-1))) ≤ ((a2 - 1)) from q_430 j7_2) (show ((a2 - 1)) ≤ ((x7_5 + (-1))) ∨ ((-1)) ≤ ((x7_5 + (-1))) from q_429 b1) (show ((orJ ((shlJ (x7_3) (8))) (z7))) = nmb ((w45)) ((a1)) ((a2)) ((a2) - 1 - ((x7_5 + (-1))) : Int).toNat by assumption) rfl

theorem M281 {σ0 σ : rS} {D N : Nat → Nat} {F : hF} {A : hA} {d c s : Nat} {Q : wQ} (H : HS σ0 σ D N F A) {a1 a2 : Int} (w45 : Int → Int) (ew45 : A 45 = w45) (h0 : inr (a1)) (h1 : inr (a2)) (h2 : 0 ≤ (a1) ∧ (a1) ≤ (a2) ∧ (a2) ≤ 65536) (k : ∀ (z : Int) σ Fₚ Aₚ, HS σ0 σ D N Fₚ Aₚ → SF [] F Fₚ → SA [47] A Aₚ → (inrJ (z)) → ((z) = WDS ((w45)) ((a1)) ((a2) - (a1)) 0) → Q (some (J z)) σ c s) : Ew 281 (d + 2) 0 (rargs 0 [.ref (D 5), I a1, I a2]) [] σ c s Q := by
  refine Ew_of (pcₚ := 3) (fun _ => x_ldc2 (z := -7046029288634856825) rfl (by decide)) ?_
  refine Ew_of (pcₚ := 4) (fun _ => x_lstore_n rfl) ?_
  refine Ew_of (pcₚ := 7) (fun _ => x_ldc2 (z := -4417276706812531889) rfl (by decide)) ?_
  refine Ew_of (pcₚ := 9) (fun _ => x_lstore rfl) ?_
  refine Ew_of (pcₚ := 12) (fun _ => x_ldc2 (z := 1609587929392839161) rfl (by decide)) ?_
  refine Ew_of (pcₚ := 14) (fun _ => x_lstore rfl) ?_
  refine Ew_of (pcₚ := 17) (fun _ => x_ldc2 (z := -8796714831421723037) rfl (by decide)) ?_
  refine Ew_of (pcₚ := 19) (fun _ => x_lstore rfl) ?_
  refine Ew_of (pcₚ := 22) (fun _ => x_ldc2 (z := 2870177450012600261) rfl (by decide)) ?_
  refine Ew_of (pcₚ := 24) (fun _ => x_lstore rfl) ?_
  refine Ew_of (pcₚ := 25) (fun _ => x_iload_n rfl (rk2_o (rk2_o (rk2_o (rk2_o (rk2_o (rfl) rfl rfl) rfl rfl) rfl rfl) rfl rfl) rfl rfl)) ?_
  refine Ew_of (pcₚ := 27) (fun _ => x_istore rfl) ?_
  refine Ew_of (pcₚ := 29) (fun _ => x_lload rfl (rk_o (rk2_s) rfl rfl)) ?_
  refine Ew_of (pcₚ := 31) (fun _ => x_lstore rfl) ?_
  have hc231 : ∀ (ls : rO) (σ : rS) (F_c231 : hF) (A_c231 : hA) (xc231_13 : Int) (xc231_14 : Int), rlook ls 0 = some (.ref (D 5)) → rlook ls 1 = some (I (a1)) → rlook ls 2 = some (I (a2)) → rlook ls 3 = some (J ((-7046029288634856825))) → rlook ls 5 = some (J ((-4417276706812531889))) → rlook ls 7 = some (J (1609587929392839161)) → rlook ls 9 = some (J ((-8796714831421723037))) → rlook ls 11 = some (J (2870177450012600261)) → rlook ls 13 = some (I (xc231_13)) → rlook ls 14 = some (J (xc231_14)) → HS σ0 σ D N F_c231 A_c231 → SF [] F F_c231 → SA [47] A A_c231 → (inr (xc231_13)) → (inrJ (xc231_14)) → ((a1) ≤ (xc231_13) ∧ (xc231_13) ≤ (a2)) → (WS1 ((w45)) ((a1)) ((a2) - (a1)) 0 ((xc231_13)) ((xc231_14))) → Ew 281 (d + 2) 231 ls [] σ c s Q := by
   as_aux_lemma =>
    intro  ls σ F_c231 A_c231 xc231_13 xc231_14 lc231_0 lc231_1 lc231_2 lc231_3 lc231_5 lc231_7 lc231_9 lc231_11 lc231_13 lc231_14 H hS_c231 hA_c231   jc231_0 jc231_1 jc231_2 jc231_3
    have hc1 : WS1 ((w45)) ((a1)) ((a2) - (a1)) 0 ((xc231_13)) ((xc231_14)) := jc231_3
    refine Ew_of (pcₚ := 233) (fun _ => x_lload rfl lc231_14) ?_
    refine Ew_of (pcₚ := 234) (fun _ => x_iload_n rfl lc231_2) ?_
    refine Ew_of (pcₚ := 235) (fun _ => x_iload_n rfl lc231_1) ?_
    refine w_isub rfl ?_
    refine w_i2l rfl (show inr ((a2 - a1)) from q_614 h2) ?_
    refine w_laddE rfl ?_
    have g1 : inrJ (adJ (xc231_14) ((a2 - a1))) := toJ_inr _
    refine Ew_of (pcₚ := 240) (fun _ => x_lstore rfl) ?_
    have hc1p := hc1.1
    have : WRI8 ((w45)) ((a2) - ((a2) - (a1)) % 32) ((a2)) (adJ (WTI ((w45)) ((a1)) ((a2) - (a1)) 0) ((a2) - (a1))) ((xc231_13)) (((adJ (xc231_14) ((a2 - a1))))) := WRI8_i (by omega) (by rw [hc1.2]) (by omega)
    suffices hl240 : ∀ (m : Nat), ∀ (ls : rO) (σ : rS) (F_240 : hF) (A_240 : hA) (x240_13 : Int) (x240_14 : Int), rlook ls 0 = some (.ref (D 5)) → rlook ls 2 = some (I (a2)) → rlook ls 3 = some (J ((-7046029288634856825))) → rlook ls 5 = some (J ((-4417276706812531889))) → rlook ls 7 = some (J (1609587929392839161)) → rlook ls 9 = some (J ((-8796714831421723037))) → rlook ls 11 = some (J (2870177450012600261)) → rlook ls 13 = some (I (x240_13)) → rlook ls 14 = some (J (x240_14)) → HS σ0 σ D N F_240 A_240 → SF [] F_c231 F_240 → SA [] A_c231 A_240 → (inr (x240_13)) → (inrJ (x240_14)) → ((a1) ≤ (x240_13) ∧ (x240_13) ≤ (a2)) → (WRI8 ((w45)) ((a2) - ((a2) - (a1)) % 32) ((a2)) (adJ (WTI ((w45)) ((a1)) ((a2) - (a1)) 0) ((a2) - (a1))) ((x240_13)) ((x240_14))) → ((a2) - (x240_13)).toNat = m → Ew 281 (d + 2) 240 ls [] σ c s Q from
      hl240 _ _ σ _ _ (xc231_13) ((adJ (xc231_14) ((a2 - a1)))) (rk2_o (lc231_0) rfl rfl) (rk2_o (lc231_2) rfl rfl) (rk2_o (lc231_3) rfl rfl) (rk2_o (lc231_5) rfl rfl) (rk2_o (lc231_7) rfl rfl) (rk2_o (lc231_9) rfl rfl) (rk2_o (lc231_11) rfl rfl) (rk2_o (lc231_13) rfl rfl) (rk2_s) H (SF_refl) (SA_refl)   (show inr (xc231_13) from jc231_0) (show inrJ ((adJ (xc231_14) ((a2 - a1)))) from g1) (show (a1) ≤ (xc231_13) ∧ (xc231_13) ≤ (a2) from jc231_2) (show WRI8 ((w45)) ((a2) - ((a2) - (a1)) % 32) ((a2)) (adJ (WTI ((w45)) ((a1)) ((a2) - (a1)) 0) ((a2) - (a1))) ((xc231_13)) (((adJ (xc231_14) ((a2 - a1))))) by assumption) rfl
    as_aux_lemma =>
    intro m
    induction m using Nat.strongRecOn with
    | _ m ih240 =>
      intro ls σ F_240 A_240 x240_13 x240_14 l240_0 l240_2 l240_3 l240_5 l240_7 l240_9 l240_11 l240_13 l240_14 H hS_240 hA_240   j240_0 j240_1 j240_2 j240_3 hm240
      have j240_q : WRI8 ((w45)) ((a2) - ((a2) - (a1)) % 32) ((a2)) (adJ (WTI ((w45)) ((a1)) ((a2) - (a1)) 0) ((a2) - (a1))) ((x240_13)) ((x240_14)) := j240_3
      refine Ew_of (pcₚ := 241) (fun _ => x_iload_n rfl l240_2) ?_
      refine Ew_of (pcₚ := 243) (fun _ => x_iload rfl l240_13) ?_
      refine w_isub rfl ?_
      refine Ew_of (pcₚ := 246) (fun _ => x_bipush (z := 8) rfl (by decide)) ?_
      refine w_icmplt (t := 288) rfl rfl (show inr ((a2 - x240_13)) from q_615 h2 j240_2) (show inr (8) from q_141) (fun b2 => ?_) (fun b2 => ?_)
      · refine Ew_of (pcₚ := 289) (fun _ => x_iload_n rfl l240_2) ?_
        refine Ew_of (pcₚ := 291) (fun _ => x_iload rfl l240_13) ?_
        refine w_isub rfl ?_
        refine Ew_of (pcₚ := 293) (fun _ => x_iconst rfl) ?_
        refine w_icmplt (t := 324) rfl rfl (show inr ((a2 - x240_13)) from q_1501 b2 j240_2) (show inr (4) from q_216) (fun b3 => ?_) (fun b3 => ?_)
        · have : WRI1 ((w45)) ((a2) - ((a2) - (a1)) % 32) ((a2)) (adJ (WTI ((w45)) ((a1)) ((a2) - (a1)) 0) ((a2) - (a1))) ((x240_13)) ((x240_14)) := by first | exact WRI1_n j240_q (by omega) | exact WRI1_y j240_q (by omega) (w4_c n4_ r4_) (by omega)
          suffices hl324 : ∀ (m : Nat), ∀ (ls : rO) (σ : rS) (F_324 : hF) (A_324 : hA) (x324_13 : Int) (x324_14 : Int), rlook ls 0 = some (.ref (D 5)) → rlook ls 2 = some (I (a2)) → rlook ls 3 = some (J ((-7046029288634856825))) → rlook ls 5 = some (J ((-4417276706812531889))) → rlook ls 7 = some (J (1609587929392839161)) → rlook ls 11 = some (J (2870177450012600261)) → rlook ls 13 = some (I (x324_13)) → rlook ls 14 = some (J (x324_14)) → HS σ0 σ D N F_324 A_324 → SF [] F_240 F_324 → SA [] A_240 A_324 → (inr (x324_13)) → (inrJ (x324_14)) → ((a1) ≤ (x324_13) ∧ (x324_13) ≤ (a2)) → (WRI1 ((w45)) ((a2) - ((a2) - (a1)) % 32) ((a2)) (adJ (WTI ((w45)) ((a1)) ((a2) - (a1)) 0) ((a2) - (a1))) ((x324_13)) ((x324_14))) → ((a2) - (x324_13)).toNat = m → Ew 281 (d + 2) 324 ls [] σ c s Q from
            hl324 _ _ σ _ _ (x240_13) (x240_14) (l240_0) (l240_2) (l240_3) (l240_5) (l240_7) (l240_11) (l240_13) (l240_14) H (SF_refl) (SA_refl)   (show inr (x240_13) from j240_0) (show inrJ (x240_14) from j240_1) (show (a1) ≤ (x240_13) ∧ (x240_13) ≤ (a2) from j240_2) (show WRI1 ((w45)) ((a2) - ((a2) - (a1)) % 32) ((a2)) (adJ (WTI ((w45)) ((a1)) ((a2) - (a1)) 0) ((a2) - (a1))) ((x240_13)) ((x240_14)) by assumption) rfl
          as_aux_lemma =>
          intro m
          induction m using Nat.strongRecOn with
          | _ m ih324 =>
            intro ls σ F_324 A_324 x324_13 x324_14 l324_0 l324_2 l324_3 l324_5 l324_7 l324_11 l324_13 l324_14 H hS_324 hA_324   j324_0 j324_1 j324_2 j324_3 hm324
            have j324_q : WRI1 ((w45)) ((a2) - ((a2) - (a1)) % 32) ((a2)) (adJ (WTI ((w45)) ((a1)) ((a2) - (a1)) 0) ((a2) - (a1))) ((x324_13)) ((x324_14)) := j324_3
            refine Ew_of (pcₚ := 326) (fun _ => x_iload rfl l324_13) ?_
            refine Ew_of (pcₚ := 327) (fun _ => x_iload_n rfl l324_2) ?_
            refine w_icmpge (t := 357) rfl rfl (show inr (x324_13) from j324_0) (show inr (a2) from h1) (fun b4 => ?_) (fun b4 => ?_)
            · refine Ew_of (pcₚ := 359) (fun _ => x_lload rfl l324_14) ?_
              refine Ew_of (pcₚ := 361) (fun _ => x_lload rfl l324_14) ?_
              refine Ew_of (pcₚ := 363) (fun _ => x_bipush (z := 33) rfl (by decide)) ?_
              refine w_lushrE rfl ?_
              have g5 : inrJ (usJ (x324_14) (33)) := toJ_inr _
              refine w_lxorE rfl ?_
              have g6 : inrJ (xoJ (x324_14) ((usJ (x324_14) (33)))) := toJ_inr _
              refine Ew_of (pcₚ := 367) (fun _ => x_lload rfl l324_5) ?_
              refine w_lmulE rfl ?_
              have g7 : inrJ (muJ ((xoJ (x324_14) ((usJ (x324_14) (33))))) ((-4417276706812531889))) := toJ_inr _
              refine Ew_of (pcₚ := 370) (fun _ => x_lstore rfl) ?_
              refine Ew_of (pcₚ := 372) (fun _ => x_lload rfl rk2_s) ?_
              refine Ew_of (pcₚ := 374) (fun _ => x_lload rfl rk2_s) ?_
              refine Ew_of (pcₚ := 376) (fun _ => x_bipush (z := 29) rfl (by decide)) ?_
              refine w_lushrE rfl ?_
              have g8 : inrJ (usJ ((muJ ((xoJ (x324_14) ((usJ (x324_14) (33))))) ((-4417276706812531889)))) (29)) := toJ_inr _
              refine w_lxorE rfl ?_
              have g9 : inrJ (xoJ ((muJ ((xoJ (x324_14) ((usJ (x324_14) (33))))) ((-4417276706812531889)))) ((usJ ((muJ ((xoJ (x324_14) ((usJ (x324_14) (33))))) ((-4417276706812531889)))) (29)))) := toJ_inr _
              refine Ew_of (pcₚ := 380) (fun _ => x_lload rfl (rk2_o (l324_7) rfl rfl)) ?_
              refine w_lmulE rfl ?_
              have g10 : inrJ (muJ ((xoJ ((muJ ((xoJ (x324_14) ((usJ (x324_14) (33))))) ((-4417276706812531889)))) ((usJ ((muJ ((xoJ (x324_14) ((usJ (x324_14) (33))))) ((-4417276706812531889)))) (29))))) (1609587929392839161)) := toJ_inr _
              refine Ew_of (pcₚ := 383) (fun _ => x_lstore rfl) ?_
              refine Ew_of (pcₚ := 385) (fun _ => x_lload rfl rk2_s) ?_
              refine Ew_of (pcₚ := 387) (fun _ => x_lload rfl rk2_s) ?_
              refine Ew_of (pcₚ := 389) (fun _ => x_bipush (z := 32) rfl (by decide)) ?_
              refine w_lushrE rfl ?_
              have g11 : inrJ (usJ ((muJ ((xoJ ((muJ ((xoJ (x324_14) ((usJ (x324_14) (33))))) ((-4417276706812531889)))) ((usJ ((muJ ((xoJ (x324_14) ((usJ (x324_14) (33))))) ((-4417276706812531889)))) (29))))) (1609587929392839161))) (32)) := toJ_inr _
              refine w_lxorE rfl ?_
              have g12 : inrJ (xoJ ((muJ ((xoJ ((muJ ((xoJ (x324_14) ((usJ (x324_14) (33))))) ((-4417276706812531889)))) ((usJ ((muJ ((xoJ (x324_14) ((usJ (x324_14) (33))))) ((-4417276706812531889)))) (29))))) (1609587929392839161))) ((usJ ((muJ ((xoJ ((muJ ((xoJ (x324_14) ((usJ (x324_14) (33))))) ((-4417276706812531889)))) ((usJ ((muJ ((xoJ (x324_14) ((usJ (x324_14) (33))))) ((-4417276706812531889)))) (29))))) (1609587929392839161))) (32)))) := toJ_inr _
              have : ((xoJ ((muJ ((xoJ ((muJ ((xoJ (x324_14) ((usJ (x324_14) (33))))) ((-4417276706812531889)))) ((usJ ((muJ ((xoJ (x324_14) ((usJ (x324_14) (33))))) ((-4417276706812531889)))) (29))))) (1609587929392839161))) ((usJ ((muJ ((xoJ ((muJ ((xoJ (x324_14) ((usJ (x324_14) (33))))) ((-4417276706812531889)))) ((usJ ((muJ ((xoJ (x324_14) ((usJ (x324_14) (33))))) ((-4417276706812531889)))) (29))))) (1609587929392839161))) (32))))) = WDS ((w45)) ((a1)) ((a2) - (a1)) 0 := WDS_w (WRI1_e j324_q (by omega)) (by omega) (by omega)
              exact w_lreturn rfl (k ((xoJ ((muJ ((xoJ ((muJ ((xoJ (x324_14) ((usJ (x324_14) (33))))) ((-4417276706812531889)))) ((usJ ((muJ ((xoJ (x324_14) ((usJ (x324_14) (33))))) ((-4417276706812531889)))) (29))))) (1609587929392839161))) ((usJ ((muJ ((xoJ ((muJ ((xoJ (x324_14) ((usJ (x324_14) (33))))) ((-4417276706812531889)))) ((usJ ((muJ ((xoJ (x324_14) ((usJ (x324_14) (33))))) ((-4417276706812531889)))) (29))))) (1609587929392839161))) (32))))) σ _ _ H (SF_trans (SF_trans (SF_trans (SF_refl) hS_c231 (any_sub rfl)) hS_240 (any_sub rfl)) hS_324 (any_sub rfl)) (SA_trans (SA_trans (SA_trans (SA_refl) hA_c231 (any_subA rfl)) hA_240 (any_subA rfl)) hA_324 (any_subA rfl)) (show inrJ ((xoJ ((muJ ((xoJ ((muJ ((xoJ (x324_14) ((usJ (x324_14) (33))))) ((-4417276706812531889)))) ((usJ ((muJ ((xoJ (x324_14) ((usJ (x324_14) (33))))) ((-4417276706812531889)))) (29))))) (1609587929392839161))) ((usJ ((muJ ((xoJ ((muJ ((xoJ (x324_14) ((usJ (x324_14) (33))))) ((-4417276706812531889)))) ((usJ ((muJ ((xoJ (x324_14) ((usJ (x324_14) (33))))) ((-4417276706812531889)))) (29))))) (1609587929392839161))) (32))))) from g12) (show ((xoJ ((muJ ((xoJ ((muJ ((xoJ (x324_14) ((usJ (x324_14) (33))))) ((-4417276706812531889)))) ((usJ ((muJ ((xoJ (x324_14) ((usJ (x324_14) (33))))) ((-4417276706812531889)))) (29))))) (1609587929392839161))) ((usJ ((muJ ((xoJ ((muJ ((xoJ (x324_14) ((usJ (x324_14) (33))))) ((-4417276706812531889)))) ((usJ ((muJ ((xoJ (x324_14) ((usJ (x324_14) (33))))) ((-4417276706812531889)))) (29))))) (1609587929392839161))) (32))))) = WDS ((w45)) (a1) (a2 - a1) 0 by assumption))
            · refine Ew_of (pcₚ := 332) (fun _ => x_lload rfl l324_14) ?_
              refine Ew_of (pcₚ := 333) (fun _ => x_aload_n rfl l324_0) ?_
              refine Ew_of (pcₚ := 335) (fun _ => x_iload rfl l324_13) ?_
              refine w_inv H (o := 5) rfl rfl rfl (H.perm 5 rfl) rfl rfl (by rfl) (M279 H (w45) ((funext (hA_324 45 rfl)).trans ((funext (hA_240 45 rfl)).trans ((funext (hA_c231 45 rfl)).trans (ew45)))) (show inr (x324_13) from j324_0) (show 0 ≤ (x324_13) ∧ (x324_13) < 65536 from q_1502 b4 h2 j324_2) (fun z17 σ F13 A14 H hS15 hA16 pz17_0 pz17_1 pz17_2 => ⟨rfl, ?_⟩))
              have hby := pz17_2
              have hbr := pz17_1
              refine Ew_of (pcₚ := 340) (fun _ => x_lload rfl l324_11) ?_
              refine w_lmulE rfl ?_
              have g18 : inrJ (muJ (z17) (2870177450012600261)) := toJ_inr _
              refine w_lxorE rfl ?_
              have g19 : inrJ (xoJ (x324_14) ((muJ (z17) (2870177450012600261)))) := toJ_inr _
              refine Ew_of (pcₚ := 344) (fun _ => x_bipush (z := 11) rfl (by decide)) ?_
              refine w_stat24 rfl rfl (by rfl) (M278 H (show inrJ ((xoJ (x324_14) ((muJ (z17) (2870177450012600261))))) from g19) (show inr (11) from q_326) (show 0 ≤ (11) ∧ (11) ≤ 64 from q_824) (fun z24 σ F20 A21 H hS22 hA23 pz24_0 pz24_1 => ⟨rfl, ?_⟩))
              have r1_ := pz24_1
              refine Ew_of (pcₚ := 348) (fun _ => x_lload_n rfl l324_3) ?_
              refine w_lmulE rfl ?_
              have g25 : inrJ (muJ (z24) ((-7046029288634856825))) := toJ_inr _
              refine Ew_of (pcₚ := 351) (fun _ => x_lstore rfl) ?_
              refine Ew_of (pcₚ := 354) (fun _ => x_iinc (len := 3) rfl (rk2_o (l324_13) rfl rfl)) ?_
              refine Ew_of (pcₚ := 324) (fun _ => x_goto rfl rfl) ?_
              have : WRI1 ((w45)) ((a2) - ((a2) - (a1)) % 32) ((a2)) (adJ (WTI ((w45)) ((a1)) ((a2) - (a1)) 0) ((a2) - (a1))) (((x324_13 + 1))) (((muJ (z24) ((-7046029288634856825))))) := WRI1_s j324_q (by omega) (w1_r hby hbr r1_) (by omega)
              exact ih324 _ (msE hm324 q_16 (q_17 b4)) _ σ _ _ ((x324_13 + 1)) ((muJ (z24) ((-7046029288634856825)))) (rk_o (rk2_o (l324_0) rfl rfl) rfl rfl) (rk_o (rk2_o (l324_2) rfl rfl) rfl rfl) (rk_o (rk2_o (l324_3) rfl rfl) rfl rfl) (rk_o (rk2_o (l324_5) rfl rfl) rfl rfl) (rk_o (rk2_o (l324_7) rfl rfl) rfl rfl) (rk_o (rk2_o (l324_11) rfl rfl) rfl rfl) (rk_s) (rk_o (rk2_s) rfl rfl) H (SF_trans (SF_trans (hS_324) hS15 (any_sub rfl)) hS22 (any_sub rfl)) (SA_trans (SA_trans (hA_324) hA16 (any_subA rfl)) hA23 (any_subA rfl))   (show inr ((x324_13 + 1)) from q_361 b4 h2 j324_0) (show inrJ ((muJ (z24) ((-7046029288634856825)))) from g25) (show (a1) ≤ ((x324_13 + 1)) ∧ ((x324_13 + 1)) ≤ (a2) from q_1503 b4 j324_2) (show WRI1 ((w45)) ((a2) - ((a2) - (a1)) % 32) ((a2)) (adJ (WTI ((w45)) ((a1)) ((a2) - (a1)) 0) ((a2) - (a1))) (((x324_13 + 1))) (((muJ (z24) ((-7046029288634856825))))) by assumption) rfl
        · refine Ew_of (pcₚ := 298) (fun _ => x_lload rfl l240_14) ?_
          refine Ew_of (pcₚ := 299) (fun _ => x_aload_n rfl l240_0) ?_
          refine Ew_of (pcₚ := 301) (fun _ => x_iload rfl l240_13) ?_
          refine Ew_of (pcₚ := 302) (fun _ => x_iconst rfl) ?_
          refine w_inv H (o := 5) rfl rfl rfl (H.perm 5 rfl) rfl rfl (by rfl) (M280 H (w45) ((funext (hA_240 45 rfl)).trans ((funext (hA_c231 45 rfl)).trans (ew45))) (show inr (x240_13) from j240_0) (show inr (4) from q_216) (show 0 ≤ (x240_13) ∧ 0 ≤ (4) ∧ (4) ≤ 8 ∧ (x240_13) + (4) ≤ 65536 from q_808 b3 h2 j240_2) (fun z30 σ F26 A27 H hS28 hA29 pz30_0 pz30_1 => ⟨rfl, ?_⟩))
          have n4_ := nmb_4 pz30_1 pz30_0
          refine Ew_of (pcₚ := 306) (fun _ => x_lload_n rfl l240_3) ?_
          refine w_lmulE rfl ?_
          have g31 : inrJ (muJ (z30) ((-7046029288634856825))) := toJ_inr _
          refine w_lxorE rfl ?_
          have g32 : inrJ (xoJ (x240_14) ((muJ (z30) ((-7046029288634856825))))) := toJ_inr _
          refine Ew_of (pcₚ := 310) (fun _ => x_bipush (z := 23) rfl (by decide)) ?_
          refine w_stat24 rfl rfl (by rfl) (M278 H (show inrJ ((xoJ (x240_14) ((muJ (z30) ((-7046029288634856825)))))) from g32) (show inr (23) from q_826) (show 0 ≤ (23) ∧ (23) ≤ 64 from q_825) (fun z37 σ F33 A34 H hS35 hA36 pz37_0 pz37_1 => ⟨rfl, ?_⟩))
          have r4_ := pz37_1
          refine Ew_of (pcₚ := 315) (fun _ => x_lload rfl l240_5) ?_
          refine w_lmulE rfl ?_
          have g38 : inrJ (muJ (z37) ((-4417276706812531889))) := toJ_inr _
          refine Ew_of (pcₚ := 318) (fun _ => x_lload rfl l240_7) ?_
          refine w_laddE rfl ?_
          have g39 : inrJ (adJ ((muJ (z37) ((-4417276706812531889)))) (1609587929392839161)) := toJ_inr _
          refine Ew_of (pcₚ := 321) (fun _ => x_lstore rfl) ?_
          refine Ew_of (pcₚ := 324) (fun _ => x_iinc (len := 3) rfl (rk2_o (l240_13) rfl rfl)) ?_
          have : WRI1 ((w45)) ((a2) - ((a2) - (a1)) % 32) ((a2)) (adJ (WTI ((w45)) ((a1)) ((a2) - (a1)) 0) ((a2) - (a1))) (((x240_13 + 4))) (((adJ ((muJ (z37) ((-4417276706812531889)))) (1609587929392839161)))) := by first | exact WRI1_n j240_q (by omega) | exact WRI1_y j240_q (by omega) (w4_c n4_ r4_) (by omega)
          suffices hl324 : ∀ (m : Nat), ∀ (ls : rO) (σ : rS) (F_324 : hF) (A_324 : hA) (x324_13 : Int) (x324_14 : Int), rlook ls 0 = some (.ref (D 5)) → rlook ls 2 = some (I (a2)) → rlook ls 3 = some (J ((-7046029288634856825))) → rlook ls 5 = some (J ((-4417276706812531889))) → rlook ls 7 = some (J (1609587929392839161)) → rlook ls 11 = some (J (2870177450012600261)) → rlook ls 13 = some (I (x324_13)) → rlook ls 14 = some (J (x324_14)) → HS σ0 σ D N F_324 A_324 → SF [] F33 F_324 → SA [] A34 A_324 → (inr (x324_13)) → (inrJ (x324_14)) → ((a1) ≤ (x324_13) ∧ (x324_13) ≤ (a2)) → (WRI1 ((w45)) ((a2) - ((a2) - (a1)) % 32) ((a2)) (adJ (WTI ((w45)) ((a1)) ((a2) - (a1)) 0) ((a2) - (a1))) ((x324_13)) ((x324_14))) → ((a2) - (x324_13)).toNat = m → Ew 281 (d + 2) 324 ls [] σ c s Q from
            hl324 _ _ σ _ _ ((x240_13 + 4)) ((adJ ((muJ (z37) ((-4417276706812531889)))) (1609587929392839161))) (rk_o (rk2_o (l240_0) rfl rfl) rfl rfl) (rk_o (rk2_o (l240_2) rfl rfl) rfl rfl) (rk_o (rk2_o (l240_3) rfl rfl) rfl rfl) (rk_o (rk2_o (l240_5) rfl rfl) rfl rfl) (rk_o (rk2_o (l240_7) rfl rfl) rfl rfl) (rk_o (rk2_o (l240_11) rfl rfl) rfl rfl) (rk_s) (rk_o (rk2_s) rfl rfl) H (SF_refl) (SA_refl)   (show inr ((x240_13 + 4)) from q_618 b3 h2 j240_0) (show inrJ ((adJ ((muJ (z37) ((-4417276706812531889)))) (1609587929392839161))) from g39) (show (a1) ≤ ((x240_13 + 4)) ∧ ((x240_13 + 4)) ≤ (a2) from q_584 b3 j240_2) (show WRI1 ((w45)) ((a2) - ((a2) - (a1)) % 32) ((a2)) (adJ (WTI ((w45)) ((a1)) ((a2) - (a1)) 0) ((a2) - (a1))) (((x240_13 + 4))) (((adJ ((muJ (z37) ((-4417276706812531889)))) (1609587929392839161)))) by assumption) rfl
          as_aux_lemma =>
          intro m
          induction m using Nat.strongRecOn with
          | _ m ih324 =>
            intro ls σ F_324 A_324 x324_13 x324_14 l324_0 l324_2 l324_3 l324_5 l324_7 l324_11 l324_13 l324_14 H hS_324 hA_324   j324_0 j324_1 j324_2 j324_3 hm324
            have j324_q : WRI1 ((w45)) ((a2) - ((a2) - (a1)) % 32) ((a2)) (adJ (WTI ((w45)) ((a1)) ((a2) - (a1)) 0) ((a2) - (a1))) ((x324_13)) ((x324_14)) := j324_3
            refine Ew_of (pcₚ := 326) (fun _ => x_iload rfl l324_13) ?_
            refine Ew_of (pcₚ := 327) (fun _ => x_iload_n rfl l324_2) ?_
            refine w_icmpge (t := 357) rfl rfl (show inr (x324_13) from j324_0) (show inr (a2) from h1) (fun b40 => ?_) (fun b40 => ?_)
            · refine Ew_of (pcₚ := 359) (fun _ => x_lload rfl l324_14) ?_
              refine Ew_of (pcₚ := 361) (fun _ => x_lload rfl l324_14) ?_
              refine Ew_of (pcₚ := 363) (fun _ => x_bipush (z := 33) rfl (by decide)) ?_
              refine w_lushrE rfl ?_
              have g41 : inrJ (usJ (x324_14) (33)) := toJ_inr _
              refine w_lxorE rfl ?_
              have g42 : inrJ (xoJ (x324_14) ((usJ (x324_14) (33)))) := toJ_inr _
              refine Ew_of (pcₚ := 367) (fun _ => x_lload rfl l324_5) ?_
              refine w_lmulE rfl ?_
              have g43 : inrJ (muJ ((xoJ (x324_14) ((usJ (x324_14) (33))))) ((-4417276706812531889))) := toJ_inr _
              refine Ew_of (pcₚ := 370) (fun _ => x_lstore rfl) ?_
              refine Ew_of (pcₚ := 372) (fun _ => x_lload rfl rk2_s) ?_
              refine Ew_of (pcₚ := 374) (fun _ => x_lload rfl rk2_s) ?_
              refine Ew_of (pcₚ := 376) (fun _ => x_bipush (z := 29) rfl (by decide)) ?_
              refine w_lushrE rfl ?_
              have g44 : inrJ (usJ ((muJ ((xoJ (x324_14) ((usJ (x324_14) (33))))) ((-4417276706812531889)))) (29)) := toJ_inr _
              refine w_lxorE rfl ?_
              have g45 : inrJ (xoJ ((muJ ((xoJ (x324_14) ((usJ (x324_14) (33))))) ((-4417276706812531889)))) ((usJ ((muJ ((xoJ (x324_14) ((usJ (x324_14) (33))))) ((-4417276706812531889)))) (29)))) := toJ_inr _
              refine Ew_of (pcₚ := 380) (fun _ => x_lload rfl (rk2_o (l324_7) rfl rfl)) ?_
              refine w_lmulE rfl ?_
              have g46 : inrJ (muJ ((xoJ ((muJ ((xoJ (x324_14) ((usJ (x324_14) (33))))) ((-4417276706812531889)))) ((usJ ((muJ ((xoJ (x324_14) ((usJ (x324_14) (33))))) ((-4417276706812531889)))) (29))))) (1609587929392839161)) := toJ_inr _
              refine Ew_of (pcₚ := 383) (fun _ => x_lstore rfl) ?_
              refine Ew_of (pcₚ := 385) (fun _ => x_lload rfl rk2_s) ?_
              refine Ew_of (pcₚ := 387) (fun _ => x_lload rfl rk2_s) ?_
              refine Ew_of (pcₚ := 389) (fun _ => x_bipush (z := 32) rfl (by decide)) ?_
              refine w_lushrE rfl ?_
              have g47 : inrJ (usJ ((muJ ((xoJ ((muJ ((xoJ (x324_14) ((usJ (x324_14) (33))))) ((-4417276706812531889)))) ((usJ ((muJ ((xoJ (x324_14) ((usJ (x324_14) (33))))) ((-4417276706812531889)))) (29))))) (1609587929392839161))) (32)) := toJ_inr _
              refine w_lxorE rfl ?_
              have g48 : inrJ (xoJ ((muJ ((xoJ ((muJ ((xoJ (x324_14) ((usJ (x324_14) (33))))) ((-4417276706812531889)))) ((usJ ((muJ ((xoJ (x324_14) ((usJ (x324_14) (33))))) ((-4417276706812531889)))) (29))))) (1609587929392839161))) ((usJ ((muJ ((xoJ ((muJ ((xoJ (x324_14) ((usJ (x324_14) (33))))) ((-4417276706812531889)))) ((usJ ((muJ ((xoJ (x324_14) ((usJ (x324_14) (33))))) ((-4417276706812531889)))) (29))))) (1609587929392839161))) (32)))) := toJ_inr _
              have : ((xoJ ((muJ ((xoJ ((muJ ((xoJ (x324_14) ((usJ (x324_14) (33))))) ((-4417276706812531889)))) ((usJ ((muJ ((xoJ (x324_14) ((usJ (x324_14) (33))))) ((-4417276706812531889)))) (29))))) (1609587929392839161))) ((usJ ((muJ ((xoJ ((muJ ((xoJ (x324_14) ((usJ (x324_14) (33))))) ((-4417276706812531889)))) ((usJ ((muJ ((xoJ (x324_14) ((usJ (x324_14) (33))))) ((-4417276706812531889)))) (29))))) (1609587929392839161))) (32))))) = WDS ((w45)) ((a1)) ((a2) - (a1)) 0 := WDS_w (WRI1_e j324_q (by omega)) (by omega) (by omega)
              exact w_lreturn rfl (k ((xoJ ((muJ ((xoJ ((muJ ((xoJ (x324_14) ((usJ (x324_14) (33))))) ((-4417276706812531889)))) ((usJ ((muJ ((xoJ (x324_14) ((usJ (x324_14) (33))))) ((-4417276706812531889)))) (29))))) (1609587929392839161))) ((usJ ((muJ ((xoJ ((muJ ((xoJ (x324_14) ((usJ (x324_14) (33))))) ((-4417276706812531889)))) ((usJ ((muJ ((xoJ (x324_14) ((usJ (x324_14) (33))))) ((-4417276706812531889)))) (29))))) (1609587929392839161))) (32))))) σ _ _ H (SF_trans (SF_trans (SF_trans (SF_trans (SF_trans (SF_refl) hS_c231 (any_sub rfl)) hS_240 (any_sub rfl)) hS28 (any_sub rfl)) hS35 (any_sub rfl)) hS_324 (any_sub rfl)) (SA_trans (SA_trans (SA_trans (SA_trans (SA_trans (SA_refl) hA_c231 (any_subA rfl)) hA_240 (any_subA rfl)) hA29 (any_subA rfl)) hA36 (any_subA rfl)) hA_324 (any_subA rfl)) (show inrJ ((xoJ ((muJ ((xoJ ((muJ ((xoJ (x324_14) ((usJ (x324_14) (33))))) ((-4417276706812531889)))) ((usJ ((muJ ((xoJ (x324_14) ((usJ (x324_14) (33))))) ((-4417276706812531889)))) (29))))) (1609587929392839161))) ((usJ ((muJ ((xoJ ((muJ ((xoJ (x324_14) ((usJ (x324_14) (33))))) ((-4417276706812531889)))) ((usJ ((muJ ((xoJ (x324_14) ((usJ (x324_14) (33))))) ((-4417276706812531889)))) (29))))) (1609587929392839161))) (32))))) from g48) (show ((xoJ ((muJ ((xoJ ((muJ ((xoJ (x324_14) ((usJ (x324_14) (33))))) ((-4417276706812531889)))) ((usJ ((muJ ((xoJ (x324_14) ((usJ (x324_14) (33))))) ((-4417276706812531889)))) (29))))) (1609587929392839161))) ((usJ ((muJ ((xoJ ((muJ ((xoJ (x324_14) ((usJ (x324_14) (33))))) ((-4417276706812531889)))) ((usJ ((muJ ((xoJ (x324_14) ((usJ (x324_14) (33))))) ((-4417276706812531889)))) (29))))) (1609587929392839161))) (32))))) = WDS ((w45)) (a1) (a2 - a1) 0 by assumption))
            · refine Ew_of (pcₚ := 332) (fun _ => x_lload rfl l324_14) ?_
              refine Ew_of (pcₚ := 333) (fun _ => x_aload_n rfl l324_0) ?_
              refine Ew_of (pcₚ := 335) (fun _ => x_iload rfl l324_13) ?_
              refine w_inv H (o := 5) rfl rfl rfl (H.perm 5 rfl) rfl rfl (by rfl) (M279 H (w45) ((funext (hA_324 45 rfl)).trans ((funext (hA36 45 rfl)).trans ((funext (hA29 45 rfl)).trans ((funext (hA_240 45 rfl)).trans ((funext (hA_c231 45 rfl)).trans (ew45)))))) (show inr (x324_13) from j324_0) (show 0 ≤ (x324_13) ∧ (x324_13) < 65536 from q_1502 b40 h2 j324_2) (fun z53 σ F49 A50 H hS51 hA52 pz53_0 pz53_1 pz53_2 => ⟨rfl, ?_⟩))
              have hby := pz53_2
              have hbr := pz53_1
              refine Ew_of (pcₚ := 340) (fun _ => x_lload rfl l324_11) ?_
              refine w_lmulE rfl ?_
              have g54 : inrJ (muJ (z53) (2870177450012600261)) := toJ_inr _
              refine w_lxorE rfl ?_
              have g55 : inrJ (xoJ (x324_14) ((muJ (z53) (2870177450012600261)))) := toJ_inr _
              refine Ew_of (pcₚ := 344) (fun _ => x_bipush (z := 11) rfl (by decide)) ?_
              refine w_stat24 rfl rfl (by rfl) (M278 H (show inrJ ((xoJ (x324_14) ((muJ (z53) (2870177450012600261))))) from g55) (show inr (11) from q_326) (show 0 ≤ (11) ∧ (11) ≤ 64 from q_824) (fun z60 σ F56 A57 H hS58 hA59 pz60_0 pz60_1 => ⟨rfl, ?_⟩))
              have r1_ := pz60_1
              refine Ew_of (pcₚ := 348) (fun _ => x_lload_n rfl l324_3) ?_
              refine w_lmulE rfl ?_
              have g61 : inrJ (muJ (z60) ((-7046029288634856825))) := toJ_inr _
              refine Ew_of (pcₚ := 351) (fun _ => x_lstore rfl) ?_
              refine Ew_of (pcₚ := 354) (fun _ => x_iinc (len := 3) rfl (rk2_o (l324_13) rfl rfl)) ?_
              refine Ew_of (pcₚ := 324) (fun _ => x_goto rfl rfl) ?_
              have : WRI1 ((w45)) ((a2) - ((a2) - (a1)) % 32) ((a2)) (adJ (WTI ((w45)) ((a1)) ((a2) - (a1)) 0) ((a2) - (a1))) (((x324_13 + 1))) (((muJ (z60) ((-7046029288634856825))))) := WRI1_s j324_q (by omega) (w1_r hby hbr r1_) (by omega)
              exact ih324 _ (msE hm324 q_16 (q_17 b40)) _ σ _ _ ((x324_13 + 1)) ((muJ (z60) ((-7046029288634856825)))) (rk_o (rk2_o (l324_0) rfl rfl) rfl rfl) (rk_o (rk2_o (l324_2) rfl rfl) rfl rfl) (rk_o (rk2_o (l324_3) rfl rfl) rfl rfl) (rk_o (rk2_o (l324_5) rfl rfl) rfl rfl) (rk_o (rk2_o (l324_7) rfl rfl) rfl rfl) (rk_o (rk2_o (l324_11) rfl rfl) rfl rfl) (rk_s) (rk_o (rk2_s) rfl rfl) H (SF_trans (SF_trans (hS_324) hS51 (any_sub rfl)) hS58 (any_sub rfl)) (SA_trans (SA_trans (hA_324) hA52 (any_subA rfl)) hA59 (any_subA rfl))   (show inr ((x324_13 + 1)) from q_361 b40 h2 j324_0) (show inrJ ((muJ (z60) ((-7046029288634856825)))) from g61) (show (a1) ≤ ((x324_13 + 1)) ∧ ((x324_13 + 1)) ≤ (a2) from q_1503 b40 j324_2) (show WRI1 ((w45)) ((a2) - ((a2) - (a1)) % 32) ((a2)) (adJ (WTI ((w45)) ((a1)) ((a2) - (a1)) 0) ((a2) - (a1))) (((x324_13 + 1))) (((muJ (z60) ((-7046029288634856825))))) by assumption) rfl
      · refine Ew_of (pcₚ := 251) (fun _ => x_lload rfl l240_14) ?_
        refine Ew_of (pcₚ := 252) (fun _ => x_aload_n rfl l240_0) ?_
        refine Ew_of (pcₚ := 254) (fun _ => x_iload rfl l240_13) ?_
        refine Ew_of (pcₚ := 256) (fun _ => x_bipush (z := 8) rfl (by decide)) ?_
        refine w_inv H (o := 5) rfl rfl rfl (H.perm 5 rfl) rfl rfl (by rfl) (M280 H (w45) ((funext (hA_240 45 rfl)).trans ((funext (hA_c231 45 rfl)).trans (ew45))) (show inr (x240_13) from j240_0) (show inr (8) from q_141) (show 0 ≤ (x240_13) ∧ 0 ≤ (8) ∧ (8) ≤ 8 ∧ (x240_13) + (8) ≤ 65536 from q_829 b2 h2 j240_2) (fun z66 σ F62 A63 H hS64 hA65 pz66_0 pz66_1 => ⟨rfl, ?_⟩))
        have m8_ := nmb_8 pz66_1 pz66_0
        refine Ew_of (pcₚ := 261) (fun _ => x_lload rfl l240_5) ?_
        refine w_lmulE rfl ?_
        have g67 : inrJ (muJ (z66) ((-4417276706812531889))) := toJ_inr _
        refine Ew_of (pcₚ := 264) (fun _ => x_bipush (z := 31) rfl (by decide)) ?_
        refine w_stat24 rfl rfl (by rfl) (M278 H (show inrJ ((muJ (z66) ((-4417276706812531889)))) from g67) (show inr (31) from q_323) (show 0 ≤ (31) ∧ (31) ≤ 64 from q_322) (fun z72 σ F68 A69 H hS70 hA71 pz72_0 pz72_1 => ⟨rfl, ?_⟩))
        have ra_ := pz72_1
        refine Ew_of (pcₚ := 268) (fun _ => x_lload_n rfl l240_3) ?_
        refine w_lmulE rfl ?_
        have g73 : inrJ (muJ (z72) ((-7046029288634856825))) := toJ_inr _
        refine w_lxorE rfl ?_
        have g74 : inrJ (xoJ (x240_14) ((muJ (z72) ((-7046029288634856825))))) := toJ_inr _
        refine Ew_of (pcₚ := 272) (fun _ => x_bipush (z := 27) rfl (by decide)) ?_
        refine w_stat24 rfl rfl (by rfl) (M278 H (show inrJ ((xoJ (x240_14) ((muJ (z72) ((-7046029288634856825)))))) from g74) (show inr (27) from q_831) (show 0 ≤ (27) ∧ (27) ≤ 64 from q_830) (fun z79 σ F75 A76 H hS77 hA78 pz79_0 pz79_1 => ⟨rfl, ?_⟩))
        have rb_ := pz79_1
        refine Ew_of (pcₚ := 276) (fun _ => x_lload_n rfl l240_3) ?_
        refine w_lmulE rfl ?_
        have g80 : inrJ (muJ (z79) ((-7046029288634856825))) := toJ_inr _
        refine Ew_of (pcₚ := 279) (fun _ => x_lload rfl l240_9) ?_
        refine w_laddE rfl ?_
        have g81 : inrJ (adJ ((muJ (z79) ((-7046029288634856825)))) ((-8796714831421723037))) := toJ_inr _
        refine Ew_of (pcₚ := 282) (fun _ => x_lstore rfl) ?_
        refine Ew_of (pcₚ := 285) (fun _ => x_iinc (len := 3) rfl (rk2_o (l240_13) rfl rfl)) ?_
        refine Ew_of (pcₚ := 240) (fun _ => x_goto rfl rfl) ?_
        have : WRI8 ((w45)) ((a2) - ((a2) - (a1)) % 32) ((a2)) (adJ (WTI ((w45)) ((a1)) ((a2) - (a1)) 0) ((a2) - (a1))) (((x240_13 + 8))) (((adJ ((muJ (z79) ((-7046029288634856825)))) ((-8796714831421723037))))) := WRI8_s j240_q (by omega) (w8_r m8_ ra_ rb_) (by omega)
        exact ih240 _ (msE hm240 q_1504 (q_1505 b2)) _ σ _ _ ((x240_13 + 8)) ((adJ ((muJ (z79) ((-7046029288634856825)))) ((-8796714831421723037)))) (rk_o (rk2_o (l240_0) rfl rfl) rfl rfl) (rk_o (rk2_o (l240_2) rfl rfl) rfl rfl) (rk_o (rk2_o (l240_3) rfl rfl) rfl rfl) (rk_o (rk2_o (l240_5) rfl rfl) rfl rfl) (rk_o (rk2_o (l240_7) rfl rfl) rfl rfl) (rk_o (rk2_o (l240_9) rfl rfl) rfl rfl) (rk_o (rk2_o (l240_11) rfl rfl) rfl rfl) (rk_s) (rk_o (rk2_s) rfl rfl) H (SF_trans (SF_trans (SF_trans (hS_240) hS64 (any_sub rfl)) hS70 (any_sub rfl)) hS77 (any_sub rfl)) (SA_trans (SA_trans (SA_trans (hA_240) hA65 (any_subA rfl)) hA71 (any_subA rfl)) hA78 (any_subA rfl))   (show inr ((x240_13 + 8)) from q_834 b2 h2 j240_0) (show inrJ ((adJ ((muJ (z79) ((-7046029288634856825)))) ((-8796714831421723037)))) from g81) (show (a1) ≤ ((x240_13 + 8)) ∧ ((x240_13 + 8)) ≤ (a2) from q_833 b2 j240_2) (show WRI8 ((w45)) ((a2) - ((a2) - (a1)) % 32) ((a2)) (adJ (WTI ((w45)) ((a1)) ((a2) - (a1)) 0) ((a2) - (a1))) (((x240_13 + 8))) (((adJ ((muJ (z79) ((-7046029288634856825)))) ((-8796714831421723037))))) by assumption) rfl
  refine Ew_of (pcₚ := 32) (fun _ => x_iload_n rfl (rk2_o (rk_o (rk2_o (rk2_o (rk2_o (rk2_o (rk2_o (rfl) rfl rfl) rfl rfl) rfl rfl) rfl rfl) rfl rfl) rfl rfl) rfl rfl)) ?_
  refine Ew_of (pcₚ := 33) (fun _ => x_iload_n rfl (rk2_o (rk_o (rk2_o (rk2_o (rk2_o (rk2_o (rk2_o (rfl) rfl rfl) rfl rfl) rfl rfl) rfl rfl) rfl rfl) rfl rfl) rfl rfl)) ?_
  refine w_isub rfl ?_
  refine Ew_of (pcₚ := 36) (fun _ => x_bipush (z := 32) rfl (by decide)) ?_
  refine w_icmplt (t := 231) rfl rfl (show inr ((a2 - a1)) from q_614 h2) (show inr (32) from q_655) (fun b82 => ?_) (fun b82 => ?_)
  · have : WS1 ((w45)) ((a1)) ((a2) - (a1)) 0 ((a1)) ((2870177450012600261)) := by first | exact WS1_n (by omega) (by omega) (by omega) (by decide +kernel) | (obtain ⟨v0, v1, v2, v3, x0, x1, x2, x3, q0, q1, q2, q3, q4, q5, q6, q7, q8, q9⟩ := j192_q; exact WS1_a (by omega) (by omega) q0 q1 q2 q3 q4 q5 q6 q7 q8 (q9.trans (itl_0 (by omega))))
    exact hc231  _ σ _ _ (a1) (2870177450012600261) (rk2_o (rk_o (rk2_o (rk2_o (rk2_o (rk2_o (rk2_o (rfl) rfl rfl) rfl rfl) rfl rfl) rfl rfl) rfl rfl) rfl rfl) rfl rfl) (rk2_o (rk_o (rk2_o (rk2_o (rk2_o (rk2_o (rk2_o (rfl) rfl rfl) rfl rfl) rfl rfl) rfl rfl) rfl rfl) rfl rfl) rfl rfl) (rk2_o (rk_o (rk2_o (rk2_o (rk2_o (rk2_o (rk2_o (rfl) rfl rfl) rfl rfl) rfl rfl) rfl rfl) rfl rfl) rfl rfl) rfl rfl) (rk2_o (rk_o (rk2_o (rk2_o (rk2_o (rk2_o (rk2_s) rfl rfl) rfl rfl) rfl rfl) rfl rfl) rfl rfl) rfl rfl) (rk2_o (rk_o (rk2_o (rk2_o (rk2_o (rk2_s) rfl rfl) rfl rfl) rfl rfl) rfl rfl) rfl rfl) (rk2_o (rk_o (rk2_o (rk2_o (rk2_s) rfl rfl) rfl rfl) rfl rfl) rfl rfl) (rk2_o (rk_o (rk2_o (rk2_s) rfl rfl) rfl rfl) rfl rfl) (rk2_o (rk_o (rk2_s) rfl rfl) rfl rfl) (rk2_o (rk_s) rfl rfl) (rk2_s) H (SF_refl) (SA_refl)   (show inr (a1) from h0) (show inrJ (2870177450012600261) from q_1506) (show (a1) ≤ (a1) ∧ (a1) ≤ (a2) from q_619 h2) (show WS1 ((w45)) ((a1)) ((a2) - (a1)) 0 ((a1)) ((2870177450012600261)) by assumption)
  · refine Ew_of (pcₚ := 40) (fun _ => x_aload_n rfl (rk2_o (rk_o (rk2_o (rk2_o (rk2_o (rk2_o (rk2_o (rfl) rfl rfl) rfl rfl) rfl rfl) rfl rfl) rfl rfl) rfl rfl) rfl rfl)) ?_
    refine w_gT H (o := 5) (t := 47) rfl (H.perm 5 rfl) rfl rfl rfl rfl rfl rfl ?_
    refine Ew_of (pcₚ := 44) (fun _ => x_iconst rfl) ?_
    refine Ew_of (pcₚ := 45) (fun _ => x_lload_n rfl (rk2_o (rk_o (rk2_o (rk2_o (rk2_o (rk2_o (rk2_s) rfl rfl) rfl rfl) rfl rfl) rfl rfl) rfl rfl) rfl rfl)) ?_
    refine Ew_of (pcₚ := 47) (fun _ => x_lload rfl (rk2_o (rk_o (rk2_o (rk2_o (rk2_o (rk2_s) rfl rfl) rfl rfl) rfl rfl) rfl rfl) rfl rfl)) ?_
    refine w_laddE rfl ?_
    have g83 : inrJ (adJ ((-7046029288634856825)) ((-4417276706812531889))) := toJ_inr _
    refine w_sJ H (o := 47) (n := 4) rfl (H.perm 47 rfl) rfl rfl (H.fix 47 rfl rfl) (show 0 ≤ 0 ∧ 0 < ((4 : Nat) : Int) from q_589) (by decide) (show (-9223372036854775808 : Int) ≤ (adJ ((-7046029288634856825)) ((-4417276706812531889))) ∧ (adJ ((-7046029288634856825)) ((-4417276706812531889))) ≤ 9223372036854775807 by omega) (fun σ H => ?_)
    refine Ew_of (pcₚ := 50) (fun _ => x_aload_n rfl (rk2_o (rk_o (rk2_o (rk2_o (rk2_o (rk2_o (rk2_o (rfl) rfl rfl) rfl rfl) rfl rfl) rfl rfl) rfl rfl) rfl rfl) rfl rfl)) ?_
    refine w_gT H (o := 5) (t := 47) rfl (H.perm 5 rfl) rfl rfl rfl rfl rfl rfl ?_
    refine Ew_of (pcₚ := 54) (fun _ => x_iconst rfl) ?_
    refine Ew_of (pcₚ := 56) (fun _ => x_lload rfl (rk2_o (rk_o (rk2_o (rk2_o (rk2_o (rk2_s) rfl rfl) rfl rfl) rfl rfl) rfl rfl) rfl rfl)) ?_
    refine w_sJ H (o := 47) (n := 4) rfl (H.perm 47 rfl) rfl rfl (H.fix 47 rfl rfl) (show 0 ≤ 1 ∧ 1 < ((4 : Nat) : Int) from q_591) (by decide) (show (-9223372036854775808 : Int) ≤ (-4417276706812531889) ∧ (-4417276706812531889) ≤ 9223372036854775807 from q_1507) (fun σ H => ?_)
    refine Ew_of (pcₚ := 58) (fun _ => x_aload_n rfl (rk2_o (rk_o (rk2_o (rk2_o (rk2_o (rk2_o (rk2_o (rfl) rfl rfl) rfl rfl) rfl rfl) rfl rfl) rfl rfl) rfl rfl) rfl rfl)) ?_
    refine w_gT H (o := 5) (t := 47) rfl (H.perm 5 rfl) rfl rfl rfl rfl rfl rfl ?_
    refine Ew_of (pcₚ := 62) (fun _ => x_iconst rfl) ?_
    refine Ew_of (pcₚ := 63) (fun _ => x_lconst (z := 0) rfl (by decide)) ?_
    refine w_sJ H (o := 47) (n := 4) rfl (H.perm 47 rfl) rfl rfl (H.fix 47 rfl rfl) (show 0 ≤ 2 ∧ 2 < ((4 : Nat) : Int) from q_593) (by decide) (show (-9223372036854775808 : Int) ≤ 0 ∧ 0 ≤ 9223372036854775807 from q_592) (fun σ H => ?_)
    refine Ew_of (pcₚ := 65) (fun _ => x_aload_n rfl (rk2_o (rk_o (rk2_o (rk2_o (rk2_o (rk2_o (rk2_o (rfl) rfl rfl) rfl rfl) rfl rfl) rfl rfl) rfl rfl) rfl rfl) rfl rfl)) ?_
    refine w_gT H (o := 5) (t := 47) rfl (H.perm 5 rfl) rfl rfl rfl rfl rfl rfl ?_
    refine Ew_of (pcₚ := 69) (fun _ => x_iconst rfl) ?_
    refine Ew_of (pcₚ := 70) (fun _ => x_lload_n rfl (rk2_o (rk_o (rk2_o (rk2_o (rk2_o (rk2_o (rk2_s) rfl rfl) rfl rfl) rfl rfl) rfl rfl) rfl rfl) rfl rfl)) ?_
    refine w_lneg rfl ?_
    refine w_sJ H (o := 47) (n := 4) rfl (H.perm 47 rfl) rfl rfl (H.fix 47 rfl rfl) (show 0 ≤ 3 ∧ 3 < ((4 : Nat) : Int) from q_594) (by decide) (show (-9223372036854775808 : Int) ≤ (-(-7046029288634856825)) ∧ (-(-7046029288634856825)) ≤ 9223372036854775807 from q_1508) (fun σ H => ?_)
    have : LWA ((w45)) ((a1)) ((a2) - (a1)) ((a1)) (0) ((upd1 (upd1 (upd1 (upd1 (A 47) (0) ((adJ ((-7046029288634856825)) ((-4417276706812531889))))) (1) ((-4417276706812531889))) (2) (0)) (3) ((-(-7046029288634856825))))) := LWA_i rfl (by decide +kernel) (by decide +kernel) (by decide +kernel) (by decide +kernel)
    suffices hl72 : ∀ (m : Nat), ∀ (ls : rO) (σ : rS) (F_72 : hF) (A_72 : hA) (x72_13 : Int), rlook ls 0 = some (.ref (D 5)) → rlook ls 1 = some (I (a1)) → rlook ls 2 = some (I (a2)) → rlook ls 3 = some (J ((-7046029288634856825))) → rlook ls 5 = some (J ((-4417276706812531889))) → rlook ls 7 = some (J (1609587929392839161)) → rlook ls 9 = some (J ((-8796714831421723037))) → rlook ls 11 = some (J (2870177450012600261)) → rlook ls 13 = some (I (x72_13)) → HS σ0 σ D N F_72 A_72 → SF [] F F_72 → SA [47] (updA (updA (updA (updA A 47 (0) ((adJ ((-7046029288634856825)) ((-4417276706812531889))))) 47 (1) ((-4417276706812531889))) 47 (2) (0)) 47 (3) ((-(-7046029288634856825)))) A_72 → ∀ w72_47 : Int → Int, A_72 47 = w72_47 → (inr (x72_13)) → ((a1) ≤ (x72_13) ∧ (x72_13) ≤ (a2)) → (((x72_13) - (a1)) % 32 = 0) → (LWA ((w45)) ((a1)) ((a2) - (a1)) ((x72_13)) (0) ((w72_47))) → ((a2) - (x72_13)).toNat = m → Ew 281 (d + 2) 72 ls [] σ c s Q from
      hl72 _ _ σ _ _ (a1) (rk2_o (rk_o (rk2_o (rk2_o (rk2_o (rk2_o (rk2_o (rfl) rfl rfl) rfl rfl) rfl rfl) rfl rfl) rfl rfl) rfl rfl) rfl rfl) (rk2_o (rk_o (rk2_o (rk2_o (rk2_o (rk2_o (rk2_o (rfl) rfl rfl) rfl rfl) rfl rfl) rfl rfl) rfl rfl) rfl rfl) rfl rfl) (rk2_o (rk_o (rk2_o (rk2_o (rk2_o (rk2_o (rk2_o (rfl) rfl rfl) rfl rfl) rfl rfl) rfl rfl) rfl rfl) rfl rfl) rfl rfl) (rk2_o (rk_o (rk2_o (rk2_o (rk2_o (rk2_o (rk2_s) rfl rfl) rfl rfl) rfl rfl) rfl rfl) rfl rfl) rfl rfl) (rk2_o (rk_o (rk2_o (rk2_o (rk2_o (rk2_s) rfl rfl) rfl rfl) rfl rfl) rfl rfl) rfl rfl) (rk2_o (rk_o (rk2_o (rk2_o (rk2_s) rfl rfl) rfl rfl) rfl rfl) rfl rfl) (rk2_o (rk_o (rk2_o (rk2_s) rfl rfl) rfl rfl) rfl rfl) (rk2_o (rk_o (rk2_s) rfl rfl) rfl rfl) (rk2_o (rk_s) rfl rfl) H (SF_refl) (SA_refl)  (upd1 (upd1 (upd1 (upd1 (A 47) (0) ((adJ ((-7046029288634856825)) ((-4417276706812531889))))) (1) ((-4417276706812531889))) (2) (0)) (3) ((-(-7046029288634856825)))) (rfl) (show inr (a1) from h0) (show (a1) ≤ (a1) ∧ (a1) ≤ (a2) from q_619 h2) (show ((a1) - (a1)) % 32 = 0 by omega) (show LWA ((w45)) ((a1)) ((a2) - (a1)) ((a1)) (0) ((upd1 (upd1 (upd1 (upd1 (A 47) (0) ((adJ ((-7046029288634856825)) ((-4417276706812531889))))) (1) ((-4417276706812531889))) (2) (0)) (3) ((-(-7046029288634856825))))) by assumption) rfl
    as_aux_lemma =>
    intro m
    induction m using Nat.strongRecOn with
    | _ m ih72 =>
      intro ls σ F_72 A_72 x72_13 l72_0 l72_1 l72_2 l72_3 l72_5 l72_7 l72_9 l72_11 l72_13 H hS_72 hA_72  w72_47 ew72_47 j72_0 j72_1 j72_2 j72_3 hm72
      have j72_q : LWA ((w45)) ((a1)) ((a2) - (a1)) ((x72_13)) (0) ((w72_47)) := j72_3
      refine Ew_of (pcₚ := 73) (fun _ => x_iload_n rfl l72_2) ?_
      refine Ew_of (pcₚ := 75) (fun _ => x_iload rfl l72_13) ?_
      refine w_isub rfl ?_
      refine Ew_of (pcₚ := 78) (fun _ => x_bipush (z := 32) rfl (by decide)) ?_
      refine w_icmplt (t := 141) rfl rfl (show inr ((a2 - x72_13)) from q_615 h2 j72_1) (show inr (32) from q_655) (fun b84 => ?_) (fun b84 => ?_)
      · refine Ew_of (pcₚ := 142) (fun _ => x_aload_n rfl l72_0) ?_
        refine w_gT H (o := 5) (t := 47) rfl (H.perm 5 rfl) rfl rfl rfl rfl rfl rfl ?_
        refine Ew_of (pcₚ := 146) (fun _ => x_iconst rfl) ?_
        refine w_lJ H (o := 47) (n := 4) rfl (H.perm 47 rfl) rfl rfl (H.fix 47 rfl rfl) (show 0 ≤ 0 ∧ 0 < ((4 : Nat) : Int) from q_589) (by decide) (fun v85 ev85 qv85 => ?_)
        have qv85 : (-9223372036854775808 : Int) ≤ v85 ∧ v85 ≤ 9223372036854775807 := qv85
        have ev85 : (w72_47) (0) = v85 := (congrFun (ew72_47) (0)).symm.trans ev85
        have a0_ := ev85
        refine Ew_of (pcₚ := 148) (fun _ => x_iconst rfl) ?_
        refine w_stat24 rfl rfl (by rfl) (M278 H (show inrJ (v85) by omega) (show inr (1) from q_135) (show 0 ≤ (1) ∧ (1) ≤ 64 from q_800) (fun z90 σ F86 A87 H hS88 hA89 pz90_0 pz90_1 => ⟨rfl, ?_⟩))
        have b0_ := pz90_1
        refine Ew_of (pcₚ := 152) (fun _ => x_aload_n rfl l72_0) ?_
        refine w_gT H (o := 5) (t := 47) rfl (H.perm 5 rfl) rfl rfl rfl rfl rfl rfl ?_
        refine Ew_of (pcₚ := 156) (fun _ => x_iconst rfl) ?_
        refine w_lJ H (o := 47) (n := 4) rfl (H.perm 47 rfl) rfl rfl (H.fix 47 rfl rfl) (show 0 ≤ 1 ∧ 1 < ((4 : Nat) : Int) from q_591) (by decide) (fun v91 ev91 qv91 => ?_)
        have qv91 : (-9223372036854775808 : Int) ≤ v91 ∧ v91 ≤ 9223372036854775807 := qv91
        have ev91 : (w72_47) (1) = v91 := (congrFun ((funext (hA89 47 rfl)).trans (ew72_47)) (1)).symm.trans ev91
        have a1_ := ev91
        refine Ew_of (pcₚ := 159) (fun _ => x_bipush (z := 7) rfl (by decide)) ?_
        refine w_stat24 rfl rfl (by rfl) (M278 H (show inrJ (v91) by omega) (show inr (7) from q_597) (show 0 ≤ (7) ∧ (7) ≤ 64 from q_801) (fun z96 σ F92 A93 H hS94 hA95 pz96_0 pz96_1 => ⟨rfl, ?_⟩))
        have b1_ := pz96_1
        refine w_laddE rfl ?_
        have g97 : inrJ (adJ (z90) (z96)) := toJ_inr _
        refine Ew_of (pcₚ := 164) (fun _ => x_aload_n rfl l72_0) ?_
        refine w_gT H (o := 5) (t := 47) rfl (H.perm 5 rfl) rfl rfl rfl rfl rfl rfl ?_
        refine Ew_of (pcₚ := 168) (fun _ => x_iconst rfl) ?_
        refine w_lJ H (o := 47) (n := 4) rfl (H.perm 47 rfl) rfl rfl (H.fix 47 rfl rfl) (show 0 ≤ 2 ∧ 2 < ((4 : Nat) : Int) from q_593) (by decide) (fun v98 ev98 qv98 => ?_)
        have qv98 : (-9223372036854775808 : Int) ≤ v98 ∧ v98 ≤ 9223372036854775807 := qv98
        have ev98 : (w72_47) (2) = v98 := (congrFun ((funext (hA95 47 rfl)).trans ((funext (hA89 47 rfl)).trans (ew72_47))) (2)).symm.trans ev98
        have a2_ := ev98
        refine Ew_of (pcₚ := 171) (fun _ => x_bipush (z := 12) rfl (by decide)) ?_
        refine w_stat24 rfl rfl (by rfl) (M278 H (show inrJ (v98) by omega) (show inr (12) from q_599) (show 0 ≤ (12) ∧ (12) ≤ 64 from q_802) (fun z103 σ F99 A100 H hS101 hA102 pz103_0 pz103_1 => ⟨rfl, ?_⟩))
        have b2_ := pz103_1
        refine w_laddE rfl ?_
        have g104 : inrJ (adJ ((adJ (z90) (z96))) (z103)) := toJ_inr _
        refine Ew_of (pcₚ := 176) (fun _ => x_aload_n rfl l72_0) ?_
        refine w_gT H (o := 5) (t := 47) rfl (H.perm 5 rfl) rfl rfl rfl rfl rfl rfl ?_
        refine Ew_of (pcₚ := 180) (fun _ => x_iconst rfl) ?_
        refine w_lJ H (o := 47) (n := 4) rfl (H.perm 47 rfl) rfl rfl (H.fix 47 rfl rfl) (show 0 ≤ 3 ∧ 3 < ((4 : Nat) : Int) from q_594) (by decide) (fun v105 ev105 qv105 => ?_)
        have qv105 : (-9223372036854775808 : Int) ≤ v105 ∧ v105 ≤ 9223372036854775807 := qv105
        have ev105 : (w72_47) (3) = v105 := (congrFun ((funext (hA102 47 rfl)).trans ((funext (hA95 47 rfl)).trans ((funext (hA89 47 rfl)).trans (ew72_47)))) (3)).symm.trans ev105
        have a3_ := ev105
        refine Ew_of (pcₚ := 183) (fun _ => x_bipush (z := 18) rfl (by decide)) ?_
        refine w_stat24 rfl rfl (by rfl) (M278 H (show inrJ (v105) by omega) (show inr (18) from q_601) (show 0 ≤ (18) ∧ (18) ≤ 64 from q_803) (fun z110 σ F106 A107 H hS108 hA109 pz110_0 pz110_1 => ⟨rfl, ?_⟩))
        have b3_ := pz110_1
        refine w_laddE rfl ?_
        have g111 : inrJ (adJ ((adJ ((adJ (z90) (z96))) (z103))) (z110)) := toJ_inr _
        refine Ew_of (pcₚ := 189) (fun _ => x_lstore rfl) ?_
        refine Ew_of (pcₚ := 190) (fun _ => x_iconst rfl) ?_
        refine Ew_of (pcₚ := 192) (fun _ => x_istore rfl) ?_
        have : ∃ v0 v1 v2 v3 xr0 xr1 xr2 xr3, LWA ((w45)) ((a1)) ((a2) - (a1)) ((x72_13)) 0 ((w72_47)) ∧ ((w72_47)) 0 = v0 ∧ ((w72_47)) 1 = v1 ∧ ((w72_47)) 2 = v2 ∧ ((w72_47)) 3 = v3 ∧ xr0 = rtJ v0 1 ∧ xr1 = rtJ v1 7 ∧ xr2 = rtJ v2 12 ∧ xr3 = rtJ v3 18 ∧ itl (fun l p => wj l (((w72_47)) p)) 1 0 4 (adJ (adJ (adJ xr0 xr1) xr2) xr3) = itl (fun l p => wj l (((w72_47)) p)) 1 (0) (4 - 0 : Int).toNat (((adJ ((adJ ((adJ (z90) (z96))) (z103))) (z110)))) := ⟨_, _, _, _, _, _, _, _, j72_q, a0_, a1_, a2_, a3_, b0_, b1_, b2_, b3_, by rw [show ((4 : Int) - 0).toNat = 4 from rfl]⟩
        suffices hl192 : ∀ (m : Nat), ∀ (ls : rO) (σ : rS) (F_192 : hF) (A_192 : hA) (x192_14 : Int) (x192_16 : Int), rlook ls 0 = some (.ref (D 5)) → rlook ls 1 = some (I (a1)) → rlook ls 2 = some (I (a2)) → rlook ls 3 = some (J ((-7046029288634856825))) → rlook ls 5 = some (J ((-4417276706812531889))) → rlook ls 7 = some (J (1609587929392839161)) → rlook ls 9 = some (J ((-8796714831421723037))) → rlook ls 11 = some (J (2870177450012600261)) → rlook ls 13 = some (I (x72_13)) → rlook ls 14 = some (J (x192_14)) → rlook ls 16 = some (I (x192_16)) → HS σ0 σ D N F_192 A_192 → SF [] F106 F_192 → SA [] A107 A_192 → (inrJ (x192_14)) → (inr (x192_16)) → ((0) ≤ (x192_16)) → ((x192_16) ≤ (0) ∨ (x192_16) ≤ (4)) → (∃ v0 v1 v2 v3 xr0 xr1 xr2 xr3, LWA ((w45)) ((a1)) ((a2) - (a1)) ((x72_13)) 0 ((w72_47)) ∧ ((w72_47)) 0 = v0 ∧ ((w72_47)) 1 = v1 ∧ ((w72_47)) 2 = v2 ∧ ((w72_47)) 3 = v3 ∧ xr0 = rtJ v0 1 ∧ xr1 = rtJ v1 7 ∧ xr2 = rtJ v2 12 ∧ xr3 = rtJ v3 18 ∧ itl (fun l p => wj l (((w72_47)) p)) 1 0 4 (adJ (adJ (adJ xr0 xr1) xr2) xr3) = itl (fun l p => wj l (((w72_47)) p)) 1 ((x192_16)) (4 - (x192_16) : Int).toNat ((x192_14))) → ((4) - (x192_16)).toNat = m → Ew 281 (d + 2) 192 ls [] σ c s Q from
          hl192 _ _ σ _ _ ((adJ ((adJ ((adJ (z90) (z96))) (z103))) (z110))) (0) (rk_o (rk2_o (l72_0) rfl rfl) rfl rfl) (rk_o (rk2_o (l72_1) rfl rfl) rfl rfl) (rk_o (rk2_o (l72_2) rfl rfl) rfl rfl) (rk_o (rk2_o (l72_3) rfl rfl) rfl rfl) (rk_o (rk2_o (l72_5) rfl rfl) rfl rfl) (rk_o (rk2_o (l72_7) rfl rfl) rfl rfl) (rk_o (rk2_o (l72_9) rfl rfl) rfl rfl) (rk_o (rk2_o (l72_11) rfl rfl) rfl rfl) (rk_o (rk2_o (l72_13) rfl rfl) rfl rfl) (rk_o (rk2_s) rfl rfl) (rk_s) H (SF_refl) (SA_refl)   (show inrJ ((adJ ((adJ ((adJ (z90) (z96))) (z103))) (z110))) from g111) (show inr (0) from q_2) (show (0) ≤ (0) from q_1) (show (0) ≤ (0) ∨ (0) ≤ (4) from q_603) (show ∃ v0 v1 v2 v3 xr0 xr1 xr2 xr3, LWA ((w45)) ((a1)) ((a2) - (a1)) ((x72_13)) 0 ((w72_47)) ∧ ((w72_47)) 0 = v0 ∧ ((w72_47)) 1 = v1 ∧ ((w72_47)) 2 = v2 ∧ ((w72_47)) 3 = v3 ∧ xr0 = rtJ v0 1 ∧ xr1 = rtJ v1 7 ∧ xr2 = rtJ v2 12 ∧ xr3 = rtJ v3 18 ∧ itl (fun l p => wj l (((w72_47)) p)) 1 0 4 (adJ (adJ (adJ xr0 xr1) xr2) xr3) = itl (fun l p => wj l (((w72_47)) p)) 1 ((0)) (4 - (0) : Int).toNat (((adJ ((adJ ((adJ (z90) (z96))) (z103))) (z110)))) by assumption) rfl
        as_aux_lemma =>
        intro m
        induction m using Nat.strongRecOn with
        | _ m ih192 =>
          intro ls σ F_192 A_192 x192_14 x192_16 l192_0 l192_1 l192_2 l192_3 l192_5 l192_7 l192_9 l192_11 l192_13 l192_14 l192_16 H hS_192 hA_192   j192_0 j192_1 j192_2 j192_3 j192_4 hm192
          have j192_q : ∃ v0 v1 v2 v3 xr0 xr1 xr2 xr3, LWA ((w45)) ((a1)) ((a2) - (a1)) ((x72_13)) 0 ((w72_47)) ∧ ((w72_47)) 0 = v0 ∧ ((w72_47)) 1 = v1 ∧ ((w72_47)) 2 = v2 ∧ ((w72_47)) 3 = v3 ∧ xr0 = rtJ v0 1 ∧ xr1 = rtJ v1 7 ∧ xr2 = rtJ v2 12 ∧ xr3 = rtJ v3 18 ∧ itl (fun l p => wj l (((w72_47)) p)) 1 0 4 (adJ (adJ (adJ xr0 xr1) xr2) xr3) = itl (fun l p => wj l (((w72_47)) p)) 1 ((x192_16)) (4 - (x192_16) : Int).toNat ((x192_14)) := by assumption
          refine Ew_of (pcₚ := 194) (fun _ => x_iload rfl l192_16) ?_
          refine Ew_of (pcₚ := 195) (fun _ => x_iconst rfl) ?_
          refine w_icmpge (t := 231) rfl rfl (show inr (x192_16) from j192_1) (show inr (4) from q_216) (fun b112 => ?_) (fun b112 => ?_)
          · have : WS1 ((w45)) ((a1)) ((a2) - (a1)) 0 ((x72_13)) ((x192_14)) := by first | exact WS1_n (by omega) (by omega) (by omega) (by decide +kernel) | (obtain ⟨v0, v1, v2, v3, x0, x1, x2, x3, q0, q1, q2, q3, q4, q5, q6, q7, q8, q9⟩ := j192_q; exact WS1_a (by omega) (by omega) q0 q1 q2 q3 q4 q5 q6 q7 q8 (q9.trans (itl_0 (by omega))))
            exact hc231  _ σ _ _ (x72_13) (x192_14) (l192_0) (l192_1) (l192_2) (l192_3) (l192_5) (l192_7) (l192_9) (l192_11) (l192_13) (l192_14) H (SF_trans (SF_trans (SF_trans (SF_trans (SF_trans (SF_trans (SF_refl) hS_72 (any_sub rfl)) hS88 (any_sub rfl)) hS94 (any_sub rfl)) hS101 (any_sub rfl)) hS108 (any_sub rfl)) hS_192 (any_sub rfl)) (SA_trans (SA_trans (SA_trans (SA_trans (SA_trans (SA_trans (SA_upd (SA_upd (SA_upd (SA_upd (SA_refl) rfl) rfl) rfl) rfl) hA_72 (any_subA rfl)) hA89 (any_subA rfl)) hA95 (any_subA rfl)) hA102 (any_subA rfl)) hA109 (any_subA rfl)) hA_192 (any_subA rfl))   (show inr (x72_13) from j72_0) (show inrJ (x192_14) from j192_0) (show (a1) ≤ (x72_13) ∧ (x72_13) ≤ (a2) from j72_1) (show WS1 ((w45)) ((a1)) ((a2) - (a1)) 0 ((x72_13)) ((x192_14)) by assumption)
          · refine Ew_of (pcₚ := 200) (fun _ => x_lload rfl l192_14) ?_
            refine Ew_of (pcₚ := 201) (fun _ => x_aload_n rfl l192_0) ?_
            refine w_gT H (o := 5) (t := 47) rfl (H.perm 5 rfl) rfl rfl rfl rfl rfl rfl ?_
            refine Ew_of (pcₚ := 206) (fun _ => x_iload rfl l192_16) ?_
            refine w_lJ H (o := 47) (n := 4) rfl (H.perm 47 rfl) rfl rfl (H.fix 47 rfl rfl) (show 0 ≤ x192_16 ∧ x192_16 < ((4 : Nat) : Int) from q_605 b112 j192_2) (by decide) (fun v113 ev113 qv113 => ?_)
            have qv113 : (-9223372036854775808 : Int) ≤ v113 ∧ v113 ≤ 9223372036854775807 := qv113
            have ev113 : (w72_47) (x192_16) = v113 := (congrFun ((funext (hA_192 47 rfl)).trans ((funext (hA109 47 rfl)).trans ((funext (hA102 47 rfl)).trans ((funext (hA95 47 rfl)).trans ((funext (hA89 47 rfl)).trans (ew72_47)))))) (x192_16)).symm.trans ev113
            have hlw := ev113
            refine Ew_of (pcₚ := 209) (fun _ => x_lload rfl l192_5) ?_
            refine w_lmulE rfl ?_
            have g114 : inrJ (muJ (v113) ((-4417276706812531889))) := toJ_inr _
            refine Ew_of (pcₚ := 212) (fun _ => x_bipush (z := 31) rfl (by decide)) ?_
            refine w_stat24 rfl rfl (by rfl) (M278 H (show inrJ ((muJ (v113) ((-4417276706812531889)))) from g114) (show inr (31) from q_323) (show 0 ≤ (31) ∧ (31) ≤ 64 from q_322) (fun z119 σ F115 A116 H hS117 hA118 pz119_0 pz119_1 => ⟨rfl, ?_⟩))
            have rj_ := pz119_1
            refine Ew_of (pcₚ := 216) (fun _ => x_lload_n rfl l192_3) ?_
            refine w_lmulE rfl ?_
            have g120 : inrJ (muJ (z119) ((-7046029288634856825))) := toJ_inr _
            refine w_lxorE rfl ?_
            have g121 : inrJ (xoJ (x192_14) ((muJ (z119) ((-7046029288634856825))))) := toJ_inr _
            refine Ew_of (pcₚ := 219) (fun _ => x_lload_n rfl l192_3) ?_
            refine w_lmulE rfl ?_
            have g122 : inrJ (muJ ((xoJ (x192_14) ((muJ (z119) ((-7046029288634856825)))))) ((-7046029288634856825))) := toJ_inr _
            refine Ew_of (pcₚ := 222) (fun _ => x_lload rfl l192_9) ?_
            refine w_laddE rfl ?_
            have g123 : inrJ (adJ ((muJ ((xoJ (x192_14) ((muJ (z119) ((-7046029288634856825)))))) ((-7046029288634856825)))) ((-8796714831421723037))) := toJ_inr _
            refine Ew_of (pcₚ := 225) (fun _ => x_lstore rfl) ?_
            refine Ew_of (pcₚ := 228) (fun _ => x_iinc (len := 3) rfl (rk2_o (l192_16) rfl rfl)) ?_
            refine Ew_of (pcₚ := 192) (fun _ => x_goto rfl rfl) ?_
            have : ∃ v0 v1 v2 v3 xr0 xr1 xr2 xr3, LWA ((w45)) ((a1)) ((a2) - (a1)) ((x72_13)) 0 ((w72_47)) ∧ ((w72_47)) 0 = v0 ∧ ((w72_47)) 1 = v1 ∧ ((w72_47)) 2 = v2 ∧ ((w72_47)) 3 = v3 ∧ xr0 = rtJ v0 1 ∧ xr1 = rtJ v1 7 ∧ xr2 = rtJ v2 12 ∧ xr3 = rtJ v3 18 ∧ itl (fun l p => wj l (((w72_47)) p)) 1 0 4 (adJ (adJ (adJ xr0 xr1) xr2) xr3) = itl (fun l p => wj l (((w72_47)) p)) 1 (((x192_16 + 1))) (4 - ((x192_16 + 1)) : Int).toNat (((adJ ((muJ ((xoJ (x192_14) ((muJ (z119) ((-7046029288634856825)))))) ((-7046029288634856825)))) ((-8796714831421723037))))) := by obtain ⟨v0, v1, v2, v3, x0, x1, x2, x3, q0, q1, q2, q3, q4, q5, q6, q7, q8, q9⟩ := j192_q; exact ⟨v0, v1, v2, v3, x0, x1, x2, x3, q0, q1, q2, q3, q4, q5, q6, q7, q8, q9.trans (itl_s (by omega) (by rw [wj_r rj_, hlw]) (by omega))⟩
            exact ih192 _ (msE hm192 q_612 (q_613 b112)) _ σ _ _ ((adJ ((muJ ((xoJ (x192_14) ((muJ (z119) ((-7046029288634856825)))))) ((-7046029288634856825)))) ((-8796714831421723037)))) ((x192_16 + 1)) (rk_o (rk2_o (l192_0) rfl rfl) rfl rfl) (rk_o (rk2_o (l192_1) rfl rfl) rfl rfl) (rk_o (rk2_o (l192_2) rfl rfl) rfl rfl) (rk_o (rk2_o (l192_3) rfl rfl) rfl rfl) (rk_o (rk2_o (l192_5) rfl rfl) rfl rfl) (rk_o (rk2_o (l192_7) rfl rfl) rfl rfl) (rk_o (rk2_o (l192_9) rfl rfl) rfl rfl) (rk_o (rk2_o (l192_11) rfl rfl) rfl rfl) (rk_o (rk2_o (l192_13) rfl rfl) rfl rfl) (rk_o (rk2_s) rfl rfl) (rk_s) H (SF_trans (hS_192) hS117 (any_sub rfl)) (SA_trans (hA_192) hA118 (any_subA rfl))   (show inrJ ((adJ ((muJ ((xoJ (x192_14) ((muJ (z119) ((-7046029288634856825)))))) ((-7046029288634856825)))) ((-8796714831421723037)))) from g123) (show inr ((x192_16 + 1)) from q_610 b112 j192_2) (show (0) ≤ ((x192_16 + 1)) from q_14 j192_2) (show ((x192_16 + 1)) ≤ (0) ∨ ((x192_16 + 1)) ≤ (4) from q_609 b112) (show ∃ v0 v1 v2 v3 xr0 xr1 xr2 xr3, LWA ((w45)) ((a1)) ((a2) - (a1)) ((x72_13)) 0 ((w72_47)) ∧ ((w72_47)) 0 = v0 ∧ ((w72_47)) 1 = v1 ∧ ((w72_47)) 2 = v2 ∧ ((w72_47)) 3 = v3 ∧ xr0 = rtJ v0 1 ∧ xr1 = rtJ v1 7 ∧ xr2 = rtJ v2 12 ∧ xr3 = rtJ v3 18 ∧ itl (fun l p => wj l (((w72_47)) p)) 1 0 4 (adJ (adJ (adJ xr0 xr1) xr2) xr3) = itl (fun l p => wj l (((w72_47)) p)) 1 (((x192_16 + 1))) (4 - ((x192_16 + 1)) : Int).toNat (((adJ ((muJ ((xoJ (x192_14) ((muJ (z119) ((-7046029288634856825)))))) ((-7046029288634856825)))) ((-8796714831421723037))))) by assumption) rfl
      · refine Ew_of (pcₚ := 82) (fun _ => x_iconst rfl) ?_
        refine Ew_of (pcₚ := 84) (fun _ => x_istore rfl) ?_
        have : LWA ((w45)) ((a1)) ((a2) - (a1)) ((x72_13)) (0) ((w72_47)) := j72_q
        suffices hl84 : ∀ (m : Nat), ∀ (ls : rO) (σ : rS) (F_84 : hF) (A_84 : hA) (x84_16 : Int), rlook ls 0 = some (.ref (D 5)) → rlook ls 1 = some (I (a1)) → rlook ls 2 = some (I (a2)) → rlook ls 3 = some (J ((-7046029288634856825))) → rlook ls 5 = some (J ((-4417276706812531889))) → rlook ls 7 = some (J (1609587929392839161)) → rlook ls 9 = some (J ((-8796714831421723037))) → rlook ls 11 = some (J (2870177450012600261)) → rlook ls 13 = some (I (x72_13)) → rlook ls 16 = some (I (x84_16)) → HS σ0 σ D N F_84 A_84 → SF [] F_72 F_84 → SA [47] A_72 A_84 → ∀ w84_47 : Int → Int, A_84 47 = w84_47 → (inr (x84_16)) → ((0) ≤ (x84_16)) → ((x84_16) ≤ (0) ∨ (x84_16) ≤ (4)) → (LWA ((w45)) ((a1)) ((a2) - (a1)) ((x72_13)) ((x84_16)) ((w84_47))) → ((4) - (x84_16)).toNat = m → Ew 281 (d + 2) 84 ls [] σ c s Q from
          hl84 _ _ σ _ _ (0) (rk_o (l72_0) rfl rfl) (rk_o (l72_1) rfl rfl) (rk_o (l72_2) rfl rfl) (rk_o (l72_3) rfl rfl) (rk_o (l72_5) rfl rfl) (rk_o (l72_7) rfl rfl) (rk_o (l72_9) rfl rfl) (rk_o (l72_11) rfl rfl) (rk_o (l72_13) rfl rfl) (rk_s) H (SF_refl) (SA_refl)  (w72_47) (ew72_47) (show inr (0) from q_2) (show (0) ≤ (0) from q_1) (show (0) ≤ (0) ∨ (0) ≤ (4) from q_603) (j72_q) rfl
        as_aux_lemma =>
        intro m
        induction m using Nat.strongRecOn with
        | _ m ih84 =>
          intro ls σ F_84 A_84 x84_16 l84_0 l84_1 l84_2 l84_3 l84_5 l84_7 l84_9 l84_11 l84_13 l84_16 H hS_84 hA_84  w84_47 ew84_47 j84_0 j84_1 j84_2 j84_3 hm84
          have j84_q : LWA ((w45)) ((a1)) ((a2) - (a1)) ((x72_13)) ((x84_16)) ((w84_47)) := j84_3
          refine Ew_of (pcₚ := 86) (fun _ => x_iload rfl l84_16) ?_
          refine Ew_of (pcₚ := 87) (fun _ => x_iconst rfl) ?_
          refine w_icmpge (t := 135) rfl rfl (show inr (x84_16) from j84_0) (show inr (4) from q_216) (fun b124 => ?_) (fun b124 => ?_)
          · refine Ew_of (pcₚ := 138) (fun _ => x_iinc (len := 3) rfl (l84_13)) ?_
            refine Ew_of (pcₚ := 72) (fun _ => x_goto rfl rfl) ?_
            have : LWA ((w45)) ((a1)) ((a2) - (a1)) (((x72_13 + 32))) (0) ((w84_47)) := LWA_e j84_q (by omega) (by omega)
            exact ih72 _ (msE hm72 q_794 (q_795 b84)) _ σ _ _ ((x72_13 + 32)) (rk_o (l84_0) rfl rfl) (rk_o (l84_1) rfl rfl) (rk_o (l84_2) rfl rfl) (rk_o (l84_3) rfl rfl) (rk_o (l84_5) rfl rfl) (rk_o (l84_7) rfl rfl) (rk_o (l84_9) rfl rfl) (rk_o (l84_11) rfl rfl) (rk_s) H (SF_trans (hS_72) hS_84 (any_sub rfl)) (SA_trans (hA_72) hA_84 (any_subA rfl))  (w84_47) (ew84_47) (show inr ((x72_13 + 32)) from q_1509 b84 h2 j72_0) (show (a1) ≤ ((x72_13 + 32)) ∧ ((x72_13 + 32)) ≤ (a2) from q_792 b84 j72_1) (show (((x72_13 + 32)) - (a1)) % 32 = 0 by omega) (show LWA ((w45)) ((a1)) ((a2) - (a1)) (((x72_13 + 32))) (0) ((w84_47)) by assumption) rfl
          · refine Ew_of (pcₚ := 91) (fun _ => x_aload_n rfl l84_0) ?_
            refine w_gT H (o := 5) (t := 47) rfl (H.perm 5 rfl) rfl rfl rfl rfl rfl rfl ?_
            refine Ew_of (pcₚ := 96) (fun _ => x_iload rfl l84_16) ?_
            refine Ew_of (pcₚ := 97) (fun _ => x_aload_n rfl l84_0) ?_
            refine w_gT H (o := 5) (t := 47) rfl (H.perm 5 rfl) rfl rfl rfl rfl rfl rfl ?_
            refine Ew_of (pcₚ := 102) (fun _ => x_iload rfl l84_16) ?_
            refine w_lJ H (o := 47) (n := 4) rfl (H.perm 47 rfl) rfl rfl (H.fix 47 rfl rfl) (show 0 ≤ x84_16 ∧ x84_16 < ((4 : Nat) : Int) from q_605 b124 j84_1) (by decide) (fun v125 ev125 qv125 => ?_)
            have qv125 : (-9223372036854775808 : Int) ≤ v125 ∧ v125 ≤ 9223372036854775807 := qv125
            have ev125 : (w84_47) (x84_16) = v125 := (congrFun (ew84_47) (x84_16)).symm.trans ev125
            have hlv := ev125
            refine Ew_of (pcₚ := 104) (fun _ => x_aload_n rfl l84_0) ?_
            refine Ew_of (pcₚ := 106) (fun _ => x_iload rfl l84_13) ?_
            refine Ew_of (pcₚ := 108) (fun _ => x_bipush (z := 8) rfl (by decide)) ?_
            refine Ew_of (pcₚ := 110) (fun _ => x_iload rfl l84_16) ?_
            refine w_imul rfl ?_
            refine w_iadd rfl ?_
            refine Ew_of (pcₚ := 114) (fun _ => x_bipush (z := 8) rfl (by decide)) ?_
            refine w_inv H (o := 5) rfl rfl rfl (H.perm 5 rfl) rfl rfl (by rfl) (M280 H (w45) ((funext (hA_84 45 rfl)).trans ((funext (hA_72 45 rfl)).trans (ew45))) (show inr ((x72_13 + (8 * x84_16))) from q_1511 b124 b84 h2 j72_0 j84_1) (show inr (8) from q_141) (show 0 ≤ ((x72_13 + (8 * x84_16))) ∧ 0 ≤ (8) ∧ (8) ≤ 8 ∧ ((x72_13 + (8 * x84_16))) + (8) ≤ 65536 from q_1510 b124 b84 h2 j72_1 j84_1) (fun z130 σ F126 A127 H hS128 hA129 pz130_0 pz130_1 => ⟨rfl, ?_⟩))
            have n8_ := nmb_8 pz130_1 pz130_0
            refine Ew_of (pcₚ := 119) (fun _ => x_lload rfl l84_5) ?_
            refine w_lmulE rfl ?_
            have g131 : inrJ (muJ (z130) ((-4417276706812531889))) := toJ_inr _
            refine w_laddE rfl ?_
            have g132 : inrJ (adJ (v125) ((muJ (z130) ((-4417276706812531889))))) := toJ_inr _
            refine Ew_of (pcₚ := 123) (fun _ => x_bipush (z := 31) rfl (by decide)) ?_
            refine w_stat24 rfl rfl (by rfl) (M278 H (show inrJ ((adJ (v125) ((muJ (z130) ((-4417276706812531889)))))) from g132) (show inr (31) from q_323) (show 0 ≤ (31) ∧ (31) ≤ 64 from q_322) (fun z137 σ F133 A134 H hS135 hA136 pz137_0 pz137_1 => ⟨rfl, ?_⟩))
            have r8_ := pz137_1
            refine Ew_of (pcₚ := 127) (fun _ => x_lload_n rfl l84_3) ?_
            refine w_lmulE rfl ?_
            have g138 : inrJ (muJ (z137) ((-7046029288634856825))) := toJ_inr _
            have hwl := (wl_c n8_ r8_).trans (congrArg (fun q => wl q _) hlv.symm)
            refine w_sJ H (o := 47) (n := 4) rfl (H.perm 47 rfl) rfl rfl (H.fix 47 rfl rfl) (show 0 ≤ x84_16 ∧ x84_16 < ((4 : Nat) : Int) from q_605 b124 j84_1) (by decide) (show (-9223372036854775808 : Int) ≤ (muJ (z137) ((-7046029288634856825))) ∧ (muJ (z137) ((-7046029288634856825))) ≤ 9223372036854775807 by omega) (fun σ H => ?_)
            refine Ew_of (pcₚ := 132) (fun _ => x_iinc (len := 3) rfl (l84_16)) ?_
            refine Ew_of (pcₚ := 84) (fun _ => x_goto rfl rfl) ?_
            have : LWA ((w45)) ((a1)) ((a2) - (a1)) ((x72_13)) (((x84_16 + 1))) ((upd1 (w84_47) (x84_16) ((muJ (z137) ((-7046029288634856825)))))) := LWA_s j84_q (by omega) (by omega) (by omega) (by omega) hwl
            exact ih84 _ (msE hm84 q_612 (q_613 b124)) _ σ _ _ ((x84_16 + 1)) (rk_o (l84_0) rfl rfl) (rk_o (l84_1) rfl rfl) (rk_o (l84_2) rfl rfl) (rk_o (l84_3) rfl rfl) (rk_o (l84_5) rfl rfl) (rk_o (l84_7) rfl rfl) (rk_o (l84_9) rfl rfl) (rk_o (l84_11) rfl rfl) (rk_o (l84_13) rfl rfl) (rk_s) H (SF_trans (SF_trans (hS_84) hS128 (any_sub rfl)) hS135 (any_sub rfl)) (SA_upd (SA_trans (SA_trans (hA_84) hA129 (any_subA rfl)) hA136 (any_subA rfl)) rfl)  (upd1 (w84_47) (x84_16) ((muJ (z137) ((-7046029288634856825))))) (congrArg (fun q => upd1 q (x84_16) ((muJ (z137) ((-7046029288634856825))))) ((funext (hA136 47 rfl)).trans ((funext (hA129 47 rfl)).trans (ew84_47)))) (show inr ((x84_16 + 1)) from q_610 b124 j84_1) (show (0) ≤ ((x84_16 + 1)) from q_14 j84_1) (show ((x84_16 + 1)) ≤ (0) ∨ ((x84_16 + 1)) ≤ (4) from q_609 b124) (show LWA ((w45)) ((a1)) ((a2) - (a1)) ((x72_13)) (((x84_16 + 1))) ((upd1 (w84_47) (x84_16) ((muJ (z137) ((-7046029288634856825)))))) by assumption) rfl

theorem M294 {σ0 σ : rS} {D N : Nat → Nat} {F : hF} {A : hA} {d c s : Nat} {Q : wQ} (H : HS σ0 σ D N F A) {a1 : Int} (h0 : inr (a1)) (h1 : 0 ≤ (a1) ∧ (a1) ≤ 35) (k : ∀ (z : Int) σ Fₚ Aₚ, HS σ0 σ D N Fₚ Aₚ → SF [] F Fₚ → SA [] A Aₚ → (inr (z)) → (0 ≤ (z) ∧ (z) ≤ 65536) → ((z) = lBs ((a1))) → Q (some (I z)) σ c s) : Ew 294 (d + 0) 0 (rargs 0 [I a1]) [] σ c s Q := by
  have hlbs : lBs ((a1)) = if (a1) < 16 then (a1) else if (a1) < 20 then 16 + 2 * ((a1) - 16) else if (a1) < 22 then 24 + 4 * ((a1) - 20) else if (a1) < 24 then 32 + 8 * ((a1) - 22) else if (a1) = 24 then 48 else p2 ((a1) - 19) := rfl
  refine Ew_of (pcₚ := 1) (fun _ => x_iload_n rfl rfl) ?_
  refine Ew_of (pcₚ := 3) (fun _ => x_bipush (z := 16) rfl (by decide)) ?_
  refine w_icmpge (t := 8) rfl rfl (show inr (a1) from h0) (show inr (16) from q_345) (fun b1 => ?_) (fun b1 => ?_)
  · refine Ew_of (pcₚ := 9) (fun _ => x_iload_n rfl rfl) ?_
    refine Ew_of (pcₚ := 11) (fun _ => x_bipush (z := 20) rfl (by decide)) ?_
    refine w_icmpge (t := 24) rfl rfl (show inr (a1) from h0) (show inr (20) from q_1512) (fun b2 => ?_) (fun b2 => ?_)
    · refine Ew_of (pcₚ := 25) (fun _ => x_iload_n rfl rfl) ?_
      refine Ew_of (pcₚ := 27) (fun _ => x_bipush (z := 22) rfl (by decide)) ?_
      refine w_icmpge (t := 40) rfl rfl (show inr (a1) from h0) (show inr (22) from q_1513) (fun b3 => ?_) (fun b3 => ?_)
      · refine Ew_of (pcₚ := 41) (fun _ => x_iload_n rfl rfl) ?_
        refine Ew_of (pcₚ := 43) (fun _ => x_bipush (z := 24) rfl (by decide)) ?_
        refine w_icmpge (t := 57) rfl rfl (show inr (a1) from h0) (show inr (24) from q_1514) (fun b4 => ?_) (fun b4 => ?_)
        · refine Ew_of (pcₚ := 58) (fun _ => x_iload_n rfl rfl) ?_
          refine Ew_of (pcₚ := 60) (fun _ => x_bipush (z := 24) rfl (by decide)) ?_
          refine w_icmpne (t := 68) rfl rfl (show inr (a1) from h0) (show inr (24) from q_1514) (fun b5 => ?_) (fun b5 => ?_)
          · refine Ew_of (pcₚ := 69) (fun _ => x_iconst rfl) ?_
            refine Ew_of (pcₚ := 70) (fun _ => x_iload_n rfl rfl) ?_
            refine Ew_of (pcₚ := 72) (fun _ => x_bipush (z := 19) rfl (by decide)) ?_
            refine w_isub rfl ?_
            have : p2 (((a1 - 19))) ≤ p2 16 := p2_mono (by omega)
            have : p2 16 = 65536 := by decide
            have := p2_pos (((a1 - 19)))
            refine w_ishl1 rfl (show 0 ≤ (a1 - 19) ∧ (a1 - 19) ≤ 31 from q_1515 b4 h1) ?_
            exact w_ireturn rfl (k (p2 ((a1 - 19))) σ _ _ H (SF_refl) (SA_refl) (show inr (p2 ((a1 - 19))) by omega) (show 0 ≤ (p2 ((a1 - 19))) ∧ (p2 ((a1 - 19))) ≤ 65536 by omega) (show (p2 ((a1 - 19))) = lBs (a1) by omega))
          · refine Ew_of (pcₚ := 65) (fun _ => x_bipush (z := 48) rfl (by decide)) ?_
            refine Ew_of (pcₚ := 74) (fun _ => x_goto rfl rfl) ?_
            exact w_ireturn rfl (k (48) σ _ _ H (SF_refl) (SA_refl) (show inr (48) from q_1517) (show 0 ≤ (48) ∧ (48) ≤ 65536 by first | exact q_1516 | omega) (show (48) = lBs (a1) by omega))
        · refine Ew_of (pcₚ := 48) (fun _ => x_bipush (z := 32) rfl (by decide)) ?_
          refine Ew_of (pcₚ := 50) (fun _ => x_bipush (z := 8) rfl (by decide)) ?_
          refine Ew_of (pcₚ := 51) (fun _ => x_iload_n rfl rfl) ?_
          refine Ew_of (pcₚ := 53) (fun _ => x_bipush (z := 22) rfl (by decide)) ?_
          refine w_isub rfl ?_
          refine w_imul rfl ?_
          refine w_iadd rfl ?_
          exact w_ireturn rfl (k ((32 + (8 * (a1 - 22)))) σ _ _ H (SF_refl) (SA_refl) (show inr ((32 + (8 * (a1 - 22)))) from q_1519 b3 b4) (show 0 ≤ ((32 + (8 * (a1 - 22)))) ∧ ((32 + (8 * (a1 - 22)))) ≤ 65536 by first | exact q_1518 b3 b4 | omega) (show ((32 + (8 * (a1 - 22)))) = lBs (a1) by omega))
      · refine Ew_of (pcₚ := 32) (fun _ => x_bipush (z := 24) rfl (by decide)) ?_
        refine Ew_of (pcₚ := 33) (fun _ => x_iconst rfl) ?_
        refine Ew_of (pcₚ := 34) (fun _ => x_iload_n rfl rfl) ?_
        refine Ew_of (pcₚ := 36) (fun _ => x_bipush (z := 20) rfl (by decide)) ?_
        refine w_isub rfl ?_
        refine w_imul rfl ?_
        refine w_iadd rfl ?_
        exact w_ireturn rfl (k ((24 + (4 * (a1 - 20)))) σ _ _ H (SF_refl) (SA_refl) (show inr ((24 + (4 * (a1 - 20)))) from q_1521 b2 b3) (show 0 ≤ ((24 + (4 * (a1 - 20)))) ∧ ((24 + (4 * (a1 - 20)))) ≤ 65536 by first | exact q_1520 b2 b3 | omega) (show ((24 + (4 * (a1 - 20)))) = lBs (a1) by omega))
    · refine Ew_of (pcₚ := 16) (fun _ => x_bipush (z := 16) rfl (by decide)) ?_
      refine Ew_of (pcₚ := 17) (fun _ => x_iconst rfl) ?_
      refine Ew_of (pcₚ := 18) (fun _ => x_iload_n rfl rfl) ?_
      refine Ew_of (pcₚ := 20) (fun _ => x_bipush (z := 16) rfl (by decide)) ?_
      refine w_isub rfl ?_
      refine w_imul rfl ?_
      refine w_iadd rfl ?_
      exact w_ireturn rfl (k ((16 + (2 * (a1 - 16)))) σ _ _ H (SF_refl) (SA_refl) (show inr ((16 + (2 * (a1 - 16)))) from q_1523 b1 b2) (show 0 ≤ ((16 + (2 * (a1 - 16)))) ∧ ((16 + (2 * (a1 - 16)))) ≤ 65536 by first | exact q_1522 b1 b2 | omega) (show ((16 + (2 * (a1 - 16)))) = lBs (a1) by omega))
  · refine Ew_of (pcₚ := 7) (fun _ => x_iload_n rfl rfl) ?_
    exact w_ireturn rfl (k (a1) σ _ _ H (SF_refl) (SA_refl) (show inr (a1) from h0) (show 0 ≤ (a1) ∧ (a1) ≤ 65536 from q_1524 b1 h1) (show (a1) = lBs (a1) by omega))

theorem M295 {σ0 σ : rS} {D N : Nat → Nat} {F : hF} {A : hA} {d c s : Nat} {Q : wQ} (H : HS σ0 σ D N F A) {a1 : Int} (h0 : inr (a1)) (h1 : 0 ≤ (a1) ∧ (a1) ≤ 35) (k : ∀ (z : Int) σ Fₚ Aₚ, HS σ0 σ D N Fₚ Aₚ → SF [] F Fₚ → SA [] A Aₚ → (inr (z)) → (0 ≤ (z) ∧ (z) ≤ 16) → ((z) = lB ((a1))) → Q (some (I z)) σ c s) : Ew 295 (d + 0) 0 (rargs 0 [I a1]) [] σ c s Q := by
  have hlb : lB ((a1)) = if (a1) < 16 then 0 else if (a1) < 20 then 1 else if (a1) < 22 then 2 else if (a1) < 24 then 3 else if (a1) = 24 then 4 else (a1) - 19 := rfl
  refine Ew_of (pcₚ := 1) (fun _ => x_iload_n rfl rfl) ?_
  refine Ew_of (pcₚ := 3) (fun _ => x_bipush (z := 16) rfl (by decide)) ?_
  refine w_icmpge (t := 10) rfl rfl (show inr (a1) from h0) (show inr (16) from q_345) (fun b1 => ?_) (fun b1 => ?_)
  · refine Ew_of (pcₚ := 11) (fun _ => x_iload_n rfl rfl) ?_
    refine Ew_of (pcₚ := 13) (fun _ => x_bipush (z := 20) rfl (by decide)) ?_
    refine w_icmpge (t := 20) rfl rfl (show inr (a1) from h0) (show inr (20) from q_1512) (fun b2 => ?_) (fun b2 => ?_)
    · refine Ew_of (pcₚ := 21) (fun _ => x_iload_n rfl rfl) ?_
      refine Ew_of (pcₚ := 23) (fun _ => x_bipush (z := 22) rfl (by decide)) ?_
      refine w_icmpge (t := 30) rfl rfl (show inr (a1) from h0) (show inr (22) from q_1513) (fun b3 => ?_) (fun b3 => ?_)
      · refine Ew_of (pcₚ := 31) (fun _ => x_iload_n rfl rfl) ?_
        refine Ew_of (pcₚ := 33) (fun _ => x_bipush (z := 24) rfl (by decide)) ?_
        refine w_icmpge (t := 40) rfl rfl (show inr (a1) from h0) (show inr (24) from q_1514) (fun b4 => ?_) (fun b4 => ?_)
        · refine Ew_of (pcₚ := 41) (fun _ => x_iload_n rfl rfl) ?_
          refine Ew_of (pcₚ := 43) (fun _ => x_bipush (z := 24) rfl (by decide)) ?_
          refine w_icmpne (t := 50) rfl rfl (show inr (a1) from h0) (show inr (24) from q_1514) (fun b5 => ?_) (fun b5 => ?_)
          · refine Ew_of (pcₚ := 51) (fun _ => x_iload_n rfl rfl) ?_
            refine Ew_of (pcₚ := 53) (fun _ => x_bipush (z := 19) rfl (by decide)) ?_
            refine w_isub rfl ?_
            exact w_ireturn rfl (k ((a1 - 19)) σ _ _ H (SF_refl) (SA_refl) (show inr ((a1 - 19)) from q_1526 b4 h1) (show 0 ≤ ((a1 - 19)) ∧ ((a1 - 19)) ≤ 16 by first | exact q_1525 b4 h1 | omega) (show ((a1 - 19)) = lB (a1) by omega))
          · refine Ew_of (pcₚ := 47) (fun _ => x_iconst rfl) ?_
            refine Ew_of (pcₚ := 54) (fun _ => x_goto rfl rfl) ?_
            exact w_ireturn rfl (k (4) σ _ _ H (SF_refl) (SA_refl) (show inr (4) from q_216) (show 0 ≤ (4) ∧ (4) ≤ 16 by first | exact q_214 | omega) (show (4) = lB (a1) by omega))
        · refine Ew_of (pcₚ := 37) (fun _ => x_iconst rfl) ?_
          refine Ew_of (pcₚ := 54) (fun _ => x_goto rfl rfl) ?_
          exact w_ireturn rfl (k (3) σ _ _ H (SF_refl) (SA_refl) (show inr (3) from q_246) (show 0 ≤ (3) ∧ (3) ≤ 16 by first | exact q_1527 | omega) (show (3) = lB (a1) by omega))
      · refine Ew_of (pcₚ := 27) (fun _ => x_iconst rfl) ?_
        refine Ew_of (pcₚ := 54) (fun _ => x_goto rfl rfl) ?_
        exact w_ireturn rfl (k (2) σ _ _ H (SF_refl) (SA_refl) (show inr (2) from q_122) (show 0 ≤ (2) ∧ (2) ≤ 16 by first | exact q_247 | omega) (show (2) = lB (a1) by omega))
    · refine Ew_of (pcₚ := 17) (fun _ => x_iconst rfl) ?_
      refine Ew_of (pcₚ := 54) (fun _ => x_goto rfl rfl) ?_
      exact w_ireturn rfl (k (1) σ _ _ H (SF_refl) (SA_refl) (show inr (1) from q_135) (show 0 ≤ (1) ∧ (1) ≤ 16 by first | exact q_261 | omega) (show (1) = lB (a1) by omega))
  · refine Ew_of (pcₚ := 7) (fun _ => x_iconst rfl) ?_
    refine Ew_of (pcₚ := 54) (fun _ => x_goto rfl rfl) ?_
    exact w_ireturn rfl (k (0) σ _ _ H (SF_refl) (SA_refl) (show inr (0) from q_2) (show 0 ≤ (0) ∧ (0) ≤ 16 by first | exact q_1528 | omega) (show (0) = lB (a1) by omega))

theorem M296 {σ0 σ : rS} {D N : Nat → Nat} {F : hF} {A : hA} {d c s : Nat} {Q : wQ} (H : HS σ0 σ D N F A) {a1 : Int} (h0 : inr (a1)) (h1 : 0 ≤ (a1) ∧ (a1) ≤ 52) (k : ∀ (z : Int) σ Fₚ Aₚ, HS σ0 σ D N Fₚ Aₚ → SF [] F Fₚ → SA [] A Aₚ → (inr (z)) → (3 ≤ (z) ∧ (z) ≤ 65539) → ((z) = mBs ((a1))) → Q (some (I z)) σ c s) : Ew 296 (d + 0) 0 (rargs 0 [I a1]) [] σ c s Q := by
  have hmbs : mBs ((a1)) = if (a1) < 32 then (a1) + 3 else if (a1) < 36 then 35 + 2 * ((a1) - 32) else if (a1) < 38 then 43 + 4 * ((a1) - 36) else if (a1) < 40 then 51 + 8 * ((a1) - 38) else if (a1) < 42 then 67 + 16 * ((a1) - 40) else if (a1) = 42 then 99 else p2 ((a1) - 36) + 3 := rfl
  refine Ew_of (pcₚ := 1) (fun _ => x_iload_n rfl rfl) ?_
  refine Ew_of (pcₚ := 3) (fun _ => x_bipush (z := 32) rfl (by decide)) ?_
  refine w_icmpge (t := 10) rfl rfl (show inr (a1) from h0) (show inr (32) from q_655) (fun b1 => ?_) (fun b1 => ?_)
  · refine Ew_of (pcₚ := 11) (fun _ => x_iload_n rfl rfl) ?_
    refine Ew_of (pcₚ := 13) (fun _ => x_bipush (z := 36) rfl (by decide)) ?_
    refine w_icmpge (t := 26) rfl rfl (show inr (a1) from h0) (show inr (36) from q_1529) (fun b2 => ?_) (fun b2 => ?_)
    · refine Ew_of (pcₚ := 27) (fun _ => x_iload_n rfl rfl) ?_
      refine Ew_of (pcₚ := 29) (fun _ => x_bipush (z := 38) rfl (by decide)) ?_
      refine w_icmpge (t := 42) rfl rfl (show inr (a1) from h0) (show inr (38) from q_1530) (fun b3 => ?_) (fun b3 => ?_)
      · refine Ew_of (pcₚ := 43) (fun _ => x_iload_n rfl rfl) ?_
        refine Ew_of (pcₚ := 45) (fun _ => x_bipush (z := 40) rfl (by decide)) ?_
        refine w_icmpge (t := 59) rfl rfl (show inr (a1) from h0) (show inr (40) from q_1531) (fun b4 => ?_) (fun b4 => ?_)
        · refine Ew_of (pcₚ := 60) (fun _ => x_iload_n rfl rfl) ?_
          refine Ew_of (pcₚ := 62) (fun _ => x_bipush (z := 42) rfl (by decide)) ?_
          refine w_icmpge (t := 76) rfl rfl (show inr (a1) from h0) (show inr (42) from q_1532) (fun b5 => ?_) (fun b5 => ?_)
          · refine Ew_of (pcₚ := 77) (fun _ => x_iload_n rfl rfl) ?_
            refine Ew_of (pcₚ := 79) (fun _ => x_bipush (z := 42) rfl (by decide)) ?_
            refine w_icmpne (t := 87) rfl rfl (show inr (a1) from h0) (show inr (42) from q_1532) (fun b6 => ?_) (fun b6 => ?_)
            · refine Ew_of (pcₚ := 88) (fun _ => x_iconst rfl) ?_
              refine Ew_of (pcₚ := 89) (fun _ => x_iload_n rfl rfl) ?_
              refine Ew_of (pcₚ := 91) (fun _ => x_bipush (z := 36) rfl (by decide)) ?_
              refine w_isub rfl ?_
              have : p2 (((a1 - 36))) ≤ p2 16 := p2_mono (by omega)
              have : p2 16 = 65536 := by decide
              have := p2_pos (((a1 - 36)))
              refine w_ishl1 rfl (show 0 ≤ (a1 - 36) ∧ (a1 - 36) ≤ 31 from q_1533 b5 h1) ?_
              refine Ew_of (pcₚ := 94) (fun _ => x_iconst rfl) ?_
              refine w_iadd rfl ?_
              exact w_ireturn rfl (k ((p2 ((a1 - 36)) + 3)) σ _ _ H (SF_refl) (SA_refl) (show inr ((p2 ((a1 - 36)) + 3)) by omega) (show 3 ≤ ((p2 ((a1 - 36)) + 3)) ∧ ((p2 ((a1 - 36)) + 3)) ≤ 65539 by omega) (show ((p2 ((a1 - 36)) + 3)) = mBs (a1) by omega))
            · refine Ew_of (pcₚ := 84) (fun _ => x_bipush (z := 99) rfl (by decide)) ?_
              refine Ew_of (pcₚ := 95) (fun _ => x_goto rfl rfl) ?_
              exact w_ireturn rfl (k (99) σ _ _ H (SF_refl) (SA_refl) (show inr (99) from q_1535) (show 3 ≤ (99) ∧ (99) ≤ 65539 by first | exact q_1534 | omega) (show (99) = mBs (a1) by omega))
          · refine Ew_of (pcₚ := 67) (fun _ => x_bipush (z := 67) rfl (by decide)) ?_
            refine Ew_of (pcₚ := 69) (fun _ => x_bipush (z := 16) rfl (by decide)) ?_
            refine Ew_of (pcₚ := 70) (fun _ => x_iload_n rfl rfl) ?_
            refine Ew_of (pcₚ := 72) (fun _ => x_bipush (z := 40) rfl (by decide)) ?_
            refine w_isub rfl ?_
            refine w_imul rfl ?_
            refine w_iadd rfl ?_
            exact w_ireturn rfl (k ((67 + (16 * (a1 - 40)))) σ _ _ H (SF_refl) (SA_refl) (show inr ((67 + (16 * (a1 - 40)))) from q_1537 b4 b5) (show 3 ≤ ((67 + (16 * (a1 - 40)))) ∧ ((67 + (16 * (a1 - 40)))) ≤ 65539 by first | exact q_1536 b4 b5 | omega) (show ((67 + (16 * (a1 - 40)))) = mBs (a1) by omega))
        · refine Ew_of (pcₚ := 50) (fun _ => x_bipush (z := 51) rfl (by decide)) ?_
          refine Ew_of (pcₚ := 52) (fun _ => x_bipush (z := 8) rfl (by decide)) ?_
          refine Ew_of (pcₚ := 53) (fun _ => x_iload_n rfl rfl) ?_
          refine Ew_of (pcₚ := 55) (fun _ => x_bipush (z := 38) rfl (by decide)) ?_
          refine w_isub rfl ?_
          refine w_imul rfl ?_
          refine w_iadd rfl ?_
          exact w_ireturn rfl (k ((51 + (8 * (a1 - 38)))) σ _ _ H (SF_refl) (SA_refl) (show inr ((51 + (8 * (a1 - 38)))) from q_1539 b3 b4) (show 3 ≤ ((51 + (8 * (a1 - 38)))) ∧ ((51 + (8 * (a1 - 38)))) ≤ 65539 by first | exact q_1538 b3 b4 | omega) (show ((51 + (8 * (a1 - 38)))) = mBs (a1) by omega))
      · refine Ew_of (pcₚ := 34) (fun _ => x_bipush (z := 43) rfl (by decide)) ?_
        refine Ew_of (pcₚ := 35) (fun _ => x_iconst rfl) ?_
        refine Ew_of (pcₚ := 36) (fun _ => x_iload_n rfl rfl) ?_
        refine Ew_of (pcₚ := 38) (fun _ => x_bipush (z := 36) rfl (by decide)) ?_
        refine w_isub rfl ?_
        refine w_imul rfl ?_
        refine w_iadd rfl ?_
        exact w_ireturn rfl (k ((43 + (4 * (a1 - 36)))) σ _ _ H (SF_refl) (SA_refl) (show inr ((43 + (4 * (a1 - 36)))) from q_1541 b2 b3) (show 3 ≤ ((43 + (4 * (a1 - 36)))) ∧ ((43 + (4 * (a1 - 36)))) ≤ 65539 by first | exact q_1540 b2 b3 | omega) (show ((43 + (4 * (a1 - 36)))) = mBs (a1) by omega))
    · refine Ew_of (pcₚ := 18) (fun _ => x_bipush (z := 35) rfl (by decide)) ?_
      refine Ew_of (pcₚ := 19) (fun _ => x_iconst rfl) ?_
      refine Ew_of (pcₚ := 20) (fun _ => x_iload_n rfl rfl) ?_
      refine Ew_of (pcₚ := 22) (fun _ => x_bipush (z := 32) rfl (by decide)) ?_
      refine w_isub rfl ?_
      refine w_imul rfl ?_
      refine w_iadd rfl ?_
      exact w_ireturn rfl (k ((35 + (2 * (a1 - 32)))) σ _ _ H (SF_refl) (SA_refl) (show inr ((35 + (2 * (a1 - 32)))) from q_1543 b1 b2) (show 3 ≤ ((35 + (2 * (a1 - 32)))) ∧ ((35 + (2 * (a1 - 32)))) ≤ 65539 by first | exact q_1542 b1 b2 | omega) (show ((35 + (2 * (a1 - 32)))) = mBs (a1) by omega))
  · refine Ew_of (pcₚ := 7) (fun _ => x_iload_n rfl rfl) ?_
    refine Ew_of (pcₚ := 8) (fun _ => x_iconst rfl) ?_
    refine w_iadd rfl ?_
    exact w_ireturn rfl (k ((a1 + 3)) σ _ _ H (SF_refl) (SA_refl) (show inr ((a1 + 3)) from q_1545 b1 h1) (show 3 ≤ ((a1 + 3)) ∧ ((a1 + 3)) ≤ 65539 by first | exact q_1544 b1 h1 | omega) (show ((a1 + 3)) = mBs (a1) by omega))

theorem M297 {σ0 σ : rS} {D N : Nat → Nat} {F : hF} {A : hA} {d c s : Nat} {Q : wQ} (H : HS σ0 σ D N F A) {a1 : Int} (h0 : inr (a1)) (h1 : 0 ≤ (a1) ∧ (a1) ≤ 52) (k : ∀ (z : Int) σ Fₚ Aₚ, HS σ0 σ D N Fₚ Aₚ → SF [] F Fₚ → SA [] A Aₚ → (inr (z)) → (0 ≤ (z) ∧ (z) ≤ 16) → ((z) = mB ((a1))) → Q (some (I z)) σ c s) : Ew 297 (d + 0) 0 (rargs 0 [I a1]) [] σ c s Q := by
  have hmb : mB ((a1)) = if (a1) < 32 then 0 else if (a1) < 36 then 1 else if (a1) < 38 then 2 else if (a1) < 40 then 3 else if (a1) < 42 then 4 else if (a1) = 42 then 5 else (a1) - 36 := rfl
  refine Ew_of (pcₚ := 1) (fun _ => x_iload_n rfl rfl) ?_
  refine Ew_of (pcₚ := 3) (fun _ => x_bipush (z := 32) rfl (by decide)) ?_
  refine w_icmpge (t := 10) rfl rfl (show inr (a1) from h0) (show inr (32) from q_655) (fun b1 => ?_) (fun b1 => ?_)
  · refine Ew_of (pcₚ := 11) (fun _ => x_iload_n rfl rfl) ?_
    refine Ew_of (pcₚ := 13) (fun _ => x_bipush (z := 36) rfl (by decide)) ?_
    refine w_icmpge (t := 20) rfl rfl (show inr (a1) from h0) (show inr (36) from q_1529) (fun b2 => ?_) (fun b2 => ?_)
    · refine Ew_of (pcₚ := 21) (fun _ => x_iload_n rfl rfl) ?_
      refine Ew_of (pcₚ := 23) (fun _ => x_bipush (z := 38) rfl (by decide)) ?_
      refine w_icmpge (t := 30) rfl rfl (show inr (a1) from h0) (show inr (38) from q_1530) (fun b3 => ?_) (fun b3 => ?_)
      · refine Ew_of (pcₚ := 31) (fun _ => x_iload_n rfl rfl) ?_
        refine Ew_of (pcₚ := 33) (fun _ => x_bipush (z := 40) rfl (by decide)) ?_
        refine w_icmpge (t := 40) rfl rfl (show inr (a1) from h0) (show inr (40) from q_1531) (fun b4 => ?_) (fun b4 => ?_)
        · refine Ew_of (pcₚ := 41) (fun _ => x_iload_n rfl rfl) ?_
          refine Ew_of (pcₚ := 43) (fun _ => x_bipush (z := 42) rfl (by decide)) ?_
          refine w_icmpge (t := 50) rfl rfl (show inr (a1) from h0) (show inr (42) from q_1532) (fun b5 => ?_) (fun b5 => ?_)
          · refine Ew_of (pcₚ := 51) (fun _ => x_iload_n rfl rfl) ?_
            refine Ew_of (pcₚ := 53) (fun _ => x_bipush (z := 42) rfl (by decide)) ?_
            refine w_icmpne (t := 60) rfl rfl (show inr (a1) from h0) (show inr (42) from q_1532) (fun b6 => ?_) (fun b6 => ?_)
            · refine Ew_of (pcₚ := 61) (fun _ => x_iload_n rfl rfl) ?_
              refine Ew_of (pcₚ := 63) (fun _ => x_bipush (z := 36) rfl (by decide)) ?_
              refine w_isub rfl ?_
              exact w_ireturn rfl (k ((a1 - 36)) σ _ _ H (SF_refl) (SA_refl) (show inr ((a1 - 36)) from q_1547 b5 h1) (show 0 ≤ ((a1 - 36)) ∧ ((a1 - 36)) ≤ 16 by first | exact q_1546 b5 h1 | omega) (show ((a1 - 36)) = mB (a1) by omega))
            · refine Ew_of (pcₚ := 57) (fun _ => x_iconst rfl) ?_
              refine Ew_of (pcₚ := 64) (fun _ => x_goto rfl rfl) ?_
              exact w_ireturn rfl (k (5) σ _ _ H (SF_refl) (SA_refl) (show inr (5) from q_727) (show 0 ≤ (5) ∧ (5) ≤ 16 by first | exact q_1548 | omega) (show (5) = mB (a1) by omega))
          · refine Ew_of (pcₚ := 47) (fun _ => x_iconst rfl) ?_
            refine Ew_of (pcₚ := 64) (fun _ => x_goto rfl rfl) ?_
            exact w_ireturn rfl (k (4) σ _ _ H (SF_refl) (SA_refl) (show inr (4) from q_216) (show 0 ≤ (4) ∧ (4) ≤ 16 by first | exact q_214 | omega) (show (4) = mB (a1) by omega))
        · refine Ew_of (pcₚ := 37) (fun _ => x_iconst rfl) ?_
          refine Ew_of (pcₚ := 64) (fun _ => x_goto rfl rfl) ?_
          exact w_ireturn rfl (k (3) σ _ _ H (SF_refl) (SA_refl) (show inr (3) from q_246) (show 0 ≤ (3) ∧ (3) ≤ 16 by first | exact q_1527 | omega) (show (3) = mB (a1) by omega))
      · refine Ew_of (pcₚ := 27) (fun _ => x_iconst rfl) ?_
        refine Ew_of (pcₚ := 64) (fun _ => x_goto rfl rfl) ?_
        exact w_ireturn rfl (k (2) σ _ _ H (SF_refl) (SA_refl) (show inr (2) from q_122) (show 0 ≤ (2) ∧ (2) ≤ 16 by first | exact q_247 | omega) (show (2) = mB (a1) by omega))
    · refine Ew_of (pcₚ := 17) (fun _ => x_iconst rfl) ?_
      refine Ew_of (pcₚ := 64) (fun _ => x_goto rfl rfl) ?_
      exact w_ireturn rfl (k (1) σ _ _ H (SF_refl) (SA_refl) (show inr (1) from q_135) (show 0 ≤ (1) ∧ (1) ≤ 16 by first | exact q_261 | omega) (show (1) = mB (a1) by omega))
  · refine Ew_of (pcₚ := 7) (fun _ => x_iconst rfl) ?_
    refine Ew_of (pcₚ := 64) (fun _ => x_goto rfl rfl) ?_
    exact w_ireturn rfl (k (0) σ _ _ H (SF_refl) (SA_refl) (show inr (0) from q_2) (show 0 ≤ (0) ∧ (0) ≤ 16 by first | exact q_1528 | omega) (show (0) = mB (a1) by omega))

theorem M301 {σ0 σ : rS} {D N : Nat → Nat} {F : hF} {A : hA} {d c s : Nat} {Q : wQ} (H : HS σ0 σ D N F A) {a1 : Int} (u5_35 : Int) (eu5_35 : F 5 35 = u5_35) (h0 : inrJ (a1)) (h1 : (a1) ≤ 4611686018427387904) (k : ∀ (z : Int) σ Fₚ Aₚ, HS σ0 σ D N Fₚ Aₚ → SF [] F Fₚ → SA [] A Aₚ → ((z) = 0 ∨ (z) = 1) → ((z) = 1 ∧ wnF ((u5_35)) < (a1) ∨ (z) = 0 ∧ (a1) ≤ wnF ((u5_35))) → Q (some (I z)) σ c s) : Ew 301 (d + 0) 0 (rargs 0 [.ref (D 5), J a1]) [] σ c s Q := by
  have r1 : (-9223372036854775808 : Int) ≤ u5_35 ∧ u5_35 ≤ 9223372036854775807 := rngE (show (-9223372036854775808 : Int) ≤ F 5 35 ∧ F 5 35 ≤ 9223372036854775807 from H.frng 5 35) (show F 5 35 = u5_35 from (eu5_35))
  have hwn := wnF_eq ((u5_35))
  refine Ew_of (pcₚ := 1) (fun _ => x_aload_n rfl rfl) ?_
  refine w_gJ H (o := 5) (w := u5_35) rfl (H.perm 5 rfl) rfl rfl rfl (fun _ => rfl) (eu5_35) ?_
  refine Ew_of (pcₚ := 5) (fun _ => x_lconst (z := 0) rfl (by decide)) ?_
  refine w_lcmp rfl (show inrJ (u5_35) by omega) (show inrJ (0) from q_340) (fun z2 gz2 gaz2 gbz2 => ?_)
  refine w_iflt (t := 22) rfl rfl (show inr (z2) from gz2) (fun b3 => ?_) (fun b3 => ?_)
  · refine Ew_of (pcₚ := 23) (fun _ => x_iconst rfl) ?_
    exact w_ireturn rfl (k (0) σ _ _ H (SF_refl) (SA_refl) (show (0) = 0 ∨ (0) = 1 by first | exact q_45 | omega) (show (0) = 1 ∧ wnF ((u5_35)) < a1 ∨ (0) = 0 ∧ a1 ≤ wnF ((u5_35)) by omega))
  · refine Ew_of (pcₚ := 10) (fun _ => x_lload_n rfl rfl) ?_
    refine Ew_of (pcₚ := 11) (fun _ => x_aload_n rfl rfl) ?_
    refine w_gJ H (o := 5) (w := u5_35) rfl (H.perm 5 rfl) rfl rfl rfl (fun _ => rfl) (eu5_35) ?_
    refine w_lcmp rfl (show inrJ (a1) from h0) (show inrJ (u5_35) by omega) (fun z4 gz4 gaz4 gbz4 => ?_)
    refine w_ifle (t := 22) rfl rfl (show inr (z4) from gz4) (fun b5 => ?_) (fun b5 => ?_)
    · refine Ew_of (pcₚ := 23) (fun _ => x_iconst rfl) ?_
      exact w_ireturn rfl (k (0) σ _ _ H (SF_refl) (SA_refl) (show (0) = 0 ∨ (0) = 1 by first | exact q_45 | omega) (show (0) = 1 ∧ wnF ((u5_35)) < a1 ∨ (0) = 0 ∧ a1 ≤ wnF ((u5_35)) by omega))
    · refine Ew_of (pcₚ := 19) (fun _ => x_iconst rfl) ?_
      refine Ew_of (pcₚ := 23) (fun _ => x_goto rfl rfl) ?_
      exact w_ireturn rfl (k (1) σ _ _ H (SF_refl) (SA_refl) (show (1) = 0 ∨ (1) = 1 by first | exact q_49 | omega) (show (1) = 1 ∧ wnF ((u5_35)) < a1 ∨ (1) = 0 ∧ a1 ≤ wnF ((u5_35)) by omega))

theorem M300 {σ0 σ : rS} {D N : Nat → Nat} {F : hF} {A : hA} {d c s : Nat} {Q : wQ} (H : HS σ0 σ D N F A) {a1 a2 : Int} (u5_2 : Int) (eu5_2 : F 5 2 = u5_2) (u5_35 : Int) (eu5_35 : F 5 35 = u5_35) (h0 : inrJ (a1)) (h1 : inrJ (a2)) (h2 : 0 ≤ (a2) ∧ (a2) ≤ 1000000) (k : ∀ (z : Int) σ Fₚ Aₚ, HS σ0 σ D N Fₚ Aₚ → SF [] F Fₚ → SA [] A Aₚ → ((z) = 0 ∨ (z) = 1) → ((z) = 0 → (a1) ≠ 0 ∧ (a1) ≤ (a2) + (u5_2)) → (((z) = 1 ∧ tfF ((a1)) ((a2)) ((u5_2)) (wnF ((u5_35)))) ∨ ((z) = 0 ∧ ¬ tfF ((a1)) ((a2)) ((u5_2)) (wnF ((u5_35))))) → Q (some (I z)) σ c s) : Ew 300 (d + 1) 0 (rargs 0 [.ref (D 5), J a1, J a2]) [] σ c s Q := by
  have r1 : (0 : Int) ≤ u5_2 ∧ u5_2 ≤ 65536 := rngE (show (0 : Int) ≤ F 5 2 ∧ F 5 2 ≤ 65536 from H.frng 5 2) (show F 5 2 = u5_2 from (eu5_2))
  have r2 : (-9223372036854775808 : Int) ≤ u5_35 ∧ u5_35 ≤ 9223372036854775807 := rngE (show (-9223372036854775808 : Int) ≤ F 5 35 ∧ F 5 35 ≤ 9223372036854775807 from H.frng 5 35) (show F 5 35 = u5_35 from (eu5_35))
  refine Ew_of (pcₚ := 1) (fun _ => x_lload_n rfl rfl) ?_
  refine Ew_of (pcₚ := 2) (fun _ => x_lconst (z := 0) rfl (by decide)) ?_
  refine w_lcmp rfl (show inrJ (a1) from h0) (show inrJ (0) from q_340) (fun z3 gz3 gaz3 gbz3 => ?_)
  refine w_ifeq (t := 46) rfl rfl (show inr (z3) from gz3) (fun b4 => ?_) (fun b4 => ?_)
  · refine Ew_of (pcₚ := 47) (fun _ => x_iconst rfl) ?_
    refine Ew_of (pcₚ := 51) (fun _ => x_goto rfl rfl) ?_
    have : (((1) : Int) = 1 ∧ tfF ((a1)) ((a2)) ((u5_2)) (wnF ((u5_35)))) ∨ (((1) : Int) = 0 ∧ ¬ tfF ((a1)) ((a2)) ((u5_2)) (wnF ((u5_35)))) := by first | exact .inl ⟨by omega, by unfold tfF; omega⟩ | exact .inr ⟨by omega, by unfold tfF; omega⟩
    exact w_ireturn rfl (k (1) σ _ _ H (SF_refl) (SA_refl) (show (1) = 0 ∨ (1) = 1 by first | exact q_49 | omega) (show (1) = 0 → a1 ≠ 0 ∧ a1 ≤ a2 + (u5_2) by first | exact q_1549 | omega) (show ((1) = 1 ∧ tfF (a1) (a2) ((u5_2)) (wnF ((u5_35)))) ∨ ((1) = 0 ∧ ¬ tfF (a1) (a2) ((u5_2)) (wnF ((u5_35)))) by assumption))
  · refine Ew_of (pcₚ := 7) (fun _ => x_lload_n rfl rfl) ?_
    refine Ew_of (pcₚ := 8) (fun _ => x_lload_n rfl rfl) ?_
    refine Ew_of (pcₚ := 9) (fun _ => x_aload_n rfl rfl) ?_
    refine w_gI H (o := 5) (w := u5_2) rfl (H.perm 5 rfl) rfl rfl rfl (fun _ => rfl) (eu5_2) ?_
    refine w_i2l rfl (show inr (u5_2) from q_286 r1) ?_
    refine w_ladd rfl ?_
    refine w_lcmp rfl (show inrJ (a1) from h0) (show inrJ ((a2 + u5_2)) by omega) (fun z5 gz5 gaz5 gbz5 => ?_)
    refine w_ifgt (t := 46) rfl rfl (show inr (z5) from gz5) (fun b6 => ?_) (fun b6 => ?_)
    · refine Ew_of (pcₚ := 47) (fun _ => x_iconst rfl) ?_
      refine Ew_of (pcₚ := 51) (fun _ => x_goto rfl rfl) ?_
      have : (((1) : Int) = 1 ∧ tfF ((a1)) ((a2)) ((u5_2)) (wnF ((u5_35)))) ∨ (((1) : Int) = 0 ∧ ¬ tfF ((a1)) ((a2)) ((u5_2)) (wnF ((u5_35)))) := by first | exact .inl ⟨by omega, by unfold tfF; omega⟩ | exact .inr ⟨by omega, by unfold tfF; omega⟩
      exact w_ireturn rfl (k (1) σ _ _ H (SF_refl) (SA_refl) (show (1) = 0 ∨ (1) = 1 by first | exact q_49 | omega) (show (1) = 0 → a1 ≠ 0 ∧ a1 ≤ a2 + (u5_2) by first | exact q_1549 | omega) (show ((1) = 1 ∧ tfF (a1) (a2) ((u5_2)) (wnF ((u5_35)))) ∨ ((1) = 0 ∧ ¬ tfF (a1) (a2) ((u5_2)) (wnF ((u5_35)))) by assumption))
    · refine Ew_of (pcₚ := 19) (fun _ => x_lload_n rfl rfl) ?_
      refine Ew_of (pcₚ := 20) (fun _ => x_lload_n rfl rfl) ?_
      refine w_lcmp rfl (show inrJ (a1) from h0) (show inrJ (a2) from h1) (fun z7 gz7 gaz7 gbz7 => ?_)
      refine w_ifgt (t := 32) rfl rfl (show inr (z7) from gz7) (fun b8 => ?_) (fun b8 => ?_)
      · refine Ew_of (pcₚ := 33) (fun _ => x_lload_n rfl rfl) ?_
        refine Ew_of (pcₚ := 34) (fun _ => x_lload_n rfl rfl) ?_
        refine w_lcmp rfl (show inrJ (a1) from h0) (show inrJ (a2) from h1) (fun z9 gz9 gaz9 gbz9 => ?_)
        refine w_ifle (t := 50) rfl rfl (show inr (z9) from gz9) (fun b10 => ?_) (fun b10 => ?_)
        · refine Ew_of (pcₚ := 51) (fun _ => x_iconst rfl) ?_
          have : (((0) : Int) = 1 ∧ tfF ((a1)) ((a2)) ((u5_2)) (wnF ((u5_35)))) ∨ (((0) : Int) = 0 ∧ ¬ tfF ((a1)) ((a2)) ((u5_2)) (wnF ((u5_35)))) := by first | exact .inl ⟨by omega, by unfold tfF; omega⟩ | exact .inr ⟨by omega, by unfold tfF; omega⟩
          exact w_ireturn rfl (k (0) σ _ _ H (SF_refl) (SA_refl) (show (0) = 0 ∨ (0) = 1 by first | exact q_45 | omega) (show (0) = 0 → a1 ≠ 0 ∧ a1 ≤ a2 + (u5_2) by omega) (show ((0) = 1 ∧ tfF (a1) (a2) ((u5_2)) (wnF ((u5_35)))) ∨ ((0) = 0 ∧ ¬ tfF (a1) (a2) ((u5_2)) (wnF ((u5_35)))) by assumption))
        · refine Ew_of (pcₚ := 39) (fun _ => x_aload_n rfl rfl) ?_
          refine Ew_of (pcₚ := 40) (fun _ => x_lload_n rfl rfl) ?_
          refine w_inv H (o := 5) rfl rfl rfl (H.perm 5 rfl) rfl rfl (by rfl) (M301 H (u5_35) ((eu5_35)) (show inrJ (a2) from h1) (show (a2) ≤ 4611686018427387904 by omega) (fun z15 σ F11 A12 H hS13 hA14 pz15_0 pz15_1 => ⟨rretB rfl pz15_0, ?_⟩))
          refine w_ifeq (t := 50) rfl rfl (show inr (z15) from q_138 pz15_0) (fun b16 => ?_) (fun b16 => ?_)
          · refine Ew_of (pcₚ := 51) (fun _ => x_iconst rfl) ?_
            have : (((0) : Int) = 1 ∧ tfF ((a1)) ((a2)) ((u5_2)) (wnF ((u5_35)))) ∨ (((0) : Int) = 0 ∧ ¬ tfF ((a1)) ((a2)) ((u5_2)) (wnF ((u5_35)))) := by first | exact .inl ⟨by omega, by unfold tfF; omega⟩ | exact .inr ⟨by omega, by unfold tfF; omega⟩
            exact w_ireturn rfl (k (0) σ _ _ H (SF_trans (SF_refl) hS13 (any_sub rfl)) (SA_trans (SA_refl) hA14 (any_subA rfl)) (show (0) = 0 ∨ (0) = 1 by first | exact q_45 | omega) (show (0) = 0 → a1 ≠ 0 ∧ a1 ≤ a2 + (u5_2) by omega) (show ((0) = 1 ∧ tfF (a1) (a2) ((u5_2)) (wnF ((u5_35)))) ∨ ((0) = 0 ∧ ¬ tfF (a1) (a2) ((u5_2)) (wnF ((u5_35)))) by assumption))
          · refine Ew_of (pcₚ := 47) (fun _ => x_iconst rfl) ?_
            refine Ew_of (pcₚ := 51) (fun _ => x_goto rfl rfl) ?_
            have : (((1) : Int) = 1 ∧ tfF ((a1)) ((a2)) ((u5_2)) (wnF ((u5_35)))) ∨ (((1) : Int) = 0 ∧ ¬ tfF ((a1)) ((a2)) ((u5_2)) (wnF ((u5_35)))) := by first | exact .inl ⟨by omega, by unfold tfF; omega⟩ | exact .inr ⟨by omega, by unfold tfF; omega⟩
            exact w_ireturn rfl (k (1) σ _ _ H (SF_trans (SF_refl) hS13 (any_sub rfl)) (SA_trans (SA_refl) hA14 (any_subA rfl)) (show (1) = 0 ∨ (1) = 1 by first | exact q_49 | omega) (show (1) = 0 → a1 ≠ 0 ∧ a1 ≤ a2 + (u5_2) by first | exact q_1549 | omega) (show ((1) = 1 ∧ tfF (a1) (a2) ((u5_2)) (wnF ((u5_35)))) ∨ ((1) = 0 ∧ ¬ tfF (a1) (a2) ((u5_2)) (wnF ((u5_35)))) by assumption))
      · refine Ew_of (pcₚ := 25) (fun _ => x_aload_n rfl rfl) ?_
        refine Ew_of (pcₚ := 26) (fun _ => x_lload_n rfl rfl) ?_
        refine w_inv H (o := 5) rfl rfl rfl (H.perm 5 rfl) rfl rfl (by rfl) (M301 H (u5_35) ((eu5_35)) (show inrJ (a1) from h0) (show (a1) ≤ 4611686018427387904 by omega) (fun z21 σ F17 A18 H hS19 hA20 pz21_0 pz21_1 => ⟨rretB rfl pz21_0, ?_⟩))
        refine w_ifne (t := 46) rfl rfl (show inr (z21) from q_138 pz21_0) (fun b22 => ?_) (fun b22 => ?_)
        · refine Ew_of (pcₚ := 47) (fun _ => x_iconst rfl) ?_
          refine Ew_of (pcₚ := 51) (fun _ => x_goto rfl rfl) ?_
          have : (((1) : Int) = 1 ∧ tfF ((a1)) ((a2)) ((u5_2)) (wnF ((u5_35)))) ∨ (((1) : Int) = 0 ∧ ¬ tfF ((a1)) ((a2)) ((u5_2)) (wnF ((u5_35)))) := by first | exact .inl ⟨by omega, by unfold tfF; omega⟩ | exact .inr ⟨by omega, by unfold tfF; omega⟩
          exact w_ireturn rfl (k (1) σ _ _ H (SF_trans (SF_refl) hS19 (any_sub rfl)) (SA_trans (SA_refl) hA20 (any_subA rfl)) (show (1) = 0 ∨ (1) = 1 by first | exact q_49 | omega) (show (1) = 0 → a1 ≠ 0 ∧ a1 ≤ a2 + (u5_2) by first | exact q_1549 | omega) (show ((1) = 1 ∧ tfF (a1) (a2) ((u5_2)) (wnF ((u5_35)))) ∨ ((1) = 0 ∧ ¬ tfF (a1) (a2) ((u5_2)) (wnF ((u5_35)))) by assumption))
        · refine Ew_of (pcₚ := 33) (fun _ => x_lload_n rfl rfl) ?_
          refine Ew_of (pcₚ := 34) (fun _ => x_lload_n rfl rfl) ?_
          refine w_lcmp rfl (show inrJ (a1) from h0) (show inrJ (a2) from h1) (fun z23 gz23 gaz23 gbz23 => ?_)
          refine w_ifle (t := 50) rfl rfl (show inr (z23) from gz23) (fun b24 => ?_) (fun b24 => ?_)
          · refine Ew_of (pcₚ := 51) (fun _ => x_iconst rfl) ?_
            have : (((0) : Int) = 1 ∧ tfF ((a1)) ((a2)) ((u5_2)) (wnF ((u5_35)))) ∨ (((0) : Int) = 0 ∧ ¬ tfF ((a1)) ((a2)) ((u5_2)) (wnF ((u5_35)))) := by first | exact .inl ⟨by omega, by unfold tfF; omega⟩ | exact .inr ⟨by omega, by unfold tfF; omega⟩
            exact w_ireturn rfl (k (0) σ _ _ H (SF_trans (SF_refl) hS19 (any_sub rfl)) (SA_trans (SA_refl) hA20 (any_subA rfl)) (show (0) = 0 ∨ (0) = 1 by first | exact q_45 | omega) (show (0) = 0 → a1 ≠ 0 ∧ a1 ≤ a2 + (u5_2) by omega) (show ((0) = 1 ∧ tfF (a1) (a2) ((u5_2)) (wnF ((u5_35)))) ∨ ((0) = 0 ∧ ¬ tfF (a1) (a2) ((u5_2)) (wnF ((u5_35)))) by assumption))
          · refine Ew_of (pcₚ := 39) (fun _ => x_aload_n rfl rfl) ?_
            refine Ew_of (pcₚ := 40) (fun _ => x_lload_n rfl rfl) ?_
            refine w_inv H (o := 5) rfl rfl rfl (H.perm 5 rfl) rfl rfl (by rfl) (M301 H (u5_35) (((hS19 5 35 rfl).trans (eu5_35))) (show inrJ (a2) from h1) (show (a2) ≤ 4611686018427387904 by omega) (fun z29 σ F25 A26 H hS27 hA28 pz29_0 pz29_1 => ⟨rretB rfl pz29_0, ?_⟩))
            refine w_ifeq (t := 50) rfl rfl (show inr (z29) from q_138 pz29_0) (fun b30 => ?_) (fun b30 => ?_)
            · refine Ew_of (pcₚ := 51) (fun _ => x_iconst rfl) ?_
              have : (((0) : Int) = 1 ∧ tfF ((a1)) ((a2)) ((u5_2)) (wnF ((u5_35)))) ∨ (((0) : Int) = 0 ∧ ¬ tfF ((a1)) ((a2)) ((u5_2)) (wnF ((u5_35)))) := by first | exact .inl ⟨by omega, by unfold tfF; omega⟩ | exact .inr ⟨by omega, by unfold tfF; omega⟩
              exact w_ireturn rfl (k (0) σ _ _ H (SF_trans (SF_trans (SF_refl) hS19 (any_sub rfl)) hS27 (any_sub rfl)) (SA_trans (SA_trans (SA_refl) hA20 (any_subA rfl)) hA28 (any_subA rfl)) (show (0) = 0 ∨ (0) = 1 by first | exact q_45 | omega) (show (0) = 0 → a1 ≠ 0 ∧ a1 ≤ a2 + (u5_2) by omega) (show ((0) = 1 ∧ tfF (a1) (a2) ((u5_2)) (wnF ((u5_35)))) ∨ ((0) = 0 ∧ ¬ tfF (a1) (a2) ((u5_2)) (wnF ((u5_35)))) by assumption))
            · refine Ew_of (pcₚ := 47) (fun _ => x_iconst rfl) ?_
              refine Ew_of (pcₚ := 51) (fun _ => x_goto rfl rfl) ?_
              have : (((1) : Int) = 1 ∧ tfF ((a1)) ((a2)) ((u5_2)) (wnF ((u5_35)))) ∨ (((1) : Int) = 0 ∧ ¬ tfF ((a1)) ((a2)) ((u5_2)) (wnF ((u5_35)))) := by first | exact .inl ⟨by omega, by unfold tfF; omega⟩ | exact .inr ⟨by omega, by unfold tfF; omega⟩
              exact w_ireturn rfl (k (1) σ _ _ H (SF_trans (SF_trans (SF_refl) hS19 (any_sub rfl)) hS27 (any_sub rfl)) (SA_trans (SA_trans (SA_refl) hA20 (any_subA rfl)) hA28 (any_subA rfl)) (show (1) = 0 ∨ (1) = 1 by first | exact q_49 | omega) (show (1) = 0 → a1 ≠ 0 ∧ a1 ≤ a2 + (u5_2) by first | exact q_1549 | omega) (show ((1) = 1 ∧ tfF (a1) (a2) ((u5_2)) (wnF ((u5_35)))) ∨ ((1) = 0 ∧ ¬ tfF (a1) (a2) ((u5_2)) (wnF ((u5_35)))) by assumption))

theorem M302 {σ0 σ : rS} {D N : Nat → Nat} {F : hF} {A : hA} {d c s : Nat} {Q : wQ} (H : HS σ0 σ D N F A) {a1 a2 a3 : Int} (u5_2 : Int) (eu5_2 : F 5 2 = u5_2) (u5_27 : Int) (eu5_27 : F 5 27 = u5_27) (u5_28 : Int) (eu5_28 : F 5 28 = u5_28) (u5_39 : Int) (eu5_39 : F 5 39 = u5_39) (u5_40 : Int) (eu5_40 : F 5 40 = u5_40) (w26 : Int → Int) (ew26 : A 26 = w26) (w45 : Int → Int) (ew45 : A 45 = w45) (w46 : Int → Int) (ew46 : A 46 = w46) (h0 : inr (a1)) (h1 : inr (a2)) (h2 : inr (a3)) (h3 : 0 ≤ (a1) ∧ 0 ≤ (a3) ∧ (u5_40) + (a1) ≤ (u5_39)) (h4 : (u5_27) + (a1) + (a3) ≤ 65536) (h5 : 1 ≤ (a2) ∧ (a2) ≤ (u5_27) + (a1) - (u5_28) + (u5_2)) (h6 : (u5_28) ≤ (u5_27)) (k : ∀ σ Fₚ Aₚ, HS σ0 σ D N Fₚ Aₚ → SF [(5, 27), (5, 40)] F Fₚ → SA [45] A Aₚ → ∀ y5_27 : Int, Fₚ 5 27 = y5_27 → ∀ y5_40 : Int, Fₚ 5 40 = y5_40 → ∀ v45 : Int → Int, Aₚ 45 = v45 → ((y5_27) = (u5_27) + (a1) + (a3)) → ((y5_40) = (u5_40) + (a1)) → (sc ((w26)) 0 ((u5_2)) ++ sc ((v45)) ((u5_28)) ((y5_27)) = cpb ((sc ((w26)) 0 ((u5_2)) ++ sc ((w45)) ((u5_28)) ((u5_27))) ++ sc ((w46)) ((u5_40)) ((u5_40) + (a1))) ((a2)) ((a3) : Int).toNat) → (FRM ((w45)) ((v45)) ((u5_27)) 65536) → Q none σ c s) : Ew 302 (d + 0) 0 (rargs 0 [.ref (D 5), I a1, I a2, I a3]) [] σ c s Q := by
  have r1 : (0 : Int) ≤ u5_2 ∧ u5_2 ≤ 65536 := rngE (show (0 : Int) ≤ F 5 2 ∧ F 5 2 ≤ 65536 from H.frng 5 2) (show F 5 2 = u5_2 from (eu5_2))
  have r2 : (0 : Int) ≤ u5_27 ∧ u5_27 ≤ 65536 := rngE (show (0 : Int) ≤ F 5 27 ∧ F 5 27 ≤ 65536 from H.frng 5 27) (show F 5 27 = u5_27 from (eu5_27))
  have r3 : (0 : Int) ≤ u5_28 ∧ u5_28 ≤ 65536 := rngE (show (0 : Int) ≤ F 5 28 ∧ F 5 28 ≤ 65536 from H.frng 5 28) (show F 5 28 = u5_28 from (eu5_28))
  have r4 : (0 : Int) ≤ u5_39 ∧ u5_39 ≤ 131072 := rngE (show (0 : Int) ≤ F 5 39 ∧ F 5 39 ≤ 131072 from H.frng 5 39) (show F 5 39 = u5_39 from (eu5_39))
  have r5 : (0 : Int) ≤ u5_40 ∧ u5_40 ≤ 131072 := rngE (show (0 : Int) ≤ F 5 40 ∧ F 5 40 ≤ 131072 from H.frng 5 40) (show F 5 40 = u5_40 from (eu5_40))
  refine Ew_of (pcₚ := 1) (fun _ => x_iconst rfl) ?_
  refine Ew_of (pcₚ := 3) (fun _ => x_istore rfl) ?_
  have : sc ((w26)) 0 ((u5_2)) ++ sc ((w45)) ((u5_28)) ((u5_27)) = (sc ((w26)) 0 ((u5_2)) ++ sc ((w45)) ((u5_28)) ((u5_27))) ++ sc ((w46)) ((u5_40)) ((u5_40) + 0) := by rw [Int.add_zero, sc_nil (f := (w46)) (Int.le_refl _), List.append_nil]
  have : FRM ((w45)) ((w45)) ((u5_27)) 65536 := FRM_refl
  suffices hl3 : ∀ (m : Nat), ∀ (ls : rO) (σ : rS) (F_3 : hF) (A_3 : hA) (x3_4 : Int), rlook ls 0 = some (.ref (D 5)) → rlook ls 1 = some (I (a1)) → rlook ls 2 = some (I (a2)) → rlook ls 3 = some (I (a3)) → rlook ls 4 = some (I (x3_4)) → HS σ0 σ D N F_3 A_3 → SF [(5, 27), (5, 40)] F F_3 → SA [45] A A_3 → ∀ y3_5_27 : Int, F_3 5 27 = y3_5_27 → ∀ y3_5_40 : Int, F_3 5 40 = y3_5_40 → ∀ w3_45 : Int → Int, A_3 45 = w3_45 → (inr (x3_4)) → ((0) ≤ (x3_4)) → ((x3_4) ≤ (0) ∨ (x3_4) ≤ ((a1))) → ((y3_5_27) = (u5_27) + (x3_4) ∧ (y3_5_40) = (u5_40) + (x3_4)) → (sc ((w26)) 0 ((u5_2)) ++ sc ((w3_45)) ((u5_28)) ((y3_5_27)) = (sc ((w26)) 0 ((u5_2)) ++ sc ((w45)) ((u5_28)) ((u5_27))) ++ sc ((w46)) ((u5_40)) ((u5_40) + (x3_4))) → (FRM ((w45)) ((w3_45)) ((u5_27)) 65536) → (((a1)) - (x3_4)).toNat = m → Ew 302 (d + 0) 3 ls [] σ c s Q from
    hl3 _ _ σ _ _ (0) (rk_o (rfl) rfl rfl) (rk_o (rfl) rfl rfl) (rk_o (rfl) rfl rfl) (rk_o (rfl) rfl rfl) (rk_s) H (SF_refl) (SA_refl) (u5_27) ((eu5_27)) (u5_40) ((eu5_40)) (w45) (ew45) (show inr (0) from q_2) (show (0) ≤ (0) from q_1) (show (0) ≤ (0) ∨ (0) ≤ ((a1)) from q_5) (show (u5_27) = (u5_27) + (0) ∧ (u5_40) = (u5_40) + (0) from q_1550) (show sc ((w26)) 0 ((u5_2)) ++ sc ((w45)) ((u5_28)) ((u5_27)) = (sc ((w26)) 0 ((u5_2)) ++ sc ((w45)) ((u5_28)) ((u5_27))) ++ sc ((w46)) ((u5_40)) ((u5_40) + (0)) by assumption) (show FRM ((w45)) ((w45)) ((u5_27)) 65536 by assumption) rfl
  as_aux_lemma =>
  intro m
  induction m using Nat.strongRecOn with
  | _ m ih3 =>
    intro ls σ F_3 A_3 x3_4 l3_0 l3_1 l3_2 l3_3 l3_4 H hS_3 hA_3 y3_5_27 ey3_5_27 y3_5_40 ey3_5_40 w3_45 ew3_45 j3_0 j3_1 j3_2 j3_3 j3_4 j3_5 hm3
    have r6 : (0 : Int) ≤ y3_5_27 ∧ y3_5_27 ≤ 65536 := rngE (show (0 : Int) ≤ F_3 5 27 ∧ F_3 5 27 ≤ 65536 from H.frng 5 27) (show F_3 5 27 = y3_5_27 from (ey3_5_27))
    have r7 : (0 : Int) ≤ y3_5_40 ∧ y3_5_40 ≤ 131072 := rngE (show (0 : Int) ≤ F_3 5 40 ∧ F_3 5 40 ≤ 131072 from H.frng 5 40) (show F_3 5 40 = y3_5_40 from (ey3_5_40))
    have j3_w : sc ((w26)) 0 ((u5_2)) ++ sc ((w3_45)) ((u5_28)) ((y3_5_27)) = (sc ((w26)) 0 ((u5_2)) ++ sc ((w45)) ((u5_28)) ((u5_27))) ++ sc ((w46)) ((u5_40)) ((u5_40) + (x3_4)) := by assumption
    obtain ⟨qu, hqu⟩ : ∃ q : Int, q = (y3_5_40) := ⟨_, rfl⟩
    refine Ew_of (pcₚ := 5) (fun _ => x_iload rfl l3_4) ?_
    refine Ew_of (pcₚ := 6) (fun _ => x_iload_n rfl l3_1) ?_
    refine w_icmpge (t := 53) rfl rfl (show inr (x3_4) from j3_0) (show inr (a1) from h0) (fun b8 => ?_) (fun b8 => ?_)
    · obtain ⟨q4, hq4⟩ : ∃ q : Int, q = (x3_4) := ⟨_, rfl⟩
      refine Ew_of (pcₚ := 54) (fun _ => x_iconst rfl) ?_
      refine Ew_of (pcₚ := 56) (fun _ => x_istore rfl) ?_
      have : sc ((w26)) 0 ((u5_2)) ++ sc ((w3_45)) ((u5_28)) ((y3_5_27)) = cpb ((sc ((w26)) 0 ((u5_2)) ++ sc ((w45)) ((u5_28)) ((u5_27))) ++ sc ((w46)) ((u5_40)) ((u5_40) + (a1))) ((a2)) (0 : Int).toNat := by rw [j3_w, show (u5_40) + x3_4 = (u5_40) + (a1) by omega]; rfl
      suffices hl56 : ∀ (m : Nat), ∀ (ls : rO) (σ : rS) (F_56 : hF) (A_56 : hA) (x56_4 : Int), rlook ls 0 = some (.ref (D 5)) → rlook ls 2 = some (I (a2)) → rlook ls 3 = some (I (a3)) → rlook ls 4 = some (I (x56_4)) → HS σ0 σ D N F_56 A_56 → SF [(5, 27)] F_3 F_56 → SA [45] A_3 A_56 → ∀ y56_5_27 : Int, F_56 5 27 = y56_5_27 → ∀ w56_45 : Int → Int, A_56 45 = w56_45 → (inr (x56_4)) → ((0) ≤ (x56_4)) → ((x56_4) ≤ (0) ∨ (x56_4) ≤ ((a3))) → ((y56_5_27) = (u5_27) + (a1) + (x56_4)) → (sc ((w26)) 0 ((u5_2)) ++ sc ((w56_45)) ((u5_28)) ((y56_5_27)) = cpb ((sc ((w26)) 0 ((u5_2)) ++ sc ((w45)) ((u5_28)) ((u5_27))) ++ sc ((w46)) ((u5_40)) ((u5_40) + (a1))) ((a2)) ((x56_4) : Int).toNat) → (FRM ((w45)) ((w56_45)) ((u5_27)) 65536) → (((a3)) - (x56_4)).toNat = m → Ew 302 (d + 0) 56 ls [] σ c s Q from
        hl56 _ _ σ _ _ (0) (rk_o (l3_0) rfl rfl) (rk_o (l3_2) rfl rfl) (rk_o (l3_3) rfl rfl) (rk_s) H (SF_refl) (SA_refl) (y3_5_27) ((ey3_5_27)) (w3_45) (ew3_45) (show inr (0) from q_2) (show (0) ≤ (0) from q_1) (show (0) ≤ (0) ∨ (0) ≤ ((a3)) from q_5) (show (y3_5_27) = (u5_27) + (a1) + (0) from q_1551 b8 h3 j3_2 j3_3) (show sc ((w26)) 0 ((u5_2)) ++ sc ((w3_45)) ((u5_28)) ((y3_5_27)) = cpb ((sc ((w26)) 0 ((u5_2)) ++ sc ((w45)) ((u5_28)) ((u5_27))) ++ sc ((w46)) ((u5_40)) ((u5_40) + (a1))) ((a2)) ((0) : Int).toNat by assumption) (j3_5) rfl
      as_aux_lemma =>
      intro m
      induction m using Nat.strongRecOn with
      | _ m ih56 =>
        intro ls σ F_56 A_56 x56_4 l56_0 l56_2 l56_3 l56_4 H hS_56 hA_56 y56_5_27 ey56_5_27 w56_45 ew56_45 j56_0 j56_1 j56_2 j56_3 j56_4 j56_5 hm56
        have r9 : (0 : Int) ≤ y56_5_27 ∧ y56_5_27 ≤ 65536 := rngE (show (0 : Int) ≤ F_56 5 27 ∧ F_56 5 27 ≤ 65536 from H.frng 5 27) (show F_56 5 27 = y56_5_27 from (ey56_5_27))
        have j56_w : sc ((w26)) 0 ((u5_2)) ++ sc ((w56_45)) ((u5_28)) ((y56_5_27)) = cpb ((sc ((w26)) 0 ((u5_2)) ++ sc ((w45)) ((u5_28)) ((u5_27))) ++ sc ((w46)) ((u5_40)) ((u5_40) + (a1))) ((a2)) ((x56_4) : Int).toNat := by assumption
        refine Ew_of (pcₚ := 58) (fun _ => x_iload rfl l56_4) ?_
        refine Ew_of (pcₚ := 59) (fun _ => x_iload_n rfl l56_3) ?_
        refine w_icmpge (t := 131) rfl rfl (show inr (x56_4) from j56_0) (show inr (a3) from h2) (fun b10 => ?_) (fun b10 => ?_)
        · have : sc ((w26)) 0 ((u5_2)) ++ sc ((w56_45)) ((u5_28)) ((y56_5_27)) = cpb ((sc ((w26)) 0 ((u5_2)) ++ sc ((w45)) ((u5_28)) ((u5_27))) ++ sc ((w46)) ((u5_40)) ((u5_40) + (a1))) ((a2)) ((a3) : Int).toNat := by rw [show (a3) = (x56_4) by omega]; exact j56_w
          exact w_ret rfl (k σ _ _ H (SF_trans (SF_trans (SF_refl) hS_3 (any_sub rfl)) hS_56 (any_sub rfl)) (SA_trans (SA_trans (SA_refl) hA_3 (any_subA rfl)) hA_56 (any_subA rfl)) (y56_5_27) ((ey56_5_27)) (y3_5_40) (((hS_56 5 40 rfl).trans (ey3_5_40))) (w56_45) (ew56_45) (show (y56_5_27) = (u5_27) + a1 + a3 from q_1553 b10 h3 j56_2 j56_3) (show (y3_5_40) = (u5_40) + a1 from q_1552 b8 h3 j3_2 j3_3) (show sc ((w26)) 0 ((u5_2)) ++ sc ((w56_45)) ((u5_28)) ((y56_5_27)) = cpb ((sc ((w26)) 0 ((u5_2)) ++ sc ((w45)) ((u5_28)) ((u5_27))) ++ sc ((w46)) ((u5_40)) ((u5_40) + a1)) (a2) (a3 : Int).toNat by assumption) (j56_5))
        · refine Ew_of (pcₚ := 63) (fun _ => x_aload_n rfl l56_0) ?_
          refine w_gI H (o := 5) (w := y56_5_27) rfl (H.perm 5 rfl) rfl rfl rfl (fun _ => rfl) (ey56_5_27) ?_
          refine Ew_of (pcₚ := 67) (fun _ => x_iload_n rfl l56_2) ?_
          refine w_isub rfl ?_
          refine Ew_of (pcₚ := 70) (fun _ => x_istore rfl) ?_
          refine Ew_of (pcₚ := 71) (fun _ => x_aload_n rfl (rk_o (l56_0) rfl rfl)) ?_
          refine w_gT H (o := 5) (t := 45) rfl (H.perm 5 rfl) rfl rfl rfl rfl rfl rfl ?_
          refine Ew_of (pcₚ := 75) (fun _ => x_aload_n rfl (rk_o (l56_0) rfl rfl)) ?_
          refine w_gI H (o := 5) (w := y56_5_27) rfl (H.perm 5 rfl) rfl rfl rfl (fun _ => rfl) (ey56_5_27) ?_
          refine Ew_of (pcₚ := 80) (fun _ => x_iload rfl rk_s) ?_
          refine Ew_of (pcₚ := 81) (fun _ => x_aload_n rfl (rk_o (l56_0) rfl rfl)) ?_
          refine w_gI H (o := 5) (w := u5_28) rfl (H.perm 5 rfl) rfl rfl rfl (fun _ => rfl) (((hS_56 5 28 rfl).trans (hS_3 5 28 rfl)).trans (eu5_28)) ?_
          refine w_icmplt (t := 97) rfl rfl (show inr ((y56_5_27 - a2)) from q_1554 h1 h5 r9) (show inr (u5_28) from q_286 r3) (fun b11 => ?_) (fun b11 => ?_)
          · refine Ew_of (pcₚ := 98) (fun _ => x_aload_n rfl (rk_o (l56_0) rfl rfl)) ?_
            refine w_gT H (o := 5) (t := 26) rfl (H.perm 5 rfl) rfl rfl rfl rfl rfl rfl ?_
            refine Ew_of (pcₚ := 102) (fun _ => x_aload_n rfl (rk_o (l56_0) rfl rfl)) ?_
            refine w_gI H (o := 5) (w := u5_2) rfl (H.perm 5 rfl) rfl rfl rfl (fun _ => rfl) (((hS_56 5 2 rfl).trans (hS_3 5 2 rfl)).trans (eu5_2)) ?_
            refine Ew_of (pcₚ := 107) (fun _ => x_iload rfl rk_s) ?_
            refine w_iadd rfl ?_
            refine Ew_of (pcₚ := 109) (fun _ => x_aload_n rfl (rk_o (l56_0) rfl rfl)) ?_
            refine w_gI H (o := 5) (w := u5_28) rfl (H.perm 5 rfl) rfl rfl rfl (fun _ => rfl) (((hS_56 5 28 rfl).trans (hS_3 5 28 rfl)).trans (eu5_28)) ?_
            refine w_isub rfl ?_
            refine w_lI H (o := 26) (n := 65536) rfl (H.perm 26 rfl) rfl rfl (H.fix 26 rfl rfl) (show 0 ≤ ((u5_2 + (y56_5_27 - a2)) - u5_28) ∧ ((u5_2 + (y56_5_27 - a2)) - u5_28) < ((65536 : Nat) : Int) from q_1555 b11 h5 j56_1 j56_3 r1) (by decide) (fun v12 ev12 qv12 => ?_)
            have qv12 : (0 : Int) ≤ v12 ∧ v12 ≤ 255 := qv12
            have ev12 : (w26) (((u5_2 + (y56_5_27 - a2)) - u5_28)) = v12 := (congrFun ((funext (hA_56 26 rfl)).trans ((funext (hA_3 26 rfl)).trans (ew26))) (((u5_2 + (y56_5_27 - a2)) - u5_28))).symm.trans ev12
            have hv1 := ev12
            refine w_sI H (o := 45) (n := 65536) rfl (H.perm 45 rfl) rfl rfl (H.fix 45 rfl rfl) (show 0 ≤ y56_5_27 ∧ y56_5_27 < ((65536 : Nat) : Int) from q_1556 b10 h4 j56_3 r9) (by decide) (show (0 : Int) ≤ v12 ∧ v12 ≤ 255 from qv12) (fun σ H => ?_)
            refine Ew_of (pcₚ := 116) (fun _ => x_aload_n rfl (rk_o (l56_0) rfl rfl)) ?_
            refine Ew_of (pcₚ := 117) (fun _ => x_dup rfl rfl) ?_
            refine w_gI H (o := 5) (w := y56_5_27) rfl (H.perm 5 rfl) rfl rfl rfl (fun _ => rfl) (ey56_5_27) ?_
            refine Ew_of (pcₚ := 121) (fun _ => x_iconst rfl) ?_
            refine w_iadd rfl ?_
            refine w_pI H (o := 5) rfl rfl (H.perm 5 rfl) rfl rfl rfl (fun _ => rfl) rfl (show (0 : Int) ≤ (y56_5_27 + 1) ∧ (y56_5_27 + 1) ≤ 65536 from q_1557 b10 h4 j56_3 r9) (fun σ H => ?_)
            refine Ew_of (pcₚ := 128) (fun _ => x_iinc (len := 3) rfl (rk_o (l56_4) rfl rfl)) ?_
            refine Ew_of (pcₚ := 56) (fun _ => x_goto rfl rfl) ?_
            have : FRM ((w45)) ((upd1 (w56_45) (y56_5_27) (v12))) ((u5_27)) 65536 := FRM_upd (by assumption) (by omega) (by omega)
            have : sc ((w26)) 0 ((u5_2)) ++ sc ((upd1 (w56_45) (y56_5_27) (v12))) ((u5_28)) (((y56_5_27 + 1))) = cpb ((sc ((w26)) 0 ((u5_2)) ++ sc ((w45)) ((u5_28)) ((u5_27))) ++ sc ((w46)) ((u5_40)) ((u5_40) + (a1))) ((a2)) (((x56_4 + 1)) : Int).toNat := by first | exact CBK_hi j56_w (by omega) (by omega) (by omega) rfl (by omega) hv1 rfl (by omega) (by omega) | exact CBK_lo j56_w (by omega) (by omega) (by omega) (by omega) (by omega) (by omega) (by omega) hv1 rfl (by omega) (by omega)
            exact ih56 _ (msE hm56 q_16 (q_17 b10)) _ σ _ _ ((x56_4 + 1)) (rk_o (rk_o (l56_0) rfl rfl) rfl rfl) (rk_o (rk_o (l56_2) rfl rfl) rfl rfl) (rk_o (rk_o (l56_3) rfl rfl) rfl rfl) (rk_s) H (SF_upd (hS_56) rfl) (SA_upd (hA_56) rfl) ((y56_5_27 + 1)) (rfl) (upd1 (w56_45) (y56_5_27) (v12)) (congrArg (fun q => upd1 q (y56_5_27) (v12)) (ew56_45)) (show inr ((x56_4 + 1)) from q_1559 h3 j56_1 j56_3 r2 r9) (show (0) ≤ ((x56_4 + 1)) from q_14 j56_1) (show ((x56_4 + 1)) ≤ (0) ∨ ((x56_4 + 1)) ≤ ((a3)) from q_13 b10) (show ((y56_5_27 + 1)) = (u5_27) + (a1) + ((x56_4 + 1)) from q_1558 j56_3) (show sc ((w26)) 0 ((u5_2)) ++ sc ((upd1 (w56_45) (y56_5_27) (v12))) ((u5_28)) (((y56_5_27 + 1))) = cpb ((sc ((w26)) 0 ((u5_2)) ++ sc ((w45)) ((u5_28)) ((u5_27))) ++ sc ((w46)) ((u5_40)) ((u5_40) + (a1))) ((a2)) (((x56_4 + 1)) : Int).toNat by assumption) (show FRM ((w45)) ((upd1 (w56_45) (y56_5_27) (v12))) ((u5_27)) 65536 by assumption) rfl
          · refine Ew_of (pcₚ := 88) (fun _ => x_aload_n rfl (rk_o (l56_0) rfl rfl)) ?_
            refine w_gT H (o := 5) (t := 45) rfl (H.perm 5 rfl) rfl rfl rfl rfl rfl rfl ?_
            refine Ew_of (pcₚ := 93) (fun _ => x_iload rfl rk_s) ?_
            refine w_lI H (o := 45) (n := 65536) rfl (H.perm 45 rfl) rfl rfl (H.fix 45 rfl rfl) (show 0 ≤ (y56_5_27 - a2) ∧ (y56_5_27 - a2) < ((65536 : Nat) : Int) from q_1560 b11 h5 r3 r9) (by decide) (fun v13 ev13 qv13 => ?_)
            have qv13 : (0 : Int) ≤ v13 ∧ v13 ≤ 255 := qv13
            have ev13 : (w56_45) ((y56_5_27 - a2)) = v13 := (congrFun (ew56_45) ((y56_5_27 - a2))).symm.trans ev13
            refine Ew_of (pcₚ := 114) (fun _ => x_goto rfl rfl) ?_
            have hv1 := ev13
            refine w_sI H (o := 45) (n := 65536) rfl (H.perm 45 rfl) rfl rfl (H.fix 45 rfl rfl) (show 0 ≤ y56_5_27 ∧ y56_5_27 < ((65536 : Nat) : Int) from q_1556 b10 h4 j56_3 r9) (by decide) (show (0 : Int) ≤ v13 ∧ v13 ≤ 255 from qv13) (fun σ H => ?_)
            refine Ew_of (pcₚ := 116) (fun _ => x_aload_n rfl (rk_o (l56_0) rfl rfl)) ?_
            refine Ew_of (pcₚ := 117) (fun _ => x_dup rfl rfl) ?_
            refine w_gI H (o := 5) (w := y56_5_27) rfl (H.perm 5 rfl) rfl rfl rfl (fun _ => rfl) (ey56_5_27) ?_
            refine Ew_of (pcₚ := 121) (fun _ => x_iconst rfl) ?_
            refine w_iadd rfl ?_
            refine w_pI H (o := 5) rfl rfl (H.perm 5 rfl) rfl rfl rfl (fun _ => rfl) rfl (show (0 : Int) ≤ (y56_5_27 + 1) ∧ (y56_5_27 + 1) ≤ 65536 from q_1557 b10 h4 j56_3 r9) (fun σ H => ?_)
            refine Ew_of (pcₚ := 128) (fun _ => x_iinc (len := 3) rfl (rk_o (l56_4) rfl rfl)) ?_
            refine Ew_of (pcₚ := 56) (fun _ => x_goto rfl rfl) ?_
            have : FRM ((w45)) ((upd1 (w56_45) (y56_5_27) (v13))) ((u5_27)) 65536 := FRM_upd (by assumption) (by omega) (by omega)
            have : sc ((w26)) 0 ((u5_2)) ++ sc ((upd1 (w56_45) (y56_5_27) (v13))) ((u5_28)) (((y56_5_27 + 1))) = cpb ((sc ((w26)) 0 ((u5_2)) ++ sc ((w45)) ((u5_28)) ((u5_27))) ++ sc ((w46)) ((u5_40)) ((u5_40) + (a1))) ((a2)) (((x56_4 + 1)) : Int).toNat := by first | exact CBK_hi j56_w (by omega) (by omega) (by omega) rfl (by omega) hv1 rfl (by omega) (by omega) | exact CBK_lo j56_w (by omega) (by omega) (by omega) (by omega) (by omega) (by omega) (by omega) hv1 rfl (by omega) (by omega)
            exact ih56 _ (msE hm56 q_16 (q_17 b10)) _ σ _ _ ((x56_4 + 1)) (rk_o (rk_o (l56_0) rfl rfl) rfl rfl) (rk_o (rk_o (l56_2) rfl rfl) rfl rfl) (rk_o (rk_o (l56_3) rfl rfl) rfl rfl) (rk_s) H (SF_upd (hS_56) rfl) (SA_upd (hA_56) rfl) ((y56_5_27 + 1)) (rfl) (upd1 (w56_45) (y56_5_27) (v13)) (congrArg (fun q => upd1 q (y56_5_27) (v13)) (ew56_45)) (show inr ((x56_4 + 1)) from q_1559 h3 j56_1 j56_3 r2 r9) (show (0) ≤ ((x56_4 + 1)) from q_14 j56_1) (show ((x56_4 + 1)) ≤ (0) ∨ ((x56_4 + 1)) ≤ ((a3)) from q_13 b10) (show ((y56_5_27 + 1)) = (u5_27) + (a1) + ((x56_4 + 1)) from q_1558 j56_3) (show sc ((w26)) 0 ((u5_2)) ++ sc ((upd1 (w56_45) (y56_5_27) (v13))) ((u5_28)) (((y56_5_27 + 1))) = cpb ((sc ((w26)) 0 ((u5_2)) ++ sc ((w45)) ((u5_28)) ((u5_27))) ++ sc ((w46)) ((u5_40)) ((u5_40) + (a1))) ((a2)) (((x56_4 + 1)) : Int).toNat by assumption) (show FRM ((w45)) ((upd1 (w56_45) (y56_5_27) (v13))) ((u5_27)) 65536 by assumption) rfl
    · refine Ew_of (pcₚ := 10) (fun _ => x_aload_n rfl l3_0) ?_
      refine w_gT H (o := 5) (t := 45) rfl (H.perm 5 rfl) rfl rfl rfl rfl rfl rfl ?_
      refine Ew_of (pcₚ := 14) (fun _ => x_aload_n rfl l3_0) ?_
      refine w_gI H (o := 5) (w := y3_5_27) rfl (H.perm 5 rfl) rfl rfl rfl (fun _ => rfl) (ey3_5_27) ?_
      refine Ew_of (pcₚ := 18) (fun _ => x_aload_n rfl l3_0) ?_
      refine w_gT H (o := 5) (t := 46) rfl (H.perm 5 rfl) rfl rfl rfl rfl rfl rfl ?_
      refine Ew_of (pcₚ := 22) (fun _ => x_aload_n rfl l3_0) ?_
      refine w_gI H (o := 5) (w := y3_5_40) rfl (H.perm 5 rfl) rfl rfl rfl (fun _ => rfl) (ey3_5_40) ?_
      refine w_lI H (o := 46) (n := 131072) rfl (H.perm 46 rfl) rfl rfl (H.fix 46 rfl rfl) (show 0 ≤ y3_5_40 ∧ y3_5_40 < ((131072 : Nat) : Int) from q_1561 b8 h3 j3_3 r4 r7) (by decide) (fun v14 ev14 qv14 => ?_)
      have qv14 : (0 : Int) ≤ v14 ∧ v14 ≤ 255 := qv14
      have ev14 : (w46) (y3_5_40) = v14 := (congrFun ((funext (hA_3 46 rfl)).trans (ew46)) (y3_5_40)).symm.trans ev14
      have hv := ev14
      rw [← hqu] at hv
      refine w_sI H (o := 45) (n := 65536) rfl (H.perm 45 rfl) rfl rfl (H.fix 45 rfl rfl) (show 0 ≤ y3_5_27 ∧ y3_5_27 < ((65536 : Nat) : Int) from q_1562 b8 h3 h4 j3_3 r6) (by decide) (show (0 : Int) ≤ v14 ∧ v14 ≤ 255 from qv14) (fun σ H => ?_)
      refine Ew_of (pcₚ := 28) (fun _ => x_aload_n rfl l3_0) ?_
      refine Ew_of (pcₚ := 29) (fun _ => x_dup rfl rfl) ?_
      refine w_gI H (o := 5) (w := y3_5_27) rfl (H.perm 5 rfl) rfl rfl rfl (fun _ => rfl) (ey3_5_27) ?_
      refine Ew_of (pcₚ := 33) (fun _ => x_iconst rfl) ?_
      refine w_iadd rfl ?_
      refine w_pI H (o := 5) rfl rfl (H.perm 5 rfl) rfl rfl rfl (fun _ => rfl) rfl (show (0 : Int) ≤ (y3_5_27 + 1) ∧ (y3_5_27 + 1) ≤ 65536 from q_1563 b8 h3 h4 j3_3 r6) (fun σ H => ?_)
      refine Ew_of (pcₚ := 38) (fun _ => x_aload_n rfl l3_0) ?_
      refine Ew_of (pcₚ := 39) (fun _ => x_dup rfl rfl) ?_
      refine w_gI H (o := 5) (w := y3_5_40) rfl (H.perm 5 rfl) rfl rfl rfl (fun _ => rfl) (ey3_5_40) ?_
      refine Ew_of (pcₚ := 43) (fun _ => x_iconst rfl) ?_
      refine w_iadd rfl ?_
      refine w_pI H (o := 5) rfl rfl (H.perm 5 rfl) rfl rfl rfl (fun _ => rfl) rfl (show (0 : Int) ≤ (y3_5_40 + 1) ∧ (y3_5_40 + 1) ≤ 131072 from q_1564 b8 h3 j3_3 r4 r7) (fun σ H => ?_)
      refine Ew_of (pcₚ := 50) (fun _ => x_iinc (len := 3) rfl (l3_4)) ?_
      refine Ew_of (pcₚ := 3) (fun _ => x_goto rfl rfl) ?_
      have : sc ((w26)) 0 ((u5_2)) ++ sc ((upd1 (w3_45) (y3_5_27) (v14))) ((u5_28)) (((y3_5_27 + 1))) = (sc ((w26)) 0 ((u5_2)) ++ sc ((w45)) ((u5_28)) ((u5_27))) ++ sc ((w46)) ((u5_40)) ((u5_40) + ((x3_4 + 1))) := WD_s (k := x3_4) j3_w (by omega) (by omega) (by rw [show (u5_40) + x3_4 = qu by omega]; exact hv) (by omega) (by omega)
      have : FRM ((w45)) ((upd1 (w3_45) (y3_5_27) (v14))) ((u5_27)) 65536 := FRM_upd (by assumption) (by omega) (by omega)
      exact ih3 _ (msE hm3 q_16 (q_17 b8)) _ σ _ _ ((x3_4 + 1)) (rk_o (l3_0) rfl rfl) (rk_o (l3_1) rfl rfl) (rk_o (l3_2) rfl rfl) (rk_o (l3_3) rfl rfl) (rk_s) H (SF_upd (SF_upd (hS_3) rfl) rfl) (SA_upd (hA_3) rfl) ((y3_5_27 + 1)) (rfl) ((y3_5_40 + 1)) (rfl) (upd1 (w3_45) (y3_5_27) (v14)) (congrArg (fun q => upd1 q (y3_5_27) (v14)) (ew3_45)) (show inr ((x3_4 + 1)) from q_1566 j3_1 j3_3 r5 r7) (show (0) ≤ ((x3_4 + 1)) from q_14 j3_1) (show ((x3_4 + 1)) ≤ (0) ∨ ((x3_4 + 1)) ≤ ((a1)) from q_13 b8) (show ((y3_5_27 + 1)) = (u5_27) + ((x3_4 + 1)) ∧ ((y3_5_40 + 1)) = (u5_40) + ((x3_4 + 1)) from q_1565 j3_3) (show sc ((w26)) 0 ((u5_2)) ++ sc ((upd1 (w3_45) (y3_5_27) (v14))) ((u5_28)) (((y3_5_27 + 1))) = (sc ((w26)) 0 ((u5_2)) ++ sc ((w45)) ((u5_28)) ((u5_27))) ++ sc ((w46)) ((u5_40)) ((u5_40) + ((x3_4 + 1))) by assumption) (show FRM ((w45)) ((upd1 (w3_45) (y3_5_27) (v14))) ((u5_27)) 65536 by assumption) rfl

theorem M290 {σ0 σ : rS} {D N : Nat → Nat} {F : hF} {A : hA} {d c s : Nat} {Q : wQ} (H : HS σ0 σ D N F A)  (u5_2 : Int) (eu5_2 : F 5 2 = u5_2) (u5_27 : Int) (eu5_27 : F 5 27 = u5_27) (u5_28 : Int) (eu5_28 : F 5 28 = u5_28) (u5_39 : Int) (eu5_39 : F 5 39 = u5_39) (u5_40 : Int) (eu5_40 : F 5 40 = u5_40) (w26 : Int → Int) (ew26 : A 26 = w26) (w45 : Int → Int) (ew45 : A 45 = w45) (w46 : Int → Int) (ew46 : A 46 = w46) (h0 : (u5_40) ≤ (u5_39) ∧ (u5_27) + ((u5_39) - (u5_40)) ≤ 65536) (h1 : (u5_28) ≤ (u5_27)) (h2 : 0 ≤ (u5_40)) (k : ∀ σ Fₚ Aₚ, HS σ0 σ D N Fₚ Aₚ → SF [(5, 27), (5, 40)] F Fₚ → SA [45] A Aₚ → ∀ y5_27 : Int, Fₚ 5 27 = y5_27 → ∀ v45 : Int → Int, Aₚ 45 = v45 → ((y5_27) = (u5_27) + ((u5_39) - (u5_40))) → (sc ((w26)) 0 ((u5_2)) ++ sc ((v45)) ((u5_28)) ((y5_27)) = (sc ((w26)) 0 ((u5_2)) ++ sc ((w45)) ((u5_28)) ((u5_27))) ++ sc ((w46)) ((u5_40)) ((u5_39))) → (FRM ((w45)) ((v45)) ((u5_27)) 65536) → Q none σ c s) : Ew 290 (d + 0) 0 (rargs 0 [.ref (D 5)]) [] σ c s Q := by
  have r1 : (0 : Int) ≤ u5_2 ∧ u5_2 ≤ 65536 := rngE (show (0 : Int) ≤ F 5 2 ∧ F 5 2 ≤ 65536 from H.frng 5 2) (show F 5 2 = u5_2 from (eu5_2))
  have r2 : (0 : Int) ≤ u5_27 ∧ u5_27 ≤ 65536 := rngE (show (0 : Int) ≤ F 5 27 ∧ F 5 27 ≤ 65536 from H.frng 5 27) (show F 5 27 = u5_27 from (eu5_27))
  have r3 : (0 : Int) ≤ u5_28 ∧ u5_28 ≤ 65536 := rngE (show (0 : Int) ≤ F 5 28 ∧ F 5 28 ≤ 65536 from H.frng 5 28) (show F 5 28 = u5_28 from (eu5_28))
  have r4 : (0 : Int) ≤ u5_39 ∧ u5_39 ≤ 131072 := rngE (show (0 : Int) ≤ F 5 39 ∧ F 5 39 ≤ 131072 from H.frng 5 39) (show F 5 39 = u5_39 from (eu5_39))
  have r5 : (0 : Int) ≤ u5_40 ∧ u5_40 ≤ 131072 := rngE (show (0 : Int) ≤ F 5 40 ∧ F 5 40 ≤ 131072 from H.frng 5 40) (show F 5 40 = u5_40 from (eu5_40))
  have : sc ((w26)) 0 ((u5_2)) ++ sc ((w45)) ((u5_28)) ((u5_27)) = (sc ((w26)) 0 ((u5_2)) ++ sc ((w45)) ((u5_28)) ((u5_27))) ++ sc ((w46)) ((u5_40)) ((u5_40)) := by rw [sc_nil (f := (w46)) (Int.le_refl _), List.append_nil]
  have : FRM ((w45)) ((w45)) ((u5_27)) 65536 := FRM_refl
  suffices hl0 : ∀ (m : Nat), ∀ (ls : rO) (σ : rS) (F_0 : hF) (A_0 : hA) , rlook ls 0 = some (.ref (D 5)) → HS σ0 σ D N F_0 A_0 → SF [(5, 27), (5, 40)] F F_0 → SA [45] A A_0 → ∀ y0_5_27 : Int, F_0 5 27 = y0_5_27 → ∀ y0_5_40 : Int, F_0 5 40 = y0_5_40 → ∀ w0_45 : Int → Int, A_0 45 = w0_45 → ((y0_5_27) - (y0_5_40) = (u5_27) - (u5_40)) → ((y0_5_40) ≤ (u5_39)) → ((u5_40) ≤ (y0_5_40)) → (sc ((w26)) 0 ((u5_2)) ++ sc ((w0_45)) ((u5_28)) ((y0_5_27)) = (sc ((w26)) 0 ((u5_2)) ++ sc ((w45)) ((u5_28)) ((u5_27))) ++ sc ((w46)) ((u5_40)) ((y0_5_40))) → (FRM ((w45)) ((w0_45)) ((u5_27)) 65536) → ((u5_39) - (y0_5_40)).toNat = m → Ew 290 (d + 0) 0 ls [] σ c s Q from
    hl0 _ _ σ _ _  (rfl) H (SF_refl) (SA_refl) (u5_27) ((eu5_27)) (u5_40) ((eu5_40)) (w45) (ew45) (show (u5_27) - (u5_40) = (u5_27) - (u5_40) from q_1568) (show (u5_40) ≤ (u5_39) from q_1567 h0) (show (u5_40) ≤ (u5_40) from q_43) (show sc ((w26)) 0 ((u5_2)) ++ sc ((w45)) ((u5_28)) ((u5_27)) = (sc ((w26)) 0 ((u5_2)) ++ sc ((w45)) ((u5_28)) ((u5_27))) ++ sc ((w46)) ((u5_40)) ((u5_40)) by assumption) (show FRM ((w45)) ((w45)) ((u5_27)) 65536 by assumption) rfl
  as_aux_lemma =>
  intro m
  induction m using Nat.strongRecOn with
  | _ m ih0 =>
    intro ls σ F_0 A_0  l0_0 H hS_0 hA_0 y0_5_27 ey0_5_27 y0_5_40 ey0_5_40 w0_45 ew0_45 j0_0 j0_1 j0_2 j0_3 j0_4 hm0
    have r6 : (0 : Int) ≤ y0_5_27 ∧ y0_5_27 ≤ 65536 := rngE (show (0 : Int) ≤ F_0 5 27 ∧ F_0 5 27 ≤ 65536 from H.frng 5 27) (show F_0 5 27 = y0_5_27 from (ey0_5_27))
    have r7 : (0 : Int) ≤ y0_5_40 ∧ y0_5_40 ≤ 131072 := rngE (show (0 : Int) ≤ F_0 5 40 ∧ F_0 5 40 ≤ 131072 from H.frng 5 40) (show F_0 5 40 = y0_5_40 from (ey0_5_40))
    have j0_w : sc ((w26)) 0 ((u5_2)) ++ sc ((w0_45)) ((u5_28)) ((y0_5_27)) = (sc ((w26)) 0 ((u5_2)) ++ sc ((w45)) ((u5_28)) ((u5_27))) ++ sc ((w46)) ((u5_40)) ((y0_5_40)) := by assumption
    obtain ⟨qu, hqu⟩ : ∃ q : Int, q = (y0_5_40) := ⟨_, rfl⟩
    refine Ew_of (pcₚ := 1) (fun _ => x_aload_n rfl l0_0) ?_
    refine w_gI H (o := 5) (w := y0_5_40) rfl (H.perm 5 rfl) rfl rfl rfl (fun _ => rfl) (ey0_5_40) ?_
    refine Ew_of (pcₚ := 5) (fun _ => x_aload_n rfl l0_0) ?_
    refine w_gI H (o := 5) (w := u5_39) rfl (H.perm 5 rfl) rfl rfl rfl (fun _ => rfl) ((hS_0 5 39 rfl).trans (eu5_39)) ?_
    refine w_icmpge (t := 52) rfl rfl (show inr (y0_5_40) from q_1569 r7) (show inr (u5_39) from q_1569 r4) (fun b8 => ?_) (fun b8 => ?_)
    · have : sc ((w26)) 0 ((u5_2)) ++ sc ((w0_45)) ((u5_28)) ((y0_5_27)) = (sc ((w26)) 0 ((u5_2)) ++ sc ((w45)) ((u5_28)) ((u5_27))) ++ sc ((w46)) ((u5_40)) ((u5_39)) := by rw [show (u5_39) = (y0_5_40) by omega]; exact j0_w
      exact w_ret rfl (k σ _ _ H (SF_trans (SF_refl) hS_0 (any_sub rfl)) (SA_trans (SA_refl) hA_0 (any_subA rfl)) (y0_5_27) ((ey0_5_27)) (w0_45) (ew0_45) (show (y0_5_27) = (u5_27) + ((u5_39) - (u5_40)) from q_1570 b8 j0_0 j0_1) (show sc ((w26)) 0 ((u5_2)) ++ sc ((w0_45)) ((u5_28)) ((y0_5_27)) = (sc ((w26)) 0 ((u5_2)) ++ sc ((w45)) ((u5_28)) ((u5_27))) ++ sc ((w46)) ((u5_40)) ((u5_39)) by assumption) (j0_4))
    · refine Ew_of (pcₚ := 12) (fun _ => x_aload_n rfl l0_0) ?_
      refine w_gT H (o := 5) (t := 45) rfl (H.perm 5 rfl) rfl rfl rfl rfl rfl rfl ?_
      refine Ew_of (pcₚ := 16) (fun _ => x_aload_n rfl l0_0) ?_
      refine w_gI H (o := 5) (w := y0_5_27) rfl (H.perm 5 rfl) rfl rfl rfl (fun _ => rfl) (ey0_5_27) ?_
      refine Ew_of (pcₚ := 20) (fun _ => x_aload_n rfl l0_0) ?_
      refine w_gT H (o := 5) (t := 46) rfl (H.perm 5 rfl) rfl rfl rfl rfl rfl rfl ?_
      refine Ew_of (pcₚ := 24) (fun _ => x_aload_n rfl l0_0) ?_
      refine w_gI H (o := 5) (w := y0_5_40) rfl (H.perm 5 rfl) rfl rfl rfl (fun _ => rfl) (ey0_5_40) ?_
      refine w_lI H (o := 46) (n := 131072) rfl (H.perm 46 rfl) rfl rfl (H.fix 46 rfl rfl) (show 0 ≤ y0_5_40 ∧ y0_5_40 < ((131072 : Nat) : Int) from q_1571 b8 r4 r7) (by decide) (fun v9 ev9 qv9 => ?_)
      have qv9 : (0 : Int) ≤ v9 ∧ v9 ≤ 255 := qv9
      have ev9 : (w46) (y0_5_40) = v9 := (congrFun ((funext (hA_0 46 rfl)).trans (ew46)) (y0_5_40)).symm.trans ev9
      have hv := ev9
      rw [← hqu] at hv
      refine w_sI H (o := 45) (n := 65536) rfl (H.perm 45 rfl) rfl rfl (H.fix 45 rfl rfl) (show 0 ≤ y0_5_27 ∧ y0_5_27 < ((65536 : Nat) : Int) from q_1572 b8 h0 j0_0 r6) (by decide) (show (0 : Int) ≤ v9 ∧ v9 ≤ 255 from qv9) (fun σ H => ?_)
      refine Ew_of (pcₚ := 30) (fun _ => x_aload_n rfl l0_0) ?_
      refine Ew_of (pcₚ := 31) (fun _ => x_dup rfl rfl) ?_
      refine w_gI H (o := 5) (w := y0_5_27) rfl (H.perm 5 rfl) rfl rfl rfl (fun _ => rfl) (ey0_5_27) ?_
      refine Ew_of (pcₚ := 35) (fun _ => x_iconst rfl) ?_
      refine w_iadd rfl ?_
      refine w_pI H (o := 5) rfl rfl (H.perm 5 rfl) rfl rfl rfl (fun _ => rfl) rfl (show (0 : Int) ≤ (y0_5_27 + 1) ∧ (y0_5_27 + 1) ≤ 65536 from q_1573 b8 h0 j0_0 r6) (fun σ H => ?_)
      refine Ew_of (pcₚ := 40) (fun _ => x_aload_n rfl l0_0) ?_
      refine Ew_of (pcₚ := 41) (fun _ => x_dup rfl rfl) ?_
      refine w_gI H (o := 5) (w := y0_5_40) rfl (H.perm 5 rfl) rfl rfl rfl (fun _ => rfl) (ey0_5_40) ?_
      refine Ew_of (pcₚ := 45) (fun _ => x_iconst rfl) ?_
      refine w_iadd rfl ?_
      refine w_pI H (o := 5) rfl rfl (H.perm 5 rfl) rfl rfl rfl (fun _ => rfl) rfl (show (0 : Int) ≤ (y0_5_40 + 1) ∧ (y0_5_40 + 1) ≤ 131072 from q_1574 b8 r4 r7) (fun σ H => ?_)
      refine Ew_of (pcₚ := 0) (fun _ => x_goto rfl rfl) ?_
      have : FRM ((w45)) ((upd1 (w0_45) (y0_5_27) (v9))) ((u5_27)) 65536 := FRM_upd (by assumption) (by omega) (by omega)
      have : sc ((w26)) 0 ((u5_2)) ++ sc ((upd1 (w0_45) (y0_5_27) (v9))) ((u5_28)) (((y0_5_27 + 1))) = (sc ((w26)) 0 ((u5_2)) ++ sc ((w45)) ((u5_28)) ((u5_27))) ++ sc ((w46)) ((u5_40)) (((y0_5_40 + 1))) := WD_s (k := qu - (u5_40)) (by rw [show (u5_40) + (qu - (u5_40)) = qu by omega, hqu]; exact j0_w) (by omega) (by omega) (by rw [show (u5_40) + (qu - (u5_40)) = qu by omega]; exact hv) (by omega) (by omega)
      exact ih0 _ (msE hm0 q_16 (q_17 b8)) _ σ _ _  (l0_0) H (SF_upd (SF_upd (hS_0) rfl) rfl) (SA_upd (hA_0) rfl) ((y0_5_27 + 1)) (rfl) ((y0_5_40 + 1)) (rfl) (upd1 (w0_45) (y0_5_27) (v9)) (congrArg (fun q => upd1 q (y0_5_27) (v9)) (ew0_45)) (show ((y0_5_27 + 1)) - ((y0_5_40 + 1)) = (u5_27) - (u5_40) from q_1576 j0_0) (show ((y0_5_40 + 1)) ≤ (u5_39) from q_1575 b8) (show (u5_40) ≤ ((y0_5_40 + 1)) from q_161 j0_2) (show sc ((w26)) 0 ((u5_2)) ++ sc ((upd1 (w0_45) (y0_5_27) (v9))) ((u5_28)) (((y0_5_27 + 1))) = (sc ((w26)) 0 ((u5_2)) ++ sc ((w45)) ((u5_28)) ((u5_27))) ++ sc ((w46)) ((u5_40)) (((y0_5_40 + 1))) by assumption) (show FRM ((w45)) ((upd1 (w0_45) (y0_5_27) (v9))) ((u5_27)) 65536 by assumption) rfl

theorem M299 {σ0 σ : rS} {D N : Nat → Nat} {F : hF} {A : hA} {d c s : Nat} {Q : wQ} (H : HS σ0 σ D N F A) {a1 a2 : Int} (w38 : Int → Int) (ew38 : A 38 = w38) (h0 : inrJ (a1)) (h1 : inr (a2)) (h2 : 1 ≤ (a1) ∧ (a1) ≤ 10000000000) (h3 : 0 ≤ (a2)) (h4 : 1 ≤ ((w38)) 0 ∧ 1 ≤ ((w38)) 1 ∧ 1 ≤ ((w38)) 2) (k : ∀ (z : Int) σ Fₚ Aₚ, HS σ0 σ D N Fₚ Aₚ → SF [] F Fₚ → SA [38] A Aₚ → ∀ v38 : Int → Int, Aₚ 38 = v38 → (inrJ (z)) → (0 ≤ (z)) → ((z) = 0 ∨ 1 ≤ ((v38)) 0 ∧ 1 ≤ ((v38)) 1 ∧ 1 ≤ ((v38)) 2) → (dsF ((a1)) ((a2)) (((w38)) 0) (((w38)) 1) (((w38)) 2) = ((z), ((v38)) 0, ((v38)) 1, ((v38)) 2)) → Q (some (J z)) σ c s) : Ew 299 (d + 0) 0 (rargs 0 [.ref (D 5), J a1, I a2]) [] σ c s Q := by
  refine Ew_of (pcₚ := 1) (fun _ => x_iload_n rfl rfl) ?_
  refine w_ifne (t := 10) rfl rfl (show inr (a2) from h1) (fun b1 => ?_) (fun b1 => ?_)
  · refine Ew_of (pcₚ := 11) (fun _ => x_lload_n rfl rfl) ?_
    refine Ew_of (pcₚ := 13) (fun _ => x_lstore rfl) ?_
    obtain ⟨qw, hqw⟩ : ∃ q : Int, q = (a1) := ⟨_, rfl⟩
    refine Ew_of (pcₚ := 14) (fun _ => x_lload_n rfl (rk2_o (rfl) rfl rfl)) ?_
    refine Ew_of (pcₚ := 17) (fun _ => x_ldc2 (z := 3) rfl (by decide)) ?_
    refine w_lcmp rfl (show inrJ (a1) from h0) (show inrJ (3) from q_1577) (fun z2 gz2 gaz2 gbz2 => ?_)
    have hc35 : ∀ (ls : rO) (σ : rS) (F_c35 : hF) (A_c35 : hA) , rlook ls 0 = some (.ref (D 5)) → rlook ls 1 = some (J (a1)) → rlook ls 4 = some (J (a1)) → HS σ0 σ D N F_c35 A_c35 → SF [] F F_c35 → SA [] A A_c35 → (((z2) > (0)) ∨ ((z2) ≤ (0) ∧ (a1) ≠ (1))) → Ew 299 (d + 0) 35 ls [] σ c s Q := by
     as_aux_lemma =>
      intro  ls σ F_c35 A_c35  lc35_0 lc35_1 lc35_4 H hS_c35 hA_c35   jc35_0
      refine Ew_of (pcₚ := 36) (fun _ => x_lload_n rfl lc35_1) ?_
      refine Ew_of (pcₚ := 39) (fun _ => x_ldc2 (z := 3) rfl (by decide)) ?_
      refine w_lcmp rfl (show inrJ (a1) from h0) (show inrJ (3) from q_1577) (fun z3 gz3 gaz3 gbz3 => ?_)
      refine w_ifle (t := 51) rfl rfl (show inr (z3) from gz3) (fun b4 => ?_) (fun b4 => ?_)
      · refine Ew_of (pcₚ := 53) (fun _ => x_lload rfl lc35_4) ?_
        refine Ew_of (pcₚ := 56) (fun _ => x_ldc2 (z := 2) rfl (by decide)) ?_
        refine w_lcmp rfl (show inrJ (a1) from h0) (show inrJ (2) from q_1578) (fun z5 gz5 gaz5 gbz5 => ?_)
        refine w_ifne (t := 69) rfl rfl (show inr (z5) from gz5) (fun b6 => ?_) (fun b6 => ?_)
        · refine Ew_of (pcₚ := 71) (fun _ => x_lload rfl lc35_4) ?_
          refine Ew_of (pcₚ := 74) (fun _ => x_ldc2 (z := 3) rfl (by decide)) ?_
          refine w_lcmp rfl (show inrJ (a1) from h0) (show inrJ (3) from q_1577) (fun z7 gz7 gaz7 gbz7 => ?_)
          refine w_ifne (t := 87) rfl rfl (show inr (z7) from gz7) (fun b8 => ?_) (fun b8 => ?_)
          · refine Ew_of (pcₚ := 88) (fun _ => x_aload_n rfl lc35_0) ?_
            refine w_gT H (o := 5) (t := 38) rfl (H.perm 5 rfl) rfl rfl rfl rfl rfl rfl ?_
            refine Ew_of (pcₚ := 92) (fun _ => x_iconst rfl) ?_
            refine w_lJ H (o := 38) (n := 3) rfl (H.perm 38 rfl) rfl rfl (H.fix 38 rfl rfl) (show 0 ≤ 0 ∧ 0 < ((3 : Nat) : Int) from q_1579) (by decide) (fun v9 ev9 qv9 => ?_)
            have qv9 : (-9223372036854775808 : Int) ≤ v9 ∧ v9 ≤ 9223372036854775807 := qv9
            have ev9 : (w38) (0) = v9 := (congrFun ((funext (hA_c35 38 rfl)).trans (ew38)) (0)).symm.trans ev9
            have hqc := ev9
            refine Ew_of (pcₚ := 94) (fun _ => x_lconst (z := 1) rfl (by decide)) ?_
            refine w_lsub rfl ?_
            refine Ew_of (pcₚ := 97) (fun _ => x_lstore rfl) ?_
            refine Ew_of (pcₚ := 98) (fun _ => x_lload_n rfl (rk2_o (lc35_1) rfl rfl)) ?_
            refine Ew_of (pcₚ := 101) (fun _ => x_ldc2 (z := 3) rfl (by decide)) ?_
            refine w_lcmp rfl (show inrJ (a1) from h0) (show inrJ (3) from q_1577) (fun z10 gz10 gaz10 gbz10 => ?_)
            have hc114 : ∀ (ls : rO) (σ : rS) (F_c114 : hF) (A_c114 : hA) , rlook ls 0 = some (.ref (D 5)) → rlook ls 6 = some (J ((v9 - 1))) → HS σ0 σ D N F_c114 A_c114 → SF [] F_c35 F_c114 → SA [] A_c35 A_c114 → (((z10) > (0)) ∨ ((z10) ≤ (0) ∧ (a1) > (2))) → Ew 299 (d + 0) 114 ls [] σ c s Q := by
             as_aux_lemma =>
              intro  ls σ F_c114 A_c114  lc114_0 lc114_6 H hS_c114 hA_c114   jc114_0
              refine Ew_of (pcₚ := 115) (fun _ => x_aload_n rfl lc114_0) ?_
              refine w_gT H (o := 5) (t := 38) rfl (H.perm 5 rfl) rfl rfl rfl rfl rfl rfl ?_
              refine Ew_of (pcₚ := 119) (fun _ => x_iconst rfl) ?_
              refine Ew_of (pcₚ := 120) (fun _ => x_aload_n rfl lc114_0) ?_
              refine w_gT H (o := 5) (t := 38) rfl (H.perm 5 rfl) rfl rfl rfl rfl rfl rfl ?_
              refine Ew_of (pcₚ := 124) (fun _ => x_iconst rfl) ?_
              refine w_lJ H (o := 38) (n := 3) rfl (H.perm 38 rfl) rfl rfl (H.fix 38 rfl rfl) (show 0 ≤ 1 ∧ 1 < ((3 : Nat) : Int) from q_1580) (by decide) (fun v11 ev11 qv11 => ?_)
              have qv11 : (-9223372036854775808 : Int) ≤ v11 ∧ v11 ≤ 9223372036854775807 := qv11
              have ev11 : (w38) (1) = v11 := (congrFun ((funext (hA_c114 38 rfl)).trans ((funext (hA_c35 38 rfl)).trans (ew38))) (1)).symm.trans ev11
              have hq1_ := ev11
              refine w_sJ H (o := 38) (n := 3) rfl (H.perm 38 rfl) rfl rfl (H.fix 38 rfl rfl) (show 0 ≤ 2 ∧ 2 < ((3 : Nat) : Int) from q_1581) (by decide) (show (-9223372036854775808 : Int) ≤ v11 ∧ v11 ≤ 9223372036854775807 from qv11) (fun σ H => ?_)
              refine Ew_of (pcₚ := 127) (fun _ => x_aload_n rfl lc114_0) ?_
              refine w_gT H (o := 5) (t := 38) rfl (H.perm 5 rfl) rfl rfl rfl rfl rfl rfl ?_
              refine Ew_of (pcₚ := 131) (fun _ => x_iconst rfl) ?_
              refine Ew_of (pcₚ := 132) (fun _ => x_aload_n rfl lc114_0) ?_
              refine w_gT H (o := 5) (t := 38) rfl (H.perm 5 rfl) rfl rfl rfl rfl rfl rfl ?_
              refine Ew_of (pcₚ := 136) (fun _ => x_iconst rfl) ?_
              refine w_lJ H (o := 38) (n := 3) rfl (H.perm 38 rfl) rfl rfl (H.fix 38 rfl rfl) (show 0 ≤ 0 ∧ 0 < ((3 : Nat) : Int) from q_1579) (by decide) (fun v12 ev12 qv12 => ?_)
              have qv12 : (-9223372036854775808 : Int) ≤ v12 ∧ v12 ≤ 9223372036854775807 := qv12
              have ev12 : (upd1 (w38) (2) (v11)) (0) = v12 := (congrFun (congrArg (fun q => upd1 q (2) (v11)) ((funext (hA_c114 38 rfl)).trans ((funext (hA_c35 38 rfl)).trans (ew38)))) (0)).symm.trans ev12
              have hq2_ : ((w38)) 0 = (v12) := by first | exact ev12 | (have h := ev12; rw [upd1_o (by decide)] at h; exact h)
              refine w_sJ H (o := 38) (n := 3) rfl (H.perm 38 rfl) rfl rfl (H.fix 38 rfl rfl) (show 0 ≤ 1 ∧ 1 < ((3 : Nat) : Int) from q_1580) (by decide) (show (-9223372036854775808 : Int) ≤ v12 ∧ v12 ≤ 9223372036854775807 from qv12) (fun σ H => ?_)
              refine Ew_of (pcₚ := 139) (fun _ => x_aload_n rfl lc114_0) ?_
              refine w_gT H (o := 5) (t := 38) rfl (H.perm 5 rfl) rfl rfl rfl rfl rfl rfl ?_
              refine Ew_of (pcₚ := 143) (fun _ => x_iconst rfl) ?_
              refine Ew_of (pcₚ := 145) (fun _ => x_lload rfl lc114_6) ?_
              refine w_sJ H (o := 38) (n := 3) rfl (H.perm 38 rfl) rfl rfl (H.fix 38 rfl rfl) (show 0 ≤ 0 ∧ 0 < ((3 : Nat) : Int) from q_1579) (by decide) (show (-9223372036854775808 : Int) ≤ (v9 - 1) ∧ (v9 - 1) ≤ 9223372036854775807 by omega) (fun σ H => ?_)
              refine Ew_of (pcₚ := 148) (fun _ => x_lload rfl lc114_6) ?_
              have : dsF ((a1)) ((a2)) (((w38)) 0) (((w38)) 1) (((w38)) 2) = (((v9 - 1)), ((upd1 (upd1 (upd1 (w38) (2) (v11)) (1) (v12)) (0) ((v9 - 1)))) 0, ((upd1 (upd1 (upd1 (w38) (2) (v11)) (1) (v12)) (0) ((v9 - 1)))) 1, ((upd1 (upd1 (upd1 (w38) (2) (v11)) (1) (v12)) (0) ((v9 - 1)))) 2) := by first | exact dsF_A (q := qw) (by omega) hq1_ hq2_ (by omega) | exact dsF_B (q := qw) (by omega) hq2_ (by omega) (by omega) (by omega)
              have : (((v9 - 1)) : Int) = 0 ∨ 1 ≤ ((upd1 (upd1 (upd1 (w38) (2) (v11)) (1) (v12)) (0) ((v9 - 1)))) 0 ∧ 1 ≤ ((upd1 (upd1 (upd1 (w38) (2) (v11)) (1) (v12)) (0) ((v9 - 1)))) 1 ∧ 1 ≤ ((upd1 (upd1 (upd1 (w38) (2) (v11)) (1) (v12)) (0) ((v9 - 1)))) 2 := by first | exact lt_A hq1_ hq2_ (by omega) (by omega) | exact lt_B hq2_ (by omega) (by omega)
              exact w_lreturn rfl (k ((v9 - 1)) σ _ _ H (SF_trans (SF_trans (SF_refl) hS_c35 (any_sub rfl)) hS_c114 (any_sub rfl)) (SA_upd (SA_upd (SA_upd (SA_trans (SA_trans (SA_refl) hA_c35 (any_subA rfl)) hA_c114 (any_subA rfl)) rfl) rfl) rfl) (upd1 (upd1 (upd1 (w38) (2) (v11)) (1) (v12)) (0) ((v9 - 1))) (congrArg (fun q => upd1 q (0) ((v9 - 1))) (congrArg (fun q => upd1 q (1) (v12)) (congrArg (fun q => upd1 q (2) (v11)) ((funext (hA_c114 38 rfl)).trans ((funext (hA_c35 38 rfl)).trans (ew38)))))) (show inrJ ((v9 - 1)) by omega) (show 0 ≤ ((v9 - 1)) from q_1582 ev9 h4) (show ((v9 - 1)) = 0 ∨ 1 ≤ ((upd1 (upd1 (upd1 (w38) (2) (v11)) (1) (v12)) (0) ((v9 - 1)))) 0 ∧ 1 ≤ ((upd1 (upd1 (upd1 (w38) (2) (v11)) (1) (v12)) (0) ((v9 - 1)))) 1 ∧ 1 ≤ ((upd1 (upd1 (upd1 (w38) (2) (v11)) (1) (v12)) (0) ((v9 - 1)))) 2 by assumption) (show dsF (a1) (a2) (((w38)) 0) (((w38)) 1) (((w38)) 2) = (((v9 - 1)), ((upd1 (upd1 (upd1 (w38) (2) (v11)) (1) (v12)) (0) ((v9 - 1)))) 0, ((upd1 (upd1 (upd1 (w38) (2) (v11)) (1) (v12)) (0) ((v9 - 1)))) 1, ((upd1 (upd1 (upd1 (w38) (2) (v11)) (1) (v12)) (0) ((v9 - 1)))) 2) by assumption))
            refine w_ifgt (t := 114) rfl rfl (show inr (z10) from gz10) (fun b13 => ?_) (fun b13 => ?_)
            · exact hc114  _ σ _ _  (rk2_o (lc35_0) rfl rfl) (rk2_s) H (SF_refl) (SA_refl)   (show ((z10) > (0)) ∨ ((z10) ≤ (0) ∧ (a1) > (2)) from q_1583 b13)
            · refine Ew_of (pcₚ := 107) (fun _ => x_lload rfl (rk2_o (lc35_4) rfl rfl)) ?_
              refine Ew_of (pcₚ := 110) (fun _ => x_ldc2 (z := 2) rfl (by decide)) ?_
              refine w_lcmp rfl (show inrJ (a1) from h0) (show inrJ (2) from q_1578) (fun z14 gz14 gaz14 gbz14 => ?_)
              refine w_ifle (t := 126) rfl rfl (show inr (z14) from gz14) (fun b15 => ?_) (fun b15 => ?_)
              · refine Ew_of (pcₚ := 127) (fun _ => x_aload_n rfl (rk2_o (lc35_0) rfl rfl)) ?_
                refine w_gT H (o := 5) (t := 38) rfl (H.perm 5 rfl) rfl rfl rfl rfl rfl rfl ?_
                refine Ew_of (pcₚ := 131) (fun _ => x_iconst rfl) ?_
                refine Ew_of (pcₚ := 132) (fun _ => x_aload_n rfl (rk2_o (lc35_0) rfl rfl)) ?_
                refine w_gT H (o := 5) (t := 38) rfl (H.perm 5 rfl) rfl rfl rfl rfl rfl rfl ?_
                refine Ew_of (pcₚ := 136) (fun _ => x_iconst rfl) ?_
                refine w_lJ H (o := 38) (n := 3) rfl (H.perm 38 rfl) rfl rfl (H.fix 38 rfl rfl) (show 0 ≤ 0 ∧ 0 < ((3 : Nat) : Int) from q_1579) (by decide) (fun v16 ev16 qv16 => ?_)
                have qv16 : (-9223372036854775808 : Int) ≤ v16 ∧ v16 ≤ 9223372036854775807 := qv16
                have ev16 : (w38) (0) = v16 := (congrFun ((funext (hA_c35 38 rfl)).trans (ew38)) (0)).symm.trans ev16
                have hq2_ : ((w38)) 0 = (v16) := by first | exact ev16 | (have h := ev16; rw [upd1_o (by decide)] at h; exact h)
                refine w_sJ H (o := 38) (n := 3) rfl (H.perm 38 rfl) rfl rfl (H.fix 38 rfl rfl) (show 0 ≤ 1 ∧ 1 < ((3 : Nat) : Int) from q_1580) (by decide) (show (-9223372036854775808 : Int) ≤ v16 ∧ v16 ≤ 9223372036854775807 from qv16) (fun σ H => ?_)
                refine Ew_of (pcₚ := 139) (fun _ => x_aload_n rfl (rk2_o (lc35_0) rfl rfl)) ?_
                refine w_gT H (o := 5) (t := 38) rfl (H.perm 5 rfl) rfl rfl rfl rfl rfl rfl ?_
                refine Ew_of (pcₚ := 143) (fun _ => x_iconst rfl) ?_
                refine Ew_of (pcₚ := 145) (fun _ => x_lload rfl rk2_s) ?_
                refine w_sJ H (o := 38) (n := 3) rfl (H.perm 38 rfl) rfl rfl (H.fix 38 rfl rfl) (show 0 ≤ 0 ∧ 0 < ((3 : Nat) : Int) from q_1579) (by decide) (show (-9223372036854775808 : Int) ≤ (v9 - 1) ∧ (v9 - 1) ≤ 9223372036854775807 by omega) (fun σ H => ?_)
                refine Ew_of (pcₚ := 148) (fun _ => x_lload rfl rk2_s) ?_
                have : dsF ((a1)) ((a2)) (((w38)) 0) (((w38)) 1) (((w38)) 2) = (((v9 - 1)), ((upd1 (upd1 (w38) (1) (v16)) (0) ((v9 - 1)))) 0, ((upd1 (upd1 (w38) (1) (v16)) (0) ((v9 - 1)))) 1, ((upd1 (upd1 (w38) (1) (v16)) (0) ((v9 - 1)))) 2) := by first | exact dsF_A (q := qw) (by omega) hq1_ hq2_ (by omega) | exact dsF_B (q := qw) (by omega) hq2_ (by omega) (by omega) (by omega)
                have : (((v9 - 1)) : Int) = 0 ∨ 1 ≤ ((upd1 (upd1 (w38) (1) (v16)) (0) ((v9 - 1)))) 0 ∧ 1 ≤ ((upd1 (upd1 (w38) (1) (v16)) (0) ((v9 - 1)))) 1 ∧ 1 ≤ ((upd1 (upd1 (w38) (1) (v16)) (0) ((v9 - 1)))) 2 := by first | exact lt_A hq1_ hq2_ (by omega) (by omega) | exact lt_B hq2_ (by omega) (by omega)
                exact w_lreturn rfl (k ((v9 - 1)) σ _ _ H (SF_trans (SF_refl) hS_c35 (any_sub rfl)) (SA_upd (SA_upd (SA_trans (SA_refl) hA_c35 (any_subA rfl)) rfl) rfl) (upd1 (upd1 (w38) (1) (v16)) (0) ((v9 - 1))) (congrArg (fun q => upd1 q (0) ((v9 - 1))) (congrArg (fun q => upd1 q (1) (v16)) ((funext (hA_c35 38 rfl)).trans (ew38)))) (show inrJ ((v9 - 1)) by omega) (show 0 ≤ ((v9 - 1)) from q_1582 ev9 h4) (show ((v9 - 1)) = 0 ∨ 1 ≤ ((upd1 (upd1 (w38) (1) (v16)) (0) ((v9 - 1)))) 0 ∧ 1 ≤ ((upd1 (upd1 (w38) (1) (v16)) (0) ((v9 - 1)))) 1 ∧ 1 ≤ ((upd1 (upd1 (w38) (1) (v16)) (0) ((v9 - 1)))) 2 by assumption) (show dsF (a1) (a2) (((w38)) 0) (((w38)) 1) (((w38)) 2) = (((v9 - 1)), ((upd1 (upd1 (w38) (1) (v16)) (0) ((v9 - 1)))) 0, ((upd1 (upd1 (w38) (1) (v16)) (0) ((v9 - 1)))) 1, ((upd1 (upd1 (w38) (1) (v16)) (0) ((v9 - 1)))) 2) by assumption))
              · exact hc114  _ σ _ _  (rk2_o (lc35_0) rfl rfl) (rk2_s) H (SF_refl) (SA_refl)   (show ((z10) > (0)) ∨ ((z10) ≤ (0) ∧ (a1) > (2)) by omega)
          · refine Ew_of (pcₚ := 79) (fun _ => x_aload_n rfl lc35_0) ?_
            refine w_gT H (o := 5) (t := 38) rfl (H.perm 5 rfl) rfl rfl rfl rfl rfl rfl ?_
            refine Ew_of (pcₚ := 83) (fun _ => x_iconst rfl) ?_
            refine w_lJ H (o := 38) (n := 3) rfl (H.perm 38 rfl) rfl rfl (H.fix 38 rfl rfl) (show 0 ≤ 2 ∧ 2 < ((3 : Nat) : Int) from q_1581) (by decide) (fun v17 ev17 qv17 => ?_)
            have qv17 : (-9223372036854775808 : Int) ≤ v17 ∧ v17 ≤ 9223372036854775807 := qv17
            have ev17 : (w38) (2) = v17 := (congrFun ((funext (hA_c35 38 rfl)).trans (ew38)) (2)).symm.trans ev17
            have hqb := ev17
            refine Ew_of (pcₚ := 95) (fun _ => x_goto rfl rfl) ?_
            refine Ew_of (pcₚ := 97) (fun _ => x_lstore rfl) ?_
            refine Ew_of (pcₚ := 98) (fun _ => x_lload_n rfl (rk2_o (lc35_1) rfl rfl)) ?_
            refine Ew_of (pcₚ := 101) (fun _ => x_ldc2 (z := 3) rfl (by decide)) ?_
            refine w_lcmp rfl (show inrJ (a1) from h0) (show inrJ (3) from q_1577) (fun z18 gz18 gaz18 gbz18 => ?_)
            have hc114 : ∀ (ls : rO) (σ : rS) (F_c114 : hF) (A_c114 : hA) , rlook ls 0 = some (.ref (D 5)) → rlook ls 6 = some (J (v17)) → HS σ0 σ D N F_c114 A_c114 → SF [] F_c35 F_c114 → SA [] A_c35 A_c114 → (((z18) > (0)) ∨ ((z18) ≤ (0) ∧ (a1) > (2))) → Ew 299 (d + 0) 114 ls [] σ c s Q := by
             as_aux_lemma =>
              intro  ls σ F_c114 A_c114  lc114_0 lc114_6 H hS_c114 hA_c114   jc114_0
              refine Ew_of (pcₚ := 115) (fun _ => x_aload_n rfl lc114_0) ?_
              refine w_gT H (o := 5) (t := 38) rfl (H.perm 5 rfl) rfl rfl rfl rfl rfl rfl ?_
              refine Ew_of (pcₚ := 119) (fun _ => x_iconst rfl) ?_
              refine Ew_of (pcₚ := 120) (fun _ => x_aload_n rfl lc114_0) ?_
              refine w_gT H (o := 5) (t := 38) rfl (H.perm 5 rfl) rfl rfl rfl rfl rfl rfl ?_
              refine Ew_of (pcₚ := 124) (fun _ => x_iconst rfl) ?_
              refine w_lJ H (o := 38) (n := 3) rfl (H.perm 38 rfl) rfl rfl (H.fix 38 rfl rfl) (show 0 ≤ 1 ∧ 1 < ((3 : Nat) : Int) from q_1580) (by decide) (fun v19 ev19 qv19 => ?_)
              have qv19 : (-9223372036854775808 : Int) ≤ v19 ∧ v19 ≤ 9223372036854775807 := qv19
              have ev19 : (w38) (1) = v19 := (congrFun ((funext (hA_c114 38 rfl)).trans ((funext (hA_c35 38 rfl)).trans (ew38))) (1)).symm.trans ev19
              have hq1_ := ev19
              refine w_sJ H (o := 38) (n := 3) rfl (H.perm 38 rfl) rfl rfl (H.fix 38 rfl rfl) (show 0 ≤ 2 ∧ 2 < ((3 : Nat) : Int) from q_1581) (by decide) (show (-9223372036854775808 : Int) ≤ v19 ∧ v19 ≤ 9223372036854775807 from qv19) (fun σ H => ?_)
              refine Ew_of (pcₚ := 127) (fun _ => x_aload_n rfl lc114_0) ?_
              refine w_gT H (o := 5) (t := 38) rfl (H.perm 5 rfl) rfl rfl rfl rfl rfl rfl ?_
              refine Ew_of (pcₚ := 131) (fun _ => x_iconst rfl) ?_
              refine Ew_of (pcₚ := 132) (fun _ => x_aload_n rfl lc114_0) ?_
              refine w_gT H (o := 5) (t := 38) rfl (H.perm 5 rfl) rfl rfl rfl rfl rfl rfl ?_
              refine Ew_of (pcₚ := 136) (fun _ => x_iconst rfl) ?_
              refine w_lJ H (o := 38) (n := 3) rfl (H.perm 38 rfl) rfl rfl (H.fix 38 rfl rfl) (show 0 ≤ 0 ∧ 0 < ((3 : Nat) : Int) from q_1579) (by decide) (fun v20 ev20 qv20 => ?_)
              have qv20 : (-9223372036854775808 : Int) ≤ v20 ∧ v20 ≤ 9223372036854775807 := qv20
              have ev20 : (upd1 (w38) (2) (v19)) (0) = v20 := (congrFun (congrArg (fun q => upd1 q (2) (v19)) ((funext (hA_c114 38 rfl)).trans ((funext (hA_c35 38 rfl)).trans (ew38)))) (0)).symm.trans ev20
              have hq2_ : ((w38)) 0 = (v20) := by first | exact ev20 | (have h := ev20; rw [upd1_o (by decide)] at h; exact h)
              refine w_sJ H (o := 38) (n := 3) rfl (H.perm 38 rfl) rfl rfl (H.fix 38 rfl rfl) (show 0 ≤ 1 ∧ 1 < ((3 : Nat) : Int) from q_1580) (by decide) (show (-9223372036854775808 : Int) ≤ v20 ∧ v20 ≤ 9223372036854775807 from qv20) (fun σ H => ?_)
              refine Ew_of (pcₚ := 139) (fun _ => x_aload_n rfl lc114_0) ?_
              refine w_gT H (o := 5) (t := 38) rfl (H.perm 5 rfl) rfl rfl rfl rfl rfl rfl ?_
              refine Ew_of (pcₚ := 143) (fun _ => x_iconst rfl) ?_
              refine Ew_of (pcₚ := 145) (fun _ => x_lload rfl lc114_6) ?_
              refine w_sJ H (o := 38) (n := 3) rfl (H.perm 38 rfl) rfl rfl (H.fix 38 rfl rfl) (show 0 ≤ 0 ∧ 0 < ((3 : Nat) : Int) from q_1579) (by decide) (show (-9223372036854775808 : Int) ≤ v17 ∧ v17 ≤ 9223372036854775807 from qv17) (fun σ H => ?_)
              refine Ew_of (pcₚ := 148) (fun _ => x_lload rfl lc114_6) ?_
              have : dsF ((a1)) ((a2)) (((w38)) 0) (((w38)) 1) (((w38)) 2) = ((v17), ((upd1 (upd1 (upd1 (w38) (2) (v19)) (1) (v20)) (0) (v17))) 0, ((upd1 (upd1 (upd1 (w38) (2) (v19)) (1) (v20)) (0) (v17))) 1, ((upd1 (upd1 (upd1 (w38) (2) (v19)) (1) (v20)) (0) (v17))) 2) := by first | exact dsF_A (q := qw) (by omega) hq1_ hq2_ (by omega) | exact dsF_B (q := qw) (by omega) hq2_ (by omega) (by omega) (by omega)
              have : ((v17) : Int) = 0 ∨ 1 ≤ ((upd1 (upd1 (upd1 (w38) (2) (v19)) (1) (v20)) (0) (v17))) 0 ∧ 1 ≤ ((upd1 (upd1 (upd1 (w38) (2) (v19)) (1) (v20)) (0) (v17))) 1 ∧ 1 ≤ ((upd1 (upd1 (upd1 (w38) (2) (v19)) (1) (v20)) (0) (v17))) 2 := by first | exact lt_A hq1_ hq2_ (by omega) (by omega) | exact lt_B hq2_ (by omega) (by omega)
              exact w_lreturn rfl (k (v17) σ _ _ H (SF_trans (SF_trans (SF_refl) hS_c35 (any_sub rfl)) hS_c114 (any_sub rfl)) (SA_upd (SA_upd (SA_upd (SA_trans (SA_trans (SA_refl) hA_c35 (any_subA rfl)) hA_c114 (any_subA rfl)) rfl) rfl) rfl) (upd1 (upd1 (upd1 (w38) (2) (v19)) (1) (v20)) (0) (v17)) (congrArg (fun q => upd1 q (0) (v17)) (congrArg (fun q => upd1 q (1) (v20)) (congrArg (fun q => upd1 q (2) (v19)) ((funext (hA_c114 38 rfl)).trans ((funext (hA_c35 38 rfl)).trans (ew38)))))) (show inrJ (v17) by omega) (show 0 ≤ (v17) from q_1584 ev17 h4) (show (v17) = 0 ∨ 1 ≤ ((upd1 (upd1 (upd1 (w38) (2) (v19)) (1) (v20)) (0) (v17))) 0 ∧ 1 ≤ ((upd1 (upd1 (upd1 (w38) (2) (v19)) (1) (v20)) (0) (v17))) 1 ∧ 1 ≤ ((upd1 (upd1 (upd1 (w38) (2) (v19)) (1) (v20)) (0) (v17))) 2 by assumption) (show dsF (a1) (a2) (((w38)) 0) (((w38)) 1) (((w38)) 2) = ((v17), ((upd1 (upd1 (upd1 (w38) (2) (v19)) (1) (v20)) (0) (v17))) 0, ((upd1 (upd1 (upd1 (w38) (2) (v19)) (1) (v20)) (0) (v17))) 1, ((upd1 (upd1 (upd1 (w38) (2) (v19)) (1) (v20)) (0) (v17))) 2) by assumption))
            refine w_ifgt (t := 114) rfl rfl (show inr (z18) from gz18) (fun b21 => ?_) (fun b21 => ?_)
            · exact hc114  _ σ _ _  (rk2_o (lc35_0) rfl rfl) (rk2_s) H (SF_refl) (SA_refl)   (show ((z18) > (0)) ∨ ((z18) ≤ (0) ∧ (a1) > (2)) from q_1583 b21)
            · refine Ew_of (pcₚ := 107) (fun _ => x_lload rfl (rk2_o (lc35_4) rfl rfl)) ?_
              refine Ew_of (pcₚ := 110) (fun _ => x_ldc2 (z := 2) rfl (by decide)) ?_
              refine w_lcmp rfl (show inrJ (a1) from h0) (show inrJ (2) from q_1578) (fun z22 gz22 gaz22 gbz22 => ?_)
              refine w_ifle (t := 126) rfl rfl (show inr (z22) from gz22) (fun b23 => ?_) (fun b23 => ?_)
              · refine Ew_of (pcₚ := 127) (fun _ => x_aload_n rfl (rk2_o (lc35_0) rfl rfl)) ?_
                refine w_gT H (o := 5) (t := 38) rfl (H.perm 5 rfl) rfl rfl rfl rfl rfl rfl ?_
                refine Ew_of (pcₚ := 131) (fun _ => x_iconst rfl) ?_
                refine Ew_of (pcₚ := 132) (fun _ => x_aload_n rfl (rk2_o (lc35_0) rfl rfl)) ?_
                refine w_gT H (o := 5) (t := 38) rfl (H.perm 5 rfl) rfl rfl rfl rfl rfl rfl ?_
                refine Ew_of (pcₚ := 136) (fun _ => x_iconst rfl) ?_
                refine w_lJ H (o := 38) (n := 3) rfl (H.perm 38 rfl) rfl rfl (H.fix 38 rfl rfl) (show 0 ≤ 0 ∧ 0 < ((3 : Nat) : Int) from q_1579) (by decide) (fun v24 ev24 qv24 => ?_)
                have qv24 : (-9223372036854775808 : Int) ≤ v24 ∧ v24 ≤ 9223372036854775807 := qv24
                have ev24 : (w38) (0) = v24 := (congrFun ((funext (hA_c35 38 rfl)).trans (ew38)) (0)).symm.trans ev24
                have hq2_ : ((w38)) 0 = (v24) := by first | exact ev24 | (have h := ev24; rw [upd1_o (by decide)] at h; exact h)
                refine w_sJ H (o := 38) (n := 3) rfl (H.perm 38 rfl) rfl rfl (H.fix 38 rfl rfl) (show 0 ≤ 1 ∧ 1 < ((3 : Nat) : Int) from q_1580) (by decide) (show (-9223372036854775808 : Int) ≤ v24 ∧ v24 ≤ 9223372036854775807 from qv24) (fun σ H => ?_)
                refine Ew_of (pcₚ := 139) (fun _ => x_aload_n rfl (rk2_o (lc35_0) rfl rfl)) ?_
                refine w_gT H (o := 5) (t := 38) rfl (H.perm 5 rfl) rfl rfl rfl rfl rfl rfl ?_
                refine Ew_of (pcₚ := 143) (fun _ => x_iconst rfl) ?_
                refine Ew_of (pcₚ := 145) (fun _ => x_lload rfl rk2_s) ?_
                refine w_sJ H (o := 38) (n := 3) rfl (H.perm 38 rfl) rfl rfl (H.fix 38 rfl rfl) (show 0 ≤ 0 ∧ 0 < ((3 : Nat) : Int) from q_1579) (by decide) (show (-9223372036854775808 : Int) ≤ v17 ∧ v17 ≤ 9223372036854775807 from qv17) (fun σ H => ?_)
                refine Ew_of (pcₚ := 148) (fun _ => x_lload rfl rk2_s) ?_
                have : dsF ((a1)) ((a2)) (((w38)) 0) (((w38)) 1) (((w38)) 2) = ((v17), ((upd1 (upd1 (w38) (1) (v24)) (0) (v17))) 0, ((upd1 (upd1 (w38) (1) (v24)) (0) (v17))) 1, ((upd1 (upd1 (w38) (1) (v24)) (0) (v17))) 2) := by first | exact dsF_A (q := qw) (by omega) hq1_ hq2_ (by omega) | exact dsF_B (q := qw) (by omega) hq2_ (by omega) (by omega) (by omega)
                have : ((v17) : Int) = 0 ∨ 1 ≤ ((upd1 (upd1 (w38) (1) (v24)) (0) (v17))) 0 ∧ 1 ≤ ((upd1 (upd1 (w38) (1) (v24)) (0) (v17))) 1 ∧ 1 ≤ ((upd1 (upd1 (w38) (1) (v24)) (0) (v17))) 2 := by first | exact lt_A hq1_ hq2_ (by omega) (by omega) | exact lt_B hq2_ (by omega) (by omega)
                exact w_lreturn rfl (k (v17) σ _ _ H (SF_trans (SF_refl) hS_c35 (any_sub rfl)) (SA_upd (SA_upd (SA_trans (SA_refl) hA_c35 (any_subA rfl)) rfl) rfl) (upd1 (upd1 (w38) (1) (v24)) (0) (v17)) (congrArg (fun q => upd1 q (0) (v17)) (congrArg (fun q => upd1 q (1) (v24)) ((funext (hA_c35 38 rfl)).trans (ew38)))) (show inrJ (v17) by omega) (show 0 ≤ (v17) from q_1584 ev17 h4) (show (v17) = 0 ∨ 1 ≤ ((upd1 (upd1 (w38) (1) (v24)) (0) (v17))) 0 ∧ 1 ≤ ((upd1 (upd1 (w38) (1) (v24)) (0) (v17))) 1 ∧ 1 ≤ ((upd1 (upd1 (w38) (1) (v24)) (0) (v17))) 2 by assumption) (show dsF (a1) (a2) (((w38)) 0) (((w38)) 1) (((w38)) 2) = ((v17), ((upd1 (upd1 (w38) (1) (v24)) (0) (v17))) 0, ((upd1 (upd1 (w38) (1) (v24)) (0) (v17))) 1, ((upd1 (upd1 (w38) (1) (v24)) (0) (v17))) 2) by assumption))
              · exact hc114  _ σ _ _  (rk2_o (lc35_0) rfl rfl) (rk2_s) H (SF_refl) (SA_refl)   (show ((z18) > (0)) ∨ ((z18) ≤ (0) ∧ (a1) > (2)) by omega)
        · refine Ew_of (pcₚ := 61) (fun _ => x_aload_n rfl lc35_0) ?_
          refine w_gT H (o := 5) (t := 38) rfl (H.perm 5 rfl) rfl rfl rfl rfl rfl rfl ?_
          refine Ew_of (pcₚ := 65) (fun _ => x_iconst rfl) ?_
          refine w_lJ H (o := 38) (n := 3) rfl (H.perm 38 rfl) rfl rfl (H.fix 38 rfl rfl) (show 0 ≤ 1 ∧ 1 < ((3 : Nat) : Int) from q_1580) (by decide) (fun v25 ev25 qv25 => ?_)
          have qv25 : (-9223372036854775808 : Int) ≤ v25 ∧ v25 ≤ 9223372036854775807 := qv25
          have ev25 : (w38) (1) = v25 := (congrFun ((funext (hA_c35 38 rfl)).trans (ew38)) (1)).symm.trans ev25
          have hqa := ev25
          refine Ew_of (pcₚ := 95) (fun _ => x_goto rfl rfl) ?_
          refine Ew_of (pcₚ := 97) (fun _ => x_lstore rfl) ?_
          refine Ew_of (pcₚ := 98) (fun _ => x_lload_n rfl (rk2_o (lc35_1) rfl rfl)) ?_
          refine Ew_of (pcₚ := 101) (fun _ => x_ldc2 (z := 3) rfl (by decide)) ?_
          refine w_lcmp rfl (show inrJ (a1) from h0) (show inrJ (3) from q_1577) (fun z26 gz26 gaz26 gbz26 => ?_)
          have hc114 : ∀ (ls : rO) (σ : rS) (F_c114 : hF) (A_c114 : hA) , rlook ls 0 = some (.ref (D 5)) → rlook ls 6 = some (J (v25)) → HS σ0 σ D N F_c114 A_c114 → SF [] F_c35 F_c114 → SA [] A_c35 A_c114 → (((z26) > (0)) ∨ ((z26) ≤ (0) ∧ (a1) > (2))) → Ew 299 (d + 0) 114 ls [] σ c s Q := by
           as_aux_lemma =>
            intro  ls σ F_c114 A_c114  lc114_0 lc114_6 H hS_c114 hA_c114   jc114_0
            refine Ew_of (pcₚ := 115) (fun _ => x_aload_n rfl lc114_0) ?_
            refine w_gT H (o := 5) (t := 38) rfl (H.perm 5 rfl) rfl rfl rfl rfl rfl rfl ?_
            refine Ew_of (pcₚ := 119) (fun _ => x_iconst rfl) ?_
            refine Ew_of (pcₚ := 120) (fun _ => x_aload_n rfl lc114_0) ?_
            refine w_gT H (o := 5) (t := 38) rfl (H.perm 5 rfl) rfl rfl rfl rfl rfl rfl ?_
            refine Ew_of (pcₚ := 124) (fun _ => x_iconst rfl) ?_
            refine w_lJ H (o := 38) (n := 3) rfl (H.perm 38 rfl) rfl rfl (H.fix 38 rfl rfl) (show 0 ≤ 1 ∧ 1 < ((3 : Nat) : Int) from q_1580) (by decide) (fun v27 ev27 qv27 => ?_)
            have qv27 : (-9223372036854775808 : Int) ≤ v27 ∧ v27 ≤ 9223372036854775807 := qv27
            have ev27 : (w38) (1) = v27 := (congrFun ((funext (hA_c114 38 rfl)).trans ((funext (hA_c35 38 rfl)).trans (ew38))) (1)).symm.trans ev27
            have hq1_ := ev27
            refine w_sJ H (o := 38) (n := 3) rfl (H.perm 38 rfl) rfl rfl (H.fix 38 rfl rfl) (show 0 ≤ 2 ∧ 2 < ((3 : Nat) : Int) from q_1581) (by decide) (show (-9223372036854775808 : Int) ≤ v27 ∧ v27 ≤ 9223372036854775807 from qv27) (fun σ H => ?_)
            refine Ew_of (pcₚ := 127) (fun _ => x_aload_n rfl lc114_0) ?_
            refine w_gT H (o := 5) (t := 38) rfl (H.perm 5 rfl) rfl rfl rfl rfl rfl rfl ?_
            refine Ew_of (pcₚ := 131) (fun _ => x_iconst rfl) ?_
            refine Ew_of (pcₚ := 132) (fun _ => x_aload_n rfl lc114_0) ?_
            refine w_gT H (o := 5) (t := 38) rfl (H.perm 5 rfl) rfl rfl rfl rfl rfl rfl ?_
            refine Ew_of (pcₚ := 136) (fun _ => x_iconst rfl) ?_
            refine w_lJ H (o := 38) (n := 3) rfl (H.perm 38 rfl) rfl rfl (H.fix 38 rfl rfl) (show 0 ≤ 0 ∧ 0 < ((3 : Nat) : Int) from q_1579) (by decide) (fun v28 ev28 qv28 => ?_)
            have qv28 : (-9223372036854775808 : Int) ≤ v28 ∧ v28 ≤ 9223372036854775807 := qv28
            have ev28 : (upd1 (w38) (2) (v27)) (0) = v28 := (congrFun (congrArg (fun q => upd1 q (2) (v27)) ((funext (hA_c114 38 rfl)).trans ((funext (hA_c35 38 rfl)).trans (ew38)))) (0)).symm.trans ev28
            have hq2_ : ((w38)) 0 = (v28) := by first | exact ev28 | (have h := ev28; rw [upd1_o (by decide)] at h; exact h)
            refine w_sJ H (o := 38) (n := 3) rfl (H.perm 38 rfl) rfl rfl (H.fix 38 rfl rfl) (show 0 ≤ 1 ∧ 1 < ((3 : Nat) : Int) from q_1580) (by decide) (show (-9223372036854775808 : Int) ≤ v28 ∧ v28 ≤ 9223372036854775807 from qv28) (fun σ H => ?_)
            refine Ew_of (pcₚ := 139) (fun _ => x_aload_n rfl lc114_0) ?_
            refine w_gT H (o := 5) (t := 38) rfl (H.perm 5 rfl) rfl rfl rfl rfl rfl rfl ?_
            refine Ew_of (pcₚ := 143) (fun _ => x_iconst rfl) ?_
            refine Ew_of (pcₚ := 145) (fun _ => x_lload rfl lc114_6) ?_
            refine w_sJ H (o := 38) (n := 3) rfl (H.perm 38 rfl) rfl rfl (H.fix 38 rfl rfl) (show 0 ≤ 0 ∧ 0 < ((3 : Nat) : Int) from q_1579) (by decide) (show (-9223372036854775808 : Int) ≤ v25 ∧ v25 ≤ 9223372036854775807 from qv25) (fun σ H => ?_)
            refine Ew_of (pcₚ := 148) (fun _ => x_lload rfl lc114_6) ?_
            have : dsF ((a1)) ((a2)) (((w38)) 0) (((w38)) 1) (((w38)) 2) = ((v25), ((upd1 (upd1 (upd1 (w38) (2) (v27)) (1) (v28)) (0) (v25))) 0, ((upd1 (upd1 (upd1 (w38) (2) (v27)) (1) (v28)) (0) (v25))) 1, ((upd1 (upd1 (upd1 (w38) (2) (v27)) (1) (v28)) (0) (v25))) 2) := by first | exact dsF_A (q := qw) (by omega) hq1_ hq2_ (by omega) | exact dsF_B (q := qw) (by omega) hq2_ (by omega) (by omega) (by omega)
            have : ((v25) : Int) = 0 ∨ 1 ≤ ((upd1 (upd1 (upd1 (w38) (2) (v27)) (1) (v28)) (0) (v25))) 0 ∧ 1 ≤ ((upd1 (upd1 (upd1 (w38) (2) (v27)) (1) (v28)) (0) (v25))) 1 ∧ 1 ≤ ((upd1 (upd1 (upd1 (w38) (2) (v27)) (1) (v28)) (0) (v25))) 2 := by first | exact lt_A hq1_ hq2_ (by omega) (by omega) | exact lt_B hq2_ (by omega) (by omega)
            exact w_lreturn rfl (k (v25) σ _ _ H (SF_trans (SF_trans (SF_refl) hS_c35 (any_sub rfl)) hS_c114 (any_sub rfl)) (SA_upd (SA_upd (SA_upd (SA_trans (SA_trans (SA_refl) hA_c35 (any_subA rfl)) hA_c114 (any_subA rfl)) rfl) rfl) rfl) (upd1 (upd1 (upd1 (w38) (2) (v27)) (1) (v28)) (0) (v25)) (congrArg (fun q => upd1 q (0) (v25)) (congrArg (fun q => upd1 q (1) (v28)) (congrArg (fun q => upd1 q (2) (v27)) ((funext (hA_c114 38 rfl)).trans ((funext (hA_c35 38 rfl)).trans (ew38)))))) (show inrJ (v25) by omega) (show 0 ≤ (v25) from q_1585 ev25 h4) (show (v25) = 0 ∨ 1 ≤ ((upd1 (upd1 (upd1 (w38) (2) (v27)) (1) (v28)) (0) (v25))) 0 ∧ 1 ≤ ((upd1 (upd1 (upd1 (w38) (2) (v27)) (1) (v28)) (0) (v25))) 1 ∧ 1 ≤ ((upd1 (upd1 (upd1 (w38) (2) (v27)) (1) (v28)) (0) (v25))) 2 by assumption) (show dsF (a1) (a2) (((w38)) 0) (((w38)) 1) (((w38)) 2) = ((v25), ((upd1 (upd1 (upd1 (w38) (2) (v27)) (1) (v28)) (0) (v25))) 0, ((upd1 (upd1 (upd1 (w38) (2) (v27)) (1) (v28)) (0) (v25))) 1, ((upd1 (upd1 (upd1 (w38) (2) (v27)) (1) (v28)) (0) (v25))) 2) by assumption))
          refine w_ifgt (t := 114) rfl rfl (show inr (z26) from gz26) (fun b29 => ?_) (fun b29 => ?_)
          · exact hc114  _ σ _ _  (rk2_o (lc35_0) rfl rfl) (rk2_s) H (SF_refl) (SA_refl)   (show ((z26) > (0)) ∨ ((z26) ≤ (0) ∧ (a1) > (2)) from q_1583 b29)
          · refine Ew_of (pcₚ := 107) (fun _ => x_lload rfl (rk2_o (lc35_4) rfl rfl)) ?_
            refine Ew_of (pcₚ := 110) (fun _ => x_ldc2 (z := 2) rfl (by decide)) ?_
            refine w_lcmp rfl (show inrJ (a1) from h0) (show inrJ (2) from q_1578) (fun z30 gz30 gaz30 gbz30 => ?_)
            refine w_ifle (t := 126) rfl rfl (show inr (z30) from gz30) (fun b31 => ?_) (fun b31 => ?_)
            · refine Ew_of (pcₚ := 127) (fun _ => x_aload_n rfl (rk2_o (lc35_0) rfl rfl)) ?_
              refine w_gT H (o := 5) (t := 38) rfl (H.perm 5 rfl) rfl rfl rfl rfl rfl rfl ?_
              refine Ew_of (pcₚ := 131) (fun _ => x_iconst rfl) ?_
              refine Ew_of (pcₚ := 132) (fun _ => x_aload_n rfl (rk2_o (lc35_0) rfl rfl)) ?_
              refine w_gT H (o := 5) (t := 38) rfl (H.perm 5 rfl) rfl rfl rfl rfl rfl rfl ?_
              refine Ew_of (pcₚ := 136) (fun _ => x_iconst rfl) ?_
              refine w_lJ H (o := 38) (n := 3) rfl (H.perm 38 rfl) rfl rfl (H.fix 38 rfl rfl) (show 0 ≤ 0 ∧ 0 < ((3 : Nat) : Int) from q_1579) (by decide) (fun v32 ev32 qv32 => ?_)
              have qv32 : (-9223372036854775808 : Int) ≤ v32 ∧ v32 ≤ 9223372036854775807 := qv32
              have ev32 : (w38) (0) = v32 := (congrFun ((funext (hA_c35 38 rfl)).trans (ew38)) (0)).symm.trans ev32
              have hq2_ : ((w38)) 0 = (v32) := by first | exact ev32 | (have h := ev32; rw [upd1_o (by decide)] at h; exact h)
              refine w_sJ H (o := 38) (n := 3) rfl (H.perm 38 rfl) rfl rfl (H.fix 38 rfl rfl) (show 0 ≤ 1 ∧ 1 < ((3 : Nat) : Int) from q_1580) (by decide) (show (-9223372036854775808 : Int) ≤ v32 ∧ v32 ≤ 9223372036854775807 from qv32) (fun σ H => ?_)
              refine Ew_of (pcₚ := 139) (fun _ => x_aload_n rfl (rk2_o (lc35_0) rfl rfl)) ?_
              refine w_gT H (o := 5) (t := 38) rfl (H.perm 5 rfl) rfl rfl rfl rfl rfl rfl ?_
              refine Ew_of (pcₚ := 143) (fun _ => x_iconst rfl) ?_
              refine Ew_of (pcₚ := 145) (fun _ => x_lload rfl rk2_s) ?_
              refine w_sJ H (o := 38) (n := 3) rfl (H.perm 38 rfl) rfl rfl (H.fix 38 rfl rfl) (show 0 ≤ 0 ∧ 0 < ((3 : Nat) : Int) from q_1579) (by decide) (show (-9223372036854775808 : Int) ≤ v25 ∧ v25 ≤ 9223372036854775807 from qv25) (fun σ H => ?_)
              refine Ew_of (pcₚ := 148) (fun _ => x_lload rfl rk2_s) ?_
              have : dsF ((a1)) ((a2)) (((w38)) 0) (((w38)) 1) (((w38)) 2) = ((v25), ((upd1 (upd1 (w38) (1) (v32)) (0) (v25))) 0, ((upd1 (upd1 (w38) (1) (v32)) (0) (v25))) 1, ((upd1 (upd1 (w38) (1) (v32)) (0) (v25))) 2) := by first | exact dsF_A (q := qw) (by omega) hq1_ hq2_ (by omega) | exact dsF_B (q := qw) (by omega) hq2_ (by omega) (by omega) (by omega)
              have : ((v25) : Int) = 0 ∨ 1 ≤ ((upd1 (upd1 (w38) (1) (v32)) (0) (v25))) 0 ∧ 1 ≤ ((upd1 (upd1 (w38) (1) (v32)) (0) (v25))) 1 ∧ 1 ≤ ((upd1 (upd1 (w38) (1) (v32)) (0) (v25))) 2 := by first | exact lt_A hq1_ hq2_ (by omega) (by omega) | exact lt_B hq2_ (by omega) (by omega)
              exact w_lreturn rfl (k (v25) σ _ _ H (SF_trans (SF_refl) hS_c35 (any_sub rfl)) (SA_upd (SA_upd (SA_trans (SA_refl) hA_c35 (any_subA rfl)) rfl) rfl) (upd1 (upd1 (w38) (1) (v32)) (0) (v25)) (congrArg (fun q => upd1 q (0) (v25)) (congrArg (fun q => upd1 q (1) (v32)) ((funext (hA_c35 38 rfl)).trans (ew38)))) (show inrJ (v25) by omega) (show 0 ≤ (v25) from q_1585 ev25 h4) (show (v25) = 0 ∨ 1 ≤ ((upd1 (upd1 (w38) (1) (v32)) (0) (v25))) 0 ∧ 1 ≤ ((upd1 (upd1 (w38) (1) (v32)) (0) (v25))) 1 ∧ 1 ≤ ((upd1 (upd1 (w38) (1) (v32)) (0) (v25))) 2 by assumption) (show dsF (a1) (a2) (((w38)) 0) (((w38)) 1) (((w38)) 2) = ((v25), ((upd1 (upd1 (w38) (1) (v32)) (0) (v25))) 0, ((upd1 (upd1 (w38) (1) (v32)) (0) (v25))) 1, ((upd1 (upd1 (w38) (1) (v32)) (0) (v25))) 2) by assumption))
            · exact hc114  _ σ _ _  (rk2_o (lc35_0) rfl rfl) (rk2_s) H (SF_refl) (SA_refl)   (show ((z26) > (0)) ∨ ((z26) ≤ (0) ∧ (a1) > (2)) by omega)
      · refine Ew_of (pcₚ := 44) (fun _ => x_lload_n rfl lc35_1) ?_
        refine Ew_of (pcₚ := 47) (fun _ => x_ldc2 (z := 3) rfl (by decide)) ?_
        refine w_lsub rfl ?_
        refine Ew_of (pcₚ := 95) (fun _ => x_goto rfl rfl) ?_
        refine Ew_of (pcₚ := 97) (fun _ => x_lstore rfl) ?_
        refine Ew_of (pcₚ := 98) (fun _ => x_lload_n rfl (rk2_o (lc35_1) rfl rfl)) ?_
        refine Ew_of (pcₚ := 101) (fun _ => x_ldc2 (z := 3) rfl (by decide)) ?_
        refine w_lcmp rfl (show inrJ (a1) from h0) (show inrJ (3) from q_1577) (fun z33 gz33 gaz33 gbz33 => ?_)
        have hc114 : ∀ (ls : rO) (σ : rS) (F_c114 : hF) (A_c114 : hA) , rlook ls 0 = some (.ref (D 5)) → rlook ls 6 = some (J ((a1 - 3))) → HS σ0 σ D N F_c114 A_c114 → SF [] F_c35 F_c114 → SA [] A_c35 A_c114 → (((z33) > (0)) ∨ ((z33) ≤ (0) ∧ (a1) > (2))) → Ew 299 (d + 0) 114 ls [] σ c s Q := by
         as_aux_lemma =>
          intro  ls σ F_c114 A_c114  lc114_0 lc114_6 H hS_c114 hA_c114   jc114_0
          refine Ew_of (pcₚ := 115) (fun _ => x_aload_n rfl lc114_0) ?_
          refine w_gT H (o := 5) (t := 38) rfl (H.perm 5 rfl) rfl rfl rfl rfl rfl rfl ?_
          refine Ew_of (pcₚ := 119) (fun _ => x_iconst rfl) ?_
          refine Ew_of (pcₚ := 120) (fun _ => x_aload_n rfl lc114_0) ?_
          refine w_gT H (o := 5) (t := 38) rfl (H.perm 5 rfl) rfl rfl rfl rfl rfl rfl ?_
          refine Ew_of (pcₚ := 124) (fun _ => x_iconst rfl) ?_
          refine w_lJ H (o := 38) (n := 3) rfl (H.perm 38 rfl) rfl rfl (H.fix 38 rfl rfl) (show 0 ≤ 1 ∧ 1 < ((3 : Nat) : Int) from q_1580) (by decide) (fun v34 ev34 qv34 => ?_)
          have qv34 : (-9223372036854775808 : Int) ≤ v34 ∧ v34 ≤ 9223372036854775807 := qv34
          have ev34 : (w38) (1) = v34 := (congrFun ((funext (hA_c114 38 rfl)).trans ((funext (hA_c35 38 rfl)).trans (ew38))) (1)).symm.trans ev34
          have hq1_ := ev34
          refine w_sJ H (o := 38) (n := 3) rfl (H.perm 38 rfl) rfl rfl (H.fix 38 rfl rfl) (show 0 ≤ 2 ∧ 2 < ((3 : Nat) : Int) from q_1581) (by decide) (show (-9223372036854775808 : Int) ≤ v34 ∧ v34 ≤ 9223372036854775807 from qv34) (fun σ H => ?_)
          refine Ew_of (pcₚ := 127) (fun _ => x_aload_n rfl lc114_0) ?_
          refine w_gT H (o := 5) (t := 38) rfl (H.perm 5 rfl) rfl rfl rfl rfl rfl rfl ?_
          refine Ew_of (pcₚ := 131) (fun _ => x_iconst rfl) ?_
          refine Ew_of (pcₚ := 132) (fun _ => x_aload_n rfl lc114_0) ?_
          refine w_gT H (o := 5) (t := 38) rfl (H.perm 5 rfl) rfl rfl rfl rfl rfl rfl ?_
          refine Ew_of (pcₚ := 136) (fun _ => x_iconst rfl) ?_
          refine w_lJ H (o := 38) (n := 3) rfl (H.perm 38 rfl) rfl rfl (H.fix 38 rfl rfl) (show 0 ≤ 0 ∧ 0 < ((3 : Nat) : Int) from q_1579) (by decide) (fun v35 ev35 qv35 => ?_)
          have qv35 : (-9223372036854775808 : Int) ≤ v35 ∧ v35 ≤ 9223372036854775807 := qv35
          have ev35 : (upd1 (w38) (2) (v34)) (0) = v35 := (congrFun (congrArg (fun q => upd1 q (2) (v34)) ((funext (hA_c114 38 rfl)).trans ((funext (hA_c35 38 rfl)).trans (ew38)))) (0)).symm.trans ev35
          have hq2_ : ((w38)) 0 = (v35) := by first | exact ev35 | (have h := ev35; rw [upd1_o (by decide)] at h; exact h)
          refine w_sJ H (o := 38) (n := 3) rfl (H.perm 38 rfl) rfl rfl (H.fix 38 rfl rfl) (show 0 ≤ 1 ∧ 1 < ((3 : Nat) : Int) from q_1580) (by decide) (show (-9223372036854775808 : Int) ≤ v35 ∧ v35 ≤ 9223372036854775807 from qv35) (fun σ H => ?_)
          refine Ew_of (pcₚ := 139) (fun _ => x_aload_n rfl lc114_0) ?_
          refine w_gT H (o := 5) (t := 38) rfl (H.perm 5 rfl) rfl rfl rfl rfl rfl rfl ?_
          refine Ew_of (pcₚ := 143) (fun _ => x_iconst rfl) ?_
          refine Ew_of (pcₚ := 145) (fun _ => x_lload rfl lc114_6) ?_
          refine w_sJ H (o := 38) (n := 3) rfl (H.perm 38 rfl) rfl rfl (H.fix 38 rfl rfl) (show 0 ≤ 0 ∧ 0 < ((3 : Nat) : Int) from q_1579) (by decide) (show (-9223372036854775808 : Int) ≤ (a1 - 3) ∧ (a1 - 3) ≤ 9223372036854775807 by omega) (fun σ H => ?_)
          refine Ew_of (pcₚ := 148) (fun _ => x_lload rfl lc114_6) ?_
          have : dsF ((a1)) ((a2)) (((w38)) 0) (((w38)) 1) (((w38)) 2) = (((a1 - 3)), ((upd1 (upd1 (upd1 (w38) (2) (v34)) (1) (v35)) (0) ((a1 - 3)))) 0, ((upd1 (upd1 (upd1 (w38) (2) (v34)) (1) (v35)) (0) ((a1 - 3)))) 1, ((upd1 (upd1 (upd1 (w38) (2) (v34)) (1) (v35)) (0) ((a1 - 3)))) 2) := by first | exact dsF_A (q := qw) (by omega) hq1_ hq2_ (by omega) | exact dsF_B (q := qw) (by omega) hq2_ (by omega) (by omega) (by omega)
          have : (((a1 - 3)) : Int) = 0 ∨ 1 ≤ ((upd1 (upd1 (upd1 (w38) (2) (v34)) (1) (v35)) (0) ((a1 - 3)))) 0 ∧ 1 ≤ ((upd1 (upd1 (upd1 (w38) (2) (v34)) (1) (v35)) (0) ((a1 - 3)))) 1 ∧ 1 ≤ ((upd1 (upd1 (upd1 (w38) (2) (v34)) (1) (v35)) (0) ((a1 - 3)))) 2 := by first | exact lt_A hq1_ hq2_ (by omega) (by omega) | exact lt_B hq2_ (by omega) (by omega)
          exact w_lreturn rfl (k ((a1 - 3)) σ _ _ H (SF_trans (SF_trans (SF_refl) hS_c35 (any_sub rfl)) hS_c114 (any_sub rfl)) (SA_upd (SA_upd (SA_upd (SA_trans (SA_trans (SA_refl) hA_c35 (any_subA rfl)) hA_c114 (any_subA rfl)) rfl) rfl) rfl) (upd1 (upd1 (upd1 (w38) (2) (v34)) (1) (v35)) (0) ((a1 - 3))) (congrArg (fun q => upd1 q (0) ((a1 - 3))) (congrArg (fun q => upd1 q (1) (v35)) (congrArg (fun q => upd1 q (2) (v34)) ((funext (hA_c114 38 rfl)).trans ((funext (hA_c35 38 rfl)).trans (ew38)))))) (show inrJ ((a1 - 3)) by omega) (show 0 ≤ ((a1 - 3)) by omega) (show ((a1 - 3)) = 0 ∨ 1 ≤ ((upd1 (upd1 (upd1 (w38) (2) (v34)) (1) (v35)) (0) ((a1 - 3)))) 0 ∧ 1 ≤ ((upd1 (upd1 (upd1 (w38) (2) (v34)) (1) (v35)) (0) ((a1 - 3)))) 1 ∧ 1 ≤ ((upd1 (upd1 (upd1 (w38) (2) (v34)) (1) (v35)) (0) ((a1 - 3)))) 2 by assumption) (show dsF (a1) (a2) (((w38)) 0) (((w38)) 1) (((w38)) 2) = (((a1 - 3)), ((upd1 (upd1 (upd1 (w38) (2) (v34)) (1) (v35)) (0) ((a1 - 3)))) 0, ((upd1 (upd1 (upd1 (w38) (2) (v34)) (1) (v35)) (0) ((a1 - 3)))) 1, ((upd1 (upd1 (upd1 (w38) (2) (v34)) (1) (v35)) (0) ((a1 - 3)))) 2) by assumption))
        refine w_ifgt (t := 114) rfl rfl (show inr (z33) from gz33) (fun b36 => ?_) (fun b36 => ?_)
        · exact hc114  _ σ _ _  (rk2_o (lc35_0) rfl rfl) (rk2_s) H (SF_refl) (SA_refl)   (show ((z33) > (0)) ∨ ((z33) ≤ (0) ∧ (a1) > (2)) from q_1583 b36)
        · refine Ew_of (pcₚ := 107) (fun _ => x_lload rfl (rk2_o (lc35_4) rfl rfl)) ?_
          refine Ew_of (pcₚ := 110) (fun _ => x_ldc2 (z := 2) rfl (by decide)) ?_
          refine w_lcmp rfl (show inrJ (a1) from h0) (show inrJ (2) from q_1578) (fun z37 gz37 gaz37 gbz37 => ?_)
          refine w_ifle (t := 126) rfl rfl (show inr (z37) from gz37) (fun b38 => ?_) (fun b38 => ?_)
          · refine Ew_of (pcₚ := 127) (fun _ => x_aload_n rfl (rk2_o (lc35_0) rfl rfl)) ?_
            refine w_gT H (o := 5) (t := 38) rfl (H.perm 5 rfl) rfl rfl rfl rfl rfl rfl ?_
            refine Ew_of (pcₚ := 131) (fun _ => x_iconst rfl) ?_
            refine Ew_of (pcₚ := 132) (fun _ => x_aload_n rfl (rk2_o (lc35_0) rfl rfl)) ?_
            refine w_gT H (o := 5) (t := 38) rfl (H.perm 5 rfl) rfl rfl rfl rfl rfl rfl ?_
            refine Ew_of (pcₚ := 136) (fun _ => x_iconst rfl) ?_
            refine w_lJ H (o := 38) (n := 3) rfl (H.perm 38 rfl) rfl rfl (H.fix 38 rfl rfl) (show 0 ≤ 0 ∧ 0 < ((3 : Nat) : Int) from q_1579) (by decide) (fun v39 ev39 qv39 => ?_)
            have qv39 : (-9223372036854775808 : Int) ≤ v39 ∧ v39 ≤ 9223372036854775807 := qv39
            have ev39 : (w38) (0) = v39 := (congrFun ((funext (hA_c35 38 rfl)).trans (ew38)) (0)).symm.trans ev39
            have hq2_ : ((w38)) 0 = (v39) := by first | exact ev39 | (have h := ev39; rw [upd1_o (by decide)] at h; exact h)
            refine w_sJ H (o := 38) (n := 3) rfl (H.perm 38 rfl) rfl rfl (H.fix 38 rfl rfl) (show 0 ≤ 1 ∧ 1 < ((3 : Nat) : Int) from q_1580) (by decide) (show (-9223372036854775808 : Int) ≤ v39 ∧ v39 ≤ 9223372036854775807 from qv39) (fun σ H => ?_)
            refine Ew_of (pcₚ := 139) (fun _ => x_aload_n rfl (rk2_o (lc35_0) rfl rfl)) ?_
            refine w_gT H (o := 5) (t := 38) rfl (H.perm 5 rfl) rfl rfl rfl rfl rfl rfl ?_
            refine Ew_of (pcₚ := 143) (fun _ => x_iconst rfl) ?_
            refine Ew_of (pcₚ := 145) (fun _ => x_lload rfl rk2_s) ?_
            refine w_sJ H (o := 38) (n := 3) rfl (H.perm 38 rfl) rfl rfl (H.fix 38 rfl rfl) (show 0 ≤ 0 ∧ 0 < ((3 : Nat) : Int) from q_1579) (by decide) (show (-9223372036854775808 : Int) ≤ (a1 - 3) ∧ (a1 - 3) ≤ 9223372036854775807 by omega) (fun σ H => ?_)
            refine Ew_of (pcₚ := 148) (fun _ => x_lload rfl rk2_s) ?_
            have : dsF ((a1)) ((a2)) (((w38)) 0) (((w38)) 1) (((w38)) 2) = (((a1 - 3)), ((upd1 (upd1 (w38) (1) (v39)) (0) ((a1 - 3)))) 0, ((upd1 (upd1 (w38) (1) (v39)) (0) ((a1 - 3)))) 1, ((upd1 (upd1 (w38) (1) (v39)) (0) ((a1 - 3)))) 2) := by first | exact dsF_A (q := qw) (by omega) hq1_ hq2_ (by omega) | exact dsF_B (q := qw) (by omega) hq2_ (by omega) (by omega) (by omega)
            have : (((a1 - 3)) : Int) = 0 ∨ 1 ≤ ((upd1 (upd1 (w38) (1) (v39)) (0) ((a1 - 3)))) 0 ∧ 1 ≤ ((upd1 (upd1 (w38) (1) (v39)) (0) ((a1 - 3)))) 1 ∧ 1 ≤ ((upd1 (upd1 (w38) (1) (v39)) (0) ((a1 - 3)))) 2 := by first | exact lt_A hq1_ hq2_ (by omega) (by omega) | exact lt_B hq2_ (by omega) (by omega)
            exact w_lreturn rfl (k ((a1 - 3)) σ _ _ H (SF_trans (SF_refl) hS_c35 (any_sub rfl)) (SA_upd (SA_upd (SA_trans (SA_refl) hA_c35 (any_subA rfl)) rfl) rfl) (upd1 (upd1 (w38) (1) (v39)) (0) ((a1 - 3))) (congrArg (fun q => upd1 q (0) ((a1 - 3))) (congrArg (fun q => upd1 q (1) (v39)) ((funext (hA_c35 38 rfl)).trans (ew38)))) (show inrJ ((a1 - 3)) by omega) (show 0 ≤ ((a1 - 3)) by omega) (show ((a1 - 3)) = 0 ∨ 1 ≤ ((upd1 (upd1 (w38) (1) (v39)) (0) ((a1 - 3)))) 0 ∧ 1 ≤ ((upd1 (upd1 (w38) (1) (v39)) (0) ((a1 - 3)))) 1 ∧ 1 ≤ ((upd1 (upd1 (w38) (1) (v39)) (0) ((a1 - 3)))) 2 by assumption) (show dsF (a1) (a2) (((w38)) 0) (((w38)) 1) (((w38)) 2) = (((a1 - 3)), ((upd1 (upd1 (w38) (1) (v39)) (0) ((a1 - 3)))) 0, ((upd1 (upd1 (w38) (1) (v39)) (0) ((a1 - 3)))) 1, ((upd1 (upd1 (w38) (1) (v39)) (0) ((a1 - 3)))) 2) by assumption))
          · exact hc114  _ σ _ _  (rk2_o (lc35_0) rfl rfl) (rk2_s) H (SF_refl) (SA_refl)   (show ((z33) > (0)) ∨ ((z33) ≤ (0) ∧ (a1) > (2)) by omega)
    refine w_ifgt (t := 35) rfl rfl (show inr (z2) from gz2) (fun b40 => ?_) (fun b40 => ?_)
    · exact hc35  _ σ _ _  (rk2_o (rfl) rfl rfl) (rk2_o (rfl) rfl rfl) (rk2_s) H (SF_refl) (SA_refl)   (show ((z2) > (0)) ∨ ((z2) ≤ (0) ∧ (a1) ≠ (1)) from q_1586 b40)
    · refine Ew_of (pcₚ := 23) (fun _ => x_lload rfl rk2_s) ?_
      refine Ew_of (pcₚ := 24) (fun _ => x_lconst (z := 1) rfl (by decide)) ?_
      refine w_lcmp rfl (show inrJ (a1) from h0) (show inrJ (1) from q_1587) (fun z41 gz41 gaz41 gbz41 => ?_)
      refine w_ifne (t := 35) rfl rfl (show inr (z41) from gz41) (fun b42 => ?_) (fun b42 => ?_)
      · exact hc35  _ σ _ _  (rk2_o (rfl) rfl rfl) (rk2_o (rfl) rfl rfl) (rk2_s) H (SF_refl) (SA_refl)   (show ((z2) > (0)) ∨ ((z2) ≤ (0) ∧ (a1) ≠ (1)) by omega)
      · refine Ew_of (pcₚ := 29) (fun _ => x_aload_n rfl (rk2_o (rfl) rfl rfl)) ?_
        refine w_gT H (o := 5) (t := 38) rfl (H.perm 5 rfl) rfl rfl rfl rfl rfl rfl ?_
        refine Ew_of (pcₚ := 33) (fun _ => x_iconst rfl) ?_
        refine w_lJ H (o := 38) (n := 3) rfl (H.perm 38 rfl) rfl rfl (H.fix 38 rfl rfl) (show 0 ≤ 0 ∧ 0 < ((3 : Nat) : Int) from q_1579) (by decide) (fun v43 ev43 qv43 => ?_)
        have qv43 : (-9223372036854775808 : Int) ≤ v43 ∧ v43 ≤ 9223372036854775807 := qv43
        have ev43 : (w38) (0) = v43 := (congrFun (ew38) (0)).symm.trans ev43
        have : dsF ((a1)) ((a2)) (((w38)) 0) (((w38)) 1) (((w38)) 2) = ((v43), ((w38)) 0, ((w38)) 1, ((w38)) 2) := dsF_i (w := qw) (by omega) (by omega)
        have : ((v43) : Int) = 0 ∨ 1 ≤ ((w38)) 0 ∧ 1 ≤ ((w38)) 1 ∧ 1 ≤ ((w38)) 2 := by omega
        exact w_lreturn rfl (k (v43) σ _ _ H (SF_refl) (SA_refl) (w38) (ew38) (show inrJ (v43) by omega) (show 0 ≤ (v43) from q_1588 ev43 h4) (show (v43) = 0 ∨ 1 ≤ ((w38)) 0 ∧ 1 ≤ ((w38)) 1 ∧ 1 ≤ ((w38)) 2 by assumption) (show dsF (a1) (a2) (((w38)) 0) (((w38)) 1) (((w38)) 2) = ((v43), ((w38)) 0, ((w38)) 1, ((w38)) 2) by assumption))
  · refine Ew_of (pcₚ := 5) (fun _ => x_lload_n rfl rfl) ?_
    refine Ew_of (pcₚ := 6) (fun _ => x_lconst (z := 1) rfl (by decide)) ?_
    refine w_ladd rfl ?_
    refine Ew_of (pcₚ := 11) (fun _ => x_goto rfl rfl) ?_
    refine Ew_of (pcₚ := 13) (fun _ => x_lstore rfl) ?_
    obtain ⟨qw, hqw⟩ : ∃ q : Int, q = ((a1 + 1)) := ⟨_, rfl⟩
    refine Ew_of (pcₚ := 14) (fun _ => x_lload_n rfl (rk2_o (rfl) rfl rfl)) ?_
    refine Ew_of (pcₚ := 17) (fun _ => x_ldc2 (z := 3) rfl (by decide)) ?_
    refine w_lcmp rfl (show inrJ (a1) from h0) (show inrJ (3) from q_1577) (fun z44 gz44 gaz44 gbz44 => ?_)
    have hc35 : ∀ (ls : rO) (σ : rS) (F_c35 : hF) (A_c35 : hA) , rlook ls 0 = some (.ref (D 5)) → rlook ls 1 = some (J (a1)) → rlook ls 4 = some (J ((a1 + 1))) → HS σ0 σ D N F_c35 A_c35 → SF [] F F_c35 → SA [] A A_c35 → (((z44) > (0)) ∨ ((z44) ≤ (0) ∧ ((a1 + 1)) ≠ (1))) → Ew 299 (d + 0) 35 ls [] σ c s Q := by
     as_aux_lemma =>
      intro  ls σ F_c35 A_c35  lc35_0 lc35_1 lc35_4 H hS_c35 hA_c35   jc35_0
      refine Ew_of (pcₚ := 36) (fun _ => x_lload_n rfl lc35_1) ?_
      refine Ew_of (pcₚ := 39) (fun _ => x_ldc2 (z := 3) rfl (by decide)) ?_
      refine w_lcmp rfl (show inrJ (a1) from h0) (show inrJ (3) from q_1577) (fun z45 gz45 gaz45 gbz45 => ?_)
      refine w_ifle (t := 51) rfl rfl (show inr (z45) from gz45) (fun b46 => ?_) (fun b46 => ?_)
      · refine Ew_of (pcₚ := 53) (fun _ => x_lload rfl lc35_4) ?_
        refine Ew_of (pcₚ := 56) (fun _ => x_ldc2 (z := 2) rfl (by decide)) ?_
        refine w_lcmp rfl (show inrJ ((a1 + 1)) by omega) (show inrJ (2) from q_1578) (fun z47 gz47 gaz47 gbz47 => ?_)
        refine w_ifne (t := 69) rfl rfl (show inr (z47) from gz47) (fun b48 => ?_) (fun b48 => ?_)
        · refine Ew_of (pcₚ := 71) (fun _ => x_lload rfl lc35_4) ?_
          refine Ew_of (pcₚ := 74) (fun _ => x_ldc2 (z := 3) rfl (by decide)) ?_
          refine w_lcmp rfl (show inrJ ((a1 + 1)) by omega) (show inrJ (3) from q_1577) (fun z49 gz49 gaz49 gbz49 => ?_)
          refine w_ifne (t := 87) rfl rfl (show inr (z49) from gz49) (fun b50 => ?_) (fun b50 => ?_)
          · refine Ew_of (pcₚ := 88) (fun _ => x_aload_n rfl lc35_0) ?_
            refine w_gT H (o := 5) (t := 38) rfl (H.perm 5 rfl) rfl rfl rfl rfl rfl rfl ?_
            refine Ew_of (pcₚ := 92) (fun _ => x_iconst rfl) ?_
            refine w_lJ H (o := 38) (n := 3) rfl (H.perm 38 rfl) rfl rfl (H.fix 38 rfl rfl) (show 0 ≤ 0 ∧ 0 < ((3 : Nat) : Int) from q_1579) (by decide) (fun v51 ev51 qv51 => ?_)
            have qv51 : (-9223372036854775808 : Int) ≤ v51 ∧ v51 ≤ 9223372036854775807 := qv51
            have ev51 : (w38) (0) = v51 := (congrFun ((funext (hA_c35 38 rfl)).trans (ew38)) (0)).symm.trans ev51
            have hqc := ev51
            refine Ew_of (pcₚ := 94) (fun _ => x_lconst (z := 1) rfl (by decide)) ?_
            refine w_lsub rfl ?_
            refine Ew_of (pcₚ := 97) (fun _ => x_lstore rfl) ?_
            refine Ew_of (pcₚ := 98) (fun _ => x_lload_n rfl (rk2_o (lc35_1) rfl rfl)) ?_
            refine Ew_of (pcₚ := 101) (fun _ => x_ldc2 (z := 3) rfl (by decide)) ?_
            refine w_lcmp rfl (show inrJ (a1) from h0) (show inrJ (3) from q_1577) (fun z52 gz52 gaz52 gbz52 => ?_)
            have hc114 : ∀ (ls : rO) (σ : rS) (F_c114 : hF) (A_c114 : hA) , rlook ls 0 = some (.ref (D 5)) → rlook ls 6 = some (J ((v51 - 1))) → HS σ0 σ D N F_c114 A_c114 → SF [] F_c35 F_c114 → SA [] A_c35 A_c114 → (((z52) > (0)) ∨ ((z52) ≤ (0) ∧ ((a1 + 1)) > (2))) → Ew 299 (d + 0) 114 ls [] σ c s Q := by
             as_aux_lemma =>
              intro  ls σ F_c114 A_c114  lc114_0 lc114_6 H hS_c114 hA_c114   jc114_0
              refine Ew_of (pcₚ := 115) (fun _ => x_aload_n rfl lc114_0) ?_
              refine w_gT H (o := 5) (t := 38) rfl (H.perm 5 rfl) rfl rfl rfl rfl rfl rfl ?_
              refine Ew_of (pcₚ := 119) (fun _ => x_iconst rfl) ?_
              refine Ew_of (pcₚ := 120) (fun _ => x_aload_n rfl lc114_0) ?_
              refine w_gT H (o := 5) (t := 38) rfl (H.perm 5 rfl) rfl rfl rfl rfl rfl rfl ?_
              refine Ew_of (pcₚ := 124) (fun _ => x_iconst rfl) ?_
              refine w_lJ H (o := 38) (n := 3) rfl (H.perm 38 rfl) rfl rfl (H.fix 38 rfl rfl) (show 0 ≤ 1 ∧ 1 < ((3 : Nat) : Int) from q_1580) (by decide) (fun v53 ev53 qv53 => ?_)
              have qv53 : (-9223372036854775808 : Int) ≤ v53 ∧ v53 ≤ 9223372036854775807 := qv53
              have ev53 : (w38) (1) = v53 := (congrFun ((funext (hA_c114 38 rfl)).trans ((funext (hA_c35 38 rfl)).trans (ew38))) (1)).symm.trans ev53
              have hq1_ := ev53
              refine w_sJ H (o := 38) (n := 3) rfl (H.perm 38 rfl) rfl rfl (H.fix 38 rfl rfl) (show 0 ≤ 2 ∧ 2 < ((3 : Nat) : Int) from q_1581) (by decide) (show (-9223372036854775808 : Int) ≤ v53 ∧ v53 ≤ 9223372036854775807 from qv53) (fun σ H => ?_)
              refine Ew_of (pcₚ := 127) (fun _ => x_aload_n rfl lc114_0) ?_
              refine w_gT H (o := 5) (t := 38) rfl (H.perm 5 rfl) rfl rfl rfl rfl rfl rfl ?_
              refine Ew_of (pcₚ := 131) (fun _ => x_iconst rfl) ?_
              refine Ew_of (pcₚ := 132) (fun _ => x_aload_n rfl lc114_0) ?_
              refine w_gT H (o := 5) (t := 38) rfl (H.perm 5 rfl) rfl rfl rfl rfl rfl rfl ?_
              refine Ew_of (pcₚ := 136) (fun _ => x_iconst rfl) ?_
              refine w_lJ H (o := 38) (n := 3) rfl (H.perm 38 rfl) rfl rfl (H.fix 38 rfl rfl) (show 0 ≤ 0 ∧ 0 < ((3 : Nat) : Int) from q_1579) (by decide) (fun v54 ev54 qv54 => ?_)
              have qv54 : (-9223372036854775808 : Int) ≤ v54 ∧ v54 ≤ 9223372036854775807 := qv54
              have ev54 : (upd1 (w38) (2) (v53)) (0) = v54 := (congrFun (congrArg (fun q => upd1 q (2) (v53)) ((funext (hA_c114 38 rfl)).trans ((funext (hA_c35 38 rfl)).trans (ew38)))) (0)).symm.trans ev54
              have hq2_ : ((w38)) 0 = (v54) := by first | exact ev54 | (have h := ev54; rw [upd1_o (by decide)] at h; exact h)
              refine w_sJ H (o := 38) (n := 3) rfl (H.perm 38 rfl) rfl rfl (H.fix 38 rfl rfl) (show 0 ≤ 1 ∧ 1 < ((3 : Nat) : Int) from q_1580) (by decide) (show (-9223372036854775808 : Int) ≤ v54 ∧ v54 ≤ 9223372036854775807 from qv54) (fun σ H => ?_)
              refine Ew_of (pcₚ := 139) (fun _ => x_aload_n rfl lc114_0) ?_
              refine w_gT H (o := 5) (t := 38) rfl (H.perm 5 rfl) rfl rfl rfl rfl rfl rfl ?_
              refine Ew_of (pcₚ := 143) (fun _ => x_iconst rfl) ?_
              refine Ew_of (pcₚ := 145) (fun _ => x_lload rfl lc114_6) ?_
              refine w_sJ H (o := 38) (n := 3) rfl (H.perm 38 rfl) rfl rfl (H.fix 38 rfl rfl) (show 0 ≤ 0 ∧ 0 < ((3 : Nat) : Int) from q_1579) (by decide) (show (-9223372036854775808 : Int) ≤ (v51 - 1) ∧ (v51 - 1) ≤ 9223372036854775807 by omega) (fun σ H => ?_)
              refine Ew_of (pcₚ := 148) (fun _ => x_lload rfl lc114_6) ?_
              have : dsF ((a1)) ((a2)) (((w38)) 0) (((w38)) 1) (((w38)) 2) = (((v51 - 1)), ((upd1 (upd1 (upd1 (w38) (2) (v53)) (1) (v54)) (0) ((v51 - 1)))) 0, ((upd1 (upd1 (upd1 (w38) (2) (v53)) (1) (v54)) (0) ((v51 - 1)))) 1, ((upd1 (upd1 (upd1 (w38) (2) (v53)) (1) (v54)) (0) ((v51 - 1)))) 2) := by first | exact dsF_A (q := qw) (by omega) hq1_ hq2_ (by omega) | exact dsF_B (q := qw) (by omega) hq2_ (by omega) (by omega) (by omega)
              have : (((v51 - 1)) : Int) = 0 ∨ 1 ≤ ((upd1 (upd1 (upd1 (w38) (2) (v53)) (1) (v54)) (0) ((v51 - 1)))) 0 ∧ 1 ≤ ((upd1 (upd1 (upd1 (w38) (2) (v53)) (1) (v54)) (0) ((v51 - 1)))) 1 ∧ 1 ≤ ((upd1 (upd1 (upd1 (w38) (2) (v53)) (1) (v54)) (0) ((v51 - 1)))) 2 := by first | exact lt_A hq1_ hq2_ (by omega) (by omega) | exact lt_B hq2_ (by omega) (by omega)
              exact w_lreturn rfl (k ((v51 - 1)) σ _ _ H (SF_trans (SF_trans (SF_refl) hS_c35 (any_sub rfl)) hS_c114 (any_sub rfl)) (SA_upd (SA_upd (SA_upd (SA_trans (SA_trans (SA_refl) hA_c35 (any_subA rfl)) hA_c114 (any_subA rfl)) rfl) rfl) rfl) (upd1 (upd1 (upd1 (w38) (2) (v53)) (1) (v54)) (0) ((v51 - 1))) (congrArg (fun q => upd1 q (0) ((v51 - 1))) (congrArg (fun q => upd1 q (1) (v54)) (congrArg (fun q => upd1 q (2) (v53)) ((funext (hA_c114 38 rfl)).trans ((funext (hA_c35 38 rfl)).trans (ew38)))))) (show inrJ ((v51 - 1)) by omega) (show 0 ≤ ((v51 - 1)) from q_1582 ev51 h4) (show ((v51 - 1)) = 0 ∨ 1 ≤ ((upd1 (upd1 (upd1 (w38) (2) (v53)) (1) (v54)) (0) ((v51 - 1)))) 0 ∧ 1 ≤ ((upd1 (upd1 (upd1 (w38) (2) (v53)) (1) (v54)) (0) ((v51 - 1)))) 1 ∧ 1 ≤ ((upd1 (upd1 (upd1 (w38) (2) (v53)) (1) (v54)) (0) ((v51 - 1)))) 2 by assumption) (show dsF (a1) (a2) (((w38)) 0) (((w38)) 1) (((w38)) 2) = (((v51 - 1)), ((upd1 (upd1 (upd1 (w38) (2) (v53)) (1) (v54)) (0) ((v51 - 1)))) 0, ((upd1 (upd1 (upd1 (w38) (2) (v53)) (1) (v54)) (0) ((v51 - 1)))) 1, ((upd1 (upd1 (upd1 (w38) (2) (v53)) (1) (v54)) (0) ((v51 - 1)))) 2) by assumption))
            refine w_ifgt (t := 114) rfl rfl (show inr (z52) from gz52) (fun b55 => ?_) (fun b55 => ?_)
            · exact hc114  _ σ _ _  (rk2_o (lc35_0) rfl rfl) (rk2_s) H (SF_refl) (SA_refl)   (show ((z52) > (0)) ∨ ((z52) ≤ (0) ∧ ((a1 + 1)) > (2)) from q_1589 b55)
            · refine Ew_of (pcₚ := 107) (fun _ => x_lload rfl (rk2_o (lc35_4) rfl rfl)) ?_
              refine Ew_of (pcₚ := 110) (fun _ => x_ldc2 (z := 2) rfl (by decide)) ?_
              refine w_lcmp rfl (show inrJ ((a1 + 1)) by omega) (show inrJ (2) from q_1578) (fun z56 gz56 gaz56 gbz56 => ?_)
              refine w_ifle (t := 126) rfl rfl (show inr (z56) from gz56) (fun b57 => ?_) (fun b57 => ?_)
              · refine Ew_of (pcₚ := 127) (fun _ => x_aload_n rfl (rk2_o (lc35_0) rfl rfl)) ?_
                refine w_gT H (o := 5) (t := 38) rfl (H.perm 5 rfl) rfl rfl rfl rfl rfl rfl ?_
                refine Ew_of (pcₚ := 131) (fun _ => x_iconst rfl) ?_
                refine Ew_of (pcₚ := 132) (fun _ => x_aload_n rfl (rk2_o (lc35_0) rfl rfl)) ?_
                refine w_gT H (o := 5) (t := 38) rfl (H.perm 5 rfl) rfl rfl rfl rfl rfl rfl ?_
                refine Ew_of (pcₚ := 136) (fun _ => x_iconst rfl) ?_
                refine w_lJ H (o := 38) (n := 3) rfl (H.perm 38 rfl) rfl rfl (H.fix 38 rfl rfl) (show 0 ≤ 0 ∧ 0 < ((3 : Nat) : Int) from q_1579) (by decide) (fun v58 ev58 qv58 => ?_)
                have qv58 : (-9223372036854775808 : Int) ≤ v58 ∧ v58 ≤ 9223372036854775807 := qv58
                have ev58 : (w38) (0) = v58 := (congrFun ((funext (hA_c35 38 rfl)).trans (ew38)) (0)).symm.trans ev58
                have hq2_ : ((w38)) 0 = (v58) := by first | exact ev58 | (have h := ev58; rw [upd1_o (by decide)] at h; exact h)
                refine w_sJ H (o := 38) (n := 3) rfl (H.perm 38 rfl) rfl rfl (H.fix 38 rfl rfl) (show 0 ≤ 1 ∧ 1 < ((3 : Nat) : Int) from q_1580) (by decide) (show (-9223372036854775808 : Int) ≤ v58 ∧ v58 ≤ 9223372036854775807 from qv58) (fun σ H => ?_)
                refine Ew_of (pcₚ := 139) (fun _ => x_aload_n rfl (rk2_o (lc35_0) rfl rfl)) ?_
                refine w_gT H (o := 5) (t := 38) rfl (H.perm 5 rfl) rfl rfl rfl rfl rfl rfl ?_
                refine Ew_of (pcₚ := 143) (fun _ => x_iconst rfl) ?_
                refine Ew_of (pcₚ := 145) (fun _ => x_lload rfl rk2_s) ?_
                refine w_sJ H (o := 38) (n := 3) rfl (H.perm 38 rfl) rfl rfl (H.fix 38 rfl rfl) (show 0 ≤ 0 ∧ 0 < ((3 : Nat) : Int) from q_1579) (by decide) (show (-9223372036854775808 : Int) ≤ (v51 - 1) ∧ (v51 - 1) ≤ 9223372036854775807 by omega) (fun σ H => ?_)
                refine Ew_of (pcₚ := 148) (fun _ => x_lload rfl rk2_s) ?_
                have : dsF ((a1)) ((a2)) (((w38)) 0) (((w38)) 1) (((w38)) 2) = (((v51 - 1)), ((upd1 (upd1 (w38) (1) (v58)) (0) ((v51 - 1)))) 0, ((upd1 (upd1 (w38) (1) (v58)) (0) ((v51 - 1)))) 1, ((upd1 (upd1 (w38) (1) (v58)) (0) ((v51 - 1)))) 2) := by first | exact dsF_A (q := qw) (by omega) hq1_ hq2_ (by omega) | exact dsF_B (q := qw) (by omega) hq2_ (by omega) (by omega) (by omega)
                have : (((v51 - 1)) : Int) = 0 ∨ 1 ≤ ((upd1 (upd1 (w38) (1) (v58)) (0) ((v51 - 1)))) 0 ∧ 1 ≤ ((upd1 (upd1 (w38) (1) (v58)) (0) ((v51 - 1)))) 1 ∧ 1 ≤ ((upd1 (upd1 (w38) (1) (v58)) (0) ((v51 - 1)))) 2 := by first | exact lt_A hq1_ hq2_ (by omega) (by omega) | exact lt_B hq2_ (by omega) (by omega)
                exact w_lreturn rfl (k ((v51 - 1)) σ _ _ H (SF_trans (SF_refl) hS_c35 (any_sub rfl)) (SA_upd (SA_upd (SA_trans (SA_refl) hA_c35 (any_subA rfl)) rfl) rfl) (upd1 (upd1 (w38) (1) (v58)) (0) ((v51 - 1))) (congrArg (fun q => upd1 q (0) ((v51 - 1))) (congrArg (fun q => upd1 q (1) (v58)) ((funext (hA_c35 38 rfl)).trans (ew38)))) (show inrJ ((v51 - 1)) by omega) (show 0 ≤ ((v51 - 1)) from q_1582 ev51 h4) (show ((v51 - 1)) = 0 ∨ 1 ≤ ((upd1 (upd1 (w38) (1) (v58)) (0) ((v51 - 1)))) 0 ∧ 1 ≤ ((upd1 (upd1 (w38) (1) (v58)) (0) ((v51 - 1)))) 1 ∧ 1 ≤ ((upd1 (upd1 (w38) (1) (v58)) (0) ((v51 - 1)))) 2 by assumption) (show dsF (a1) (a2) (((w38)) 0) (((w38)) 1) (((w38)) 2) = (((v51 - 1)), ((upd1 (upd1 (w38) (1) (v58)) (0) ((v51 - 1)))) 0, ((upd1 (upd1 (w38) (1) (v58)) (0) ((v51 - 1)))) 1, ((upd1 (upd1 (w38) (1) (v58)) (0) ((v51 - 1)))) 2) by assumption))
              · exact hc114  _ σ _ _  (rk2_o (lc35_0) rfl rfl) (rk2_s) H (SF_refl) (SA_refl)   (show ((z52) > (0)) ∨ ((z52) ≤ (0) ∧ ((a1 + 1)) > (2)) by omega)
          · refine Ew_of (pcₚ := 79) (fun _ => x_aload_n rfl lc35_0) ?_
            refine w_gT H (o := 5) (t := 38) rfl (H.perm 5 rfl) rfl rfl rfl rfl rfl rfl ?_
            refine Ew_of (pcₚ := 83) (fun _ => x_iconst rfl) ?_
            refine w_lJ H (o := 38) (n := 3) rfl (H.perm 38 rfl) rfl rfl (H.fix 38 rfl rfl) (show 0 ≤ 2 ∧ 2 < ((3 : Nat) : Int) from q_1581) (by decide) (fun v59 ev59 qv59 => ?_)
            have qv59 : (-9223372036854775808 : Int) ≤ v59 ∧ v59 ≤ 9223372036854775807 := qv59
            have ev59 : (w38) (2) = v59 := (congrFun ((funext (hA_c35 38 rfl)).trans (ew38)) (2)).symm.trans ev59
            have hqb := ev59
            refine Ew_of (pcₚ := 95) (fun _ => x_goto rfl rfl) ?_
            refine Ew_of (pcₚ := 97) (fun _ => x_lstore rfl) ?_
            refine Ew_of (pcₚ := 98) (fun _ => x_lload_n rfl (rk2_o (lc35_1) rfl rfl)) ?_
            refine Ew_of (pcₚ := 101) (fun _ => x_ldc2 (z := 3) rfl (by decide)) ?_
            refine w_lcmp rfl (show inrJ (a1) from h0) (show inrJ (3) from q_1577) (fun z60 gz60 gaz60 gbz60 => ?_)
            have hc114 : ∀ (ls : rO) (σ : rS) (F_c114 : hF) (A_c114 : hA) , rlook ls 0 = some (.ref (D 5)) → rlook ls 6 = some (J (v59)) → HS σ0 σ D N F_c114 A_c114 → SF [] F_c35 F_c114 → SA [] A_c35 A_c114 → (((z60) > (0)) ∨ ((z60) ≤ (0) ∧ ((a1 + 1)) > (2))) → Ew 299 (d + 0) 114 ls [] σ c s Q := by
             as_aux_lemma =>
              intro  ls σ F_c114 A_c114  lc114_0 lc114_6 H hS_c114 hA_c114   jc114_0
              refine Ew_of (pcₚ := 115) (fun _ => x_aload_n rfl lc114_0) ?_
              refine w_gT H (o := 5) (t := 38) rfl (H.perm 5 rfl) rfl rfl rfl rfl rfl rfl ?_
              refine Ew_of (pcₚ := 119) (fun _ => x_iconst rfl) ?_
              refine Ew_of (pcₚ := 120) (fun _ => x_aload_n rfl lc114_0) ?_
              refine w_gT H (o := 5) (t := 38) rfl (H.perm 5 rfl) rfl rfl rfl rfl rfl rfl ?_
              refine Ew_of (pcₚ := 124) (fun _ => x_iconst rfl) ?_
              refine w_lJ H (o := 38) (n := 3) rfl (H.perm 38 rfl) rfl rfl (H.fix 38 rfl rfl) (show 0 ≤ 1 ∧ 1 < ((3 : Nat) : Int) from q_1580) (by decide) (fun v61 ev61 qv61 => ?_)
              have qv61 : (-9223372036854775808 : Int) ≤ v61 ∧ v61 ≤ 9223372036854775807 := qv61
              have ev61 : (w38) (1) = v61 := (congrFun ((funext (hA_c114 38 rfl)).trans ((funext (hA_c35 38 rfl)).trans (ew38))) (1)).symm.trans ev61
              have hq1_ := ev61
              refine w_sJ H (o := 38) (n := 3) rfl (H.perm 38 rfl) rfl rfl (H.fix 38 rfl rfl) (show 0 ≤ 2 ∧ 2 < ((3 : Nat) : Int) from q_1581) (by decide) (show (-9223372036854775808 : Int) ≤ v61 ∧ v61 ≤ 9223372036854775807 from qv61) (fun σ H => ?_)
              refine Ew_of (pcₚ := 127) (fun _ => x_aload_n rfl lc114_0) ?_
              refine w_gT H (o := 5) (t := 38) rfl (H.perm 5 rfl) rfl rfl rfl rfl rfl rfl ?_
              refine Ew_of (pcₚ := 131) (fun _ => x_iconst rfl) ?_
              refine Ew_of (pcₚ := 132) (fun _ => x_aload_n rfl lc114_0) ?_
              refine w_gT H (o := 5) (t := 38) rfl (H.perm 5 rfl) rfl rfl rfl rfl rfl rfl ?_
              refine Ew_of (pcₚ := 136) (fun _ => x_iconst rfl) ?_
              refine w_lJ H (o := 38) (n := 3) rfl (H.perm 38 rfl) rfl rfl (H.fix 38 rfl rfl) (show 0 ≤ 0 ∧ 0 < ((3 : Nat) : Int) from q_1579) (by decide) (fun v62 ev62 qv62 => ?_)
              have qv62 : (-9223372036854775808 : Int) ≤ v62 ∧ v62 ≤ 9223372036854775807 := qv62
              have ev62 : (upd1 (w38) (2) (v61)) (0) = v62 := (congrFun (congrArg (fun q => upd1 q (2) (v61)) ((funext (hA_c114 38 rfl)).trans ((funext (hA_c35 38 rfl)).trans (ew38)))) (0)).symm.trans ev62
              have hq2_ : ((w38)) 0 = (v62) := by first | exact ev62 | (have h := ev62; rw [upd1_o (by decide)] at h; exact h)
              refine w_sJ H (o := 38) (n := 3) rfl (H.perm 38 rfl) rfl rfl (H.fix 38 rfl rfl) (show 0 ≤ 1 ∧ 1 < ((3 : Nat) : Int) from q_1580) (by decide) (show (-9223372036854775808 : Int) ≤ v62 ∧ v62 ≤ 9223372036854775807 from qv62) (fun σ H => ?_)
              refine Ew_of (pcₚ := 139) (fun _ => x_aload_n rfl lc114_0) ?_
              refine w_gT H (o := 5) (t := 38) rfl (H.perm 5 rfl) rfl rfl rfl rfl rfl rfl ?_
              refine Ew_of (pcₚ := 143) (fun _ => x_iconst rfl) ?_
              refine Ew_of (pcₚ := 145) (fun _ => x_lload rfl lc114_6) ?_
              refine w_sJ H (o := 38) (n := 3) rfl (H.perm 38 rfl) rfl rfl (H.fix 38 rfl rfl) (show 0 ≤ 0 ∧ 0 < ((3 : Nat) : Int) from q_1579) (by decide) (show (-9223372036854775808 : Int) ≤ v59 ∧ v59 ≤ 9223372036854775807 from qv59) (fun σ H => ?_)
              refine Ew_of (pcₚ := 148) (fun _ => x_lload rfl lc114_6) ?_
              have : dsF ((a1)) ((a2)) (((w38)) 0) (((w38)) 1) (((w38)) 2) = ((v59), ((upd1 (upd1 (upd1 (w38) (2) (v61)) (1) (v62)) (0) (v59))) 0, ((upd1 (upd1 (upd1 (w38) (2) (v61)) (1) (v62)) (0) (v59))) 1, ((upd1 (upd1 (upd1 (w38) (2) (v61)) (1) (v62)) (0) (v59))) 2) := by first | exact dsF_A (q := qw) (by omega) hq1_ hq2_ (by omega) | exact dsF_B (q := qw) (by omega) hq2_ (by omega) (by omega) (by omega)
              have : ((v59) : Int) = 0 ∨ 1 ≤ ((upd1 (upd1 (upd1 (w38) (2) (v61)) (1) (v62)) (0) (v59))) 0 ∧ 1 ≤ ((upd1 (upd1 (upd1 (w38) (2) (v61)) (1) (v62)) (0) (v59))) 1 ∧ 1 ≤ ((upd1 (upd1 (upd1 (w38) (2) (v61)) (1) (v62)) (0) (v59))) 2 := by first | exact lt_A hq1_ hq2_ (by omega) (by omega) | exact lt_B hq2_ (by omega) (by omega)
              exact w_lreturn rfl (k (v59) σ _ _ H (SF_trans (SF_trans (SF_refl) hS_c35 (any_sub rfl)) hS_c114 (any_sub rfl)) (SA_upd (SA_upd (SA_upd (SA_trans (SA_trans (SA_refl) hA_c35 (any_subA rfl)) hA_c114 (any_subA rfl)) rfl) rfl) rfl) (upd1 (upd1 (upd1 (w38) (2) (v61)) (1) (v62)) (0) (v59)) (congrArg (fun q => upd1 q (0) (v59)) (congrArg (fun q => upd1 q (1) (v62)) (congrArg (fun q => upd1 q (2) (v61)) ((funext (hA_c114 38 rfl)).trans ((funext (hA_c35 38 rfl)).trans (ew38)))))) (show inrJ (v59) by omega) (show 0 ≤ (v59) from q_1584 ev59 h4) (show (v59) = 0 ∨ 1 ≤ ((upd1 (upd1 (upd1 (w38) (2) (v61)) (1) (v62)) (0) (v59))) 0 ∧ 1 ≤ ((upd1 (upd1 (upd1 (w38) (2) (v61)) (1) (v62)) (0) (v59))) 1 ∧ 1 ≤ ((upd1 (upd1 (upd1 (w38) (2) (v61)) (1) (v62)) (0) (v59))) 2 by assumption) (show dsF (a1) (a2) (((w38)) 0) (((w38)) 1) (((w38)) 2) = ((v59), ((upd1 (upd1 (upd1 (w38) (2) (v61)) (1) (v62)) (0) (v59))) 0, ((upd1 (upd1 (upd1 (w38) (2) (v61)) (1) (v62)) (0) (v59))) 1, ((upd1 (upd1 (upd1 (w38) (2) (v61)) (1) (v62)) (0) (v59))) 2) by assumption))
            refine w_ifgt (t := 114) rfl rfl (show inr (z60) from gz60) (fun b63 => ?_) (fun b63 => ?_)
            · exact hc114  _ σ _ _  (rk2_o (lc35_0) rfl rfl) (rk2_s) H (SF_refl) (SA_refl)   (show ((z60) > (0)) ∨ ((z60) ≤ (0) ∧ ((a1 + 1)) > (2)) from q_1589 b63)
            · refine Ew_of (pcₚ := 107) (fun _ => x_lload rfl (rk2_o (lc35_4) rfl rfl)) ?_
              refine Ew_of (pcₚ := 110) (fun _ => x_ldc2 (z := 2) rfl (by decide)) ?_
              refine w_lcmp rfl (show inrJ ((a1 + 1)) by omega) (show inrJ (2) from q_1578) (fun z64 gz64 gaz64 gbz64 => ?_)
              refine w_ifle (t := 126) rfl rfl (show inr (z64) from gz64) (fun b65 => ?_) (fun b65 => ?_)
              · refine Ew_of (pcₚ := 127) (fun _ => x_aload_n rfl (rk2_o (lc35_0) rfl rfl)) ?_
                refine w_gT H (o := 5) (t := 38) rfl (H.perm 5 rfl) rfl rfl rfl rfl rfl rfl ?_
                refine Ew_of (pcₚ := 131) (fun _ => x_iconst rfl) ?_
                refine Ew_of (pcₚ := 132) (fun _ => x_aload_n rfl (rk2_o (lc35_0) rfl rfl)) ?_
                refine w_gT H (o := 5) (t := 38) rfl (H.perm 5 rfl) rfl rfl rfl rfl rfl rfl ?_
                refine Ew_of (pcₚ := 136) (fun _ => x_iconst rfl) ?_
                refine w_lJ H (o := 38) (n := 3) rfl (H.perm 38 rfl) rfl rfl (H.fix 38 rfl rfl) (show 0 ≤ 0 ∧ 0 < ((3 : Nat) : Int) from q_1579) (by decide) (fun v66 ev66 qv66 => ?_)
                have qv66 : (-9223372036854775808 : Int) ≤ v66 ∧ v66 ≤ 9223372036854775807 := qv66
                have ev66 : (w38) (0) = v66 := (congrFun ((funext (hA_c35 38 rfl)).trans (ew38)) (0)).symm.trans ev66
                have hq2_ : ((w38)) 0 = (v66) := by first | exact ev66 | (have h := ev66; rw [upd1_o (by decide)] at h; exact h)
                refine w_sJ H (o := 38) (n := 3) rfl (H.perm 38 rfl) rfl rfl (H.fix 38 rfl rfl) (show 0 ≤ 1 ∧ 1 < ((3 : Nat) : Int) from q_1580) (by decide) (show (-9223372036854775808 : Int) ≤ v66 ∧ v66 ≤ 9223372036854775807 from qv66) (fun σ H => ?_)
                refine Ew_of (pcₚ := 139) (fun _ => x_aload_n rfl (rk2_o (lc35_0) rfl rfl)) ?_
                refine w_gT H (o := 5) (t := 38) rfl (H.perm 5 rfl) rfl rfl rfl rfl rfl rfl ?_
                refine Ew_of (pcₚ := 143) (fun _ => x_iconst rfl) ?_
                refine Ew_of (pcₚ := 145) (fun _ => x_lload rfl rk2_s) ?_
                refine w_sJ H (o := 38) (n := 3) rfl (H.perm 38 rfl) rfl rfl (H.fix 38 rfl rfl) (show 0 ≤ 0 ∧ 0 < ((3 : Nat) : Int) from q_1579) (by decide) (show (-9223372036854775808 : Int) ≤ v59 ∧ v59 ≤ 9223372036854775807 from qv59) (fun σ H => ?_)
                refine Ew_of (pcₚ := 148) (fun _ => x_lload rfl rk2_s) ?_
                have : dsF ((a1)) ((a2)) (((w38)) 0) (((w38)) 1) (((w38)) 2) = ((v59), ((upd1 (upd1 (w38) (1) (v66)) (0) (v59))) 0, ((upd1 (upd1 (w38) (1) (v66)) (0) (v59))) 1, ((upd1 (upd1 (w38) (1) (v66)) (0) (v59))) 2) := by first | exact dsF_A (q := qw) (by omega) hq1_ hq2_ (by omega) | exact dsF_B (q := qw) (by omega) hq2_ (by omega) (by omega) (by omega)
                have : ((v59) : Int) = 0 ∨ 1 ≤ ((upd1 (upd1 (w38) (1) (v66)) (0) (v59))) 0 ∧ 1 ≤ ((upd1 (upd1 (w38) (1) (v66)) (0) (v59))) 1 ∧ 1 ≤ ((upd1 (upd1 (w38) (1) (v66)) (0) (v59))) 2 := by first | exact lt_A hq1_ hq2_ (by omega) (by omega) | exact lt_B hq2_ (by omega) (by omega)
                exact w_lreturn rfl (k (v59) σ _ _ H (SF_trans (SF_refl) hS_c35 (any_sub rfl)) (SA_upd (SA_upd (SA_trans (SA_refl) hA_c35 (any_subA rfl)) rfl) rfl) (upd1 (upd1 (w38) (1) (v66)) (0) (v59)) (congrArg (fun q => upd1 q (0) (v59)) (congrArg (fun q => upd1 q (1) (v66)) ((funext (hA_c35 38 rfl)).trans (ew38)))) (show inrJ (v59) by omega) (show 0 ≤ (v59) from q_1584 ev59 h4) (show (v59) = 0 ∨ 1 ≤ ((upd1 (upd1 (w38) (1) (v66)) (0) (v59))) 0 ∧ 1 ≤ ((upd1 (upd1 (w38) (1) (v66)) (0) (v59))) 1 ∧ 1 ≤ ((upd1 (upd1 (w38) (1) (v66)) (0) (v59))) 2 by assumption) (show dsF (a1) (a2) (((w38)) 0) (((w38)) 1) (((w38)) 2) = ((v59), ((upd1 (upd1 (w38) (1) (v66)) (0) (v59))) 0, ((upd1 (upd1 (w38) (1) (v66)) (0) (v59))) 1, ((upd1 (upd1 (w38) (1) (v66)) (0) (v59))) 2) by assumption))
              · exact hc114  _ σ _ _  (rk2_o (lc35_0) rfl rfl) (rk2_s) H (SF_refl) (SA_refl)   (show ((z60) > (0)) ∨ ((z60) ≤ (0) ∧ ((a1 + 1)) > (2)) by omega)
        · refine Ew_of (pcₚ := 61) (fun _ => x_aload_n rfl lc35_0) ?_
          refine w_gT H (o := 5) (t := 38) rfl (H.perm 5 rfl) rfl rfl rfl rfl rfl rfl ?_
          refine Ew_of (pcₚ := 65) (fun _ => x_iconst rfl) ?_
          refine w_lJ H (o := 38) (n := 3) rfl (H.perm 38 rfl) rfl rfl (H.fix 38 rfl rfl) (show 0 ≤ 1 ∧ 1 < ((3 : Nat) : Int) from q_1580) (by decide) (fun v67 ev67 qv67 => ?_)
          have qv67 : (-9223372036854775808 : Int) ≤ v67 ∧ v67 ≤ 9223372036854775807 := qv67
          have ev67 : (w38) (1) = v67 := (congrFun ((funext (hA_c35 38 rfl)).trans (ew38)) (1)).symm.trans ev67
          have hqa := ev67
          refine Ew_of (pcₚ := 95) (fun _ => x_goto rfl rfl) ?_
          refine Ew_of (pcₚ := 97) (fun _ => x_lstore rfl) ?_
          refine Ew_of (pcₚ := 98) (fun _ => x_lload_n rfl (rk2_o (lc35_1) rfl rfl)) ?_
          refine Ew_of (pcₚ := 101) (fun _ => x_ldc2 (z := 3) rfl (by decide)) ?_
          refine w_lcmp rfl (show inrJ (a1) from h0) (show inrJ (3) from q_1577) (fun z68 gz68 gaz68 gbz68 => ?_)
          have hc114 : ∀ (ls : rO) (σ : rS) (F_c114 : hF) (A_c114 : hA) , rlook ls 0 = some (.ref (D 5)) → rlook ls 6 = some (J (v67)) → HS σ0 σ D N F_c114 A_c114 → SF [] F_c35 F_c114 → SA [] A_c35 A_c114 → (((z68) > (0)) ∨ ((z68) ≤ (0) ∧ ((a1 + 1)) > (2))) → Ew 299 (d + 0) 114 ls [] σ c s Q := by
           as_aux_lemma =>
            intro  ls σ F_c114 A_c114  lc114_0 lc114_6 H hS_c114 hA_c114   jc114_0
            refine Ew_of (pcₚ := 115) (fun _ => x_aload_n rfl lc114_0) ?_
            refine w_gT H (o := 5) (t := 38) rfl (H.perm 5 rfl) rfl rfl rfl rfl rfl rfl ?_
            refine Ew_of (pcₚ := 119) (fun _ => x_iconst rfl) ?_
            refine Ew_of (pcₚ := 120) (fun _ => x_aload_n rfl lc114_0) ?_
            refine w_gT H (o := 5) (t := 38) rfl (H.perm 5 rfl) rfl rfl rfl rfl rfl rfl ?_
            refine Ew_of (pcₚ := 124) (fun _ => x_iconst rfl) ?_
            refine w_lJ H (o := 38) (n := 3) rfl (H.perm 38 rfl) rfl rfl (H.fix 38 rfl rfl) (show 0 ≤ 1 ∧ 1 < ((3 : Nat) : Int) from q_1580) (by decide) (fun v69 ev69 qv69 => ?_)
            have qv69 : (-9223372036854775808 : Int) ≤ v69 ∧ v69 ≤ 9223372036854775807 := qv69
            have ev69 : (w38) (1) = v69 := (congrFun ((funext (hA_c114 38 rfl)).trans ((funext (hA_c35 38 rfl)).trans (ew38))) (1)).symm.trans ev69
            have hq1_ := ev69
            refine w_sJ H (o := 38) (n := 3) rfl (H.perm 38 rfl) rfl rfl (H.fix 38 rfl rfl) (show 0 ≤ 2 ∧ 2 < ((3 : Nat) : Int) from q_1581) (by decide) (show (-9223372036854775808 : Int) ≤ v69 ∧ v69 ≤ 9223372036854775807 from qv69) (fun σ H => ?_)
            refine Ew_of (pcₚ := 127) (fun _ => x_aload_n rfl lc114_0) ?_
            refine w_gT H (o := 5) (t := 38) rfl (H.perm 5 rfl) rfl rfl rfl rfl rfl rfl ?_
            refine Ew_of (pcₚ := 131) (fun _ => x_iconst rfl) ?_
            refine Ew_of (pcₚ := 132) (fun _ => x_aload_n rfl lc114_0) ?_
            refine w_gT H (o := 5) (t := 38) rfl (H.perm 5 rfl) rfl rfl rfl rfl rfl rfl ?_
            refine Ew_of (pcₚ := 136) (fun _ => x_iconst rfl) ?_
            refine w_lJ H (o := 38) (n := 3) rfl (H.perm 38 rfl) rfl rfl (H.fix 38 rfl rfl) (show 0 ≤ 0 ∧ 0 < ((3 : Nat) : Int) from q_1579) (by decide) (fun v70 ev70 qv70 => ?_)
            have qv70 : (-9223372036854775808 : Int) ≤ v70 ∧ v70 ≤ 9223372036854775807 := qv70
            have ev70 : (upd1 (w38) (2) (v69)) (0) = v70 := (congrFun (congrArg (fun q => upd1 q (2) (v69)) ((funext (hA_c114 38 rfl)).trans ((funext (hA_c35 38 rfl)).trans (ew38)))) (0)).symm.trans ev70
            have hq2_ : ((w38)) 0 = (v70) := by first | exact ev70 | (have h := ev70; rw [upd1_o (by decide)] at h; exact h)
            refine w_sJ H (o := 38) (n := 3) rfl (H.perm 38 rfl) rfl rfl (H.fix 38 rfl rfl) (show 0 ≤ 1 ∧ 1 < ((3 : Nat) : Int) from q_1580) (by decide) (show (-9223372036854775808 : Int) ≤ v70 ∧ v70 ≤ 9223372036854775807 from qv70) (fun σ H => ?_)
            refine Ew_of (pcₚ := 139) (fun _ => x_aload_n rfl lc114_0) ?_
            refine w_gT H (o := 5) (t := 38) rfl (H.perm 5 rfl) rfl rfl rfl rfl rfl rfl ?_
            refine Ew_of (pcₚ := 143) (fun _ => x_iconst rfl) ?_
            refine Ew_of (pcₚ := 145) (fun _ => x_lload rfl lc114_6) ?_
            refine w_sJ H (o := 38) (n := 3) rfl (H.perm 38 rfl) rfl rfl (H.fix 38 rfl rfl) (show 0 ≤ 0 ∧ 0 < ((3 : Nat) : Int) from q_1579) (by decide) (show (-9223372036854775808 : Int) ≤ v67 ∧ v67 ≤ 9223372036854775807 from qv67) (fun σ H => ?_)
            refine Ew_of (pcₚ := 148) (fun _ => x_lload rfl lc114_6) ?_
            have : dsF ((a1)) ((a2)) (((w38)) 0) (((w38)) 1) (((w38)) 2) = ((v67), ((upd1 (upd1 (upd1 (w38) (2) (v69)) (1) (v70)) (0) (v67))) 0, ((upd1 (upd1 (upd1 (w38) (2) (v69)) (1) (v70)) (0) (v67))) 1, ((upd1 (upd1 (upd1 (w38) (2) (v69)) (1) (v70)) (0) (v67))) 2) := by first | exact dsF_A (q := qw) (by omega) hq1_ hq2_ (by omega) | exact dsF_B (q := qw) (by omega) hq2_ (by omega) (by omega) (by omega)
            have : ((v67) : Int) = 0 ∨ 1 ≤ ((upd1 (upd1 (upd1 (w38) (2) (v69)) (1) (v70)) (0) (v67))) 0 ∧ 1 ≤ ((upd1 (upd1 (upd1 (w38) (2) (v69)) (1) (v70)) (0) (v67))) 1 ∧ 1 ≤ ((upd1 (upd1 (upd1 (w38) (2) (v69)) (1) (v70)) (0) (v67))) 2 := by first | exact lt_A hq1_ hq2_ (by omega) (by omega) | exact lt_B hq2_ (by omega) (by omega)
            exact w_lreturn rfl (k (v67) σ _ _ H (SF_trans (SF_trans (SF_refl) hS_c35 (any_sub rfl)) hS_c114 (any_sub rfl)) (SA_upd (SA_upd (SA_upd (SA_trans (SA_trans (SA_refl) hA_c35 (any_subA rfl)) hA_c114 (any_subA rfl)) rfl) rfl) rfl) (upd1 (upd1 (upd1 (w38) (2) (v69)) (1) (v70)) (0) (v67)) (congrArg (fun q => upd1 q (0) (v67)) (congrArg (fun q => upd1 q (1) (v70)) (congrArg (fun q => upd1 q (2) (v69)) ((funext (hA_c114 38 rfl)).trans ((funext (hA_c35 38 rfl)).trans (ew38)))))) (show inrJ (v67) by omega) (show 0 ≤ (v67) from q_1585 ev67 h4) (show (v67) = 0 ∨ 1 ≤ ((upd1 (upd1 (upd1 (w38) (2) (v69)) (1) (v70)) (0) (v67))) 0 ∧ 1 ≤ ((upd1 (upd1 (upd1 (w38) (2) (v69)) (1) (v70)) (0) (v67))) 1 ∧ 1 ≤ ((upd1 (upd1 (upd1 (w38) (2) (v69)) (1) (v70)) (0) (v67))) 2 by assumption) (show dsF (a1) (a2) (((w38)) 0) (((w38)) 1) (((w38)) 2) = ((v67), ((upd1 (upd1 (upd1 (w38) (2) (v69)) (1) (v70)) (0) (v67))) 0, ((upd1 (upd1 (upd1 (w38) (2) (v69)) (1) (v70)) (0) (v67))) 1, ((upd1 (upd1 (upd1 (w38) (2) (v69)) (1) (v70)) (0) (v67))) 2) by assumption))
          refine w_ifgt (t := 114) rfl rfl (show inr (z68) from gz68) (fun b71 => ?_) (fun b71 => ?_)
          · exact hc114  _ σ _ _  (rk2_o (lc35_0) rfl rfl) (rk2_s) H (SF_refl) (SA_refl)   (show ((z68) > (0)) ∨ ((z68) ≤ (0) ∧ ((a1 + 1)) > (2)) from q_1589 b71)
          · refine Ew_of (pcₚ := 107) (fun _ => x_lload rfl (rk2_o (lc35_4) rfl rfl)) ?_
            refine Ew_of (pcₚ := 110) (fun _ => x_ldc2 (z := 2) rfl (by decide)) ?_
            refine w_lcmp rfl (show inrJ ((a1 + 1)) by omega) (show inrJ (2) from q_1578) (fun z72 gz72 gaz72 gbz72 => ?_)
            refine w_ifle (t := 126) rfl rfl (show inr (z72) from gz72) (fun b73 => ?_) (fun b73 => ?_)
            · refine Ew_of (pcₚ := 127) (fun _ => x_aload_n rfl (rk2_o (lc35_0) rfl rfl)) ?_
              refine w_gT H (o := 5) (t := 38) rfl (H.perm 5 rfl) rfl rfl rfl rfl rfl rfl ?_
              refine Ew_of (pcₚ := 131) (fun _ => x_iconst rfl) ?_
              refine Ew_of (pcₚ := 132) (fun _ => x_aload_n rfl (rk2_o (lc35_0) rfl rfl)) ?_
              refine w_gT H (o := 5) (t := 38) rfl (H.perm 5 rfl) rfl rfl rfl rfl rfl rfl ?_
              refine Ew_of (pcₚ := 136) (fun _ => x_iconst rfl) ?_
              refine w_lJ H (o := 38) (n := 3) rfl (H.perm 38 rfl) rfl rfl (H.fix 38 rfl rfl) (show 0 ≤ 0 ∧ 0 < ((3 : Nat) : Int) from q_1579) (by decide) (fun v74 ev74 qv74 => ?_)
              have qv74 : (-9223372036854775808 : Int) ≤ v74 ∧ v74 ≤ 9223372036854775807 := qv74
              have ev74 : (w38) (0) = v74 := (congrFun ((funext (hA_c35 38 rfl)).trans (ew38)) (0)).symm.trans ev74
              have hq2_ : ((w38)) 0 = (v74) := by first | exact ev74 | (have h := ev74; rw [upd1_o (by decide)] at h; exact h)
              refine w_sJ H (o := 38) (n := 3) rfl (H.perm 38 rfl) rfl rfl (H.fix 38 rfl rfl) (show 0 ≤ 1 ∧ 1 < ((3 : Nat) : Int) from q_1580) (by decide) (show (-9223372036854775808 : Int) ≤ v74 ∧ v74 ≤ 9223372036854775807 from qv74) (fun σ H => ?_)
              refine Ew_of (pcₚ := 139) (fun _ => x_aload_n rfl (rk2_o (lc35_0) rfl rfl)) ?_
              refine w_gT H (o := 5) (t := 38) rfl (H.perm 5 rfl) rfl rfl rfl rfl rfl rfl ?_
              refine Ew_of (pcₚ := 143) (fun _ => x_iconst rfl) ?_
              refine Ew_of (pcₚ := 145) (fun _ => x_lload rfl rk2_s) ?_
              refine w_sJ H (o := 38) (n := 3) rfl (H.perm 38 rfl) rfl rfl (H.fix 38 rfl rfl) (show 0 ≤ 0 ∧ 0 < ((3 : Nat) : Int) from q_1579) (by decide) (show (-9223372036854775808 : Int) ≤ v67 ∧ v67 ≤ 9223372036854775807 from qv67) (fun σ H => ?_)
              refine Ew_of (pcₚ := 148) (fun _ => x_lload rfl rk2_s) ?_
              have : dsF ((a1)) ((a2)) (((w38)) 0) (((w38)) 1) (((w38)) 2) = ((v67), ((upd1 (upd1 (w38) (1) (v74)) (0) (v67))) 0, ((upd1 (upd1 (w38) (1) (v74)) (0) (v67))) 1, ((upd1 (upd1 (w38) (1) (v74)) (0) (v67))) 2) := by first | exact dsF_A (q := qw) (by omega) hq1_ hq2_ (by omega) | exact dsF_B (q := qw) (by omega) hq2_ (by omega) (by omega) (by omega)
              have : ((v67) : Int) = 0 ∨ 1 ≤ ((upd1 (upd1 (w38) (1) (v74)) (0) (v67))) 0 ∧ 1 ≤ ((upd1 (upd1 (w38) (1) (v74)) (0) (v67))) 1 ∧ 1 ≤ ((upd1 (upd1 (w38) (1) (v74)) (0) (v67))) 2 := by first | exact lt_A hq1_ hq2_ (by omega) (by omega) | exact lt_B hq2_ (by omega) (by omega)
              exact w_lreturn rfl (k (v67) σ _ _ H (SF_trans (SF_refl) hS_c35 (any_sub rfl)) (SA_upd (SA_upd (SA_trans (SA_refl) hA_c35 (any_subA rfl)) rfl) rfl) (upd1 (upd1 (w38) (1) (v74)) (0) (v67)) (congrArg (fun q => upd1 q (0) (v67)) (congrArg (fun q => upd1 q (1) (v74)) ((funext (hA_c35 38 rfl)).trans (ew38)))) (show inrJ (v67) by omega) (show 0 ≤ (v67) from q_1585 ev67 h4) (show (v67) = 0 ∨ 1 ≤ ((upd1 (upd1 (w38) (1) (v74)) (0) (v67))) 0 ∧ 1 ≤ ((upd1 (upd1 (w38) (1) (v74)) (0) (v67))) 1 ∧ 1 ≤ ((upd1 (upd1 (w38) (1) (v74)) (0) (v67))) 2 by assumption) (show dsF (a1) (a2) (((w38)) 0) (((w38)) 1) (((w38)) 2) = ((v67), ((upd1 (upd1 (w38) (1) (v74)) (0) (v67))) 0, ((upd1 (upd1 (w38) (1) (v74)) (0) (v67))) 1, ((upd1 (upd1 (w38) (1) (v74)) (0) (v67))) 2) by assumption))
            · exact hc114  _ σ _ _  (rk2_o (lc35_0) rfl rfl) (rk2_s) H (SF_refl) (SA_refl)   (show ((z68) > (0)) ∨ ((z68) ≤ (0) ∧ ((a1 + 1)) > (2)) by omega)
      · refine Ew_of (pcₚ := 44) (fun _ => x_lload_n rfl lc35_1) ?_
        refine Ew_of (pcₚ := 47) (fun _ => x_ldc2 (z := 3) rfl (by decide)) ?_
        refine w_lsub rfl ?_
        refine Ew_of (pcₚ := 95) (fun _ => x_goto rfl rfl) ?_
        refine Ew_of (pcₚ := 97) (fun _ => x_lstore rfl) ?_
        refine Ew_of (pcₚ := 98) (fun _ => x_lload_n rfl (rk2_o (lc35_1) rfl rfl)) ?_
        refine Ew_of (pcₚ := 101) (fun _ => x_ldc2 (z := 3) rfl (by decide)) ?_
        refine w_lcmp rfl (show inrJ (a1) from h0) (show inrJ (3) from q_1577) (fun z75 gz75 gaz75 gbz75 => ?_)
        have hc114 : ∀ (ls : rO) (σ : rS) (F_c114 : hF) (A_c114 : hA) , rlook ls 0 = some (.ref (D 5)) → rlook ls 6 = some (J ((a1 - 3))) → HS σ0 σ D N F_c114 A_c114 → SF [] F_c35 F_c114 → SA [] A_c35 A_c114 → (((z75) > (0)) ∨ ((z75) ≤ (0) ∧ ((a1 + 1)) > (2))) → Ew 299 (d + 0) 114 ls [] σ c s Q := by
         as_aux_lemma =>
          intro  ls σ F_c114 A_c114  lc114_0 lc114_6 H hS_c114 hA_c114   jc114_0
          refine Ew_of (pcₚ := 115) (fun _ => x_aload_n rfl lc114_0) ?_
          refine w_gT H (o := 5) (t := 38) rfl (H.perm 5 rfl) rfl rfl rfl rfl rfl rfl ?_
          refine Ew_of (pcₚ := 119) (fun _ => x_iconst rfl) ?_
          refine Ew_of (pcₚ := 120) (fun _ => x_aload_n rfl lc114_0) ?_
          refine w_gT H (o := 5) (t := 38) rfl (H.perm 5 rfl) rfl rfl rfl rfl rfl rfl ?_
          refine Ew_of (pcₚ := 124) (fun _ => x_iconst rfl) ?_
          refine w_lJ H (o := 38) (n := 3) rfl (H.perm 38 rfl) rfl rfl (H.fix 38 rfl rfl) (show 0 ≤ 1 ∧ 1 < ((3 : Nat) : Int) from q_1580) (by decide) (fun v76 ev76 qv76 => ?_)
          have qv76 : (-9223372036854775808 : Int) ≤ v76 ∧ v76 ≤ 9223372036854775807 := qv76
          have ev76 : (w38) (1) = v76 := (congrFun ((funext (hA_c114 38 rfl)).trans ((funext (hA_c35 38 rfl)).trans (ew38))) (1)).symm.trans ev76
          have hq1_ := ev76
          refine w_sJ H (o := 38) (n := 3) rfl (H.perm 38 rfl) rfl rfl (H.fix 38 rfl rfl) (show 0 ≤ 2 ∧ 2 < ((3 : Nat) : Int) from q_1581) (by decide) (show (-9223372036854775808 : Int) ≤ v76 ∧ v76 ≤ 9223372036854775807 from qv76) (fun σ H => ?_)
          refine Ew_of (pcₚ := 127) (fun _ => x_aload_n rfl lc114_0) ?_
          refine w_gT H (o := 5) (t := 38) rfl (H.perm 5 rfl) rfl rfl rfl rfl rfl rfl ?_
          refine Ew_of (pcₚ := 131) (fun _ => x_iconst rfl) ?_
          refine Ew_of (pcₚ := 132) (fun _ => x_aload_n rfl lc114_0) ?_
          refine w_gT H (o := 5) (t := 38) rfl (H.perm 5 rfl) rfl rfl rfl rfl rfl rfl ?_
          refine Ew_of (pcₚ := 136) (fun _ => x_iconst rfl) ?_
          refine w_lJ H (o := 38) (n := 3) rfl (H.perm 38 rfl) rfl rfl (H.fix 38 rfl rfl) (show 0 ≤ 0 ∧ 0 < ((3 : Nat) : Int) from q_1579) (by decide) (fun v77 ev77 qv77 => ?_)
          have qv77 : (-9223372036854775808 : Int) ≤ v77 ∧ v77 ≤ 9223372036854775807 := qv77
          have ev77 : (upd1 (w38) (2) (v76)) (0) = v77 := (congrFun (congrArg (fun q => upd1 q (2) (v76)) ((funext (hA_c114 38 rfl)).trans ((funext (hA_c35 38 rfl)).trans (ew38)))) (0)).symm.trans ev77
          have hq2_ : ((w38)) 0 = (v77) := by first | exact ev77 | (have h := ev77; rw [upd1_o (by decide)] at h; exact h)
          refine w_sJ H (o := 38) (n := 3) rfl (H.perm 38 rfl) rfl rfl (H.fix 38 rfl rfl) (show 0 ≤ 1 ∧ 1 < ((3 : Nat) : Int) from q_1580) (by decide) (show (-9223372036854775808 : Int) ≤ v77 ∧ v77 ≤ 9223372036854775807 from qv77) (fun σ H => ?_)
          refine Ew_of (pcₚ := 139) (fun _ => x_aload_n rfl lc114_0) ?_
          refine w_gT H (o := 5) (t := 38) rfl (H.perm 5 rfl) rfl rfl rfl rfl rfl rfl ?_
          refine Ew_of (pcₚ := 143) (fun _ => x_iconst rfl) ?_
          refine Ew_of (pcₚ := 145) (fun _ => x_lload rfl lc114_6) ?_
          refine w_sJ H (o := 38) (n := 3) rfl (H.perm 38 rfl) rfl rfl (H.fix 38 rfl rfl) (show 0 ≤ 0 ∧ 0 < ((3 : Nat) : Int) from q_1579) (by decide) (show (-9223372036854775808 : Int) ≤ (a1 - 3) ∧ (a1 - 3) ≤ 9223372036854775807 by omega) (fun σ H => ?_)
          refine Ew_of (pcₚ := 148) (fun _ => x_lload rfl lc114_6) ?_
          have : dsF ((a1)) ((a2)) (((w38)) 0) (((w38)) 1) (((w38)) 2) = (((a1 - 3)), ((upd1 (upd1 (upd1 (w38) (2) (v76)) (1) (v77)) (0) ((a1 - 3)))) 0, ((upd1 (upd1 (upd1 (w38) (2) (v76)) (1) (v77)) (0) ((a1 - 3)))) 1, ((upd1 (upd1 (upd1 (w38) (2) (v76)) (1) (v77)) (0) ((a1 - 3)))) 2) := by first | exact dsF_A (q := qw) (by omega) hq1_ hq2_ (by omega) | exact dsF_B (q := qw) (by omega) hq2_ (by omega) (by omega) (by omega)
          have : (((a1 - 3)) : Int) = 0 ∨ 1 ≤ ((upd1 (upd1 (upd1 (w38) (2) (v76)) (1) (v77)) (0) ((a1 - 3)))) 0 ∧ 1 ≤ ((upd1 (upd1 (upd1 (w38) (2) (v76)) (1) (v77)) (0) ((a1 - 3)))) 1 ∧ 1 ≤ ((upd1 (upd1 (upd1 (w38) (2) (v76)) (1) (v77)) (0) ((a1 - 3)))) 2 := by first | exact lt_A hq1_ hq2_ (by omega) (by omega) | exact lt_B hq2_ (by omega) (by omega)
          exact w_lreturn rfl (k ((a1 - 3)) σ _ _ H (SF_trans (SF_trans (SF_refl) hS_c35 (any_sub rfl)) hS_c114 (any_sub rfl)) (SA_upd (SA_upd (SA_upd (SA_trans (SA_trans (SA_refl) hA_c35 (any_subA rfl)) hA_c114 (any_subA rfl)) rfl) rfl) rfl) (upd1 (upd1 (upd1 (w38) (2) (v76)) (1) (v77)) (0) ((a1 - 3))) (congrArg (fun q => upd1 q (0) ((a1 - 3))) (congrArg (fun q => upd1 q (1) (v77)) (congrArg (fun q => upd1 q (2) (v76)) ((funext (hA_c114 38 rfl)).trans ((funext (hA_c35 38 rfl)).trans (ew38)))))) (show inrJ ((a1 - 3)) by omega) (show 0 ≤ ((a1 - 3)) by omega) (show ((a1 - 3)) = 0 ∨ 1 ≤ ((upd1 (upd1 (upd1 (w38) (2) (v76)) (1) (v77)) (0) ((a1 - 3)))) 0 ∧ 1 ≤ ((upd1 (upd1 (upd1 (w38) (2) (v76)) (1) (v77)) (0) ((a1 - 3)))) 1 ∧ 1 ≤ ((upd1 (upd1 (upd1 (w38) (2) (v76)) (1) (v77)) (0) ((a1 - 3)))) 2 by assumption) (show dsF (a1) (a2) (((w38)) 0) (((w38)) 1) (((w38)) 2) = (((a1 - 3)), ((upd1 (upd1 (upd1 (w38) (2) (v76)) (1) (v77)) (0) ((a1 - 3)))) 0, ((upd1 (upd1 (upd1 (w38) (2) (v76)) (1) (v77)) (0) ((a1 - 3)))) 1, ((upd1 (upd1 (upd1 (w38) (2) (v76)) (1) (v77)) (0) ((a1 - 3)))) 2) by assumption))
        refine w_ifgt (t := 114) rfl rfl (show inr (z75) from gz75) (fun b78 => ?_) (fun b78 => ?_)
        · exact hc114  _ σ _ _  (rk2_o (lc35_0) rfl rfl) (rk2_s) H (SF_refl) (SA_refl)   (show ((z75) > (0)) ∨ ((z75) ≤ (0) ∧ ((a1 + 1)) > (2)) from q_1589 b78)
        · refine Ew_of (pcₚ := 107) (fun _ => x_lload rfl (rk2_o (lc35_4) rfl rfl)) ?_
          refine Ew_of (pcₚ := 110) (fun _ => x_ldc2 (z := 2) rfl (by decide)) ?_
          refine w_lcmp rfl (show inrJ ((a1 + 1)) by omega) (show inrJ (2) from q_1578) (fun z79 gz79 gaz79 gbz79 => ?_)
          refine w_ifle (t := 126) rfl rfl (show inr (z79) from gz79) (fun b80 => ?_) (fun b80 => ?_)
          · refine Ew_of (pcₚ := 127) (fun _ => x_aload_n rfl (rk2_o (lc35_0) rfl rfl)) ?_
            refine w_gT H (o := 5) (t := 38) rfl (H.perm 5 rfl) rfl rfl rfl rfl rfl rfl ?_
            refine Ew_of (pcₚ := 131) (fun _ => x_iconst rfl) ?_
            refine Ew_of (pcₚ := 132) (fun _ => x_aload_n rfl (rk2_o (lc35_0) rfl rfl)) ?_
            refine w_gT H (o := 5) (t := 38) rfl (H.perm 5 rfl) rfl rfl rfl rfl rfl rfl ?_
            refine Ew_of (pcₚ := 136) (fun _ => x_iconst rfl) ?_
            refine w_lJ H (o := 38) (n := 3) rfl (H.perm 38 rfl) rfl rfl (H.fix 38 rfl rfl) (show 0 ≤ 0 ∧ 0 < ((3 : Nat) : Int) from q_1579) (by decide) (fun v81 ev81 qv81 => ?_)
            have qv81 : (-9223372036854775808 : Int) ≤ v81 ∧ v81 ≤ 9223372036854775807 := qv81
            have ev81 : (w38) (0) = v81 := (congrFun ((funext (hA_c35 38 rfl)).trans (ew38)) (0)).symm.trans ev81
            have hq2_ : ((w38)) 0 = (v81) := by first | exact ev81 | (have h := ev81; rw [upd1_o (by decide)] at h; exact h)
            refine w_sJ H (o := 38) (n := 3) rfl (H.perm 38 rfl) rfl rfl (H.fix 38 rfl rfl) (show 0 ≤ 1 ∧ 1 < ((3 : Nat) : Int) from q_1580) (by decide) (show (-9223372036854775808 : Int) ≤ v81 ∧ v81 ≤ 9223372036854775807 from qv81) (fun σ H => ?_)
            refine Ew_of (pcₚ := 139) (fun _ => x_aload_n rfl (rk2_o (lc35_0) rfl rfl)) ?_
            refine w_gT H (o := 5) (t := 38) rfl (H.perm 5 rfl) rfl rfl rfl rfl rfl rfl ?_
            refine Ew_of (pcₚ := 143) (fun _ => x_iconst rfl) ?_
            refine Ew_of (pcₚ := 145) (fun _ => x_lload rfl rk2_s) ?_
            refine w_sJ H (o := 38) (n := 3) rfl (H.perm 38 rfl) rfl rfl (H.fix 38 rfl rfl) (show 0 ≤ 0 ∧ 0 < ((3 : Nat) : Int) from q_1579) (by decide) (show (-9223372036854775808 : Int) ≤ (a1 - 3) ∧ (a1 - 3) ≤ 9223372036854775807 by omega) (fun σ H => ?_)
            refine Ew_of (pcₚ := 148) (fun _ => x_lload rfl rk2_s) ?_
            have : dsF ((a1)) ((a2)) (((w38)) 0) (((w38)) 1) (((w38)) 2) = (((a1 - 3)), ((upd1 (upd1 (w38) (1) (v81)) (0) ((a1 - 3)))) 0, ((upd1 (upd1 (w38) (1) (v81)) (0) ((a1 - 3)))) 1, ((upd1 (upd1 (w38) (1) (v81)) (0) ((a1 - 3)))) 2) := by first | exact dsF_A (q := qw) (by omega) hq1_ hq2_ (by omega) | exact dsF_B (q := qw) (by omega) hq2_ (by omega) (by omega) (by omega)
            have : (((a1 - 3)) : Int) = 0 ∨ 1 ≤ ((upd1 (upd1 (w38) (1) (v81)) (0) ((a1 - 3)))) 0 ∧ 1 ≤ ((upd1 (upd1 (w38) (1) (v81)) (0) ((a1 - 3)))) 1 ∧ 1 ≤ ((upd1 (upd1 (w38) (1) (v81)) (0) ((a1 - 3)))) 2 := by first | exact lt_A hq1_ hq2_ (by omega) (by omega) | exact lt_B hq2_ (by omega) (by omega)
            exact w_lreturn rfl (k ((a1 - 3)) σ _ _ H (SF_trans (SF_refl) hS_c35 (any_sub rfl)) (SA_upd (SA_upd (SA_trans (SA_refl) hA_c35 (any_subA rfl)) rfl) rfl) (upd1 (upd1 (w38) (1) (v81)) (0) ((a1 - 3))) (congrArg (fun q => upd1 q (0) ((a1 - 3))) (congrArg (fun q => upd1 q (1) (v81)) ((funext (hA_c35 38 rfl)).trans (ew38)))) (show inrJ ((a1 - 3)) by omega) (show 0 ≤ ((a1 - 3)) by omega) (show ((a1 - 3)) = 0 ∨ 1 ≤ ((upd1 (upd1 (w38) (1) (v81)) (0) ((a1 - 3)))) 0 ∧ 1 ≤ ((upd1 (upd1 (w38) (1) (v81)) (0) ((a1 - 3)))) 1 ∧ 1 ≤ ((upd1 (upd1 (w38) (1) (v81)) (0) ((a1 - 3)))) 2 by assumption) (show dsF (a1) (a2) (((w38)) 0) (((w38)) 1) (((w38)) 2) = (((a1 - 3)), ((upd1 (upd1 (w38) (1) (v81)) (0) ((a1 - 3)))) 0, ((upd1 (upd1 (w38) (1) (v81)) (0) ((a1 - 3)))) 1, ((upd1 (upd1 (w38) (1) (v81)) (0) ((a1 - 3)))) 2) by assumption))
          · exact hc114  _ σ _ _  (rk2_o (lc35_0) rfl rfl) (rk2_s) H (SF_refl) (SA_refl)   (show ((z75) > (0)) ∨ ((z75) ≤ (0) ∧ ((a1 + 1)) > (2)) by omega)
    refine w_ifgt (t := 35) rfl rfl (show inr (z44) from gz44) (fun b82 => ?_) (fun b82 => ?_)
    · exact hc35  _ σ _ _  (rk2_o (rfl) rfl rfl) (rk2_o (rfl) rfl rfl) (rk2_s) H (SF_refl) (SA_refl)   (show ((z44) > (0)) ∨ ((z44) ≤ (0) ∧ ((a1 + 1)) ≠ (1)) from q_1590 b82)
    · refine Ew_of (pcₚ := 23) (fun _ => x_lload rfl rk2_s) ?_
      refine Ew_of (pcₚ := 24) (fun _ => x_lconst (z := 1) rfl (by decide)) ?_
      refine w_lcmp rfl (show inrJ ((a1 + 1)) by omega) (show inrJ (1) from q_1587) (fun z83 gz83 gaz83 gbz83 => ?_)
      refine w_ifne (t := 35) rfl rfl (show inr (z83) from gz83) (fun b84 => ?_) (fun b84 => ?_)
      · exact hc35  _ σ _ _  (rk2_o (rfl) rfl rfl) (rk2_o (rfl) rfl rfl) (rk2_s) H (SF_refl) (SA_refl)   (show ((z44) > (0)) ∨ ((z44) ≤ (0) ∧ ((a1 + 1)) ≠ (1)) from q_1591 b82 h2)
      · refine Ew_of (pcₚ := 29) (fun _ => x_aload_n rfl (rk2_o (rfl) rfl rfl)) ?_
        refine w_gT H (o := 5) (t := 38) rfl (H.perm 5 rfl) rfl rfl rfl rfl rfl rfl ?_
        refine Ew_of (pcₚ := 33) (fun _ => x_iconst rfl) ?_
        refine w_lJ H (o := 38) (n := 3) rfl (H.perm 38 rfl) rfl rfl (H.fix 38 rfl rfl) (show 0 ≤ 0 ∧ 0 < ((3 : Nat) : Int) from q_1579) (by decide) (fun v85 ev85 qv85 => ?_)
        have qv85 : (-9223372036854775808 : Int) ≤ v85 ∧ v85 ≤ 9223372036854775807 := qv85
        have ev85 : (w38) (0) = v85 := (congrFun (ew38) (0)).symm.trans ev85
        have : dsF ((a1)) ((a2)) (((w38)) 0) (((w38)) 1) (((w38)) 2) = ((v85), ((w38)) 0, ((w38)) 1, ((w38)) 2) := dsF_i (w := qw) (by omega) (by omega)
        have : ((v85) : Int) = 0 ∨ 1 ≤ ((w38)) 0 ∧ 1 ≤ ((w38)) 1 ∧ 1 ≤ ((w38)) 2 := by omega
        exact w_lreturn rfl (k (v85) σ _ _ H (SF_refl) (SA_refl) (w38) (ew38) (show inrJ (v85) by omega) (show 0 ≤ (v85) from q_1588 ev85 h4) (show (v85) = 0 ∨ 1 ≤ ((w38)) 0 ∧ 1 ≤ ((w38)) 1 ∧ 1 ≤ ((w38)) 2 by assumption) (show dsF (a1) (a2) (((w38)) 0) (((w38)) 1) (((w38)) 2) = ((v85), ((w38)) 0, ((w38)) 1, ((w38)) 2) by assumption))

