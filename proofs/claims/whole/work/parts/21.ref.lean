/-- Tokens.remember -/
theorem M354 {σ0 σ : rS} {D N : Nat → Nat} {F : hF} {A : hA} {d c s : Nat} {Q : wQ} (H : HS σ0 σ D N F A)  (k : ∀ σ F' A', HS σ0 σ D N F' A' → SF [(3, 2)] F F' → SA [16] A A' → Q none σ c s) : Ew 354 (d + 0) 0 (rargs 0 [.ref (D 3)]) [] σ c s Q := by
  refine Ew_of (pc' := 1) (fun _ => x_iconst rfl) ?_
  refine Ew_of (pc' := 2) (fun _ => x_istore_n rfl) ?_
  have r1 : (0 : Int) ≤ F 1 1 ∧ F 1 1 ≤ 65536 := by have h1 : (0 : Int) ≤ F 1 1 ∧ F 1 1 ≤ 65536 := H.frng 1 1; have h2 : F 1 1 = F 1 1 := rfl; omega
  suffices hl2 : ∀ (m : Nat) (ls : rO) (σ : rS) (F_2 : hF) (A_2 : hA) (x2_1 : Int), rlook ls 0 = some (.ref (D 3)) → rlook ls 1 = some (I x2_1) → HS σ0 σ D N F_2 A_2 → SF [] F F_2 → SA [16] A A_2 → (0 ≤ x2_1) → (x2_1 ≤ (F 1 1)) → ((F 1 1) - x2_1).toNat = m → Ew 354 (d + 0) 2 ls [] σ c s Q from
    hl2 _ _ _ _ _ (0) (rk_o (rfl) rfl rfl) (rk_s) H SF_refl SA_refl (by omega) (by omega) rfl
  intro m
  induction m using Nat.strongRecOn with
  | _ m ih2 =>
    intro ls σ F_2 A_2 x2_1 l2_0 l2_1 H hS_2 hA_2 j2_0 j2_1 hm2
    have r2 : (0 : Int) ≤ F 1 1 ∧ F 1 1 ≤ 65536 := by have h1 : (0 : Int) ≤ F_2 1 1 ∧ F_2 1 1 ≤ 65536 := H.frng 1 1; have h2 : F_2 1 1 = F 1 1 := (hS_2 1 1 rfl); omega
    refine Ew_of (pc' := 3) (fun _ => x_iload_n rfl l2_1) ?_
    refine Ew_of (pc' := 4) (fun _ => x_aload_n rfl l2_0) ?_
    refine w_gT H (o := 3) (t := 1) rfl (H.perm 3 rfl) rfl rfl rfl rfl rfl rfl ?_
    refine w_gI H (o := 1) (w := F 1 1) rfl (H.perm 1 rfl) rfl rfl rfl (fun _ => rfl) (hS_2 1 1 rfl) ?_
    have r3 : (0 : Int) ≤ F 1 1 ∧ F 1 1 ≤ 65536 := by have h1 : (0 : Int) ≤ F_2 1 1 ∧ F_2 1 1 ≤ 65536 := H.frng 1 1; have h2 : F_2 1 1 = F 1 1 := (hS_2 1 1 rfl); omega
    refine w_icmpge (t := 34) rfl rfl (show inr (x2_1) by omega) (show inr (F 1 1) by omega) (fun b4 => ?_) (fun b4 => ?_)
    · refine Ew_of (pc' := 35) (fun _ => x_aload_n rfl l2_0) ?_
      refine Ew_of (pc' := 36) (fun _ => x_aload_n rfl l2_0) ?_
      refine w_gT H (o := 3) (t := 1) rfl (H.perm 3 rfl) rfl rfl rfl rfl rfl rfl ?_
      refine w_gI H (o := 1) (w := F 1 1) rfl (H.perm 1 rfl) rfl rfl rfl (fun _ => rfl) (hS_2 1 1 rfl) ?_
      have r5 : (0 : Int) ≤ F 1 1 ∧ F 1 1 ≤ 65536 := by have h1 : (0 : Int) ≤ F_2 1 1 ∧ F_2 1 1 ≤ 65536 := H.frng 1 1; have h2 : F_2 1 1 = F 1 1 := (hS_2 1 1 rfl); omega
      refine w_pI H (o := 3) rfl rfl (H.perm 3 rfl) rfl rfl rfl (fun _ => rfl) rfl (show (0 : Int) ≤ F 1 1 ∧ F 1 1 ≤ 65536 by omega) (fun σ H => ?_)
      exact w_ret rfl (k σ _ _ H (SF_upd (SF_trans (SF_refl) hS_2 (any_sub rfl)) rfl) (SA_trans (SA_refl) hA_2 (any_subA rfl)))
    · refine Ew_of (pc' := 14) (fun _ => x_aload_n rfl l2_0) ?_
      refine w_gT H (o := 3) (t := 16) rfl (H.perm 3 rfl) rfl rfl rfl rfl rfl rfl ?_
      refine Ew_of (pc' := 18) (fun _ => x_iload_n rfl l2_1) ?_
      refine Ew_of (pc' := 19) (fun _ => x_aload_n rfl l2_0) ?_
      refine w_gT H (o := 3) (t := 1) rfl (H.perm 3 rfl) rfl rfl rfl rfl rfl rfl ?_
      refine w_gT H (o := 1) (t := 14) rfl (H.perm 1 rfl) rfl rfl rfl rfl rfl rfl ?_
      refine Ew_of (pc' := 26) (fun _ => x_iload_n rfl l2_1) ?_
      refine w_lI H (o := 14) (n := 65536) rfl (H.perm 14 rfl) rfl rfl (H.fix 14 rfl rfl) (show 0 ≤ x2_1 ∧ x2_1 < ((65536 : Nat) : Int) by omega) (by decide) (fun v6 ev6 qv6 => ?_)
      have qv6 : (0 : Int) ≤ v6 ∧ v6 ≤ 255 := qv6
      refine w_sI H (o := 16) (n := 65536) rfl (H.perm 16 rfl) rfl rfl (H.fix 16 rfl rfl) (show 0 ≤ x2_1 ∧ x2_1 < ((65536 : Nat) : Int) by omega) (by decide) (show (0 : Int) ≤ v6 ∧ v6 ≤ 255 by omega) (fun σ H => ?_)
      refine Ew_of (pc' := 31) (fun _ => x_iinc (len := 3) rfl (l2_1)) ?_
      refine Ew_of (pc' := 2) (fun _ => x_goto rfl rfl) ?_
      exact ih2 _ (by omega) _ σ _ _ ((x2_1 + 1)) (rk_o (l2_0) rfl rfl) (rk_s) H (hS_2) (SA_upd (hA_2) rfl) (by omega) (by omega) rfl
/-- Tokens.forget -/
theorem M355 {σ0 σ : rS} {D N : Nat → Nat} {F : hF} {A : hA} {d c s : Nat} {Q : wQ} (H : HS σ0 σ D N F A)  (k : ∀ σ F' A', HS σ0 σ D N F' A' → SF [(3, 2)] F F' → SA [] A A' → Q none σ c s) : Ew 355 (d + 0) 0 (rargs 0 [.ref (D 3)]) [] σ c s Q := by
  refine Ew_of (pc' := 1) (fun _ => x_aload_n rfl rfl) ?_
  refine Ew_of (pc' := 2) (fun _ => x_iconst rfl) ?_
  refine w_pI H (o := 3) rfl rfl (H.perm 3 rfl) rfl rfl rfl (fun _ => rfl) rfl (show (0 : Int) ≤ 0 ∧ 0 ≤ 65536 by omega) (fun σ H => ?_)
  exact w_ret rfl (k σ _ _ H (SF_upd (SF_refl) rfl) (SA_refl))
