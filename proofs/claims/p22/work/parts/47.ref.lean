/-- Writer.rule -/
theorem M387 {σ0 σ : rS} {D N : Nat → Nat} {F : hF} {A : hA} {d c s : Nat} {Q : wQ} (H : HS σ0 σ D N F A) {a1 a2 : Int} (h0 : inr (a1)) (h1 : inr (a2)) (h2 : 0 ≤ (a1) ∧ (a1) ≤ 3 ∧ 0 ≤ (a2) ∧ (a2) ≤ 8) (k : ∀ σ Fₚ Aₚ, HS σ0 σ D N Fₚ Aₚ → SF [(6, 1), (6, 2)] F Fₚ → SA [] A Aₚ → ∀ y6_2 : Int, Fₚ 6 2 = y6_2 → ((y6_2) = (a2)) → Q none σ c s) : Ew 387 (d + 0) 0 (rargs 0 [.ref (D 6), I a1, I a2]) [] σ c s Q := by
  refine Ew_of (pcₚ := 1) (fun _ => x_aload_n rfl rfl) ?_
  refine Ew_of (pcₚ := 2) (fun _ => x_iload_n rfl rfl) ?_
  refine w_pI H (o := 6) rfl rfl (H.perm 6 rfl) rfl rfl rfl (fun _ => rfl) rfl (show (0 : Int) ≤ a1 ∧ a1 ≤ 3 from q_1685 h2) (fun σ H => ?_)
  refine Ew_of (pcₚ := 6) (fun _ => x_aload_n rfl rfl) ?_
  refine Ew_of (pcₚ := 7) (fun _ => x_iload_n rfl rfl) ?_
  refine w_pI H (o := 6) rfl rfl (H.perm 6 rfl) rfl rfl rfl (fun _ => rfl) rfl (show (0 : Int) ≤ a2 ∧ a2 ≤ 8 from q_1686 h2) (fun σ H => ?_)
  exact w_ret rfl (k σ _ _ H (SF_upd (SF_upd (SF_refl) rfl) rfl) (SA_refl) (a2) (rfl) (show (a2) = a2 from q_42))
/-- Writer.put -/
theorem M389 {σ0 σ : rS} {D N : Nat → Nat} {F : hF} {A : hA} {d c s : Nat} {Q : wQ} (H : HS σ0 σ D N F A) {a1 a2 : Int} (u6_35 : Int) (eu6_35 : F 6 35 = u6_35) (h0 : inr (a1)) (h1 : inr (a2)) (h2 : 0 ≤ (a2) ∧ (a2) ≤ 31) (h3 : 0 ≤ (u6_35) ∧ (u6_35) ≤ 90000000) (k : ∀ σ Fₚ Aₚ, HS σ0 σ D N Fₚ Aₚ → SF [(6, 35)] F Fₚ → SA [69] A Aₚ → ∀ y6_35 : Int, Fₚ 6 35 = y6_35 → ((y6_35) = (u6_35) + (a2)) → Q none σ c s) : Ew 389 (d + 0) 0 (rargs 0 [.ref (D 6), I a1, I a2]) [] σ c s Q := by
  have r1 : (0 : Int) ≤ u6_35 ∧ u6_35 ≤ 100000000 := rngE (show (0 : Int) ≤ F 6 35 ∧ F 6 35 ≤ 100000000 from H.frng 6 35) (show F 6 35 = u6_35 from (eu6_35))
  refine Ew_of (pcₚ := 1) (fun _ => x_iconst rfl) ?_
  refine Ew_of (pcₚ := 2) (fun _ => x_istore_n rfl) ?_
  suffices hl2 : ∀ (m : Nat), ∀ (ls : rO) (σ : rS) (F_2 : hF) (A_2 : hA) (x2_3 : Int), rlook ls 0 = some (.ref (D 6)) → rlook ls 1 = some (I (a1)) → rlook ls 2 = some (I (a2)) → rlook ls 3 = some (I (x2_3)) → HS σ0 σ D N F_2 A_2 → SF [(6, 35)] F F_2 → SA [69] A A_2 → ∀ y2_6_35 : Int, F_2 6 35 = y2_6_35 → (inr (x2_3)) → ((0) ≤ (x2_3)) → ((x2_3) ≤ (0) ∨ (x2_3) ≤ ((a2))) → ((y2_6_35) = (u6_35) + (x2_3)) → (((a2)) - (x2_3)).toNat = m → Ew 389 (d + 0) 2 ls [] σ c s Q from
    hl2 _ _ σ _ _ (0) (rk_o (rfl) rfl rfl) (rk_o (rfl) rfl rfl) (rk_o (rfl) rfl rfl) (rk_s) H (SF_refl) (SA_refl) (u6_35) ((eu6_35))  (show inr (0) from q_20) (show (0) ≤ (0) from q_25) (show (0) ≤ (0) ∨ (0) ≤ ((a2)) from q_24) (show (u6_35) = (u6_35) + (0) from q_110) rfl
  as_aux_lemma =>
  intro m
  induction m using Nat.strongRecOn with
  | _ m ih2 =>
    intro ls σ F_2 A_2 x2_3 l2_0 l2_1 l2_2 l2_3 H hS_2 hA_2 y2_6_35 ey2_6_35  j2_0 j2_1 j2_2 j2_3 hm2
    have r2 : (0 : Int) ≤ y2_6_35 ∧ y2_6_35 ≤ 100000000 := rngE (show (0 : Int) ≤ F_2 6 35 ∧ F_2 6 35 ≤ 100000000 from H.frng 6 35) (show F_2 6 35 = y2_6_35 from (ey2_6_35))
    refine Ew_of (pcₚ := 3) (fun _ => x_iload_n rfl l2_3) ?_
    refine Ew_of (pcₚ := 4) (fun _ => x_iload_n rfl l2_2) ?_
    refine w_icmpge (t := 70) rfl rfl (show inr (x2_3) from j2_0) (show inr (a2) from h1) (fun b3 => ?_) (fun b3 => ?_)
    · exact w_ret rfl (k σ _ _ H (SF_trans (SF_refl) hS_2 (any_sub rfl)) (SA_trans (SA_refl) hA_2 (any_subA rfl)) (y2_6_35) ((ey2_6_35)) (show (y2_6_35) = (u6_35) + a2 from q_1687 b3 h2 j2_2 j2_3))
    · have hc54 : ∀ (ls : rO) (σ : rS) (F_c54 : hF) (A_c54 : hA) , rlook ls 0 = some (.ref (D 6)) → rlook ls 1 = some (I (a1)) → rlook ls 2 = some (I (a2)) → rlook ls 3 = some (I (x2_3)) → HS σ0 σ D N F_c54 A_c54 → SF [] F_2 F_c54 → SA [69] A_2 A_c54 → Ew 389 (d + 0) 54 ls [] σ c s Q := by
       as_aux_lemma =>
        intro  ls σ F_c54 A_c54  lc54_0 lc54_1 lc54_2 lc54_3 H hS_c54 hA_c54   
        refine Ew_of (pcₚ := 55) (fun _ => x_aload_n rfl lc54_0) ?_
        refine Ew_of (pcₚ := 56) (fun _ => x_dup rfl rfl) ?_
        refine w_gI H (o := 6) (w := y2_6_35) rfl (H.perm 6 rfl) rfl rfl rfl (fun _ => rfl) ((hS_c54 6 35 rfl).trans (ey2_6_35)) ?_
        refine Ew_of (pcₚ := 60) (fun _ => x_iconst rfl) ?_
        refine w_iadd rfl ?_
        refine w_pI H (o := 6) rfl rfl (H.perm 6 rfl) rfl rfl rfl (fun _ => rfl) rfl (show (0 : Int) ≤ (y2_6_35 + 1) ∧ (y2_6_35 + 1) ≤ 100000000 by omega) (fun σ H => ?_)
        refine Ew_of (pcₚ := 67) (fun _ => x_iinc (len := 3) rfl (lc54_3)) ?_
        refine Ew_of (pcₚ := 2) (fun _ => x_goto rfl rfl) ?_
        exact ih2 _ (msE hm2 q_31 (q_34 b3)) _ σ _ _ ((x2_3 + 1)) (rk_o (lc54_0) rfl rfl) (rk_o (lc54_1) rfl rfl) (rk_o (lc54_2) rfl rfl) (rk_s) H (SF_upd (SF_trans (hS_2) hS_c54 (any_sub rfl)) rfl) (SA_trans (hA_2) hA_c54 (any_subA rfl)) ((y2_6_35 + 1)) (rfl)  (show inr ((x2_3 + 1)) from q_1135 b3 h2 j2_1) (show (0) ≤ ((x2_3 + 1)) from q_29 j2_1) (show ((x2_3 + 1)) ≤ (0) ∨ ((x2_3 + 1)) ≤ ((a2)) from q_33 b3) (show ((y2_6_35 + 1)) = (u6_35) + ((x2_3 + 1)) from q_302 j2_3) rfl
      refine Ew_of (pcₚ := 8) (fun _ => x_aload_n rfl l2_0) ?_
      refine w_gI H (o := 6) (w := y2_6_35) rfl (H.perm 6 rfl) rfl rfl rfl (fun _ => rfl) (ey2_6_35) ?_
      refine Ew_of (pcₚ := 13) (fun _ => x_ldc (z := 192000) rfl (by decide)) ?_
      refine w_icmpge (t := 54) rfl rfl (show inr (y2_6_35) from q_1689 r2) (show inr (192000) from q_1688) (fun b4 => ?_) (fun b4 => ?_)
      · exact hc54  _ σ _ _  (l2_0) (l2_1) (l2_2) (l2_3) H (SF_refl) (SA_refl)
      · refine Ew_of (pcₚ := 17) (fun _ => x_aload_n rfl l2_0) ?_
        refine w_gT H (o := 6) (t := 69) rfl (H.perm 6 rfl) rfl rfl rfl rfl rfl rfl ?_
        refine Ew_of (pcₚ := 21) (fun _ => x_aload_n rfl l2_0) ?_
        refine w_gI H (o := 6) (w := y2_6_35) rfl (H.perm 6 rfl) rfl rfl rfl (fun _ => rfl) (ey2_6_35) ?_
        refine Ew_of (pcₚ := 26) (fun _ => x_bipush (z := 8) rfl (by decide)) ?_
        refine w_idiv rfl (show inr (y2_6_35) ∧ 0 ≤ y2_6_35 from q_1690 b4 r2) (show inr (8) ∧ 0 < 8 from q_810) ?_
        refine Ew_of (pcₚ := 28) (fun _ => x_aload_n rfl l2_0) ?_
        refine w_gT H (o := 6) (t := 69) rfl (H.perm 6 rfl) rfl rfl rfl rfl rfl rfl ?_
        refine Ew_of (pcₚ := 32) (fun _ => x_aload_n rfl l2_0) ?_
        refine w_gI H (o := 6) (w := y2_6_35) rfl (H.perm 6 rfl) rfl rfl rfl (fun _ => rfl) (ey2_6_35) ?_
        refine Ew_of (pcₚ := 37) (fun _ => x_bipush (z := 8) rfl (by decide)) ?_
        refine w_idiv rfl (show inr (y2_6_35) ∧ 0 ≤ y2_6_35 from q_1690 b4 r2) (show inr (8) ∧ 0 < 8 from q_810) ?_
        refine w_lI H (o := 69) (n := 24000) rfl (H.perm 69 rfl) rfl rfl (H.fix 69 rfl rfl) (show 0 ≤ (y2_6_35 / 8) ∧ (y2_6_35 / 8) < ((24000 : Nat) : Int) from q_1691 b4 r2) (by decide) (fun v5 ev5 qv5 => ?_)
        have qv5 : (0 : Int) ≤ v5 ∧ v5 ≤ 255 := qv5
        have ev5 : (A_2 69) ((y2_6_35 / 8)) = v5 := (congrFun (rfl : A_2 69 = A_2 69) ((y2_6_35 / 8))).symm.trans ev5
        refine Ew_of (pcₚ := 40) (fun _ => x_iload_n rfl l2_1) ?_
        refine Ew_of (pcₚ := 41) (fun _ => x_iload_n rfl l2_3) ?_
        refine w_ishrA rfl (fun z6 gz6 => ?_)
        refine Ew_of (pcₚ := 43) (fun _ => x_iconst rfl) ?_
        refine w_iand rfl (show inr (z6) from gz6) (show inr (1) from q_23) (fun z7 gz7 gaz7 gbz7 => ?_)
        refine Ew_of (pcₚ := 45) (fun _ => x_aload_n rfl l2_0) ?_
        refine w_gI H (o := 6) (w := y2_6_35) rfl (H.perm 6 rfl) rfl rfl rfl (fun _ => rfl) (ey2_6_35) ?_
        refine Ew_of (pcₚ := 50) (fun _ => x_bipush (z := 8) rfl (by decide)) ?_
        refine w_irem rfl (show inr (y2_6_35) ∧ 0 ≤ y2_6_35 from q_1690 b4 r2) (show inr (8) ∧ 0 < 8 from q_810) ?_
        have hbm := bitmul (z := (z7)) (y := p2 (((y2_6_35 % 8)))) (by omega)
        have : p2 (((y2_6_35 % 8))) ≤ p2 7 := p2_mono (by omega)
        have : p2 7 = 128 := by decide
        have := p2_pos (((y2_6_35 % 8)))
        refine w_ishlT rfl (show 0 ≤ (y2_6_35 % 8) ∧ (y2_6_35 % 8) ≤ 31 from q_1692) ?_
        refine w_iorB rfl (show 0 ≤ v5 ∧ v5 ≤ 255 from qv5) (show 0 ≤ (z7 * p2 ((y2_6_35 % 8))) ∧ (z7 * p2 ((y2_6_35 % 8))) ≤ 255 by omega) (fun z9 gz9 => ?_)
        refine w_sI H (o := 69) (n := 24000) rfl (H.perm 69 rfl) rfl rfl (H.fix 69 rfl rfl) (show 0 ≤ (y2_6_35 / 8) ∧ (y2_6_35 / 8) < ((24000 : Nat) : Int) from q_1691 b4 r2) (by decide) (show (0 : Int) ≤ z9 ∧ z9 ≤ 255 by omega) (fun σ H => ?_)
        exact hc54  _ σ _ _  (l2_0) (l2_1) (l2_2) (l2_3) H (SF_refl) (SA_upd (SA_refl) rfl)   
/-- Writer.fill -/
theorem M390 {σ0 σ : rS} {D N : Nat → Nat} {F : hF} {A : hA} {d c s : Nat} {Q : wQ} (H : HS σ0 σ D N F A)  (u6_35 : Int) (eu6_35 : F 6 35 = u6_35) (h0 : 0 ≤ (u6_35) ∧ (u6_35) ≤ 99000000) (k : ∀ σ Fₚ Aₚ, HS σ0 σ D N Fₚ Aₚ → SF [(6, 35)] F Fₚ → SA [] A Aₚ → ∀ y6_35 : Int, Fₚ 6 35 = y6_35 → ((u6_35) ≤ (y6_35) ∧ (y6_35) ≤ (u6_35) + 7) → Q none σ c s) : Ew 390 (d + 0) 0 (rargs 0 [.ref (D 6)]) [] σ c s Q := by
  have r1 : (0 : Int) ≤ u6_35 ∧ u6_35 ≤ 100000000 := rngE (show (0 : Int) ≤ F 6 35 ∧ F 6 35 ≤ 100000000 from H.frng 6 35) (show F 6 35 = u6_35 from (eu6_35))
  suffices hl0 : ∀ (m : Nat), ∀ (ls : rO) (σ : rS) (F_0 : hF) (A_0 : hA) , rlook ls 0 = some (.ref (D 6)) → HS σ0 σ D N F_0 A_0 → SF [(6, 35)] F F_0 → SA [] A A_0 → ∀ y0_6_35 : Int, F_0 6 35 = y0_6_35 → ((u6_35) ≤ (y0_6_35) ∧ (y0_6_35) ≤ (u6_35) + 7) → (((y0_6_35) - 1) / 8 = ((u6_35) - 1) / 8) → ((u6_35) + 8 - (y0_6_35)).toNat = m → Ew 390 (d + 0) 0 ls [] σ c s Q from
    hl0 _ _ σ _ _  (rfl) H (SF_refl) (SA_refl) (u6_35) ((eu6_35))  (show (u6_35) ≤ (u6_35) ∧ (u6_35) ≤ (u6_35) + 7 from q_1694) (show ((u6_35) - 1) / 8 = ((u6_35) - 1) / 8 from q_1693) rfl
  as_aux_lemma =>
  intro m
  induction m using Nat.strongRecOn with
  | _ m ih0 =>
    intro ls σ F_0 A_0  l0_0 H hS_0 hA_0 y0_6_35 ey0_6_35  j0_0 j0_1 hm0
    have r2 : (0 : Int) ≤ y0_6_35 ∧ y0_6_35 ≤ 100000000 := rngE (show (0 : Int) ≤ F_0 6 35 ∧ F_0 6 35 ≤ 100000000 from H.frng 6 35) (show F_0 6 35 = y0_6_35 from (ey0_6_35))
    refine Ew_of (pcₚ := 1) (fun _ => x_aload_n rfl l0_0) ?_
    refine w_gI H (o := 6) (w := y0_6_35) rfl (H.perm 6 rfl) rfl rfl rfl (fun _ => rfl) (ey0_6_35) ?_
    refine Ew_of (pcₚ := 6) (fun _ => x_bipush (z := 8) rfl (by decide)) ?_
    refine w_irem rfl (show inr (y0_6_35) ∧ 0 ≤ y0_6_35 from q_1695 r2) (show inr (8) ∧ 0 < 8 from q_810) ?_
    refine w_ifeq (t := 23) rfl rfl (show inr ((y0_6_35 % 8)) from q_1622) (fun b3 => ?_) (fun b3 => ?_)
    · exact w_ret rfl (k σ _ _ H (SF_trans (SF_refl) hS_0 (any_sub rfl)) (SA_trans (SA_refl) hA_0 (any_subA rfl)) (y0_6_35) ((ey0_6_35)) (show (u6_35) ≤ (y0_6_35) ∧ (y0_6_35) ≤ (u6_35) + 7 from j0_0))
    · refine Ew_of (pcₚ := 11) (fun _ => x_aload_n rfl l0_0) ?_
      refine Ew_of (pcₚ := 12) (fun _ => x_dup rfl rfl) ?_
      refine w_gI H (o := 6) (w := y0_6_35) rfl (H.perm 6 rfl) rfl rfl rfl (fun _ => rfl) (ey0_6_35) ?_
      refine Ew_of (pcₚ := 16) (fun _ => x_iconst rfl) ?_
      refine w_iadd rfl ?_
      refine w_pI H (o := 6) rfl rfl (H.perm 6 rfl) rfl rfl rfl (fun _ => rfl) rfl (show (0 : Int) ≤ (y0_6_35 + 1) ∧ (y0_6_35 + 1) ≤ 100000000 by omega) (fun σ H => ?_)
      refine Ew_of (pcₚ := 0) (fun _ => x_goto rfl rfl) ?_
      exact ih0 _ (msE hm0 q_1696 (q_1697 j0_0)) _ σ _ _  (l0_0) H (SF_upd (hS_0) rfl) (hA_0) ((y0_6_35 + 1)) (rfl)  (show (u6_35) ≤ ((y0_6_35 + 1)) ∧ ((y0_6_35 + 1)) ≤ (u6_35) + 7 by omega) (show (((y0_6_35 + 1)) - 1) / 8 = ((u6_35) - 1) / 8 by omega) rfl
/-- Writer.begin -/
theorem M391 {σ0 σ : rS} {D N : Nat → Nat} {F : hF} {A : hA} {d c s : Nat} {Q : wQ} (H : HS σ0 σ D N F A)  (k : ∀ σ Fₚ Aₚ, HS σ0 σ D N Fₚ Aₚ → SF [(6, 35)] F Fₚ → SA [69] A Aₚ → ∀ y6_35 : Int, Fₚ 6 35 = y6_35 → ((y6_35) = 0) → Q none σ c s) : Ew 391 (d + 0) 0 (rargs 0 [.ref (D 6)]) [] σ c s Q := by
  refine Ew_of (pcₚ := 1) (fun _ => x_iconst rfl) ?_
  refine Ew_of (pcₚ := 2) (fun _ => x_istore_n rfl) ?_
  suffices hl2 : ∀ (m : Nat), ∀ (ls : rO) (σ : rS) (F_2 : hF) (A_2 : hA) (x2_1 : Int), rlook ls 0 = some (.ref (D 6)) → rlook ls 1 = some (I (x2_1)) → HS σ0 σ D N F_2 A_2 → SF [] F F_2 → SA [69] A A_2 → (inr (x2_1)) → (0 ≤ (x2_1) ∧ (x2_1) ≤ 24000) → (24000 - (x2_1)).toNat = m → Ew 391 (d + 0) 2 ls [] σ c s Q from
    hl2 _ _ σ _ _ (0) (rk_o (rfl) rfl rfl) (rk_s) H (SF_refl) (SA_refl)   (show inr (0) from q_20) (show 0 ≤ (0) ∧ (0) ≤ 24000 from q_1698) rfl
  as_aux_lemma =>
  intro m
  induction m using Nat.strongRecOn with
  | _ m ih2 =>
    intro ls σ F_2 A_2 x2_1 l2_0 l2_1 H hS_2 hA_2   j2_0 j2_1 hm2
    refine Ew_of (pcₚ := 3) (fun _ => x_iload_n rfl l2_1) ?_
    refine Ew_of (pcₚ := 6) (fun _ => x_sipush (z := 24000) rfl (by decide)) ?_
    refine w_icmpge (t := 33) rfl rfl (show inr (x2_1) from j2_0) (show inr (24000) from q_1699) (fun b1 => ?_) (fun b1 => ?_)
    · refine Ew_of (pcₚ := 34) (fun _ => x_aload_n rfl l2_0) ?_
      refine Ew_of (pcₚ := 35) (fun _ => x_iconst rfl) ?_
      refine w_pI H (o := 6) rfl rfl (H.perm 6 rfl) rfl rfl rfl (fun _ => rfl) rfl (show (0 : Int) ≤ 0 ∧ 0 ≤ 100000000 from q_937) (fun σ H => ?_)
      exact w_ret rfl (k σ _ _ H (SF_upd (SF_trans (SF_refl) hS_2 (any_sub rfl)) rfl) (SA_trans (SA_refl) hA_2 (any_subA rfl)) (0) (rfl) (show (0) = 0 by first | exact q_64 | omega))
    · refine Ew_of (pcₚ := 11) (fun _ => x_bipush (z := 8) rfl (by decide)) ?_
      refine Ew_of (pcₚ := 12) (fun _ => x_iload_n rfl l2_1) ?_
      refine w_imul rfl ?_
      refine Ew_of (pcₚ := 14) (fun _ => x_aload_n rfl l2_0) ?_
      have r2 : (0 : Int) ≤ F 6 35 ∧ F 6 35 ≤ 100000000 := rngE (show (0 : Int) ≤ F_2 6 35 ∧ F_2 6 35 ≤ 100000000 from H.frng 6 35) (show F_2 6 35 = F 6 35 from (hS_2 6 35 rfl))
      refine w_gI H (o := 6) (w := F 6 35) rfl (H.perm 6 rfl) rfl rfl rfl (fun _ => rfl) (hS_2 6 35 rfl) ?_
      refine w_icmpge (t := 33) rfl rfl (show inr ((8 * x2_1)) from q_1700 b1 j2_1) (show inr (F 6 35) from q_1689 r2) (fun b3 => ?_) (fun b3 => ?_)
      · refine Ew_of (pcₚ := 34) (fun _ => x_aload_n rfl l2_0) ?_
        refine Ew_of (pcₚ := 35) (fun _ => x_iconst rfl) ?_
        refine w_pI H (o := 6) rfl rfl (H.perm 6 rfl) rfl rfl rfl (fun _ => rfl) rfl (show (0 : Int) ≤ 0 ∧ 0 ≤ 100000000 from q_937) (fun σ H => ?_)
        exact w_ret rfl (k σ _ _ H (SF_upd (SF_trans (SF_refl) hS_2 (any_sub rfl)) rfl) (SA_trans (SA_refl) hA_2 (any_subA rfl)) (0) (rfl) (show (0) = 0 by first | exact q_64 | omega))
      · refine Ew_of (pcₚ := 21) (fun _ => x_aload_n rfl l2_0) ?_
        refine w_gT H (o := 6) (t := 69) rfl (H.perm 6 rfl) rfl rfl rfl rfl rfl rfl ?_
        refine Ew_of (pcₚ := 25) (fun _ => x_iload_n rfl l2_1) ?_
        refine Ew_of (pcₚ := 26) (fun _ => x_iconst rfl) ?_
        refine w_sI H (o := 69) (n := 24000) rfl (H.perm 69 rfl) rfl rfl (H.fix 69 rfl rfl) (show 0 ≤ x2_1 ∧ x2_1 < ((24000 : Nat) : Int) from q_1701 b1 j2_1) (by decide) (show (0 : Int) ≤ 0 ∧ 0 ≤ 255 from q_1162) (fun σ H => ?_)
        refine Ew_of (pcₚ := 30) (fun _ => x_iinc (len := 3) rfl (l2_1)) ?_
        refine Ew_of (pcₚ := 2) (fun _ => x_goto rfl rfl) ?_
        exact ih2 _ (msE hm2 q_1704 (q_1705 b1)) _ σ _ _ ((x2_1 + 1)) (rk_o (l2_0) rfl rfl) (rk_s) H (hS_2) (SA_upd (hA_2) rfl)   (show inr ((x2_1 + 1)) from q_1703 b1 j2_1) (show 0 ≤ ((x2_1 + 1)) ∧ ((x2_1 + 1)) ≤ 24000 from q_1702 b1 j2_1) rfl
/-- Writer.say -/
theorem M392 {σ0 σ : rS} {D N : Nat → Nat} {F : hF} {A : hA} {d c s : Nat} {Q : wQ} (H : HS σ0 σ D N F A) {a1 : Int} (u6_37 : Int) (eu6_37 : F 6 37 = u6_37) (h0 : inr (a1)) (h1 : 0 ≤ (u6_37) ∧ (u6_37) ≤ 99999999) (k : ∀ σ Fₚ Aₚ, HS σ0 σ D N Fₚ Aₚ → SF [(6, 37)] F Fₚ → SA [70] A Aₚ → ∀ y6_37 : Int, Fₚ 6 37 = y6_37 → ((y6_37) = (u6_37) + 1) → Q none σ c s) : Ew 392 (d + 0) 0 (rargs 0 [.ref (D 6), I a1]) [] σ c s Q := by
  have r1 : (0 : Int) ≤ u6_37 ∧ u6_37 ≤ 100000000 := rngE (show (0 : Int) ≤ F 6 37 ∧ F 6 37 ≤ 100000000 from H.frng 6 37) (show F 6 37 = u6_37 from (eu6_37))
  refine Ew_of (pcₚ := 1) (fun _ => x_aload_n rfl rfl) ?_
  refine w_gI H (o := 6) (w := u6_37) rfl (H.perm 6 rfl) rfl rfl rfl (fun _ => rfl) (eu6_37) ?_
  refine Ew_of (pcₚ := 6) (fun _ => x_ldc (z := 65536) rfl (by decide)) ?_
  refine w_icmpge (t := 23) rfl rfl (show inr (u6_37) from q_1689 r1) (show inr (65536) from q_35) (fun b2 => ?_) (fun b2 => ?_)
  · refine Ew_of (pcₚ := 24) (fun _ => x_aload_n rfl rfl) ?_
    refine Ew_of (pcₚ := 25) (fun _ => x_dup rfl rfl) ?_
    refine w_gI H (o := 6) (w := u6_37) rfl (H.perm 6 rfl) rfl rfl rfl (fun _ => rfl) (eu6_37) ?_
    refine Ew_of (pcₚ := 29) (fun _ => x_iconst rfl) ?_
    refine w_iadd rfl ?_
    refine w_pI H (o := 6) rfl rfl (H.perm 6 rfl) rfl rfl rfl (fun _ => rfl) rfl (show (0 : Int) ≤ (u6_37 + 1) ∧ (u6_37 + 1) ≤ 100000000 from q_1706 b2 h1) (fun σ H => ?_)
    exact w_ret rfl (k σ _ _ H (SF_upd (SF_refl) rfl) (SA_refl) ((u6_37 + 1)) (rfl) (show ((u6_37 + 1)) = (u6_37) + 1 from q_47))
  · refine Ew_of (pcₚ := 10) (fun _ => x_aload_n rfl rfl) ?_
    refine w_gT H (o := 6) (t := 70) rfl (H.perm 6 rfl) rfl rfl rfl rfl rfl rfl ?_
    refine Ew_of (pcₚ := 14) (fun _ => x_aload_n rfl rfl) ?_
    refine w_gI H (o := 6) (w := u6_37) rfl (H.perm 6 rfl) rfl rfl rfl (fun _ => rfl) (eu6_37) ?_
    refine Ew_of (pcₚ := 18) (fun _ => x_iload_n rfl rfl) ?_
    refine Ew_of (pcₚ := 21) (fun _ => x_sipush (z := 255) rfl (by decide)) ?_
    refine w_iand rfl (show inr (a1) from h0) (show inr (255) from q_36) (fun z3 gz3 gaz3 gbz3 => ?_)
    refine w_sI H (o := 70) (n := 65536) rfl (H.perm 70 rfl) rfl rfl (H.fix 70 rfl rfl) (show 0 ≤ u6_37 ∧ u6_37 < ((65536 : Nat) : Int) from q_1707 b2 r1) (by decide) (show (0 : Int) ≤ z3 ∧ z3 ≤ 255 by omega) (fun σ H => ?_)
    refine Ew_of (pcₚ := 24) (fun _ => x_aload_n rfl rfl) ?_
    refine Ew_of (pcₚ := 25) (fun _ => x_dup rfl rfl) ?_
    refine w_gI H (o := 6) (w := u6_37) rfl (H.perm 6 rfl) rfl rfl rfl (fun _ => rfl) (eu6_37) ?_
    refine Ew_of (pcₚ := 29) (fun _ => x_iconst rfl) ?_
    refine w_iadd rfl ?_
    refine w_pI H (o := 6) rfl rfl (H.perm 6 rfl) rfl rfl rfl (fun _ => rfl) rfl (show (0 : Int) ≤ (u6_37 + 1) ∧ (u6_37 + 1) ≤ 100000000 from q_1708 b2 r1) (fun σ H => ?_)
    exact w_ret rfl (k σ _ _ H (SF_upd (SF_refl) rfl) (SA_upd (SA_refl) rfl) ((u6_37 + 1)) (rfl) (show ((u6_37 + 1)) = (u6_37) + 1 from q_47))
/-- Writer.sayNumber -/
theorem M393 {σ0 σ : rS} {D N : Nat → Nat} {F : hF} {A : hA} {d c s : Nat} {Q : wQ} (H : HS σ0 σ D N F A) {a1 a2 : Int} (u6_37 : Int) (eu6_37 : F 6 37 = u6_37) (h0 : inrJ (a1)) (h1 : inr (a2)) (h2 : 0 ≤ (a2) ∧ (a2) ≤ 8) (h3 : 0 ≤ (u6_37) ∧ (u6_37) ≤ 90000000) (k : ∀ σ Fₚ Aₚ, HS σ0 σ D N Fₚ Aₚ → SF [(6, 37)] F Fₚ → SA [70] A Aₚ → ∀ y6_37 : Int, Fₚ 6 37 = y6_37 → ((y6_37) = (u6_37) + (a2)) → Q none σ c s) : Ew 393 (d + 1) 0 (rargs 0 [.ref (D 6), J a1, I a2]) [] σ c s Q := by
  have r1 : (0 : Int) ≤ u6_37 ∧ u6_37 ≤ 100000000 := rngE (show (0 : Int) ≤ F 6 37 ∧ F 6 37 ≤ 100000000 from H.frng 6 37) (show F 6 37 = u6_37 from (eu6_37))
  refine Ew_of (pcₚ := 1) (fun _ => x_iconst rfl) ?_
  refine Ew_of (pcₚ := 3) (fun _ => x_istore rfl) ?_
  suffices hl3 : ∀ (m : Nat), ∀ (ls : rO) (σ : rS) (F_3 : hF) (A_3 : hA) (x3_4 : Int), rlook ls 0 = some (.ref (D 6)) → rlook ls 1 = some (J (a1)) → rlook ls 3 = some (I (a2)) → rlook ls 4 = some (I (x3_4)) → HS σ0 σ D N F_3 A_3 → SF [(6, 37)] F F_3 → SA [70] A A_3 → ∀ y3_6_37 : Int, F_3 6 37 = y3_6_37 → (inr (x3_4)) → ((0) ≤ (x3_4)) → ((x3_4) ≤ (0) ∨ (x3_4) ≤ ((a2))) → ((y3_6_37) = (u6_37) + (x3_4)) → (((a2)) - (x3_4)).toNat = m → Ew 393 (d + 1) 3 ls [] σ c s Q from
    hl3 _ _ σ _ _ (0) (rk_o (rfl) rfl rfl) (rk_o (rfl) rfl rfl) (rk_o (rfl) rfl rfl) (rk_s) H (SF_refl) (SA_refl) (u6_37) ((eu6_37))  (show inr (0) from q_20) (show (0) ≤ (0) from q_25) (show (0) ≤ (0) ∨ (0) ≤ ((a2)) from q_24) (show (u6_37) = (u6_37) + (0) from q_110) rfl
  as_aux_lemma =>
  intro m
  induction m using Nat.strongRecOn with
  | _ m ih3 =>
    intro ls σ F_3 A_3 x3_4 l3_0 l3_1 l3_3 l3_4 H hS_3 hA_3 y3_6_37 ey3_6_37  j3_0 j3_1 j3_2 j3_3 hm3
    have r2 : (0 : Int) ≤ y3_6_37 ∧ y3_6_37 ≤ 100000000 := rngE (show (0 : Int) ≤ F_3 6 37 ∧ F_3 6 37 ≤ 100000000 from H.frng 6 37) (show F_3 6 37 = y3_6_37 from (ey3_6_37))
    refine Ew_of (pcₚ := 5) (fun _ => x_iload rfl l3_4) ?_
    refine Ew_of (pcₚ := 6) (fun _ => x_iload_n rfl l3_3) ?_
    refine w_icmpge (t := 31) rfl rfl (show inr (x3_4) from j3_0) (show inr (a2) from h1) (fun b3 => ?_) (fun b3 => ?_)
    · exact w_ret rfl (k σ _ _ H (SF_trans (SF_refl) hS_3 (any_sub rfl)) (SA_trans (SA_refl) hA_3 (any_subA rfl)) (y3_6_37) ((ey3_6_37)) (show (y3_6_37) = (u6_37) + a2 from q_267 b3 h2 j3_2 j3_3))
    · refine Ew_of (pcₚ := 10) (fun _ => x_aload_n rfl l3_0) ?_
      refine Ew_of (pcₚ := 11) (fun _ => x_lload_n rfl l3_1) ?_
      refine Ew_of (pcₚ := 13) (fun _ => x_bipush (z := 8) rfl (by decide)) ?_
      refine Ew_of (pcₚ := 15) (fun _ => x_iload rfl l3_4) ?_
      refine w_imul rfl ?_
      refine w_lshrA rfl (fun z4 gz4 => ?_)
      refine Ew_of (pcₚ := 20) (fun _ => x_ldc2 (z := 255) rfl (by decide)) ?_
      refine w_land rfl (show inrJ (z4) from gz4) (show inrJ (255) from q_268) (fun z5 gz5 gaz5 gbz5 => ?_)
      refine w_l2i rfl ?_
      refine w_inv H (o := 6) rfl rfl rfl (H.perm 6 rfl) rfl rfl (by rfl) (M392 H (y3_6_37) ((ey3_6_37)) (show inr (z5) by omega) (show 0 ≤ (y3_6_37) ∧ (y3_6_37) ≤ 99999999 by omega) (fun σ F6 A7 H hS8 hA9 y11 ey12 pz10_0 => ⟨rfl, ?_⟩))
      have r13 : (0 : Int) ≤ y11 ∧ y11 ≤ 100000000 := rngE (show (0 : Int) ≤ F6 6 37 ∧ F6 6 37 ≤ 100000000 from H.frng 6 37) (show F6 6 37 = y11 from (ey12))
      refine Ew_of (pcₚ := 28) (fun _ => x_iinc (len := 3) rfl (l3_4)) ?_
      refine Ew_of (pcₚ := 3) (fun _ => x_goto rfl rfl) ?_
      exact ih3 _ (msE hm3 q_31 (q_34 b3)) _ σ _ _ ((x3_4 + 1)) (rk_o (l3_0) rfl rfl) (rk_o (l3_1) rfl rfl) (rk_o (l3_3) rfl rfl) (rk_s) H (SF_trans (hS_3) hS8 (any_sub rfl)) (SA_trans (hA_3) hA9 (any_subA rfl)) (y11) ((ey12))  (show inr ((x3_4 + 1)) from q_270 b3 h2 j3_1) (show (0) ≤ ((x3_4 + 1)) from q_29 j3_1) (show ((x3_4 + 1)) ≤ (0) ∨ ((x3_4 + 1)) ≤ ((a2)) from q_33 b3) (show (y11) = (u6_37) + ((x3_4 + 1)) from q_113 j3_3 pz10_0) rfl
/-- Writer.sayMade -/
theorem M394 {σ0 σ : rS} {D N : Nat → Nat} {F : hF} {A : hA} {d c s : Nat} {Q : wQ} (H : HS σ0 σ D N F A)  (u6_35 : Int) (eu6_35 : F 6 35 = u6_35) (u6_37 : Int) (eu6_37 : F 6 37 = u6_37) (h0 : 0 ≤ (u6_35) ∧ (u6_35) ≤ 192000) (h1 : 0 ≤ (u6_37) ∧ (u6_37) ≤ 90000000) (k : ∀ σ Fₚ Aₚ, HS σ0 σ D N Fₚ Aₚ → SF [(6, 37)] F Fₚ → SA [70] A Aₚ → ∀ y6_37 : Int, Fₚ 6 37 = y6_37 → ((y6_37) = (u6_37) + (u6_35) / 8) → Q none σ c s) : Ew 394 (d + 1) 0 (rargs 0 [.ref (D 6)]) [] σ c s Q := by
  have r1 : (0 : Int) ≤ u6_35 ∧ u6_35 ≤ 100000000 := rngE (show (0 : Int) ≤ F 6 35 ∧ F 6 35 ≤ 100000000 from H.frng 6 35) (show F 6 35 = u6_35 from (eu6_35))
  have r2 : (0 : Int) ≤ u6_37 ∧ u6_37 ≤ 100000000 := rngE (show (0 : Int) ≤ F 6 37 ∧ F 6 37 ≤ 100000000 from H.frng 6 37) (show F 6 37 = u6_37 from (eu6_37))
  refine Ew_of (pcₚ := 1) (fun _ => x_iconst rfl) ?_
  refine Ew_of (pcₚ := 2) (fun _ => x_istore_n rfl) ?_
  suffices hl2 : ∀ (m : Nat), ∀ (ls : rO) (σ : rS) (F_2 : hF) (A_2 : hA) (x2_1 : Int), rlook ls 0 = some (.ref (D 6)) → rlook ls 1 = some (I (x2_1)) → HS σ0 σ D N F_2 A_2 → SF [(6, 37)] F F_2 → SA [70] A A_2 → ∀ y2_6_37 : Int, F_2 6 37 = y2_6_37 → (inr (x2_1)) → (0 ≤ (x2_1) ∧ (x2_1) ≤ (u6_35) / 8) → ((y2_6_37) = (u6_37) + (x2_1)) → ((u6_35) / 8 - (x2_1)).toNat = m → Ew 394 (d + 1) 2 ls [] σ c s Q from
    hl2 _ _ σ _ _ (0) (rk_o (rfl) rfl rfl) (rk_s) H (SF_refl) (SA_refl) (u6_37) ((eu6_37))  (show inr (0) from q_20) (show 0 ≤ (0) ∧ (0) ≤ (u6_35) / 8 from q_1709 r1) (show (u6_37) = (u6_37) + (0) from q_110) rfl
  as_aux_lemma =>
  intro m
  induction m using Nat.strongRecOn with
  | _ m ih2 =>
    intro ls σ F_2 A_2 x2_1 l2_0 l2_1 H hS_2 hA_2 y2_6_37 ey2_6_37  j2_0 j2_1 j2_2 hm2
    have r3 : (0 : Int) ≤ y2_6_37 ∧ y2_6_37 ≤ 100000000 := rngE (show (0 : Int) ≤ F_2 6 37 ∧ F_2 6 37 ≤ 100000000 from H.frng 6 37) (show F_2 6 37 = y2_6_37 from (ey2_6_37))
    refine Ew_of (pcₚ := 3) (fun _ => x_iload_n rfl l2_1) ?_
    refine Ew_of (pcₚ := 4) (fun _ => x_aload_n rfl l2_0) ?_
    refine w_gI H (o := 6) (w := u6_35) rfl (H.perm 6 rfl) rfl rfl rfl (fun _ => rfl) ((hS_2 6 35 rfl).trans (eu6_35)) ?_
    refine Ew_of (pcₚ := 9) (fun _ => x_bipush (z := 8) rfl (by decide)) ?_
    refine w_idiv rfl (show inr (u6_35) ∧ 0 ≤ u6_35 from q_1710 h0 r1) (show inr (8) ∧ 0 < 8 from q_810) ?_
    refine w_icmpge (t := 29) rfl rfl (show inr (x2_1) from j2_0) (show inr ((u6_35 / 8)) from q_1711 h0 r1) (fun b4 => ?_) (fun b4 => ?_)
    · exact w_ret rfl (k σ _ _ H (SF_trans (SF_refl) hS_2 (any_sub rfl)) (SA_trans (SA_refl) hA_2 (any_subA rfl)) (y2_6_37) ((ey2_6_37)) (show (y2_6_37) = (u6_37) + (u6_35) / 8 from q_1712 b4 j2_1 j2_2))
    · refine Ew_of (pcₚ := 14) (fun _ => x_aload_n rfl l2_0) ?_
      refine Ew_of (pcₚ := 15) (fun _ => x_aload_n rfl l2_0) ?_
      refine w_gT H (o := 6) (t := 69) rfl (H.perm 6 rfl) rfl rfl rfl rfl rfl rfl ?_
      refine Ew_of (pcₚ := 19) (fun _ => x_iload_n rfl l2_1) ?_
      refine w_lI H (o := 69) (n := 24000) rfl (H.perm 69 rfl) rfl rfl (H.fix 69 rfl rfl) (show 0 ≤ x2_1 ∧ x2_1 < ((24000 : Nat) : Int) by omega) (by decide) (fun v5 ev5 qv5 => ?_)
      have qv5 : (0 : Int) ≤ v5 ∧ v5 ≤ 255 := qv5
      have ev5 : (A 69) (x2_1) = v5 := (congrFun (funext (hA_2 69 rfl)) (x2_1)).symm.trans ev5
      refine w_inv H (o := 6) rfl rfl rfl (H.perm 6 rfl) rfl rfl (by rfl) (M392 H (y2_6_37) ((ey2_6_37)) (show inr (v5) from q_38 qv5) (show 0 ≤ (y2_6_37) ∧ (y2_6_37) ≤ 99999999 by omega) (fun σ F6 A7 H hS8 hA9 y11 ey12 pz10_0 => ⟨rfl, ?_⟩))
      have r13 : (0 : Int) ≤ y11 ∧ y11 ≤ 100000000 := rngE (show (0 : Int) ≤ F6 6 37 ∧ F6 6 37 ≤ 100000000 from H.frng 6 37) (show F6 6 37 = y11 from (ey12))
      refine Ew_of (pcₚ := 26) (fun _ => x_iinc (len := 3) rfl (l2_1)) ?_
      refine Ew_of (pcₚ := 2) (fun _ => x_goto rfl rfl) ?_
      exact ih2 _ (msE hm2 q_1514 (q_1515 b4)) _ σ _ _ ((x2_1 + 1)) (rk_o (l2_0) rfl rfl) (rk_s) H (SF_trans (hS_2) hS8 (any_sub rfl)) (SA_trans (hA_2) hA9 (any_subA rfl)) (y11) ((ey12))  (show inr ((x2_1 + 1)) by omega) (show 0 ≤ ((x2_1 + 1)) ∧ ((x2_1 + 1)) ≤ (u6_35) / 8 from q_1713 b4 j2_1) (show (y11) = (u6_37) + ((x2_1 + 1)) from q_113 j2_2 pz10_0) rfl
/-- Writer.show -/
theorem M395 {σ0 σ : rS} {D N : Nat → Nat} {F : hF} {A : hA} {d c s : Nat} {Q : wQ} (H : HS σ0 σ D N F A)  (u6_37 : Int) (eu6_37 : F 6 37 = u6_37) (h0 : 0 ≤ (u6_37) ∧ (u6_37) ≤ 100000000) (k : ∀ (z : Int) σ Fₚ Aₚ, HS σ0 σ D N Fₚ Aₚ → SF [(1, 3)] F Fₚ → SA [15] A Aₚ → (inr (z)) → (-1 ≤ (z) ∧ (z) ≤ 65536) → Q (some (I z)) σ c s) : Ew 395 (d + 0) 0 (rargs 0 [.ref (D 6)]) [] σ c s Q := by
  have r1 : (0 : Int) ≤ u6_37 ∧ u6_37 ≤ 100000000 := rngE (show (0 : Int) ≤ F 6 37 ∧ F 6 37 ≤ 100000000 from H.frng 6 37) (show F 6 37 = u6_37 from (eu6_37))
  refine Ew_of (pcₚ := 1) (fun _ => x_aload_n rfl rfl) ?_
  refine w_gI H (o := 6) (w := u6_37) rfl (H.perm 6 rfl) rfl rfl rfl (fun _ => rfl) (eu6_37) ?_
  refine Ew_of (pcₚ := 6) (fun _ => x_ldc (z := 65536) rfl (by decide)) ?_
  refine w_icmple (t := 11) rfl rfl (show inr (u6_37) from q_1689 r1) (show inr (65536) from q_35) (fun b2 => ?_) (fun b2 => ?_)
  · refine Ew_of (pcₚ := 12) (fun _ => x_iconst rfl) ?_
    refine Ew_of (pcₚ := 13) (fun _ => x_istore_n rfl) ?_
    suffices hl13 : ∀ (m : Nat), ∀ (ls : rO) (σ : rS) (F_13 : hF) (A_13 : hA) (x13_1 : Int), rlook ls 0 = some (.ref (D 6)) → rlook ls 1 = some (I (x13_1)) → HS σ0 σ D N F_13 A_13 → SF [] F F_13 → SA [15] A A_13 → (inr (x13_1)) → ((0) ≤ (x13_1)) → ((x13_1) ≤ (0) ∨ (x13_1) ≤ ((u6_37))) → (((u6_37)) - (x13_1)).toNat = m → Ew 395 (d + 0) 13 ls [] σ c s Q from
      hl13 _ _ σ _ _ (0) (rk_o (rfl) rfl rfl) (rk_s) H (SF_refl) (SA_refl)   (show inr (0) from q_20) (show (0) ≤ (0) from q_25) (show (0) ≤ (0) ∨ (0) ≤ ((u6_37)) from q_24) rfl
    as_aux_lemma =>
    intro m
    induction m using Nat.strongRecOn with
    | _ m ih13 =>
      intro ls σ F_13 A_13 x13_1 l13_0 l13_1 H hS_13 hA_13   j13_0 j13_1 j13_2 hm13
      refine Ew_of (pcₚ := 14) (fun _ => x_iload_n rfl l13_1) ?_
      refine Ew_of (pcₚ := 15) (fun _ => x_aload_n rfl l13_0) ?_
      refine w_gI H (o := 6) (w := u6_37) rfl (H.perm 6 rfl) rfl rfl rfl (fun _ => rfl) ((hS_13 6 37 rfl).trans (eu6_37)) ?_
      refine w_icmpge (t := 42) rfl rfl (show inr (x13_1) from j13_0) (show inr (u6_37) from q_1714 b2 r1) (fun b3 => ?_) (fun b3 => ?_)
      · refine Ew_of (pcₚ := 43) (fun _ => x_aload_n rfl l13_0) ?_
        refine w_gT H (o := 6) (t := 1) rfl (H.perm 6 rfl) rfl rfl rfl rfl rfl rfl ?_
        refine Ew_of (pcₚ := 47) (fun _ => x_aload_n rfl l13_0) ?_
        refine w_gI H (o := 6) (w := u6_37) rfl (H.perm 6 rfl) rfl rfl rfl (fun _ => rfl) ((hS_13 6 37 rfl).trans (eu6_37)) ?_
        refine w_pI H (o := 1) rfl rfl (H.perm 1 rfl) rfl rfl rfl (fun _ => rfl) rfl (show (0 : Int) ≤ u6_37 ∧ u6_37 ≤ 65536 from q_254 b2 r1) (fun σ H => ?_)
        refine Ew_of (pcₚ := 54) (fun _ => x_aload_n rfl l13_0) ?_
        refine w_gT H (o := 6) (t := 1) rfl (H.perm 6 rfl) rfl rfl rfl rfl rfl rfl ?_
        refine w_gI H (o := 1) (w := u6_37) rfl (H.perm 1 rfl) rfl rfl rfl (fun _ => rfl) rfl ?_
        exact w_ireturn rfl (k (u6_37) σ _ _ H (SF_upd (SF_trans (SF_refl) hS_13 (any_sub rfl)) rfl) (SA_trans (SA_refl) hA_13 (any_subA rfl)) (show inr (u6_37) from q_1714 b2 r1) (show -1 ≤ (u6_37) ∧ (u6_37) ≤ 65536 from q_1715 b2 r1))
      · refine Ew_of (pcₚ := 22) (fun _ => x_aload_n rfl l13_0) ?_
        refine w_gT H (o := 6) (t := 1) rfl (H.perm 6 rfl) rfl rfl rfl rfl rfl rfl ?_
        refine w_gT H (o := 1) (t := 15) rfl (H.perm 1 rfl) rfl rfl rfl rfl rfl rfl ?_
        refine Ew_of (pcₚ := 29) (fun _ => x_iload_n rfl l13_1) ?_
        refine Ew_of (pcₚ := 30) (fun _ => x_aload_n rfl l13_0) ?_
        refine w_gT H (o := 6) (t := 70) rfl (H.perm 6 rfl) rfl rfl rfl rfl rfl rfl ?_
        refine Ew_of (pcₚ := 34) (fun _ => x_iload_n rfl l13_1) ?_
        refine w_lI H (o := 70) (n := 65536) rfl (H.perm 70 rfl) rfl rfl (H.fix 70 rfl rfl) (show 0 ≤ x13_1 ∧ x13_1 < ((65536 : Nat) : Int) from q_257 b2 b3 j13_1) (by decide) (fun v4 ev4 qv4 => ?_)
        have qv4 : (0 : Int) ≤ v4 ∧ v4 ≤ 255 := qv4
        have ev4 : (A 70) (x13_1) = v4 := (congrFun (funext (hA_13 70 rfl)) (x13_1)).symm.trans ev4
        refine w_sI H (o := 15) (n := 65536) rfl (H.perm 15 rfl) rfl rfl (H.fix 15 rfl rfl) (show 0 ≤ x13_1 ∧ x13_1 < ((65536 : Nat) : Int) from q_257 b2 b3 j13_1) (by decide) (show (0 : Int) ≤ v4 ∧ v4 ≤ 255 from qv4) (fun σ H => ?_)
        refine Ew_of (pcₚ := 39) (fun _ => x_iinc (len := 3) rfl (l13_1)) ?_
        refine Ew_of (pcₚ := 13) (fun _ => x_goto rfl rfl) ?_
        exact ih13 _ (msE hm13 q_31 (q_34 b3)) _ σ _ _ ((x13_1 + 1)) (rk_o (l13_0) rfl rfl) (rk_s) H (hS_13) (SA_upd (hA_13) rfl)   (show inr ((x13_1 + 1)) from q_258 b2 b3 j13_1) (show (0) ≤ ((x13_1 + 1)) from q_29 j13_1) (show ((x13_1 + 1)) ≤ (0) ∨ ((x13_1 + 1)) ≤ ((u6_37)) from q_33 b3) rfl
  · refine Ew_of (pcₚ := 10) (fun _ => x_iconst rfl) ?_
    exact w_ireturn rfl (k ((-1)) σ _ _ H (SF_refl) (SA_refl) (show inr ((-1)) from q_16) (show -1 ≤ ((-1)) ∧ ((-1)) ≤ 65536 by first | exact q_1716 | omega))
/-- Writer.alike -/
theorem M396 {σ0 σ : rS} {D N : Nat → Nat} {F : hF} {A : hA} {d c s : Nat} {Q : wQ} (H : HS σ0 σ D N F A) {a1 a2 a3 : Int} (h0 : inr (a1)) (h1 : inr (a2)) (h2 : inr (a3)) (h3 : 0 ≤ (a1) ∧ (a1) < (a2) ∧ (a3) + (a2) ≤ 16384 ∧ 0 ≤ (a3)) (k : ∀ (z : Int) σ Fₚ Aₚ, HS σ0 σ D N Fₚ Aₚ → SF [] F Fₚ → SA [] A Aₚ → (inr (z)) → (0 ≤ (z) ∧ (z) ≤ (a3)) → Q (some (I z)) σ c s) : Ew 396 (d + 0) 0 (rargs 0 [.ref (D 6), I a1, I a2, I a3]) [] σ c s Q := by
  refine Ew_of (pcₚ := 1) (fun _ => x_iconst rfl) ?_
  refine Ew_of (pcₚ := 3) (fun _ => x_istore rfl) ?_
  suffices hl3 : ∀ (m : Nat), ∀ (ls : rO) (σ : rS) (F_3 : hF) (A_3 : hA) (x3_4 : Int), rlook ls 0 = some (.ref (D 6)) → rlook ls 1 = some (I (a1)) → rlook ls 2 = some (I (a2)) → rlook ls 3 = some (I (a3)) → rlook ls 4 = some (I (x3_4)) → HS σ0 σ D N F_3 A_3 → SF [] F F_3 → SA [] A A_3 → (inr (x3_4)) → ((0) ≤ (x3_4)) → ((x3_4) ≤ (0) ∨ (x3_4) ≤ ((a3))) → (((a3)) - (x3_4)).toNat = m → Ew 396 (d + 0) 3 ls [] σ c s Q from
    hl3 _ _ σ _ _ (0) (rk_o (rfl) rfl rfl) (rk_o (rfl) rfl rfl) (rk_o (rfl) rfl rfl) (rk_o (rfl) rfl rfl) (rk_s) H (SF_refl) (SA_refl)   (show inr (0) from q_20) (show (0) ≤ (0) from q_25) (show (0) ≤ (0) ∨ (0) ≤ ((a3)) from q_24) rfl
  as_aux_lemma =>
  intro m
  induction m using Nat.strongRecOn with
  | _ m ih3 =>
    intro ls σ F_3 A_3 x3_4 l3_0 l3_1 l3_2 l3_3 l3_4 H hS_3 hA_3   j3_0 j3_1 j3_2 hm3
    refine Ew_of (pcₚ := 5) (fun _ => x_iload rfl l3_4) ?_
    refine Ew_of (pcₚ := 6) (fun _ => x_iload_n rfl l3_3) ?_
    refine w_icmpge (t := 36) rfl rfl (show inr (x3_4) from j3_0) (show inr (a3) from h2) (fun b1 => ?_) (fun b1 => ?_)
    · refine Ew_of (pcₚ := 38) (fun _ => x_iload rfl l3_4) ?_
      exact w_ireturn rfl (k (x3_4) σ _ _ H (SF_trans (SF_refl) hS_3 (any_sub rfl)) (SA_trans (SA_refl) hA_3 (any_subA rfl)) (show inr (x3_4) from j3_0) (show 0 ≤ (x3_4) ∧ (x3_4) ≤ a3 from q_153 h3 j3_1 j3_2))
    · refine Ew_of (pcₚ := 10) (fun _ => x_aload_n rfl l3_0) ?_
      refine w_gT H (o := 6) (t := 61) rfl (H.perm 6 rfl) rfl rfl rfl rfl rfl rfl ?_
      refine Ew_of (pcₚ := 14) (fun _ => x_iload_n rfl l3_1) ?_
      refine Ew_of (pcₚ := 16) (fun _ => x_iload rfl l3_4) ?_
      refine w_iadd rfl ?_
      refine w_lI H (o := 61) (n := 16384) rfl (H.perm 61 rfl) rfl rfl (H.fix 61 rfl rfl) (show 0 ≤ (a1 + x3_4) ∧ (a1 + x3_4) < ((16384 : Nat) : Int) from q_154 b1 h3 j3_1) (by decide) (fun v2 ev2 qv2 => ?_)
      have qv2 : (0 : Int) ≤ v2 ∧ v2 ≤ 255 := qv2
      have ev2 : (A 61) ((a1 + x3_4)) = v2 := (congrFun (funext (hA_3 61 rfl)) ((a1 + x3_4))).symm.trans ev2
      refine Ew_of (pcₚ := 19) (fun _ => x_aload_n rfl l3_0) ?_
      refine w_gT H (o := 6) (t := 61) rfl (H.perm 6 rfl) rfl rfl rfl rfl rfl rfl ?_
      refine Ew_of (pcₚ := 23) (fun _ => x_iload_n rfl l3_2) ?_
      refine Ew_of (pcₚ := 25) (fun _ => x_iload rfl l3_4) ?_
      refine w_iadd rfl ?_
      refine w_lI H (o := 61) (n := 16384) rfl (H.perm 61 rfl) rfl rfl (H.fix 61 rfl rfl) (show 0 ≤ (a2 + x3_4) ∧ (a2 + x3_4) < ((16384 : Nat) : Int) from q_155 b1 h3 j3_1) (by decide) (fun v3 ev3 qv3 => ?_)
      have qv3 : (0 : Int) ≤ v3 ∧ v3 ≤ 255 := qv3
      have ev3 : (A 61) ((a2 + x3_4)) = v3 := (congrFun (funext (hA_3 61 rfl)) ((a2 + x3_4))).symm.trans ev3
      refine w_icmpne (t := 36) rfl rfl (show inr (v2) from q_38 qv2) (show inr (v3) from q_38 qv3) (fun b4 => ?_) (fun b4 => ?_)
      · refine Ew_of (pcₚ := 38) (fun _ => x_iload rfl l3_4) ?_
        exact w_ireturn rfl (k (x3_4) σ _ _ H (SF_trans (SF_refl) hS_3 (any_sub rfl)) (SA_trans (SA_refl) hA_3 (any_subA rfl)) (show inr (x3_4) from j3_0) (show 0 ≤ (x3_4) ∧ (x3_4) ≤ a3 from q_156 b1 j3_1))
      · refine Ew_of (pcₚ := 33) (fun _ => x_iinc (len := 3) rfl (l3_4)) ?_
        refine Ew_of (pcₚ := 3) (fun _ => x_goto rfl rfl) ?_
        exact ih3 _ (msE hm3 q_31 (q_34 b1)) _ σ _ _ ((x3_4 + 1)) (rk_o (l3_0) rfl rfl) (rk_o (l3_1) rfl rfl) (rk_o (l3_2) rfl rfl) (rk_o (l3_3) rfl rfl) (rk_s) H (hS_3) (hA_3)   (show inr ((x3_4 + 1)) from q_157 b1 h3 j3_1) (show (0) ≤ ((x3_4 + 1)) from q_29 j3_1) (show ((x3_4 + 1)) ≤ (0) ∨ ((x3_4 + 1)) ≤ ((a3)) from q_33 b1) rfl
/-- Writer.match -/
theorem M397 {σ0 σ : rS} {D N : Nat → Nat} {F : hF} {A : hA} {d c s : Nat} {Q : wQ} (H : HS σ0 σ D N F A) {a1 a2 : Int} (u6_2 : Int) (eu6_2 : F 6 2 = u6_2) (u6_22 : Int) (eu6_22 : F 6 22 = u6_22) (h0 : inr (a1)) (h1 : inr (a2)) (h2 : 0 ≤ (a1) ∧ (a1) < (u6_22)) (h3 : 1 ≤ (u6_2)) (k : ∀ (z : Int) σ Fₚ Aₚ, HS σ0 σ D N Fₚ Aₚ → SF [(6, 23)] F Fₚ → SA [] A Aₚ → ∀ y6_23 : Int, Fₚ 6 23 = y6_23 → (inr (z)) → (0 ≤ (z)) → ((z) = 0 ∨ (u6_2) ≤ (z) ∧ (z) ≤ (u6_22) - (a1) ∧ (y6_23) < (a1)) → Q (some (I z)) σ c s) : Ew 397 (d + 1) 0 (rargs 0 [.ref (D 6), I a1, I a2]) [] σ c s Q := by
  have r1 : (0 : Int) ≤ u6_2 ∧ u6_2 ≤ 8 := rngE (show (0 : Int) ≤ F 6 2 ∧ F 6 2 ≤ 8 from H.frng 6 2) (show F 6 2 = u6_2 from (eu6_2))
  have r2 : (0 : Int) ≤ u6_22 ∧ u6_22 ≤ 16384 := rngE (show (0 : Int) ≤ F 6 22 ∧ F 6 22 ≤ 16384 from H.frng 6 22) (show F 6 22 = u6_22 from (eu6_22))
  refine Ew_of (pcₚ := 1) (fun _ => x_aload_n rfl rfl) ?_
  refine w_gI H (o := 6) (w := u6_22) rfl (H.perm 6 rfl) rfl rfl rfl (fun _ => rfl) (eu6_22) ?_
  refine Ew_of (pcₚ := 5) (fun _ => x_iload_n rfl rfl) ?_
  refine w_isub rfl ?_
  refine Ew_of (pcₚ := 8) (fun _ => x_ldc (z := 131074) rfl (by decide)) ?_
  have hc22 : ∀ (tc22_0 : Int), ∀ (ls : rO) (σ : rS) (F_c22 : hF) (A_c22 : hA) , rlook ls 0 = some (.ref (D 6)) → rlook ls 1 = some (I (a1)) → rlook ls 2 = some (I (a2)) → HS σ0 σ D N F_c22 A_c22 → SF [] F F_c22 → SA [] A A_c22 → (inr (tc22_0)) → ((((u6_22 - a1)) ≥ (131074) ∧ (tc22_0) = (131074)) ∨ (((u6_22 - a1)) < (131074) ∧ (tc22_0) = ((u6_22 - a1)))) → Ew 397 (d + 1) 22 ls [I (tc22_0)] σ c s Q := by
   as_aux_lemma =>
    intro tc22_0 ls σ F_c22 A_c22  lc22_0 lc22_1 lc22_2 H hS_c22 hA_c22   jc22_0 jc22_1
    refine Ew_of (pcₚ := 23) (fun _ => x_istore_n rfl) ?_
    refine Ew_of (pcₚ := 24) (fun _ => x_iconst rfl) ?_
    refine Ew_of (pcₚ := 26) (fun _ => x_istore rfl) ?_
    refine Ew_of (pcₚ := 27) (fun _ => x_iload_n rfl (rk_o (rk_o (lc22_1) rfl rfl) rfl rfl)) ?_
    refine Ew_of (pcₚ := 28) (fun _ => x_iconst rfl) ?_
    refine w_isub rfl ?_
    refine Ew_of (pcₚ := 31) (fun _ => x_istore rfl) ?_
    have r3 : (0 : Int) ≤ F 6 23 ∧ F 6 23 ≤ 16384 := rngE (show (0 : Int) ≤ F_c22 6 23 ∧ F_c22 6 23 ≤ 16384 from H.frng 6 23) (show F_c22 6 23 = F 6 23 from (hS_c22 6 23 rfl))
    suffices hl31 : ∀ (m : Nat), ∀ (ls : rO) (σ : rS) (F_31 : hF) (A_31 : hA) (x31_4 : Int) (x31_5 : Int), rlook ls 0 = some (.ref (D 6)) → rlook ls 1 = some (I (a1)) → rlook ls 2 = some (I (a2)) → rlook ls 3 = some (I (tc22_0)) → rlook ls 4 = some (I (x31_4)) → rlook ls 5 = some (I (x31_5)) → HS σ0 σ D N F_31 A_31 → SF [(6, 23)] F_c22 F_31 → SA [] A_c22 A_31 → ∀ y31_6_23 : Int, F_31 6 23 = y31_6_23 → (inr (x31_4)) → (inr (x31_5)) → (-1 ≤ (x31_5) ∧ (x31_5) < (a1)) → ((x31_4) = 0 ∨ (u6_2) ≤ (x31_4) ∧ (x31_4) ≤ (tc22_0) ∧ (y31_6_23) < (a1)) → ((x31_5) + 1).toNat = m → Ew 397 (d + 1) 31 ls [] σ c s Q from
      hl31 _ _ σ _ _ (0) ((a1 - 1)) (rk_o (rk_o (rk_o (lc22_0) rfl rfl) rfl rfl) rfl rfl) (rk_o (rk_o (rk_o (lc22_1) rfl rfl) rfl rfl) rfl rfl) (rk_o (rk_o (rk_o (lc22_2) rfl rfl) rfl rfl) rfl rfl) (rk_o (rk_o (rk_s) rfl rfl) rfl rfl) (rk_o (rk_s) rfl rfl) (rk_s) H (SF_refl) (SA_refl) (F 6 23) ((hS_c22 6 23 rfl))  (show inr (0) from q_20) (show inr ((a1 - 1)) from q_1719 h0 h2) (show -1 ≤ ((a1 - 1)) ∧ ((a1 - 1)) < (a1) from q_1718 h2) (show (0) = 0 ∨ (u6_2) ≤ (0) ∧ (0) ≤ (tc22_0) ∧ (F 6 23) < (a1) from q_1717) rfl
    as_aux_lemma =>
    intro m
    induction m using Nat.strongRecOn with
    | _ m ih31 =>
      intro ls σ F_31 A_31 x31_4 x31_5 l31_0 l31_1 l31_2 l31_3 l31_4 l31_5 H hS_31 hA_31 y31_6_23 ey31_6_23  j31_0 j31_1 j31_2 j31_3 hm31
      have r4 : (0 : Int) ≤ y31_6_23 ∧ y31_6_23 ≤ 16384 := rngE (show (0 : Int) ≤ F_31 6 23 ∧ F_31 6 23 ≤ 16384 from H.frng 6 23) (show F_31 6 23 = y31_6_23 from (ey31_6_23))
      refine Ew_of (pcₚ := 33) (fun _ => x_iload rfl l31_5) ?_
      refine w_iflt (t := 154) rfl rfl (show inr (x31_5) from j31_1) (fun b5 => ?_) (fun b5 => ?_)
      · refine Ew_of (pcₚ := 156) (fun _ => x_iload rfl l31_4) ?_
        exact w_ireturn rfl (k (x31_4) σ _ _ H (SF_trans (SF_trans (SF_refl) hS_c22 (any_sub rfl)) hS_31 (any_sub rfl)) (SA_trans (SA_trans (SA_refl) hA_c22 (any_subA rfl)) hA_31 (any_subA rfl)) (y31_6_23) ((ey31_6_23)) (show inr (x31_4) from j31_0) (show 0 ≤ (x31_4) from q_1720 j31_3 r1) (show (x31_4) = 0 ∨ (u6_2) ≤ (x31_4) ∧ (x31_4) ≤ (u6_22) - a1 ∧ (y31_6_23) < a1 by omega))
      · refine Ew_of (pcₚ := 37) (fun _ => x_iload_n rfl l31_1) ?_
        refine Ew_of (pcₚ := 39) (fun _ => x_iload rfl l31_5) ?_
        refine w_isub rfl ?_
        refine Ew_of (pcₚ := 41) (fun _ => x_aload_n rfl l31_0) ?_
        have r6 : (0 : Int) ≤ F 6 24 ∧ F 6 24 ≤ 16777216 := rngE (show (0 : Int) ≤ F_31 6 24 ∧ F_31 6 24 ≤ 16777216 from H.frng 6 24) (show F_31 6 24 = F 6 24 from ((hS_31 6 24 rfl).trans (hS_c22 6 24 rfl)))
        refine w_gI H (o := 6) (w := F 6 24) rfl (H.perm 6 rfl) rfl rfl rfl (fun _ => rfl) ((hS_31 6 24 rfl).trans (hS_c22 6 24 rfl)) ?_
        refine w_icmpgt (t := 154) rfl rfl (show inr ((a1 - x31_5)) from q_1722 b5 h0 j31_2) (show inr (F 6 24) from q_1721 r6) (fun b7 => ?_) (fun b7 => ?_)
        · refine Ew_of (pcₚ := 156) (fun _ => x_iload rfl l31_4) ?_
          exact w_ireturn rfl (k (x31_4) σ _ _ H (SF_trans (SF_trans (SF_refl) hS_c22 (any_sub rfl)) hS_31 (any_sub rfl)) (SA_trans (SA_trans (SA_refl) hA_c22 (any_subA rfl)) hA_31 (any_subA rfl)) (y31_6_23) ((ey31_6_23)) (show inr (x31_4) from j31_0) (show 0 ≤ (x31_4) from q_1720 j31_3 r1) (show (x31_4) = 0 ∨ (u6_2) ≤ (x31_4) ∧ (x31_4) ≤ (u6_22) - a1 ∧ (y31_6_23) < a1 by omega))
        · refine Ew_of (pcₚ := 49) (fun _ => x_iload rfl l31_4) ?_
          refine Ew_of (pcₚ := 50) (fun _ => x_iload_n rfl l31_3) ?_
          refine w_icmpge (t := 154) rfl rfl (show inr (x31_4) from j31_0) (show inr (tc22_0) from jc22_0) (fun b8 => ?_) (fun b8 => ?_)
          · refine Ew_of (pcₚ := 156) (fun _ => x_iload rfl l31_4) ?_
            exact w_ireturn rfl (k (x31_4) σ _ _ H (SF_trans (SF_trans (SF_refl) hS_c22 (any_sub rfl)) hS_31 (any_sub rfl)) (SA_trans (SA_trans (SA_refl) hA_c22 (any_subA rfl)) hA_31 (any_subA rfl)) (y31_6_23) ((ey31_6_23)) (show inr (x31_4) from j31_0) (show 0 ≤ (x31_4) from q_1720 j31_3 r1) (show (x31_4) = 0 ∨ (u6_2) ≤ (x31_4) ∧ (x31_4) ≤ (u6_22) - a1 ∧ (y31_6_23) < a1 by omega))
          · refine Ew_of (pcₚ := 54) (fun _ => x_aload_n rfl l31_0) ?_
            refine Ew_of (pcₚ := 56) (fun _ => x_iload rfl l31_5) ?_
            refine Ew_of (pcₚ := 57) (fun _ => x_iload_n rfl l31_1) ?_
            refine Ew_of (pcₚ := 58) (fun _ => x_iload_n rfl l31_3) ?_
            refine w_inv H (o := 6) rfl rfl rfl (H.perm 6 rfl) rfl rfl (by rfl) (M396 H (show inr (x31_5) from j31_1) (show inr (a1) from h0) (show inr (tc22_0) from jc22_0) (show 0 ≤ (x31_5) ∧ (x31_5) < (a1) ∧ (tc22_0) + (a1) ≤ 16384 ∧ 0 ≤ (tc22_0) from q_1723 b5 b8 j31_2 j31_3 jc22_1 r1 r2) (fun z13 σ F9 A10 H hS11 hA12 pz13_0 pz13_1 => ⟨rfl, ?_⟩))
            refine Ew_of (pcₚ := 63) (fun _ => x_istore rfl) ?_
            refine Ew_of (pcₚ := 64) (fun _ => x_iload_n rfl (rk_o (l31_2) rfl rfl)) ?_
            refine Ew_of (pcₚ := 65) (fun _ => x_iconst rfl) ?_
            have hc112 : ∀ (tc112_0 : Int), ∀ (ls : rO) (σ : rS) (F_c112 : hF) (A_c112 : hA) , rlook ls 0 = some (.ref (D 6)) → rlook ls 1 = some (I (a1)) → rlook ls 2 = some (I (a2)) → rlook ls 3 = some (I (tc22_0)) → rlook ls 4 = some (I (x31_4)) → rlook ls 5 = some (I (x31_5)) → rlook ls 6 = some (I (z13)) → HS σ0 σ D N F_c112 A_c112 → SF [] F9 F_c112 → SA [] A10 A_c112 → (inr (tc112_0)) → (((a2) ≠ (2) ∧ (x31_4) = (0) ∧ (tc112_0) = (1)) ∨ ((a2) ≠ (2) ∧ (x31_4) ≠ (0) ∧ (a2) ≠ (1) ∧ (tc112_0) = (0)) ∨ ((a2) ≠ (2) ∧ (x31_4) ≠ (0) ∧ (a2) = (1) ∧ (x31_4) ≥ (8) ∧ (tc112_0) = (0)) ∨ ((a2) ≠ (2) ∧ (x31_4) ≠ (0) ∧ (a2) = (1) ∧ (x31_4) < (8) ∧ (z13) ≤ (7) ∧ (tc112_0) = (0)) ∨ ((a2) ≠ (2) ∧ (x31_4) ≠ (0) ∧ (a2) = (1) ∧ (x31_4) < (8) ∧ (z13) > (7) ∧ (tc112_0) = (1)) ∨ ((a2) = (2) ∧ (z13) ≤ (x31_4) ∧ (tc112_0) = (0)) ∨ ((a2) = (2) ∧ (z13) > (x31_4) ∧ (tc112_0) = (1))) → Ew 397 (d + 1) 112 ls [I (tc112_0)] σ c s Q := by
             as_aux_lemma =>
              intro tc112_0 ls σ F_c112 A_c112  lc112_0 lc112_1 lc112_2 lc112_3 lc112_4 lc112_5 lc112_6 H hS_c112 hA_c112   jc112_0 jc112_1
              refine Ew_of (pcₚ := 114) (fun _ => x_istore rfl) ?_
              refine Ew_of (pcₚ := 116) (fun _ => x_iload rfl (rk_o (lc112_6) rfl rfl)) ?_
              refine Ew_of (pcₚ := 117) (fun _ => x_aload_n rfl (rk_o (lc112_0) rfl rfl)) ?_
              refine w_gI H (o := 6) (w := u6_2) rfl (H.perm 6 rfl) rfl rfl rfl (fun _ => rfl) (((((hS_c112 6 2 rfl).trans (hS11 6 2 rfl)).trans (hS_31 6 2 rfl)).trans (hS_c22 6 2 rfl)).trans (eu6_2)) ?_
              refine w_icmplt (t := 148) rfl rfl (show inr (z13) from pz13_0) (show inr (u6_2) from q_1724 r1) (fun b14 => ?_) (fun b14 => ?_)
              · refine Ew_of (pcₚ := 151) (fun _ => x_iinc (len := 3) rfl (rk_o (lc112_5) rfl rfl)) ?_
                refine Ew_of (pcₚ := 31) (fun _ => x_goto rfl rfl) ?_
                exact ih31 _ (msE hm31 q_1726 (q_1727 b5)) _ σ _ _ (x31_4) ((x31_5 + (-1))) (rk_o (rk_o (lc112_0) rfl rfl) rfl rfl) (rk_o (rk_o (lc112_1) rfl rfl) rfl rfl) (rk_o (rk_o (lc112_2) rfl rfl) rfl rfl) (rk_o (rk_o (lc112_3) rfl rfl) rfl rfl) (rk_o (rk_o (lc112_4) rfl rfl) rfl rfl) (rk_s) H (SF_trans (SF_trans (hS_31) hS11 (any_sub rfl)) hS_c112 (any_sub rfl)) (SA_trans (SA_trans (hA_31) hA12 (any_subA rfl)) hA_c112 (any_subA rfl)) (y31_6_23) ((((hS_c112 6 23 rfl).trans (hS11 6 23 rfl)).trans (ey31_6_23)))  (show inr (x31_4) from j31_0) (show inr ((x31_5 + (-1))) from q_175 b5 j31_1) (show -1 ≤ ((x31_5 + (-1))) ∧ ((x31_5 + (-1))) < (a1) from q_1725 b5 j31_2) (show (x31_4) = 0 ∨ (u6_2) ≤ (x31_4) ∧ (x31_4) ≤ (tc22_0) ∧ (y31_6_23) < (a1) from j31_3) rfl
              · refine Ew_of (pcₚ := 125) (fun _ => x_iload rfl rk_s) ?_
                refine w_ifne (t := 131) rfl rfl (show inr (tc112_0) from jc112_0) (fun b15 => ?_) (fun b15 => ?_)
                · refine Ew_of (pcₚ := 133) (fun _ => x_iload rfl (rk_o (lc112_6) rfl rfl)) ?_
                  refine Ew_of (pcₚ := 135) (fun _ => x_istore rfl) ?_
                  refine Ew_of (pcₚ := 136) (fun _ => x_aload_n rfl (rk_o (rk_o (lc112_0) rfl rfl) rfl rfl)) ?_
                  refine Ew_of (pcₚ := 138) (fun _ => x_iload rfl (rk_o (rk_o (lc112_5) rfl rfl) rfl rfl)) ?_
                  refine w_pI H (o := 6) rfl rfl (H.perm 6 rfl) rfl rfl rfl (fun _ => rfl) rfl (show (0 : Int) ≤ x31_5 ∧ x31_5 ≤ 16384 from q_1728 b5 h2 j31_2 r2) (fun σ H => ?_)
                  refine Ew_of (pcₚ := 142) (fun _ => x_iload_n rfl (rk_o (rk_o (lc112_2) rfl rfl) rfl rfl)) ?_
                  refine w_ifne (t := 148) rfl rfl (show inr (a2) from h1) (fun b16 => ?_) (fun b16 => ?_)
                  · refine Ew_of (pcₚ := 151) (fun _ => x_iinc (len := 3) rfl (rk_o (rk_o (lc112_5) rfl rfl) rfl rfl)) ?_
                    refine Ew_of (pcₚ := 31) (fun _ => x_goto rfl rfl) ?_
                    exact ih31 _ (msE hm31 q_1726 (q_1727 b5)) _ σ _ _ (z13) ((x31_5 + (-1))) (rk_o (rk_o (rk_o (lc112_0) rfl rfl) rfl rfl) rfl rfl) (rk_o (rk_o (rk_o (lc112_1) rfl rfl) rfl rfl) rfl rfl) (rk_o (rk_o (rk_o (lc112_2) rfl rfl) rfl rfl) rfl rfl) (rk_o (rk_o (rk_o (lc112_3) rfl rfl) rfl rfl) rfl rfl) (rk_o (rk_s) rfl rfl) (rk_s) H (SF_upd (SF_trans (SF_trans (hS_31) hS11 (any_sub rfl)) hS_c112 (any_sub rfl)) rfl) (SA_trans (SA_trans (hA_31) hA12 (any_subA rfl)) hA_c112 (any_subA rfl)) (x31_5) (rfl)  (show inr (z13) from pz13_0) (show inr ((x31_5 + (-1))) from q_175 b5 j31_1) (show -1 ≤ ((x31_5 + (-1))) ∧ ((x31_5 + (-1))) < (a1) from q_1725 b5 j31_2) (show (z13) = 0 ∨ (u6_2) ≤ (z13) ∧ (z13) ≤ (tc22_0) ∧ (x31_5) < (a1) from q_1729 b14 j31_2 pz13_1) rfl
                  · refine Ew_of (pcₚ := 147) (fun _ => x_iload rfl rk_s) ?_
                    exact w_ireturn rfl (k (z13) σ _ _ H (SF_upd (SF_trans (SF_trans (SF_trans (SF_trans (SF_refl) hS_c22 (any_sub rfl)) hS_31 (any_sub rfl)) hS11 (any_sub rfl)) hS_c112 (any_sub rfl)) rfl) (SA_trans (SA_trans (SA_trans (SA_trans (SA_refl) hA_c22 (any_subA rfl)) hA_31 (any_subA rfl)) hA12 (any_subA rfl)) hA_c112 (any_subA rfl)) (x31_5) (rfl) (show inr (z13) from pz13_0) (show 0 ≤ (z13) from q_1730 pz13_1) (show (z13) = 0 ∨ (u6_2) ≤ (z13) ∧ (z13) ≤ (u6_22) - a1 ∧ (x31_5) < a1 by omega))
                · refine Ew_of (pcₚ := 148) (fun _ => x_goto rfl rfl) ?_
                  refine Ew_of (pcₚ := 151) (fun _ => x_iinc (len := 3) rfl (rk_o (lc112_5) rfl rfl)) ?_
                  refine Ew_of (pcₚ := 31) (fun _ => x_goto rfl rfl) ?_
                  exact ih31 _ (msE hm31 q_1726 (q_1727 b5)) _ σ _ _ (x31_4) ((x31_5 + (-1))) (rk_o (rk_o (lc112_0) rfl rfl) rfl rfl) (rk_o (rk_o (lc112_1) rfl rfl) rfl rfl) (rk_o (rk_o (lc112_2) rfl rfl) rfl rfl) (rk_o (rk_o (lc112_3) rfl rfl) rfl rfl) (rk_o (rk_o (lc112_4) rfl rfl) rfl rfl) (rk_s) H (SF_trans (SF_trans (hS_31) hS11 (any_sub rfl)) hS_c112 (any_sub rfl)) (SA_trans (SA_trans (hA_31) hA12 (any_subA rfl)) hA_c112 (any_subA rfl)) (y31_6_23) ((((hS_c112 6 23 rfl).trans (hS11 6 23 rfl)).trans (ey31_6_23)))  (show inr (x31_4) from j31_0) (show inr ((x31_5 + (-1))) from q_175 b5 j31_1) (show -1 ≤ ((x31_5 + (-1))) ∧ ((x31_5 + (-1))) < (a1) from q_1725 b5 j31_2) (show (x31_4) = 0 ∨ (u6_2) ≤ (x31_4) ∧ (x31_4) ≤ (tc22_0) ∧ (y31_6_23) < (a1) from j31_3) rfl
            refine w_icmpne (t := 83) rfl rfl (show inr (a2) from h1) (show inr (2) from q_55) (fun b17 => ?_) (fun b17 => ?_)
            · refine Ew_of (pcₚ := 85) (fun _ => x_iload rfl (rk_o (l31_4) rfl rfl)) ?_
              refine w_ifeq (t := 107) rfl rfl (show inr (x31_4) from j31_0) (fun b18 => ?_) (fun b18 => ?_)
              · refine Ew_of (pcₚ := 108) (fun _ => x_iconst rfl) ?_
                refine Ew_of (pcₚ := 112) (fun _ => x_goto rfl rfl) ?_
                exact hc112 (1) _ σ _ _  (rk_o (l31_0) rfl rfl) (rk_o (l31_1) rfl rfl) (rk_o (l31_2) rfl rfl) (rk_o (l31_3) rfl rfl) (rk_o (l31_4) rfl rfl) (rk_o (l31_5) rfl rfl) (rk_s) H (SF_refl) (SA_refl)   (show inr (1) from q_23) (show ((a2) ≠ (2) ∧ (x31_4) = (0) ∧ (1) = (1)) ∨ ((a2) ≠ (2) ∧ (x31_4) ≠ (0) ∧ (a2) ≠ (1) ∧ (1) = (0)) ∨ ((a2) ≠ (2) ∧ (x31_4) ≠ (0) ∧ (a2) = (1) ∧ (x31_4) ≥ (8) ∧ (1) = (0)) ∨ ((a2) ≠ (2) ∧ (x31_4) ≠ (0) ∧ (a2) = (1) ∧ (x31_4) < (8) ∧ (z13) ≤ (7) ∧ (1) = (0)) ∨ ((a2) ≠ (2) ∧ (x31_4) ≠ (0) ∧ (a2) = (1) ∧ (x31_4) < (8) ∧ (z13) > (7) ∧ (1) = (1)) ∨ ((a2) = (2) ∧ (z13) ≤ (x31_4) ∧ (1) = (0)) ∨ ((a2) = (2) ∧ (z13) > (x31_4) ∧ (1) = (1)) from q_1731 b17 b18)
              · refine Ew_of (pcₚ := 89) (fun _ => x_iload_n rfl (rk_o (l31_2) rfl rfl)) ?_
                refine Ew_of (pcₚ := 90) (fun _ => x_iconst rfl) ?_
                refine w_icmpne (t := 111) rfl rfl (show inr (a2) from h1) (show inr (1) from q_23) (fun b19 => ?_) (fun b19 => ?_)
                · refine Ew_of (pcₚ := 112) (fun _ => x_iconst rfl) ?_
                  exact hc112 (0) _ σ _ _  (rk_o (l31_0) rfl rfl) (rk_o (l31_1) rfl rfl) (rk_o (l31_2) rfl rfl) (rk_o (l31_3) rfl rfl) (rk_o (l31_4) rfl rfl) (rk_o (l31_5) rfl rfl) (rk_s) H (SF_refl) (SA_refl)   (show inr (0) from q_20) (show ((a2) ≠ (2) ∧ (x31_4) = (0) ∧ (0) = (1)) ∨ ((a2) ≠ (2) ∧ (x31_4) ≠ (0) ∧ (a2) ≠ (1) ∧ (0) = (0)) ∨ ((a2) ≠ (2) ∧ (x31_4) ≠ (0) ∧ (a2) = (1) ∧ (x31_4) ≥ (8) ∧ (0) = (0)) ∨ ((a2) ≠ (2) ∧ (x31_4) ≠ (0) ∧ (a2) = (1) ∧ (x31_4) < (8) ∧ (z13) ≤ (7) ∧ (0) = (0)) ∨ ((a2) ≠ (2) ∧ (x31_4) ≠ (0) ∧ (a2) = (1) ∧ (x31_4) < (8) ∧ (z13) > (7) ∧ (0) = (1)) ∨ ((a2) = (2) ∧ (z13) ≤ (x31_4) ∧ (0) = (0)) ∨ ((a2) = (2) ∧ (z13) > (x31_4) ∧ (0) = (1)) from q_1732 b17 b18 b19)
                · refine Ew_of (pcₚ := 95) (fun _ => x_iload rfl (rk_o (l31_4) rfl rfl)) ?_
                  refine Ew_of (pcₚ := 97) (fun _ => x_bipush (z := 8) rfl (by decide)) ?_
                  refine w_icmpge (t := 111) rfl rfl (show inr (x31_4) from j31_0) (show inr (8) from q_96) (fun b20 => ?_) (fun b20 => ?_)
                  · refine Ew_of (pcₚ := 112) (fun _ => x_iconst rfl) ?_
                    exact hc112 (0) _ σ _ _  (rk_o (l31_0) rfl rfl) (rk_o (l31_1) rfl rfl) (rk_o (l31_2) rfl rfl) (rk_o (l31_3) rfl rfl) (rk_o (l31_4) rfl rfl) (rk_o (l31_5) rfl rfl) (rk_s) H (SF_refl) (SA_refl)   (show inr (0) from q_20) (show ((a2) ≠ (2) ∧ (x31_4) = (0) ∧ (0) = (1)) ∨ ((a2) ≠ (2) ∧ (x31_4) ≠ (0) ∧ (a2) ≠ (1) ∧ (0) = (0)) ∨ ((a2) ≠ (2) ∧ (x31_4) ≠ (0) ∧ (a2) = (1) ∧ (x31_4) ≥ (8) ∧ (0) = (0)) ∨ ((a2) ≠ (2) ∧ (x31_4) ≠ (0) ∧ (a2) = (1) ∧ (x31_4) < (8) ∧ (z13) ≤ (7) ∧ (0) = (0)) ∨ ((a2) ≠ (2) ∧ (x31_4) ≠ (0) ∧ (a2) = (1) ∧ (x31_4) < (8) ∧ (z13) > (7) ∧ (0) = (1)) ∨ ((a2) = (2) ∧ (z13) ≤ (x31_4) ∧ (0) = (0)) ∨ ((a2) = (2) ∧ (z13) > (x31_4) ∧ (0) = (1)) from q_1733 b17 b18 b19 b20)
                  · refine Ew_of (pcₚ := 102) (fun _ => x_iload rfl rk_s) ?_
                    refine Ew_of (pcₚ := 104) (fun _ => x_bipush (z := 7) rfl (by decide)) ?_
                    refine w_icmple (t := 111) rfl rfl (show inr (z13) from pz13_0) (show inr (7) from q_355) (fun b21 => ?_) (fun b21 => ?_)
                    · refine Ew_of (pcₚ := 112) (fun _ => x_iconst rfl) ?_
                      exact hc112 (0) _ σ _ _  (rk_o (l31_0) rfl rfl) (rk_o (l31_1) rfl rfl) (rk_o (l31_2) rfl rfl) (rk_o (l31_3) rfl rfl) (rk_o (l31_4) rfl rfl) (rk_o (l31_5) rfl rfl) (rk_s) H (SF_refl) (SA_refl)   (show inr (0) from q_20) (show ((a2) ≠ (2) ∧ (x31_4) = (0) ∧ (0) = (1)) ∨ ((a2) ≠ (2) ∧ (x31_4) ≠ (0) ∧ (a2) ≠ (1) ∧ (0) = (0)) ∨ ((a2) ≠ (2) ∧ (x31_4) ≠ (0) ∧ (a2) = (1) ∧ (x31_4) ≥ (8) ∧ (0) = (0)) ∨ ((a2) ≠ (2) ∧ (x31_4) ≠ (0) ∧ (a2) = (1) ∧ (x31_4) < (8) ∧ (z13) ≤ (7) ∧ (0) = (0)) ∨ ((a2) ≠ (2) ∧ (x31_4) ≠ (0) ∧ (a2) = (1) ∧ (x31_4) < (8) ∧ (z13) > (7) ∧ (0) = (1)) ∨ ((a2) = (2) ∧ (z13) ≤ (x31_4) ∧ (0) = (0)) ∨ ((a2) = (2) ∧ (z13) > (x31_4) ∧ (0) = (1)) from q_1734 b17 b18 b19 b20 b21)
                    · refine Ew_of (pcₚ := 108) (fun _ => x_iconst rfl) ?_
                      refine Ew_of (pcₚ := 112) (fun _ => x_goto rfl rfl) ?_
                      exact hc112 (1) _ σ _ _  (rk_o (l31_0) rfl rfl) (rk_o (l31_1) rfl rfl) (rk_o (l31_2) rfl rfl) (rk_o (l31_3) rfl rfl) (rk_o (l31_4) rfl rfl) (rk_o (l31_5) rfl rfl) (rk_s) H (SF_refl) (SA_refl)   (show inr (1) from q_23) (show ((a2) ≠ (2) ∧ (x31_4) = (0) ∧ (1) = (1)) ∨ ((a2) ≠ (2) ∧ (x31_4) ≠ (0) ∧ (a2) ≠ (1) ∧ (1) = (0)) ∨ ((a2) ≠ (2) ∧ (x31_4) ≠ (0) ∧ (a2) = (1) ∧ (x31_4) ≥ (8) ∧ (1) = (0)) ∨ ((a2) ≠ (2) ∧ (x31_4) ≠ (0) ∧ (a2) = (1) ∧ (x31_4) < (8) ∧ (z13) ≤ (7) ∧ (1) = (0)) ∨ ((a2) ≠ (2) ∧ (x31_4) ≠ (0) ∧ (a2) = (1) ∧ (x31_4) < (8) ∧ (z13) > (7) ∧ (1) = (1)) ∨ ((a2) = (2) ∧ (z13) ≤ (x31_4) ∧ (1) = (0)) ∨ ((a2) = (2) ∧ (z13) > (x31_4) ∧ (1) = (1)) from q_1735 b17 b18 b19 b20 b21)
            · refine Ew_of (pcₚ := 70) (fun _ => x_iload rfl rk_s) ?_
              refine Ew_of (pcₚ := 72) (fun _ => x_iload rfl (rk_o (l31_4) rfl rfl)) ?_
              refine w_icmple (t := 79) rfl rfl (show inr (z13) from pz13_0) (show inr (x31_4) from j31_0) (fun b22 => ?_) (fun b22 => ?_)
              · refine Ew_of (pcₚ := 80) (fun _ => x_iconst rfl) ?_
                refine Ew_of (pcₚ := 112) (fun _ => x_goto rfl rfl) ?_
                exact hc112 (0) _ σ _ _  (rk_o (l31_0) rfl rfl) (rk_o (l31_1) rfl rfl) (rk_o (l31_2) rfl rfl) (rk_o (l31_3) rfl rfl) (rk_o (l31_4) rfl rfl) (rk_o (l31_5) rfl rfl) (rk_s) H (SF_refl) (SA_refl)   (show inr (0) from q_20) (show ((a2) ≠ (2) ∧ (x31_4) = (0) ∧ (0) = (1)) ∨ ((a2) ≠ (2) ∧ (x31_4) ≠ (0) ∧ (a2) ≠ (1) ∧ (0) = (0)) ∨ ((a2) ≠ (2) ∧ (x31_4) ≠ (0) ∧ (a2) = (1) ∧ (x31_4) ≥ (8) ∧ (0) = (0)) ∨ ((a2) ≠ (2) ∧ (x31_4) ≠ (0) ∧ (a2) = (1) ∧ (x31_4) < (8) ∧ (z13) ≤ (7) ∧ (0) = (0)) ∨ ((a2) ≠ (2) ∧ (x31_4) ≠ (0) ∧ (a2) = (1) ∧ (x31_4) < (8) ∧ (z13) > (7) ∧ (0) = (1)) ∨ ((a2) = (2) ∧ (z13) ≤ (x31_4) ∧ (0) = (0)) ∨ ((a2) = (2) ∧ (z13) > (x31_4) ∧ (0) = (1)) from q_1736 b17 b22)
              · refine Ew_of (pcₚ := 76) (fun _ => x_iconst rfl) ?_
                refine Ew_of (pcₚ := 112) (fun _ => x_goto rfl rfl) ?_
                exact hc112 (1) _ σ _ _  (rk_o (l31_0) rfl rfl) (rk_o (l31_1) rfl rfl) (rk_o (l31_2) rfl rfl) (rk_o (l31_3) rfl rfl) (rk_o (l31_4) rfl rfl) (rk_o (l31_5) rfl rfl) (rk_s) H (SF_refl) (SA_refl)   (show inr (1) from q_23) (show ((a2) ≠ (2) ∧ (x31_4) = (0) ∧ (1) = (1)) ∨ ((a2) ≠ (2) ∧ (x31_4) ≠ (0) ∧ (a2) ≠ (1) ∧ (1) = (0)) ∨ ((a2) ≠ (2) ∧ (x31_4) ≠ (0) ∧ (a2) = (1) ∧ (x31_4) ≥ (8) ∧ (1) = (0)) ∨ ((a2) ≠ (2) ∧ (x31_4) ≠ (0) ∧ (a2) = (1) ∧ (x31_4) < (8) ∧ (z13) ≤ (7) ∧ (1) = (0)) ∨ ((a2) ≠ (2) ∧ (x31_4) ≠ (0) ∧ (a2) = (1) ∧ (x31_4) < (8) ∧ (z13) > (7) ∧ (1) = (1)) ∨ ((a2) = (2) ∧ (z13) ≤ (x31_4) ∧ (1) = (0)) ∨ ((a2) = (2) ∧ (z13) > (x31_4) ∧ (1) = (1)) from q_1737 b17 b22)
  refine w_icmpge (t := 20) rfl rfl (show inr ((u6_22 - a1)) from q_1739 h2 r2) (show inr (131074) from q_1738) (fun b23 => ?_) (fun b23 => ?_)
  · refine Ew_of (pcₚ := 22) (fun _ => x_ldc (z := 131074) rfl (by decide)) ?_
    exact hc22 (131074) _ σ _ _  (rfl) (rfl) (rfl) H (SF_refl) (SA_refl)   (show inr (131074) from q_1738) (show (((u6_22 - a1)) ≥ (131074) ∧ (131074) = (131074)) ∨ (((u6_22 - a1)) < (131074) ∧ (131074) = ((u6_22 - a1))) from q_1740 b23)
  · refine Ew_of (pcₚ := 12) (fun _ => x_aload_n rfl rfl) ?_
    refine w_gI H (o := 6) (w := u6_22) rfl (H.perm 6 rfl) rfl rfl rfl (fun _ => rfl) (eu6_22) ?_
    refine Ew_of (pcₚ := 16) (fun _ => x_iload_n rfl rfl) ?_
    refine w_isub rfl ?_
    refine Ew_of (pcₚ := 22) (fun _ => x_goto rfl rfl) ?_
    exact hc22 ((u6_22 - a1)) _ σ _ _  (rfl) (rfl) (rfl) H (SF_refl) (SA_refl)   (show inr ((u6_22 - a1)) from q_1742 b23 h2) (show (((u6_22 - a1)) ≥ (131074) ∧ ((u6_22 - a1)) = (131074)) ∨ (((u6_22 - a1)) < (131074) ∧ ((u6_22 - a1)) = ((u6_22 - a1))) from q_1741 b23)
/-- Writer.taken -/
theorem M398 {σ0 σ : rS} {D N : Nat → Nat} {F : hF} {A : hA} {d c s : Nat} {Q : wQ} (H : HS σ0 σ D N F A) {a1 : Int} (u6_2 : Int) (eu6_2 : F 6 2 = u6_2) (u6_22 : Int) (eu6_22 : F 6 22 = u6_22) (h0 : inr (a1)) (h1 : 0 ≤ (a1) ∧ (a1) < (u6_22)) (h2 : 1 ≤ (u6_2)) (k : ∀ (z : Int) σ Fₚ Aₚ, HS σ0 σ D N Fₚ Aₚ → SF [(6, 23)] F Fₚ → SA [] A Aₚ → ∀ y6_23 : Int, Fₚ 6 23 = y6_23 → (inr (z)) → (0 ≤ (z)) → ((z) = 0 ∨ (u6_2) ≤ (z) ∧ (z) ≤ (u6_22) - (a1) ∧ (y6_23) < (a1)) → Q (some (I z)) σ c s) : Ew 398 (d + 2) 0 (rargs 0 [.ref (D 6), I a1]) [] σ c s Q := by
  have r1 : (0 : Int) ≤ u6_2 ∧ u6_2 ≤ 8 := rngE (show (0 : Int) ≤ F 6 2 ∧ F 6 2 ≤ 8 from H.frng 6 2) (show F 6 2 = u6_2 from (eu6_2))
  have r2 : (0 : Int) ≤ u6_22 ∧ u6_22 ≤ 16384 := rngE (show (0 : Int) ≤ F 6 22 ∧ F 6 22 ≤ 16384 from H.frng 6 22) (show F 6 22 = u6_22 from (eu6_22))
  refine Ew_of (pcₚ := 1) (fun _ => x_aload_n rfl rfl) ?_
  have r3 : (0 : Int) ≤ F 6 1 ∧ F 6 1 ≤ 3 := H.frng 6 1
  refine w_gI H (o := 6) (w := F 6 1) rfl (H.perm 6 rfl) rfl rfl rfl (fun _ => rfl) rfl ?_
  refine Ew_of (pcₚ := 5) (fun _ => x_iconst rfl) ?_
  refine w_icmpge (t := 18) rfl rfl (show inr (F 6 1) from q_1743 r3) (show inr (3) from q_66) (fun b4 => ?_) (fun b4 => ?_)
  · refine Ew_of (pcₚ := 19) (fun _ => x_iload_n rfl rfl) ?_
    refine Ew_of (pcₚ := 20) (fun _ => x_iconst rfl) ?_
    refine w_iadd rfl ?_
    refine Ew_of (pcₚ := 22) (fun _ => x_aload_n rfl rfl) ?_
    refine w_gI H (o := 6) (w := u6_22) rfl (H.perm 6 rfl) rfl rfl rfl (fun _ => rfl) (eu6_22) ?_
    refine w_icmpge (t := 39) rfl rfl (show inr ((a1 + 1)) from q_1744 h1 r2) (show inr (u6_22) from q_243 r2) (fun b5 => ?_) (fun b5 => ?_)
    · refine Ew_of (pcₚ := 40) (fun _ => x_iconst rfl) ?_
      refine Ew_of (pcₚ := 41) (fun _ => x_istore_n rfl) ?_
      refine Ew_of (pcₚ := 42) (fun _ => x_aload_n rfl (rk_o (rfl) rfl rfl)) ?_
      refine Ew_of (pcₚ := 43) (fun _ => x_iload_n rfl (rk_o (rfl) rfl rfl)) ?_
      refine Ew_of (pcₚ := 44) (fun _ => x_iconst rfl) ?_
      refine w_inv H (o := 6) rfl rfl rfl (H.perm 6 rfl) rfl rfl (by rfl) (M397 H (u6_2) ((eu6_2)) (u6_22) ((eu6_22)) (show inr (a1) from h0) (show inr (2) from q_55) (show 0 ≤ (a1) ∧ (a1) < (u6_22) from h1) (show 1 ≤ (u6_2) from h2) (fun z10 σ F6 A7 H hS8 hA9 y11 ey12 pz10_0 pz10_1 pz10_2 => ⟨rfl, ?_⟩))
      have r13 : (0 : Int) ≤ y11 ∧ y11 ≤ 16384 := rngE (show (0 : Int) ≤ F6 6 23 ∧ F6 6 23 ≤ 16384 from H.frng 6 23) (show F6 6 23 = y11 from (ey12))
      refine Ew_of (pcₚ := 48) (fun _ => x_istore_n rfl) ?_
      refine Ew_of (pcₚ := 49) (fun _ => x_iload_n rfl (rk_o (rk_s) rfl rfl)) ?_
      refine Ew_of (pcₚ := 50) (fun _ => x_iload_n rfl rk_s) ?_
      refine w_icmple (t := 57) rfl rfl (show inr (0) from q_20) (show inr (z10) from pz10_0) (fun b14 => ?_) (fun b14 => ?_)
      · refine Ew_of (pcₚ := 58) (fun _ => x_iload_n rfl rk_s) ?_
        exact w_ireturn rfl (k (z10) σ _ _ H (SF_trans (SF_refl) hS8 (any_sub rfl)) (SA_trans (SA_refl) hA9 (any_subA rfl)) (y11) ((ey12)) (show inr (z10) from pz10_0) (show 0 ≤ (z10) from b14) (show (z10) = 0 ∨ (u6_2) ≤ (z10) ∧ (z10) ≤ (u6_22) - a1 ∧ (y11) < a1 from pz10_2))
      · refine Ew_of (pcₚ := 54) (fun _ => x_iconst rfl) ?_
        refine Ew_of (pcₚ := 58) (fun _ => x_goto rfl rfl) ?_
        exact w_ireturn rfl (k (0) σ _ _ H (SF_trans (SF_refl) hS8 (any_sub rfl)) (SA_trans (SA_refl) hA9 (any_subA rfl)) (y11) ((ey12)) (show inr (0) from q_20) (show 0 ≤ (0) by first | exact q_25 | omega) (show (0) = 0 ∨ (u6_2) ≤ (0) ∧ (0) ≤ (u6_22) - a1 ∧ (y11) < a1 by first | exact q_1745 | omega))
    · refine Ew_of (pcₚ := 29) (fun _ => x_aload_n rfl rfl) ?_
      refine Ew_of (pcₚ := 30) (fun _ => x_iload_n rfl rfl) ?_
      refine Ew_of (pcₚ := 31) (fun _ => x_iconst rfl) ?_
      refine w_iadd rfl ?_
      refine Ew_of (pcₚ := 33) (fun _ => x_iconst rfl) ?_
      refine w_inv H (o := 6) rfl rfl rfl (H.perm 6 rfl) rfl rfl (by rfl) (M397 H (u6_2) ((eu6_2)) (u6_22) ((eu6_22)) (show inr ((a1 + 1)) from q_1747 b5 h1 r2) (show inr (2) from q_55) (show 0 ≤ ((a1 + 1)) ∧ ((a1 + 1)) < (u6_22) from q_1746 b5 h1) (show 1 ≤ (u6_2) from h2) (fun z19 σ F15 A16 H hS17 hA18 y20 ey21 pz19_0 pz19_1 pz19_2 => ⟨rfl, ?_⟩))
      have r22 : (0 : Int) ≤ y20 ∧ y20 ≤ 16384 := rngE (show (0 : Int) ≤ F15 6 23 ∧ F15 6 23 ≤ 16384 from H.frng 6 23) (show F15 6 23 = y20 from (ey21))
      refine Ew_of (pcₚ := 40) (fun _ => x_goto rfl rfl) ?_
      refine Ew_of (pcₚ := 41) (fun _ => x_istore_n rfl) ?_
      refine Ew_of (pcₚ := 42) (fun _ => x_aload_n rfl (rk_o (rfl) rfl rfl)) ?_
      refine Ew_of (pcₚ := 43) (fun _ => x_iload_n rfl (rk_o (rfl) rfl rfl)) ?_
      refine Ew_of (pcₚ := 44) (fun _ => x_iconst rfl) ?_
      refine w_inv H (o := 6) rfl rfl rfl (H.perm 6 rfl) rfl rfl (by rfl) (M397 H (u6_2) (((hS17 6 2 rfl).trans (eu6_2))) (u6_22) (((hS17 6 22 rfl).trans (eu6_22))) (show inr (a1) from h0) (show inr (2) from q_55) (show 0 ≤ (a1) ∧ (a1) < (u6_22) from h1) (show 1 ≤ (u6_2) from h2) (fun z27 σ F23 A24 H hS25 hA26 y28 ey29 pz27_0 pz27_1 pz27_2 => ⟨rfl, ?_⟩))
      have r30 : (0 : Int) ≤ y28 ∧ y28 ≤ 16384 := rngE (show (0 : Int) ≤ F23 6 23 ∧ F23 6 23 ≤ 16384 from H.frng 6 23) (show F23 6 23 = y28 from (ey29))
      refine Ew_of (pcₚ := 48) (fun _ => x_istore_n rfl) ?_
      refine Ew_of (pcₚ := 49) (fun _ => x_iload_n rfl (rk_o (rk_s) rfl rfl)) ?_
      refine Ew_of (pcₚ := 50) (fun _ => x_iload_n rfl rk_s) ?_
      refine w_icmple (t := 57) rfl rfl (show inr (z19) from pz19_0) (show inr (z27) from pz27_0) (fun b31 => ?_) (fun b31 => ?_)
      · refine Ew_of (pcₚ := 58) (fun _ => x_iload_n rfl rk_s) ?_
        exact w_ireturn rfl (k (z27) σ _ _ H (SF_trans (SF_trans (SF_refl) hS17 (any_sub rfl)) hS25 (any_sub rfl)) (SA_trans (SA_trans (SA_refl) hA18 (any_subA rfl)) hA26 (any_subA rfl)) (y28) ((ey29)) (show inr (z27) from pz27_0) (show 0 ≤ (z27) from pz27_1) (show (z27) = 0 ∨ (u6_2) ≤ (z27) ∧ (z27) ≤ (u6_22) - a1 ∧ (y28) < a1 from pz27_2))
      · refine Ew_of (pcₚ := 54) (fun _ => x_iconst rfl) ?_
        refine Ew_of (pcₚ := 58) (fun _ => x_goto rfl rfl) ?_
        exact w_ireturn rfl (k (0) σ _ _ H (SF_trans (SF_trans (SF_refl) hS17 (any_sub rfl)) hS25 (any_sub rfl)) (SA_trans (SA_trans (SA_refl) hA18 (any_subA rfl)) hA26 (any_subA rfl)) (y28) ((ey29)) (show inr (0) from q_20) (show 0 ≤ (0) by first | exact q_25 | omega) (show (0) = 0 ∨ (u6_2) ≤ (0) ∧ (0) ≤ (u6_22) - a1 ∧ (y28) < a1 by first | exact q_1745 | omega))
  · refine Ew_of (pcₚ := 9) (fun _ => x_aload_n rfl rfl) ?_
    refine Ew_of (pcₚ := 10) (fun _ => x_iload_n rfl rfl) ?_
    refine Ew_of (pcₚ := 11) (fun _ => x_aload_n rfl rfl) ?_
    refine w_gI H (o := 6) (w := F 6 1) rfl (H.perm 6 rfl) rfl rfl rfl (fun _ => rfl) rfl ?_
    refine w_inv H (o := 6) rfl rfl rfl (H.perm 6 rfl) rfl rfl (by rfl) (M397 H (u6_2) ((eu6_2)) (u6_22) ((eu6_22)) (show inr (a1) from h0) (show inr (F 6 1) from q_1748 b4 r3) (show 0 ≤ (a1) ∧ (a1) < (u6_22) from h1) (show 1 ≤ (u6_2) from h2) (fun z36 σ F32 A33 H hS34 hA35 y37 ey38 pz36_0 pz36_1 pz36_2 => ⟨rfl, ?_⟩))
    have r39 : (0 : Int) ≤ y37 ∧ y37 ≤ 16384 := rngE (show (0 : Int) ≤ F32 6 23 ∧ F32 6 23 ≤ 16384 from H.frng 6 23) (show F32 6 23 = y37 from (ey38))
    exact w_ireturn rfl (k (z36) σ _ _ H (SF_trans (SF_refl) hS34 (any_sub rfl)) (SA_trans (SA_refl) hA35 (any_subA rfl)) (y37) ((ey38)) (show inr (z36) from pz36_0) (show 0 ≤ (z36) from pz36_1) (show (z36) = 0 ∨ (u6_2) ≤ (z36) ∧ (z36) ≤ (u6_22) - a1 ∧ (y37) < a1 from pz36_2))
/-- Writer.go -/
theorem M399 {σ0 σ : rS} {D N : Nat → Nat} {F : hF} {A : hA} {d c s : Nat} {Q : wQ} (H : HS σ0 σ D N F A) {a1 : Int} (u6_2 : Int) (eu6_2 : F 6 2 = u6_2) (u6_22 : Int) (eu6_22 : F 6 22 = u6_22) (h0 : inr (a1)) (h1 : 0 ≤ (a1) ∧ (a1) ≤ (u6_22)) (h2 : 3 ≤ (u6_2)) (k : ∀ σ Fₚ Aₚ, HS σ0 σ D N Fₚ Aₚ → SF [(6, 23), (6, 28), (6, 30)] F Fₚ → SA [62, 63, 64, 65] A Aₚ → ∀ y6_28 : Int, Fₚ 6 28 = y6_28 → ∀ y6_30 : Int, Fₚ 6 30 = y6_30 → (3 * (y6_28) + (y6_30) ≤ (u6_22) - (a1)) → Q none σ c s) : Ew 399 (d + 3) 0 (rargs 0 [.ref (D 6), I a1]) [] σ c s Q := by
  have r1 : (0 : Int) ≤ u6_2 ∧ u6_2 ≤ 8 := rngE (show (0 : Int) ≤ F 6 2 ∧ F 6 2 ≤ 8 from H.frng 6 2) (show F 6 2 = u6_2 from (eu6_2))
  have r2 : (0 : Int) ≤ u6_22 ∧ u6_22 ≤ 16384 := rngE (show (0 : Int) ≤ F 6 22 ∧ F 6 22 ≤ 16384 from H.frng 6 22) (show F 6 22 = u6_22 from (eu6_22))
  refine Ew_of (pcₚ := 1) (fun _ => x_aload_n rfl rfl) ?_
  refine Ew_of (pcₚ := 2) (fun _ => x_iconst rfl) ?_
  refine w_pI H (o := 6) rfl rfl (H.perm 6 rfl) rfl rfl rfl (fun _ => rfl) rfl (show (0 : Int) ≤ 0 ∧ 0 ≤ 8001 from q_1749) (fun σ H => ?_)
  refine Ew_of (pcₚ := 6) (fun _ => x_aload_n rfl rfl) ?_
  refine Ew_of (pcₚ := 7) (fun _ => x_iconst rfl) ?_
  refine w_pI H (o := 6) rfl rfl (H.perm 6 rfl) rfl rfl rfl (fun _ => rfl) rfl (show (0 : Int) ≤ 0 ∧ 0 ≤ 16385 from q_1750) (fun σ H => ?_)
  refine Ew_of (pcₚ := 11) (fun _ => x_iconst rfl) ?_
  refine Ew_of (pcₚ := 12) (fun _ => x_istore_n rfl) ?_
  refine Ew_of (pcₚ := 13) (fun _ => x_iload_n rfl (rk_o (rfl) rfl rfl)) ?_
  refine Ew_of (pcₚ := 14) (fun _ => x_istore_n rfl) ?_
  suffices hl14 : ∀ (m : Nat), ∀ (ls : rO) (σ : rS) (F_14 : hF) (A_14 : hA) (x14_2 : Int) (x14_3 : Int), rlook ls 0 = some (.ref (D 6)) → rlook ls 2 = some (I (x14_2)) → rlook ls 3 = some (I (x14_3)) → HS σ0 σ D N F_14 A_14 → SF [(6, 23), (6, 28), (6, 30)] (updF (updF F 6 28 (0)) 6 30 (0)) F_14 → SA [62, 63, 64, 65] A A_14 → ∀ y14_6_28 : Int, F_14 6 28 = y14_6_28 → ∀ y14_6_30 : Int, F_14 6 30 = y14_6_30 → (inr (x14_2)) → (inr (x14_3)) → ((a1) ≤ (x14_3) ∧ (x14_3) ≤ (u6_22)) → (0 ≤ (x14_2) ∧ (x14_2) ≤ (x14_3) - (a1)) → (3 * (y14_6_28) + (y14_6_30) ≤ (x14_3) - (a1)) → ((u6_22) - (x14_3)).toNat = m → Ew 399 (d + 3) 14 ls [] σ c s Q from
    hl14 _ _ σ _ _ (0) (a1) (rk_o (rk_o (rfl) rfl rfl) rfl rfl) (rk_o (rk_s) rfl rfl) (rk_s) H (SF_refl) (SA_refl) (0) (rfl) (0) (rfl)  (show inr (0) from q_20) (show inr (a1) from h0) (show (a1) ≤ (a1) ∧ (a1) ≤ (u6_22) from q_763 h1) (show 0 ≤ (0) ∧ (0) ≤ (a1) - (a1) from q_1752) (show 3 * (0) + (0) ≤ (a1) - (a1) from q_1751) rfl
  as_aux_lemma =>
  intro m
  induction m using Nat.strongRecOn with
  | _ m ih14 =>
    intro ls σ F_14 A_14 x14_2 x14_3 l14_0 l14_2 l14_3 H hS_14 hA_14 y14_6_28 ey14_6_28 y14_6_30 ey14_6_30  j14_0 j14_1 j14_2 j14_3 j14_4 hm14
    have r3 : (0 : Int) ≤ y14_6_28 ∧ y14_6_28 ≤ 8001 := rngE (show (0 : Int) ≤ F_14 6 28 ∧ F_14 6 28 ≤ 8001 from H.frng 6 28) (show F_14 6 28 = y14_6_28 from (ey14_6_28))
    have r4 : (0 : Int) ≤ y14_6_30 ∧ y14_6_30 ≤ 16385 := rngE (show (0 : Int) ≤ F_14 6 30 ∧ F_14 6 30 ≤ 16385 from H.frng 6 30) (show F_14 6 30 = y14_6_30 from (ey14_6_30))
    refine Ew_of (pcₚ := 15) (fun _ => x_iload_n rfl l14_3) ?_
    refine Ew_of (pcₚ := 16) (fun _ => x_aload_n rfl l14_0) ?_
    refine w_gI H (o := 6) (w := u6_22) rfl (H.perm 6 rfl) rfl rfl rfl (fun _ => rfl) ((hS_14 6 22 rfl).trans (eu6_22)) ?_
    refine w_icmpge (t := 124) rfl rfl (show inr (x14_3) from j14_1) (show inr (u6_22) from q_243 r2) (fun b5 => ?_) (fun b5 => ?_)
    · exact w_ret rfl (k σ _ _ H (SF_trans (SF_upd (SF_upd (SF_refl) rfl) rfl) hS_14 (any_sub rfl)) (SA_trans (SA_refl) hA_14 (any_subA rfl)) (y14_6_28) ((ey14_6_28)) (y14_6_30) ((ey14_6_30)) (show 3 * (y14_6_28) + (y14_6_30) ≤ (u6_22) - a1 from q_1753 j14_2 j14_4))
    · refine Ew_of (pcₚ := 23) (fun _ => x_aload_n rfl l14_0) ?_
      refine Ew_of (pcₚ := 24) (fun _ => x_iload_n rfl l14_3) ?_
      refine w_inv H (o := 6) rfl rfl rfl (H.perm 6 rfl) rfl rfl (by rfl) (M398 H (u6_2) (((hS_14 6 2 rfl).trans (eu6_2))) (u6_22) (((hS_14 6 22 rfl).trans (eu6_22))) (show inr (x14_3) from j14_1) (show 0 ≤ (x14_3) ∧ (x14_3) < (u6_22) from q_1755 b5 h1 j14_2) (show 1 ≤ (u6_2) from q_1754 h2 r1) (fun z10 σ F6 A7 H hS8 hA9 y11 ey12 pz10_0 pz10_1 pz10_2 => ⟨rfl, ?_⟩))
      have r13 : (0 : Int) ≤ y11 ∧ y11 ≤ 16384 := rngE (show (0 : Int) ≤ F6 6 23 ∧ F6 6 23 ≤ 16384 from H.frng 6 23) (show F6 6 23 = y11 from (ey12))
      refine Ew_of (pcₚ := 29) (fun _ => x_istore rfl) ?_
      refine Ew_of (pcₚ := 31) (fun _ => x_iload rfl rk_s) ?_
      refine w_ifne (t := 68) rfl rfl (show inr (z10) from pz10_0) (fun b14 => ?_) (fun b14 => ?_)
      · refine Ew_of (pcₚ := 69) (fun _ => x_aload_n rfl (rk_o (l14_0) rfl rfl)) ?_
        refine w_gT H (o := 6) (t := 62) rfl (H.perm 6 rfl) rfl rfl rfl rfl rfl rfl ?_
        refine Ew_of (pcₚ := 73) (fun _ => x_aload_n rfl (rk_o (l14_0) rfl rfl)) ?_
        refine w_gI H (o := 6) (w := y14_6_28) rfl (H.perm 6 rfl) rfl rfl rfl (fun _ => rfl) ((hS8 6 28 rfl).trans (ey14_6_28)) ?_
        refine Ew_of (pcₚ := 77) (fun _ => x_iload_n rfl (rk_o (l14_2) rfl rfl)) ?_
        refine w_sI H (o := 62) (n := 8001) rfl (H.perm 62 rfl) rfl rfl (H.fix 62 rfl rfl) (show 0 ≤ y14_6_28 ∧ y14_6_28 < ((8001 : Nat) : Int) by omega) (by decide) (show (0 : Int) ≤ x14_2 ∧ x14_2 ≤ 16384 from q_1756 b5 h1 j14_3 r2) (fun σ H => ?_)
        refine Ew_of (pcₚ := 79) (fun _ => x_aload_n rfl (rk_o (l14_0) rfl rfl)) ?_
        refine w_gT H (o := 6) (t := 63) rfl (H.perm 6 rfl) rfl rfl rfl rfl rfl rfl ?_
        refine Ew_of (pcₚ := 83) (fun _ => x_aload_n rfl (rk_o (l14_0) rfl rfl)) ?_
        refine w_gI H (o := 6) (w := y14_6_28) rfl (H.perm 6 rfl) rfl rfl rfl (fun _ => rfl) ((hS8 6 28 rfl).trans (ey14_6_28)) ?_
        refine Ew_of (pcₚ := 88) (fun _ => x_iload rfl rk_s) ?_
        refine w_sI H (o := 63) (n := 8001) rfl (H.perm 63 rfl) rfl rfl (H.fix 63 rfl rfl) (show 0 ≤ y14_6_28 ∧ y14_6_28 < ((8001 : Nat) : Int) by omega) (by decide) (show (0 : Int) ≤ z10 ∧ z10 ≤ 16384 from q_1757 pz10_1 pz10_2 r13 r2) (fun σ H => ?_)
        refine Ew_of (pcₚ := 90) (fun _ => x_aload_n rfl (rk_o (l14_0) rfl rfl)) ?_
        refine w_gT H (o := 6) (t := 64) rfl (H.perm 6 rfl) rfl rfl rfl rfl rfl rfl ?_
        refine Ew_of (pcₚ := 94) (fun _ => x_aload_n rfl (rk_o (l14_0) rfl rfl)) ?_
        refine w_gI H (o := 6) (w := y14_6_28) rfl (H.perm 6 rfl) rfl rfl rfl (fun _ => rfl) ((hS8 6 28 rfl).trans (ey14_6_28)) ?_
        refine Ew_of (pcₚ := 98) (fun _ => x_iload_n rfl (rk_o (l14_3) rfl rfl)) ?_
        refine Ew_of (pcₚ := 99) (fun _ => x_aload_n rfl (rk_o (l14_0) rfl rfl)) ?_
        refine w_gI H (o := 6) (w := y11) rfl (H.perm 6 rfl) rfl rfl rfl (fun _ => rfl) (ey12) ?_
        refine w_isub rfl ?_
        refine w_sI H (o := 64) (n := 8001) rfl (H.perm 64 rfl) rfl rfl (H.fix 64 rfl rfl) (show 0 ≤ y14_6_28 ∧ y14_6_28 < ((8001 : Nat) : Int) by omega) (by decide) (show (0 : Int) ≤ (x14_3 - y11) ∧ (x14_3 - y11) ≤ 16384 by omega) (fun σ H => ?_)
        refine Ew_of (pcₚ := 105) (fun _ => x_aload_n rfl (rk_o (l14_0) rfl rfl)) ?_
        refine Ew_of (pcₚ := 106) (fun _ => x_dup rfl rfl) ?_
        refine w_gI H (o := 6) (w := y14_6_28) rfl (H.perm 6 rfl) rfl rfl rfl (fun _ => rfl) ((hS8 6 28 rfl).trans (ey14_6_28)) ?_
        refine Ew_of (pcₚ := 110) (fun _ => x_iconst rfl) ?_
        refine w_iadd rfl ?_
        refine w_pI H (o := 6) rfl rfl (H.perm 6 rfl) rfl rfl rfl (fun _ => rfl) rfl (show (0 : Int) ≤ (y14_6_28 + 1) ∧ (y14_6_28 + 1) ≤ 8001 by omega) (fun σ H => ?_)
        refine Ew_of (pcₚ := 115) (fun _ => x_iconst rfl) ?_
        refine Ew_of (pcₚ := 116) (fun _ => x_istore_n rfl) ?_
        refine Ew_of (pcₚ := 117) (fun _ => x_iload_n rfl (rk_o (rk_o (l14_3) rfl rfl) rfl rfl)) ?_
        refine Ew_of (pcₚ := 119) (fun _ => x_iload rfl (rk_o (rk_s) rfl rfl)) ?_
        refine w_iadd rfl ?_
        refine Ew_of (pcₚ := 121) (fun _ => x_istore_n rfl) ?_
        refine Ew_of (pcₚ := 14) (fun _ => x_goto rfl rfl) ?_
        exact ih14 _ (by omega) _ σ _ _ (0) ((x14_3 + z10)) (rk_o (rk_o (rk_o (l14_0) rfl rfl) rfl rfl) rfl rfl) (rk_o (rk_s) rfl rfl) (rk_s) H (SF_upd (SF_trans (hS_14) hS8 (any_sub rfl)) rfl) (SA_upd (SA_upd (SA_upd (SA_trans (hA_14) hA9 (any_subA rfl)) rfl) rfl) rfl) ((y14_6_28 + 1)) (rfl) (y14_6_30) (((hS8 6 30 rfl).trans (ey14_6_30)))  (show inr (0) from q_20) (show inr ((x14_3 + z10)) from q_1760 j14_1 pz10_1 pz10_2 r2) (show (a1) ≤ ((x14_3 + z10)) ∧ ((x14_3 + z10)) ≤ (u6_22) from q_1759 b5 j14_2 pz10_1 pz10_2) (show 0 ≤ (0) ∧ (0) ≤ ((x14_3 + z10)) - (a1) from q_1758 j14_2 pz10_1) (show 3 * ((y14_6_28 + 1)) + (y14_6_30) ≤ ((x14_3 + z10)) - (a1) by omega) rfl
      · refine Ew_of (pcₚ := 35) (fun _ => x_aload_n rfl (rk_o (l14_0) rfl rfl)) ?_
        refine w_gT H (o := 6) (t := 65) rfl (H.perm 6 rfl) rfl rfl rfl rfl rfl rfl ?_
        refine Ew_of (pcₚ := 39) (fun _ => x_aload_n rfl (rk_o (l14_0) rfl rfl)) ?_
        refine w_gI H (o := 6) (w := y14_6_30) rfl (H.perm 6 rfl) rfl rfl rfl (fun _ => rfl) ((hS8 6 30 rfl).trans (ey14_6_30)) ?_
        refine Ew_of (pcₚ := 43) (fun _ => x_aload_n rfl (rk_o (l14_0) rfl rfl)) ?_
        refine w_gT H (o := 6) (t := 61) rfl (H.perm 6 rfl) rfl rfl rfl rfl rfl rfl ?_
        refine Ew_of (pcₚ := 47) (fun _ => x_iload_n rfl (rk_o (l14_3) rfl rfl)) ?_
        refine w_lI H (o := 61) (n := 16384) rfl (H.perm 61 rfl) rfl rfl (H.fix 61 rfl rfl) (show 0 ≤ x14_3 ∧ x14_3 < ((16384 : Nat) : Int) from q_1761 b5 h1 j14_2 r2) (by decide) (fun v15 ev15 qv15 => ?_)
        have qv15 : (0 : Int) ≤ v15 ∧ v15 ≤ 255 := qv15
        have ev15 : (A 61) (x14_3) = v15 := (congrFun ((funext (hA9 61 rfl)).trans (funext (hA_14 61 rfl))) (x14_3)).symm.trans ev15
        refine w_sI H (o := 65) (n := 16385) rfl (H.perm 65 rfl) rfl rfl (H.fix 65 rfl rfl) (show 0 ≤ y14_6_30 ∧ y14_6_30 < ((16385 : Nat) : Int) from q_1762 b5 h1 j14_4 r2 r3 r4) (by decide) (show (0 : Int) ≤ v15 ∧ v15 ≤ 255 from qv15) (fun σ H => ?_)
        refine Ew_of (pcₚ := 50) (fun _ => x_aload_n rfl (rk_o (l14_0) rfl rfl)) ?_
        refine Ew_of (pcₚ := 51) (fun _ => x_dup rfl rfl) ?_
        refine w_gI H (o := 6) (w := y14_6_30) rfl (H.perm 6 rfl) rfl rfl rfl (fun _ => rfl) ((hS8 6 30 rfl).trans (ey14_6_30)) ?_
        refine Ew_of (pcₚ := 55) (fun _ => x_iconst rfl) ?_
        refine w_iadd rfl ?_
        refine w_pI H (o := 6) rfl rfl (H.perm 6 rfl) rfl rfl rfl (fun _ => rfl) rfl (show (0 : Int) ≤ (y14_6_30 + 1) ∧ (y14_6_30 + 1) ≤ 16385 from q_1763 b5 h1 j14_4 r2 r3 r4) (fun σ H => ?_)
        refine Ew_of (pcₚ := 62) (fun _ => x_iinc (len := 3) rfl (rk_o (l14_2) rfl rfl)) ?_
        refine Ew_of (pcₚ := 65) (fun _ => x_iinc (len := 3) rfl (rk_o (rk_o (l14_3) rfl rfl) rfl rfl)) ?_
        refine Ew_of (pcₚ := 14) (fun _ => x_goto rfl rfl) ?_
        exact ih14 _ (msE hm14 q_31 (q_34 b5)) _ σ _ _ ((x14_2 + 1)) ((x14_3 + 1)) (rk_o (rk_o (rk_o (l14_0) rfl rfl) rfl rfl) rfl rfl) (rk_o (rk_s) rfl rfl) (rk_s) H (SF_upd (SF_trans (hS_14) hS8 (any_sub rfl)) rfl) (SA_upd (SA_trans (hA_14) hA9 (any_subA rfl)) rfl) (y14_6_28) (((hS8 6 28 rfl).trans (ey14_6_28))) ((y14_6_30 + 1)) (rfl)  (show inr ((x14_2 + 1)) from q_1767 b5 h1 j14_3 r2) (show inr ((x14_3 + 1)) from q_1766 b5 j14_1 r2) (show (a1) ≤ ((x14_3 + 1)) ∧ ((x14_3 + 1)) ≤ (u6_22) from q_1251 b5 j14_2) (show 0 ≤ ((x14_2 + 1)) ∧ ((x14_2 + 1)) ≤ ((x14_3 + 1)) - (a1) from q_1765 j14_3) (show 3 * (y14_6_28) + ((y14_6_30 + 1)) ≤ ((x14_3 + 1)) - (a1) from q_1764 j14_4) rfl
/-- Writer.log -/
theorem M400 {σ0 σ : rS} {D N : Nat → Nat} {F : hF} {A : hA} {d c s : Nat} {Q : wQ} (H : HS σ0 σ D N F A) {a1 : Int} (h0 : inr (a1)) (h1 : 1 ≤ (a1)) (k : ∀ (z : Int) σ Fₚ Aₚ, HS σ0 σ D N Fₚ Aₚ → SF [] F Fₚ → SA [] A Aₚ → (inr (z)) → (0 ≤ (z) ∧ (z) ≤ 30) → (p2 (z) ≤ (a1) ∧ (a1) < 2 * p2 (z)) → Q (some (I z)) σ c s) : Ew 400 (d + 0) 0 (rargs 0 [I a1]) [] σ c s Q := by
  refine Ew_of (pcₚ := 1) (fun _ => x_iconst rfl) ?_
  refine Ew_of (pcₚ := 2) (fun _ => x_istore_n rfl) ?_
  have : p2 0 = 1 := by decide
  suffices hl2 : ∀ (m : Nat), ∀ (ls : rO) (σ : rS) (F_2 : hF) (A_2 : hA) (x2_1 : Int), rlook ls 0 = some (I (a1)) → rlook ls 1 = some (I (x2_1)) → HS σ0 σ D N F_2 A_2 → SF [] F F_2 → SA [] A A_2 → (inr (x2_1)) → (0 ≤ (x2_1) ∧ (x2_1) ≤ 30) → (p2 ((x2_1)) ≤ (a1)) → (31 - (x2_1)).toNat = m → Ew 400 (d + 0) 2 ls [] σ c s Q from
    hl2 _ _ σ _ _ (0) (rk_o (rfl) rfl rfl) (rk_s) H (SF_refl) (SA_refl)   (show inr (0) from q_20) (show 0 ≤ (0) ∧ (0) ≤ 30 from q_1768) (show p2 ((0)) ≤ (a1) by omega) rfl
  as_aux_lemma =>
  intro m
  induction m using Nat.strongRecOn with
  | _ m ih2 =>
    intro ls σ F_2 A_2 x2_1 l2_0 l2_1 H hS_2 hA_2   j2_0 j2_1 j2_2 hm2
    refine Ew_of (pcₚ := 3) (fun _ => x_iload_n rfl l2_0) ?_
    refine Ew_of (pcₚ := 4) (fun _ => x_iload_n rfl l2_1) ?_
    refine w_ishrX rfl (show inr (a1) from h0) (fun z1 gz1 dz1 => ?_)
    have hd2 := div2 (a := (a1)) (p := p2 ((x2_1))) (by have := p2_pos ((x2_1)); omega)
    have hps := p2_s (y := (x2_1)) (by omega)
    refine Ew_of (pcₚ := 6) (fun _ => x_iconst rfl) ?_
    refine w_icmple (t := 15) rfl rfl (show inr (z1) by omega) (show inr (1) from q_23) (fun b2 => ?_) (fun b2 => ?_)
    · refine Ew_of (pcₚ := 16) (fun _ => x_iload_n rfl l2_1) ?_
      exact w_ireturn rfl (k (x2_1) σ _ _ H (SF_trans (SF_refl) hS_2 (any_sub rfl)) (SA_trans (SA_refl) hA_2 (any_subA rfl)) (show inr (x2_1) from j2_0) (show 0 ≤ (x2_1) ∧ (x2_1) ≤ 30 from j2_1) (show p2 (x2_1) ≤ a1 ∧ a1 < 2 * p2 (x2_1) by omega))
    · have : (x2_1) + 1 < 31 := p2_lt (by omega) (by rw [show p2 31 = 2147483648 from by decide]; omega)
      refine Ew_of (pcₚ := 12) (fun _ => x_iinc (len := 3) rfl (l2_1)) ?_
      refine Ew_of (pcₚ := 2) (fun _ => x_goto rfl rfl) ?_
      exact ih2 _ (msE hm2 q_1770 (q_1771 j2_1)) _ σ _ _ ((x2_1 + 1)) (rk_o (l2_0) rfl rfl) (rk_s) H (hS_2) (hA_2)   (show inr ((x2_1 + 1)) from q_1769 j2_1) (show 0 ≤ ((x2_1 + 1)) ∧ ((x2_1 + 1)) ≤ 30 by omega) (show p2 (((x2_1 + 1))) ≤ (a1) by omega) rfl
/-- Writer.literalBits -/
theorem M401 {σ0 σ : rS} {D N : Nat → Nat} {F : hF} {A : hA} {d c s : Nat} {Q : wQ} (H : HS σ0 σ D N F A) {a1 : Int} (h0 : inr (a1)) (h1 : 0 ≤ (a1) ∧ (a1) ≤ 35) (k : ∀ (z : Int) σ Fₚ Aₚ, HS σ0 σ D N Fₚ Aₚ → SF [] F Fₚ → SA [] A Aₚ → (inr (z)) → (0 ≤ (z) ∧ (z) ≤ 16) → ((z) = lB ((a1))) → Q (some (I z)) σ c s) : Ew 401 (d + 0) 0 (rargs 0 [I a1]) [] σ c s Q := by
  have hlb : lB ((a1)) = if (a1) < 16 then 0 else if (a1) < 20 then 1 else if (a1) < 22 then 2 else if (a1) < 24 then 3 else if (a1) = 24 then 4 else (a1) - 19 := rfl
  refine Ew_of (pcₚ := 1) (fun _ => x_iload_n rfl rfl) ?_
  refine Ew_of (pcₚ := 3) (fun _ => x_bipush (z := 16) rfl (by decide)) ?_
  refine w_icmpge (t := 10) rfl rfl (show inr (a1) from h0) (show inr (16) from q_86) (fun b1 => ?_) (fun b1 => ?_)
  · refine Ew_of (pcₚ := 11) (fun _ => x_iload_n rfl rfl) ?_
    refine Ew_of (pcₚ := 13) (fun _ => x_bipush (z := 20) rfl (by decide)) ?_
    refine w_icmpge (t := 20) rfl rfl (show inr (a1) from h0) (show inr (20) from q_1259) (fun b2 => ?_) (fun b2 => ?_)
    · refine Ew_of (pcₚ := 21) (fun _ => x_iload_n rfl rfl) ?_
      refine Ew_of (pcₚ := 23) (fun _ => x_bipush (z := 22) rfl (by decide)) ?_
      refine w_icmpge (t := 30) rfl rfl (show inr (a1) from h0) (show inr (22) from q_1260) (fun b3 => ?_) (fun b3 => ?_)
      · refine Ew_of (pcₚ := 31) (fun _ => x_iload_n rfl rfl) ?_
        refine Ew_of (pcₚ := 33) (fun _ => x_bipush (z := 24) rfl (by decide)) ?_
        refine w_icmpge (t := 40) rfl rfl (show inr (a1) from h0) (show inr (24) from q_1261) (fun b4 => ?_) (fun b4 => ?_)
        · refine Ew_of (pcₚ := 41) (fun _ => x_iload_n rfl rfl) ?_
          refine Ew_of (pcₚ := 43) (fun _ => x_bipush (z := 24) rfl (by decide)) ?_
          refine w_icmpne (t := 50) rfl rfl (show inr (a1) from h0) (show inr (24) from q_1261) (fun b5 => ?_) (fun b5 => ?_)
          · refine Ew_of (pcₚ := 51) (fun _ => x_iload_n rfl rfl) ?_
            refine Ew_of (pcₚ := 53) (fun _ => x_bipush (z := 19) rfl (by decide)) ?_
            refine w_isub rfl ?_
            exact w_ireturn rfl (k ((a1 - 19)) σ _ _ H (SF_refl) (SA_refl) (show inr ((a1 - 19)) from q_1273 b4 h1) (show 0 ≤ ((a1 - 19)) ∧ ((a1 - 19)) ≤ 16 by first | exact q_1272 b4 h1 | omega) (show ((a1 - 19)) = lB (a1) by omega))
          · refine Ew_of (pcₚ := 47) (fun _ => x_iconst rfl) ?_
            refine Ew_of (pcₚ := 54) (fun _ => x_goto rfl rfl) ?_
            exact w_ireturn rfl (k (4) σ _ _ H (SF_refl) (SA_refl) (show inr (4) from q_2) (show 0 ≤ (4) ∧ (4) ≤ 16 by first | exact q_1274 | omega) (show (4) = lB (a1) by omega))
        · refine Ew_of (pcₚ := 37) (fun _ => x_iconst rfl) ?_
          refine Ew_of (pcₚ := 54) (fun _ => x_goto rfl rfl) ?_
          exact w_ireturn rfl (k (3) σ _ _ H (SF_refl) (SA_refl) (show inr (3) from q_66) (show 0 ≤ (3) ∧ (3) ≤ 16 by first | exact q_1275 | omega) (show (3) = lB (a1) by omega))
      · refine Ew_of (pcₚ := 27) (fun _ => x_iconst rfl) ?_
        refine Ew_of (pcₚ := 54) (fun _ => x_goto rfl rfl) ?_
        exact w_ireturn rfl (k (2) σ _ _ H (SF_refl) (SA_refl) (show inr (2) from q_55) (show 0 ≤ (2) ∧ (2) ≤ 16 by first | exact q_1276 | omega) (show (2) = lB (a1) by omega))
    · refine Ew_of (pcₚ := 17) (fun _ => x_iconst rfl) ?_
      refine Ew_of (pcₚ := 54) (fun _ => x_goto rfl rfl) ?_
      exact w_ireturn rfl (k (1) σ _ _ H (SF_refl) (SA_refl) (show inr (1) from q_23) (show 0 ≤ (1) ∧ (1) ≤ 16 by first | exact q_1277 | omega) (show (1) = lB (a1) by omega))
  · refine Ew_of (pcₚ := 7) (fun _ => x_iconst rfl) ?_
    refine Ew_of (pcₚ := 54) (fun _ => x_goto rfl rfl) ?_
    exact w_ireturn rfl (k (0) σ _ _ H (SF_refl) (SA_refl) (show inr (0) from q_20) (show 0 ≤ (0) ∧ (0) ≤ 16 by first | exact q_1278 | omega) (show (0) = lB (a1) by omega))
/-- Writer.matchBits -/
theorem M402 {σ0 σ : rS} {D N : Nat → Nat} {F : hF} {A : hA} {d c s : Nat} {Q : wQ} (H : HS σ0 σ D N F A) {a1 : Int} (h0 : inr (a1)) (h1 : 0 ≤ (a1) ∧ (a1) ≤ 52) (k : ∀ (z : Int) σ Fₚ Aₚ, HS σ0 σ D N Fₚ Aₚ → SF [] F Fₚ → SA [] A Aₚ → (inr (z)) → (0 ≤ (z) ∧ (z) ≤ 16) → ((z) = mB ((a1))) → Q (some (I z)) σ c s) : Ew 402 (d + 0) 0 (rargs 0 [I a1]) [] σ c s Q := by
  have hmb : mB ((a1)) = if (a1) < 32 then 0 else if (a1) < 36 then 1 else if (a1) < 38 then 2 else if (a1) < 40 then 3 else if (a1) < 42 then 4 else if (a1) = 42 then 5 else (a1) - 36 := rfl
  refine Ew_of (pcₚ := 1) (fun _ => x_iload_n rfl rfl) ?_
  refine Ew_of (pcₚ := 3) (fun _ => x_bipush (z := 32) rfl (by decide)) ?_
  refine w_icmpge (t := 10) rfl rfl (show inr (a1) from h0) (show inr (32) from q_417) (fun b1 => ?_) (fun b1 => ?_)
  · refine Ew_of (pcₚ := 11) (fun _ => x_iload_n rfl rfl) ?_
    refine Ew_of (pcₚ := 13) (fun _ => x_bipush (z := 36) rfl (by decide)) ?_
    refine w_icmpge (t := 20) rfl rfl (show inr (a1) from h0) (show inr (36) from q_1279) (fun b2 => ?_) (fun b2 => ?_)
    · refine Ew_of (pcₚ := 21) (fun _ => x_iload_n rfl rfl) ?_
      refine Ew_of (pcₚ := 23) (fun _ => x_bipush (z := 38) rfl (by decide)) ?_
      refine w_icmpge (t := 30) rfl rfl (show inr (a1) from h0) (show inr (38) from q_1280) (fun b3 => ?_) (fun b3 => ?_)
      · refine Ew_of (pcₚ := 31) (fun _ => x_iload_n rfl rfl) ?_
        refine Ew_of (pcₚ := 33) (fun _ => x_bipush (z := 40) rfl (by decide)) ?_
        refine w_icmpge (t := 40) rfl rfl (show inr (a1) from h0) (show inr (40) from q_1281) (fun b4 => ?_) (fun b4 => ?_)
        · refine Ew_of (pcₚ := 41) (fun _ => x_iload_n rfl rfl) ?_
          refine Ew_of (pcₚ := 43) (fun _ => x_bipush (z := 42) rfl (by decide)) ?_
          refine w_icmpge (t := 50) rfl rfl (show inr (a1) from h0) (show inr (42) from q_1282) (fun b5 => ?_) (fun b5 => ?_)
          · refine Ew_of (pcₚ := 51) (fun _ => x_iload_n rfl rfl) ?_
            refine Ew_of (pcₚ := 53) (fun _ => x_bipush (z := 42) rfl (by decide)) ?_
            refine w_icmpne (t := 60) rfl rfl (show inr (a1) from h0) (show inr (42) from q_1282) (fun b6 => ?_) (fun b6 => ?_)
            · refine Ew_of (pcₚ := 61) (fun _ => x_iload_n rfl rfl) ?_
              refine Ew_of (pcₚ := 63) (fun _ => x_bipush (z := 36) rfl (by decide)) ?_
              refine w_isub rfl ?_
              exact w_ireturn rfl (k ((a1 - 36)) σ _ _ H (SF_refl) (SA_refl) (show inr ((a1 - 36)) from q_1297 b5 h1) (show 0 ≤ ((a1 - 36)) ∧ ((a1 - 36)) ≤ 16 by first | exact q_1296 b5 h1 | omega) (show ((a1 - 36)) = mB (a1) by omega))
            · refine Ew_of (pcₚ := 57) (fun _ => x_iconst rfl) ?_
              refine Ew_of (pcₚ := 64) (fun _ => x_goto rfl rfl) ?_
              exact w_ireturn rfl (k (5) σ _ _ H (SF_refl) (SA_refl) (show inr (5) from q_509) (show 0 ≤ (5) ∧ (5) ≤ 16 by first | exact q_1298 | omega) (show (5) = mB (a1) by omega))
          · refine Ew_of (pcₚ := 47) (fun _ => x_iconst rfl) ?_
            refine Ew_of (pcₚ := 64) (fun _ => x_goto rfl rfl) ?_
            exact w_ireturn rfl (k (4) σ _ _ H (SF_refl) (SA_refl) (show inr (4) from q_2) (show 0 ≤ (4) ∧ (4) ≤ 16 by first | exact q_1274 | omega) (show (4) = mB (a1) by omega))
        · refine Ew_of (pcₚ := 37) (fun _ => x_iconst rfl) ?_
          refine Ew_of (pcₚ := 64) (fun _ => x_goto rfl rfl) ?_
          exact w_ireturn rfl (k (3) σ _ _ H (SF_refl) (SA_refl) (show inr (3) from q_66) (show 0 ≤ (3) ∧ (3) ≤ 16 by first | exact q_1275 | omega) (show (3) = mB (a1) by omega))
      · refine Ew_of (pcₚ := 27) (fun _ => x_iconst rfl) ?_
        refine Ew_of (pcₚ := 64) (fun _ => x_goto rfl rfl) ?_
        exact w_ireturn rfl (k (2) σ _ _ H (SF_refl) (SA_refl) (show inr (2) from q_55) (show 0 ≤ (2) ∧ (2) ≤ 16 by first | exact q_1276 | omega) (show (2) = mB (a1) by omega))
    · refine Ew_of (pcₚ := 17) (fun _ => x_iconst rfl) ?_
      refine Ew_of (pcₚ := 64) (fun _ => x_goto rfl rfl) ?_
      exact w_ireturn rfl (k (1) σ _ _ H (SF_refl) (SA_refl) (show inr (1) from q_23) (show 0 ≤ (1) ∧ (1) ≤ 16 by first | exact q_1277 | omega) (show (1) = mB (a1) by omega))
  · refine Ew_of (pcₚ := 7) (fun _ => x_iconst rfl) ?_
    refine Ew_of (pcₚ := 64) (fun _ => x_goto rfl rfl) ?_
    exact w_ireturn rfl (k (0) σ _ _ H (SF_refl) (SA_refl) (show inr (0) from q_20) (show 0 ≤ (0) ∧ (0) ≤ 16 by first | exact q_1278 | omega) (show (0) = mB (a1) by omega))
/-- Writer.tell -/
theorem M403 {σ0 σ : rS} {D N : Nat → Nat} {F : hF} {A : hA} {d c s : Nat} {Q : wQ} (H : HS σ0 σ D N F A) {a1 a2 a3 a4 a5 : Int} (h0 : inr (a1)) (h1 : inr (a2)) (h2 : inr (a3)) (h3 : inr (a4)) (h4 : inr (a5)) (h5 : 0 ≤ (a1) ∧ (a1) ≤ 2 ∧ 0 ≤ (a2) ∧ (a2) ≤ 8000) (h6 : 0 ≤ (a3) ∧ (a3) ≤ 63 ∧ 0 ≤ (a4) ∧ (a4) ≤ 31) (k : ∀ σ Fₚ Aₚ, HS σ0 σ D N Fₚ Aₚ → SF [] F Fₚ → SA [66, 67, 68] A Aₚ → Q none σ c s) : Ew 403 (d + 0) 0 (rargs 0 [.ref (D 6), I a1, I a2, I a3, I a4, I a5]) [] σ c s Q := by
  refine Ew_of (pcₚ := 1) (fun _ => x_aload_n rfl rfl) ?_
  refine w_gT H (o := 6) (t := 66) rfl (H.perm 6 rfl) rfl rfl rfl rfl rfl rfl ?_
  refine Ew_of (pcₚ := 7) (fun _ => x_sipush (z := 8001) rfl (by decide)) ?_
  refine Ew_of (pcₚ := 8) (fun _ => x_iload_n rfl rfl) ?_
  refine w_imul rfl ?_
  refine Ew_of (pcₚ := 10) (fun _ => x_iload_n rfl rfl) ?_
  refine w_iadd rfl ?_
  refine Ew_of (pcₚ := 12) (fun _ => x_iload_n rfl rfl) ?_
  refine w_sI H (o := 66) (n := 24003) rfl (H.perm 66 rfl) rfl rfl (H.fix 66 rfl rfl) (show 0 ≤ ((8001 * a1) + a2) ∧ ((8001 * a1) + a2) < ((24003 : Nat) : Int) from q_1773 h5) (by decide) (show (0 : Int) ≤ a3 ∧ a3 ≤ 63 from q_1772 h6) (fun σ H => ?_)
  refine Ew_of (pcₚ := 14) (fun _ => x_aload_n rfl rfl) ?_
  refine w_gT H (o := 6) (t := 67) rfl (H.perm 6 rfl) rfl rfl rfl rfl rfl rfl ?_
  refine Ew_of (pcₚ := 20) (fun _ => x_sipush (z := 8001) rfl (by decide)) ?_
  refine Ew_of (pcₚ := 21) (fun _ => x_iload_n rfl rfl) ?_
  refine w_imul rfl ?_
  refine Ew_of (pcₚ := 23) (fun _ => x_iload_n rfl rfl) ?_
  refine w_iadd rfl ?_
  refine Ew_of (pcₚ := 26) (fun _ => x_iload rfl rfl) ?_
  refine w_sI H (o := 67) (n := 24003) rfl (H.perm 67 rfl) rfl rfl (H.fix 67 rfl rfl) (show 0 ≤ ((8001 * a1) + a2) ∧ ((8001 * a1) + a2) < ((24003 : Nat) : Int) from q_1773 h5) (by decide) (show (0 : Int) ≤ a4 ∧ a4 ≤ 31 from q_1774 h6) (fun σ H => ?_)
  refine Ew_of (pcₚ := 28) (fun _ => x_aload_n rfl rfl) ?_
  refine w_gT H (o := 6) (t := 68) rfl (H.perm 6 rfl) rfl rfl rfl rfl rfl rfl ?_
  refine Ew_of (pcₚ := 34) (fun _ => x_sipush (z := 8001) rfl (by decide)) ?_
  refine Ew_of (pcₚ := 35) (fun _ => x_iload_n rfl rfl) ?_
  refine w_imul rfl ?_
  refine Ew_of (pcₚ := 37) (fun _ => x_iload_n rfl rfl) ?_
  refine w_iadd rfl ?_
  refine Ew_of (pcₚ := 40) (fun _ => x_iload rfl rfl) ?_
  refine w_sI H (o := 68) (n := 24003) rfl (H.perm 68 rfl) rfl rfl (H.fix 68 rfl rfl) (show 0 ≤ ((8001 * a1) + a2) ∧ ((8001 * a1) + a2) < ((24003 : Nat) : Int) from q_1773 h5) (by decide) (show (-2147483648 : Int) ≤ a5 ∧ a5 ≤ 2147483647 from q_61 h4) (fun σ H => ?_)
  exact w_ret rfl (k σ _ _ H (SF_refl) (SA_upd (SA_upd (SA_upd (SA_refl) rfl) rfl) rfl))
/-- Writer.number -/
theorem M405 {σ0 σ : rS} {D N : Nat → Nat} {F : hF} {A : hA} {d c s : Nat} {Q : wQ} (H : HS σ0 σ D N F A) {a1 a2 : Int} (h0 : inr (a1)) (h1 : inr (a2)) (h2 : 0 ≤ (a1) ∧ (a1) ≤ 16384 ∧ 0 ≤ (a2) ∧ (a2) ≤ 1) (k : ∀ (z : Int) σ Fₚ Aₚ, HS σ0 σ D N Fₚ Aₚ → SF [] F Fₚ → SA [56] A Aₚ → (inr (z)) → (1 ≤ (z) ∧ (z) ≤ (a1) + 3) → Q (some (I z)) σ c s) : Ew 405 (d + 0) 0 (rargs 0 [.ref (D 6), I a1, I a2]) [] σ c s Q := by
  refine Ew_of (pcₚ := 1) (fun _ => x_iload_n rfl rfl) ?_
  refine Ew_of (pcₚ := 2) (fun _ => x_iconst rfl) ?_
  refine w_iadd rfl ?_
  refine Ew_of (pcₚ := 4) (fun _ => x_istore_n rfl) ?_
  refine Ew_of (pcₚ := 5) (fun _ => x_iconst rfl) ?_
  refine Ew_of (pcₚ := 7) (fun _ => x_istore rfl) ?_
  suffices hl7 : ∀ (m : Nat), ∀ (ls : rO) (σ : rS) (F_7 : hF) (A_7 : hA) (x7_3 : Int) (x7_4 : Int), rlook ls 0 = some (.ref (D 6)) → rlook ls 1 = some (I (a1)) → rlook ls 2 = some (I (a2)) → rlook ls 3 = some (I (x7_3)) → rlook ls 4 = some (I (x7_4)) → HS σ0 σ D N F_7 A_7 → SF [] F F_7 → SA [] A A_7 → (inr (x7_3)) → (inr (x7_4)) → ((x7_4) ≤ (3)) → ((3) ≤ (x7_4) ∨ (0) ≤ (x7_4)) → (1 ≤ (x7_3) ∧ (x7_3) ≤ (a1) + 3) → ((x7_4) - (0)).toNat = m → Ew 405 (d + 0) 7 ls [] σ c s Q from
    hl7 _ _ σ _ _ ((a1 + 3)) (3) (rk_o (rk_o (rfl) rfl rfl) rfl rfl) (rk_o (rk_o (rfl) rfl rfl) rfl rfl) (rk_o (rk_o (rfl) rfl rfl) rfl rfl) (rk_o (rk_s) rfl rfl) (rk_s) H (SF_refl) (SA_refl)   (show inr ((a1 + 3)) from q_1778 h2) (show inr (3) from q_66) (show (3) ≤ (3) from q_1777) (show (3) ≤ (3) ∨ (0) ≤ (3) from q_1776) (show 1 ≤ ((a1 + 3)) ∧ ((a1 + 3)) ≤ (a1) + 3 from q_1775 h2) rfl
  as_aux_lemma =>
  intro m
  induction m using Nat.strongRecOn with
  | _ m ih7 =>
    intro ls σ F_7 A_7 x7_3 x7_4 l7_0 l7_1 l7_2 l7_3 l7_4 H hS_7 hA_7   j7_0 j7_1 j7_2 j7_3 j7_4 hm7
    refine Ew_of (pcₚ := 9) (fun _ => x_iload rfl l7_4) ?_
    refine w_ifle (t := 61) rfl rfl (show inr (x7_4) from j7_1) (fun b1 => ?_) (fun b1 => ?_)
    · refine Ew_of (pcₚ := 62) (fun _ => x_iload_n rfl l7_3) ?_
      refine Ew_of (pcₚ := 63) (fun _ => x_iconst rfl) ?_
      have hc73 : ∀ (tc73_0 : Int), ∀ (ls : rO) (σ : rS) (F_c73 : hF) (A_c73 : hA) , rlook ls 0 = some (.ref (D 6)) → rlook ls 1 = some (I (a1)) → rlook ls 3 = some (I (x7_3)) → HS σ0 σ D N F_c73 A_c73 → SF [] F_7 F_c73 → SA [] A_7 A_c73 → (inr (tc73_0)) → (((x7_3) ≤ (3) ∧ (tc73_0) = ((x7_3 + a2))) ∨ ((x7_3) > (3) ∧ (tc73_0) = (5))) → Ew 405 (d + 0) 73 ls [I (tc73_0)] σ c s Q := by
       as_aux_lemma =>
        intro tc73_0 ls σ F_c73 A_c73  lc73_0 lc73_1 lc73_3 H hS_c73 hA_c73   jc73_0 jc73_1
        refine Ew_of (pcₚ := 75) (fun _ => x_istore rfl) ?_
        refine Ew_of (pcₚ := 77) (fun _ => x_iload rfl rk_s) ?_
        refine Ew_of (pcₚ := 78) (fun _ => x_iconst rfl) ?_
        refine w_icmple (t := 93) rfl rfl (show inr (tc73_0) from jc73_0) (show inr (2) from q_55) (fun b2 => ?_) (fun b2 => ?_)
        · refine Ew_of (pcₚ := 95) (fun _ => x_iload rfl rk_s) ?_
          refine Ew_of (pcₚ := 96) (fun _ => x_iconst rfl) ?_
          refine w_icmple (t := 111) rfl rfl (show inr (tc73_0) from jc73_0) (show inr (1) from q_23) (fun b3 => ?_) (fun b3 => ?_)
          · refine Ew_of (pcₚ := 112) (fun _ => x_aload_n rfl (rk_o (lc73_0) rfl rfl)) ?_
            refine w_gT H (o := 6) (t := 56) rfl (H.perm 6 rfl) rfl rfl rfl rfl rfl rfl ?_
            refine Ew_of (pcₚ := 116) (fun _ => x_iconst rfl) ?_
            refine Ew_of (pcₚ := 117) (fun _ => x_iload_n rfl (rk_o (lc73_1) rfl rfl)) ?_
            refine w_sI H (o := 56) (n := 3) rfl (H.perm 56 rfl) rfl rfl (H.fix 56 rfl rfl) (show 0 ≤ 0 ∧ 0 < ((3 : Nat) : Int) from q_1333) (by decide) (show (-2147483648 : Int) ≤ a1 ∧ a1 ≤ 2147483647 from q_1779 h2) (fun σ H => ?_)
            refine Ew_of (pcₚ := 119) (fun _ => x_iload_n rfl (rk_o (lc73_3) rfl rfl)) ?_
            exact w_ireturn rfl (k (x7_3) σ _ _ H (SF_trans (SF_trans (SF_refl) hS_7 (any_sub rfl)) hS_c73 (any_sub rfl)) (SA_upd (SA_trans (SA_trans (SA_refl) hA_7 (any_subA rfl)) hA_c73 (any_subA rfl)) rfl) (show inr (x7_3) from j7_0) (show 1 ≤ (x7_3) ∧ (x7_3) ≤ a1 + 3 from j7_4))
          · refine Ew_of (pcₚ := 100) (fun _ => x_aload_n rfl (rk_o (lc73_0) rfl rfl)) ?_
            refine w_gT H (o := 6) (t := 56) rfl (H.perm 6 rfl) rfl rfl rfl rfl rfl rfl ?_
            refine Ew_of (pcₚ := 104) (fun _ => x_iconst rfl) ?_
            refine Ew_of (pcₚ := 105) (fun _ => x_aload_n rfl (rk_o (lc73_0) rfl rfl)) ?_
            refine w_gT H (o := 6) (t := 56) rfl (H.perm 6 rfl) rfl rfl rfl rfl rfl rfl ?_
            refine Ew_of (pcₚ := 109) (fun _ => x_iconst rfl) ?_
            refine w_lI H (o := 56) (n := 3) rfl (H.perm 56 rfl) rfl rfl (H.fix 56 rfl rfl) (show 0 ≤ 0 ∧ 0 < ((3 : Nat) : Int) from q_1333) (by decide) (fun v4 ev4 qv4 => ?_)
            have qv4 : (-2147483648 : Int) ≤ v4 ∧ v4 ≤ 2147483647 := qv4
            have ev4 : (A 56) (0) = v4 := (congrFun ((funext (hA_c73 56 rfl)).trans (funext (hA_7 56 rfl))) (0)).symm.trans ev4
            refine w_sI H (o := 56) (n := 3) rfl (H.perm 56 rfl) rfl rfl (H.fix 56 rfl rfl) (show 0 ≤ 1 ∧ 1 < ((3 : Nat) : Int) from q_1331) (by decide) (show (-2147483648 : Int) ≤ v4 ∧ v4 ≤ 2147483647 from qv4) (fun σ H => ?_)
            refine Ew_of (pcₚ := 112) (fun _ => x_aload_n rfl (rk_o (lc73_0) rfl rfl)) ?_
            refine w_gT H (o := 6) (t := 56) rfl (H.perm 6 rfl) rfl rfl rfl rfl rfl rfl ?_
            refine Ew_of (pcₚ := 116) (fun _ => x_iconst rfl) ?_
            refine Ew_of (pcₚ := 117) (fun _ => x_iload_n rfl (rk_o (lc73_1) rfl rfl)) ?_
            refine w_sI H (o := 56) (n := 3) rfl (H.perm 56 rfl) rfl rfl (H.fix 56 rfl rfl) (show 0 ≤ 0 ∧ 0 < ((3 : Nat) : Int) from q_1333) (by decide) (show (-2147483648 : Int) ≤ a1 ∧ a1 ≤ 2147483647 from q_1779 h2) (fun σ H => ?_)
            refine Ew_of (pcₚ := 119) (fun _ => x_iload_n rfl (rk_o (lc73_3) rfl rfl)) ?_
            exact w_ireturn rfl (k (x7_3) σ _ _ H (SF_trans (SF_trans (SF_refl) hS_7 (any_sub rfl)) hS_c73 (any_sub rfl)) (SA_upd (SA_upd (SA_trans (SA_trans (SA_refl) hA_7 (any_subA rfl)) hA_c73 (any_subA rfl)) rfl) rfl) (show inr (x7_3) from j7_0) (show 1 ≤ (x7_3) ∧ (x7_3) ≤ a1 + 3 from j7_4))
        · refine Ew_of (pcₚ := 82) (fun _ => x_aload_n rfl (rk_o (lc73_0) rfl rfl)) ?_
          refine w_gT H (o := 6) (t := 56) rfl (H.perm 6 rfl) rfl rfl rfl rfl rfl rfl ?_
          refine Ew_of (pcₚ := 86) (fun _ => x_iconst rfl) ?_
          refine Ew_of (pcₚ := 87) (fun _ => x_aload_n rfl (rk_o (lc73_0) rfl rfl)) ?_
          refine w_gT H (o := 6) (t := 56) rfl (H.perm 6 rfl) rfl rfl rfl rfl rfl rfl ?_
          refine Ew_of (pcₚ := 91) (fun _ => x_iconst rfl) ?_
          refine w_lI H (o := 56) (n := 3) rfl (H.perm 56 rfl) rfl rfl (H.fix 56 rfl rfl) (show 0 ≤ 1 ∧ 1 < ((3 : Nat) : Int) from q_1331) (by decide) (fun v5 ev5 qv5 => ?_)
          have qv5 : (-2147483648 : Int) ≤ v5 ∧ v5 ≤ 2147483647 := qv5
          have ev5 : (A 56) (1) = v5 := (congrFun ((funext (hA_c73 56 rfl)).trans (funext (hA_7 56 rfl))) (1)).symm.trans ev5
          refine w_sI H (o := 56) (n := 3) rfl (H.perm 56 rfl) rfl rfl (H.fix 56 rfl rfl) (show 0 ≤ 2 ∧ 2 < ((3 : Nat) : Int) from q_1332) (by decide) (show (-2147483648 : Int) ≤ v5 ∧ v5 ≤ 2147483647 from qv5) (fun σ H => ?_)
          refine Ew_of (pcₚ := 95) (fun _ => x_iload rfl rk_s) ?_
          refine Ew_of (pcₚ := 96) (fun _ => x_iconst rfl) ?_
          refine w_icmple (t := 111) rfl rfl (show inr (tc73_0) from jc73_0) (show inr (1) from q_23) (fun b6 => ?_) (fun b6 => ?_)
          · refine Ew_of (pcₚ := 112) (fun _ => x_aload_n rfl (rk_o (lc73_0) rfl rfl)) ?_
            refine w_gT H (o := 6) (t := 56) rfl (H.perm 6 rfl) rfl rfl rfl rfl rfl rfl ?_
            refine Ew_of (pcₚ := 116) (fun _ => x_iconst rfl) ?_
            refine Ew_of (pcₚ := 117) (fun _ => x_iload_n rfl (rk_o (lc73_1) rfl rfl)) ?_
            refine w_sI H (o := 56) (n := 3) rfl (H.perm 56 rfl) rfl rfl (H.fix 56 rfl rfl) (show 0 ≤ 0 ∧ 0 < ((3 : Nat) : Int) from q_1333) (by decide) (show (-2147483648 : Int) ≤ a1 ∧ a1 ≤ 2147483647 from q_1779 h2) (fun σ H => ?_)
            refine Ew_of (pcₚ := 119) (fun _ => x_iload_n rfl (rk_o (lc73_3) rfl rfl)) ?_
            exact w_ireturn rfl (k (x7_3) σ _ _ H (SF_trans (SF_trans (SF_refl) hS_7 (any_sub rfl)) hS_c73 (any_sub rfl)) (SA_upd (SA_upd (SA_trans (SA_trans (SA_refl) hA_7 (any_subA rfl)) hA_c73 (any_subA rfl)) rfl) rfl) (show inr (x7_3) from j7_0) (show 1 ≤ (x7_3) ∧ (x7_3) ≤ a1 + 3 from j7_4))
          · refine Ew_of (pcₚ := 100) (fun _ => x_aload_n rfl (rk_o (lc73_0) rfl rfl)) ?_
            refine w_gT H (o := 6) (t := 56) rfl (H.perm 6 rfl) rfl rfl rfl rfl rfl rfl ?_
            refine Ew_of (pcₚ := 104) (fun _ => x_iconst rfl) ?_
            refine Ew_of (pcₚ := 105) (fun _ => x_aload_n rfl (rk_o (lc73_0) rfl rfl)) ?_
            refine w_gT H (o := 6) (t := 56) rfl (H.perm 6 rfl) rfl rfl rfl rfl rfl rfl ?_
            refine Ew_of (pcₚ := 109) (fun _ => x_iconst rfl) ?_
            refine w_lI H (o := 56) (n := 3) rfl (H.perm 56 rfl) rfl rfl (H.fix 56 rfl rfl) (show 0 ≤ 0 ∧ 0 < ((3 : Nat) : Int) from q_1333) (by decide) (fun v7 ev7 qv7 => ?_)
            have qv7 : (-2147483648 : Int) ≤ v7 ∧ v7 ≤ 2147483647 := qv7
            refine w_sI H (o := 56) (n := 3) rfl (H.perm 56 rfl) rfl rfl (H.fix 56 rfl rfl) (show 0 ≤ 1 ∧ 1 < ((3 : Nat) : Int) from q_1331) (by decide) (show (-2147483648 : Int) ≤ v7 ∧ v7 ≤ 2147483647 from qv7) (fun σ H => ?_)
            refine Ew_of (pcₚ := 112) (fun _ => x_aload_n rfl (rk_o (lc73_0) rfl rfl)) ?_
            refine w_gT H (o := 6) (t := 56) rfl (H.perm 6 rfl) rfl rfl rfl rfl rfl rfl ?_
            refine Ew_of (pcₚ := 116) (fun _ => x_iconst rfl) ?_
            refine Ew_of (pcₚ := 117) (fun _ => x_iload_n rfl (rk_o (lc73_1) rfl rfl)) ?_
            refine w_sI H (o := 56) (n := 3) rfl (H.perm 56 rfl) rfl rfl (H.fix 56 rfl rfl) (show 0 ≤ 0 ∧ 0 < ((3 : Nat) : Int) from q_1333) (by decide) (show (-2147483648 : Int) ≤ a1 ∧ a1 ≤ 2147483647 from q_1779 h2) (fun σ H => ?_)
            refine Ew_of (pcₚ := 119) (fun _ => x_iload_n rfl (rk_o (lc73_3) rfl rfl)) ?_
            exact w_ireturn rfl (k (x7_3) σ _ _ H (SF_trans (SF_trans (SF_refl) hS_7 (any_sub rfl)) hS_c73 (any_sub rfl)) (SA_upd (SA_upd (SA_upd (SA_trans (SA_trans (SA_refl) hA_7 (any_subA rfl)) hA_c73 (any_subA rfl)) rfl) rfl) rfl) (show inr (x7_3) from j7_0) (show 1 ≤ (x7_3) ∧ (x7_3) ≤ a1 + 3 from j7_4))
      refine w_icmple (t := 70) rfl rfl (show inr (x7_3) from j7_0) (show inr (3) from q_66) (fun b8 => ?_) (fun b8 => ?_)
      · refine Ew_of (pcₚ := 71) (fun _ => x_iload_n rfl l7_3) ?_
        refine Ew_of (pcₚ := 72) (fun _ => x_iload_n rfl l7_2) ?_
        refine w_iadd rfl ?_
        exact hc73 ((x7_3 + a2)) _ σ _ _  (l7_0) (l7_1) (l7_3) H (SF_refl) (SA_refl)   (show inr ((x7_3 + a2)) from q_1781 b8 h2 j7_4) (show ((x7_3) ≤ (3) ∧ ((x7_3 + a2)) = ((x7_3 + a2))) ∨ ((x7_3) > (3) ∧ ((x7_3 + a2)) = (5)) from q_1780 b8)
      · refine Ew_of (pcₚ := 67) (fun _ => x_iconst rfl) ?_
        refine Ew_of (pcₚ := 73) (fun _ => x_goto rfl rfl) ?_
        exact hc73 (5) _ σ _ _  (l7_0) (l7_1) (l7_3) H (SF_refl) (SA_refl)   (show inr (5) from q_509) (show ((x7_3) ≤ (3) ∧ (5) = ((x7_3 + a2))) ∨ ((x7_3) > (3) ∧ (5) = (5)) from q_1782 b8)
    · refine Ew_of (pcₚ := 14) (fun _ => x_iload rfl l7_4) ?_
      refine Ew_of (pcₚ := 15) (fun _ => x_iload_n rfl l7_2) ?_
      refine w_iadd rfl ?_
      refine Ew_of (pcₚ := 18) (fun _ => x_istore rfl) ?_
      refine Ew_of (pcₚ := 20) (fun _ => x_iload rfl rk_s) ?_
      refine Ew_of (pcₚ := 21) (fun _ => x_iconst rfl) ?_
      refine w_icmpne (t := 35) rfl rfl (show inr ((x7_4 + a2)) from q_1783 b1 h2 j7_2) (show inr (4) from q_2) (fun b9 => ?_) (fun b9 => ?_)
      · refine Ew_of (pcₚ := 36) (fun _ => x_aload_n rfl (rk_o (l7_0) rfl rfl)) ?_
        refine w_gT H (o := 6) (t := 56) rfl (H.perm 6 rfl) rfl rfl rfl rfl rfl rfl ?_
        refine Ew_of (pcₚ := 41) (fun _ => x_iload rfl rk_s) ?_
        refine Ew_of (pcₚ := 42) (fun _ => x_iconst rfl) ?_
        refine w_isub rfl ?_
        refine w_lI H (o := 56) (n := 3) rfl (H.perm 56 rfl) rfl rfl (H.fix 56 rfl rfl) (show 0 ≤ ((x7_4 + a2) - 1) ∧ ((x7_4 + a2) - 1) < ((3 : Nat) : Int) by omega) (by decide) (fun v10 ev10 qv10 => ?_)
        have qv10 : (-2147483648 : Int) ≤ v10 ∧ v10 ≤ 2147483647 := qv10
        have ev10 : (A 56) (((x7_4 + a2) - 1)) = v10 := (congrFun (funext (hA_7 56 rfl)) (((x7_4 + a2) - 1))).symm.trans ev10
        refine Ew_of (pcₚ := 45) (fun _ => x_iload_n rfl (rk_o (l7_1) rfl rfl)) ?_
        refine w_icmpne (t := 53) rfl rfl (show inr (v10) from q_22 qv10) (show inr (a1) from h0) (fun b11 => ?_) (fun b11 => ?_)
        · refine Ew_of (pcₚ := 54) (fun _ => x_iload_n rfl (rk_o (l7_3) rfl rfl)) ?_
          refine Ew_of (pcₚ := 55) (fun _ => x_istore_n rfl) ?_
          refine Ew_of (pcₚ := 58) (fun _ => x_iinc (len := 3) rfl (rk_o (rk_o (l7_4) rfl rfl) rfl rfl)) ?_
          refine Ew_of (pcₚ := 7) (fun _ => x_goto rfl rfl) ?_
          exact ih7 _ (msE hm7 q_316 (q_317 b1)) _ σ _ _ (x7_3) ((x7_4 + (-1))) (rk_o (rk_o (rk_o (l7_0) rfl rfl) rfl rfl) rfl rfl) (rk_o (rk_o (rk_o (l7_1) rfl rfl) rfl rfl) rfl rfl) (rk_o (rk_o (rk_o (l7_2) rfl rfl) rfl rfl) rfl rfl) (rk_o (rk_s) rfl rfl) (rk_s) H (hS_7) (hA_7)   (show inr (x7_3) from j7_0) (show inr ((x7_4 + (-1))) from q_1786 b1 j7_2) (show ((x7_4 + (-1))) ≤ (3) from q_1785 j7_2) (show (3) ≤ ((x7_4 + (-1))) ∨ (0) ≤ ((x7_4 + (-1))) from q_1784 b1) (show 1 ≤ (x7_3) ∧ (x7_3) ≤ (a1) + 3 from j7_4) rfl
        · refine Ew_of (pcₚ := 50) (fun _ => x_iload rfl (rk_o (l7_4) rfl rfl)) ?_
          refine Ew_of (pcₚ := 54) (fun _ => x_goto rfl rfl) ?_
          refine Ew_of (pcₚ := 55) (fun _ => x_istore_n rfl) ?_
          refine Ew_of (pcₚ := 58) (fun _ => x_iinc (len := 3) rfl (rk_o (rk_o (l7_4) rfl rfl) rfl rfl)) ?_
          refine Ew_of (pcₚ := 7) (fun _ => x_goto rfl rfl) ?_
          exact ih7 _ (msE hm7 q_316 (q_317 b1)) _ σ _ _ (x7_4) ((x7_4 + (-1))) (rk_o (rk_o (rk_o (l7_0) rfl rfl) rfl rfl) rfl rfl) (rk_o (rk_o (rk_o (l7_1) rfl rfl) rfl rfl) rfl rfl) (rk_o (rk_o (rk_o (l7_2) rfl rfl) rfl rfl) rfl rfl) (rk_o (rk_s) rfl rfl) (rk_s) H (hS_7) (hA_7)   (show inr (x7_4) from j7_1) (show inr ((x7_4 + (-1))) from q_1786 b1 j7_2) (show ((x7_4 + (-1))) ≤ (3) from q_1785 j7_2) (show (3) ≤ ((x7_4 + (-1))) ∨ (0) ≤ ((x7_4 + (-1))) from q_1784 b1) (show 1 ≤ (x7_4) ∧ (x7_4) ≤ (a1) + 3 from q_1787 b1 h2 j7_2) rfl
      · refine Ew_of (pcₚ := 25) (fun _ => x_aload_n rfl (rk_o (l7_0) rfl rfl)) ?_
        refine w_gT H (o := 6) (t := 56) rfl (H.perm 6 rfl) rfl rfl rfl rfl rfl rfl ?_
        refine Ew_of (pcₚ := 29) (fun _ => x_iconst rfl) ?_
        refine w_lI H (o := 56) (n := 3) rfl (H.perm 56 rfl) rfl rfl (H.fix 56 rfl rfl) (show 0 ≤ 0 ∧ 0 < ((3 : Nat) : Int) from q_1333) (by decide) (fun v12 ev12 qv12 => ?_)
        have qv12 : (-2147483648 : Int) ≤ v12 ∧ v12 ≤ 2147483647 := qv12
        have ev12 : (A 56) (0) = v12 := (congrFun (funext (hA_7 56 rfl)) (0)).symm.trans ev12
        refine Ew_of (pcₚ := 31) (fun _ => x_iconst rfl) ?_
        refine w_isubA rfl (fun z13 gz13 => ?_)
        refine Ew_of (pcₚ := 44) (fun _ => x_goto rfl rfl) ?_
        refine Ew_of (pcₚ := 45) (fun _ => x_iload_n rfl (rk_o (l7_1) rfl rfl)) ?_
        refine w_icmpne (t := 53) rfl rfl (show inr (z13) from gz13) (show inr (a1) from h0) (fun b14 => ?_) (fun b14 => ?_)
        · refine Ew_of (pcₚ := 54) (fun _ => x_iload_n rfl (rk_o (l7_3) rfl rfl)) ?_
          refine Ew_of (pcₚ := 55) (fun _ => x_istore_n rfl) ?_
          refine Ew_of (pcₚ := 58) (fun _ => x_iinc (len := 3) rfl (rk_o (rk_o (l7_4) rfl rfl) rfl rfl)) ?_
          refine Ew_of (pcₚ := 7) (fun _ => x_goto rfl rfl) ?_
          exact ih7 _ (msE hm7 q_316 (q_317 b1)) _ σ _ _ (x7_3) ((x7_4 + (-1))) (rk_o (rk_o (rk_o (l7_0) rfl rfl) rfl rfl) rfl rfl) (rk_o (rk_o (rk_o (l7_1) rfl rfl) rfl rfl) rfl rfl) (rk_o (rk_o (rk_o (l7_2) rfl rfl) rfl rfl) rfl rfl) (rk_o (rk_s) rfl rfl) (rk_s) H (hS_7) (hA_7)   (show inr (x7_3) from j7_0) (show inr ((x7_4 + (-1))) from q_1786 b1 j7_2) (show ((x7_4 + (-1))) ≤ (3) from q_1785 j7_2) (show (3) ≤ ((x7_4 + (-1))) ∨ (0) ≤ ((x7_4 + (-1))) from q_1784 b1) (show 1 ≤ (x7_3) ∧ (x7_3) ≤ (a1) + 3 from j7_4) rfl
        · refine Ew_of (pcₚ := 50) (fun _ => x_iload rfl (rk_o (l7_4) rfl rfl)) ?_
          refine Ew_of (pcₚ := 54) (fun _ => x_goto rfl rfl) ?_
          refine Ew_of (pcₚ := 55) (fun _ => x_istore_n rfl) ?_
          refine Ew_of (pcₚ := 58) (fun _ => x_iinc (len := 3) rfl (rk_o (rk_o (l7_4) rfl rfl) rfl rfl)) ?_
          refine Ew_of (pcₚ := 7) (fun _ => x_goto rfl rfl) ?_
          exact ih7 _ (msE hm7 q_316 (q_317 b1)) _ σ _ _ (x7_4) ((x7_4 + (-1))) (rk_o (rk_o (rk_o (l7_0) rfl rfl) rfl rfl) rfl rfl) (rk_o (rk_o (rk_o (l7_1) rfl rfl) rfl rfl) rfl rfl) (rk_o (rk_o (rk_o (l7_2) rfl rfl) rfl rfl) rfl rfl) (rk_o (rk_s) rfl rfl) (rk_s) H (hS_7) (hA_7)   (show inr (x7_4) from j7_1) (show inr ((x7_4 + (-1))) from q_1786 b1 j7_2) (show ((x7_4 + (-1))) ≤ (3) from q_1785 j7_2) (show (3) ≤ ((x7_4 + (-1))) ∨ (0) ≤ ((x7_4 + (-1))) from q_1784 b1) (show 1 ≤ (x7_4) ∧ (x7_4) ≤ (a1) + 3 from q_1787 b1 h2 j7_2) rfl
/-- Writer.tellAll -/
theorem M404 {σ0 σ : rS} {D N : Nat → Nat} {F : hF} {A : hA} {d c s : Nat} {Q : wQ} (H : HS σ0 σ D N F A)  (k : ∀ σ Fₚ Aₚ, HS σ0 σ D N Fₚ Aₚ → SF [] F Fₚ → SA [56, 66, 67, 68] A Aₚ → Q none σ c s) : Ew 404 (d + 1) 0 (rargs 0 [.ref (D 6)]) [] σ c s Q := by
  refine Ew_of (pcₚ := 1) (fun _ => x_iconst rfl) ?_
  refine Ew_of (pcₚ := 2) (fun _ => x_istore_n rfl) ?_
  have r1 : (0 : Int) ≤ F 6 28 ∧ F 6 28 ≤ 8001 := H.frng 6 28
  suffices hl2 : ∀ (m : Nat), ∀ (ls : rO) (σ : rS) (F_2 : hF) (A_2 : hA) (x2_1 : Int), rlook ls 0 = some (.ref (D 6)) → rlook ls 1 = some (I (x2_1)) → HS σ0 σ D N F_2 A_2 → SF [] F F_2 → SA [56, 66, 67, 68] A A_2 → (inr (x2_1)) → ((0) ≤ (x2_1)) → ((x2_1) ≤ (0) ∨ (x2_1) ≤ ((F 6 28))) → (((F 6 28)) - (x2_1)).toNat = m → Ew 404 (d + 1) 2 ls [] σ c s Q from
    hl2 _ _ σ _ _ (0) (rk_o (rfl) rfl rfl) (rk_s) H (SF_refl) (SA_refl)   (show inr (0) from q_20) (show (0) ≤ (0) from q_25) (show (0) ≤ (0) ∨ (0) ≤ ((F 6 28)) from q_24) rfl
  as_aux_lemma =>
  intro m
  induction m using Nat.strongRecOn with
  | _ m ih2 =>
    intro ls σ F_2 A_2 x2_1 l2_0 l2_1 H hS_2 hA_2   j2_0 j2_1 j2_2 hm2
    refine Ew_of (pcₚ := 3) (fun _ => x_iload_n rfl l2_1) ?_
    refine Ew_of (pcₚ := 4) (fun _ => x_aload_n rfl l2_0) ?_
    refine w_gI H (o := 6) (w := F 6 28) rfl (H.perm 6 rfl) rfl rfl rfl (fun _ => rfl) (hS_2 6 28 rfl) ?_
    refine w_icmpge (t := 172) rfl rfl (show inr (x2_1) from j2_0) (show inr (F 6 28) from q_1788 r1) (fun b2 => ?_) (fun b2 => ?_)
    · exact w_ret rfl (k σ _ _ H (SF_trans (SF_refl) hS_2 (any_sub rfl)) (SA_trans (SA_refl) hA_2 (any_subA rfl)))
    · refine Ew_of (pcₚ := 11) (fun _ => x_iconst rfl) ?_
      refine Ew_of (pcₚ := 12) (fun _ => x_istore_n rfl) ?_
      refine Ew_of (pcₚ := 13) (fun _ => x_iconst rfl) ?_
      refine Ew_of (pcₚ := 14) (fun _ => x_istore_n rfl) ?_
      have : lBs 0 = 0 := by decide
      suffices hl14 : ∀ (m : Nat), ∀ (ls : rO) (σ : rS) (F_14 : hF) (A_14 : hA) (x14_2 : Int) (x14_3 : Int), rlook ls 0 = some (.ref (D 6)) → rlook ls 1 = some (I (x2_1)) → rlook ls 2 = some (I (x14_2)) → rlook ls 3 = some (I (x14_3)) → HS σ0 σ D N F_14 A_14 → SF [] F_2 F_14 → SA [] A_2 A_14 → (inr (x14_2)) → (inr (x14_3)) → (0 ≤ (x14_2) ∧ (x14_2) ≤ 33) → ((x14_3) = lBs ((x14_2))) → (0 ≤ (x14_3) ∧ (x14_3) ≤ 16384) → (40 - (x14_2)).toNat = m → Ew 404 (d + 1) 14 ls [] σ c s Q from
        hl14 _ _ σ _ _ (0) (0) (rk_o (rk_o (l2_0) rfl rfl) rfl rfl) (rk_o (rk_o (l2_1) rfl rfl) rfl rfl) (rk_o (rk_s) rfl rfl) (rk_s) H (SF_refl) (SA_refl)   (show inr (0) from q_20) (show inr (0) from q_20) (show 0 ≤ (0) ∧ (0) ≤ 33 from q_1790) (show (0) = lBs ((0)) by omega) (show 0 ≤ (0) ∧ (0) ≤ 16384 from q_1789) rfl
      as_aux_lemma =>
      intro m
      induction m using Nat.strongRecOn with
      | _ m ih14 =>
        intro ls σ F_14 A_14 x14_2 x14_3 l14_0 l14_1 l14_2 l14_3 H hS_14 hA_14   j14_0 j14_1 j14_2 j14_3 j14_4 hm14
        have hls := lBs_s (s := (x14_2)) (by omega) (by omega)
        refine Ew_of (pcₚ := 15) (fun _ => x_iload_n rfl l14_3) ?_
        refine Ew_of (pcₚ := 16) (fun _ => x_iconst rfl) ?_
        refine Ew_of (pcₚ := 17) (fun _ => x_iload_n rfl l14_2) ?_
        refine w_stat24 rfl rfl (by rfl) (M401 H (show inr (x14_2) from j14_0) (show 0 ≤ (x14_2) ∧ (x14_2) ≤ 35 from q_1791 j14_2) (fun z7 σ F3 A4 H hS5 hA6 pz7_0 pz7_1 pz7_2 => ⟨rfl, ?_⟩))
        have hz : p2 ((z7)) = p2 (lB ((x14_2))) := by rw [pz7_2]
        have : p2 ((z7)) ≤ p2 16 := p2_mono (by omega)
        have : p2 16 = 65536 := by decide
        have := p2_pos ((z7))
        refine w_ishl1 rfl (show 0 ≤ z7 ∧ z7 ≤ 31 from q_1467 pz7_1) ?_
        refine w_iadd rfl ?_
        refine Ew_of (pcₚ := 23) (fun _ => x_aload_n rfl l14_0) ?_
        refine w_gT H (o := 6) (t := 62) rfl (H.perm 6 rfl) rfl rfl rfl rfl rfl rfl ?_
        refine Ew_of (pcₚ := 27) (fun _ => x_iload_n rfl l14_1) ?_
        refine w_lI H (o := 62) (n := 8001) rfl (H.perm 62 rfl) rfl rfl (H.fix 62 rfl rfl) (show 0 ≤ x2_1 ∧ x2_1 < ((8001 : Nat) : Int) from q_1792 b2 j2_1 r1) (by decide) (fun v9 ev9 qv9 => ?_)
        have qv9 : (0 : Int) ≤ v9 ∧ v9 ≤ 16384 := qv9
        have ev9 : (A 62) (x2_1) = v9 := (congrFun ((funext (hA6 62 rfl)).trans ((funext (hA_14 62 rfl)).trans (funext (hA_2 62 rfl)))) (x2_1)).symm.trans ev9
        refine w_icmpgt (t := 46) rfl rfl (show inr ((x14_3 + p2 (z7))) by omega) (show inr (v9) from q_243 qv9) (fun b10 => ?_) (fun b10 => ?_)
        · refine Ew_of (pcₚ := 47) (fun _ => x_aload_n rfl l14_0) ?_
          refine Ew_of (pcₚ := 48) (fun _ => x_iconst rfl) ?_
          refine Ew_of (pcₚ := 49) (fun _ => x_iload_n rfl l14_1) ?_
          refine Ew_of (pcₚ := 50) (fun _ => x_iload_n rfl l14_2) ?_
          refine Ew_of (pcₚ := 51) (fun _ => x_iload_n rfl l14_2) ?_
          refine w_stat24 rfl rfl (by rfl) (M401 H (show inr (x14_2) from j14_0) (show 0 ≤ (x14_2) ∧ (x14_2) ≤ 35 from q_1791 j14_2) (fun z15 σ F11 A12 H hS13 hA14 pz15_0 pz15_1 pz15_2 => ⟨rfl, ?_⟩))
          refine Ew_of (pcₚ := 55) (fun _ => x_aload_n rfl l14_0) ?_
          refine w_gT H (o := 6) (t := 62) rfl (H.perm 6 rfl) rfl rfl rfl rfl rfl rfl ?_
          refine Ew_of (pcₚ := 59) (fun _ => x_iload_n rfl l14_1) ?_
          refine w_lI H (o := 62) (n := 8001) rfl (H.perm 62 rfl) rfl rfl (H.fix 62 rfl rfl) (show 0 ≤ x2_1 ∧ x2_1 < ((8001 : Nat) : Int) from q_1792 b2 j2_1 r1) (by decide) (fun v16 ev16 qv16 => ?_)
          have qv16 : (0 : Int) ≤ v16 ∧ v16 ≤ 16384 := qv16
          have ev16 : (A 62) (x2_1) = v16 := (congrFun ((funext (hA14 62 rfl)).trans ((funext (hA6 62 rfl)).trans ((funext (hA_14 62 rfl)).trans (funext (hA_2 62 rfl))))) (x2_1)).symm.trans ev16
          refine Ew_of (pcₚ := 61) (fun _ => x_iload_n rfl l14_3) ?_
          refine w_isub rfl ?_
          refine w_inv H (o := 6) rfl rfl rfl (H.perm 6 rfl) rfl rfl (by rfl) (M403 H (show inr (0) from q_20) (show inr (x2_1) from j2_0) (show inr (x14_2) from j14_0) (show inr (z15) from pz15_0) (show inr ((v16 - x14_3)) from q_1795 j14_4 qv16) (show 0 ≤ (0) ∧ (0) ≤ 2 ∧ 0 ≤ (x2_1) ∧ (x2_1) ≤ 8000 from q_1794 b2 j2_1 r1) (show 0 ≤ (x14_2) ∧ (x14_2) ≤ 63 ∧ 0 ≤ (z15) ∧ (z15) ≤ 31 from q_1793 j14_2 pz15_1) (fun σ F17 A18 H hS19 hA20 => ⟨rfl, ?_⟩))
          refine Ew_of (pcₚ := 66) (fun _ => x_iconst rfl) ?_
          refine Ew_of (pcₚ := 67) (fun _ => x_istore_n rfl) ?_
          refine Ew_of (pcₚ := 68) (fun _ => x_iconst rfl) ?_
          refine Ew_of (pcₚ := 69) (fun _ => x_istore_n rfl) ?_
          have : mBs 0 = 3 := by decide
          suffices hl69 : ∀ (m : Nat), ∀ (ls : rO) (σ : rS) (F_69 : hF) (A_69 : hA) (x69_2 : Int) (x69_3 : Int), rlook ls 0 = some (.ref (D 6)) → rlook ls 1 = some (I (x2_1)) → rlook ls 2 = some (I (x69_2)) → rlook ls 3 = some (I (x69_3)) → HS σ0 σ D N F_69 A_69 → SF [] F17 F_69 → SA [] A18 A_69 → (inr (x69_2)) → (inr (x69_3)) → (0 ≤ (x69_2) ∧ (x69_2) ≤ 49) → ((x69_3) = mBs ((x69_2))) → (0 ≤ (x69_3) ∧ (x69_3) ≤ 16384) → (60 - (x69_2)).toNat = m → Ew 404 (d + 1) 69 ls [] σ c s Q from
            hl69 _ _ σ _ _ (0) (3) (rk_o (rk_o (l14_0) rfl rfl) rfl rfl) (rk_o (rk_o (l14_1) rfl rfl) rfl rfl) (rk_o (rk_s) rfl rfl) (rk_s) H (SF_refl) (SA_refl)   (show inr (0) from q_20) (show inr (3) from q_66) (show 0 ≤ (0) ∧ (0) ≤ 49 from q_1797) (show (3) = mBs ((0)) by omega) (show 0 ≤ (3) ∧ (3) ≤ 16384 from q_1796) rfl
          as_aux_lemma =>
          intro m
          induction m using Nat.strongRecOn with
          | _ m ih69 =>
            intro ls σ F_69 A_69 x69_2 x69_3 l69_0 l69_1 l69_2 l69_3 H hS_69 hA_69   j69_0 j69_1 j69_2 j69_3 j69_4 hm69
            have hms := mBs_s (s := (x69_2)) (by omega) (by omega)
            refine Ew_of (pcₚ := 70) (fun _ => x_iload_n rfl l69_3) ?_
            refine Ew_of (pcₚ := 71) (fun _ => x_iconst rfl) ?_
            refine Ew_of (pcₚ := 72) (fun _ => x_iload_n rfl l69_2) ?_
            refine w_stat24 rfl rfl (by rfl) (M402 H (show inr (x69_2) from j69_0) (show 0 ≤ (x69_2) ∧ (x69_2) ≤ 52 from q_1798 j69_2) (fun z26 σ F22 A23 H hS24 hA25 pz26_0 pz26_1 pz26_2 => ⟨rfl, ?_⟩))
            have hz : p2 ((z26)) = p2 (mB ((x69_2))) := by rw [pz26_2]
            have : p2 ((z26)) ≤ p2 16 := p2_mono (by omega)
            have : p2 16 = 65536 := by decide
            have := p2_pos ((z26))
            refine w_ishl1 rfl (show 0 ≤ z26 ∧ z26 ≤ 31 from q_1467 pz26_1) ?_
            refine w_iadd rfl ?_
            refine Ew_of (pcₚ := 78) (fun _ => x_aload_n rfl l69_0) ?_
            refine w_gT H (o := 6) (t := 63) rfl (H.perm 6 rfl) rfl rfl rfl rfl rfl rfl ?_
            refine Ew_of (pcₚ := 82) (fun _ => x_iload_n rfl l69_1) ?_
            refine w_lI H (o := 63) (n := 8001) rfl (H.perm 63 rfl) rfl rfl (H.fix 63 rfl rfl) (show 0 ≤ x2_1 ∧ x2_1 < ((8001 : Nat) : Int) from q_1792 b2 j2_1 r1) (by decide) (fun v28 ev28 qv28 => ?_)
            have qv28 : (0 : Int) ≤ v28 ∧ v28 ≤ 16384 := qv28
            have ev28 : (A 63) (x2_1) = v28 := (congrFun ((funext (hA25 63 rfl)).trans ((funext (hA_69 63 rfl)).trans ((funext (hA20 63 rfl)).trans ((funext (hA14 63 rfl)).trans ((funext (hA6 63 rfl)).trans ((funext (hA_14 63 rfl)).trans (funext (hA_2 63 rfl)))))))) (x2_1)).symm.trans ev28
            refine w_icmpgt (t := 101) rfl rfl (show inr ((x69_3 + p2 (z26))) by omega) (show inr (v28) from q_243 qv28) (fun b29 => ?_) (fun b29 => ?_)
            · refine Ew_of (pcₚ := 102) (fun _ => x_aload_n rfl l69_0) ?_
              refine Ew_of (pcₚ := 103) (fun _ => x_iconst rfl) ?_
              refine Ew_of (pcₚ := 104) (fun _ => x_iload_n rfl l69_1) ?_
              refine Ew_of (pcₚ := 105) (fun _ => x_iload_n rfl l69_2) ?_
              refine Ew_of (pcₚ := 106) (fun _ => x_iload_n rfl l69_2) ?_
              refine w_stat24 rfl rfl (by rfl) (M402 H (show inr (x69_2) from j69_0) (show 0 ≤ (x69_2) ∧ (x69_2) ≤ 52 from q_1798 j69_2) (fun z34 σ F30 A31 H hS32 hA33 pz34_0 pz34_1 pz34_2 => ⟨rfl, ?_⟩))
              refine Ew_of (pcₚ := 110) (fun _ => x_aload_n rfl l69_0) ?_
              refine w_gT H (o := 6) (t := 63) rfl (H.perm 6 rfl) rfl rfl rfl rfl rfl rfl ?_
              refine Ew_of (pcₚ := 114) (fun _ => x_iload_n rfl l69_1) ?_
              refine w_lI H (o := 63) (n := 8001) rfl (H.perm 63 rfl) rfl rfl (H.fix 63 rfl rfl) (show 0 ≤ x2_1 ∧ x2_1 < ((8001 : Nat) : Int) from q_1792 b2 j2_1 r1) (by decide) (fun v35 ev35 qv35 => ?_)
              have qv35 : (0 : Int) ≤ v35 ∧ v35 ≤ 16384 := qv35
              have ev35 : (A 63) (x2_1) = v35 := (congrFun ((funext (hA33 63 rfl)).trans ((funext (hA25 63 rfl)).trans ((funext (hA_69 63 rfl)).trans ((funext (hA20 63 rfl)).trans ((funext (hA14 63 rfl)).trans ((funext (hA6 63 rfl)).trans ((funext (hA_14 63 rfl)).trans (funext (hA_2 63 rfl))))))))) (x2_1)).symm.trans ev35
              refine Ew_of (pcₚ := 116) (fun _ => x_iload_n rfl l69_3) ?_
              refine w_isub rfl ?_
              refine w_inv H (o := 6) rfl rfl rfl (H.perm 6 rfl) rfl rfl (by rfl) (M403 H (show inr (2) from q_55) (show inr (x2_1) from j2_0) (show inr (x69_2) from j69_0) (show inr (z34) from pz34_0) (show inr ((v35 - x69_3)) from q_1795 j69_4 qv35) (show 0 ≤ (2) ∧ (2) ≤ 2 ∧ 0 ≤ (x2_1) ∧ (x2_1) ≤ 8000 from q_1800 b2 j2_1 r1) (show 0 ≤ (x69_2) ∧ (x69_2) ≤ 63 ∧ 0 ≤ (z34) ∧ (z34) ≤ 31 from q_1799 j69_2 pz34_1) (fun σ F36 A37 H hS38 hA39 => ⟨rfl, ?_⟩))
              refine Ew_of (pcₚ := 121) (fun _ => x_aload_n rfl l69_0) ?_
              refine Ew_of (pcₚ := 122) (fun _ => x_aload_n rfl l69_0) ?_
              refine w_gT H (o := 6) (t := 64) rfl (H.perm 6 rfl) rfl rfl rfl rfl rfl rfl ?_
              refine Ew_of (pcₚ := 126) (fun _ => x_iload_n rfl l69_1) ?_
              refine w_lI H (o := 64) (n := 8001) rfl (H.perm 64 rfl) rfl rfl (H.fix 64 rfl rfl) (show 0 ≤ x2_1 ∧ x2_1 < ((8001 : Nat) : Int) from q_1792 b2 j2_1 r1) (by decide) (fun v41 ev41 qv41 => ?_)
              have qv41 : (0 : Int) ≤ v41 ∧ v41 ≤ 16384 := qv41
              have ev41 : (A 64) (x2_1) = v41 := (congrFun ((funext (hA39 64 rfl)).trans ((funext (hA33 64 rfl)).trans ((funext (hA25 64 rfl)).trans ((funext (hA_69 64 rfl)).trans ((funext (hA20 64 rfl)).trans ((funext (hA14 64 rfl)).trans ((funext (hA6 64 rfl)).trans ((funext (hA_14 64 rfl)).trans (funext (hA_2 64 rfl)))))))))) (x2_1)).symm.trans ev41
              refine Ew_of (pcₚ := 128) (fun _ => x_aload_n rfl l69_0) ?_
              refine w_gT H (o := 6) (t := 62) rfl (H.perm 6 rfl) rfl rfl rfl rfl rfl rfl ?_
              refine Ew_of (pcₚ := 132) (fun _ => x_iload_n rfl l69_1) ?_
              refine w_lI H (o := 62) (n := 8001) rfl (H.perm 62 rfl) rfl rfl (H.fix 62 rfl rfl) (show 0 ≤ x2_1 ∧ x2_1 < ((8001 : Nat) : Int) from q_1792 b2 j2_1 r1) (by decide) (fun v42 ev42 qv42 => ?_)
              have qv42 : (0 : Int) ≤ v42 ∧ v42 ≤ 16384 := qv42
              have ev42 : (A 62) (x2_1) = v42 := (congrFun ((funext (hA39 62 rfl)).trans ((funext (hA33 62 rfl)).trans ((funext (hA25 62 rfl)).trans ((funext (hA_69 62 rfl)).trans ((funext (hA20 62 rfl)).trans ((funext (hA14 62 rfl)).trans ((funext (hA6 62 rfl)).trans ((funext (hA_14 62 rfl)).trans (funext (hA_2 62 rfl)))))))))) (x2_1)).symm.trans ev42
              have hc141 : ∀ (tc141_0 : Int), ∀ (ls : rO) (σ : rS) (F_c141 : hF) (A_c141 : hA) , rlook ls 0 = some (.ref (D 6)) → rlook ls 1 = some (I (x2_1)) → HS σ0 σ D N F_c141 A_c141 → SF [] F36 F_c141 → SA [] A37 A_c141 → (inr (tc141_0)) → (((v42) ≠ (0) ∧ (tc141_0) = (0)) ∨ ((v42) = (0) ∧ (tc141_0) = (1))) → Ew 404 (d + 1) 141 ls [I (tc141_0), I (v41), .ref (D 6)] σ c s Q := by
               as_aux_lemma =>
                intro tc141_0 ls σ F_c141 A_c141  lc141_0 lc141_1 H hS_c141 hA_c141   jc141_0 jc141_1
                refine w_inv H (o := 6) rfl rfl rfl (H.perm 6 rfl) rfl rfl (by rfl) (M405 H (show inr (v41) from q_243 qv41) (show inr (tc141_0) from jc141_0) (show 0 ≤ (v41) ∧ (v41) ≤ 16384 ∧ 0 ≤ (tc141_0) ∧ (tc141_0) ≤ 1 from q_1801 jc141_1 qv41) (fun z47 σ F43 A44 H hS45 hA46 pz47_0 pz47_1 => ⟨rfl, ?_⟩))
                refine Ew_of (pcₚ := 146) (fun _ => x_istore rfl) ?_
                refine Ew_of (pcₚ := 148) (fun _ => x_iload rfl rk_s) ?_
                refine w_stat24 rfl rfl (by rfl) (M400 H (show inr (z47) from pz47_0) (show 1 ≤ (z47) from q_1802 pz47_1) (fun z52 σ F48 A49 H hS50 hA51 pz52_0 pz52_1 pz52_2 => ⟨rfl, ?_⟩))
                refine Ew_of (pcₚ := 152) (fun _ => x_istore_n rfl) ?_
                refine Ew_of (pcₚ := 153) (fun _ => x_aload_n rfl (rk_o (rk_o (lc141_0) rfl rfl) rfl rfl)) ?_
                refine Ew_of (pcₚ := 154) (fun _ => x_iconst rfl) ?_
                refine Ew_of (pcₚ := 155) (fun _ => x_iload_n rfl (rk_o (rk_o (lc141_1) rfl rfl) rfl rfl)) ?_
                refine Ew_of (pcₚ := 156) (fun _ => x_iload_n rfl rk_s) ?_
                refine Ew_of (pcₚ := 157) (fun _ => x_iload_n rfl rk_s) ?_
                refine Ew_of (pcₚ := 159) (fun _ => x_iload rfl (rk_o (rk_s) rfl rfl)) ?_
                refine Ew_of (pcₚ := 160) (fun _ => x_iconst rfl) ?_
                refine Ew_of (pcₚ := 161) (fun _ => x_iload_n rfl rk_s) ?_
                refine w_ishl1 rfl (show 0 ≤ z52 ∧ z52 ≤ 31 from q_1803 pz52_1) ?_
                refine w_isub rfl ?_
                refine w_inv H (o := 6) rfl rfl rfl (H.perm 6 rfl) rfl rfl (by rfl) (M403 H (show inr (1) from q_23) (show inr (x2_1) from j2_0) (show inr (z52) from pz52_0) (show inr (z52) from pz52_0) (show inr ((z47 - p2 (z52))) from q_1806 pz47_0 pz52_2) (show 0 ≤ (1) ∧ (1) ≤ 2 ∧ 0 ≤ (x2_1) ∧ (x2_1) ≤ 8000 from q_1805 b2 j2_1 r1) (show 0 ≤ (z52) ∧ (z52) ≤ 63 ∧ 0 ≤ (z52) ∧ (z52) ≤ 31 from q_1804 pz52_1) (fun σ F54 A55 H hS56 hA57 => ⟨rfl, ?_⟩))
                refine Ew_of (pcₚ := 169) (fun _ => x_iinc (len := 3) rfl (rk_o (rk_o (lc141_1) rfl rfl) rfl rfl)) ?_
                refine Ew_of (pcₚ := 2) (fun _ => x_goto rfl rfl) ?_
                exact ih2 _ (msE hm2 q_31 (q_34 b2)) _ σ _ _ ((x2_1 + 1)) (rk_o (rk_o (rk_o (lc141_0) rfl rfl) rfl rfl) rfl rfl) (rk_s) H (SF_trans (SF_trans (SF_trans (SF_trans (SF_trans (SF_trans (SF_trans (SF_trans (SF_trans (SF_trans (SF_trans (SF_trans (hS_2) hS_14 (any_sub rfl)) hS5 (any_sub rfl)) hS13 (any_sub rfl)) hS19 (any_sub rfl)) hS_69 (any_sub rfl)) hS24 (any_sub rfl)) hS32 (any_sub rfl)) hS38 (any_sub rfl)) hS_c141 (any_sub rfl)) hS45 (any_sub rfl)) hS50 (any_sub rfl)) hS56 (any_sub rfl)) (SA_trans (SA_trans (SA_trans (SA_trans (SA_trans (SA_trans (SA_trans (SA_trans (SA_trans (SA_trans (SA_trans (SA_trans (hA_2) hA_14 (any_subA rfl)) hA6 (any_subA rfl)) hA14 (any_subA rfl)) hA20 (any_subA rfl)) hA_69 (any_subA rfl)) hA25 (any_subA rfl)) hA33 (any_subA rfl)) hA39 (any_subA rfl)) hA_c141 (any_subA rfl)) hA46 (any_subA rfl)) hA51 (any_subA rfl)) hA57 (any_subA rfl))   (show inr ((x2_1 + 1)) from q_1807 b2 j2_1 r1) (show (0) ≤ ((x2_1 + 1)) from q_29 j2_1) (show ((x2_1 + 1)) ≤ (0) ∨ ((x2_1 + 1)) ≤ ((F 6 28)) from q_33 b2) rfl
              refine w_ifne (t := 140) rfl rfl (show inr (v42) from q_243 qv42) (fun b59 => ?_) (fun b59 => ?_)
              · refine Ew_of (pcₚ := 141) (fun _ => x_iconst rfl) ?_
                exact hc141 (0) _ σ _ _  (l69_0) (l69_1) H (SF_refl) (SA_refl)   (show inr (0) from q_20) (show ((v42) ≠ (0) ∧ (0) = (0)) ∨ ((v42) = (0) ∧ (0) = (1)) from q_1808 b59)
              · refine Ew_of (pcₚ := 137) (fun _ => x_iconst rfl) ?_
                refine Ew_of (pcₚ := 141) (fun _ => x_goto rfl rfl) ?_
                exact hc141 (1) _ σ _ _  (l69_0) (l69_1) H (SF_refl) (SA_refl)   (show inr (1) from q_23) (show ((v42) ≠ (0) ∧ (1) = (0)) ∨ ((v42) = (0) ∧ (1) = (1)) from q_1809 b59)
            · refine Ew_of (pcₚ := 87) (fun _ => x_iload_n rfl l69_3) ?_
              refine Ew_of (pcₚ := 88) (fun _ => x_iconst rfl) ?_
              refine Ew_of (pcₚ := 89) (fun _ => x_iload_n rfl l69_2) ?_
              refine w_stat24 rfl rfl (by rfl) (M402 H (show inr (x69_2) from j69_0) (show 0 ≤ (x69_2) ∧ (x69_2) ≤ 52 from q_1798 j69_2) (fun z64 σ F60 A61 H hS62 hA63 pz64_0 pz64_1 pz64_2 => ⟨rfl, ?_⟩))
              have hz : p2 ((z64)) = p2 (mB ((x69_2))) := by rw [pz64_2]
              have : p2 ((z64)) ≤ p2 16 := p2_mono (by omega)
              have : p2 16 = 65536 := by decide
              have := p2_pos ((z64))
              refine w_ishl1 rfl (show 0 ≤ z64 ∧ z64 ≤ 31 from q_1467 pz64_1) ?_
              refine w_iadd rfl ?_
              refine Ew_of (pcₚ := 95) (fun _ => x_istore_n rfl) ?_
              have : (x69_2) + 1 ≤ 49 := mBs_bd (by omega) (by omega) (by omega)
              refine Ew_of (pcₚ := 98) (fun _ => x_iinc (len := 3) rfl (rk_o (l69_2) rfl rfl)) ?_
              refine Ew_of (pcₚ := 69) (fun _ => x_goto rfl rfl) ?_
              exact ih69 _ (msE hm69 q_1811 (q_1812 j69_2)) _ σ _ _ ((x69_2 + 1)) ((x69_3 + p2 (z64))) (rk_o (rk_o (l69_0) rfl rfl) rfl rfl) (rk_o (rk_o (l69_1) rfl rfl) rfl rfl) (rk_s) (rk_o (rk_s) rfl rfl) H (SF_trans (SF_trans (hS_69) hS24 (any_sub rfl)) hS62 (any_sub rfl)) (SA_trans (SA_trans (hA_69) hA25 (any_subA rfl)) hA63 (any_subA rfl))   (show inr ((x69_2 + 1)) from q_1810 j69_2) (show inr ((x69_3 + p2 (z64))) by omega) (show 0 ≤ ((x69_2 + 1)) ∧ ((x69_2 + 1)) ≤ 49 by omega) (show ((x69_3 + p2 (z64))) = mBs (((x69_2 + 1))) by omega) (show 0 ≤ ((x69_3 + p2 (z64))) ∧ ((x69_3 + p2 (z64))) ≤ 16384 by omega) rfl
        · refine Ew_of (pcₚ := 32) (fun _ => x_iload_n rfl l14_3) ?_
          refine Ew_of (pcₚ := 33) (fun _ => x_iconst rfl) ?_
          refine Ew_of (pcₚ := 34) (fun _ => x_iload_n rfl l14_2) ?_
          refine w_stat24 rfl rfl (by rfl) (M401 H (show inr (x14_2) from j14_0) (show 0 ≤ (x14_2) ∧ (x14_2) ≤ 35 from q_1791 j14_2) (fun z70 σ F66 A67 H hS68 hA69 pz70_0 pz70_1 pz70_2 => ⟨rfl, ?_⟩))
          have hz : p2 ((z70)) = p2 (lB ((x14_2))) := by rw [pz70_2]
          have : p2 ((z70)) ≤ p2 16 := p2_mono (by omega)
          have : p2 16 = 65536 := by decide
          have := p2_pos ((z70))
          refine w_ishl1 rfl (show 0 ≤ z70 ∧ z70 ≤ 31 from q_1467 pz70_1) ?_
          refine w_iadd rfl ?_
          refine Ew_of (pcₚ := 40) (fun _ => x_istore_n rfl) ?_
          have : (x14_2) + 1 ≤ 33 := lBs_bd (by omega) (by omega) (by omega)
          refine Ew_of (pcₚ := 43) (fun _ => x_iinc (len := 3) rfl (rk_o (l14_2) rfl rfl)) ?_
          refine Ew_of (pcₚ := 14) (fun _ => x_goto rfl rfl) ?_
          exact ih14 _ (msE hm14 q_1814 (q_1815 j14_2)) _ σ _ _ ((x14_2 + 1)) ((x14_3 + p2 (z70))) (rk_o (rk_o (l14_0) rfl rfl) rfl rfl) (rk_o (rk_o (l14_1) rfl rfl) rfl rfl) (rk_s) (rk_o (rk_s) rfl rfl) H (SF_trans (SF_trans (hS_14) hS5 (any_sub rfl)) hS68 (any_sub rfl)) (SA_trans (SA_trans (hA_14) hA6 (any_subA rfl)) hA69 (any_subA rfl))   (show inr ((x14_2 + 1)) from q_1813 j14_2) (show inr ((x14_3 + p2 (z70))) by omega) (show 0 ≤ ((x14_2 + 1)) ∧ ((x14_2 + 1)) ≤ 33 by omega) (show ((x14_3 + p2 (z70))) = lBs (((x14_2 + 1))) by omega) (show 0 ≤ ((x14_3 + p2 (z70))) ∧ ((x14_3 + p2 (z70))) ≤ 16384 by omega) rfl
/-- Writer.mass -/
theorem M406 {σ0 σ : rS} {D N : Nat → Nat} {F : hF} {A : hA} {d c s : Nat} {Q : wQ} (H : HS σ0 σ D N F A) {a1 : Int} (h0 : inr (a1)) (h1 : -1 ≤ (a1)) (k : ∀ (z : Int) σ Fₚ Aₚ, HS σ0 σ D N Fₚ Aₚ → SF [] F Fₚ → SA [] A Aₚ → (inr (z)) → ((z) = mass ((a1))) → Q (some (I z)) σ c s) : Ew 406 (d + 0) 0 (rargs 0 [I a1]) [] σ c s Q := by
  have := mass_eq ((a1))
  refine Ew_of (pcₚ := 1) (fun _ => x_iload_n rfl rfl) ?_
  refine w_ifge (t := 8) rfl rfl (show inr (a1) from h0) (fun b1 => ?_) (fun b1 => ?_)
  · refine Ew_of (pcₚ := 9) (fun _ => x_iload_n rfl rfl) ?_
    exact w_ireturn rfl (k (a1) σ _ _ H (SF_refl) (SA_refl) (show inr (a1) from h0) (show (a1) = mass (a1) by omega))
  · refine Ew_of (pcₚ := 5) (fun _ => x_iconst rfl) ?_
    refine Ew_of (pcₚ := 9) (fun _ => x_goto rfl rfl) ?_
    exact w_ireturn rfl (k (1) σ _ _ H (SF_refl) (SA_refl) (show inr (1) from q_23) (show (1) = mass (a1) by omega))
